section WWsw
variable {p : Program} {l : Launch} {e : Env} {R : Room} {s : State} {m : MethodId} {args : Array Value} {below : List Frame} {meth : Method} {c : Code} {cells slots : Nat} {Q : State → Prop} {Γ : Gm} {A : Nat → Prop} {nL dd : Nat} {cc : ByteArray} {own : String} {ws : va_W} {pc : Nat} {lv : List (Option Value)} {st : List Value}
theorem ww_lk2 (C : Cx p R s m args meth c cc own nL Γ A dd) {x k1 k2 : Int32} {dflt a1 o1 a2 o2 : Int} {len : Nat} (t0 t1 t2 : Nat) (hd : decode cc pc = .ok (.lookupswitch dflt #[(a1, o1), (a2, o2)], len)) (hp : ((#[(a1, o1), (a2, o2)] : Array (Int × Int)).toList.zip ((#[(a1, o1), (a2, o2)] : Array (Int × Int)).toList.drop 1)).all (fun (a, next) => a.1 < next.1) = true) (e1 : k1.toInt = a1) (e2 : k2.toInt = a2) (h0 : (pc : Int) + dflt = (t0 : Int)) (h1 : (pc : Int) + o1 = (t1 : Int)) (h2 : (pc : Int) + o2 = (t2 : Int)) (K1 : x = k1 → WW p l e R s m args below meth c cells slots Q Γ A nL ws t1 lv st) (K2 : ¬ x = k1 → x = k2 → WW p l e R s m args below meth c cells slots Q Γ A nL ws t2 lv st) (K0 : ¬ x = k1 → ¬ x = k2 → WW p l e R s m args below meth c cells slots Q Γ A nL ws t0 lv st) : WW p l e R s m args below meth c cells slots Q Γ A nL ws pc lv (.int x :: st) := by
  intro H locs ls hP hD hS hl
  by_cases q1 : x = k1
  · refine lv_lookup (off := o1) C.1 C.2.1 hd hp (by show Op.lookupswitch.offset [(a1, o1), (a2, o2)] _ _ = _; rw [Op.lookupswitch.offset_cons, if_pos (by rw [q1, e1])]) h1 (K1 q1 H locs ls hP hD hS hl)
  by_cases q2 : x = k2
  · refine lv_lookup (off := o2) C.1 C.2.1 hd hp (by show Op.lookupswitch.offset [(a1, o1), (a2, o2)] _ _ = _; rw [lv_osw q1 e1]; rw [Op.lookupswitch.offset_cons, if_pos (by rw [q2, e2])]) h2 (K2 q1 q2 H locs ls hP hD hS hl)
  refine lv_lookup (off := dflt) C.1 C.2.1 hd hp (by show Op.lookupswitch.offset [(a1, o1), (a2, o2)] _ _ = _; rw [lv_osw q1 e1]; rw [lv_osw q2 e2]; rfl) h0 (K0 q1 q2 H locs ls hP hD hS hl)
theorem ww_lk4 (C : Cx p R s m args meth c cc own nL Γ A dd) {x k1 k2 k3 k4 : Int32} {dflt a1 o1 a2 o2 a3 o3 a4 o4 : Int} {len : Nat} (t0 t1 t2 t3 t4 : Nat) (hd : decode cc pc = .ok (.lookupswitch dflt #[(a1, o1), (a2, o2), (a3, o3), (a4, o4)], len)) (hp : ((#[(a1, o1), (a2, o2), (a3, o3), (a4, o4)] : Array (Int × Int)).toList.zip ((#[(a1, o1), (a2, o2), (a3, o3), (a4, o4)] : Array (Int × Int)).toList.drop 1)).all (fun (a, next) => a.1 < next.1) = true) (e1 : k1.toInt = a1) (e2 : k2.toInt = a2) (e3 : k3.toInt = a3) (e4 : k4.toInt = a4) (h0 : (pc : Int) + dflt = (t0 : Int)) (h1 : (pc : Int) + o1 = (t1 : Int)) (h2 : (pc : Int) + o2 = (t2 : Int)) (h3 : (pc : Int) + o3 = (t3 : Int)) (h4 : (pc : Int) + o4 = (t4 : Int)) (K1 : x = k1 → WW p l e R s m args below meth c cells slots Q Γ A nL ws t1 lv st) (K2 : ¬ x = k1 → x = k2 → WW p l e R s m args below meth c cells slots Q Γ A nL ws t2 lv st) (K3 : ¬ x = k1 → ¬ x = k2 → x = k3 → WW p l e R s m args below meth c cells slots Q Γ A nL ws t3 lv st) (K4 : ¬ x = k1 → ¬ x = k2 → ¬ x = k3 → x = k4 → WW p l e R s m args below meth c cells slots Q Γ A nL ws t4 lv st) (K0 : ¬ x = k1 → ¬ x = k2 → ¬ x = k3 → ¬ x = k4 → WW p l e R s m args below meth c cells slots Q Γ A nL ws t0 lv st) : WW p l e R s m args below meth c cells slots Q Γ A nL ws pc lv (.int x :: st) := by
  intro H locs ls hP hD hS hl
  by_cases q1 : x = k1
  · refine lv_lookup (off := o1) C.1 C.2.1 hd hp (by show Op.lookupswitch.offset [(a1, o1), (a2, o2), (a3, o3), (a4, o4)] _ _ = _; rw [Op.lookupswitch.offset_cons, if_pos (by rw [q1, e1])]) h1 (K1 q1 H locs ls hP hD hS hl)
  by_cases q2 : x = k2
  · refine lv_lookup (off := o2) C.1 C.2.1 hd hp (by show Op.lookupswitch.offset [(a1, o1), (a2, o2), (a3, o3), (a4, o4)] _ _ = _; rw [lv_osw q1 e1]; rw [Op.lookupswitch.offset_cons, if_pos (by rw [q2, e2])]) h2 (K2 q1 q2 H locs ls hP hD hS hl)
  by_cases q3 : x = k3
  · refine lv_lookup (off := o3) C.1 C.2.1 hd hp (by show Op.lookupswitch.offset [(a1, o1), (a2, o2), (a3, o3), (a4, o4)] _ _ = _; rw [lv_osw q1 e1]; rw [lv_osw q2 e2]; rw [Op.lookupswitch.offset_cons, if_pos (by rw [q3, e3])]) h3 (K3 q1 q2 q3 H locs ls hP hD hS hl)
  by_cases q4 : x = k4
  · refine lv_lookup (off := o4) C.1 C.2.1 hd hp (by show Op.lookupswitch.offset [(a1, o1), (a2, o2), (a3, o3), (a4, o4)] _ _ = _; rw [lv_osw q1 e1]; rw [lv_osw q2 e2]; rw [lv_osw q3 e3]; rw [Op.lookupswitch.offset_cons, if_pos (by rw [q4, e4])]) h4 (K4 q1 q2 q3 q4 H locs ls hP hD hS hl)
  refine lv_lookup (off := dflt) C.1 C.2.1 hd hp (by show Op.lookupswitch.offset [(a1, o1), (a2, o2), (a3, o3), (a4, o4)] _ _ = _; rw [lv_osw q1 e1]; rw [lv_osw q2 e2]; rw [lv_osw q3 e3]; rw [lv_osw q4 e4]; rfl) h0 (K0 q1 q2 q3 q4 H locs ls hP hD hS hl)
theorem ww_ts4 (C : Cx p R s m args meth c cc own nL Γ A dd) {x : Int32} {dflt o0 o1 o2 o3 : Int} {len : Nat} (td t0 t1 t2 t3 : Nat) (hd : decode cc pc = .ok (.tableswitch dflt 0 3 #[o0, o1, o2, o3], len)) (hdf : (pc : Int) + dflt = (td : Int)) (h0 : (pc : Int) + o0 = (t0 : Int)) (h1 : (pc : Int) + o1 = (t1 : Int)) (h2 : (pc : Int) + o2 = (t2 : Int)) (h3 : (pc : Int) + o3 = (t3 : Int)) (K0 : x = nI 0 → WW p l e R s m args below meth c cells slots Q Γ A nL ws t0 lv st) (K1 : x = nI 1 → WW p l e R s m args below meth c cells slots Q Γ A nL ws t1 lv st) (K2 : x = nI 2 → WW p l e R s m args below meth c cells slots Q Γ A nL ws t2 lv st) (K3 : x = nI 3 → WW p l e R s m args below meth c cells slots Q Γ A nL ws t3 lv st) (Kd : (x.toInt < 0 ∨ 3 < x.toInt) → WW p l e R s m args below meth c cells slots Q Γ A nL ws td lv st) : WW p l e R s m args below meth c cells slots Q Γ A nL ws pc lv (.int x :: st) := by
  intro H locs ls hP hD hS hl
  by_cases hq : x.toInt < 0 ∨ 3 < x.toInt
  · exact lv_tableOut C.1 C.2.1 hd hq hdf (Kd hq H locs ls hP hD hS hl)
  have g1 : ¬ x.toInt < 0 := fun z => hq (Or.inl z)
  have g2 : ¬ 3 < x.toInt := fun z => hq (Or.inr z)
  have key : ∀ j : Nat, j < 4 → x.toInt = (j : Int) → x = nI j := fun j hj e => Int32.toInt_inj.mp (by rw [e, nI_toInt (by omega)])
  have hc : x.toInt = 0 ∨ x.toInt = 1 ∨ x.toInt = 2 ∨ x.toInt = 3 := by omega
  rcases hc with z | z | z | z
  · exact lv_tableIn (off := o0) C.1 C.2.1 hd g1 g2 (by rw [z]; rfl) h0 (K0 (key 0 (by omega) z) H locs ls hP hD hS hl)
  · exact lv_tableIn (off := o1) C.1 C.2.1 hd g1 g2 (by rw [z]; rfl) h1 (K1 (key 1 (by omega) z) H locs ls hP hD hS hl)
  · exact lv_tableIn (off := o2) C.1 C.2.1 hd g1 g2 (by rw [z]; rfl) h2 (K2 (key 2 (by omega) z) H locs ls hP hD hS hl)
  · exact lv_tableIn (off := o3) C.1 C.2.1 hd g1 g2 (by rw [z]; rfl) h3 (K3 (key 3 (by omega) z) H locs ls hP hD hS hl)
theorem ww_ts5 (C : Cx p R s m args meth c cc own nL Γ A dd) {x : Int32} {dflt o0 o1 o2 o3 o4 : Int} {len : Nat} (td t0 t1 t2 t3 t4 : Nat) (hd : decode cc pc = .ok (.tableswitch dflt 0 4 #[o0, o1, o2, o3, o4], len)) (hdf : (pc : Int) + dflt = (td : Int)) (h0 : (pc : Int) + o0 = (t0 : Int)) (h1 : (pc : Int) + o1 = (t1 : Int)) (h2 : (pc : Int) + o2 = (t2 : Int)) (h3 : (pc : Int) + o3 = (t3 : Int)) (h4 : (pc : Int) + o4 = (t4 : Int)) (K0 : x = nI 0 → WW p l e R s m args below meth c cells slots Q Γ A nL ws t0 lv st) (K1 : x = nI 1 → WW p l e R s m args below meth c cells slots Q Γ A nL ws t1 lv st) (K2 : x = nI 2 → WW p l e R s m args below meth c cells slots Q Γ A nL ws t2 lv st) (K3 : x = nI 3 → WW p l e R s m args below meth c cells slots Q Γ A nL ws t3 lv st) (K4 : x = nI 4 → WW p l e R s m args below meth c cells slots Q Γ A nL ws t4 lv st) (Kd : (x.toInt < 0 ∨ 4 < x.toInt) → WW p l e R s m args below meth c cells slots Q Γ A nL ws td lv st) : WW p l e R s m args below meth c cells slots Q Γ A nL ws pc lv (.int x :: st) := by
  intro H locs ls hP hD hS hl
  by_cases hq : x.toInt < 0 ∨ 4 < x.toInt
  · exact lv_tableOut C.1 C.2.1 hd hq hdf (Kd hq H locs ls hP hD hS hl)
  have g1 : ¬ x.toInt < 0 := fun z => hq (Or.inl z)
  have g2 : ¬ 4 < x.toInt := fun z => hq (Or.inr z)
  have key : ∀ j : Nat, j < 5 → x.toInt = (j : Int) → x = nI j := fun j hj e => Int32.toInt_inj.mp (by rw [e, nI_toInt (by omega)])
  have hc : x.toInt = 0 ∨ x.toInt = 1 ∨ x.toInt = 2 ∨ x.toInt = 3 ∨ x.toInt = 4 := by omega
  rcases hc with z | z | z | z | z
  · exact lv_tableIn (off := o0) C.1 C.2.1 hd g1 g2 (by rw [z]; rfl) h0 (K0 (key 0 (by omega) z) H locs ls hP hD hS hl)
  · exact lv_tableIn (off := o1) C.1 C.2.1 hd g1 g2 (by rw [z]; rfl) h1 (K1 (key 1 (by omega) z) H locs ls hP hD hS hl)
  · exact lv_tableIn (off := o2) C.1 C.2.1 hd g1 g2 (by rw [z]; rfl) h2 (K2 (key 2 (by omega) z) H locs ls hP hD hS hl)
  · exact lv_tableIn (off := o3) C.1 C.2.1 hd g1 g2 (by rw [z]; rfl) h3 (K3 (key 3 (by omega) z) H locs ls hP hD hS hl)
  · exact lv_tableIn (off := o4) C.1 C.2.1 hd g1 g2 (by rw [z]; rfl) h4 (K4 (key 4 (by omega) z) H locs ls hP hD hS hl)
theorem ww_ts7 (C : Cx p R s m args meth c cc own nL Γ A dd) {x : Int32} {dflt o0 o1 o2 o3 o4 o5 o6 : Int} {len : Nat} (td t0 t1 t2 t3 t4 t5 t6 : Nat) (hd : decode cc pc = .ok (.tableswitch dflt 0 6 #[o0, o1, o2, o3, o4, o5, o6], len)) (hdf : (pc : Int) + dflt = (td : Int)) (h0 : (pc : Int) + o0 = (t0 : Int)) (h1 : (pc : Int) + o1 = (t1 : Int)) (h2 : (pc : Int) + o2 = (t2 : Int)) (h3 : (pc : Int) + o3 = (t3 : Int)) (h4 : (pc : Int) + o4 = (t4 : Int)) (h5 : (pc : Int) + o5 = (t5 : Int)) (h6 : (pc : Int) + o6 = (t6 : Int)) (K0 : x = nI 0 → WW p l e R s m args below meth c cells slots Q Γ A nL ws t0 lv st) (K1 : x = nI 1 → WW p l e R s m args below meth c cells slots Q Γ A nL ws t1 lv st) (K2 : x = nI 2 → WW p l e R s m args below meth c cells slots Q Γ A nL ws t2 lv st) (K3 : x = nI 3 → WW p l e R s m args below meth c cells slots Q Γ A nL ws t3 lv st) (K4 : x = nI 4 → WW p l e R s m args below meth c cells slots Q Γ A nL ws t4 lv st) (K5 : x = nI 5 → WW p l e R s m args below meth c cells slots Q Γ A nL ws t5 lv st) (K6 : x = nI 6 → WW p l e R s m args below meth c cells slots Q Γ A nL ws t6 lv st) (Kd : (x.toInt < 0 ∨ 6 < x.toInt) → WW p l e R s m args below meth c cells slots Q Γ A nL ws td lv st) : WW p l e R s m args below meth c cells slots Q Γ A nL ws pc lv (.int x :: st) := by
  intro H locs ls hP hD hS hl
  by_cases hq : x.toInt < 0 ∨ 6 < x.toInt
  · exact lv_tableOut C.1 C.2.1 hd hq hdf (Kd hq H locs ls hP hD hS hl)
  have g1 : ¬ x.toInt < 0 := fun z => hq (Or.inl z)
  have g2 : ¬ 6 < x.toInt := fun z => hq (Or.inr z)
  have key : ∀ j : Nat, j < 7 → x.toInt = (j : Int) → x = nI j := fun j hj e => Int32.toInt_inj.mp (by rw [e, nI_toInt (by omega)])
  have hc : x.toInt = 0 ∨ x.toInt = 1 ∨ x.toInt = 2 ∨ x.toInt = 3 ∨ x.toInt = 4 ∨ x.toInt = 5 ∨ x.toInt = 6 := by omega
  rcases hc with z | z | z | z | z | z | z
  · exact lv_tableIn (off := o0) C.1 C.2.1 hd g1 g2 (by rw [z]; rfl) h0 (K0 (key 0 (by omega) z) H locs ls hP hD hS hl)
  · exact lv_tableIn (off := o1) C.1 C.2.1 hd g1 g2 (by rw [z]; rfl) h1 (K1 (key 1 (by omega) z) H locs ls hP hD hS hl)
  · exact lv_tableIn (off := o2) C.1 C.2.1 hd g1 g2 (by rw [z]; rfl) h2 (K2 (key 2 (by omega) z) H locs ls hP hD hS hl)
  · exact lv_tableIn (off := o3) C.1 C.2.1 hd g1 g2 (by rw [z]; rfl) h3 (K3 (key 3 (by omega) z) H locs ls hP hD hS hl)
  · exact lv_tableIn (off := o4) C.1 C.2.1 hd g1 g2 (by rw [z]; rfl) h4 (K4 (key 4 (by omega) z) H locs ls hP hD hS hl)
  · exact lv_tableIn (off := o5) C.1 C.2.1 hd g1 g2 (by rw [z]; rfl) h5 (K5 (key 5 (by omega) z) H locs ls hP hD hS hl)
  · exact lv_tableIn (off := o6) C.1 C.2.1 hd g1 g2 (by rw [z]; rfl) h6 (K6 (key 6 (by omega) z) H locs ls hP hD hS hl)
theorem ww_ts25 (C : Cx p R s m args meth c cc own nL Γ A dd) {x : Int32} {dflt o0 o1 o2 o3 o4 o5 o6 o7 o8 o9 o10 o11 o12 o13 o14 o15 o16 o17 o18 o19 o20 o21 o22 o23 o24 : Int} {len : Nat} (td t0 t1 t2 t3 t4 t5 t6 t7 t8 t9 t10 t11 t12 t13 t14 t15 t16 t17 t18 t19 t20 t21 t22 t23 t24 : Nat) (hd : decode cc pc = .ok (.tableswitch dflt 0 24 #[o0, o1, o2, o3, o4, o5, o6, o7, o8, o9, o10, o11, o12, o13, o14, o15, o16, o17, o18, o19, o20, o21, o22, o23, o24], len)) (hdf : (pc : Int) + dflt = (td : Int)) (h0 : (pc : Int) + o0 = (t0 : Int)) (h1 : (pc : Int) + o1 = (t1 : Int)) (h2 : (pc : Int) + o2 = (t2 : Int)) (h3 : (pc : Int) + o3 = (t3 : Int)) (h4 : (pc : Int) + o4 = (t4 : Int)) (h5 : (pc : Int) + o5 = (t5 : Int)) (h6 : (pc : Int) + o6 = (t6 : Int)) (h7 : (pc : Int) + o7 = (t7 : Int)) (h8 : (pc : Int) + o8 = (t8 : Int)) (h9 : (pc : Int) + o9 = (t9 : Int)) (h10 : (pc : Int) + o10 = (t10 : Int)) (h11 : (pc : Int) + o11 = (t11 : Int)) (h12 : (pc : Int) + o12 = (t12 : Int)) (h13 : (pc : Int) + o13 = (t13 : Int)) (h14 : (pc : Int) + o14 = (t14 : Int)) (h15 : (pc : Int) + o15 = (t15 : Int)) (h16 : (pc : Int) + o16 = (t16 : Int)) (h17 : (pc : Int) + o17 = (t17 : Int)) (h18 : (pc : Int) + o18 = (t18 : Int)) (h19 : (pc : Int) + o19 = (t19 : Int)) (h20 : (pc : Int) + o20 = (t20 : Int)) (h21 : (pc : Int) + o21 = (t21 : Int)) (h22 : (pc : Int) + o22 = (t22 : Int)) (h23 : (pc : Int) + o23 = (t23 : Int)) (h24 : (pc : Int) + o24 = (t24 : Int)) (K0 : x = nI 0 → WW p l e R s m args below meth c cells slots Q Γ A nL ws t0 lv st) (K1 : x = nI 1 → WW p l e R s m args below meth c cells slots Q Γ A nL ws t1 lv st) (K2 : x = nI 2 → WW p l e R s m args below meth c cells slots Q Γ A nL ws t2 lv st) (K3 : x = nI 3 → WW p l e R s m args below meth c cells slots Q Γ A nL ws t3 lv st) (K4 : x = nI 4 → WW p l e R s m args below meth c cells slots Q Γ A nL ws t4 lv st) (K5 : x = nI 5 → WW p l e R s m args below meth c cells slots Q Γ A nL ws t5 lv st) (K6 : x = nI 6 → WW p l e R s m args below meth c cells slots Q Γ A nL ws t6 lv st) (K7 : x = nI 7 → WW p l e R s m args below meth c cells slots Q Γ A nL ws t7 lv st) (K8 : x = nI 8 → WW p l e R s m args below meth c cells slots Q Γ A nL ws t8 lv st) (K9 : x = nI 9 → WW p l e R s m args below meth c cells slots Q Γ A nL ws t9 lv st) (K10 : x = nI 10 → WW p l e R s m args below meth c cells slots Q Γ A nL ws t10 lv st) (K11 : x = nI 11 → WW p l e R s m args below meth c cells slots Q Γ A nL ws t11 lv st) (K12 : x = nI 12 → WW p l e R s m args below meth c cells slots Q Γ A nL ws t12 lv st) (K13 : x = nI 13 → WW p l e R s m args below meth c cells slots Q Γ A nL ws t13 lv st) (K14 : x = nI 14 → WW p l e R s m args below meth c cells slots Q Γ A nL ws t14 lv st) (K15 : x = nI 15 → WW p l e R s m args below meth c cells slots Q Γ A nL ws t15 lv st) (K16 : x = nI 16 → WW p l e R s m args below meth c cells slots Q Γ A nL ws t16 lv st) (K17 : x = nI 17 → WW p l e R s m args below meth c cells slots Q Γ A nL ws t17 lv st) (K18 : x = nI 18 → WW p l e R s m args below meth c cells slots Q Γ A nL ws t18 lv st) (K19 : x = nI 19 → WW p l e R s m args below meth c cells slots Q Γ A nL ws t19 lv st) (K20 : x = nI 20 → WW p l e R s m args below meth c cells slots Q Γ A nL ws t20 lv st) (K21 : x = nI 21 → WW p l e R s m args below meth c cells slots Q Γ A nL ws t21 lv st) (K22 : x = nI 22 → WW p l e R s m args below meth c cells slots Q Γ A nL ws t22 lv st) (K23 : x = nI 23 → WW p l e R s m args below meth c cells slots Q Γ A nL ws t23 lv st) (K24 : x = nI 24 → WW p l e R s m args below meth c cells slots Q Γ A nL ws t24 lv st) (Kd : (x.toInt < 0 ∨ 24 < x.toInt) → WW p l e R s m args below meth c cells slots Q Γ A nL ws td lv st) : WW p l e R s m args below meth c cells slots Q Γ A nL ws pc lv (.int x :: st) := by
  intro H locs ls hP hD hS hl
  by_cases hq : x.toInt < 0 ∨ 24 < x.toInt
  · exact lv_tableOut C.1 C.2.1 hd hq hdf (Kd hq H locs ls hP hD hS hl)
  have g1 : ¬ x.toInt < 0 := fun z => hq (Or.inl z)
  have g2 : ¬ 24 < x.toInt := fun z => hq (Or.inr z)
  have key : ∀ j : Nat, j < 25 → x.toInt = (j : Int) → x = nI j := fun j hj e => Int32.toInt_inj.mp (by rw [e, nI_toInt (by omega)])
  have hc : x.toInt = 0 ∨ x.toInt = 1 ∨ x.toInt = 2 ∨ x.toInt = 3 ∨ x.toInt = 4 ∨ x.toInt = 5 ∨ x.toInt = 6 ∨ x.toInt = 7 ∨ x.toInt = 8 ∨ x.toInt = 9 ∨ x.toInt = 10 ∨ x.toInt = 11 ∨ x.toInt = 12 ∨ x.toInt = 13 ∨ x.toInt = 14 ∨ x.toInt = 15 ∨ x.toInt = 16 ∨ x.toInt = 17 ∨ x.toInt = 18 ∨ x.toInt = 19 ∨ x.toInt = 20 ∨ x.toInt = 21 ∨ x.toInt = 22 ∨ x.toInt = 23 ∨ x.toInt = 24 := by omega
  rcases hc with z | z | z | z | z | z | z | z | z | z | z | z | z | z | z | z | z | z | z | z | z | z | z | z | z
  · exact lv_tableIn (off := o0) C.1 C.2.1 hd g1 g2 (by rw [z]; rfl) h0 (K0 (key 0 (by omega) z) H locs ls hP hD hS hl)
  · exact lv_tableIn (off := o1) C.1 C.2.1 hd g1 g2 (by rw [z]; rfl) h1 (K1 (key 1 (by omega) z) H locs ls hP hD hS hl)
  · exact lv_tableIn (off := o2) C.1 C.2.1 hd g1 g2 (by rw [z]; rfl) h2 (K2 (key 2 (by omega) z) H locs ls hP hD hS hl)
  · exact lv_tableIn (off := o3) C.1 C.2.1 hd g1 g2 (by rw [z]; rfl) h3 (K3 (key 3 (by omega) z) H locs ls hP hD hS hl)
  · exact lv_tableIn (off := o4) C.1 C.2.1 hd g1 g2 (by rw [z]; rfl) h4 (K4 (key 4 (by omega) z) H locs ls hP hD hS hl)
  · exact lv_tableIn (off := o5) C.1 C.2.1 hd g1 g2 (by rw [z]; rfl) h5 (K5 (key 5 (by omega) z) H locs ls hP hD hS hl)
  · exact lv_tableIn (off := o6) C.1 C.2.1 hd g1 g2 (by rw [z]; rfl) h6 (K6 (key 6 (by omega) z) H locs ls hP hD hS hl)
  · exact lv_tableIn (off := o7) C.1 C.2.1 hd g1 g2 (by rw [z]; rfl) h7 (K7 (key 7 (by omega) z) H locs ls hP hD hS hl)
  · exact lv_tableIn (off := o8) C.1 C.2.1 hd g1 g2 (by rw [z]; rfl) h8 (K8 (key 8 (by omega) z) H locs ls hP hD hS hl)
  · exact lv_tableIn (off := o9) C.1 C.2.1 hd g1 g2 (by rw [z]; rfl) h9 (K9 (key 9 (by omega) z) H locs ls hP hD hS hl)
  · exact lv_tableIn (off := o10) C.1 C.2.1 hd g1 g2 (by rw [z]; rfl) h10 (K10 (key 10 (by omega) z) H locs ls hP hD hS hl)
  · exact lv_tableIn (off := o11) C.1 C.2.1 hd g1 g2 (by rw [z]; rfl) h11 (K11 (key 11 (by omega) z) H locs ls hP hD hS hl)
  · exact lv_tableIn (off := o12) C.1 C.2.1 hd g1 g2 (by rw [z]; rfl) h12 (K12 (key 12 (by omega) z) H locs ls hP hD hS hl)
  · exact lv_tableIn (off := o13) C.1 C.2.1 hd g1 g2 (by rw [z]; rfl) h13 (K13 (key 13 (by omega) z) H locs ls hP hD hS hl)
  · exact lv_tableIn (off := o14) C.1 C.2.1 hd g1 g2 (by rw [z]; rfl) h14 (K14 (key 14 (by omega) z) H locs ls hP hD hS hl)
  · exact lv_tableIn (off := o15) C.1 C.2.1 hd g1 g2 (by rw [z]; rfl) h15 (K15 (key 15 (by omega) z) H locs ls hP hD hS hl)
  · exact lv_tableIn (off := o16) C.1 C.2.1 hd g1 g2 (by rw [z]; rfl) h16 (K16 (key 16 (by omega) z) H locs ls hP hD hS hl)
  · exact lv_tableIn (off := o17) C.1 C.2.1 hd g1 g2 (by rw [z]; rfl) h17 (K17 (key 17 (by omega) z) H locs ls hP hD hS hl)
  · exact lv_tableIn (off := o18) C.1 C.2.1 hd g1 g2 (by rw [z]; rfl) h18 (K18 (key 18 (by omega) z) H locs ls hP hD hS hl)
  · exact lv_tableIn (off := o19) C.1 C.2.1 hd g1 g2 (by rw [z]; rfl) h19 (K19 (key 19 (by omega) z) H locs ls hP hD hS hl)
  · exact lv_tableIn (off := o20) C.1 C.2.1 hd g1 g2 (by rw [z]; rfl) h20 (K20 (key 20 (by omega) z) H locs ls hP hD hS hl)
  · exact lv_tableIn (off := o21) C.1 C.2.1 hd g1 g2 (by rw [z]; rfl) h21 (K21 (key 21 (by omega) z) H locs ls hP hD hS hl)
  · exact lv_tableIn (off := o22) C.1 C.2.1 hd g1 g2 (by rw [z]; rfl) h22 (K22 (key 22 (by omega) z) H locs ls hP hD hS hl)
  · exact lv_tableIn (off := o23) C.1 C.2.1 hd g1 g2 (by rw [z]; rfl) h23 (K23 (key 23 (by omega) z) H locs ls hP hD hS hl)
  · exact lv_tableIn (off := o24) C.1 C.2.1 hd g1 g2 (by rw [z]; rfl) h24 (K24 (key 24 (by omega) z) H locs ls hP hD hS hl)
end WWsw
