abbrev wMo (hm : Nat) (q : Nat → Nat) (I : Nat → Int32) : Nat × va_E := (hm, .inr (9, [.int (I 0), .int (I 1), .ref (q 2), .ref (q 3), .ref (q 4), .int (I 5), .ref (q 6), .int (I 7), .ref (q 8), .ref (q 9), .ref (q 10), .int (I 11), .ref (q 12), .ref (q 13), .ref (q 14), .ref (q 15), .int (I 16), .int (I 17), .int (I 18), .int (I 19), .int (I 20), .int (I 21), .int (I 22), .int (I 23), .int (I 24), .int (I 25), .ref (q 26), .ref (q 27), .ref (q 28), .int (I 29)]))
theorem i64_lt {x y : Int32} : x.toInt64 < y.toInt64 ↔ x < y := by
  rw [Int64.lt_iff_toInt_lt, Int32.lt_iff_toInt_lt, Int32.toInt_toInt64, Int32.toInt_toInt64]
theorem i64_add {x y : Int32} : (x.toInt64 + y.toInt64).toInt = x.toInt + y.toInt := by
  rw [Int64.toInt_add, Int32.toInt_toInt64, Int32.toInt_toInt64]
  have h1 := x.toInt_lt
  have h2 := y.toInt_lt
  have h3 := x.le_toInt
  have h4 := y.le_toInt
  exact Int.bmod_eq_of_le (by omega) (by omega)
theorem upd_n {f : Nat → Int32} {k j : Nat} {x : Int32} (h : (j == k) = false) : upd f k x j = f j := pk_un (by simpa using h)
theorem ww_mput_0 {p : Program} {l : Launch} {e : Env} {R : Room} {s : State} {m : MethodId} {args : Array Value} {below : List Frame} {meth : Method} {c : Code} {cells slots : Nat} {Q : State → Prop} {Γ : Gm} {A : Nat → Prop} {nL dd : Nat} {cc : ByteArray} {own : String} {ws : va_W} {pc : Nat} {lv : List (Option Value)} {st : List Value} {hm : Nat} {q : Nat → Nat} {I : Nat → Int32} (C : Cx p R s m args meth c cc own nL Γ A dd) {index : Nat} (F : FE own index 9 0 RX11 TX11 30 tyX11) {v : Int32} (hd : decode cc pc = .ok (.putfield index, 3)) (pc2 : Nat) (hpc : pc + 3 = pc2) (k : WW p l e R s m args below meth c cells slots Q Γ A nL (wMo hm q (upd I 0 v) :: ws) pc2 lv st) : WW p l e R s m args below meth c cells slots Q Γ A nL (wMo hm q I :: ws) pc lv (.int v :: .ref hm :: st) := ww_put C F rfl hd 0 rfl rfl rfl (Nat.le_of_ble_eq_true rfl) pc2 hpc (ww_eq rfl rfl rfl k)
theorem ww_mput_1 {p : Program} {l : Launch} {e : Env} {R : Room} {s : State} {m : MethodId} {args : Array Value} {below : List Frame} {meth : Method} {c : Code} {cells slots : Nat} {Q : State → Prop} {Γ : Gm} {A : Nat → Prop} {nL dd : Nat} {cc : ByteArray} {own : String} {ws : va_W} {pc : Nat} {lv : List (Option Value)} {st : List Value} {hm : Nat} {q : Nat → Nat} {I : Nat → Int32} (C : Cx p R s m args meth c cc own nL Γ A dd) {index : Nat} (F : FE own index 9 1 RX11 TX11 30 tyX11) {v : Int32} (hd : decode cc pc = .ok (.putfield index, 3)) (pc2 : Nat) (hpc : pc + 3 = pc2) (k : WW p l e R s m args below meth c cells slots Q Γ A nL (wMo hm q (upd I 1 v) :: ws) pc2 lv st) : WW p l e R s m args below meth c cells slots Q Γ A nL (wMo hm q I :: ws) pc lv (.int v :: .ref hm :: st) := ww_put C F rfl hd 0 rfl rfl rfl (Nat.le_of_ble_eq_true rfl) pc2 hpc (ww_eq rfl rfl rfl k)
theorem ww_mput_5 {p : Program} {l : Launch} {e : Env} {R : Room} {s : State} {m : MethodId} {args : Array Value} {below : List Frame} {meth : Method} {c : Code} {cells slots : Nat} {Q : State → Prop} {Γ : Gm} {A : Nat → Prop} {nL dd : Nat} {cc : ByteArray} {own : String} {ws : va_W} {pc : Nat} {lv : List (Option Value)} {st : List Value} {hm : Nat} {q : Nat → Nat} {I : Nat → Int32} (C : Cx p R s m args meth c cc own nL Γ A dd) {index : Nat} (F : FE own index 9 5 RX11 TX11 30 tyX11) {v : Int32} (hd : decode cc pc = .ok (.putfield index, 3)) (pc2 : Nat) (hpc : pc + 3 = pc2) (k : WW p l e R s m args below meth c cells slots Q Γ A nL (wMo hm q (upd I 5 v) :: ws) pc2 lv st) : WW p l e R s m args below meth c cells slots Q Γ A nL (wMo hm q I :: ws) pc lv (.int v :: .ref hm :: st) := ww_put C F rfl hd 0 rfl rfl rfl (Nat.le_of_ble_eq_true rfl) pc2 hpc (ww_eq rfl rfl rfl k)
theorem ww_mput_7 {p : Program} {l : Launch} {e : Env} {R : Room} {s : State} {m : MethodId} {args : Array Value} {below : List Frame} {meth : Method} {c : Code} {cells slots : Nat} {Q : State → Prop} {Γ : Gm} {A : Nat → Prop} {nL dd : Nat} {cc : ByteArray} {own : String} {ws : va_W} {pc : Nat} {lv : List (Option Value)} {st : List Value} {hm : Nat} {q : Nat → Nat} {I : Nat → Int32} (C : Cx p R s m args meth c cc own nL Γ A dd) {index : Nat} (F : FE own index 9 7 RX11 TX11 30 tyX11) {v : Int32} (hd : decode cc pc = .ok (.putfield index, 3)) (pc2 : Nat) (hpc : pc + 3 = pc2) (k : WW p l e R s m args below meth c cells slots Q Γ A nL (wMo hm q (upd I 7 v) :: ws) pc2 lv st) : WW p l e R s m args below meth c cells slots Q Γ A nL (wMo hm q I :: ws) pc lv (.int v :: .ref hm :: st) := ww_put C F rfl hd 0 rfl rfl rfl (Nat.le_of_ble_eq_true rfl) pc2 hpc (ww_eq rfl rfl rfl k)
theorem ww_mput_11 {p : Program} {l : Launch} {e : Env} {R : Room} {s : State} {m : MethodId} {args : Array Value} {below : List Frame} {meth : Method} {c : Code} {cells slots : Nat} {Q : State → Prop} {Γ : Gm} {A : Nat → Prop} {nL dd : Nat} {cc : ByteArray} {own : String} {ws : va_W} {pc : Nat} {lv : List (Option Value)} {st : List Value} {hm : Nat} {q : Nat → Nat} {I : Nat → Int32} (C : Cx p R s m args meth c cc own nL Γ A dd) {index : Nat} (F : FE own index 9 11 RX11 TX11 30 tyX11) {v : Int32} (hd : decode cc pc = .ok (.putfield index, 3)) (pc2 : Nat) (hpc : pc + 3 = pc2) (k : WW p l e R s m args below meth c cells slots Q Γ A nL (wMo hm q (upd I 11 v) :: ws) pc2 lv st) : WW p l e R s m args below meth c cells slots Q Γ A nL (wMo hm q I :: ws) pc lv (.int v :: .ref hm :: st) := ww_put C F rfl hd 0 rfl rfl rfl (Nat.le_of_ble_eq_true rfl) pc2 hpc (ww_eq rfl rfl rfl k)
theorem ww_mput_16 {p : Program} {l : Launch} {e : Env} {R : Room} {s : State} {m : MethodId} {args : Array Value} {below : List Frame} {meth : Method} {c : Code} {cells slots : Nat} {Q : State → Prop} {Γ : Gm} {A : Nat → Prop} {nL dd : Nat} {cc : ByteArray} {own : String} {ws : va_W} {pc : Nat} {lv : List (Option Value)} {st : List Value} {hm : Nat} {q : Nat → Nat} {I : Nat → Int32} (C : Cx p R s m args meth c cc own nL Γ A dd) {index : Nat} (F : FE own index 9 16 RX11 TX11 30 tyX11) {v : Int32} (hd : decode cc pc = .ok (.putfield index, 3)) (pc2 : Nat) (hpc : pc + 3 = pc2) (k : WW p l e R s m args below meth c cells slots Q Γ A nL (wMo hm q (upd I 16 v) :: ws) pc2 lv st) : WW p l e R s m args below meth c cells slots Q Γ A nL (wMo hm q I :: ws) pc lv (.int v :: .ref hm :: st) := ww_put C F rfl hd 0 rfl rfl rfl (Nat.le_of_ble_eq_true rfl) pc2 hpc (ww_eq rfl rfl rfl k)
theorem ww_mput_17 {p : Program} {l : Launch} {e : Env} {R : Room} {s : State} {m : MethodId} {args : Array Value} {below : List Frame} {meth : Method} {c : Code} {cells slots : Nat} {Q : State → Prop} {Γ : Gm} {A : Nat → Prop} {nL dd : Nat} {cc : ByteArray} {own : String} {ws : va_W} {pc : Nat} {lv : List (Option Value)} {st : List Value} {hm : Nat} {q : Nat → Nat} {I : Nat → Int32} (C : Cx p R s m args meth c cc own nL Γ A dd) {index : Nat} (F : FE own index 9 17 RX11 TX11 30 tyX11) {v : Int32} (hd : decode cc pc = .ok (.putfield index, 3)) (pc2 : Nat) (hpc : pc + 3 = pc2) (k : WW p l e R s m args below meth c cells slots Q Γ A nL (wMo hm q (upd I 17 v) :: ws) pc2 lv st) : WW p l e R s m args below meth c cells slots Q Γ A nL (wMo hm q I :: ws) pc lv (.int v :: .ref hm :: st) := ww_put C F rfl hd 0 rfl rfl rfl (Nat.le_of_ble_eq_true rfl) pc2 hpc (ww_eq rfl rfl rfl k)
theorem ww_mput_18 {p : Program} {l : Launch} {e : Env} {R : Room} {s : State} {m : MethodId} {args : Array Value} {below : List Frame} {meth : Method} {c : Code} {cells slots : Nat} {Q : State → Prop} {Γ : Gm} {A : Nat → Prop} {nL dd : Nat} {cc : ByteArray} {own : String} {ws : va_W} {pc : Nat} {lv : List (Option Value)} {st : List Value} {hm : Nat} {q : Nat → Nat} {I : Nat → Int32} (C : Cx p R s m args meth c cc own nL Γ A dd) {index : Nat} (F : FE own index 9 18 RX11 TX11 30 tyX11) {v : Int32} (hd : decode cc pc = .ok (.putfield index, 3)) (pc2 : Nat) (hpc : pc + 3 = pc2) (k : WW p l e R s m args below meth c cells slots Q Γ A nL (wMo hm q (upd I 18 v) :: ws) pc2 lv st) : WW p l e R s m args below meth c cells slots Q Γ A nL (wMo hm q I :: ws) pc lv (.int v :: .ref hm :: st) := ww_put C F rfl hd 0 rfl rfl rfl (Nat.le_of_ble_eq_true rfl) pc2 hpc (ww_eq rfl rfl rfl k)
theorem ww_mput_19 {p : Program} {l : Launch} {e : Env} {R : Room} {s : State} {m : MethodId} {args : Array Value} {below : List Frame} {meth : Method} {c : Code} {cells slots : Nat} {Q : State → Prop} {Γ : Gm} {A : Nat → Prop} {nL dd : Nat} {cc : ByteArray} {own : String} {ws : va_W} {pc : Nat} {lv : List (Option Value)} {st : List Value} {hm : Nat} {q : Nat → Nat} {I : Nat → Int32} (C : Cx p R s m args meth c cc own nL Γ A dd) {index : Nat} (F : FE own index 9 19 RX11 TX11 30 tyX11) {v : Int32} (hd : decode cc pc = .ok (.putfield index, 3)) (pc2 : Nat) (hpc : pc + 3 = pc2) (k : WW p l e R s m args below meth c cells slots Q Γ A nL (wMo hm q (upd I 19 v) :: ws) pc2 lv st) : WW p l e R s m args below meth c cells slots Q Γ A nL (wMo hm q I :: ws) pc lv (.int v :: .ref hm :: st) := ww_put C F rfl hd 0 rfl rfl rfl (Nat.le_of_ble_eq_true rfl) pc2 hpc (ww_eq rfl rfl rfl k)
theorem ww_mput_20 {p : Program} {l : Launch} {e : Env} {R : Room} {s : State} {m : MethodId} {args : Array Value} {below : List Frame} {meth : Method} {c : Code} {cells slots : Nat} {Q : State → Prop} {Γ : Gm} {A : Nat → Prop} {nL dd : Nat} {cc : ByteArray} {own : String} {ws : va_W} {pc : Nat} {lv : List (Option Value)} {st : List Value} {hm : Nat} {q : Nat → Nat} {I : Nat → Int32} (C : Cx p R s m args meth c cc own nL Γ A dd) {index : Nat} (F : FE own index 9 20 RX11 TX11 30 tyX11) {v : Int32} (hd : decode cc pc = .ok (.putfield index, 3)) (pc2 : Nat) (hpc : pc + 3 = pc2) (k : WW p l e R s m args below meth c cells slots Q Γ A nL (wMo hm q (upd I 20 v) :: ws) pc2 lv st) : WW p l e R s m args below meth c cells slots Q Γ A nL (wMo hm q I :: ws) pc lv (.int v :: .ref hm :: st) := ww_put C F rfl hd 0 rfl rfl rfl (Nat.le_of_ble_eq_true rfl) pc2 hpc (ww_eq rfl rfl rfl k)
theorem ww_mput_21 {p : Program} {l : Launch} {e : Env} {R : Room} {s : State} {m : MethodId} {args : Array Value} {below : List Frame} {meth : Method} {c : Code} {cells slots : Nat} {Q : State → Prop} {Γ : Gm} {A : Nat → Prop} {nL dd : Nat} {cc : ByteArray} {own : String} {ws : va_W} {pc : Nat} {lv : List (Option Value)} {st : List Value} {hm : Nat} {q : Nat → Nat} {I : Nat → Int32} (C : Cx p R s m args meth c cc own nL Γ A dd) {index : Nat} (F : FE own index 9 21 RX11 TX11 30 tyX11) {v : Int32} (hd : decode cc pc = .ok (.putfield index, 3)) (pc2 : Nat) (hpc : pc + 3 = pc2) (k : WW p l e R s m args below meth c cells slots Q Γ A nL (wMo hm q (upd I 21 v) :: ws) pc2 lv st) : WW p l e R s m args below meth c cells slots Q Γ A nL (wMo hm q I :: ws) pc lv (.int v :: .ref hm :: st) := ww_put C F rfl hd 0 rfl rfl rfl (Nat.le_of_ble_eq_true rfl) pc2 hpc (ww_eq rfl rfl rfl k)
theorem ww_mput_22 {p : Program} {l : Launch} {e : Env} {R : Room} {s : State} {m : MethodId} {args : Array Value} {below : List Frame} {meth : Method} {c : Code} {cells slots : Nat} {Q : State → Prop} {Γ : Gm} {A : Nat → Prop} {nL dd : Nat} {cc : ByteArray} {own : String} {ws : va_W} {pc : Nat} {lv : List (Option Value)} {st : List Value} {hm : Nat} {q : Nat → Nat} {I : Nat → Int32} (C : Cx p R s m args meth c cc own nL Γ A dd) {index : Nat} (F : FE own index 9 22 RX11 TX11 30 tyX11) {v : Int32} (hd : decode cc pc = .ok (.putfield index, 3)) (pc2 : Nat) (hpc : pc + 3 = pc2) (k : WW p l e R s m args below meth c cells slots Q Γ A nL (wMo hm q (upd I 22 v) :: ws) pc2 lv st) : WW p l e R s m args below meth c cells slots Q Γ A nL (wMo hm q I :: ws) pc lv (.int v :: .ref hm :: st) := ww_put C F rfl hd 0 rfl rfl rfl (Nat.le_of_ble_eq_true rfl) pc2 hpc (ww_eq rfl rfl rfl k)
theorem ww_mput_23 {p : Program} {l : Launch} {e : Env} {R : Room} {s : State} {m : MethodId} {args : Array Value} {below : List Frame} {meth : Method} {c : Code} {cells slots : Nat} {Q : State → Prop} {Γ : Gm} {A : Nat → Prop} {nL dd : Nat} {cc : ByteArray} {own : String} {ws : va_W} {pc : Nat} {lv : List (Option Value)} {st : List Value} {hm : Nat} {q : Nat → Nat} {I : Nat → Int32} (C : Cx p R s m args meth c cc own nL Γ A dd) {index : Nat} (F : FE own index 9 23 RX11 TX11 30 tyX11) {v : Int32} (hd : decode cc pc = .ok (.putfield index, 3)) (pc2 : Nat) (hpc : pc + 3 = pc2) (k : WW p l e R s m args below meth c cells slots Q Γ A nL (wMo hm q (upd I 23 v) :: ws) pc2 lv st) : WW p l e R s m args below meth c cells slots Q Γ A nL (wMo hm q I :: ws) pc lv (.int v :: .ref hm :: st) := ww_put C F rfl hd 0 rfl rfl rfl (Nat.le_of_ble_eq_true rfl) pc2 hpc (ww_eq rfl rfl rfl k)
theorem ww_mput_24 {p : Program} {l : Launch} {e : Env} {R : Room} {s : State} {m : MethodId} {args : Array Value} {below : List Frame} {meth : Method} {c : Code} {cells slots : Nat} {Q : State → Prop} {Γ : Gm} {A : Nat → Prop} {nL dd : Nat} {cc : ByteArray} {own : String} {ws : va_W} {pc : Nat} {lv : List (Option Value)} {st : List Value} {hm : Nat} {q : Nat → Nat} {I : Nat → Int32} (C : Cx p R s m args meth c cc own nL Γ A dd) {index : Nat} (F : FE own index 9 24 RX11 TX11 30 tyX11) {v : Int32} (hd : decode cc pc = .ok (.putfield index, 3)) (pc2 : Nat) (hpc : pc + 3 = pc2) (k : WW p l e R s m args below meth c cells slots Q Γ A nL (wMo hm q (upd I 24 v) :: ws) pc2 lv st) : WW p l e R s m args below meth c cells slots Q Γ A nL (wMo hm q I :: ws) pc lv (.int v :: .ref hm :: st) := ww_put C F rfl hd 0 rfl rfl rfl (Nat.le_of_ble_eq_true rfl) pc2 hpc (ww_eq rfl rfl rfl k)
theorem ww_mput_25 {p : Program} {l : Launch} {e : Env} {R : Room} {s : State} {m : MethodId} {args : Array Value} {below : List Frame} {meth : Method} {c : Code} {cells slots : Nat} {Q : State → Prop} {Γ : Gm} {A : Nat → Prop} {nL dd : Nat} {cc : ByteArray} {own : String} {ws : va_W} {pc : Nat} {lv : List (Option Value)} {st : List Value} {hm : Nat} {q : Nat → Nat} {I : Nat → Int32} (C : Cx p R s m args meth c cc own nL Γ A dd) {index : Nat} (F : FE own index 9 25 RX11 TX11 30 tyX11) {v : Int32} (hd : decode cc pc = .ok (.putfield index, 3)) (pc2 : Nat) (hpc : pc + 3 = pc2) (k : WW p l e R s m args below meth c cells slots Q Γ A nL (wMo hm q (upd I 25 v) :: ws) pc2 lv st) : WW p l e R s m args below meth c cells slots Q Γ A nL (wMo hm q I :: ws) pc lv (.int v :: .ref hm :: st) := ww_put C F rfl hd 0 rfl rfl rfl (Nat.le_of_ble_eq_true rfl) pc2 hpc (ww_eq rfl rfl rfl k)
theorem ww_mput_29 {p : Program} {l : Launch} {e : Env} {R : Room} {s : State} {m : MethodId} {args : Array Value} {below : List Frame} {meth : Method} {c : Code} {cells slots : Nat} {Q : State → Prop} {Γ : Gm} {A : Nat → Prop} {nL dd : Nat} {cc : ByteArray} {own : String} {ws : va_W} {pc : Nat} {lv : List (Option Value)} {st : List Value} {hm : Nat} {q : Nat → Nat} {I : Nat → Int32} (C : Cx p R s m args meth c cc own nL Γ A dd) {index : Nat} (F : FE own index 9 29 RX11 TX11 30 tyX11) {v : Int32} (hd : decode cc pc = .ok (.putfield index, 3)) (pc2 : Nat) (hpc : pc + 3 = pc2) (k : WW p l e R s m args below meth c cells slots Q Γ A nL (wMo hm q (upd I 29 v) :: ws) pc2 lv st) : WW p l e R s m args below meth c cells slots Q Γ A nL (wMo hm q I :: ws) pc lv (.int v :: .ref hm :: st) := ww_put C F rfl hd 0 rfl rfl rfl (Nat.le_of_ble_eq_true rfl) pc2 hpc (ww_eq rfl rfl rfl k)
theorem c_X11_in (l : Launch) (Γ : Gm) {v lo hi : Int64}  : Ct l Γ yX11_in cX11_in 6 (some .boolean) 0 [.long v, .long lo, .long hi] [] (some (.int (bI (¬ v < lo ∧ ¬ hi < v)))) [] := by
  refine Ct.of mi_X11_in [some (.long v), none, some (.long lo), none, some (.long hi), none] 0 rfl (Nat.le_of_ble_eq_true rfl) ?_
  intro p e s m args below meth c C hr
  refine ww_lload_n (i := 0) C dX11_in_0 rfl rfl 1 rfl ?_
  refine ww_lload_n (i := 2) C dX11_in_1 rfl rfl 2 rfl ?_
  refine ww_lcmp C dX11_in_2 3 rfl ?_
  refine ww_if_lt C 17 dX11_in_3 (by decide) 6 rfl (fun h_3 => ?_) (fun h_3 => ?_)
  · skip
    have hz : ¬ (¬ v < lo ∧ ¬ hi < v) := by
      intro q
      first
        | exact q.1 ((lg_cmp_lt _ _).mp h_3)
        | exact q.2 ((lg_cmp_gt _ _).mp h_10)
    refine ww_iconst (v := 0) C dX11_in_17 (by decide) 18 rfl ?_
    exact ww_zret C hr rfl dX11_in_18 (by first | rw [bI_1 hz] | rw [bI_0 hz]) rfl
  · skip
    refine ww_lload_n (i := 0) C dX11_in_6 rfl rfl 7 rfl ?_
    refine ww_lload C dX11_in_7 rfl 9 rfl ?_
    refine ww_lcmp C dX11_in_9 10 rfl ?_
    refine ww_if_gt C 17 dX11_in_10 (by decide) 13 rfl (fun h_10 => ?_) (fun h_10 => ?_)
    · skip
      have hz : ¬ (¬ v < lo ∧ ¬ hi < v) := by
        intro q
        first
          | exact q.1 ((lg_cmp_lt _ _).mp h_3)
          | exact q.2 ((lg_cmp_gt _ _).mp h_10)
      refine ww_iconst (v := 0) C dX11_in_17 (by decide) 18 rfl ?_
      exact ww_zret C hr rfl dX11_in_18 (by first | rw [bI_1 hz] | rw [bI_0 hz]) rfl
    · skip
      have hz : ¬ v < lo ∧ ¬ hi < v := ⟨fun q => h_3 ((lg_cmp_lt _ _).mpr q), fun q => h_10 ((lg_cmp_gt _ _).mpr q)⟩
      refine ww_iconst (v := 1) C dX11_in_13 (by decide) 14 rfl ?_
      refine ww_goto C 18 dX11_in_14 (by decide) ?_
      exact ww_zret C hr rfl dX11_in_18 (by first | rw [bI_1 hz] | rw [bI_0 hz]) rfl
theorem bI_c {p r : Prop} [Decidable p] [Decidable r] (h : p ↔ r) : bI p = bI r := by
  by_cases q : p
  · rw [bI_1 q, bI_1 (h.mp q)]
  · rw [bI_0 q, bI_0 (fun z => q (h.mpr z))]
theorem c_X11_isSheet (l : Launch) (Γ : Gm) {x : Int32}  : Ct l Γ yX11_isSheet cX11_isSheet 1 (some .boolean) 1 [.int x] [] (some (.int (bI (¬ x < 0 ∧ ¬ 7 < x)))) [] := by
  refine Ct.of mi_X11_isSheet [some (.int x)] 0 rfl (Nat.le_of_ble_eq_true rfl) ?_
  intro p e s m args below meth c C hr
  refine ww_iload_n (i := 0) C dX11_isSheet_0 rfl rfl 1 rfl ?_
  refine ww_i2l C dX11_isSheet_1 2 rfl ?_
  refine ww_lconst (v := 0) C dX11_isSheet_2 (by decide) 3 rfl ?_
  refine ww_ldc2 C cn_X11_60 dX11_isSheet_3 6 rfl ?_
  refine ww_callS3p C (c_X11_in l Γ) mi_X11_in st_X11_in ml_X11_62 dX11_isSheet_6 (Nat.le_of_ble_eq_true rfl) (Nat.le_of_ble_eq_true rfl) (Nat.le_of_ble_eq_true rfl) ⟨Nat.zero_le _, Nat.zero_le _⟩ [] rfl (by decide) 9 rfl ?_
  exact ww_zret C hr bI_z dX11_isSheet_9 (by rw [bI_c (and_congr (not_congr (i64_lt (x := x) (y := 0)).symm) (not_congr (i64_lt (x := 7) (y := x)).symm))]; rfl) rfl
theorem c_X11_isFigure16 (l : Launch) (Γ : Gm) {x : Int32}  : Ct l Γ yX11_isFigure16 cX11_isFigure16 1 (some .boolean) 1 [.int x] [] (some (.int (bI (¬ x < 0 ∧ ¬ 15 < x)))) [] := by
  refine Ct.of mi_X11_isFigure16 [some (.int x)] 0 rfl (Nat.le_of_ble_eq_true rfl) ?_
  intro p e s m args below meth c C hr
  refine ww_iload_n (i := 0) C dX11_isFigure16_0 rfl rfl 1 rfl ?_
  refine ww_i2l C dX11_isFigure16_1 2 rfl ?_
  refine ww_lconst (v := 0) C dX11_isFigure16_2 (by decide) 3 rfl ?_
  refine ww_ldc2 C cn_X11_77 dX11_isFigure16_3 6 rfl ?_
  refine ww_callS3p C (c_X11_in l Γ) mi_X11_in st_X11_in ml_X11_62 dX11_isFigure16_6 (Nat.le_of_ble_eq_true rfl) (Nat.le_of_ble_eq_true rfl) (Nat.le_of_ble_eq_true rfl) ⟨Nat.zero_le _, Nat.zero_le _⟩ [] rfl (by decide) 9 rfl ?_
  exact ww_zret C hr bI_z dX11_isFigure16_9 (by rw [bI_c (and_congr (not_congr (i64_lt (x := x) (y := 0)).symm) (not_congr (i64_lt (x := 15) (y := x)).symm))]; rfl) rfl
theorem c_X11_found (l : Launch) (Γ : Gm) {hm : Nat} {q : Nat → Nat} {I : Nat → Int32} {f : Int32}  : Ct l Γ yX11_found cX11_found 2 (some .int) 0 [.ref hm, .int f] ([wMo hm q (I)]) (some (.int (-1000010 - f))) ([wMo hm q (upd I 1 (f))]) := by
  refine Ct.of mi_X11_found [some (.ref hm), some (.int f)] 0 rfl (Nat.le_of_ble_eq_true rfl) ?_
  intro p e s m args below meth c C hr
  refine ww_aload_n (i := 0) C dX11_found_0 rfl rfl 1 rfl ?_
  refine ww_iload_n (i := 1) C dX11_found_1 rfl rfl 2 rfl ?_
  refine ww_mput_1 C fe_X11_56 dX11_found_2 5 rfl ?_
  refine ww_ldc C cn_X11_59 dX11_found_5 7 rfl ?_
  refine ww_iload_n (i := 1) C dX11_found_7 rfl rfl 8 rfl ?_
  refine ww_isub C dX11_found_8 9 rfl ?_
  exact ww_iret C hr dX11_found_9 rfl rfl
def s_sg (f : Int32) : Int32 := (f &&& 1) + ((f >>> ((1 : Int32) &&& 31)) &&& 1) + ((f >>> ((2 : Int32) &&& 31)) &&& 1) + ((f >>> ((3 : Int32) &&& 31)) &&& 1)
theorem c_X11_singles (l : Launch) (Γ : Gm) {f : Int32}  : Ct l Γ yX11_singles cX11_singles 1 (some .int) 0 [.int f] [] (some (.int (s_sg f))) [] := by
  refine Ct.of mi_X11_singles [some (.int f)] 0 rfl (Nat.le_of_ble_eq_true rfl) ?_
  intro p e s m args below meth c C hr
  refine ww_iload_n (i := 0) C dX11_singles_0 rfl rfl 1 rfl ?_
  refine ww_iconst (v := 1) C dX11_singles_1 (by decide) 2 rfl ?_
  refine ww_iand C dX11_singles_2 3 rfl ?_
  refine ww_iload_n (i := 0) C dX11_singles_3 rfl rfl 4 rfl ?_
  refine ww_iconst (v := 1) C dX11_singles_4 (by decide) 5 rfl ?_
  refine ww_ishr C dX11_singles_5 6 rfl ?_
  refine ww_iconst (v := 1) C dX11_singles_6 (by decide) 7 rfl ?_
  refine ww_iand C dX11_singles_7 8 rfl ?_
  refine ww_iadd C dX11_singles_8 9 rfl ?_
  refine ww_iload_n (i := 0) C dX11_singles_9 rfl rfl 10 rfl ?_
  refine ww_iconst (v := 2) C dX11_singles_10 (by decide) 11 rfl ?_
  refine ww_ishr C dX11_singles_11 12 rfl ?_
  refine ww_iconst (v := 1) C dX11_singles_12 (by decide) 13 rfl ?_
  refine ww_iand C dX11_singles_13 14 rfl ?_
  refine ww_iadd C dX11_singles_14 15 rfl ?_
  refine ww_iload_n (i := 0) C dX11_singles_15 rfl rfl 16 rfl ?_
  refine ww_iconst (v := 3) C dX11_singles_16 (by decide) 17 rfl ?_
  refine ww_ishr C dX11_singles_17 18 rfl ?_
  refine ww_iconst (v := 1) C dX11_singles_18 (by decide) 19 rfl ?_
  refine ww_iand C dX11_singles_19 20 rfl ?_
  refine ww_iadd C dX11_singles_20 21 rfl ?_
  exact ww_iret C hr dX11_singles_21 rfl rfl
theorem c_X11_sheet_bad (l : Launch) (Γ : Gm) {hm : Nat} {q : Nat → Nat} {I : Nat → Int32} {s9 l9 n9 : Int32} (hb : (s9 < 0 ∨ 7 < s9) ∨ ¬ (¬ l9 < 0 ∧ ¬ 2 < l9) ∨ ¬ n9 ≤ 60) : Ct l Γ yX11_sheet cX11_sheet 5 (some .int) 4 [.ref hm, .int s9, .int l9, .int n9] ([wMo hm q (I)]) (some (.int (-1000001))) ([wMo hm q (upd I 0 (0))]) := by
  refine Ct.of mi_X11_sheet [some (.ref hm), some (.int s9), some (.int l9), some (.int n9), none] 1 rfl (Nat.le_of_ble_eq_true rfl) ?_
  intro p e s m args below meth c C hr
  refine ww_aload_n (i := 0) C dX11_sheet_0 rfl rfl 1 rfl ?_
  refine ww_iconst (v := 0) C dX11_sheet_1 (by decide) 2 rfl ?_
  refine ww_mput_0 C fe_X11_52 dX11_sheet_2 5 rfl ?_
  refine ww_iload_n (i := 1) C dX11_sheet_5 rfl rfl 6 rfl ?_
  refine ww_callS1p C (c_X11_isSheet l Γ) mi_X11_isSheet st_X11_isSheet ml_X11_66 dX11_sheet_6 (Nat.le_of_ble_eq_true rfl) (Nat.le_of_ble_eq_true rfl) (Nat.le_of_ble_eq_true rfl) ⟨Nat.zero_le _, Nat.zero_le _⟩ [] rfl (by decide) 9 rfl ?_
  refine ww_if_eq C 30 dX11_sheet_9 (by decide) 12 rfl (fun h_9 => ?_) (fun h_9 => ?_)
  · skip
    refine ww_ldc C cn_X11_72 dX11_sheet_30 32 rfl ?_
    exact ww_iret C hr dX11_sheet_32 rfl rfl
  · skip
    refine ww_iload_n (i := 2) C dX11_sheet_12 rfl rfl 13 rfl ?_
    refine ww_i2l C dX11_sheet_13 14 rfl ?_
    refine ww_lconst (v := 0) C dX11_sheet_14 (by decide) 15 rfl ?_
    refine ww_ldc2 C cn_X11_70 dX11_sheet_15 18 rfl ?_
    refine ww_callS3p C (c_X11_in l Γ) mi_X11_in st_X11_in ml_X11_62 dX11_sheet_18 (Nat.le_of_ble_eq_true rfl) (Nat.le_of_ble_eq_true rfl) (Nat.le_of_ble_eq_true rfl) ⟨Nat.zero_le _, Nat.zero_le _⟩ [] rfl (by decide) 21 rfl ?_
    refine ww_if_eq C 30 dX11_sheet_21 (by decide) 24 rfl (fun h_21 => ?_) (fun h_21 => ?_)
    · skip
      refine ww_ldc C cn_X11_72 dX11_sheet_30 32 rfl ?_
      exact ww_iret C hr dX11_sheet_32 rfl rfl
    · skip
      refine ww_iload_n (i := 3) C dX11_sheet_24 rfl rfl 25 rfl ?_
      refine ww_bipush (v := 60) C dX11_sheet_25 (by decide) 27 rfl ?_
      refine ww_icmp_le C 33 dX11_sheet_27 (by decide) 30 rfl (fun h_27 => ?_) (fun h_27 => ?_)
      · exact absurd hb (fun q => q.elim (fun z => z.elim (bI_n0 h_9).1 (bI_n0 h_9).2) (fun z => z.elim (fun y => y ⟨fun w => (bI_n0 h_21).1 ((i64_lt (x := l9) (y := 0)).mpr w), fun w => (bI_n0 h_21).2 ((i64_lt (x := 2) (y := l9)).mpr w)⟩) (fun y => y h_27)))
      · skip
        refine ww_ldc C cn_X11_72 dX11_sheet_30 32 rfl ?_
        exact ww_iret C hr dX11_sheet_32 rfl rfl
theorem c_X11_sheet_size (l : Launch) (Γ : Gm) {hm : Nat} {q : Nat → Nat} {I : Nat → Int32} {j : Nat} {l9 n9 : Int32} (hj : j < 8) (hl : ¬ l9 < 0 ∧ ¬ 2 < l9) (hn : n9 < 0) : Ct l Γ yX11_sheet cX11_sheet 5 (some .int) 4 [.ref hm, .int (nI j), .int l9, .int n9] ([wMo hm q (I)]) (some (.int (-1000014))) ([wMo hm q (upd (upd (upd I 0 (0)) 1 (0)) 1 (4))]) := by
  refine Ct.of mi_X11_sheet [some (.ref hm), some (.int (nI j)), some (.int l9), some (.int n9), none] 1 rfl (Nat.le_of_ble_eq_true rfl) ?_
  intro p e s m args below meth c C hr
  refine ww_aload_n (i := 0) C dX11_sheet_0 rfl rfl 1 rfl ?_
  refine ww_iconst (v := 0) C dX11_sheet_1 (by decide) 2 rfl ?_
  refine ww_mput_0 C fe_X11_52 dX11_sheet_2 5 rfl ?_
  refine ww_iload_n (i := 1) C dX11_sheet_5 rfl rfl 6 rfl ?_
  refine ww_callS1p C (c_X11_isSheet l Γ) mi_X11_isSheet st_X11_isSheet ml_X11_66 dX11_sheet_6 (Nat.le_of_ble_eq_true rfl) (Nat.le_of_ble_eq_true rfl) (Nat.le_of_ble_eq_true rfl) ⟨Nat.zero_le _, Nat.zero_le _⟩ [] rfl (by decide) 9 rfl ?_
  refine ww_if_eq C 30 dX11_sheet_9 (by decide) 12 rfl (fun h_9 => ?_) (fun h_9 => ?_)
  · exact absurd (⟨nI_pos (by omega), nI_nlt (a := 7) (by omega) (by decide)⟩ : ¬ nI j < 0 ∧ ¬ nI 7 < nI j) (bI_e0 h_9)
  · skip
    refine ww_iload_n (i := 2) C dX11_sheet_12 rfl rfl 13 rfl ?_
    refine ww_i2l C dX11_sheet_13 14 rfl ?_
    refine ww_lconst (v := 0) C dX11_sheet_14 (by decide) 15 rfl ?_
    refine ww_ldc2 C cn_X11_70 dX11_sheet_15 18 rfl ?_
    refine ww_callS3p C (c_X11_in l Γ) mi_X11_in st_X11_in ml_X11_62 dX11_sheet_18 (Nat.le_of_ble_eq_true rfl) (Nat.le_of_ble_eq_true rfl) (Nat.le_of_ble_eq_true rfl) ⟨Nat.zero_le _, Nat.zero_le _⟩ [] rfl (by decide) 21 rfl ?_
    refine ww_if_eq C 30 dX11_sheet_21 (by decide) 24 rfl (fun h_21 => ?_) (fun h_21 => ?_)
    · exact absurd (⟨fun w => hl.1 ((i64_lt (x := l9) (y := 0)).mp w), fun w => hl.2 ((i64_lt (x := 2) (y := l9)).mp w)⟩ : ¬ l9.toInt64 < Int32.toInt64 0 ∧ ¬ Int32.toInt64 2 < l9.toInt64) (bI_e0 h_21)
    · skip
      refine ww_iload_n (i := 3) C dX11_sheet_24 rfl rfl 25 rfl ?_
      refine ww_bipush (v := 60) C dX11_sheet_25 (by decide) 27 rfl ?_
      refine ww_icmp_le C 33 dX11_sheet_27 (by decide) 30 rfl (fun h_27 => ?_) (fun h_27 => ?_)
      · skip
        refine ww_aload_n (i := 0) C dX11_sheet_33 rfl rfl 34 rfl ?_
        refine ww_iconst (v := 0) C dX11_sheet_34 (by decide) 35 rfl ?_
        refine ww_mput_1 C fe_X11_56 dX11_sheet_35 38 rfl ?_
        refine ww_iload_n (i := 3) C dX11_sheet_38 rfl rfl 39 rfl ?_
        refine ww_if_ge C 48 dX11_sheet_39 (by decide) 42 rfl (fun h_39 => ?_) (fun h_39 => ?_)
        · exact absurd h_39 (Int32.not_le.mpr hn)
        · skip
          refine ww_aload_n (i := 0) C dX11_sheet_42 rfl rfl 43 rfl ?_
          refine ww_iconst (v := 4) C dX11_sheet_43 (by decide) 44 rfl ?_
          refine ww_callV1 C (c_X11_found l Γ) mi_X11_found im_X11_found se_X11_found ml_X11_73 dX11_sheet_44 0 rfl rfl rfl (Nat.le_of_ble_eq_true rfl) (Nat.le_of_ble_eq_true rfl) (Nat.le_of_ble_eq_true rfl) ⟨Nat.zero_le _, Nat.zero_le _⟩ [0] rfl (by decide) rfl 47 rfl ?_
          exact ww_iret C hr dX11_sheet_47 rfl rfl
      · exact absurd (Int32.le_of_lt (Int32.lt_trans hn (by decide))) h_27
/-- the items of sheet j, k of them, become 0 -/
def s_zr (it : Nat → Int32) (j k : Nat) : Nat → Int32 := fun x => if 60 * j ≤ x ∧ x < 60 * j + k then 0 else it x
theorem s_zr_0 (it : Nat → Int32) (j : Nat) : s_zr it j 0 = it := by
  funext x
  exact if_neg (by omega)
theorem s_zr_s (it : Nat → Int32) (j k : Nat) : upd (s_zr it j k) (60 * j + k) 0 = s_zr it j (k + 1) := by
  funext x
  simp only [upd, s_zr]
  repeat' split
  all_goals first | rfl | omega
theorem c_X11_sheet_ok (l : Launch) (Γ : Gm) {hm : Nat} {q : Nat → Nat} {I : Nat → Int32} {j n : Nat} {l9 : Int32} {ln mn it : Nat → Int32} (hj : j < 8) (hl : ¬ l9 < 0 ∧ ¬ 2 < l9) (hn : n ≤ 60) : Ct l Γ yX11_sheet cX11_sheet 5 (some .int) 4 [.ref hm, .int (nI j), .int l9, .int (nI n)] ([wMo hm q (I), (q 2, .inl (Γ.2.1, 8, .inl (ln))), (q 3, .inl (Γ.2.1, 8, .inl (mn))), (q 4, .inl (Γ.2.1, 480, .inl (it)))]) (some (.int (nI n))) ([wMo hm q (upd (upd I 0 (0)) 1 (0)), (q 2, .inl (Γ.2.1, 8, .inl (upd ln j l9))), (q 3, .inl (Γ.2.1, 8, .inl (upd mn j (nI n)))), (q 4, .inl (Γ.2.1, 480, .inl (s_zr it j 60)))]) := by
  refine Ct.of mi_X11_sheet [some (.ref hm), some (.int (nI j)), some (.int l9), some (.int (nI n)), none] 1 rfl (Nat.le_of_ble_eq_true rfl) ?_
  intro p e s m args below meth c C hr
  have e60 : ∀ a : Nat, (60 : Int32) * nI j + nI a = nI (60 * j + a) := fun a => by rw [show (60 : Int32) = nI 60 from rfl, pk_mul, nI_add]
  have ej : (nI j).toNatClampNeg = j := nI_clamp (by omega)
  refine ww_aload_n (i := 0) C dX11_sheet_0 rfl rfl 1 rfl ?_
  refine ww_iconst (v := 0) C dX11_sheet_1 (by decide) 2 rfl ?_
  refine ww_mput_0 C fe_X11_52 dX11_sheet_2 5 rfl ?_
  refine ww_iload_n (i := 1) C dX11_sheet_5 rfl rfl 6 rfl ?_
  refine ww_callS1p C (c_X11_isSheet l Γ) mi_X11_isSheet st_X11_isSheet ml_X11_66 dX11_sheet_6 (Nat.le_of_ble_eq_true rfl) (Nat.le_of_ble_eq_true rfl) (Nat.le_of_ble_eq_true rfl) ⟨Nat.zero_le _, Nat.zero_le _⟩ [] rfl (by decide) 9 rfl ?_
  refine ww_if_eq C 30 dX11_sheet_9 (by decide) 12 rfl (fun h_9 => ?_) (fun h_9 => ?_)
  · exact absurd (⟨nI_pos (by omega), nI_nlt (a := 7) (by omega) (by decide)⟩ : ¬ nI j < 0 ∧ ¬ nI 7 < nI j) (bI_e0 h_9)
  · skip
    refine ww_iload_n (i := 2) C dX11_sheet_12 rfl rfl 13 rfl ?_
    refine ww_i2l C dX11_sheet_13 14 rfl ?_
    refine ww_lconst (v := 0) C dX11_sheet_14 (by decide) 15 rfl ?_
    refine ww_ldc2 C cn_X11_70 dX11_sheet_15 18 rfl ?_
    refine ww_callS3p C (c_X11_in l Γ) mi_X11_in st_X11_in ml_X11_62 dX11_sheet_18 (Nat.le_of_ble_eq_true rfl) (Nat.le_of_ble_eq_true rfl) (Nat.le_of_ble_eq_true rfl) ⟨Nat.zero_le _, Nat.zero_le _⟩ [] rfl (by decide) 21 rfl ?_
    refine ww_if_eq C 30 dX11_sheet_21 (by decide) 24 rfl (fun h_21 => ?_) (fun h_21 => ?_)
    · exact absurd (⟨fun w => hl.1 ((i64_lt (x := l9) (y := 0)).mp w), fun w => hl.2 ((i64_lt (x := 2) (y := l9)).mp w)⟩ : ¬ l9.toInt64 < Int32.toInt64 0 ∧ ¬ Int32.toInt64 2 < l9.toInt64) (bI_e0 h_21)
    · skip
      refine ww_iload_n (i := 3) C dX11_sheet_24 rfl rfl 25 rfl ?_
      refine ww_bipush (v := 60) C dX11_sheet_25 (by decide) 27 rfl ?_
      refine ww_icmp_le C 33 dX11_sheet_27 (by decide) 30 rfl (fun h_27 => ?_) (fun h_27 => ?_)
      · skip
        refine ww_aload_n (i := 0) C dX11_sheet_33 rfl rfl 34 rfl ?_
        refine ww_iconst (v := 0) C dX11_sheet_34 (by decide) 35 rfl ?_
        refine ww_mput_1 C fe_X11_56 dX11_sheet_35 38 rfl ?_
        refine ww_iload_n (i := 3) C dX11_sheet_38 rfl rfl 39 rfl ?_
        refine ww_if_ge C 48 dX11_sheet_39 (by decide) 42 rfl (fun h_39 => ?_) (fun h_39 => ?_)
        · skip
          refine ww_aload_n (i := 0) C dX11_sheet_48 rfl rfl 49 rfl ?_
          refine ww_get C fe_X11_7 dX11_sheet_49 0 rfl rfl 52 rfl ?_
          refine ww_iload_n (i := 1) C dX11_sheet_52 rfl rfl 53 rfl ?_
          refine ww_iload_n (i := 2) C dX11_sheet_53 rfl rfl 54 rfl ?_
          refine ww_iast C dX11_sheet_54 1 rfl (vp_in_nI hj (by decide)) 55 rfl ?_
          refine ww_aload_n (i := 0) C dX11_sheet_55 rfl rfl 56 rfl ?_
          refine ww_get C fe_X11_13 dX11_sheet_56 0 rfl rfl 59 rfl ?_
          refine ww_iload_n (i := 1) C dX11_sheet_59 rfl rfl 60 rfl ?_
          refine ww_iload_n (i := 3) C dX11_sheet_60 rfl rfl 61 rfl ?_
          refine ww_iast C dX11_sheet_61 2 rfl (vp_in_nI hj (by decide)) 62 rfl ?_
          refine ww_iconst (v := 0) C dX11_sheet_62 (by decide) 63 rfl ?_
          refine ww_istore C dX11_sheet_63 (by decide) rfl 65 rfl ?_
          rw [ej]
          refine ww_eq (ws' := [wMo hm q (upd (upd I 0 (0)) 1 (0)), (q 2, .inl (Γ.2.1, 8, .inl (upd ln j l9))), (q 3, .inl (Γ.2.1, 8, .inl (upd mn j (nI n)))), (q 4, .inl (Γ.2.1, 480, .inl (s_zr it j 0)))]) (by rw [s_zr_0]; rfl) rfl rfl ?_
          refine ww_loop (fun k : Nat => 60 - k) (fun k => k ≤ 60) (fun k => [wMo hm q (upd (upd I 0 (0)) 1 (0)), (q 2, .inl (Γ.2.1, 8, .inl (upd ln j l9))), (q 3, .inl (Γ.2.1, 8, .inl (upd mn j (nI n)))), (q 4, .inl (Γ.2.1, 480, .inl (s_zr it j k)))]) (fun k => [some (.ref hm), some (.int (nI j)), some (.int l9), some (.int (nI n)), some (.int (nI k))]) (0 : Nat) (by omega) rfl rfl (fun k hk ih => ?_)
          try dsimp only at hk ih ⊢
          refine ww_iload C dX11_sheet_65 rfl 67 rfl ?_
          refine ww_bipush (v := 60) C dX11_sheet_67 (by decide) 69 rfl ?_
          refine ww_icmp_ge C 91 dX11_sheet_69 (by decide) 72 rfl (fun h_69 => ?_) (fun h_69 => ?_)
          · skip
            obtain rfl : k = 60 := eqN (n := 60) h_69 hk (by decide)
            refine ww_iload_n (i := 3) C dX11_sheet_91 rfl rfl 92 rfl ?_
            exact ww_iret C hr dX11_sheet_92 rfl rfl
          · skip
            have hlt : k < 60 := ltN (n := 60) h_69 (by decide) (by omega)
            refine ww_aload_n (i := 0) C dX11_sheet_72 rfl rfl 73 rfl ?_
            refine ww_get C fe_X11_16 dX11_sheet_73 0 rfl rfl 76 rfl ?_
            refine ww_bipush (v := 60) C dX11_sheet_76 (by decide) 78 rfl ?_
            refine ww_iload_n (i := 1) C dX11_sheet_78 rfl rfl 79 rfl ?_
            refine ww_imul C dX11_sheet_79 80 rfl ?_
            refine ww_iload C dX11_sheet_80 rfl 82 rfl ?_
            refine ww_iadd C dX11_sheet_82 83 rfl ?_
            rw [e60 k]
            refine ww_iconst (v := 0) C dX11_sheet_83 (by decide) 84 rfl ?_
            refine ww_iast C dX11_sheet_84 3 rfl (vp_in_nI (by omega) (by decide)) 85 rfl ?_
            refine ww_iinc (y := 1) C dX11_sheet_85 rfl (by decide) (by decide) rfl 88 rfl ?_
            refine ww_goto C 65 dX11_sheet_88 (by decide) ?_
            exact ww_eq (by rw [← s_zr_s]; simp only [nI_clamp (show 60 * j + k < 2 ^ 31 by omega)]; rfl) (by rw [nI_succ k]; rfl) rfl (ih (k + 1) (by omega) (by omega))
        · exact absurd (nI_pos' (by omega)) h_39
      · exact absurd (nI_le (b := 60) hn (by decide)) h_27
theorem c_X11_set_bad (l : Launch) (Γ : Gm) {hm : Nat} {q : Nat → Nat} {I : Nat → Int32} {s9 a v : Int32} (hb : s9 < 0 ∨ 7 < s9) : Ct l Γ yX11_set cX11_set 4 (some .int) 4 [.ref hm, .int s9, .int a, .int v] ([wMo hm q (I)]) (some (.int (-1000001))) ([wMo hm q (upd I 0 (0))]) := by
  refine Ct.of mi_X11_set [some (.ref hm), some (.int s9), some (.int a), some (.int v)] 0 rfl (Nat.le_of_ble_eq_true rfl) ?_
  intro p e s m args below meth c C hr
  refine ww_aload_n (i := 0) C dX11_set_0 rfl rfl 1 rfl ?_
  refine ww_iconst (v := 0) C dX11_set_1 (by decide) 2 rfl ?_
  refine ww_mput_0 C fe_X11_52 dX11_set_2 5 rfl ?_
  refine ww_iload_n (i := 1) C dX11_set_5 rfl rfl 6 rfl ?_
  refine ww_callS1p C (c_X11_isSheet l Γ) mi_X11_isSheet st_X11_isSheet ml_X11_66 dX11_set_6 (Nat.le_of_ble_eq_true rfl) (Nat.le_of_ble_eq_true rfl) (Nat.le_of_ble_eq_true rfl) ⟨Nat.zero_le _, Nat.zero_le _⟩ [] rfl (by decide) 9 rfl ?_
  refine ww_if_ne C 15 dX11_set_9 (by decide) 12 rfl (fun h_9 => ?_) (fun h_9 => ?_)
  · exact absurd hb (fun q => q.elim (bI_n0 h_9).1 (bI_n0 h_9).2)
  · skip
    refine ww_ldc C cn_X11_72 dX11_set_12 14 rfl ?_
    exact ww_iret C hr dX11_set_14 rfl rfl
theorem c_X11_drop_bad (l : Launch) (Γ : Gm) {hm : Nat} {q : Nat → Nat} {I : Nat → Int32} {s9  : Int32} (hb : s9 < 0 ∨ 7 < s9) : Ct l Γ yX11_drop cX11_drop 2 (some .int) 4 [.ref hm, .int s9] ([wMo hm q (I)]) (some (.int (-1000001))) ([wMo hm q (upd I 0 (0))]) := by
  refine Ct.of mi_X11_drop [some (.ref hm), some (.int s9)] 0 rfl (Nat.le_of_ble_eq_true rfl) ?_
  intro p e s m args below meth c C hr
  refine ww_aload_n (i := 0) C dX11_drop_0 rfl rfl 1 rfl ?_
  refine ww_iconst (v := 0) C dX11_drop_1 (by decide) 2 rfl ?_
  refine ww_mput_0 C fe_X11_52 dX11_drop_2 5 rfl ?_
  refine ww_iload_n (i := 1) C dX11_drop_5 rfl rfl 6 rfl ?_
  refine ww_callS1p C (c_X11_isSheet l Γ) mi_X11_isSheet st_X11_isSheet ml_X11_66 dX11_drop_6 (Nat.le_of_ble_eq_true rfl) (Nat.le_of_ble_eq_true rfl) (Nat.le_of_ble_eq_true rfl) ⟨Nat.zero_le _, Nat.zero_le _⟩ [] rfl (by decide) 9 rfl ?_
  refine ww_if_ne C 15 dX11_drop_9 (by decide) 12 rfl (fun h_9 => ?_) (fun h_9 => ?_)
  · exact absurd hb (fun q => q.elim (bI_n0 h_9).1 (bI_n0 h_9).2)
  · skip
    refine ww_ldc C cn_X11_72 dX11_drop_12 14 rfl ?_
    exact ww_iret C hr dX11_drop_14 rfl rfl
theorem c_X11_cast_bad (l : Launch) (Γ : Gm) {hm : Nat} {q : Nat → Nat} {I : Nat → Int32} {s9 a : Int32} (hb : s9 < 0 ∨ 7 < s9) : Ct l Γ yX11_cast cX11_cast 6 (some .int) 4 [.ref hm, .int s9, .int a] ([wMo hm q (I)]) (some (.int (-1000001))) ([wMo hm q (upd I 0 (0))]) := by
  refine Ct.of mi_X11_cast [some (.ref hm), some (.int s9), some (.int a), none, none, none] 3 rfl (Nat.le_of_ble_eq_true rfl) ?_
  intro p e s m args below meth c C hr
  refine ww_aload_n (i := 0) C dX11_cast_0 rfl rfl 1 rfl ?_
  refine ww_iconst (v := 0) C dX11_cast_1 (by decide) 2 rfl ?_
  refine ww_mput_0 C fe_X11_52 dX11_cast_2 5 rfl ?_
  refine ww_iload_n (i := 1) C dX11_cast_5 rfl rfl 6 rfl ?_
  refine ww_callS1p C (c_X11_isSheet l Γ) mi_X11_isSheet st_X11_isSheet ml_X11_66 dX11_cast_6 (Nat.le_of_ble_eq_true rfl) (Nat.le_of_ble_eq_true rfl) (Nat.le_of_ble_eq_true rfl) ⟨Nat.zero_le _, Nat.zero_le _⟩ [] rfl (by decide) 9 rfl ?_
  refine ww_if_ne C 15 dX11_cast_9 (by decide) 12 rfl (fun h_9 => ?_) (fun h_9 => ?_)
  · exact absurd hb (fun q => q.elim (bI_n0 h_9).1 (bI_n0 h_9).2)
  · skip
    refine ww_ldc C cn_X11_72 dX11_cast_12 14 rfl ?_
    exact ww_iret C hr dX11_cast_14 rfl rfl
theorem c_X11_set_null (l : Launch) (Γ : Gm) {hm : Nat} {q : Nat → Nat} {I : Nat → Int32} {j : Nat} {a v : Int32} {ln : Nat → Int32} (hj : j < 8) (hl : ln j < 0) : Ct l Γ yX11_set cX11_set 4 (some .int) 4 [.ref hm, .int (nI j), .int a, .int v] ([wMo hm q (I), (q 2, .inl (Γ.2.1, 8, .inl (ln)))]) (some (.int (-1000011))) ([wMo hm q (upd (upd (upd I 0 (0)) 1 (0)) 1 (1)), (q 2, .inl (Γ.2.1, 8, .inl (ln)))]) := by
  refine Ct.of mi_X11_set [some (.ref hm), some (.int (nI j)), some (.int a), some (.int v)] 0 rfl (Nat.le_of_ble_eq_true rfl) ?_
  intro p e s m args below meth c C hr
  have ej : (nI j).toNatClampNeg = j := nI_clamp (by omega)
  refine ww_aload_n (i := 0) C dX11_set_0 rfl rfl 1 rfl ?_
  refine ww_iconst (v := 0) C dX11_set_1 (by decide) 2 rfl ?_
  refine ww_mput_0 C fe_X11_52 dX11_set_2 5 rfl ?_
  refine ww_iload_n (i := 1) C dX11_set_5 rfl rfl 6 rfl ?_
  refine ww_callS1p C (c_X11_isSheet l Γ) mi_X11_isSheet st_X11_isSheet ml_X11_66 dX11_set_6 (Nat.le_of_ble_eq_true rfl) (Nat.le_of_ble_eq_true rfl) (Nat.le_of_ble_eq_true rfl) ⟨Nat.zero_le _, Nat.zero_le _⟩ [] rfl (by decide) 9 rfl ?_
  refine ww_if_ne C 15 dX11_set_9 (by decide) 12 rfl (fun h_9 => ?_) (fun h_9 => ?_)
  · skip
    refine ww_aload_n (i := 0) C dX11_set_15 rfl rfl 16 rfl ?_
    refine ww_iconst (v := 0) C dX11_set_16 (by decide) 17 rfl ?_
    refine ww_mput_1 C fe_X11_56 dX11_set_17 20 rfl ?_
    refine ww_aload_n (i := 0) C dX11_set_20 rfl rfl 21 rfl ?_
    refine ww_get C fe_X11_7 dX11_set_21 0 rfl rfl 24 rfl ?_
    refine ww_iload_n (i := 1) C dX11_set_24 rfl rfl 25 rfl ?_
    refine ww_iald C dX11_set_25 1 rfl (vp_in_nI hj (by decide)) 26 rfl ?_
    rw [ej]
    refine ww_if_ge C 35 dX11_set_26 (by decide) 29 rfl (fun h_26 => ?_) (fun h_26 => ?_)
    · exact absurd h_26 (Int32.not_le.mpr hl)
    · skip
      refine ww_aload_n (i := 0) C dX11_set_29 rfl rfl 30 rfl ?_
      refine ww_iconst (v := 1) C dX11_set_30 (by decide) 31 rfl ?_
      refine ww_callV1 C (c_X11_found l Γ) mi_X11_found im_X11_found se_X11_found ml_X11_73 dX11_set_31 0 rfl rfl rfl (Nat.le_of_ble_eq_true rfl) (Nat.le_of_ble_eq_true rfl) (Nat.le_of_ble_eq_true rfl) ⟨Nat.zero_le _, Nat.zero_le _⟩ [0] rfl (by decide) rfl 34 rfl ?_
      exact ww_iret C hr dX11_set_34 rfl rfl
  · exact absurd (⟨nI_pos (by omega), nI_nlt (a := 7) (by omega) (by decide)⟩ : ¬ nI j < 0 ∧ ¬ nI 7 < nI j) (bI_e0 h_9)
theorem pl_iff {sz : Nat} {a : Int32} (hs : sz ≤ 60) : (¬ a.toInt64 < Int32.toInt64 0 ∧ ¬ (nI sz - 1).toInt64 < a.toInt64) ↔ ∃ k, k < sz ∧ a = nI k := by
  rw [i64_lt, i64_lt]
  constructor
  · rintro ⟨h1, h2⟩
    obtain ⟨k, hk, rfl⟩ := nI_of h1
    refine ⟨k, ?_, rfl⟩
    rw [Int32.lt_iff_toInt_lt, nI_toInt hk, show (1 : Int32) = nI 1 from rfl, pk_sub_toInt (by omega) (by decide)] at h2
    omega
  · rintro ⟨k, hk, rfl⟩
    refine ⟨nI_pos (by omega), ?_⟩
    rw [show (1 : Int32) = nI 1 from rfl, pk_sub (by omega)]
    exact nI_nlt (by omega) (by omega)
theorem c_X11_set_place (l : Launch) (Γ : Gm) {hm : Nat} {q : Nat → Nat} {I : Nat → Int32} {j sz : Nat} {a v : Int32} {ln mn : Nat → Int32} (hj : j < 8) (hl : ¬ ln j < 0) (hm9 : mn j = nI sz) (hs : sz ≤ 60) (ha : ¬ ∃ k, k < sz ∧ a = nI k) : Ct l Γ yX11_set cX11_set 4 (some .int) 4 [.ref hm, .int (nI j), .int a, .int v] ([wMo hm q (I), (q 2, .inl (Γ.2.1, 8, .inl (ln))), (q 3, .inl (Γ.2.1, 8, .inl (mn)))]) (some (.int (-1000012))) ([wMo hm q (upd (upd (upd I 0 (0)) 1 (0)) 1 (2)), (q 2, .inl (Γ.2.1, 8, .inl (ln))), (q 3, .inl (Γ.2.1, 8, .inl (mn)))]) := by
  refine Ct.of mi_X11_set [some (.ref hm), some (.int (nI j)), some (.int a), some (.int v)] 0 rfl (Nat.le_of_ble_eq_true rfl) ?_
  intro p e s m args below meth c C hr
  have ej : (nI j).toNatClampNeg = j := nI_clamp (by omega)
  refine ww_aload_n (i := 0) C dX11_set_0 rfl rfl 1 rfl ?_
  refine ww_iconst (v := 0) C dX11_set_1 (by decide) 2 rfl ?_
  refine ww_mput_0 C fe_X11_52 dX11_set_2 5 rfl ?_
  refine ww_iload_n (i := 1) C dX11_set_5 rfl rfl 6 rfl ?_
  refine ww_callS1p C (c_X11_isSheet l Γ) mi_X11_isSheet st_X11_isSheet ml_X11_66 dX11_set_6 (Nat.le_of_ble_eq_true rfl) (Nat.le_of_ble_eq_true rfl) (Nat.le_of_ble_eq_true rfl) ⟨Nat.zero_le _, Nat.zero_le _⟩ [] rfl (by decide) 9 rfl ?_
  refine ww_if_ne C 15 dX11_set_9 (by decide) 12 rfl (fun h_9 => ?_) (fun h_9 => ?_)
  · skip
    refine ww_aload_n (i := 0) C dX11_set_15 rfl rfl 16 rfl ?_
    refine ww_iconst (v := 0) C dX11_set_16 (by decide) 17 rfl ?_
    refine ww_mput_1 C fe_X11_56 dX11_set_17 20 rfl ?_
    refine ww_aload_n (i := 0) C dX11_set_20 rfl rfl 21 rfl ?_
    refine ww_get C fe_X11_7 dX11_set_21 0 rfl rfl 24 rfl ?_
    refine ww_iload_n (i := 1) C dX11_set_24 rfl rfl 25 rfl ?_
    refine ww_iald C dX11_set_25 1 rfl (vp_in_nI hj (by decide)) 26 rfl ?_
    rw [ej]
    refine ww_if_ge C 35 dX11_set_26 (by decide) 29 rfl (fun h_26 => ?_) (fun h_26 => ?_)
    · skip
      refine ww_iload_n (i := 2) C dX11_set_35 rfl rfl 36 rfl ?_
      refine ww_i2l C dX11_set_36 37 rfl ?_
      refine ww_lconst (v := 0) C dX11_set_37 (by decide) 38 rfl ?_
      refine ww_aload_n (i := 0) C dX11_set_38 rfl rfl 39 rfl ?_
      refine ww_get C fe_X11_13 dX11_set_39 0 rfl rfl 42 rfl ?_
      refine ww_iload_n (i := 1) C dX11_set_42 rfl rfl 43 rfl ?_
      refine ww_iald C dX11_set_43 2 rfl (vp_in_nI hj (by decide)) 44 rfl ?_
      rw [ej, hm9]
      refine ww_iconst (v := 1) C dX11_set_44 (by decide) 45 rfl ?_
      refine ww_isub C dX11_set_45 46 rfl ?_
      refine ww_i2l C dX11_set_46 47 rfl ?_
      refine ww_callS3p C (c_X11_in l Γ) mi_X11_in st_X11_in ml_X11_62 dX11_set_47 (Nat.le_of_ble_eq_true rfl) (Nat.le_of_ble_eq_true rfl) (Nat.le_of_ble_eq_true rfl) ⟨Nat.zero_le _, Nat.zero_le _⟩ [] rfl (by decide) 50 rfl ?_
      refine ww_if_ne C 59 dX11_set_50 (by decide) 53 rfl (fun h_50 => ?_) (fun h_50 => ?_)
      · exact absurd ((pl_iff hs).mp (bI_n0 h_50)) ha
      · skip
        refine ww_aload_n (i := 0) C dX11_set_53 rfl rfl 54 rfl ?_
        refine ww_iconst (v := 2) C dX11_set_54 (by decide) 55 rfl ?_
        refine ww_callV1 C (c_X11_found l Γ) mi_X11_found im_X11_found se_X11_found ml_X11_73 dX11_set_55 0 rfl rfl rfl (Nat.le_of_ble_eq_true rfl) (Nat.le_of_ble_eq_true rfl) (Nat.le_of_ble_eq_true rfl) ⟨Nat.zero_le _, Nat.zero_le _⟩ [0] rfl (by decide) rfl 58 rfl ?_
        exact ww_iret C hr dX11_set_58 rfl rfl
    · exact absurd (Int32.not_lt.mp hl) h_26
  · exact absurd (⟨nI_pos (by omega), nI_nlt (a := 7) (by omega) (by decide)⟩ : ¬ nI j < 0 ∧ ¬ nI 7 < nI j) (bI_e0 h_9)
theorem c_X11_set_ok (l : Launch) (Γ : Gm) {hm : Nat} {q : Nat → Nat} {I : Nat → Int32} {j sz k : Nat} {v : Int32} {ln mn it : Nat → Int32} (hj : j < 8) (hl : ¬ ln j < 0) (hm9 : mn j = nI sz) (hs : sz ≤ 60) (hk : k < sz) : Ct l Γ yX11_set cX11_set 4 (some .int) 4 [.ref hm, .int (nI j), .int (nI k), .int v] ([wMo hm q (I), (q 2, .inl (Γ.2.1, 8, .inl (ln))), (q 3, .inl (Γ.2.1, 8, .inl (mn))), (q 4, .inl (Γ.2.1, 480, .inl (it)))]) (some (.int (s_nar (ln j) v))) ([wMo hm q (upd (upd I 0 (0)) 1 (0)), (q 2, .inl (Γ.2.1, 8, .inl (ln))), (q 3, .inl (Γ.2.1, 8, .inl (mn))), (q 4, .inl (Γ.2.1, 480, .inl (upd it (60 * j + k) (s_nar (ln j) v))))]) := by
  refine Ct.of mi_X11_set [some (.ref hm), some (.int (nI j)), some (.int (nI k)), some (.int v)] 0 rfl (Nat.le_of_ble_eq_true rfl) ?_
  intro p e s m args below meth c C hr
  have ej : (nI j).toNatClampNeg = j := nI_clamp (by omega)
  have e60 : ∀ a : Nat, (60 : Int32) * nI j + nI a = nI (60 * j + a) := fun a => by rw [show (60 : Int32) = nI 60 from rfl, pk_mul, nI_add]
  have ec : (nI (60 * j + k)).toNatClampNeg = 60 * j + k := nI_clamp (by omega)
  refine ww_aload_n (i := 0) C dX11_set_0 rfl rfl 1 rfl ?_
  refine ww_iconst (v := 0) C dX11_set_1 (by decide) 2 rfl ?_
  refine ww_mput_0 C fe_X11_52 dX11_set_2 5 rfl ?_
  refine ww_iload_n (i := 1) C dX11_set_5 rfl rfl 6 rfl ?_
  refine ww_callS1p C (c_X11_isSheet l Γ) mi_X11_isSheet st_X11_isSheet ml_X11_66 dX11_set_6 (Nat.le_of_ble_eq_true rfl) (Nat.le_of_ble_eq_true rfl) (Nat.le_of_ble_eq_true rfl) ⟨Nat.zero_le _, Nat.zero_le _⟩ [] rfl (by decide) 9 rfl ?_
  refine ww_if_ne C 15 dX11_set_9 (by decide) 12 rfl (fun h_9 => ?_) (fun h_9 => ?_)
  · skip
    refine ww_aload_n (i := 0) C dX11_set_15 rfl rfl 16 rfl ?_
    refine ww_iconst (v := 0) C dX11_set_16 (by decide) 17 rfl ?_
    refine ww_mput_1 C fe_X11_56 dX11_set_17 20 rfl ?_
    refine ww_aload_n (i := 0) C dX11_set_20 rfl rfl 21 rfl ?_
    refine ww_get C fe_X11_7 dX11_set_21 0 rfl rfl 24 rfl ?_
    refine ww_iload_n (i := 1) C dX11_set_24 rfl rfl 25 rfl ?_
    refine ww_iald C dX11_set_25 1 rfl (vp_in_nI hj (by decide)) 26 rfl ?_
    rw [ej]
    refine ww_if_ge C 35 dX11_set_26 (by decide) 29 rfl (fun h_26 => ?_) (fun h_26 => ?_)
    · skip
      refine ww_iload_n (i := 2) C dX11_set_35 rfl rfl 36 rfl ?_
      refine ww_i2l C dX11_set_36 37 rfl ?_
      refine ww_lconst (v := 0) C dX11_set_37 (by decide) 38 rfl ?_
      refine ww_aload_n (i := 0) C dX11_set_38 rfl rfl 39 rfl ?_
      refine ww_get C fe_X11_13 dX11_set_39 0 rfl rfl 42 rfl ?_
      refine ww_iload_n (i := 1) C dX11_set_42 rfl rfl 43 rfl ?_
      refine ww_iald C dX11_set_43 2 rfl (vp_in_nI hj (by decide)) 44 rfl ?_
      rw [ej, hm9]
      refine ww_iconst (v := 1) C dX11_set_44 (by decide) 45 rfl ?_
      refine ww_isub C dX11_set_45 46 rfl ?_
      refine ww_i2l C dX11_set_46 47 rfl ?_
      refine ww_callS3p C (c_X11_in l Γ) mi_X11_in st_X11_in ml_X11_62 dX11_set_47 (Nat.le_of_ble_eq_true rfl) (Nat.le_of_ble_eq_true rfl) (Nat.le_of_ble_eq_true rfl) ⟨Nat.zero_le _, Nat.zero_le _⟩ [] rfl (by decide) 50 rfl ?_
      refine ww_if_ne C 59 dX11_set_50 (by decide) 53 rfl (fun h_50 => ?_) (fun h_50 => ?_)
      · skip
        refine ww_aload_n (i := 0) C dX11_set_59 rfl rfl 60 rfl ?_
        refine ww_get C fe_X11_16 dX11_set_60 0 rfl rfl 63 rfl ?_
        refine ww_bipush (v := 60) C dX11_set_63 (by decide) 65 rfl ?_
        refine ww_iload_n (i := 1) C dX11_set_65 rfl rfl 66 rfl ?_
        refine ww_imul C dX11_set_66 67 rfl ?_
        refine ww_iload_n (i := 2) C dX11_set_67 rfl rfl 68 rfl ?_
        refine ww_iadd C dX11_set_68 69 rfl ?_
        rw [e60 k]
        refine ww_aload_n (i := 0) C dX11_set_69 rfl rfl 70 rfl ?_
        refine ww_get C fe_X11_7 dX11_set_70 0 rfl rfl 73 rfl ?_
        refine ww_iload_n (i := 1) C dX11_set_73 rfl rfl 74 rfl ?_
        refine ww_iald C dX11_set_74 1 rfl (vp_in_nI hj (by decide)) 75 rfl ?_
        rw [ej]
        refine ww_if_ne C 83 dX11_set_75 (by decide) 78 rfl (fun h_75 => ?_) (fun h_75 => ?_)
        · skip
          refine ww_aload_n (i := 0) C dX11_set_83 rfl rfl 84 rfl ?_
          refine ww_get C fe_X11_7 dX11_set_84 0 rfl rfl 87 rfl ?_
          refine ww_iload_n (i := 1) C dX11_set_87 rfl rfl 88 rfl ?_
          refine ww_iald C dX11_set_88 1 rfl (vp_in_nI hj (by decide)) 89 rfl ?_
          rw [ej]
          refine ww_iconst (v := 1) C dX11_set_89 (by decide) 90 rfl ?_
          refine ww_icmp_ne C 98 dX11_set_90 (by decide) 93 rfl (fun h_90 => ?_) (fun h_90 => ?_)
          · skip
            refine ww_iload_n (i := 3) C dX11_set_98 rfl rfl 99 rfl ?_
            refine ww_iast C dX11_set_99 3 rfl (vp_in_nI (by omega) (by decide)) 100 rfl ?_
            refine ww_aload_n (i := 0) C dX11_set_100 rfl rfl 101 rfl ?_
            refine ww_get C fe_X11_16 dX11_set_101 0 rfl rfl 104 rfl ?_
            refine ww_bipush (v := 60) C dX11_set_104 (by decide) 106 rfl ?_
            refine ww_iload_n (i := 1) C dX11_set_106 rfl rfl 107 rfl ?_
            refine ww_imul C dX11_set_107 108 rfl ?_
            refine ww_iload_n (i := 2) C dX11_set_108 rfl rfl 109 rfl ?_
            refine ww_iadd C dX11_set_109 110 rfl ?_
            rw [e60 k]
            refine ww_iald C dX11_set_110 3 rfl (vp_in_nI (by omega) (by decide)) 111 rfl ?_
            exact ww_iret C hr dX11_set_111 (by rw [ec, pk_us, s_nar]; first | rw [if_pos h_75] | rw [if_neg h_75, if_pos h_90] | rw [if_neg h_75, if_neg h_90]) (by rw [ec, s_nar]; first | (rw [if_pos h_75]; all_goals rfl) | (rw [if_neg h_75, if_pos h_90]; all_goals rfl) | (rw [if_neg h_75, if_neg h_90]; all_goals rfl))
          · skip
            refine ww_iload_n (i := 3) C dX11_set_93 rfl rfl 94 rfl ?_
            refine ww_i2s C dX11_set_94 95 rfl ?_
            refine ww_goto C 99 dX11_set_95 (by decide) ?_
            refine ww_iast C dX11_set_99 3 rfl (vp_in_nI (by omega) (by decide)) 100 rfl ?_
            refine ww_aload_n (i := 0) C dX11_set_100 rfl rfl 101 rfl ?_
            refine ww_get C fe_X11_16 dX11_set_101 0 rfl rfl 104 rfl ?_
            refine ww_bipush (v := 60) C dX11_set_104 (by decide) 106 rfl ?_
            refine ww_iload_n (i := 1) C dX11_set_106 rfl rfl 107 rfl ?_
            refine ww_imul C dX11_set_107 108 rfl ?_
            refine ww_iload_n (i := 2) C dX11_set_108 rfl rfl 109 rfl ?_
            refine ww_iadd C dX11_set_109 110 rfl ?_
            rw [e60 k]
            refine ww_iald C dX11_set_110 3 rfl (vp_in_nI (by omega) (by decide)) 111 rfl ?_
            exact ww_iret C hr dX11_set_111 (by rw [ec, pk_us, s_nar]; first | rw [if_pos h_75] | rw [if_neg h_75, if_pos h_90] | rw [if_neg h_75, if_neg h_90]) (by rw [ec, s_nar]; first | (rw [if_pos h_75]; all_goals rfl) | (rw [if_neg h_75, if_pos h_90]; all_goals rfl) | (rw [if_neg h_75, if_neg h_90]; all_goals rfl))
        · skip
          refine ww_iload_n (i := 3) C dX11_set_78 rfl rfl 79 rfl ?_
          refine ww_i2b C dX11_set_79 80 rfl ?_
          refine ww_goto C 99 dX11_set_80 (by decide) ?_
          refine ww_iast C dX11_set_99 3 rfl (vp_in_nI (by omega) (by decide)) 100 rfl ?_
          refine ww_aload_n (i := 0) C dX11_set_100 rfl rfl 101 rfl ?_
          refine ww_get C fe_X11_16 dX11_set_101 0 rfl rfl 104 rfl ?_
          refine ww_bipush (v := 60) C dX11_set_104 (by decide) 106 rfl ?_
          refine ww_iload_n (i := 1) C dX11_set_106 rfl rfl 107 rfl ?_
          refine ww_imul C dX11_set_107 108 rfl ?_
          refine ww_iload_n (i := 2) C dX11_set_108 rfl rfl 109 rfl ?_
          refine ww_iadd C dX11_set_109 110 rfl ?_
          rw [e60 k]
          refine ww_iald C dX11_set_110 3 rfl (vp_in_nI (by omega) (by decide)) 111 rfl ?_
          exact ww_iret C hr dX11_set_111 (by rw [ec, pk_us, s_nar]; first | rw [if_pos h_75] | rw [if_neg h_75, if_pos h_90] | rw [if_neg h_75, if_neg h_90]) (by rw [ec, s_nar]; first | (rw [if_pos h_75]; all_goals rfl) | (rw [if_neg h_75, if_pos h_90]; all_goals rfl) | (rw [if_neg h_75, if_neg h_90]; all_goals rfl))
      · exact absurd ((pl_iff hs).mpr ⟨k, hk, rfl⟩) (bI_e0 h_50)
    · exact absurd (Int32.not_lt.mp hl) h_26
  · exact absurd (⟨nI_pos (by omega), nI_nlt (a := 7) (by omega) (by decide)⟩ : ¬ nI j < 0 ∧ ¬ nI 7 < nI j) (bI_e0 h_9)
theorem c_X11_drop_null (l : Launch) (Γ : Gm) {hm : Nat} {q : Nat → Nat} {I : Nat → Int32} {j : Nat} {ln : Nat → Int32} (hj : j < 8) (hl : ln j < 0) : Ct l Γ yX11_drop cX11_drop 2 (some .int) 4 [.ref hm, .int (nI j)] ([wMo hm q (I), (q 2, .inl (Γ.2.1, 8, .inl (ln)))]) (some (.int (-1000011))) ([wMo hm q (upd (upd (upd I 0 (0)) 1 (0)) 1 (1)), (q 2, .inl (Γ.2.1, 8, .inl (ln)))]) := by
  refine Ct.of mi_X11_drop [some (.ref hm), some (.int (nI j))] 0 rfl (Nat.le_of_ble_eq_true rfl) ?_
  intro p e s m args below meth c C hr
  have ej : (nI j).toNatClampNeg = j := nI_clamp (by omega)
  refine ww_aload_n (i := 0) C dX11_drop_0 rfl rfl 1 rfl ?_
  refine ww_iconst (v := 0) C dX11_drop_1 (by decide) 2 rfl ?_
  refine ww_mput_0 C fe_X11_52 dX11_drop_2 5 rfl ?_
  refine ww_iload_n (i := 1) C dX11_drop_5 rfl rfl 6 rfl ?_
  refine ww_callS1p C (c_X11_isSheet l Γ) mi_X11_isSheet st_X11_isSheet ml_X11_66 dX11_drop_6 (Nat.le_of_ble_eq_true rfl) (Nat.le_of_ble_eq_true rfl) (Nat.le_of_ble_eq_true rfl) ⟨Nat.zero_le _, Nat.zero_le _⟩ [] rfl (by decide) 9 rfl ?_
  refine ww_if_ne C 15 dX11_drop_9 (by decide) 12 rfl (fun h_9 => ?_) (fun h_9 => ?_)
  · skip
    refine ww_aload_n (i := 0) C dX11_drop_15 rfl rfl 16 rfl ?_
    refine ww_iconst (v := 0) C dX11_drop_16 (by decide) 17 rfl ?_
    refine ww_mput_1 C fe_X11_56 dX11_drop_17 20 rfl ?_
    refine ww_aload_n (i := 0) C dX11_drop_20 rfl rfl 21 rfl ?_
    refine ww_get C fe_X11_7 dX11_drop_21 0 rfl rfl 24 rfl ?_
    refine ww_iload_n (i := 1) C dX11_drop_24 rfl rfl 25 rfl ?_
    refine ww_iald C dX11_drop_25 1 rfl (vp_in_nI hj (by decide)) 26 rfl ?_
    rw [ej]
    refine ww_if_ge C 35 dX11_drop_26 (by decide) 29 rfl (fun h_26 => ?_) (fun h_26 => ?_)
    · exact absurd h_26 (Int32.not_le.mpr hl)
    · skip
      refine ww_aload_n (i := 0) C dX11_drop_29 rfl rfl 30 rfl ?_
      refine ww_iconst (v := 1) C dX11_drop_30 (by decide) 31 rfl ?_
      refine ww_callV1 C (c_X11_found l Γ) mi_X11_found im_X11_found se_X11_found ml_X11_73 dX11_drop_31 0 rfl rfl rfl (Nat.le_of_ble_eq_true rfl) (Nat.le_of_ble_eq_true rfl) (Nat.le_of_ble_eq_true rfl) ⟨Nat.zero_le _, Nat.zero_le _⟩ [0] rfl (by decide) rfl 34 rfl ?_
      exact ww_iret C hr dX11_drop_34 rfl rfl
  · exact absurd (⟨nI_pos (by omega), nI_nlt (a := 7) (by omega) (by decide)⟩ : ¬ nI j < 0 ∧ ¬ nI 7 < nI j) (bI_e0 h_9)
theorem c_X11_drop_ok (l : Launch) (Γ : Gm) {hm : Nat} {q : Nat → Nat} {I : Nat → Int32} {j : Nat} {ln mn : Nat → Int32} (hj : j < 8) (hl : ¬ ln j < 0) : Ct l Γ yX11_drop cX11_drop 2 (some .int) 4 [.ref hm, .int (nI j)] ([wMo hm q (I), (q 2, .inl (Γ.2.1, 8, .inl (ln))), (q 3, .inl (Γ.2.1, 8, .inl (mn)))]) (some (.int (mn j))) ([wMo hm q (upd (upd I 0 (0)) 1 (0)), (q 2, .inl (Γ.2.1, 8, .inl (upd ln j (-1)))), (q 3, .inl (Γ.2.1, 8, .inl (mn)))]) := by
  refine Ct.of mi_X11_drop [some (.ref hm), some (.int (nI j))] 0 rfl (Nat.le_of_ble_eq_true rfl) ?_
  intro p e s m args below meth c C hr
  have ej : (nI j).toNatClampNeg = j := nI_clamp (by omega)
  refine ww_aload_n (i := 0) C dX11_drop_0 rfl rfl 1 rfl ?_
  refine ww_iconst (v := 0) C dX11_drop_1 (by decide) 2 rfl ?_
  refine ww_mput_0 C fe_X11_52 dX11_drop_2 5 rfl ?_
  refine ww_iload_n (i := 1) C dX11_drop_5 rfl rfl 6 rfl ?_
  refine ww_callS1p C (c_X11_isSheet l Γ) mi_X11_isSheet st_X11_isSheet ml_X11_66 dX11_drop_6 (Nat.le_of_ble_eq_true rfl) (Nat.le_of_ble_eq_true rfl) (Nat.le_of_ble_eq_true rfl) ⟨Nat.zero_le _, Nat.zero_le _⟩ [] rfl (by decide) 9 rfl ?_
  refine ww_if_ne C 15 dX11_drop_9 (by decide) 12 rfl (fun h_9 => ?_) (fun h_9 => ?_)
  · skip
    refine ww_aload_n (i := 0) C dX11_drop_15 rfl rfl 16 rfl ?_
    refine ww_iconst (v := 0) C dX11_drop_16 (by decide) 17 rfl ?_
    refine ww_mput_1 C fe_X11_56 dX11_drop_17 20 rfl ?_
    refine ww_aload_n (i := 0) C dX11_drop_20 rfl rfl 21 rfl ?_
    refine ww_get C fe_X11_7 dX11_drop_21 0 rfl rfl 24 rfl ?_
    refine ww_iload_n (i := 1) C dX11_drop_24 rfl rfl 25 rfl ?_
    refine ww_iald C dX11_drop_25 1 rfl (vp_in_nI hj (by decide)) 26 rfl ?_
    rw [ej]
    refine ww_if_ge C 35 dX11_drop_26 (by decide) 29 rfl (fun h_26 => ?_) (fun h_26 => ?_)
    · skip
      refine ww_aload_n (i := 0) C dX11_drop_35 rfl rfl 36 rfl ?_
      refine ww_get C fe_X11_7 dX11_drop_36 0 rfl rfl 39 rfl ?_
      refine ww_iload_n (i := 1) C dX11_drop_39 rfl rfl 40 rfl ?_
      refine ww_iconst (v := (-1)) C dX11_drop_40 (by decide) 41 rfl ?_
      refine ww_iast C dX11_drop_41 1 rfl (vp_in_nI hj (by decide)) 42 rfl ?_
      refine ww_aload_n (i := 0) C dX11_drop_42 rfl rfl 43 rfl ?_
      refine ww_get C fe_X11_13 dX11_drop_43 0 rfl rfl 46 rfl ?_
      refine ww_iload_n (i := 1) C dX11_drop_46 rfl rfl 47 rfl ?_
      refine ww_iald C dX11_drop_47 2 rfl (vp_in_nI hj (by decide)) 48 rfl ?_
      exact ww_iret C hr dX11_drop_48 (by rw [ej]) (by rw [ej]; rfl)
    · exact absurd (Int32.not_lt.mp hl) h_26
  · exact absurd (⟨nI_pos (by omega), nI_nlt (a := 7) (by omega) (by decide)⟩ : ¬ nI j < 0 ∧ ¬ nI 7 < nI j) (bI_e0 h_9)
theorem l16_iff {sz : Nat} {a : Int32} (hs : sz ≤ 60) (h0 : ¬ a < 0) : ¬ (lg_cmp (a.toInt64 + 16) (nI sz).toInt64 ≤ 0) ↔ ¬ ∃ k, k + 16 ≤ sz ∧ a = nI k := by
  rw [lg_cmp_le, Int64.le_iff_toInt_le]
  obtain ⟨k, hk, rfl⟩ := nI_of h0
  have e : ((nI k).toInt64 + 16).toInt = (k : Int) + 16 := by
    rw [show (16 : Int64) = (16 : Int32).toInt64 from rfl, i64_add, nI_toInt hk]
    rfl
  rw [e, Int32.toInt_toInt64, nI_toInt (by omega)]
  constructor
  · rintro h ⟨k', h1, h2⟩
    rw [nI_eq hk (by omega)] at h2
    omega
  · intro h h1
    exact h ⟨k, by omega, rfl⟩
theorem c_X11_cast_null (l : Launch) (Γ : Gm) {hm : Nat} {q : Nat → Nat} {I : Nat → Int32} {j : Nat} {a : Int32} {ln : Nat → Int32} (hj : j < 8) (hl : ln j < 0) : Ct l Γ yX11_cast cX11_cast 6 (some .int) 4 [.ref hm, .int (nI j), .int a] ([wMo hm q (I), (q 2, .inl (Γ.2.1, 8, .inl (ln)))]) (some (.int (-1000011))) ([wMo hm q (upd (upd I 0 (0)) 1 (1)), (q 2, .inl (Γ.2.1, 8, .inl (ln)))]) := by
  refine Ct.of mi_X11_cast [some (.ref hm), some (.int (nI j)), some (.int a), none, none, none] 3 rfl (Nat.le_of_ble_eq_true rfl) ?_
  intro p e s m args below meth c C hr
  have ej : (nI j).toNatClampNeg = j := nI_clamp (by omega)
  refine ww_aload_n (i := 0) C dX11_cast_0 rfl rfl 1 rfl ?_
  refine ww_iconst (v := 0) C dX11_cast_1 (by decide) 2 rfl ?_
  refine ww_mput_0 C fe_X11_52 dX11_cast_2 5 rfl ?_
  refine ww_iload_n (i := 1) C dX11_cast_5 rfl rfl 6 rfl ?_
  refine ww_callS1p C (c_X11_isSheet l Γ) mi_X11_isSheet st_X11_isSheet ml_X11_66 dX11_cast_6 (Nat.le_of_ble_eq_true rfl) (Nat.le_of_ble_eq_true rfl) (Nat.le_of_ble_eq_true rfl) ⟨Nat.zero_le _, Nat.zero_le _⟩ [] rfl (by decide) 9 rfl ?_
  refine ww_if_ne C 15 dX11_cast_9 (by decide) 12 rfl (fun h_9 => ?_) (fun h_9 => ?_)
  · skip
    refine ww_aload_n (i := 0) C dX11_cast_15 rfl rfl 16 rfl ?_
    refine ww_get C fe_X11_7 dX11_cast_16 0 rfl rfl 19 rfl ?_
    refine ww_iload_n (i := 1) C dX11_cast_19 rfl rfl 20 rfl ?_
    refine ww_iald C dX11_cast_20 1 rfl (vp_in_nI hj (by decide)) 21 rfl ?_
    rw [ej]
    refine ww_if_ge C 30 dX11_cast_21 (by decide) 24 rfl (fun h_21 => ?_) (fun h_21 => ?_)
    · exact absurd h_21 (Int32.not_le.mpr hl)
    · skip
      refine ww_aload_n (i := 0) C dX11_cast_24 rfl rfl 25 rfl ?_
      refine ww_iconst (v := 1) C dX11_cast_25 (by decide) 26 rfl ?_
      refine ww_callV1 C (c_X11_found l Γ) mi_X11_found im_X11_found se_X11_found ml_X11_73 dX11_cast_26 0 rfl rfl rfl (Nat.le_of_ble_eq_true rfl) (Nat.le_of_ble_eq_true rfl) (Nat.le_of_ble_eq_true rfl) ⟨Nat.zero_le _, Nat.zero_le _⟩ [0] rfl (by decide) rfl 29 rfl ?_
      exact ww_iret C hr dX11_cast_29 rfl rfl
  · exact absurd (⟨nI_pos (by omega), nI_nlt (a := 7) (by omega) (by decide)⟩ : ¬ nI j < 0 ∧ ¬ nI 7 < nI j) (bI_e0 h_9)
theorem c_X11_cast_place (l : Launch) (Γ : Gm) {hm : Nat} {q : Nat → Nat} {I : Nat → Int32} {j sz : Nat} {a : Int32} {ln mn : Nat → Int32} (hj : j < 8) (hl : ¬ ln j < 0) (hm9 : mn j = nI sz) (hs : sz ≤ 60) (ha : ¬ ∃ k, k + 16 ≤ sz ∧ a = nI k) : Ct l Γ yX11_cast cX11_cast 6 (some .int) 4 [.ref hm, .int (nI j), .int a] ([wMo hm q (I), (q 2, .inl (Γ.2.1, 8, .inl (ln))), (q 3, .inl (Γ.2.1, 8, .inl (mn)))]) (some (.int (-1000012))) ([wMo hm q (upd (upd I 0 (0)) 1 (2)), (q 2, .inl (Γ.2.1, 8, .inl (ln))), (q 3, .inl (Γ.2.1, 8, .inl (mn)))]) := by
  refine Ct.of mi_X11_cast [some (.ref hm), some (.int (nI j)), some (.int a), none, none, none] 3 rfl (Nat.le_of_ble_eq_true rfl) ?_
  intro p e s m args below meth c C hr
  have ej : (nI j).toNatClampNeg = j := nI_clamp (by omega)
  refine ww_aload_n (i := 0) C dX11_cast_0 rfl rfl 1 rfl ?_
  refine ww_iconst (v := 0) C dX11_cast_1 (by decide) 2 rfl ?_
  refine ww_mput_0 C fe_X11_52 dX11_cast_2 5 rfl ?_
  refine ww_iload_n (i := 1) C dX11_cast_5 rfl rfl 6 rfl ?_
  refine ww_callS1p C (c_X11_isSheet l Γ) mi_X11_isSheet st_X11_isSheet ml_X11_66 dX11_cast_6 (Nat.le_of_ble_eq_true rfl) (Nat.le_of_ble_eq_true rfl) (Nat.le_of_ble_eq_true rfl) ⟨Nat.zero_le _, Nat.zero_le _⟩ [] rfl (by decide) 9 rfl ?_
  refine ww_if_ne C 15 dX11_cast_9 (by decide) 12 rfl (fun h_9 => ?_) (fun h_9 => ?_)
  · skip
    refine ww_aload_n (i := 0) C dX11_cast_15 rfl rfl 16 rfl ?_
    refine ww_get C fe_X11_7 dX11_cast_16 0 rfl rfl 19 rfl ?_
    refine ww_iload_n (i := 1) C dX11_cast_19 rfl rfl 20 rfl ?_
    refine ww_iald C dX11_cast_20 1 rfl (vp_in_nI hj (by decide)) 21 rfl ?_
    rw [ej]
    refine ww_if_ge C 30 dX11_cast_21 (by decide) 24 rfl (fun h_21 => ?_) (fun h_21 => ?_)
    · skip
      refine ww_iload_n (i := 2) C dX11_cast_30 rfl rfl 31 rfl ?_
      refine ww_if_lt C 51 dX11_cast_31 (by decide) 34 rfl (fun h_31 => ?_) (fun h_31 => ?_)
      · skip
        refine ww_aload_n (i := 0) C dX11_cast_51 rfl rfl 52 rfl ?_
        refine ww_iconst (v := 2) C dX11_cast_52 (by decide) 53 rfl ?_
        refine ww_callV1 C (c_X11_found l Γ) mi_X11_found im_X11_found se_X11_found ml_X11_73 dX11_cast_53 0 rfl rfl rfl (Nat.le_of_ble_eq_true rfl) (Nat.le_of_ble_eq_true rfl) (Nat.le_of_ble_eq_true rfl) ⟨Nat.zero_le _, Nat.zero_le _⟩ [0] rfl (by decide) rfl 56 rfl ?_
        exact ww_iret C hr dX11_cast_56 rfl rfl
      · skip
        refine ww_iload_n (i := 2) C dX11_cast_34 rfl rfl 35 rfl ?_
        refine ww_i2l C dX11_cast_35 36 rfl ?_
        refine ww_ldc2 C cn_X11_79 dX11_cast_36 39 rfl ?_
        refine ww_ladd C dX11_cast_39 40 rfl ?_
        refine ww_aload_n (i := 0) C dX11_cast_40 rfl rfl 41 rfl ?_
        refine ww_get C fe_X11_13 dX11_cast_41 0 rfl rfl 44 rfl ?_
        refine ww_iload_n (i := 1) C dX11_cast_44 rfl rfl 45 rfl ?_
        refine ww_iald C dX11_cast_45 2 rfl (vp_in_nI hj (by decide)) 46 rfl ?_
        rw [ej, hm9]
        refine ww_i2l C dX11_cast_46 47 rfl ?_
        refine ww_lcmp C dX11_cast_47 48 rfl ?_
        refine ww_if_le C 57 dX11_cast_48 (by decide) 51 rfl (fun h_48 => ?_) (fun h_48 => ?_)
        · exact absurd h_48 ((l16_iff hs h_31).mpr ha)
        · skip
          refine ww_aload_n (i := 0) C dX11_cast_51 rfl rfl 52 rfl ?_
          refine ww_iconst (v := 2) C dX11_cast_52 (by decide) 53 rfl ?_
          refine ww_callV1 C (c_X11_found l Γ) mi_X11_found im_X11_found se_X11_found ml_X11_73 dX11_cast_53 0 rfl rfl rfl (Nat.le_of_ble_eq_true rfl) (Nat.le_of_ble_eq_true rfl) (Nat.le_of_ble_eq_true rfl) ⟨Nat.zero_le _, Nat.zero_le _⟩ [0] rfl (by decide) rfl 56 rfl ?_
          exact ww_iret C hr dX11_cast_56 rfl rfl
    · exact absurd (Int32.not_lt.mp hl) h_21
  · exact absurd (⟨nI_pos (by omega), nI_nlt (a := 7) (by omega) (by decide)⟩ : ¬ nI j < 0 ∧ ¬ nI 7 < nI j) (bI_e0 h_9)
def s_off (it : Nat → Int32) (j : Nat) : Nat → Int32 := fun x => it (60 * j + x)
theorem i32_max (x : Int32) : x ≤ 2147483647 := by
  rw [Int32.le_iff_toInt_le]
  have := x.toInt_lt
  have e : (2147483647 : Int32).toInt = 2147483647 := by decide
  omega
theorem c_X11_cast_neg (l : Launch) (Γ : Gm) {hm : Nat} {q : Nat → Nat} {I : Nat → Int32} {j sz a : Nat} {ln mn it : Nat → Int32} (hj : j < 8) (hl : ¬ ln j < 0) (hm9 : mn j = nI sz) (hs : sz ≤ 60) (ha : a + 16 ≤ sz) (hw : ¬ s_within (s_off it j) a 0 2147483647 16) : Ct l Γ yX11_cast cX11_cast 6 (some .int) 4 [.ref hm, .int (nI j), .int (nI a)] ([wMo hm q (I), (q 2, .inl (Γ.2.1, 8, .inl (ln))), (q 3, .inl (Γ.2.1, 8, .inl (mn))), (q 4, .inl (Γ.2.1, 480, .inl (it)))]) (some (.int (-1000001))) ([wMo hm q (upd I 0 (0)), (q 2, .inl (Γ.2.1, 8, .inl (ln))), (q 3, .inl (Γ.2.1, 8, .inl (mn))), (q 4, .inl (Γ.2.1, 480, .inl (it)))]) := by
  refine Ct.of mi_X11_cast [some (.ref hm), some (.int (nI j)), some (.int (nI a)), none, none, none] 3 rfl (Nat.le_of_ble_eq_true rfl) ?_
  intro p e s m args below meth c C hr
  have ej : (nI j).toNatClampNeg = j := nI_clamp (by omega)
  have e60 : ∀ a : Nat, (60 : Int32) * nI j + nI a = nI (60 * j + a) := fun a => by rw [show (60 : Int32) = nI 60 from rfl, pk_mul, nI_add]
  refine ww_aload_n (i := 0) C dX11_cast_0 rfl rfl 1 rfl ?_
  refine ww_iconst (v := 0) C dX11_cast_1 (by decide) 2 rfl ?_
  refine ww_mput_0 C fe_X11_52 dX11_cast_2 5 rfl ?_
  refine ww_iload_n (i := 1) C dX11_cast_5 rfl rfl 6 rfl ?_
  refine ww_callS1p C (c_X11_isSheet l Γ) mi_X11_isSheet st_X11_isSheet ml_X11_66 dX11_cast_6 (Nat.le_of_ble_eq_true rfl) (Nat.le_of_ble_eq_true rfl) (Nat.le_of_ble_eq_true rfl) ⟨Nat.zero_le _, Nat.zero_le _⟩ [] rfl (by decide) 9 rfl ?_
  refine ww_if_ne C 15 dX11_cast_9 (by decide) 12 rfl (fun h_9 => ?_) (fun h_9 => ?_)
  · skip
    refine ww_aload_n (i := 0) C dX11_cast_15 rfl rfl 16 rfl ?_
    refine ww_get C fe_X11_7 dX11_cast_16 0 rfl rfl 19 rfl ?_
    refine ww_iload_n (i := 1) C dX11_cast_19 rfl rfl 20 rfl ?_
    refine ww_iald C dX11_cast_20 1 rfl (vp_in_nI hj (by decide)) 21 rfl ?_
    rw [ej]
    refine ww_if_ge C 30 dX11_cast_21 (by decide) 24 rfl (fun h_21 => ?_) (fun h_21 => ?_)
    · skip
      refine ww_iload_n (i := 2) C dX11_cast_30 rfl rfl 31 rfl ?_
      refine ww_if_lt C 51 dX11_cast_31 (by decide) 34 rfl (fun h_31 => ?_) (fun h_31 => ?_)
      · exact absurd h_31 (nI_pos (by omega))
      · skip
        refine ww_iload_n (i := 2) C dX11_cast_34 rfl rfl 35 rfl ?_
        refine ww_i2l C dX11_cast_35 36 rfl ?_
        refine ww_ldc2 C cn_X11_79 dX11_cast_36 39 rfl ?_
        refine ww_ladd C dX11_cast_39 40 rfl ?_
        refine ww_aload_n (i := 0) C dX11_cast_40 rfl rfl 41 rfl ?_
        refine ww_get C fe_X11_13 dX11_cast_41 0 rfl rfl 44 rfl ?_
        refine ww_iload_n (i := 1) C dX11_cast_44 rfl rfl 45 rfl ?_
        refine ww_iald C dX11_cast_45 2 rfl (vp_in_nI hj (by decide)) 46 rfl ?_
        rw [ej, hm9]
        refine ww_i2l C dX11_cast_46 47 rfl ?_
        refine ww_lcmp C dX11_cast_47 48 rfl ?_
        refine ww_if_le C 57 dX11_cast_48 (by decide) 51 rfl (fun h_48 => ?_) (fun h_48 => ?_)
        · skip
          refine ww_iconst (v := 0) C dX11_cast_57 (by decide) 58 rfl ?_
          refine ww_istore_n (i := 3) C dX11_cast_58 rfl (by decide) rfl 59 rfl ?_
          refine ww_iconst (v := 0) C dX11_cast_59 (by decide) 60 rfl ?_
          refine ww_istore C dX11_cast_60 (by decide) rfl 62 rfl ?_
          refine ww_lv (lv' := [some (.ref hm), some (.int (nI j)), some (.int (nI a)), some (.int 0), some (.int 0), none]) (lvle_same (lvle_same (lvle_same (lvle_same (lvle_same (lvle_none lvle_nil)))))) ?_
          refine ww_loop (fun k : Nat => 16 - k) (fun k => k ≤ 16 ∧ s_within (s_off it j) a 0 2147483647 k) (fun _ => [wMo hm q (upd I 0 (0)), (q 2, .inl (Γ.2.1, 8, .inl (ln))), (q 3, .inl (Γ.2.1, 8, .inl (mn))), (q 4, .inl (Γ.2.1, 480, .inl (it)))]) (fun k => [some (.ref hm), some (.int (nI j)), some (.int (nI a)), some (.int (s_odd (s_off it j) a k)), some (.int (nI k)), none]) (0 : Nat) ⟨by omega, trivial⟩ rfl rfl (fun k hx ih => ?_)
          obtain ⟨hk, hwi⟩ := hx
          try dsimp only at hk hwi ih ⊢
          refine ww_iload C dX11_cast_62 rfl 64 rfl ?_
          refine ww_bipush (v := 16) C dX11_cast_64 (by decide) 66 rfl ?_
          refine ww_icmp_ge C 109 dX11_cast_66 (by decide) 69 rfl (fun h_66 => ?_) (fun h_66 => ?_)
          · skip
            obtain rfl : k = 16 := eqN (n := 16) h_66 hk (by decide)
            exact absurd hwi hw
          · skip
            have hlt : k < 16 := ltN (n := 16) h_66 (by decide) (by omega)
            have ec : (nI (60 * j + (a + k))).toNatClampNeg = 60 * j + (a + k) := nI_clamp (by omega)
            refine ww_aload_n (i := 0) C dX11_cast_69 rfl rfl 70 rfl ?_
            refine ww_get C fe_X11_16 dX11_cast_70 0 rfl rfl 73 rfl ?_
            refine ww_bipush (v := 60) C dX11_cast_73 (by decide) 75 rfl ?_
            refine ww_iload_n (i := 1) C dX11_cast_75 rfl rfl 76 rfl ?_
            refine ww_imul C dX11_cast_76 77 rfl ?_
            refine ww_iload_n (i := 2) C dX11_cast_77 rfl rfl 78 rfl ?_
            refine ww_iadd C dX11_cast_78 79 rfl ?_
            refine ww_iload C dX11_cast_79 rfl 81 rfl ?_
            refine ww_iadd C dX11_cast_81 82 rfl ?_
            rw [show (60 : Int32) * nI j + nI a + nI k = nI (60 * j + (a + k)) by rw [e60 a, nI_add, Nat.add_assoc]]
            refine ww_iald C dX11_cast_82 3 rfl (vp_in_nI (by omega) (by decide)) 83 rfl ?_
            rw [ec, show it (60 * j + (a + k)) = s_off it j (a + k) from rfl]
            refine ww_istore C dX11_cast_83 (by decide) rfl 85 rfl ?_
            refine ww_iload C dX11_cast_85 rfl 87 rfl ?_
            refine ww_if_ge C 93 dX11_cast_87 (by decide) 90 rfl (fun h_87 => ?_) (fun h_87 => ?_)
            · skip
              refine ww_iload_n (i := 3) C dX11_cast_93 rfl rfl 94 rfl ?_
              refine ww_iload C dX11_cast_94 rfl 96 rfl ?_
              refine ww_iconst (v := 1) C dX11_cast_96 (by decide) 97 rfl ?_
              refine ww_iand C dX11_cast_97 98 rfl ?_
              refine ww_iload C dX11_cast_98 rfl 100 rfl ?_
              refine ww_ishl C dX11_cast_100 101 rfl ?_
              refine ww_ior C dX11_cast_101 102 rfl ?_
              refine ww_istore_n (i := 3) C dX11_cast_102 rfl (by decide) rfl 103 rfl ?_
              refine ww_iinc (y := 1) C dX11_cast_103 rfl (by decide) (by decide) rfl 106 rfl ?_
              refine ww_goto C 62 dX11_cast_106 (by decide) ?_
              refine ww_lv (lv' := [some (.ref hm), some (.int (nI j)), some (.int (nI a)), some (.int (s_odd (s_off it j) a (k + 1))), some (.int (nI (k + 1))), none]) (by rw [nI_succ k]; exact (lvle_same (lvle_same (lvle_same (lvle_same (lvle_same (lvle_none lvle_nil))))))) (ih (k + 1) ⟨by omega, hwi, Int32.not_lt.mpr h_87, i32_max _⟩ (by omega))
            · skip
              have hz : ¬ s_within (s_off it j) a 0 2147483647 16 := fun q => (s_within_iff.mp q k hlt).1 (Int32.not_le.mp h_87)
              refine ww_ldc C cn_X11_72 dX11_cast_90 92 rfl ?_
              skip
              exact ww_iret C hr dX11_cast_92 rfl rfl
        · exact absurd ⟨a, ha, rfl⟩ ((l16_iff hs (nI_pos (by omega))).mp h_48)
    · exact absurd (Int32.not_lt.mp hl) h_21
  · exact absurd (⟨nI_pos (by omega), nI_nlt (a := 7) (by omega) (by decide)⟩ : ¬ nI j < 0 ∧ ¬ nI 7 < nI j) (bI_e0 h_9)
theorem c_X11_cast_ok (l : Launch) (Γ : Gm) {hm : Nat} {q : Nat → Nat} {I : Nat → Int32} {j sz a : Nat} {ln mn it : Nat → Int32} (hj : j < 8) (hl : ¬ ln j < 0) (hm9 : mn j = nI sz) (hs : sz ≤ 60) (ha : a + 16 ≤ sz) (hw : s_within (s_off it j) a 0 2147483647 16) : Ct l Γ yX11_cast cX11_cast 6 (some .int) 4 [.ref hm, .int (nI j), .int (nI a)] ([wMo hm q (I), (q 2, .inl (Γ.2.1, 8, .inl (ln))), (q 3, .inl (Γ.2.1, 8, .inl (mn))), (q 4, .inl (Γ.2.1, 480, .inl (it)))]) (some (.int (s_odd (s_off it j) a 16))) ([wMo hm q (upd (upd (upd I 0 (0)) 1 (0)) 5 (s_odd (s_off it j) a 16)), (q 2, .inl (Γ.2.1, 8, .inl (ln))), (q 3, .inl (Γ.2.1, 8, .inl (mn))), (q 4, .inl (Γ.2.1, 480, .inl (it)))]) := by
  refine Ct.of mi_X11_cast [some (.ref hm), some (.int (nI j)), some (.int (nI a)), none, none, none] 3 rfl (Nat.le_of_ble_eq_true rfl) ?_
  intro p e s m args below meth c C hr
  have ej : (nI j).toNatClampNeg = j := nI_clamp (by omega)
  have e60 : ∀ a : Nat, (60 : Int32) * nI j + nI a = nI (60 * j + a) := fun a => by rw [show (60 : Int32) = nI 60 from rfl, pk_mul, nI_add]
  refine ww_aload_n (i := 0) C dX11_cast_0 rfl rfl 1 rfl ?_
  refine ww_iconst (v := 0) C dX11_cast_1 (by decide) 2 rfl ?_
  refine ww_mput_0 C fe_X11_52 dX11_cast_2 5 rfl ?_
  refine ww_iload_n (i := 1) C dX11_cast_5 rfl rfl 6 rfl ?_
  refine ww_callS1p C (c_X11_isSheet l Γ) mi_X11_isSheet st_X11_isSheet ml_X11_66 dX11_cast_6 (Nat.le_of_ble_eq_true rfl) (Nat.le_of_ble_eq_true rfl) (Nat.le_of_ble_eq_true rfl) ⟨Nat.zero_le _, Nat.zero_le _⟩ [] rfl (by decide) 9 rfl ?_
  refine ww_if_ne C 15 dX11_cast_9 (by decide) 12 rfl (fun h_9 => ?_) (fun h_9 => ?_)
  · skip
    refine ww_aload_n (i := 0) C dX11_cast_15 rfl rfl 16 rfl ?_
    refine ww_get C fe_X11_7 dX11_cast_16 0 rfl rfl 19 rfl ?_
    refine ww_iload_n (i := 1) C dX11_cast_19 rfl rfl 20 rfl ?_
    refine ww_iald C dX11_cast_20 1 rfl (vp_in_nI hj (by decide)) 21 rfl ?_
    rw [ej]
    refine ww_if_ge C 30 dX11_cast_21 (by decide) 24 rfl (fun h_21 => ?_) (fun h_21 => ?_)
    · skip
      refine ww_iload_n (i := 2) C dX11_cast_30 rfl rfl 31 rfl ?_
      refine ww_if_lt C 51 dX11_cast_31 (by decide) 34 rfl (fun h_31 => ?_) (fun h_31 => ?_)
      · exact absurd h_31 (nI_pos (by omega))
      · skip
        refine ww_iload_n (i := 2) C dX11_cast_34 rfl rfl 35 rfl ?_
        refine ww_i2l C dX11_cast_35 36 rfl ?_
        refine ww_ldc2 C cn_X11_79 dX11_cast_36 39 rfl ?_
        refine ww_ladd C dX11_cast_39 40 rfl ?_
        refine ww_aload_n (i := 0) C dX11_cast_40 rfl rfl 41 rfl ?_
        refine ww_get C fe_X11_13 dX11_cast_41 0 rfl rfl 44 rfl ?_
        refine ww_iload_n (i := 1) C dX11_cast_44 rfl rfl 45 rfl ?_
        refine ww_iald C dX11_cast_45 2 rfl (vp_in_nI hj (by decide)) 46 rfl ?_
        rw [ej, hm9]
        refine ww_i2l C dX11_cast_46 47 rfl ?_
        refine ww_lcmp C dX11_cast_47 48 rfl ?_
        refine ww_if_le C 57 dX11_cast_48 (by decide) 51 rfl (fun h_48 => ?_) (fun h_48 => ?_)
        · skip
          refine ww_iconst (v := 0) C dX11_cast_57 (by decide) 58 rfl ?_
          refine ww_istore_n (i := 3) C dX11_cast_58 rfl (by decide) rfl 59 rfl ?_
          refine ww_iconst (v := 0) C dX11_cast_59 (by decide) 60 rfl ?_
          refine ww_istore C dX11_cast_60 (by decide) rfl 62 rfl ?_
          refine ww_lv (lv' := [some (.ref hm), some (.int (nI j)), some (.int (nI a)), some (.int 0), some (.int 0), none]) (lvle_same (lvle_same (lvle_same (lvle_same (lvle_same (lvle_none lvle_nil)))))) ?_
          refine ww_loop (fun k : Nat => 16 - k) (fun k => k ≤ 16 ∧ s_within (s_off it j) a 0 2147483647 k) (fun _ => [wMo hm q (upd I 0 (0)), (q 2, .inl (Γ.2.1, 8, .inl (ln))), (q 3, .inl (Γ.2.1, 8, .inl (mn))), (q 4, .inl (Γ.2.1, 480, .inl (it)))]) (fun k => [some (.ref hm), some (.int (nI j)), some (.int (nI a)), some (.int (s_odd (s_off it j) a k)), some (.int (nI k)), none]) (0 : Nat) ⟨by omega, trivial⟩ rfl rfl (fun k hx ih => ?_)
          obtain ⟨hk, hwi⟩ := hx
          try dsimp only at hk hwi ih ⊢
          refine ww_iload C dX11_cast_62 rfl 64 rfl ?_
          refine ww_bipush (v := 16) C dX11_cast_64 (by decide) 66 rfl ?_
          refine ww_icmp_ge C 109 dX11_cast_66 (by decide) 69 rfl (fun h_66 => ?_) (fun h_66 => ?_)
          · skip
            obtain rfl : k = 16 := eqN (n := 16) h_66 hk (by decide)
            refine ww_aload_n (i := 0) C dX11_cast_109 rfl rfl 110 rfl ?_
            refine ww_iconst (v := 0) C dX11_cast_110 (by decide) 111 rfl ?_
            refine ww_mput_1 C fe_X11_56 dX11_cast_111 114 rfl ?_
            refine ww_aload_n (i := 0) C dX11_cast_114 rfl rfl 115 rfl ?_
            refine ww_iload_n (i := 3) C dX11_cast_115 rfl rfl 116 rfl ?_
            refine ww_mput_5 C fe_X11_81 dX11_cast_116 119 rfl ?_
            refine ww_aload_n (i := 0) C dX11_cast_119 rfl rfl 120 rfl ?_
            refine ww_get C fe_X11_81 dX11_cast_120 0 rfl rfl 123 rfl ?_
            exact ww_iret C hr dX11_cast_123 rfl rfl
          · skip
            have hlt : k < 16 := ltN (n := 16) h_66 (by decide) (by omega)
            have ec : (nI (60 * j + (a + k))).toNatClampNeg = 60 * j + (a + k) := nI_clamp (by omega)
            refine ww_aload_n (i := 0) C dX11_cast_69 rfl rfl 70 rfl ?_
            refine ww_get C fe_X11_16 dX11_cast_70 0 rfl rfl 73 rfl ?_
            refine ww_bipush (v := 60) C dX11_cast_73 (by decide) 75 rfl ?_
            refine ww_iload_n (i := 1) C dX11_cast_75 rfl rfl 76 rfl ?_
            refine ww_imul C dX11_cast_76 77 rfl ?_
            refine ww_iload_n (i := 2) C dX11_cast_77 rfl rfl 78 rfl ?_
            refine ww_iadd C dX11_cast_78 79 rfl ?_
            refine ww_iload C dX11_cast_79 rfl 81 rfl ?_
            refine ww_iadd C dX11_cast_81 82 rfl ?_
            rw [show (60 : Int32) * nI j + nI a + nI k = nI (60 * j + (a + k)) by rw [e60 a, nI_add, Nat.add_assoc]]
            refine ww_iald C dX11_cast_82 3 rfl (vp_in_nI (by omega) (by decide)) 83 rfl ?_
            rw [ec, show it (60 * j + (a + k)) = s_off it j (a + k) from rfl]
            refine ww_istore C dX11_cast_83 (by decide) rfl 85 rfl ?_
            refine ww_iload C dX11_cast_85 rfl 87 rfl ?_
            refine ww_if_ge C 93 dX11_cast_87 (by decide) 90 rfl (fun h_87 => ?_) (fun h_87 => ?_)
            · skip
              refine ww_iload_n (i := 3) C dX11_cast_93 rfl rfl 94 rfl ?_
              refine ww_iload C dX11_cast_94 rfl 96 rfl ?_
              refine ww_iconst (v := 1) C dX11_cast_96 (by decide) 97 rfl ?_
              refine ww_iand C dX11_cast_97 98 rfl ?_
              refine ww_iload C dX11_cast_98 rfl 100 rfl ?_
              refine ww_ishl C dX11_cast_100 101 rfl ?_
              refine ww_ior C dX11_cast_101 102 rfl ?_
              refine ww_istore_n (i := 3) C dX11_cast_102 rfl (by decide) rfl 103 rfl ?_
              refine ww_iinc (y := 1) C dX11_cast_103 rfl (by decide) (by decide) rfl 106 rfl ?_
              refine ww_goto C 62 dX11_cast_106 (by decide) ?_
              refine ww_lv (lv' := [some (.ref hm), some (.int (nI j)), some (.int (nI a)), some (.int (s_odd (s_off it j) a (k + 1))), some (.int (nI (k + 1))), none]) (by rw [nI_succ k]; exact (lvle_same (lvle_same (lvle_same (lvle_same (lvle_same (lvle_none lvle_nil))))))) (ih (k + 1) ⟨by omega, hwi, Int32.not_lt.mpr h_87, i32_max _⟩ (by omega))
            · skip
              exact absurd (s_within_iff.mp hw k hlt).1 (fun q => q (Int32.not_le.mp h_87))
        · exact absurd ⟨a, ha, rfl⟩ ((l16_iff hs (nI_pos (by omega))).mp h_48)
    · exact absurd (Int32.not_lt.mp hl) h_21
  · exact absurd (⟨nI_pos (by omega), nI_nlt (a := 7) (by omega) (by decide)⟩ : ¬ nI j < 0 ∧ ¬ nI 7 < nI j) (bI_e0 h_9)
