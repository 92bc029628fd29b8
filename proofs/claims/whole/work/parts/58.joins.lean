section WWa
variable {p : Program} {l : Launch} {e : Env} {R : Room} {s : State} {m : MethodId} {args : Array Value} {below : List Frame} {meth : Method} {c : Code} {cells slots : Nat} {Q : State → Prop} {Γ : Gm} {A : Nat → Prop} {nL dd : Nat} {cc : ByteArray} {own : String} {ws : va_W} {pc : Nat} {lv : List (Option Value)} {st : List Value} {wa wb : va_W} {α : Type} {Qx : α → Prop}
theorem ap_l {k : Nat} {x : Nat × va_E} (h : wa[k]? = some x) : (wa ++ wb)[k]? = some x := by
  rw [List.getElem?_append_left (List.getElem?_eq_some_iff.mp h).1]; exact h
theorem ap_r {k : Nat} {x : Nat × va_E} (h : wb[k]? = some x) : (wa ++ wb)[wa.length + k]? = some x := by
  rw [List.getElem?_append_right (Nat.le_add_right _ _), Nat.add_sub_cancel_left]; exact h
/-- what was in the one part of the world stays, what a call made of the other comes behind it -/
theorem ww_join {wc : va_W} {H H1 : Heap} {D : va_G} {cl : List vw_C} (hP : va_P D cl (wa ++ wb) H) (hD : va_D A (wa ++ wb)) (hF : ∀ q, va_A wa H.size q → A q) (hk : ∀ q : Nat, q < H.size → ¬ va_A wa H.size q → H1[q]? = H[q]?) (hP1 : va_P D cl wc H1) (hD1 : va_D (va_A wa H.size) wc) : va_P D cl (wb ++ wc) H1 ∧ va_D A (wb ++ wc) := by
  have hnA : ∀ (k : Nat) (x : Nat × va_E), wb[k]? = some x → x.1 < H.size ∧ ¬ va_A wa H.size x.1 := fun k x hx => by
    have hlt := (hP _ x (ap_r (wa := wa) hx)).lt
    refine ⟨hlt, ?_⟩
    rintro (⟨j, e, hj⟩ | hj)
    · have h1 := hD.1 j (wa.length + k) (x.1, e) x (ap_l hj) (ap_r hx) rfl
      have h2 := (List.getElem?_eq_some_iff.mp hj).1
      omega
    · omega
  have hPb : va_P D cl wb H := fun k x hx => hP _ x (ap_r hx)
  refine ⟨(hPb.kept (fun k x hx => hk x.1 (hnA k x hx).1 (hnA k x hx).2)).app hP1, va_D.app ⟨fun i j y z hi hj hyz => ?_, fun k y hy => hD.2 _ y (ap_r hy)⟩ (hD1.weaken (fun _ _ _ h => hF _ h)) (fun i j y z hi hj hyz => (hnA i y hi).2 (by rw [hyz]; exact hD1.2 j z hj))⟩
  have := hD.1 _ _ y z (ap_r hi) (ap_r hj) hyz
  omega
theorem fr_l {H0 H : Heap} {locs : List Loc} (hD : va_D A (wa ++ wb)) (hS : va_S A H0 H locs) (hA : ∀ q, H0.size ≤ q → A q) : ∀ q, va_A wa H.size q → A q := fun q h => by
  rcases h with ⟨k, e, h⟩ | h
  · exact hD.2 k _ (ap_l h)
  · exact hA q (Nat.le_trans hS.1 h)
theorem pcl_pre {sz : Nat} {H : Heap} {av : List Value} (C : Cx p R s m args meth c cc own nL Γ A dd) (hP : va_P Γ.1 vwCl (wa ++ wb) H) (hD : va_D A (wa ++ wb)) (hsz : H.size = sz) : ∀ U : State, U.heap = H → s.WarmedH U.vm → PCt Γ sz av wa av.toArray U := fun U hU hW => by
  refine ⟨rfl, by rw [hU]; exact hsz, ?_, va_K.moved hW.alike C.2.2.2.2.2.1, fun i j x y hi hj hxy => hD.1 i j x y (ap_l hi) (ap_l hj) hxy, fun _ _ _ => trivial⟩
  rw [hU]
  exact fun k x hx => hP k x (ap_l hx)
theorem ww_callA (C : Cx p R s m args meth c cc own nL Γ A dd) {y : MethodName} {cy : ByteArray} {mL : Nat} {ret : Option FieldType} {d index b n : Nat} {As rest : List Value} {r : Value} {wa' : va_W} (hct : Ct l Γ y cy mL ret d (.ref b :: As) wa (some r) wa') (hm : MI y cy mL ret n) (him : Cond.instanceMethod y ∈ Tg) (hse : Cond.selects y.cls y y ∈ Tg) (hlk : Cond.methodLink own index y ∈ Tg) (hd : decode cc pc = .ok (.invokevirtual index, 3)) {ci : Nat} {fs : List Value} {qc : vw_C} (he : wa[0]? = some (b, .inr (ci, fs))) (hc : vwCl[ci]? = some qc) (hcn : qc.1 = y.cls) (hdd : d + 1 ≤ dd) (hmL : mL ≤ 16) (hlen : As.length = n) (hrest : rest.length ≤ 4) (hcs : cells ≤ R.cells ∧ slots ≤ R.slots) (pc2 : Nat) (hpc : pc + 3 = pc2) (hst : st = As.reverse ++ .ref b :: rest) (k : WW p l e R s m args below meth c cells slots Q Γ A nL (wb ++ wa') pc2 lv (r :: rest)) : WW p l e R s m args below meth c cells slots Q Γ A nL (wa ++ wb) pc lv st := fun H locs ls hP hD hS hl => by
  subst hst; subst hpc; subst hlen
  have hroom : d + 1 ≤ R.frames ∧ 8 + (mL + 11) + 35 * d ≤ R.locals := ⟨Nat.le_trans hdd C.2.2.2.2.2.2.2.2.1, by have := C.2.2.2.2.2.2.2.2.2; show 8 + (mL + 11) + 35 * d ≤ R.locals; omega⟩
  have hcb : CallB R s args own index y cy mL ret (.code y cy mL ret :: Tg) (rmD d) 0 0 As.length := ⟨rfl, rfl, hroom.1, hroom.2, pay_in C.2.2.2.2.1 (code_good hm.1), List.mem_cons_self, C.2.2.2.2.1 _ hm.1, C.2.2.2.2.1 _ hm.2.1, ⟨hm.2.2.1, hm.2.2.2.1⟩, fun sig h => by have h2 := hm.2.2.2.2.1; rw [h] at h2; exact (Option.some.inj h2).symm, C.2.2.2.2.1 _ hlk⟩
  have hrun := va_runV (e := e) (below := below) (meth := meth) (As := As) (rest := rest) (g := F0 m pc ls (As.reverse ++ .ref b :: rest)) (locs := locs) (cells := cells) (slots := slots) ⟨C.1, C.2.1, C.2.2.1, C.2.2.2.1, C.2.2.2.2.1⟩ (hct H.size) ⟨hcb, C.2.2.2.2.1 _ him, C.2.2.2.2.1 _ hse⟩ ⟨PCt.blind, by have h9 := va_recv C.2.2.2.2.2.1 hP hc (ap_l he); rw [hcn] at h9; exact h9, pcl_pre C hP hD rfl⟩ rfl rfl hl.1 rfl (lv_room (catsum_le hrest)) hd ⟨hcs.1, hcs.2⟩
  have hF := fr_l hD hS C.2.2.2.2.2.2.1
  intro T hT X
  obtain ⟨v, st₀, t, T', L, h0, X', hL, e1, e2, ⟨hv, hP1, hD1, hz, hk⟩, st⟩ := hrun T hT X
  cases hv
  rw [h0] at hz hk
  rw [← e1] at hP1
  obtain ⟨hP2, hD2⟩ := ww_join (H1 := T'.heap) hP hD hF (fun q h1 h2 => by rw [e1]; exact hk q h1 h2) hP1 hD1
  obtain ⟨t2, a1, b1⟩ := k T'.heap (locs ++ L) ls hP2 hD2
    ⟨Nat.le_trans hS.1 (by rw [e1]; exact hz), fun q h1 h2 => by rw [e1, hk q (Nat.lt_of_lt_of_le h1 hS.1) (fun z => h2 (hF q z))]; exact hS.2.1 q h1 h2, fun q hq => by
      rcases List.mem_append.mp hq with h | h
      · exact hS.2.2 q h
      · exact hF _ (hL q h)⟩ hl T' rfl X'
  exact ⟨t2, st t2 a1, b1⟩
theorem ww_callB (C : Cx p R s m args meth c cc own nL Γ A dd) {y : MethodName} {cy : ByteArray} {mL : Nat} {ret : Option FieldType} {d index b n : Nat} {As rest : List Value} {r : α → Value} {wa' : α → va_W} (hct : Ce l Γ y cy mL ret d (.ref b :: As) wa Qx (fun x => some (r x)) wa') (hm : MI y cy mL ret n) (him : Cond.instanceMethod y ∈ Tg) (hse : Cond.selects y.cls y y ∈ Tg) (hlk : Cond.methodLink own index y ∈ Tg) (hd : decode cc pc = .ok (.invokevirtual index, 3)) {ci : Nat} {fs : List Value} {qc : vw_C} (he : wa[0]? = some (b, .inr (ci, fs))) (hc : vwCl[ci]? = some qc) (hcn : qc.1 = y.cls) (hdd : d + 1 ≤ dd) (hmL : mL ≤ 16) (hlen : As.length = n) (hrest : rest.length ≤ 4) (hcs : cells ≤ R.cells ∧ slots ≤ R.slots) (pc2 : Nat) (hpc : pc + 3 = pc2) (hst : st = As.reverse ++ .ref b :: rest) (k : ∀ x, Qx x → WW p l e R s m args below meth c cells slots Q Γ A nL (wb ++ wa' x) pc2 lv (r x :: rest)) : WW p l e R s m args below meth c cells slots Q Γ A nL (wa ++ wb) pc lv st := fun H locs ls hP hD hS hl => by
  subst hst; subst hpc; subst hlen
  have hroom : d + 1 ≤ R.frames ∧ 8 + (mL + 11) + 35 * d ≤ R.locals := ⟨Nat.le_trans hdd C.2.2.2.2.2.2.2.2.1, by have := C.2.2.2.2.2.2.2.2.2; show 8 + (mL + 11) + 35 * d ≤ R.locals; omega⟩
  have hcb : CallB R s args own index y cy mL ret (.code y cy mL ret :: Tg) (rmD d) 0 0 As.length := ⟨rfl, rfl, hroom.1, hroom.2, pay_in C.2.2.2.2.1 (code_good hm.1), List.mem_cons_self, C.2.2.2.2.1 _ hm.1, C.2.2.2.2.1 _ hm.2.1, ⟨hm.2.2.1, hm.2.2.2.1⟩, fun sig h => by have h2 := hm.2.2.2.2.1; rw [h] at h2; exact (Option.some.inj h2).symm, C.2.2.2.2.1 _ hlk⟩
  have hrun := va_runV (e := e) (below := below) (meth := meth) (As := As) (rest := rest) (g := F0 m pc ls (As.reverse ++ .ref b :: rest)) (locs := locs) (cells := cells) (slots := slots) ⟨C.1, C.2.1, C.2.2.1, C.2.2.2.1, C.2.2.2.2.1⟩ (hct H.size) ⟨hcb, C.2.2.2.2.1 _ him, C.2.2.2.2.1 _ hse⟩ ⟨PCt.blind, by have h9 := va_recv C.2.2.2.2.2.1 hP hc (ap_l he); rw [hcn] at h9; exact h9, pcl_pre C hP hD rfl⟩ rfl rfl hl.1 rfl (lv_room (catsum_le hrest)) hd ⟨hcs.1, hcs.2⟩
  have hF := fr_l hD hS C.2.2.2.2.2.2.1
  intro T hT X
  obtain ⟨v, st₀, t, T', L, h0, X', hL, e1, e2, ⟨x, hx, hv, hP1, hD1, hz, hk⟩, st⟩ := hrun T hT X
  cases hv
  rw [h0] at hz hk
  rw [← e1] at hP1
  obtain ⟨hP2, hD2⟩ := ww_join (H1 := T'.heap) hP hD hF (fun q h1 h2 => by rw [e1]; exact hk q h1 h2) hP1 hD1
  obtain ⟨t2, a1, b1⟩ := k x hx T'.heap (locs ++ L) ls hP2 hD2
    ⟨Nat.le_trans hS.1 (by rw [e1]; exact hz), fun q h1 h2 => by rw [e1, hk q (Nat.lt_of_lt_of_le h1 hS.1) (fun z => h2 (hF q z))]; exact hS.2.1 q h1 h2, fun q hq => by
      rcases List.mem_append.mp hq with h | h
      · exact hS.2.2 q h
      · exact hF _ (hL q h)⟩ hl T' rfl X'
  exact ⟨t2, st t2 a1, b1⟩
/-- the one part of the world, its cells in another order -/
theorem ww_perm {wx : va_W} (is : List Nat) (hn : va_nd is = true) (hs : is.map (fun i => wa[i]?) = wx.map some) (k : WW p l e R s m args below meth c cells slots Q Γ A nL (wx ++ wb) pc lv st) : WW p l e R s m args below meth c cells slots Q Γ A nL (wa ++ wb) pc lv st := fun H locs ls hP hD hS hl => by
  have hPa : va_P Γ.1 vwCl wa H := fun k x hx => hP k x (ap_l hx)
  have hDa : va_D A wa := ⟨fun i j x y hi hj hxy => hD.1 i j x y (ap_l hi) (ap_l hj) hxy, fun k x hx => hD.2 k x (ap_l hx)⟩
  have hPb : va_P Γ.1 vwCl wb H := fun k x hx => hP _ x (ap_r hx)
  have hDb : va_D A wb := ⟨fun i j x y hi hj hxy => by have := hD.1 _ _ x y (ap_r hi) (ap_r hj) hxy; omega, fun k x hx => hD.2 _ x (ap_r hx)⟩
  have hPx : va_P Γ.1 vwCl wx H := fun k x hx => by
    obtain ⟨i, -, h2⟩ := va_at_of hs hx
    exact hPa i x h2
  refine k H locs ls (hPx.app hPb) (va_D.app (hDa.sub is hn hs) hDb (fun i j x y hi hj hxy => ?_)) hS hl
  obtain ⟨i0, -, h2⟩ := va_at_of hs hi
  have h3 := hD.1 i0 (wa.length + j) x y (ap_l h2) (ap_r hj) hxy
  have h4 := (List.getElem?_eq_some_iff.mp h2).1
  omega
theorem ww_sld (C : Cx p R s m args meth c cc own nL Γ A dd) {b L : Nat} {xs : Nat → Int32} {i : Int32} (hX : va_X b L xs s s.heap) (hbl : b < s.heap.size) (hbA : ¬ A b) (hin : vp_in i L) (hd : decode cc pc = .ok (.iaload, 1)) (pc2 : Nat) (hpc : pc + 1 = pc2) (k : WW p l e R s m args below meth c cells slots Q Γ A nL ws pc2 lv (.int (xs i.toNatClampNeg) :: st)) : WW p l e R s m args below meth c cells slots Q Γ A nL ws pc lv (.int i :: .ref b :: st) := by
  subst hpc
  intro H locs ls hP hD hS hl
  exact va_sld C.1 C.2.1 hX hbl hbA hS hin hd (k H locs ls hP hD hS hl)
theorem ww_slen (C : Cx p R s m args meth c cc own nL Γ A dd) {b L : Nat} {xs : Nat → Int32} (hX : va_X b L xs s s.heap) (hbl : b < s.heap.size) (hbA : ¬ A b) (hd : decode cc pc = .ok (.arraylength, 1)) (pc2 : Nat) (hpc : pc + 1 = pc2) (k : WW p l e R s m args below meth c cells slots Q Γ A nL ws pc2 lv (.int (nI L) :: st)) : WW p l e R s m args below meth c cells slots Q Γ A nL ws pc lv (.ref b :: st) := by
  subst hpc
  intro H locs ls hP hD hS hl
  exact va_slen C.1 C.2.1 hX hbl hbA hS hd (k H locs ls hP hD hS hl)
end WWa
