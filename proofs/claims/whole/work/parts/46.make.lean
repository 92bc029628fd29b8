/-- links inside the nest, and the class of rows of sheets: what a call doesn't keep by its words alone -/
def NZ (U : State) : Prop := va_AO RX7 U ∧ va_Nw (.methodLinkNest RX10 24 yX8_init RX10) U ∧ va_Nw (.methodLinkNest RX10 31 yX5_init RX10) U ∧ va_Nw (.methodLinkNest RX5 11 yX9_init RX10) U ∧ va_Nw (.methodLinkNest RX10 38 yX1_init RX10) U ∧ va_Nw (.methodLinkNest RX10 45 yX0_init RX10) U ∧ va_Nw (.methodLinkNest RX10 52 yX6_init RX10) U ∧ va_Nw (.methodLinkNest RX10 80 yX7_init RX10) U
theorem NZ.warm {u U : State} (hW : u.WarmedH U.vm) (h : NZ u) : NZ U := ⟨va_AO.moved hW.alike h.1, h.2.1.warmM hW, h.2.2.1.warmM hW, h.2.2.2.1.warmM hW, h.2.2.2.2.1.warmM hW, h.2.2.2.2.2.1.warmM hW, h.2.2.2.2.2.2.1.warmM hW, h.2.2.2.2.2.2.2.warmM hW⟩
theorem NZ.same {u U : State} (hv : u.vm = U.vm) (h : NZ u) : NZ U := ⟨va_AO.moved (by rw [hv]; exact Vm.Alike.refl U.vm) h.1, h.2.1.same rfl hv, h.2.2.1.same rfl hv, h.2.2.2.1.same rfl hv, h.2.2.2.2.1.same rfl hv, h.2.2.2.2.2.1.same rfl hv, h.2.2.2.2.2.2.1.same rfl hv, h.2.2.2.2.2.2.2.same rfl hv⟩
abbrev rmN (d mc ms : Nat) : Room := { frames := d, cells := mc, slots := ms, locals := 35 * d }
def PCn (Γ : Gm) (sz : Nat) (av : List Value) (wc : va_W) : Array Value → State → Prop := va_Pc av (fun U => U.heap.size = sz ∧ va_P Γ.1 vwCl wc U.heap ∧ va_K Γ.1 vwCl (tyG Γ) U ∧ va_D (fun _ => True) wc ∧ NZ U)
theorem PCn.blind {Γ : Gm} {sz : Nat} {av : List Value} {wc : va_W} : FrameBlind (PCn Γ sz av wc) := fun a U g mk q => ⟨q.1, q.2.1, q.2.2.1, va_K.moved (u := U) (U := U.calling g mk a) (Vm.Alike.refl U.vm) q.2.2.2.1, q.2.2.2.2.1, NZ.same (u := U) (U := U.calling g mk a) rfl q.2.2.2.2.2⟩
/-- a constructor's contract: at most mc cells of ms slots are new -/
def Cn {α : Type} (l : Launch) (Γ : Gm) (y : MethodName) (cc : ByteArray) (maxL d : Nat) (av : List Value) (wc : va_W) (mc ms : Nat) (Qx : α → Prop) (wc' : α → va_W) : Prop :=
  ∀ sz : Nat, Met l y (.code y cc maxL none :: Tg) (rmN d mc ms) (PCn Γ sz av wc) (QCe wc sz Γ Qx (fun _ => none) wc') mc ms (va_A wc sz)
theorem Cn.of {α : Type} {l : Launch} {Γ : Gm} {y : MethodName} {cc : ByteArray} {maxL d n mc ms : Nat} {av : List Value} {wc : va_W} {Qx : α → Prop} {wc' : α → va_W} (hm : MI y cc maxL none n) (lv : List (Option Value)) (k : Nat) (hlv : lvA av ++ List.replicate k none = lv) (hle : (lg_sl av).length ≤ maxL)
    (body : ∀ (p : Program) (e : Env) (s : State) (m : MethodId) (args : Array Value) (below : List Frame) (meth : Method) (c : Code), Cx p (rmN d mc ms) s m args meth c cc y.cls maxL Γ (va_A wc s.heap.size) d → meth.sig.returnType = none → meth.name = y.name → NZ s → WW p l e (rmN d mc ms) s m args below meth c 0 0 (MQ below (QCe wc s.heap.size Γ Qx (fun _ => none) wc') args s mc ms (va_A wc s.heap.size)) Γ (va_A wc s.heap.size) maxL wc 0 lv []) : Cn l Γ y cc maxL d av wc mc ms Qx wc' := by
  intro sz
  refine Met.ofW (cc := cc) (maxL := maxL) (ret := none) hm.2.2.2.2.2 rfl ?_
  intro p e s m args below meth c s₁ B hml hv
  obtain ⟨rfl, hsz, hP, hK, hD0, hZ⟩ := hv
  subst hsz
  have hts : ∀ w ∈ Tg, w.before av.toArray s = true := fun w hw => atoms_spec (ws := .code y cc maxL none :: Tg) B.pre w (List.mem_cons_of_mem _ hw)
  have hown : s.vm.findClass y.cls = some m.cls := findClass_of_methodNamed B.named
  have hnm : meth.name = y.name := (name_of_methodNamed B.named B.method).1
  rw [lg_entry_eq]
  refine body p e s m av.toArray below meth c ⟨B.exec, B.bytes, hml, hown, hts, hK, fun q h => Or.inr h, B.notSynchronized, Nat.le_refl _, Nat.le_refl _⟩ B.returns hnm hZ s.heap [] _ hP hD0.self va_S.rf (LV.entry hle (fun i v hi => ?_))
  subst hlv
  have := lvA_args av 0 i v (lvA_pad hi)
  rw [Nat.zero_add] at this
  exact this
section WWn
variable {p : Program} {l : Launch} {e : Env} {R : Room} {s : State} {m : MethodId} {args : Array Value} {below : List Frame} {meth : Method} {c : Code} {cells slots : Nat} {Q : State → Prop} {Γ : Gm} {A : Nat → Prop} {nL dd : Nat} {cc : ByteArray} {own : String} {ws : va_W} {pc : Nat} {lv : List (Option Value)} {st : List Value} {wc : va_W} {α : Type} {Qx : α → Prop}
theorem ww_vreN {wc' : α → va_W} (C : Cx p R s m args meth c cc own nL Γ (va_A wc s.heap.size) dd) (hr : meth.sig.returnType = none) (hd : decode cc pc = .ok (.return_, 1)) (x : α) (hx : Qx x) (h2 : wc' x = ws) : WW p l e R s m args below meth c cells slots (MQ below (QCe wc s.heap.size Γ Qx (fun _ => none) wc') args s cells slots (va_A wc s.heap.size)) Γ (va_A wc s.heap.size) nL ws pc lv [] := by
  subst h2
  intro H locs ls hP hD hS hl
  exact W.vret C.1 C.2.1 hr (fun t ht hW => ⟨x, hx, rfl, by rw [ht]; exact hP, hD, hS.F ht⟩) hS.2.2 hd C.2.2.2.2.2.2.2.1
theorem ga_i {cA : ClassId} {s : State} (hK : va_K Γ.1 vwCl (tyG Γ ++ [(cA, .int)]) s) : cA = Γ.2.1 := by
  have h1 : s.vm.findClass _ = some cA := (hK.2 3 (cA, .int) rfl).2
  have h2 : s.vm.findClass _ = some Γ.2.1 := (hK.2 0 (Γ.2.1, .int) rfl).2
  exact Option.some.inj (h1.symm.trans h2)
theorem ga_l {cA : ClassId} {s : State} (hK : va_K Γ.1 vwCl (tyG Γ ++ [(cA, .long)]) s) : cA = Γ.2.2.1 := by
  have h1 : s.vm.findClass _ = some cA := (hK.2 3 (cA, .long) rfl).2
  have h2 : s.vm.findClass _ = some Γ.2.2.1 := (hK.2 1 (Γ.2.2.1, .long) rfl).2
  exact Option.some.inj (h1.symm.trans h2)
theorem ga_q {cA : ClassId} {s : State} (hK : va_K Γ.1 vwCl (tyG Γ ++ [(cA, .object RX7)]) s) : cA = Γ.2.2.2 := by
  obtain ⟨k1, c1, a1, a2, a3, a4⟩ := (hK.2 3 (cA, .object RX7) rfl).2
  obtain ⟨k2, c2, b1, b2, b3, b4⟩ := (hK.2 2 (Γ.2.2.2, .object RX7) rfl).2
  exact Option.some.inj (a4.symm.trans b4)
theorem ww_newai (C : Cx p R s m args meth c cc own nL Γ A dd) {n : Int32} (N c2 s2 : Nat) (hd : decode cc pc = .ok (.newarray .int, 2)) (hn : ¬ n < 0) (hN : n.toNatClampNeg = N) (hb : N * 4 ≤ 536870912) (hc2 : cells + 1 = c2) (hs2 : slots + N = s2) (hce : c2 ≤ R.cells) (hsl : s2 ≤ R.slots) (pc2 : Nat) (hpc : pc + 2 = pc2) (k : ∀ q : Nat, WW p l e R s m args below meth c c2 s2 Q Γ A nL (ws ++ [(q, .inl (Γ.2.1, N, .inl (fun _ => 0)))]) pc2 lv (.ref q :: st)) : WW p l e R s m args below meth c cells slots Q Γ A nL ws pc lv (.int n :: st) := by
  subst hpc; subst hc2; subst hs2
  intro H locs ls hP hD hS hl
  refine va_newa (atype := .int) (a0 := (N, .inl (fun _ => 0))) C.1 C.2.1 (C.2.2.2.2.1 _ ac_int) rfl C.2.2.2.2.2.1 hP hD hS C.2.2.2.2.2.2.1 (fun cA => ?_) hn hN hb hce hsl hd (fun q cA H1 hK1 hP1 hD1 hS1 => ?_)
  · rfl
  · obtain rfl := ga_i hK1
    exact k q H1 locs ls hP1 hD1 hS1 hl
theorem ww_newal (C : Cx p R s m args meth c cc own nL Γ A dd) {n : Int32} (N c2 s2 : Nat) (hd : decode cc pc = .ok (.newarray .long, 2)) (hn : ¬ n < 0) (hN : n.toNatClampNeg = N) (hb : N * 8 ≤ 536870912) (hc2 : cells + 1 = c2) (hs2 : slots + N = s2) (hce : c2 ≤ R.cells) (hsl : s2 ≤ R.slots) (pc2 : Nat) (hpc : pc + 2 = pc2) (k : ∀ q : Nat, WW p l e R s m args below meth c c2 s2 Q Γ A nL (ws ++ [(q, .inl (Γ.2.2.1, N, .inr (.inl (fun _ => 0))))]) pc2 lv (.ref q :: st)) : WW p l e R s m args below meth c cells slots Q Γ A nL ws pc lv (.int n :: st) := by
  subst hpc; subst hc2; subst hs2
  intro H locs ls hP hD hS hl
  refine va_newa (atype := .long) (a0 := (N, .inr (.inl (fun _ => 0)))) C.1 C.2.1 (C.2.2.2.2.1 _ ac_long) rfl C.2.2.2.2.2.1 hP hD hS C.2.2.2.2.2.2.1 (fun cA => ?_) hn hN hb hce hsl hd (fun q cA H1 hK1 hP1 hD1 hS1 => ?_)
  · rfl
  · obtain rfl := ga_l hK1
    exact k q H1 locs ls hP1 hD1 hS1 hl
theorem ww_newaq (C : Cx p R s m args meth c cc own nL Γ A dd) (hZ : NZ s) {n : Int32} {index : Nat} (N c2 s2 : Nat) (hkl : Cond.classLink own index RX7 ∈ Tg) (hd : decode cc pc = .ok (.anewarray index, 3)) (hn : ¬ n < 0) (hN : n.toNatClampNeg = N) (hb : N * 4 ≤ 536870912) (hc2 : cells + 1 = c2) (hs2 : slots + N = s2) (hce : c2 ≤ R.cells) (hsl : s2 ≤ R.slots) (pc2 : Nat) (hpc : pc + 3 = pc2) (k : ∀ q : Nat, WW p l e R s m args below meth c c2 s2 Q Γ A nL (ws ++ [(q, .inl (Γ.2.2.2, N, .inr (.inr (.inr (.inr (fun _ => none))))))]) pc2 lv (.ref q :: st)) : WW p l e R s m args below meth c cells slots Q Γ A nL ws pc lv (.int n :: st) := by
  subst hpc; subst hc2; subst hs2
  intro H locs ls hP hD hS hl
  refine va_newq (C := RX7) C.1 C.2.1 C.2.2.2.1 (C.2.2.2.2.1 _ hkl) hZ.1 C.2.2.2.2.2.1 hP hD hS C.2.2.2.2.2.2.1 hn hN hb hce hsl hd (fun q cA H1 hK1 hP1 hD1 hS1 => ?_)
  obtain rfl := ga_q hK1
  exact k q H1 locs ls hP1 hD1 hS1 hl
theorem ww_new (C : Cx p R s m args meth c cc own nL Γ A dd) {index ci : Nat} {C0 : String} {T : u_T} {N : Nat} {ty : Nat → FieldType} (fs : List Value) (c2 s2 : Nat) (hkl : Cond.classLink own index C0 ∈ Tg) (hib : Cond.instantiable C0 N ∈ Tg) (hin : Cond.initialized C0 ∈ Tg) (huw : ∀ w ∈ u_ws C0 T N, w ∈ Tg) (hty : ∀ k, k < N → parseFieldDescriptor (T k).2.2.1 = some (ty k)) (hc : vwCl[ci]? = some (C0, T, N)) (hfs : ∀ j, j < N → defaultValue (ty j) = vp_V fs j) (hd : decode cc pc = .ok (.new index, 3)) (hc2 : cells + 1 = c2) (hs2 : slots + N = s2) (hce : c2 ≤ R.cells) (hsl : s2 ≤ R.slots) (pc2 : Nat) (hpc : pc + 3 = pc2) (k : ∀ q : Nat, WW p l e R s m args below meth c c2 s2 Q Γ A nL (ws ++ [(q, .inr (ci, fs))]) pc2 lv (.ref q :: st)) : WW p l e R s m args below meth c cells slots Q Γ A nL ws pc lv st := by
  subst hpc; subst hc2; subst hs2
  intro H locs ls hP hD hS hl
  exact va_new C.1 C.2.1 C.2.2.2.2.1 huw ty hty C.2.2.2.1 (C.2.2.2.2.1 _ hkl) (C.2.2.2.2.1 _ hib) (C.2.2.2.2.1 _ hin) C.2.2.2.2.2.1 hP hD hS C.2.2.2.2.2.2.1 hc hfs hce hsl hd (fun q H1 hP1 hD1 hS1 => k q H1 locs ls hP1 hD1 hS1 hl)
theorem ww_obj (C : Cx p R s m args meth c cc own nL Γ A dd) {index a : Nat} (hlk : Cond.methodLink own index objectInit ∈ Tg) (hd : decode cc pc = .ok (.invokespecial index, 3)) (hdd : 1 ≤ dd) (hst : st.length ≤ 4) (pc2 : Nat) (hpc : pc + 3 = pc2) (k : WW p l e R s m args below meth c cells slots Q Γ A nL ws pc2 lv st) : WW p l e R s m args below meth c cells slots Q Γ A nL ws pc lv (.ref a :: st) := by
  subst hpc
  intro H locs ls hP hD hS hl
  have h1 := C.2.2.2.2.2.2.2.2.1
  have h2 := C.2.2.2.2.2.2.2.2.2
  have h3 := lv_room (m := m) (pc := pc) (ls := ls) (rest := .ref a :: st) (catsum_le hst)
  exact W.objInit C.1 C.2.1 C.2.2.2.1 (C.2.2.2.2.1 _ hlk) (C.2.2.2.2.1 _ im_objectInit) (C.2.2.2.2.1 _ co_objectInit) rfl (by rw [C.2.2.1]; exact hl.1) rfl hd (by omega) (by omega) (k H locs ls hP hD hS hl)
theorem ww_aast (C : Cx p R s m args meth c cc own nL Γ A dd) {a n v : Nat} {f : Nat → Option Nat} {vs : List Value} {i : Int32} (hd : decode cc pc = .ok (.aastore, 1)) (q0 qk : Nat) (he : ws[q0]? = some (a, .inl (Γ.2.2.2, n, .inr (.inr (.inr (.inr f)))))) (hv : ws[qk]? = some (v, .inr (5, vs))) (hin : vp_in i n) (pc2 : Nat) (hpc : pc + 1 = pc2) (k : WW p l e R s m args below meth c cells slots Q Γ A nL (ws.set q0 (a, .inl (Γ.2.2.2, n, .inr (.inr (.inr (.inr (va_up f i.toNatClampNeg (some v)))))))) pc2 lv st) : WW p l e R s m args below meth c cells slots Q Γ A nL ws pc lv (.ref v :: .int i :: .ref a :: st) := by
  subst hpc
  intro H locs ls hP hD hS hl
  exact va_astq (r := (RX7, TX7, 3)) C.1 C.2.1 C.2.2.2.2.2.1 hP hD hS q0 2 qk 5 he rfl hv rfl hin hd (fun H1 locs1 hP1 hD1 hS1 => k H1 locs1 ls hP1 hD1 hS1 hl)
theorem ww_runN {wc' : α → va_W} {mc ms q pc2 : Nat} {e0 : va_E} {st0 rest : List Value} {H : Heap} {locs : List Loc} {ls : Array Slot} {a : Array Value} (hr : va_Run p l e R s m args below meth c H locs cells slots mc ms (F0 m pc ls st0) rest (QCe [(q, e0)] H.size Γ Qx (fun _ => none) wc' a) (va_A [(q, e0)] H.size)) (hA : ∀ q, s.heap.size ≤ q → A q) (hP : va_P Γ.1 vwCl (ws ++ [(q, e0)]) H) (hD : va_D A (ws ++ [(q, e0)])) (hS : va_S A s.heap H locs) (hl : LV ls nL lv) (hpc : pc + 3 = pc2)
    (k : ∀ x, Qx x → WW p l e R s m args below meth c (cells + mc) (slots + ms) Q Γ A nL (ws ++ wc' x) pc2 lv rest) : W p l e R s m args below meth c H locs cells slots Q (F0 m pc ls st0) := by
  subst hpc
  have hat : (ws ++ [(q, e0)])[ws.length]? = some (q, e0) := by
    rw [List.getElem?_append_right (Nat.le_refl _), Nat.sub_self]; rfl
  have hin : ∀ (k : Nat) (x : Nat × va_E), ws[k]? = some x → (ws ++ [(q, e0)])[k]? = some x := fun k x hx => by
    rw [List.getElem?_append_left (List.getElem?_eq_some_iff.mp hx).1]; exact hx
  have hF := va_free (wc := [(q, e0)]) hD hS hA [ws.length] (by
    show [(ws ++ [(q, e0)])[ws.length]?] = [some (q, e0)]
    rw [hat])
  have hne : ∀ (k : Nat) (x : Nat × va_E), ws[k]? = some x → x.1 < H.size ∧ x.1 ≠ q := fun k x hx => by
    refine ⟨(hP k x (hin k x hx)).lt, fun z => ?_⟩
    have := hD.1 k ws.length x (q, e0) (hin k x hx) hat z
    have hk := (List.getElem?_eq_some_iff.mp hx).1
    omega
  have hnA : ∀ (k : Nat) (x : Nat × va_E), ws[k]? = some x → ¬ va_A [(q, e0)] H.size x.1 := fun k x hx => by
    obtain ⟨h1, h2⟩ := hne k x hx
    rintro (⟨j, e, hj⟩ | hj)
    · have hj0 : j < 1 := (List.getElem?_eq_some_iff.mp hj).1
      rw [show j = 0 by omega] at hj
      cases hj
      exact h2 rfl
    · omega
  intro T hT X
  obtain ⟨v, st₀, t, T', L, h0, X', hL, e1, e2, ⟨x, hx, hv, hP1, hD1, hz, hk⟩, st⟩ := hr T hT X
  cases hv
  rw [h0] at hz hk
  rw [← e1] at hP1
  have hPw : va_P Γ.1 vwCl ws H := fun k y hy => hP k y (hin k y hy)
  have hP2 : va_P Γ.1 vwCl (ws ++ wc' x) T'.heap := (hPw.kept (fun k y hy => by rw [e1]; exact hk y.1 (hne k y hy).1 (hnA k y hy))).app hP1
  have hD2 : va_D A (ws ++ wc' x) := va_D.app ⟨fun i j y z hi hj => hD.1 i j y z (hin i y hi) (hin j z hj), fun k y hy => hD.2 k y (hin k y hy)⟩ (hD1.weaken (fun _ _ _ h => hF _ h)) (fun i j y z hi hj hyz => hnA i y hi (by rw [hyz]; exact hD1.2 j z hj))
  obtain ⟨t2, a1, b1⟩ := k x hx T'.heap (locs ++ L) ls hP2 hD2
    ⟨Nat.le_trans hS.1 (by rw [e1]; exact hz), fun q h1 h2 => by rw [e1, hk q (Nat.lt_of_lt_of_le h1 hS.1) (fun z => h2 (hF q z))]; exact hS.2.1 q h1 h2, fun q hq => by
      rcases List.mem_append.mp hq with h | h
      · exact hS.2.2 q h
      · exact hF _ (hL q h)⟩ hl T' rfl X'
  exact ⟨t2, st t2 a1, b1⟩
theorem pcn_pre {sz : Nat} {H : Heap} {q : Nat} {e0 : va_E} (C : Cx p R s m args meth c cc own nL Γ A dd) (hZ : NZ s) (hP : va_P Γ.1 vwCl (ws ++ [(q, e0)]) H) (hsz : H.size = sz) : ∀ U : State, U.heap = H → s.WarmedH U.vm → PCn Γ sz [.ref q] [(q, e0)] (([.ref q] : List Value)).toArray U := fun U hU hW => by
  refine ⟨rfl, by rw [hU]; exact hsz, ?_, va_K.moved hW.alike C.2.2.2.2.2.1, ⟨fun i j x y hi hj _ => ?_, fun _ _ _ => trivial⟩, hZ.warm hW⟩
  · rw [hU]
    intro k x hk
    have hk0 : k < 1 := (List.getElem?_eq_some_iff.mp hk).1
    rw [show k = 0 by omega] at hk
    cases hk
    exact hP ws.length _ (by rw [List.getElem?_append_right (Nat.le_refl _), Nat.sub_self]; rfl)
  · have hi0 : i < 1 := (List.getElem?_eq_some_iff.mp hi).1
    have hj0 : j < 1 := (List.getElem?_eq_some_iff.mp hj).1
    omega
/-- a new object's own constructor, in the nest -/
theorem ww_initN {wc' : α → va_W} (C : Cx p R s m args meth c cc own nL Γ A dd) (hZ : NZ s) {y : MethodName} {cy : ByteArray} {mL d index mc ms q : Nat} {e0 : va_E} {host : String} {rest : List Value} (hct : Cn l Γ y cy mL d [.ref q] [(q, e0)] mc ms Qx wc') (hm : MI y cy mL none 0) (hnm : y.name = "<init>") (him : Cond.instanceMethod y ∈ Tg) (hlk : va_Nw (.methodLinkNest own index y host) s) (hd : decode cc pc = .ok (.invokespecial index, 3)) (hdd : d + 1 ≤ dd) (hmL : mL ≤ 16) (hrest : rest.length ≤ 4) (c2 s2 : Nat) (hc2 : cells + mc = c2) (hs2 : slots + ms = s2) (hce : c2 ≤ R.cells) (hsl : s2 ≤ R.slots) (pc2 : Nat) (hpc : pc + 3 = pc2) (k : ∀ x, Qx x → WW p l e R s m args below meth c c2 s2 Q Γ A nL (ws ++ wc' x) pc2 lv rest) : WW p l e R s m args below meth c cells slots Q Γ A nL (ws ++ [(q, e0)]) pc lv (.ref q :: rest) := fun H locs ls hP hD hS hl => by
  subst hc2; subst hs2
  have hroom : d + 1 ≤ R.frames ∧ 8 + (mL + 11) + 35 * d ≤ R.locals := ⟨Nat.le_trans hdd C.2.2.2.2.2.2.2.2.1, by have := C.2.2.2.2.2.2.2.2.2; show 8 + (mL + 11) + 35 * d ≤ R.locals; omega⟩
  have hcb : va_CN R s args own index y host cy mL none (.code y cy mL none :: Tg) (rmN d mc ms) mc ms 0 := ⟨⟨rfl, rfl, hroom.1, hroom.2, pay_in C.2.2.2.2.1 (code_good hm.1), List.mem_cons_self⟩, C.2.2.2.2.1 _ hm.1, C.2.2.2.2.1 _ hm.2.1, ⟨hm.2.2.1, hm.2.2.2.1⟩, fun sig h => by have h2 := hm.2.2.2.2.1; rw [h] at h2; exact (Option.some.inj h2).symm, va_Nw.use rfl hlk⟩
  have hrun := va_runIN (e := e) (below := below) (meth := meth) (As := []) (rest := rest) (g := F0 m pc ls (.ref q :: rest)) (locs := locs) (cells := cells) (slots := slots) ⟨C.1, C.2.1, C.2.2.1, C.2.2.2.1, C.2.2.2.2.1⟩ (hct H.size) ⟨hcb, hnm, C.2.2.2.2.1 _ him⟩ ⟨PCn.blind, pcn_pre C hZ hP rfl⟩ rfl rfl hl.1 rfl (lv_room (catsum_le hrest)) hd ⟨hce, hsl⟩
  exact ww_runN hrun C.2.2.2.2.2.2.1 hP hD hS hl hpc k
/-- the same, by an open link -/
theorem ww_initI {wc' : α → va_W} (C : Cx p R s m args meth c cc own nL Γ A dd) (hZ : NZ s) {y : MethodName} {cy : ByteArray} {mL d index mc ms q : Nat} {e0 : va_E} {rest : List Value} (hct : Cn l Γ y cy mL d [.ref q] [(q, e0)] mc ms Qx wc') (hm : MI y cy mL none 0) (hnm : y.name = "<init>") (him : Cond.instanceMethod y ∈ Tg) (hlk : Cond.methodLink own index y ∈ Tg) (hd : decode cc pc = .ok (.invokespecial index, 3)) (hdd : d + 1 ≤ dd) (hmL : mL ≤ 16) (hrest : rest.length ≤ 4) (c2 s2 : Nat) (hc2 : cells + mc = c2) (hs2 : slots + ms = s2) (hce : c2 ≤ R.cells) (hsl : s2 ≤ R.slots) (pc2 : Nat) (hpc : pc + 3 = pc2) (k : ∀ x, Qx x → WW p l e R s m args below meth c c2 s2 Q Γ A nL (ws ++ wc' x) pc2 lv rest) : WW p l e R s m args below meth c cells slots Q Γ A nL (ws ++ [(q, e0)]) pc lv (.ref q :: rest) := fun H locs ls hP hD hS hl => by
  subst hc2; subst hs2
  have hroom : d + 1 ≤ R.frames ∧ 8 + (mL + 11) + 35 * d ≤ R.locals := ⟨Nat.le_trans hdd C.2.2.2.2.2.2.2.2.1, by have := C.2.2.2.2.2.2.2.2.2; show 8 + (mL + 11) + 35 * d ≤ R.locals; omega⟩
  have hcb : CallB R s args own index y cy mL none (.code y cy mL none :: Tg) (rmN d mc ms) mc ms 0 := ⟨rfl, rfl, hroom.1, hroom.2, pay_in C.2.2.2.2.1 (code_good hm.1), List.mem_cons_self, C.2.2.2.2.1 _ hm.1, C.2.2.2.2.1 _ hm.2.1, ⟨hm.2.2.1, hm.2.2.2.1⟩, fun sig h => by have h2 := hm.2.2.2.2.1; rw [h] at h2; exact (Option.some.inj h2).symm, C.2.2.2.2.1 _ hlk⟩
  have hrun := va_runI (e := e) (below := below) (meth := meth) (As := []) (rest := rest) (g := F0 m pc ls (.ref q :: rest)) (locs := locs) (cells := cells) (slots := slots) ⟨C.1, C.2.1, C.2.2.1, C.2.2.2.1, C.2.2.2.2.1⟩ (hct H.size) ⟨hcb, hnm, C.2.2.2.2.1 _ him⟩ ⟨PCn.blind, pcn_pre C hZ hP rfl⟩ rfl rfl hl.1 rfl (lv_room (catsum_le hrest)) hd ⟨hce, hsl⟩
  exact ww_runN hrun C.2.2.2.2.2.2.1 hP hD hS hl hpc k
end WWn
