theorem Ct.lift {l : Launch} {Γ : Gm} {y : MethodName} {cc : ByteArray} {maxL : Nat} {ret : Option FieldType} {d : Nat} {av : List Value} {wc wc' ws : va_W} {rv : Option Value} (h : Ct l Γ y cc maxL ret d av wc rv wc') (is : List Nat) (hC : is.map (fun i => ws[i]?) = wc.map some) (hn : va_nd is = true) (ha : wc'.map (fun q => q.1) = wc.map (fun q => q.1)) : Ct l Γ y cc maxL ret d av ws rv (pB ws is wc') := by
  intro sz p e hadm hc hk s m args below hf happ hP hK
  obtain ⟨h1, h2, h3, h4, h5⟩ := hP
  have hsub : va_P Γ.1 vwCl wc s.heap := fun k q hq => by
    obtain ⟨i, -, h9⟩ := va_at_of hC hq
    exact h3 i q h9
  have hmono : ∀ q, va_A wc sz q → va_A ws sz q := fun q hq => by
    rcases hq with ⟨k, e, hq⟩ | hq
    · obtain ⟨i, -, h9⟩ := va_at_of hC hq
      exact Or.inl ⟨i, e, h9⟩
    · exact Or.inr hq
  obtain ⟨n, o, a1, a2, a3, ⟨⟨b1, b2, b3, b4⟩, L, b5, b6⟩⟩ := h sz p e hadm hc hk s m args below hf happ ⟨h1, h2, hsub, h4, h5.sub is hn hC⟩ hK
  have hpb := pB_P (A := va_A ws sz) h3 h5.self hC hn ha (fun q hq1 hq2 => b4.2 q hq1 (by rw [← h2]; exact hq2)) b2
  exact ⟨n, o, a1, a2, a3, ⟨⟨b1, hpb.1, hpb.2, b4.1, fun q hq1 hq2 => b4.2 q hq1 (fun z => hq2 (hmono q z))⟩, L, b5, fun q hq => hmono _ (b6 q hq)⟩⟩
theorem Ce.lift {α : Type} {l : Launch} {Γ : Gm} {y : MethodName} {cc : ByteArray} {maxL : Nat} {ret : Option FieldType} {d : Nat} {av : List Value} {wc ws : va_W} {Qx : α → Prop} {rv : α → Option Value} {wc' : α → va_W} (h : Ce l Γ y cc maxL ret d av wc Qx rv wc') (is : List Nat) (hC : is.map (fun i => ws[i]?) = wc.map some) (hn : va_nd is = true) (ha : ∀ x, (wc' x).map (fun q => q.1) = wc.map (fun q => q.1)) : Ce l Γ y cc maxL ret d av ws Qx rv (fun x => pB ws is (wc' x)) := by
  intro sz p e hadm hc hk s m args below hf happ hP hK
  obtain ⟨h1, h2, h3, h4, h5⟩ := hP
  have hsub : va_P Γ.1 vwCl wc s.heap := fun k q hq => by
    obtain ⟨i, -, h9⟩ := va_at_of hC hq
    exact h3 i q h9
  have hmono : ∀ q, va_A wc sz q → va_A ws sz q := fun q hq => by
    rcases hq with ⟨k, e, hq⟩ | hq
    · obtain ⟨i, -, h9⟩ := va_at_of hC hq
      exact Or.inl ⟨i, e, h9⟩
    · exact Or.inr hq
  obtain ⟨n, o, a1, a2, a3, ⟨⟨x, hx, b1, b2, b3, b4⟩, L, b5, b6⟩⟩ := h sz p e hadm hc hk s m args below hf happ ⟨h1, h2, hsub, h4, h5.sub is hn hC⟩ hK
  have hpb := pB_P (A := va_A ws sz) h3 h5.self hC hn (ha x) (fun q hq1 hq2 => b4.2 q hq1 (by rw [← h2]; exact hq2)) b2
  exact ⟨n, o, a1, a2, a3, ⟨⟨x, hx, b1, hpb.1, hpb.2, b4.1, fun q hq1 hq2 => b4.2 q hq1 (fun z => hq2 (hmono q z))⟩, L, b5, fun q hq => hmono _ (b6 q hq)⟩⟩
/-- the world of the model -/
abbrev WM (Γ : Gm) (hm : Nat) (q : Nat → Nat) (I : Nat → Int32) (mln : Nat → Int32) (mmn : Nat → Int32) (mit : Nat → Int32) (pl : Nat → Int32) (te : Nat → Int32) (ts : Nat → Int32) (sy : Nat → Int32) (a2 : Nat → Int32) (rt : Nat → Int32) (s2 : Nat → Int32) (tp : Nat → Int32) (cc : Nat → Int32) (ce : Nat → Int32) (tr : Nat → Int32) : va_W := [wMo hm q I, (q 2, .inl (Γ.2.1, 8, .inl mln)), (q 3, .inl (Γ.2.1, 8, .inl mmn)), (q 4, .inl (Γ.2.1, 480, .inl mit)), (q 6, .inl (Γ.2.1, 16, .inl pl)), (q 8, .inl (Γ.2.1, 15, .inl te)), (q 9, .inl (Γ.2.1, 180, .inl ts)), (q 10, .inl (Γ.2.1, 15, .inl sy)), (q 12, .inl (Γ.2.1, 15, .inl a2)), (q 13, .inl (Γ.2.1, 180, .inl rt)), (q 14, .inl (Γ.2.1, 15, .inl s2)), (q 15, .inl (Γ.2.1, 400, .inl tp)), (q 26, .inl (Γ.2.1, 100, .inl cc)), (q 27, .inl (Γ.2.1, 100, .inl ce)), (q 28, .inl (Γ.2.1, 16, .inl tr))]
def Rk (sh : Nat → Nat) (f : Nat → Option Nat) (lw up : Nat → Int64) (ua : Int64) : Prop := (∀ j, j < 8 → f j = some (sh j)) ∧ (∀ k, k < 256 → lw k = lN (CH k)) ∧ (∀ k, k < 256 → up k = lN (CH (256 * k))) ∧ ∀ k, k < 256 → lw k &&& ua = 0
def Rch (code : Int32) (mk : Int64) (i5 : Int32) (c0 : Nat) : Prop := code = nI c0 ∧ c0 < 65536 ∧ mk = lN (CH c0) ∧ i5 = nI c0
def Rst (i1 i17 lfa lfi : Int32) : Prop := i1 = lfi ∧ i17 = lfa
def Rme (lw up : Nat → Int64) (ua : Int64) (lk : Int32) (dr un : Int64) (ms : Ms) : Prop := lk = 0 ∨ ms = s_la lw up ua dr un 256
def Rtp (u : Nat) (tb : Nat → Int32) (i16 : Int32) (tp : Nat → Int32) : Prop := u ≤ 400 ∧ i16 = nI u ∧ tp = tb ∧ ∀ x, ∃ y, y < 256 ∧ tb x = nI y
def Rru (n : Nat) (Bf : Nat → Nat → Int32) (i7 : Int32) (te ts sy : Nat → Int32) (tn : Nat → Nat) : Prop := n ≤ 15 ∧ i7 = nI n ∧ ∀ r, r < n → Bf 3 r = nI (tn r) ∧ tn r ≤ 4 ∧ te r = nI (tn r) ∧ RlR (Bf 0) (Bf 1) (Bf 2) ts r (tn r) ∧ sy r = Bf 4 r
def Rbk (z : Nat) (cs : Nat → Int64) (en al : Nat → Int32) (i25 : Int32) (cc ce : Nat → Int32) (cn : Nat → Nat) : Prop := z ≤ 100 ∧ i25 = nI z ∧ ce = en ∧ (∀ k, k < z → cc k = nI (cn k) ∧ cn k < 65536 ∧ cs k = lN (CH (cn k)) ∧ ∃ c, c < 3 ∧ en k = nI c) ∧ ∀ c, c < 3 → al c = s_cnt en (fun _ => true) (nI c) z
def Rbd (σ : TrS) (i29 : Int32) (tr : Nat → Int32) : Prop := σ.2 ≤ 16 ∧ i29 = nI σ.2 ∧ tr = σ.1
def Rsh (ln : Nat → Int32) (sz : Nat → Nat) (itf : Nat → Nat → Int32) (mln mmn mit : Nat → Int32) : Prop := mln = ln ∧ (∀ j, j < 8 → (ln j < 0 ↔ ln j = -1)) ∧ (∀ j, j < 8 → sz j ≤ 60) ∧ (∀ j, j < 8 → ¬ ln j = -1 → mmn j = nI (sz j)) ∧ ∀ j, j < 8 → ∀ k, k < 60 → itf j k = mit (60 * j + k)
/-- class and model hold the same -/
def RelW (Γ : Gm) (hx hm : Nat) (wx wm : va_W) : Prop := ∃ (a : Nat → Nat) (sh : Nat → Nat) (it : Nat → Nat) (f : Nat → Option Nat) (lw : Nat → Int64) (up : Nat → Int64) (ua : Int64) (code : Int32) (mk : Int64) (lfa : Int32) (lfi : Int32) (lk : Int32) (dr : Int64) (un : Int64) (ms : Ms) (u : Nat) (tb : Nat → Int32) (nx : Nat) (RI : Nat → Int32) (T : Nat) (uT : Nat) (TA : Nat → Nat → Int32) (z : Nat) (cs : Nat → Int64) (en : Nat → Int32) (al : Nat → Int32) (he : Nat → Int32) (σ : TrS) (n : Nat) (Bf : Nat → Nat → Int32) (n' : Nat) (B' : Nat → Nat → Int32) (ln : Nat → Int32) (sz : Nat → Nat) (itf : Nat → Nat → Int32) (q : Nat → Nat) (I : Nat → Int32) (mln : Nat → Int32) (mmn : Nat → Int32) (mit : Nat → Int32) (pl : Nat → Int32) (te : Nat → Int32) (ts : Nat → Int32) (sy : Nat → Int32) (a2 : Nat → Int32) (rt : Nat → Int32) (s2 : Nat → Int32) (tp : Nat → Int32) (cc : Nat → Int32) (ce : Nat → Int32) (tr : Nat → Int32) (c0 : Nat) (tn : Nat → Nat) (cn : Nat → Nat), wx = WX Γ hx (a) (sh) (it) (f) (lw) (up) (ua) (code) (mk) (lfa) (lfi) (lk) (dr) (un) (ms) (u) (tb) (nx) (RI) (T) (uT) (TA) (z) (cs) (en) (al) (he) (σ) (n) (Bf) (n') (B') (ln) (sz) (itf) ∧ wm = WM Γ hm (q) (I) (mln) (mmn) (mit) (pl) (te) (ts) (sy) (a2) (rt) (s2) (tp) (cc) (ce) (tr) ∧ Rk (sh) (f) (lw) (up) (ua) ∧ Rch (code) (mk) ((I) 5) (c0) ∧ Rst ((I) 1) ((I) 17) (lfa) (lfi) ∧ Rme (lw) (up) (ua) (lk) (dr) (un) (ms) ∧ Rtp (u) (tb) ((I) 16) (tp) ∧ Rru (n) (Bf) ((I) 7) (te) (ts) (sy) (tn) ∧ Rbk (z) (cs) (en) (al) ((I) 25) (cc) (ce) (cn) ∧ Rbd (σ) ((I) 29) (tr) ∧ Rsh (ln) (sz) (itf) (mln) (mmn) (mit)
/-- one call of both answers the same, and leaves the same -/
def OpR (l : Launch) (Γ : Gm) (hx hm : Nat) (wx wm : va_W) (yx : MethodName) (cx : ByteArray) (mx dx : Nat) (ym : MethodName) (cm : ByteArray) (mm dm : Nat) (av : List Value) : Prop := ∃ (r : Int32) (wx' wm' : va_W), RelW Γ hx hm wx' wm' ∧ Ct l Γ yx cx mx (some .int) dx (.ref hx :: av) wx (some (.int r)) wx' ∧ Ct l Γ ym cm mm (some .int) dm (.ref hm :: av) wm (some (.int r)) wm'
theorem i32_nat {x : Int32} (h : ¬ x < 0) : ∃ j, j < 2 ^ 31 ∧ x = nI j := by
  have a1 := mt Int32.lt_iff_toInt_lt.mpr h
  have e2 : (0 : Int32).toInt = 0 := by decide
  rw [e2] at a1
  have a2 := Int32.toInt_lt x
  refine ⟨x.toInt.toNat, by omega, ?_⟩
  apply Int32.toInt_inj.1
  rw [nI_toInt (by omega)]
  omega
theorem i32_cases (x : Int32) (N : Nat) (hN : N < 2 ^ 31) : (x < 0 ∨ nI N ≤ x) ∨ ∃ j, j < N ∧ x = nI j := by
  by_cases c : x < 0
  · exact Or.inl (Or.inl c)
  · obtain ⟨j, hj, rfl⟩ := i32_nat c
    rcases Nat.lt_or_ge j N with q | q
    · exact Or.inr ⟨j, q, rfl⟩
    · exact Or.inl (Or.inr ((nI_leI hN hj).mpr q))
theorem i32_up {x : Int32} (N : Nat) (hN : N + 1 < 2 ^ 31) : nI N < x ↔ nI (N + 1) ≤ x := by
  rw [Int32.lt_iff_toInt_lt, Int32.le_iff_toInt_le, nI_toInt (by omega), nI_toInt hN]
  omega
def updF (F : Nat → Nat → Int32) (j : Nat) (g : Nat → Int32) : Nat → Nat → Int32 := fun k => if k = j then g else F k
theorem updF_s (F : Nat → Nat → Int32) (j : Nat) (g : Nat → Int32) : updF F j g j = g := if_pos rfl
theorem updF_n {F : Nat → Nat → Int32} {j k : Nat} (g : Nat → Int32) (h : k ≠ j) : updF F j g k = F k := if_neg h