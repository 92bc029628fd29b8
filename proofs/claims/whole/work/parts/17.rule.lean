/-- test i of rule r stands in the rows B as the token t tells it -/
def TestAt (κ ν : Nat → Int32) (B : Nat → Nat → Int32) (i t : Nat) : Prop := (gT κ ν t).1 = 0 ∧ B 0 i = κ t ∧ B 1 i = ν (t + 1) ∧ (κ t = 6711655 → B 2 i = ν (t + 3)) ∧ (κ t = 1935764837 → B 2 i = ν (t + 2))
def Part (κ ν : Nat → Int32) (B : Nat → Nat → Int32) (r k : Nat) (τ : Nat → Nat) : Prop := B 3 r = nI k ∧ ∀ j, j < k → TestAt κ ν B (4 * r + j) (τ j)
def Keep (B B' : Nat → Nat → Int32) (n : Nat) : Prop := (∀ i, i < 4 * n → B' 0 i = B 0 i ∧ B' 1 i = B 1 i ∧ B' 2 i = B 2 i) ∧ ∀ r, r < n → B' 3 r = B 3 r ∧ B' 4 r = B 4 r
theorem Keep.rf {B : Nat → Nat → Int32} {n : Nat} : Keep B B n := ⟨fun _ _ => ⟨rfl, rfl, rfl⟩, fun _ _ => ⟨rfl, rfl⟩⟩
theorem Keep.tr {B B' B'' : Nat → Nat → Int32} {n : Nat} (h : Keep B B' n) (g : Keep B' B'' n) : Keep B B'' n := ⟨fun i hi => ⟨(g.1 i hi).1.trans (h.1 i hi).1, (g.1 i hi).2.1.trans (h.1 i hi).2.1, (g.1 i hi).2.2.trans (h.1 i hi).2.2⟩, fun r hr => ⟨(g.2 r hr).1.trans (h.2 r hr).1, (g.2 r hr).2.trans (h.2 r hr).2⟩⟩
theorem Keep.le {B B' : Nat → Nat → Int32} {n k : Nat} (h : Keep B B' n) (hk : k ≤ n) : Keep B B' k := ⟨fun i hi => h.1 i (by omega), fun r hr => h.2 r (by omega)⟩
theorem Keep.test {B : Nat → Nat → Int32} {n j : Nat} {w a b v : Int32} : Keep B (a5 (upd (B 0) (4 * n + j) w) (upd (B 1) (4 * n + j) a) (upd (B 2) (4 * n + j) b) (upd (B 3) n v) (B 4)) n :=
  ⟨fun i hi => ⟨pk_un (by omega), pk_un (by omega), pk_un (by omega)⟩, fun r hr => ⟨pk_un (by omega), rfl⟩⟩
theorem Keep.begin {B : Nat → Nat → Int32} {n : Nat} {v : Int32} : Keep B (a5 (B 0) (B 1) (B 2) (upd (B 3) n v) (B 4)) n := ⟨fun i hi => ⟨rfl, rfl, rfl⟩, fun r hr => ⟨pk_un (by omega), rfl⟩⟩
theorem Keep.end {B : Nat → Nat → Int32} {n : Nat} {v : Int32} : Keep B (a5 (B 0) (B 1) (B 2) (B 3) (upd (B 4) n v)) n := ⟨fun i hi => ⟨rfl, rfl, rfl⟩, fun r hr => ⟨rfl, pk_un (by omega)⟩⟩
theorem Part.step {κ ν : Nat → Int32} {B : Nat → Nat → Int32} {n j t : Nat} {τ : Nat → Nat} {b : Int32} (h : Part κ ν B n j τ) (hg : (gT κ ν t).1 = 0) (h1 : κ t = 6711655 → b = ν (t + 3)) (h2 : κ t = 1935764837 → b = ν (t + 2)) : Part κ ν (a5 (upd (B 0) (4 * n + j) (κ t)) (upd (B 1) (4 * n + j) (ν (t + 1))) (upd (B 2) (4 * n + j) b) (upd (B 3) n (nI (j + 1))) (B 4)) n (j + 1) (upN τ j t) := by
  refine ⟨pk_us, fun i hi => ?_⟩
  by_cases e : i = j
  · subst e
    rw [upN_s]
    exact ⟨hg, pk_us, pk_us, fun q => (show upd (B 2) (4 * n + i) b (4 * n + i) = _ by rw [pk_us]; exact h1 q), fun q => (show upd (B 2) (4 * n + i) b (4 * n + i) = _ by rw [pk_us]; exact h2 q)⟩
  · rw [upN_n _ _ e]
    obtain ⟨a1, a2, a3, a4, a5'⟩ := h.2 i (by omega)
    exact ⟨a1, (pk_un (show 4 * n + i ≠ 4 * n + j by omega)).trans a2, (pk_un (show 4 * n + i ≠ 4 * n + j by omega)).trans a3, fun q => (pk_un (show 4 * n + i ≠ 4 * n + j by omega)).trans (a4 q), fun q => (pk_un (show 4 * n + i ≠ 4 * n + j by omega)).trans (a5' q)⟩
theorem gA_not {κ ν : Nat → Int32} {f t : Nat} {q : Nat × (Nat → Nat)} (h : ¬ κ t = 6385252) : gA κ ν f t q = ((gS κ ν t).1, (gS κ ν t).2, q) := by
  cases f with
  | zero => rw [gA, if_neg h]
  | succ f => rw [gA, if_neg h]
/-- a rule is read behind n others, or its fault is told -/
def RrQ (T u : Nat) (A : Nat → Nat → Int32) (nx n : Nat) (B : Nat → Nat → Int32) (x : Int32 × RdX × Nat) : Prop :=
  (x.1 = 1 ∧ x.2.2 = n + 1 ∧ x.2.1.1 ≤ T ∧ (∃ (k : Nat) (τ : Nat → Nat), gR (kp T A) (nv T A) n nx = (0, x.2.1.1, k, τ) ∧ 1 ≤ k ∧ k ≤ 4 ∧ Part (kp T A) (nv T A) x.2.1.2.2 n k τ) ∧ x.2.1.2.2 4 n = nv T A (x.2.1.1 - 2) ∧ Keep B x.2.1.2.2 n) ∨
  (x.1 = 0 ∧ x.2.2 = n ∧ ¬ (gR (kp T A) (nv T A) n nx).1 = 0 ∧ x.2.1.2.1 1 = (gR (kp T A) (nv T A) n nx).1 ∧ x.2.1.2.1 2 = ps T u A (gR (kp T A) (nv T A) n nx).2.1)
theorem RrQ_no {T u : Nat} {A : Nat → Nat → Int32} {nx n k : Nat} {B B' : Nat → Nat → Int32} {f : Int32} {y : Nat} {a : Int32} {q : Nat × (Nat → Nat)} {p0 : Int32} (h : gR (kp T A) (nv T A) n nx = (f, k, q)) (hf : ¬ f = 0) (hp : p0 = ps T u A k) : RrQ T u A nx n B (0, (y, i3 a f p0, B'), n) := by
  subst hp
  refine Or.inr ⟨rfl, rfl, ?_⟩
  rw [h]
  exact ⟨hf, rfl, rfl⟩
theorem RrQ_no2 {T u : Nat} {A : Nat → Nat → Int32} {nx n k : Nat} {B B' : Nat → Nat → Int32} {f : Int32} {y : Nat} {I : Nat → Int32} {q : Nat × (Nat → Nat)} (h : gR (kp T A) (nv T A) n nx = (f, k, q)) (hf : ¬ f = 0) (h1 : I 1 = f) (h2 : I 2 = ps T u A k) : RrQ T u A nx n B (0, (y, I, B'), n) := by
  refine Or.inr ⟨rfl, rfl, ?_⟩
  rw [h]
  exact ⟨hf, h1, h2⟩
set_option maxHeartbeats 4000000 in
theorem c_X5_readRule (l : Launch) (Γ : Gm) {hd0 nx : Nat} {I : Nat → Int32} {ht t0 t1 t2 t3 t4 T u : Nat} {A : Nat → Nat → Int32} {hr0 qw qf qs qt qn n : Nat} {B : Nat → Nat → Int32} (hT : T ≤ 400) (hnx : nx ≤ T) (hn15 : n ≤ 15) : Ce l Γ yX5_readRule cX5_readRule 3 (some .boolean) 4 [.ref hd0, .ref hr0] (wRd Γ hd0 ht (nx) (I) :: (wTok Γ ht t0 t1 t2 t3 t4 T u A ++ wRS Γ hr0 qw qf qs qt qn n (B))) (fun (x : Int32 × RdX × Nat) => RrQ T u A nx n B x) (fun (x : Int32 × RdX × Nat) => some (.int x.1)) (fun (x : Int32 × RdX × Nat) => wRd Γ hd0 ht (x.2.1.1) (x.2.1.2.1) :: (wTok Γ ht t0 t1 t2 t3 t4 T u A ++ wRS Γ hr0 qw qf qs qt qn x.2.2 (x.2.1.2.2))) := by
  refine Ce.of mi_X5_readRule [some (.ref hd0), some (.ref hr0), none] 1 rfl (Nat.le_of_ble_eq_true rfl) ?_
  intro p e s m args below meth c C hr
  have h3c : ¬ kp T A nx = 26982 ∨ (kp T A nx = 26982 ∧ n = 15) ∨ (kp T A nx = 26982 ∧ n < 15) := by
    by_cases a1 : kp T A nx = 26982
    · rcases Nat.lt_or_ge n 15 with q | q
      · exact Or.inr (Or.inr ⟨a1, q⟩)
      · exact Or.inr (Or.inl ⟨a1, by omega⟩)
    · exact Or.inl a1
  rcases h3c with hA | hB | hC
  · skip
    refine ww_aload_n (i := 0) C dX5_readRule_0 rfl rfl 1 rfl ?_
    refine ww_get C fe_X5_12 dX5_readRule_1 0 rfl rfl 4 rfl ?_
    refine ww_aload_n (i := 0) C dX5_readRule_4 rfl rfl 5 rfl ?_
    refine ww_get C fe_X5_18 dX5_readRule_5 0 rfl rfl 8 rfl ?_
    refine ww_callV1p C (c_X9_kindOf l Γ (by omega) (by omega)) mi_X9_kindOf im_X9_kindOf se_X9_kindOf ml_X5_40 dX5_readRule_8 1 rfl rfl rfl (Nat.le_of_ble_eq_true rfl) (Nat.le_of_ble_eq_true rfl) (Nat.le_of_ble_eq_true rfl) ⟨Nat.zero_le _, Nat.zero_le _⟩ [1, 5] rfl (by decide) 11 rfl ?_
    rw [show (if nx < T then A 3 nx else 0) = kp T A nx from rfl]
    refine ww_sipush (v := 26982) C dX5_readRule_11 (by decide) 14 rfl ?_
    refine ww_icmp_ne C 30 dX5_readRule_14 (by decide) 17 rfl (fun h_14 => ?_) (fun h_14 => ?_)
    · skip
      refine ww_aload_n (i := 0) C dX5_readRule_30 rfl rfl 31 rfl ?_
      refine ww_sipush (v := 26982) C dX5_readRule_31 (by decide) 34 rfl ?_
      refine ww_callV1 C (c_X5_take_no l Γ hT hnx hA) mi_X5_take im_X5_take se_X5_take ml_X5_56 dX5_readRule_34 0 rfl rfl rfl (Nat.le_of_ble_eq_true rfl) (Nat.le_of_ble_eq_true rfl) (Nat.le_of_ble_eq_true rfl) ⟨Nat.zero_le _, Nat.zero_le _⟩ [0, 1, 2, 3, 4, 5, 6] rfl (by decide) rfl 37 rfl ?_
      refine ww_eq (ws' := wRd Γ hd0 ht (nx) (i3 (I 0) 1 (ps T u A nx)) :: (wTok Γ ht t0 t1 t2 t3 t4 T u A ++ wRS Γ hr0 qw qf qs qt qn n (B))) rfl rfl rfl ?_
      refine ww_if_ne C 42 dX5_readRule_37 (by decide) 40 rfl (fun h_37 => ?_) (fun h_37 => ?_)
      · exact absurd h_37 (by decide)
      · skip
        refine ww_iconst (v := 0) C dX5_readRule_40 (by decide) 41 rfl ?_
        exact ww_zreE C hr rfl dX5_readRule_41 ((0, (nx, i3 (I 0) 1 (ps T u A nx), B), n)) (RrQ_no (by rw [gR, if_pos hA]) (by decide) rfl) rfl rfl
    · exact absurd h_14 hA
  · skip
    have hl0 := kp_lt2 hB.1 (by decide)
    refine ww_aload_n (i := 0) C dX5_readRule_0 rfl rfl 1 rfl ?_
    refine ww_get C fe_X5_12 dX5_readRule_1 0 rfl rfl 4 rfl ?_
    refine ww_aload_n (i := 0) C dX5_readRule_4 rfl rfl 5 rfl ?_
    refine ww_get C fe_X5_18 dX5_readRule_5 0 rfl rfl 8 rfl ?_
    refine ww_callV1p C (c_X9_kindOf l Γ (by omega) (by omega)) mi_X9_kindOf im_X9_kindOf se_X9_kindOf ml_X5_40 dX5_readRule_8 1 rfl rfl rfl (Nat.le_of_ble_eq_true rfl) (Nat.le_of_ble_eq_true rfl) (Nat.le_of_ble_eq_true rfl) ⟨Nat.zero_le _, Nat.zero_le _⟩ [1, 5] rfl (by decide) 11 rfl ?_
    rw [show (if nx < T then A 3 nx else 0) = kp T A nx from rfl]
    refine ww_sipush (v := 26982) C dX5_readRule_11 (by decide) 14 rfl ?_
    refine ww_icmp_ne C 30 dX5_readRule_14 (by decide) 17 rfl (fun h_14 => ?_) (fun h_14 => ?_)
    · exact absurd hB.1 h_14
    · skip
      refine ww_aload_n (i := 1) C dX5_readRule_17 rfl rfl 18 rfl ?_
      refine ww_callV0p C (c_X6_isFull l Γ) mi_X6_isFull im_X6_isFull se_X6_isFull ml_X5_48 dX5_readRule_18 7 rfl rfl rfl (Nat.le_of_ble_eq_true rfl) (Nat.le_of_ble_eq_true rfl) (Nat.le_of_ble_eq_true rfl) ⟨Nat.zero_le _, Nat.zero_le _⟩ [7] rfl (by decide) 21 rfl ?_
      refine ww_if_eq C 30 dX5_readRule_21 (by decide) 24 rfl (fun h_21 => ?_) (fun h_21 => ?_)
      · exact absurd (show ¬ nI n < 15 by rw [hB.2]; decide) (bI_e0 h_21)
      · skip
        refine ww_aload_n (i := 0) C dX5_readRule_24 rfl rfl 25 rfl ?_
        refine ww_iconst (v := 3) C dX5_readRule_25 (by decide) 26 rfl ?_
        refine ww_callV1 C (c_X5_faultHere l Γ hT hnx) mi_X5_faultHere im_X5_faultHere se_X5_faultHere ml_X5_52 dX5_readRule_26 0 rfl rfl rfl (Nat.le_of_ble_eq_true rfl) (Nat.le_of_ble_eq_true rfl) (Nat.le_of_ble_eq_true rfl) ⟨Nat.zero_le _, Nat.zero_le _⟩ [0, 1, 2, 3, 4, 5, 6] rfl (by decide) rfl 29 rfl ?_
        refine ww_eq (ws' := wRd Γ hd0 ht (nx) (i3 (I 0) 3 (ps T u A nx)) :: (wTok Γ ht t0 t1 t2 t3 t4 T u A ++ wRS Γ hr0 qw qf qs qt qn n (B))) rfl rfl rfl ?_
        exact ww_zreE C hr rfl dX5_readRule_29 ((0, (nx, i3 (I 0) 3 (ps T u A nx), B), n)) (RrQ_no (by rw [gR, if_neg (fun q => q hB.1), if_pos hB.2]) (by decide) rfl) rfl rfl
  · skip
    have hl0 := kp_lt2 hC.1 (by decide)
    have hn := hC.2
    refine ww_aload_n (i := 0) C dX5_readRule_0 rfl rfl 1 rfl ?_
    refine ww_get C fe_X5_12 dX5_readRule_1 0 rfl rfl 4 rfl ?_
    refine ww_aload_n (i := 0) C dX5_readRule_4 rfl rfl 5 rfl ?_
    refine ww_get C fe_X5_18 dX5_readRule_5 0 rfl rfl 8 rfl ?_
    refine ww_callV1p C (c_X9_kindOf l Γ (by omega) (by omega)) mi_X9_kindOf im_X9_kindOf se_X9_kindOf ml_X5_40 dX5_readRule_8 1 rfl rfl rfl (Nat.le_of_ble_eq_true rfl) (Nat.le_of_ble_eq_true rfl) (Nat.le_of_ble_eq_true rfl) ⟨Nat.zero_le _, Nat.zero_le _⟩ [1, 5] rfl (by decide) 11 rfl ?_
    rw [show (if nx < T then A 3 nx else 0) = kp T A nx from rfl]
    refine ww_sipush (v := 26982) C dX5_readRule_11 (by decide) 14 rfl ?_
    refine ww_icmp_ne C 30 dX5_readRule_14 (by decide) 17 rfl (fun h_14 => ?_) (fun h_14 => ?_)
    · exact absurd hC.1 h_14
    · skip
      refine ww_aload_n (i := 1) C dX5_readRule_17 rfl rfl 18 rfl ?_
      refine ww_callV0p C (c_X6_isFull l Γ) mi_X6_isFull im_X6_isFull se_X6_isFull ml_X5_48 dX5_readRule_18 7 rfl rfl rfl (Nat.le_of_ble_eq_true rfl) (Nat.le_of_ble_eq_true rfl) (Nat.le_of_ble_eq_true rfl) ⟨Nat.zero_le _, Nat.zero_le _⟩ [7] rfl (by decide) 21 rfl ?_
      refine ww_if_eq C 30 dX5_readRule_21 (by decide) 24 rfl (fun h_21 => ?_) (fun h_21 => ?_)
      · skip
        refine ww_aload_n (i := 0) C dX5_readRule_30 rfl rfl 31 rfl ?_
        refine ww_sipush (v := 26982) C dX5_readRule_31 (by decide) 34 rfl ?_
        refine ww_callV1 C (c_X5_take_ok l Γ hT hnx hC.1) mi_X5_take im_X5_take se_X5_take ml_X5_56 dX5_readRule_34 0 rfl rfl rfl (Nat.le_of_ble_eq_true rfl) (Nat.le_of_ble_eq_true rfl) (Nat.le_of_ble_eq_true rfl) ⟨Nat.zero_le _, Nat.zero_le _⟩ [0, 1, 2, 3, 4, 5, 6] rfl (by decide) rfl 37 rfl ?_
        refine ww_eq (ws' := wRd Γ hd0 ht (nx + 1) (I) :: (wTok Γ ht t0 t1 t2 t3 t4 T u A ++ wRS Γ hr0 qw qf qs qt qn n (B))) rfl rfl rfl ?_
        refine ww_if_ne C 42 dX5_readRule_37 (by decide) 40 rfl (fun h_37 => ?_) (fun h_37 => ?_)
        · skip
          refine ww_aload_n (i := 1) C dX5_readRule_42 rfl rfl 43 rfl ?_
          refine ww_callV0v C (c_X6_beginRule l Γ hn) mi_X6_beginRule im_X6_beginRule se_X6_beginRule ml_X5_59 dX5_readRule_43 7 rfl rfl rfl (Nat.le_of_ble_eq_true rfl) (Nat.le_of_ble_eq_true rfl) (Nat.le_of_ble_eq_true rfl) ⟨Nat.zero_le _, Nat.zero_le _⟩ [7, 11] rfl (by decide) rfl 46 rfl ?_
          refine ww_eq (ws' := wRd Γ hd0 ht (nx + 1) (I) :: (wTok Γ ht t0 t1 t2 t3 t4 T u A ++ wRS Γ hr0 qw qf qs qt qn n (a5 (B 0) (B 1) (B 2) (upd (B 3) n 0) (B 4)))) rfl rfl rfl ?_
          refine ww_aload_n (i := 0) C dX5_readRule_46 rfl rfl 47 rfl ?_
          refine ww_aload_n (i := 1) C dX5_readRule_47 rfl rfl 48 rfl ?_
          refine ww_callE1 C (c_X5_readTest l Γ (t := 0) (B := a5 (B 0) (B 1) (B 2) (upd (B 3) n 0) (B 4)) hT (by omega) hn pk_us (by omega)) mi_X5_readTest im_X5_readTest se_X5_readTest ml_X5_62 dX5_readRule_48 0 rfl rfl rfl (Nat.le_of_ble_eq_true rfl) (Nat.le_of_ble_eq_true rfl) (Nat.le_of_ble_eq_true rfl) ⟨Nat.zero_le _, Nat.zero_le _⟩ [0, 1, 2, 3, 4, 5, 6, 7, 8, 9, 10, 11, 12] rfl (by decide) (fun _ => rfl) 51 rfl (fun x_48 hx_48 => ?_)
          refine ww_eq (ws' := wRd Γ hd0 ht (x_48.2.1) (x_48.2.2.1) :: (wTok Γ ht t0 t1 t2 t3 t4 T u A ++ wRS Γ hr0 qw qf qs qt qn n (x_48.2.2.2))) rfl rfl rfl ?_
          obtain ⟨ok, nx1, I1, B1⟩ := x_48
          rcases hx_48 with ⟨e0, hg1, e1, hle1, b1, eB1, hf1, hs1⟩ | ⟨e0, hg1, e1, e2, eB1⟩
          · skip
            dsimp only at e0 e1 hle1 eB1 ⊢
            subst e0
            have hgr1 : gR (kp T A) (nv T A) n nx = gA (kp T A) (nv T A) 3 nx1 (1, upN (fun _ => 0) 0 (nx + 1)) := by
              rw [gR, if_neg (fun q => q hC.1), if_neg (by omega), if_neg (fun q => q hg1), e1]
            have hpt1 : Part (kp T A) (nv T A) B1 n 1 (upN (fun _ => 0) 0 (nx + 1)) := by
              rw [eB1]
              exact Part.step (j := 0) ⟨pk_us, fun j hj => absurd hj (Nat.not_lt_zero j)⟩ hg1 hf1 hs1
            have hkp1 : Keep B B1 n := by
              rw [eB1]
              exact Keep.begin.tr Keep.test
            refine ww_if_ne C 56 dX5_readRule_51 (by decide) 54 rfl (fun h_51 => ?_) (fun h_51 => ?_)
            · skip
              refine ww_iconst (v := 1) C dX5_readRule_56 (by decide) 57 rfl ?_
              refine ww_istore_n (i := 2) C dX5_readRule_57 rfl (by decide) rfl 58 rfl ?_
              refine ww_loop (fun x : Nat × Nat × (Nat → Int32) × (Nat → Nat → Int32) × (Nat → Nat) => 4 - x.1) (fun x => 1 ≤ x.1 ∧ x.1 ≤ 4 ∧ x.2.1 ≤ T ∧ gR (kp T A) (nv T A) n nx = gA (kp T A) (nv T A) (4 - x.1) x.2.1 (x.1, x.2.2.2.2) ∧ Part (kp T A) (nv T A) x.2.2.2.1 n x.1 x.2.2.2.2 ∧ Keep B x.2.2.2.1 n) (fun x => wRd Γ hd0 ht (x.2.1) (x.2.2.1) :: (wTok Γ ht t0 t1 t2 t3 t4 T u A ++ wRS Γ hr0 qw qf qs qt qn n (x.2.2.2.1))) (fun x => [some (.ref hd0), some (.ref hr0), some (.int (nI x.1))]) (1, nx1, I1, B1, upN (fun _ => 0) 0 (nx + 1)) ⟨Nat.le_refl _, (show 1 ≤ 4 by decide), hle1, hgr1, hpt1, hkp1⟩ rfl rfl (fun x hx ih => ?_)
              obtain ⟨j, nx2, I2, B2, τ⟩ := x
              obtain ⟨hj1, hj4, hnx2, hgr, hpt, hkp⟩ := hx
              try dsimp only at hj1 hj4 hnx2 hgr hpt hkp ih ⊢
              refine ww_iload_n (i := 2) C dX5_readRule_58 rfl rfl 59 rfl ?_
              refine ww_iconst (v := 4) C dX5_readRule_59 (by decide) 60 rfl ?_
              refine ww_icmp_gt C 115 dX5_readRule_60 (by decide) 63 rfl (fun h_60 => ?_) (fun h_60 => ?_)
              · exact absurd h_60 (nI_nlt (b := j) (a := 4) hj4 (by decide))
              · skip
                refine ww_aload_n (i := 0) C dX5_readRule_63 rfl rfl 64 rfl ?_
                refine ww_get C fe_X5_12 dX5_readRule_64 0 rfl rfl 67 rfl ?_
                refine ww_aload_n (i := 0) C dX5_readRule_67 rfl rfl 68 rfl ?_
                refine ww_get C fe_X5_18 dX5_readRule_68 0 rfl rfl 71 rfl ?_
                refine ww_callV1p C (c_X9_kindOf l Γ (by omega) (by omega)) mi_X9_kindOf im_X9_kindOf se_X9_kindOf ml_X5_40 dX5_readRule_71 1 rfl rfl rfl (Nat.le_of_ble_eq_true rfl) (Nat.le_of_ble_eq_true rfl) (Nat.le_of_ble_eq_true rfl) ⟨Nat.zero_le _, Nat.zero_le _⟩ [1, 5] rfl (by decide) 74 rfl ?_
                rw [show (if nx2 < T then A 3 nx2 else 0) = kp T A nx2 from rfl]
                refine ww_ldc C cn_X5_65 dX5_readRule_74 76 rfl ?_
                refine ww_icmp_ne C 115 dX5_readRule_76 (by decide) 79 rfl (fun h_76 => ?_) (fun h_76 => ?_)
                · skip
                  refine ww_aload_n (i := 0) C dX5_readRule_115 rfl rfl 116 rfl ?_
                  refine ww_ldc C cn_X5_66 dX5_readRule_116 118 rfl ?_
                  have ha : ¬ kp T A nx2 = 6385252 := h_76
                  by_cases hg_118 : kp T A nx2 = 7561593
                  · skip
                    have hl0 := kp_lt2 hg_118 (by decide)
                    refine ww_callV1 C (c_X5_take_ok l Γ hT hnx2 hg_118) mi_X5_take im_X5_take se_X5_take ml_X5_56 dX5_readRule_118 0 rfl rfl rfl (Nat.le_of_ble_eq_true rfl) (Nat.le_of_ble_eq_true rfl) (Nat.le_of_ble_eq_true rfl) ⟨Nat.zero_le _, Nat.zero_le _⟩ [0, 1, 2, 3, 4, 5, 6] rfl (by decide) rfl 121 rfl ?_
                    refine ww_eq (ws' := wRd Γ hd0 ht (nx2 + 1) (I2) :: (wTok Γ ht t0 t1 t2 t3 t4 T u A ++ wRS Γ hr0 qw qf qs qt qn n (B2))) rfl rfl rfl ?_
                    refine ww_if_eq C 143 dX5_readRule_121 (by decide) 124 rfl (fun h_121 => ?_) (fun h_121 => ?_)
                    · exact absurd h_121 (by decide)
                    · skip
                      refine ww_aload_n (i := 0) C dX5_readRule_124 rfl rfl 125 rfl ?_
                      refine ww_iconst (v := 0) C dX5_readRule_125 (by decide) 126 rfl ?_
                      refine ww_sipush (v := 9999) C dX5_readRule_126 (by decide) 129 rfl ?_
                      by_cases hg_129 : gN (kp T A) (nv T A) (nx2 + 1) 0 9999 = 0
                      · skip
                        have hl1 := kp_lt2 (gN_k hg_129).1 (by decide)
                        refine ww_callV2 C (c_X5_tn_ok l Γ hT (by omega) hg_129) mi_X5_takeNumber im_X5_takeNumber se_X5_takeNumber ml_X5_67 dX5_readRule_129 0 rfl rfl rfl (Nat.le_of_ble_eq_true rfl) (Nat.le_of_ble_eq_true rfl) (Nat.le_of_ble_eq_true rfl) ⟨Nat.zero_le _, Nat.zero_le _⟩ [0, 1, 2, 3, 4, 5, 6] rfl (by decide) rfl 132 rfl ?_
                        refine ww_eq (ws' := wRd Γ hd0 ht (nx2 + 2) (i3 (nv T A (nx2 + 1)) (I2 1) (I2 2)) :: (wTok Γ ht t0 t1 t2 t3 t4 T u A ++ wRS Γ hr0 qw qf qs qt qn n (B2))) rfl rfl rfl ?_
                        refine ww_if_eq C 143 dX5_readRule_132 (by decide) 135 rfl (fun h_132 => ?_) (fun h_132 => ?_)
                        · exact absurd h_132 (by decide)
                        · skip
                          refine ww_aload_n (i := 0) C dX5_readRule_135 rfl rfl 136 rfl ?_
                          refine ww_iconst (v := 2) C dX5_readRule_136 (by decide) 137 rfl ?_
                          by_cases hg_137 : kp T A (nx2 + 2) = 2
                          · skip
                            have hl2 := kp_lt2 hg_137 (by decide)
                            refine ww_callV1 C (c_X5_take_ok l Γ hT (by omega) hg_137) mi_X5_take im_X5_take se_X5_take ml_X5_56 dX5_readRule_137 0 rfl rfl rfl (Nat.le_of_ble_eq_true rfl) (Nat.le_of_ble_eq_true rfl) (Nat.le_of_ble_eq_true rfl) ⟨Nat.zero_le _, Nat.zero_le _⟩ [0, 1, 2, 3, 4, 5, 6] rfl (by decide) rfl 140 rfl ?_
                            refine ww_eq (ws' := wRd Γ hd0 ht (nx2 + 3) (i3 (nv T A (nx2 + 1)) (I2 1) (I2 2)) :: (wTok Γ ht t0 t1 t2 t3 t4 T u A ++ wRS Γ hr0 qw qf qs qt qn n (B2))) rfl rfl rfl ?_
                            refine ww_if_ne C 145 dX5_readRule_140 (by decide) 143 rfl (fun h_140 => ?_) (fun h_140 => ?_)
                            · skip
                              refine ww_aload_n (i := 1) C dX5_readRule_145 rfl rfl 146 rfl ?_
                              refine ww_aload_n (i := 0) C dX5_readRule_146 rfl rfl 147 rfl ?_
                              refine ww_get C fe_X5_22 dX5_readRule_147 0 rfl rfl 150 rfl ?_
                              refine ww_callV1v C (c_X6_endRule l Γ hn) mi_X6_endRule im_X6_endRule se_X6_endRule ml_X5_71 dX5_readRule_150 7 rfl rfl rfl (Nat.le_of_ble_eq_true rfl) (Nat.le_of_ble_eq_true rfl) (Nat.le_of_ble_eq_true rfl) ⟨Nat.zero_le _, Nat.zero_le _⟩ [7, 12] rfl (by decide) rfl 153 rfl ?_
                              refine ww_eq (ws' := wRd Γ hd0 ht (nx2 + 3) (i3 (nv T A (nx2 + 1)) (I2 1) (I2 2)) :: (wTok Γ ht t0 t1 t2 t3 t4 T u A ++ wRS Γ hr0 qw qf qs qt qn (n + 1) (a5 (B2 0) (B2 1) (B2 2) (B2 3) (upd (B2 4) n (nv T A (nx2 + 1)))))) rfl rfl rfl ?_
                              refine ww_iconst (v := 1) C dX5_readRule_153 (by decide) 154 rfl ?_
                              exact ww_zreE C hr rfl dX5_readRule_154 ((1, (nx2 + 3, i3 (nv T A (nx2 + 1)) (I2 1) (I2 2), a5 (B2 0) (B2 1) (B2 2) (B2 3) (upd (B2 4) n (nv T A (nx2 + 1)))), n + 1)) (Or.inl ⟨rfl, rfl, hl2, ⟨j, τ, by rw [hgr, gA_not ha, gS, if_neg (fun q => q hg_118), if_neg (fun q => q hg_129), if_neg (fun q => q hg_137)], hj1, hj4, hpt⟩, pk_us, hkp.tr Keep.end⟩) rfl rfl
                            · exact absurd h_140 (by decide)
                          · skip
                            refine ww_callV1 C (c_X5_take_no l Γ hT (by omega) hg_137) mi_X5_take im_X5_take se_X5_take ml_X5_56 dX5_readRule_137 0 rfl rfl rfl (Nat.le_of_ble_eq_true rfl) (Nat.le_of_ble_eq_true rfl) (Nat.le_of_ble_eq_true rfl) ⟨Nat.zero_le _, Nat.zero_le _⟩ [0, 1, 2, 3, 4, 5, 6] rfl (by decide) rfl 140 rfl ?_
                            refine ww_eq (ws' := wRd Γ hd0 ht (nx2 + 2) (i3 (nv T A (nx2 + 1)) 1 (ps T u A (nx2 + 2))) :: (wTok Γ ht t0 t1 t2 t3 t4 T u A ++ wRS Γ hr0 qw qf qs qt qn n (B2))) rfl rfl rfl ?_
                            refine ww_if_ne C 145 dX5_readRule_140 (by decide) 143 rfl (fun h_140 => ?_) (fun h_140 => ?_)
                            · exact absurd h_140 (by decide)
                            · skip
                              refine ww_iconst (v := 0) C dX5_readRule_143 (by decide) 144 rfl ?_
                              exact ww_zreE C hr rfl dX5_readRule_144 ((0, (nx2 + 2, i3 (nv T A (nx2 + 1)) 1 (ps T u A (nx2 + 2)), B2), n)) (RrQ_no (by rw [hgr, gA_not ha, gS, if_neg (fun q => q hg_118), if_neg (fun q => q hg_129), if_pos hg_137]) (by decide) rfl) rfl rfl
                      · skip
                        refine ww_callV2 C (c_X5_tn_no l Γ hT (by omega) hg_129) mi_X5_takeNumber im_X5_takeNumber se_X5_takeNumber ml_X5_67 dX5_readRule_129 0 rfl rfl rfl (Nat.le_of_ble_eq_true rfl) (Nat.le_of_ble_eq_true rfl) (Nat.le_of_ble_eq_true rfl) ⟨Nat.zero_le _, Nat.zero_le _⟩ [0, 1, 2, 3, 4, 5, 6] rfl (by decide) rfl 132 rfl ?_
                        refine ww_eq (ws' := wRd Γ hd0 ht (nx2 + 1) (i3 (if kp T A (nx2 + 1) = 1 then nv T A (nx2 + 1) else I2 0) (gN (kp T A) (nv T A) (nx2 + 1) 0 9999) (ps T u A (nx2 + 1))) :: (wTok Γ ht t0 t1 t2 t3 t4 T u A ++ wRS Γ hr0 qw qf qs qt qn n (B2))) rfl rfl rfl ?_
                        refine ww_if_eq C 143 dX5_readRule_132 (by decide) 135 rfl (fun h_132 => ?_) (fun h_132 => ?_)
                        · skip
                          refine ww_iconst (v := 0) C dX5_readRule_143 (by decide) 144 rfl ?_
                          exact ww_zreE C hr rfl dX5_readRule_144 ((0, (nx2 + 1, i3 (if kp T A (nx2 + 1) = 1 then nv T A (nx2 + 1) else I2 0) (gN (kp T A) (nv T A) (nx2 + 1) 0 9999) (ps T u A (nx2 + 1)), B2), n)) (RrQ_no (by rw [hgr, gA_not ha, gS, if_neg (fun q => q hg_118), if_pos hg_129]) hg_129 rfl) rfl rfl
                        · exact absurd h_132 (by decide)
                  · skip
                    refine ww_callV1 C (c_X5_take_no l Γ hT hnx2 hg_118) mi_X5_take im_X5_take se_X5_take ml_X5_56 dX5_readRule_118 0 rfl rfl rfl (Nat.le_of_ble_eq_true rfl) (Nat.le_of_ble_eq_true rfl) (Nat.le_of_ble_eq_true rfl) ⟨Nat.zero_le _, Nat.zero_le _⟩ [0, 1, 2, 3, 4, 5, 6] rfl (by decide) rfl 121 rfl ?_
                    refine ww_eq (ws' := wRd Γ hd0 ht (nx2) (i3 (I2 0) 1 (ps T u A nx2)) :: (wTok Γ ht t0 t1 t2 t3 t4 T u A ++ wRS Γ hr0 qw qf qs qt qn n (B2))) rfl rfl rfl ?_
                    refine ww_if_eq C 143 dX5_readRule_121 (by decide) 124 rfl (fun h_121 => ?_) (fun h_121 => ?_)
                    · skip
                      refine ww_iconst (v := 0) C dX5_readRule_143 (by decide) 144 rfl ?_
                      exact ww_zreE C hr rfl dX5_readRule_144 ((0, (nx2, i3 (I2 0) 1 (ps T u A nx2), B2), n)) (RrQ_no (by rw [hgr, gA_not ha, gS, if_pos hg_118]) (by decide) rfl) rfl rfl
                    · exact absurd h_121 (by decide)
                · skip
                  have hand : kp T A nx2 = 6385252 := h_76
                  have hl2 := kp_lt2 hand (by decide)
                  refine ww_iload_n (i := 2) C dX5_readRule_79 rfl rfl 80 rfl ?_
                  refine ww_iconst (v := 4) C dX5_readRule_80 (by decide) 81 rfl ?_
                  refine ww_icmp_ne C 90 dX5_readRule_81 (by decide) 84 rfl (fun h_81 => ?_) (fun h_81 => ?_)
                  · skip
                    have hj3 : j < 4 := by
                      rcases Nat.lt_or_ge j 4 with q | q
                      · exact q
                      · exact absurd (by rw [show j = 4 by omega]; rfl) h_81
                    refine ww_aload_n (i := 0) C dX5_readRule_90 rfl rfl 91 rfl ?_
                    refine ww_ldc C cn_X5_65 dX5_readRule_91 93 rfl ?_
                    refine ww_callV1 C (c_X5_take_ok l Γ hT hnx2 hand) mi_X5_take im_X5_take se_X5_take ml_X5_56 dX5_readRule_93 0 rfl rfl rfl (Nat.le_of_ble_eq_true rfl) (Nat.le_of_ble_eq_true rfl) (Nat.le_of_ble_eq_true rfl) ⟨Nat.zero_le _, Nat.zero_le _⟩ [0, 1, 2, 3, 4, 5, 6] rfl (by decide) rfl 96 rfl ?_
                    refine ww_eq (ws' := wRd Γ hd0 ht (nx2 + 1) (I2) :: (wTok Γ ht t0 t1 t2 t3 t4 T u A ++ wRS Γ hr0 qw qf qs qt qn n (B2))) rfl rfl rfl ?_
                    refine ww_if_eq C 107 dX5_readRule_96 (by decide) 99 rfl (fun h_96 => ?_) (fun h_96 => ?_)
                    · exact absurd h_96 (by decide)
                    · skip
                      refine ww_aload_n (i := 0) C dX5_readRule_99 rfl rfl 100 rfl ?_
                      refine ww_aload_n (i := 1) C dX5_readRule_100 rfl rfl 101 rfl ?_
                      refine ww_callE1 C (c_X5_readTest l Γ (t := j) (B := B2) hT (by omega) hn hpt.1 hj3) mi_X5_readTest im_X5_readTest se_X5_readTest ml_X5_62 dX5_readRule_101 0 rfl rfl rfl (Nat.le_of_ble_eq_true rfl) (Nat.le_of_ble_eq_true rfl) (Nat.le_of_ble_eq_true rfl) ⟨Nat.zero_le _, Nat.zero_le _⟩ [0, 1, 2, 3, 4, 5, 6, 7, 8, 9, 10, 11, 12] rfl (by decide) (fun _ => rfl) 104 rfl (fun x_101 hx_101 => ?_)
                      refine ww_eq (ws' := wRd Γ hd0 ht (x_101.2.1) (x_101.2.2.1) :: (wTok Γ ht t0 t1 t2 t3 t4 T u A ++ wRS Γ hr0 qw qf qs qt qn n (x_101.2.2.2))) rfl rfl rfl ?_
                      obtain ⟨ok, nx3, I3, B3⟩ := x_101
                      rcases hx_101 with ⟨e0, hg3, e3, hle3, b3, eB3, hf3, hs3⟩ | ⟨e0, hg3, e3, e4, eB3⟩
                      · skip
                        dsimp only at e0 e3 hle3 eB3 ⊢
                        subst e0
                        refine ww_if_ne C 109 dX5_readRule_104 (by decide) 107 rfl (fun h_104 => ?_) (fun h_104 => ?_)
                        · skip
                          refine ww_iinc (y := 1) C dX5_readRule_109 rfl (by decide) (by decide) rfl 112 rfl ?_
                          refine ww_goto C 58 dX5_readRule_112 (by decide) ?_
                          refine ww_eq rfl (by rw [nI_succ j]; rfl) rfl (ih (j + 1, nx3, I3, B3, upN τ j (nx2 + 1)) ⟨by omega, by omega, hle3, ?_, ?_, ?_⟩ (by show 4 - (j + 1) < 4 - j; omega))
                          · rw [hgr, show 4 - j = (4 - (j + 1)) + 1 by omega, gA, if_pos hand, if_neg (fun q => q hg3)]
                            show gA _ _ _ _ _ = gA _ _ _ nx3 _
                            rw [e3]
                          · show Part _ _ B3 _ _ _
                            rw [eB3]; exact hpt.step hg3 hf3 hs3
                          · show Keep B B3 n
                            rw [eB3]; exact hkp.tr Keep.test
                        · exact absurd h_104 (by decide)
                      · skip
                        dsimp only at e0 e3 e4 eB3 ⊢
                        subst e0
                        refine ww_if_ne C 109 dX5_readRule_104 (by decide) 107 rfl (fun h_104 => ?_) (fun h_104 => ?_)
                        · exact absurd h_104 (by decide)
                        · skip
                          refine ww_iconst (v := 0) C dX5_readRule_107 (by decide) 108 rfl ?_
                          exact ww_zreE C hr rfl dX5_readRule_108 ((0, (nx3, I3, B3), n)) (RrQ_no2 (by rw [hgr, show 4 - j = (4 - (j + 1)) + 1 by omega, gA, if_pos hand, if_pos hg3]) hg3 e3 e4) rfl rfl
                  · skip
                    obtain rfl : j = 4 := (nI_eq (b := 4) (by omega) (by decide)).mp h_81
                    refine ww_aload_n (i := 0) C dX5_readRule_84 rfl rfl 85 rfl ?_
                    refine ww_iconst (v := 3) C dX5_readRule_85 (by decide) 86 rfl ?_
                    refine ww_callV1 C (c_X5_faultHere l Γ hT hnx2) mi_X5_faultHere im_X5_faultHere se_X5_faultHere ml_X5_52 dX5_readRule_86 0 rfl rfl rfl (Nat.le_of_ble_eq_true rfl) (Nat.le_of_ble_eq_true rfl) (Nat.le_of_ble_eq_true rfl) ⟨Nat.zero_le _, Nat.zero_le _⟩ [0, 1, 2, 3, 4, 5, 6] rfl (by decide) rfl 89 rfl ?_
                    refine ww_eq (ws' := wRd Γ hd0 ht (nx2) (i3 (I2 0) 3 (ps T u A nx2)) :: (wTok Γ ht t0 t1 t2 t3 t4 T u A ++ wRS Γ hr0 qw qf qs qt qn n (B2))) rfl rfl rfl ?_
                    exact ww_zreE C hr rfl dX5_readRule_89 ((0, (nx2, i3 (I2 0) 3 (ps T u A nx2), B2), n)) (RrQ_no (by rw [hgr, gA, if_pos hand]) (by decide) rfl) rfl rfl
            · exact absurd h_51 (by decide)
          · skip
            dsimp only at e0 e1 e2 eB1 ⊢
            subst e0
            refine ww_if_ne C 56 dX5_readRule_51 (by decide) 54 rfl (fun h_51 => ?_) (fun h_51 => ?_)
            · exact absurd h_51 (by decide)
            · skip
              refine ww_iconst (v := 0) C dX5_readRule_54 (by decide) 55 rfl ?_
              exact ww_zreE C hr rfl dX5_readRule_55 ((0, (nx1, I1, B1), n)) (RrQ_no2 (by rw [gR, if_neg (fun q => q hC.1), if_neg (by omega), if_pos hg1]) hg1 e1 e2) rfl rfl
        · exact absurd h_37 (by decide)
      · exact absurd (nI_lt (b := 15) hC.2 (by decide)) (bI_n0 h_21)
