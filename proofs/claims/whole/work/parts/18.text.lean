abbrev RuX : Type := (Nat → Nat) × (Nat → Nat → Nat) × (Nat → Nat)
def upF (f : Nat → Nat → Nat) (k : Nat) (v : Nat → Nat) : Nat → Nat → Nat := fun j => if j = k then v else f j
/-- the text: at most f rules more, n being read, from token t on -/
def gRs (κ ν : Nat → Int32) : Nat → Nat → Nat → RuX → Int32 × Nat × Nat × RuX
  | 0, n, t, q => (0, t, n, q)
  | f + 1, n, t, q => if κ t = 0 then (0, t, n, q) else if ¬ (gR κ ν n t).1 = 0 then ((gR κ ν n t).1, (gR κ ν n t).2.1, n, q) else gRs κ ν f (n + 1) (gR κ ν n t).2.1 (upN q.1 n (gR κ ν n t).2.2.1, upF q.2.1 n (gR κ ν n t).2.2.2, upN q.2.2 n (gR κ ν n t).2.1)
def q00 : RuX := (fun _ => 0, fun _ _ => 0, fun _ => 0)
def gAll (κ ν : Nat → Int32) : Int32 × Nat × Nat × RuX := gRs κ ν 16 0 0 q00
theorem gR_15 {κ ν : Nat → Int32} {t : Nat} : ¬ (gR κ ν 15 t).1 = 0 := by
  unfold gR
  split
  · exact (by decide : ¬ (1 : Int32) = 0)
  · rw [if_pos rfl]; exact (by decide : ¬ (3 : Int32) = 0)
/-- n rules stand in the rows B as the tokens tell them -/
def RepS (κ ν : Nat → Int32) (B : Nat → Nat → Int32) (n : Nat) (q : RuX) : Prop := ∀ r, r < n → 1 ≤ q.1 r ∧ q.1 r ≤ 4 ∧ Part κ ν B r (q.1 r) (q.2.1 r) ∧ B 4 r = ν (q.2.2 r - 2)
theorem Part.keep {κ ν : Nat → Int32} {B B' : Nat → Nat → Int32} {r k n : Nat} {τ : Nat → Nat} (h : Part κ ν B r k τ) (hr : r < n) (hk : k ≤ 4) (K : Keep B B' n) : Part κ ν B' r k τ := by
  refine ⟨(K.2 r hr).1.trans h.1, fun j hj => ?_⟩
  obtain ⟨a1, a2, a3, a4, a5'⟩ := h.2 j hj
  obtain ⟨k0, k1, k2⟩ := K.1 (4 * r + j) (by omega)
  exact ⟨a1, k0.trans a2, k1.trans a3, fun q => k2.trans (a4 q), fun q => k2.trans (a5' q)⟩
theorem RepS.step {κ ν : Nat → Int32} {B B' : Nat → Nat → Int32} {n k e : Nat} {q : RuX} {τ : Nat → Nat} (h : RepS κ ν B n q) (K : Keep B B' n) (h1 : 1 ≤ k) (h4 : k ≤ 4) (hp : Part κ ν B' n k τ) (hn : B' 4 n = ν (e - 2)) : RepS κ ν B' (n + 1) (upN q.1 n k, upF q.2.1 n τ, upN q.2.2 n e) := by
  intro r hr
  by_cases e0 : r = n
  · subst e0
    dsimp only
    rw [upN_s, upN_s, show upF q.2.1 r τ r = τ from if_pos rfl]
    exact ⟨h1, h4, hp, hn⟩
  · dsimp only
    rw [upN_n _ _ e0, upN_n _ _ e0, show upF q.2.1 n τ r = q.2.1 r from if_neg e0]
    obtain ⟨a1, a2, a3, a4⟩ := h r (by omega)
    exact ⟨a1, a2, a3.keep (by omega) a2 K, (K.2 r (by omega)).2.trans a4⟩
abbrev RiX : Type := Int32 × TkX × RdX × Nat
/-- the text is read, or its fault is told -/
def RiQ (b : Nat → Int32) (u : Nat) (x : RiX) : Prop :=
  TokE b u x.2.1.1 x.2.1.2.1 x.2.1.2.2.1 x.2.1.2.2.2 ∧ x.2.2.2 ≤ 15 ∧
  ((x.1 = 1 ∧ ∃ (t : Nat) (q : RuX), gAll (kp x.2.1.1 x.2.1.2.2.2) (nv x.2.1.1 x.2.1.2.2.2) = (0, t, x.2.2.2, q) ∧ RepS (kp x.2.1.1 x.2.1.2.2.2) (nv x.2.1.1 x.2.1.2.2.2) x.2.2.1.2.2 x.2.2.2 q) ∨
   (x.1 = 0 ∧ ¬ (gAll (kp x.2.1.1 x.2.1.2.2.2) (nv x.2.1.1 x.2.1.2.2.2)).1 = 0 ∧ x.2.2.1.2.1 1 = (gAll (kp x.2.1.1 x.2.1.2.2.2) (nv x.2.1.1 x.2.1.2.2.2)).1 ∧ x.2.2.1.2.1 2 = ps x.2.1.1 u x.2.1.2.2.2 (gAll (kp x.2.1.1 x.2.1.2.2.2) (nv x.2.1.1 x.2.1.2.2.2)).2.1))
abbrev wRI (Γ : Gm) (hd0 nx : Nat) (I : Nat → Int32) (ht t0 t1 t2 t3 t4 T u : Nat) (A : Nat → Nat → Int32) (hr0 qw qf qs qt qn n : Nat) (B : Nat → Nat → Int32) (h0 hb u0 : Nat) (by0 : Nat → Int32) : va_W := wRd Γ hd0 ht nx I :: (wTok Γ ht t0 t1 t2 t3 t4 T u A ++ wRS Γ hr0 qw qf qs qt qn n B ++ wTap Γ h0 hb u0 by0)
set_option maxHeartbeats 4000000 in
theorem c_X5_readInto (l : Launch) (Γ : Gm) {hd0 nx : Nat} {I : Nat → Int32} {ht t0 t1 t2 t3 t4 T u0 : Nat} {A : Nat → Nat → Int32} {hr0 qw qf qs qt qn n : Nat} {B : Nat → Nat → Int32} {h0 hb u : Nat} {by0 : Nat → Int32} (hu : u ≤ 400) : Ce l Γ yX5_readInto cX5_readInto 4 (some .boolean) 5 [.ref hd0, .ref hr0, .ref h0] (wRI Γ hd0 (nx) (I) ht t0 t1 t2 t3 t4 (T) (u0) (A) hr0 qw qf qs qt qn (n) (B) h0 hb u by0) (fun (x : RiX) => RiQ by0 u x) (fun (x : RiX) => some (.int x.1)) (fun (x : RiX) => wRI Γ hd0 (x.2.2.1.1) (x.2.2.1.2.1) ht t0 t1 t2 t3 t4 (x.2.1.1) (u) (x.2.1.2.2.2) hr0 qw qf qs qt qn (x.2.2.2) (x.2.2.1.2.2) h0 hb u by0) := by
  refine Ce.of mi_X5_readInto [some (.ref hd0), some (.ref hr0), some (.ref h0), none] 1 rfl (Nat.le_of_ble_eq_true rfl) ?_
  intro p e s m args below meth c C hr
  refine ww_aload_n (i := 0) C dX5_readInto_0 rfl rfl 1 rfl ?_
  refine ww_get C fe_X5_12 dX5_readInto_1 0 rfl rfl 4 rfl ?_
  refine ww_aload_n (i := 2) C dX5_readInto_4 rfl rfl 5 rfl ?_
  refine ww_callE1v C (c_X9_cut l Γ hu) mi_X9_cut im_X9_cut se_X9_cut ml_X5_31 dX5_readInto_5 1 rfl rfl rfl (Nat.le_of_ble_eq_true rfl) (Nat.le_of_ble_eq_true rfl) (Nat.le_of_ble_eq_true rfl) ⟨Nat.zero_le _, Nat.zero_le _⟩ [1, 2, 3, 4, 5, 6, 13, 14] rfl (by decide) (fun _ => rfl) 8 rfl (fun x_5 hx_5 => ?_)
  obtain ⟨T1, st, ln, A1⟩ := x_5
  have hTk : TokE by0 u T1 st ln A1 := hx_5
  have hT1 : T1 ≤ 400 := Nat.le_trans hTk.1.1 hu
  refine ww_eq (ws' := wRI Γ hd0 (nx) (I) ht t0 t1 t2 t3 t4 (T1) (u) (A1) hr0 qw qf qs qt qn (n) (B) h0 hb u by0) rfl rfl rfl ?_
  refine ww_aload_n (i := 0) C dX5_readInto_8 rfl rfl 9 rfl ?_
  refine ww_iconst (v := 0) C dX5_readInto_9 (by decide) 10 rfl ?_
  refine ww_put C fe_X5_18 rfl dX5_readInto_10 0 rfl rfl rfl (Nat.le_of_ble_eq_true rfl) 13 rfl ?_
  refine ww_aload_n (i := 1) C dX5_readInto_13 rfl rfl 14 rfl ?_
  refine ww_iconst (v := 0) C dX5_readInto_14 (by decide) 15 rfl ?_
  refine ww_put C fe_X5_35 rfl dX5_readInto_15 7 rfl rfl rfl (Nat.le_of_ble_eq_true rfl) 18 rfl ?_
  refine ww_iconst (v := 0) C dX5_readInto_18 (by decide) 19 rfl ?_
  refine ww_istore_n (i := 3) C dX5_readInto_19 rfl (by decide) rfl 20 rfl ?_
  refine ww_eq (ws' := wRI Γ hd0 (0) (I) ht t0 t1 t2 t3 t4 (T1) (u) (A1) hr0 qw qf qs qt qn (0) (B) h0 hb u by0) rfl rfl rfl ?_
  refine ww_loop (fun x : Nat × Nat × (Nat → Int32) × (Nat → Nat → Int32) × RuX => 16 - x.1) (fun x => x.1 ≤ 15 ∧ x.2.1 ≤ T1 ∧ gAll (kp T1 A1) (nv T1 A1) = gRs (kp T1 A1) (nv T1 A1) (16 - x.1) x.1 x.2.1 x.2.2.2.2 ∧ RepS (kp T1 A1) (nv T1 A1) x.2.2.2.1 x.1 x.2.2.2.2) (fun x => wRI Γ hd0 (x.2.1) (x.2.2.1) ht t0 t1 t2 t3 t4 (T1) (u) (A1) hr0 qw qf qs qt qn (x.1) (x.2.2.2.1) h0 hb u by0) (fun x => [some (.ref hd0), some (.ref hr0), some (.ref h0), some (.int (nI x.1))]) (0, 0, I, B, q00) ⟨Nat.zero_le _, Nat.zero_le _, rfl, fun r hr => absurd hr (Nat.not_lt_zero r)⟩ rfl rfl (fun x hx ih => ?_)
  obtain ⟨k, nx2, I2, B2, q⟩ := x
  obtain ⟨hk, hnx2, hall, hrep⟩ := hx
  try dsimp only at hk hnx2 hall hrep ih ⊢
  refine ww_iload_n (i := 3) C dX5_readInto_20 rfl rfl 21 rfl ?_
  refine ww_bipush (v := 15) C dX5_readInto_21 (by decide) 23 rfl ?_
  refine ww_icmp_gt C 58 dX5_readInto_23 (by decide) 26 rfl (fun h_23 => ?_) (fun h_23 => ?_)
  · exact absurd h_23 (nI_nlt (b := k) (a := 15) hk (by decide))
  · skip
    refine ww_aload_n (i := 0) C dX5_readInto_26 rfl rfl 27 rfl ?_
    refine ww_get C fe_X5_12 dX5_readInto_27 0 rfl rfl 30 rfl ?_
    refine ww_aload_n (i := 0) C dX5_readInto_30 rfl rfl 31 rfl ?_
    refine ww_get C fe_X5_18 dX5_readInto_31 0 rfl rfl 34 rfl ?_
    refine ww_callV1p C (c_X9_kindOf l Γ (by omega) (by omega)) mi_X9_kindOf im_X9_kindOf se_X9_kindOf ml_X5_40 dX5_readInto_34 1 rfl rfl rfl (Nat.le_of_ble_eq_true rfl) (Nat.le_of_ble_eq_true rfl) (Nat.le_of_ble_eq_true rfl) ⟨Nat.zero_le _, Nat.zero_le _⟩ [1, 5] rfl (by decide) 37 rfl ?_
    rw [show (if nx2 < T1 then A1 3 nx2 else 0) = kp T1 A1 nx2 from rfl]
    refine ww_if_ne C 42 dX5_readInto_37 (by decide) 40 rfl (fun h_37 => ?_) (fun h_37 => ?_)
    · skip
      refine ww_aload_n (i := 0) C dX5_readInto_42 rfl rfl 43 rfl ?_
      refine ww_aload_n (i := 1) C dX5_readInto_43 rfl rfl 44 rfl ?_
      refine ww_callE1 C (c_X5_readRule l Γ hT1 hnx2 hk) mi_X5_readRule im_X5_readRule se_X5_readRule ml_X5_44 dX5_readInto_44 0 rfl rfl rfl (Nat.le_of_ble_eq_true rfl) (Nat.le_of_ble_eq_true rfl) (Nat.le_of_ble_eq_true rfl) ⟨Nat.zero_le _, Nat.zero_le _⟩ [0, 1, 2, 3, 4, 5, 6, 7, 8, 9, 10, 11, 12] rfl (by decide) (fun _ => rfl) 47 rfl (fun x_44 hx_44 => ?_)
      obtain ⟨ok, ⟨nx3, I3, B3⟩, n3⟩ := x_44
      refine ww_eq (ws' := wRI Γ hd0 (nx3) (I3) ht t0 t1 t2 t3 t4 (T1) (u) (A1) hr0 qw qf qs qt qn (n3) (B3) h0 hb u by0) rfl rfl rfl ?_
      rcases hx_44 with ⟨e0, e1, hle3, ⟨kk, τ, hgr, hk1, hk4, hpart⟩, hnum, hkeep⟩ | ⟨e0, e1, hf1, hf2, hf3⟩
      · skip
        dsimp only at e0 e1 hle3 hgr hpart hnum hkeep ⊢
        subst e0
        subst e1
        refine ww_if_ne C 52 dX5_readInto_47 (by decide) 50 rfl (fun h_47 => ?_) (fun h_47 => ?_)
        · skip
          refine ww_iinc (y := 1) C dX5_readInto_52 rfl (by decide) (by decide) rfl 55 rfl ?_
          refine ww_goto C 20 dX5_readInto_55 (by decide) ?_
          refine ww_eq rfl (by rw [nI_succ k]; rfl) rfl (ih (k + 1, nx3, I3, B3, (upN q.1 k (gR (kp T1 A1) (nv T1 A1) k nx2).2.2.1, upF q.2.1 k (gR (kp T1 A1) (nv T1 A1) k nx2).2.2.2, upN q.2.2 k (gR (kp T1 A1) (nv T1 A1) k nx2).2.1)) ⟨?_, hle3, ?_, ?_⟩ (by show 16 - (k + 1) < 16 - k; omega))
          · show k + 1 ≤ 15
            rcases Nat.lt_or_ge k 15 with z | z
            · omega
            · obtain rfl : k = 15 := by omega
              exact absurd (by rw [hgr]) gR_15
          · rw [hall, show 16 - k = (16 - (k + 1)) + 1 by omega, gRs, if_neg h_37, if_neg (fun z => z (by rw [hgr])), hgr]
          · rw [hgr]
            exact hrep.step hkeep hk1 hk4 hpart hnum
        · exact absurd h_47 (by decide)
      · skip
        dsimp only at e0 e1 hf1 hf2 hf3 ⊢
        subst e0
        subst e1
        refine ww_if_ne C 52 dX5_readInto_47 (by decide) 50 rfl (fun h_47 => ?_) (fun h_47 => ?_)
        · exact absurd h_47 (by decide)
        · skip
          refine ww_iconst (v := 0) C dX5_readInto_50 (by decide) 51 rfl ?_
          have hG : gAll (kp T1 A1) (nv T1 A1) = ((gR (kp T1 A1) (nv T1 A1) n3 nx2).1, (gR (kp T1 A1) (nv T1 A1) n3 nx2).2.1, n3, q) := by rw [hall, show 16 - n3 = (16 - (n3 + 1)) + 1 by omega, gRs, if_neg h_37, if_pos hf1]
          exact ww_zreE C hr rfl dX5_readInto_51 ((0, (T1, st, ln, A1), (nx3, I3, B3), n3)) (⟨hTk, hk, Or.inr ⟨rfl, by rw [hG]; exact hf1, by rw [hG]; exact hf2, by rw [hG]; exact hf3⟩⟩) rfl rfl
    · skip
      refine ww_iconst (v := 1) C dX5_readInto_40 (by decide) 41 rfl ?_
      have hG : gAll (kp T1 A1) (nv T1 A1) = (0, nx2, k, q) := by rw [hall, show 16 - k = (16 - (k + 1)) + 1 by omega, gRs, if_pos h_37]
      exact ww_zreE C hr rfl dX5_readInto_41 ((1, (T1, st, ln, A1), (nx2, I2, B2), k)) (⟨hTk, hk, Or.inl ⟨rfl, nx2, q, hG, hrep⟩⟩) rfl rfl
