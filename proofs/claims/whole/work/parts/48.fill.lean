theorem CH_0 : CH 0 = 0 := by decide +kernel
theorem low_ok : ∀ n, n < 256 → 1 ≤ n → nI n &&& -(nI n) = nI (n &&& (256 - n)) ∧ 0 < n &&& (256 - n) ∧ n &&& (256 - n) ≤ n := by decide +kernel
theorem fill_lin : ∀ n, n < 256 → ∀ b, b < 2 → (n &&& (256 - n)) = n ∨ CH ((n &&& (256 - n)) * 2 ^ (8 * b)) ^^^ CH ((n - (n &&& (256 - n))) * 2 ^ (8 * b)) = CH (n * 2 ^ (8 * b)) := by decide +kernel
/-- the table of half charts, filled below n -/
def GF (b : Nat) (f : Nat → Int64) (n : Nat) : Nat → Int64 := fun k => if 1 ≤ k ∧ k < n then lN (CH (k * 2 ^ (8 * b))) else f k
theorem GF_1 (b : Nat) (f : Nat → Int64) : f = GF b f 1 := by
  funext k
  exact (if_neg (by omega)).symm
theorem GF_in {b n k : Nat} {f : Nat → Int64} (h1 : 1 ≤ k) (h2 : k < n) : GF b f n k = lN (CH (k * 2 ^ (8 * b))) := if_pos ⟨h1, h2⟩
theorem GF_up {b n : Nat} {f : Nat → Int64} (hn : 1 ≤ n) : vp_updL (GF b f n) n (lN (CH (n * 2 ^ (8 * b)))) = GF b f (n + 1) := by
  funext k
  by_cases e : k = n
  · subst e
    rw [GF_in hn (by omega)]
    exact if_pos rfl
  · show (if k = n then _ else _) = _
    rw [if_neg e]
    unfold GF
    by_cases c : 1 ≤ k ∧ k < n
    · rw [if_pos c, if_pos ⟨c.1, by omega⟩]
    · rw [if_neg c, if_neg (by omega)]
theorem GF_256 {b : Nat} {f : Nat → Int64} (h0 : f 0 = 0) {k : Nat} (hk : k < 256) : GF b f 256 k = lN (CH (k * 2 ^ (8 * b))) := by
  by_cases c : 1 ≤ k
  · exact GF_in c hk
  · obtain rfl : k = 0 := by omega
    rw [Nat.zero_mul, CH_0]
    exact (if_neg (by omega)).trans h0
theorem half_lt {n b : Nat} (hn : n < 256) (hb : b < 2) : n * 2 ^ (8 * b) < 65536 := by
  rcases (show b = 0 ∨ b = 1 by omega) with rfl | rfl
  · show n * 1 < 65536; omega
  · show n * 256 < 65536; omega
theorem c_X4_fillWithCharts (l : Launch) (Γ : Gm) {a b : Nat} {f : Nat → Int64} (hb : b < 2) : Ct l Γ yX4_fillWithCharts cX4_fillWithCharts 4 none 2 [.ref a, .int (nI (8 * b))] ([(a, .inl (Γ.2.2.1, 256, .inr (.inl (f))))]) (none) ([(a, .inl (Γ.2.2.1, 256, .inr (.inl (GF b f 256))))]) := by
  refine Ct.of mi_X4_fillWithCharts [some (.ref a), some (.int (nI (8 * b))), none, none] 2 rfl (Nat.le_of_ble_eq_true rfl) ?_
  intro p e s m args below meth c C hr
  refine ww_iconst (v := 1) C dX4_fillWithCharts_0 (by decide) 1 rfl ?_
  refine ww_istore_n (i := 2) C dX4_fillWithCharts_1 rfl (by decide) rfl 2 rfl ?_
  refine ww_loop (fun n : Nat => 256 - n) (fun n => 1 ≤ n ∧ n ≤ 256) (fun n => [(a, .inl (Γ.2.2.1, 256, .inr (.inl (GF b f n))))]) (fun n => [some (.ref a), some (.int (nI (8 * b))), some (.int (nI n)), none]) (1 : Nat) ⟨Nat.le_refl _, by decide⟩ (by rw [← GF_1]) rfl (fun n hx ih => ?_)
  obtain ⟨hn1, hn⟩ := hx
  try dsimp only at hn1 hn ih ⊢
  refine ww_iload_n (i := 2) C dX4_fillWithCharts_2 rfl rfl 3 rfl ?_
  refine ww_sipush (v := 256) C dX4_fillWithCharts_3 (by decide) 6 rfl ?_
  refine ww_icmp_ge C 46 dX4_fillWithCharts_6 (by decide) 9 rfl (fun h_6 => ?_) (fun h_6 => ?_)
  · skip
    obtain rfl : n = 256 := eqN (n := 256) h_6 hn (by decide)
    clear ih
    exact ww_vret C hr dX4_fillWithCharts_46 rfl rfl
  · skip
    have hlt : n < 256 := ltN (n := 256) h_6 (by decide) (by omega)
    obtain ⟨el, hw0, hwn⟩ := low_ok n hlt hn1
    have hlin := fill_lin n hlt b hb
    generalize hw : n &&& (256 - n) = w at el hw0 hwn hlin
    refine ww_iload_n (i := 2) C dX4_fillWithCharts_9 rfl rfl 10 rfl ?_
    refine ww_iload_n (i := 2) C dX4_fillWithCharts_10 rfl rfl 11 rfl ?_
    refine ww_ineg C dX4_fillWithCharts_11 12 rfl ?_
    refine ww_iand C dX4_fillWithCharts_12 13 rfl ?_
    rw [el]
    refine ww_istore_n (i := 3) C dX4_fillWithCharts_13 rfl (by decide) rfl 14 rfl ?_
    refine ww_aload_n (i := 0) C dX4_fillWithCharts_14 rfl rfl 15 rfl ?_
    refine ww_iload_n (i := 2) C dX4_fillWithCharts_15 rfl rfl 16 rfl ?_
    refine ww_iload_n (i := 2) C dX4_fillWithCharts_16 rfl rfl 17 rfl ?_
    refine ww_iload_n (i := 3) C dX4_fillWithCharts_17 rfl rfl 18 rfl ?_
    refine ww_icmp_ne C 30 dX4_fillWithCharts_18 (by decide) 21 rfl (fun h_18 => ?_) (fun h_18 => ?_)
    · skip
      have hwe : ¬ n = w := fun z => h_18 (by rw [← z])
      refine ww_aload_n (i := 0) C dX4_fillWithCharts_30 rfl rfl 31 rfl ?_
      refine ww_iload_n (i := 3) C dX4_fillWithCharts_31 rfl rfl 32 rfl ?_
      refine ww_lald C dX4_fillWithCharts_32 0 rfl (vp_in_nI (by omega) (by decide)) 33 rfl ?_
      rw [nI_clamp (show w < 2 ^ 31 by omega), GF_in (by omega) (by omega)]
      refine ww_aload_n (i := 0) C dX4_fillWithCharts_33 rfl rfl 34 rfl ?_
      refine ww_iload_n (i := 2) C dX4_fillWithCharts_34 rfl rfl 35 rfl ?_
      refine ww_iload_n (i := 3) C dX4_fillWithCharts_35 rfl rfl 36 rfl ?_
      refine ww_isub C dX4_fillWithCharts_36 37 rfl ?_
      rw [pk_sub hwn]
      refine ww_lald C dX4_fillWithCharts_37 0 rfl (vp_in_nI (by omega) (by decide)) 38 rfl ?_
      rw [nI_clamp (show n - w < 2 ^ 31 by omega), GF_in (by omega) (by omega)]
      refine ww_lxor C dX4_fillWithCharts_38 39 rfl ?_
      first
        | rw [nxorL, hlin.resolve_left (fun z => hwe z.symm)]
        | skip
      refine ww_last C dX4_fillWithCharts_39 0 rfl (vp_in_nI (by omega) (by decide)) 40 rfl ?_
      rw [nI_clamp (show n < 2 ^ 31 by omega), GF_up hn1]
      refine ww_iinc (y := 1) C dX4_fillWithCharts_40 rfl (by decide) (by decide) rfl 43 rfl ?_
      refine ww_goto C 2 dX4_fillWithCharts_43 (by decide) ?_
      refine ww_lv (lv' := [some (.ref a), some (.int (nI (8 * b))), some (.int (nI (n + 1))), none]) ?_ (ih (n + 1) ⟨by omega, by omega⟩ (by omega))
      rw [nI_succ n]
      exact lvle_same (lvle_same (lvle_same (lvle_none lvle_nil)))
    · skip
      have hwe : n = w := (nI_eq (by omega) (by omega)).mp h_18
      refine ww_iload_n (i := 2) C dX4_fillWithCharts_21 rfl rfl 22 rfl ?_
      refine ww_iload_n (i := 1) C dX4_fillWithCharts_22 rfl rfl 23 rfl ?_
      refine ww_ishl C dX4_fillWithCharts_23 24 rfl ?_
      rw [shlI (show 8 * b < 32 by omega) (Nat.lt_trans (half_lt hlt hb) (by decide))]
      refine ww_callS1p C (c_X2_ofCode l Γ) mi_X2_ofCode st_X2_ofCode ml_X4_51 dX4_fillWithCharts_24 (Nat.le_of_ble_eq_true rfl) (Nat.le_of_ble_eq_true rfl) (Nat.le_of_ble_eq_true rfl) ⟨Nat.zero_le _, Nat.zero_le _⟩ [] rfl (by decide) 27 rfl ?_
      rw [s_ofc_N (half_lt hlt hb)]
      refine ww_goto C 39 dX4_fillWithCharts_27 (by decide) ?_
      first
        | rw [nxorL, hlin.resolve_left (fun z => hwe z.symm)]
        | skip
      refine ww_last C dX4_fillWithCharts_39 0 rfl (vp_in_nI (by omega) (by decide)) 40 rfl ?_
      rw [nI_clamp (show n < 2 ^ 31 by omega), GF_up hn1]
      refine ww_iinc (y := 1) C dX4_fillWithCharts_40 rfl (by decide) (by decide) rfl 43 rfl ?_
      refine ww_goto C 2 dX4_fillWithCharts_43 (by decide) ?_
      refine ww_lv (lv' := [some (.ref a), some (.int (nI (8 * b))), some (.int (nI (n + 1))), none]) ?_ (ih (n + 1) ⟨by omega, by omega⟩ (by omega))
      rw [nI_succ n]
      exact lvle_same (lvle_same (lvle_same (lvle_none lvle_nil)))
