theorem c_X10_worth_bad (l : Launch) (Γ : Gm) {hx xs xm xt xr xb xd x6 x7 : Nat} {code : Int32} {mk : Int64} {lfa lfi : Int32} {kc ke ka kh z qw qf qs qt qn n : Nat} {cs : Nat → Int64} {en al he wd fi se te : Nat → Int32} {r9 k9 : Int32} (hb : ¬ (¬ r9 < 0 ∧ ¬ nI n ≤ r9) ∨ k9 < 0 ∨ ¬ k9 ≤ 3) : Ct l Γ yX10_worth cX10_worth 3 (some .int) 6 [.ref hx, .int r9, .int k9] ([wXo hx xs xm xt xr xb xd x6 x7 (code) (mk) (lfa) (lfi), (xb, .inr (1, [.ref kc, .ref ke, .ref ka, .ref kh, .int (nI z)])), (kc, .inl (Γ.2.2.1, 100, .inr (.inl cs))), (ke, .inl (Γ.2.1, 100, .inl en)), (ka, .inl (Γ.2.1, 3, .inl al)), (kh, .inl (Γ.2.1, 3, .inl (he))), (x6, .inr (4, [.ref qw, .ref qf, .ref qs, .ref qt, .ref qn, .int (nI n)])), (qw, .inl (Γ.2.1, 60, .inl wd)), (qf, .inl (Γ.2.1, 60, .inl fi)), (qs, .inl (Γ.2.1, 60, .inl se)), (qt, .inl (Γ.2.1, 15, .inl te))]) (some (.int (-1000001))) ([wXo hx xs xm xt xr xb xd x6 x7 (code) (mk) (lfa) (lfi), (xb, .inr (1, [.ref kc, .ref ke, .ref ka, .ref kh, .int (nI z)])), (kc, .inl (Γ.2.2.1, 100, .inr (.inl cs))), (ke, .inl (Γ.2.1, 100, .inl en)), (ka, .inl (Γ.2.1, 3, .inl al)), (kh, .inl (Γ.2.1, 3, .inl (he))), (x6, .inr (4, [.ref qw, .ref qf, .ref qs, .ref qt, .ref qn, .int (nI n)])), (qw, .inl (Γ.2.1, 60, .inl wd)), (qf, .inl (Γ.2.1, 60, .inl fi)), (qs, .inl (Γ.2.1, 60, .inl se)), (qt, .inl (Γ.2.1, 15, .inl te))]) := by
  refine Ct.of mi_X10_worth [some (.ref hx), some (.int r9), some (.int k9)] 0 rfl (Nat.le_of_ble_eq_true rfl) ?_
  intro p e s m args below meth c C hr
  refine ww_aload_n (i := 0) C dX10_worth_0 rfl rfl 1 rfl ?_
  refine ww_get C fe_X10_53 dX10_worth_1 0 rfl rfl 4 rfl ?_
  refine ww_iload_n (i := 1) C dX10_worth_4 rfl rfl 5 rfl ?_
  refine ww_callV1p C (c_X6_hasRule l Γ) mi_X6_hasRule im_X6_hasRule se_X6_hasRule ml_X10_210 dX10_worth_5 6 rfl rfl rfl (Nat.le_of_ble_eq_true rfl) (Nat.le_of_ble_eq_true rfl) (Nat.le_of_ble_eq_true rfl) ⟨Nat.zero_le _, Nat.zero_le _⟩ [6] rfl (by decide) 8 rfl ?_
  refine ww_if_eq C 20 dX10_worth_8 (by decide) 11 rfl (fun h_8 => ?_) (fun h_8 => ?_)
  · skip
    refine ww_ldc C cn_X10_88 dX10_worth_20 22 rfl ?_
    exact ww_iret C hr dX10_worth_22 rfl rfl
  · skip
    refine ww_iload_n (i := 2) C dX10_worth_11 rfl rfl 12 rfl ?_
    refine ww_if_lt C 20 dX10_worth_12 (by decide) 15 rfl (fun h_12 => ?_) (fun h_12 => ?_)
    · skip
      refine ww_ldc C cn_X10_88 dX10_worth_20 22 rfl ?_
      exact ww_iret C hr dX10_worth_22 rfl rfl
    · skip
      refine ww_iload_n (i := 2) C dX10_worth_15 rfl rfl 16 rfl ?_
      refine ww_iconst (v := 3) C dX10_worth_16 (by decide) 17 rfl ?_
      refine ww_icmp_le C 23 dX10_worth_17 (by decide) 20 rfl (fun h_17 => ?_) (fun h_17 => ?_)
      · exact absurd hb (fun q => q.elim (fun y => y (bI_n0 h_8)) (fun y => y.elim h_12 (fun x => x h_17)))
      · skip
        refine ww_ldc C cn_X10_88 dX10_worth_20 22 rfl ?_
        exact ww_iret C hr dX10_worth_22 rfl rfl
theorem c_X10_worth_ok (l : Launch) (Γ : Gm) {hx xs xm xt xr xb xd x6 x7 : Nat} {code : Int32} {mk : Int64} {lfa lfi : Int32} {kc ke ka kh z qw qf qs qt qn n : Nat} {cs : Nat → Int64} {en al he wd fi se te : Nat → Int32} {r t : Nat} {k9 : Int32} (hz : z ≤ 100) (hen : ∀ k, k < z → ∃ c, c < 3 ∧ en k = nI c) (hn : n ≤ 15) (hr9 : r < n) (ht : te r = nI t) (h4 : t ≤ 4) (hk : ¬ k9 < 0 ∧ k9 ≤ 3) : Ct l Γ yX10_worth cX10_worth 3 (some .int) 6 [.ref hx, .int (nI r), .int k9] ([wXo hx xs xm xt xr xb xd x6 x7 (code) (mk) (lfa) (lfi), (xb, .inr (1, [.ref kc, .ref ke, .ref ka, .ref kh, .int (nI z)])), (kc, .inl (Γ.2.2.1, 100, .inr (.inl cs))), (ke, .inl (Γ.2.1, 100, .inl en)), (ka, .inl (Γ.2.1, 3, .inl al)), (kh, .inl (Γ.2.1, 3, .inl (he))), (x6, .inr (4, [.ref qw, .ref qf, .ref qs, .ref qt, .ref qn, .int (nI n)])), (qw, .inl (Γ.2.1, 60, .inl wd)), (qf, .inl (Γ.2.1, 60, .inl fi)), (qs, .inl (Γ.2.1, 60, .inl se)), (qt, .inl (Γ.2.1, 15, .inl te))]) (some (.int (s_bans al (s_hf he en (fun k => s_tr wd fi se r (cs k) t) z) k9))) ([wXo hx xs xm xt xr xb xd x6 x7 (code) (mk) (lfa) (lfi), (xb, .inr (1, [.ref kc, .ref ke, .ref ka, .ref kh, .int (nI z)])), (kc, .inl (Γ.2.2.1, 100, .inr (.inl cs))), (ke, .inl (Γ.2.1, 100, .inl en)), (ka, .inl (Γ.2.1, 3, .inl al)), (kh, .inl (Γ.2.1, 3, .inl (s_hf he en (fun k => s_tr wd fi se r (cs k) t) z))), (x6, .inr (4, [.ref qw, .ref qf, .ref qs, .ref qt, .ref qn, .int (nI n)])), (qw, .inl (Γ.2.1, 60, .inl wd)), (qf, .inl (Γ.2.1, 60, .inl fi)), (qs, .inl (Γ.2.1, 60, .inl se)), (qt, .inl (Γ.2.1, 15, .inl te))]) := by
  refine Ct.of mi_X10_worth [some (.ref hx), some (.int (nI r)), some (.int k9)] 0 rfl (Nat.le_of_ble_eq_true rfl) ?_
  intro p e s m args below meth c C hr
  refine ww_aload_n (i := 0) C dX10_worth_0 rfl rfl 1 rfl ?_
  refine ww_get C fe_X10_53 dX10_worth_1 0 rfl rfl 4 rfl ?_
  refine ww_iload_n (i := 1) C dX10_worth_4 rfl rfl 5 rfl ?_
  refine ww_callV1p C (c_X6_hasRule l Γ) mi_X6_hasRule im_X6_hasRule se_X6_hasRule ml_X10_210 dX10_worth_5 6 rfl rfl rfl (Nat.le_of_ble_eq_true rfl) (Nat.le_of_ble_eq_true rfl) (Nat.le_of_ble_eq_true rfl) ⟨Nat.zero_le _, Nat.zero_le _⟩ [6] rfl (by decide) 8 rfl ?_
  refine ww_if_eq C 20 dX10_worth_8 (by decide) 11 rfl (fun h_8 => ?_) (fun h_8 => ?_)
  · exact absurd (⟨nI_pos (by omega), nI_ge hr9 (by omega)⟩ : ¬ nI r < 0 ∧ ¬ nI n ≤ nI r) (bI_e0 h_8)
  · skip
    refine ww_iload_n (i := 2) C dX10_worth_11 rfl rfl 12 rfl ?_
    refine ww_if_lt C 20 dX10_worth_12 (by decide) 15 rfl (fun h_12 => ?_) (fun h_12 => ?_)
    · exact absurd h_12 hk.1
    · skip
      refine ww_iload_n (i := 2) C dX10_worth_15 rfl rfl 16 rfl ?_
      refine ww_iconst (v := 3) C dX10_worth_16 (by decide) 17 rfl ?_
      refine ww_icmp_le C 23 dX10_worth_17 (by decide) 20 rfl (fun h_17 => ?_) (fun h_17 => ?_)
      · skip
        refine ww_aload_n (i := 0) C dX10_worth_23 rfl rfl 24 rfl ?_
        refine ww_get C fe_X10_39 dX10_worth_24 0 rfl rfl 27 rfl ?_
        refine ww_aload_n (i := 0) C dX10_worth_27 rfl rfl 28 rfl ?_
        refine ww_get C fe_X10_53 dX10_worth_28 0 rfl rfl 31 rfl ?_
        refine ww_iload_n (i := 1) C dX10_worth_31 rfl rfl 32 rfl ?_
        refine ww_callV2v C (c_X1_holdAgainst l Γ hz hen hr9 hn ht h4) mi_X1_holdAgainst im_X1_holdAgainst se_X1_holdAgainst ml_X10_227 dX10_worth_32 1 rfl rfl rfl (Nat.le_of_ble_eq_true rfl) (Nat.le_of_ble_eq_true rfl) (Nat.le_of_ble_eq_true rfl) ⟨Nat.zero_le _, Nat.zero_le _⟩ [1, 2, 3, 5, 6, 7, 8, 9, 10] rfl (by decide) rfl 35 rfl ?_
        refine ww_eq (ws' := [wXo hx xs xm xt xr xb xd x6 x7 (code) (mk) (lfa) (lfi), (xb, .inr (1, [.ref kc, .ref ke, .ref ka, .ref kh, .int (nI z)])), (kc, .inl (Γ.2.2.1, 100, .inr (.inl cs))), (ke, .inl (Γ.2.1, 100, .inl en)), (ka, .inl (Γ.2.1, 3, .inl al)), (kh, .inl (Γ.2.1, 3, .inl (s_hf he en (fun k => s_tr wd fi se r (cs k) t) z))), (x6, .inr (4, [.ref qw, .ref qf, .ref qs, .ref qt, .ref qn, .int (nI n)])), (qw, .inl (Γ.2.1, 60, .inl wd)), (qf, .inl (Γ.2.1, 60, .inl fi)), (qs, .inl (Γ.2.1, 60, .inl se)), (qt, .inl (Γ.2.1, 15, .inl te))]) rfl rfl rfl ?_
        refine ww_aload_n (i := 0) C dX10_worth_35 rfl rfl 36 rfl ?_
        refine ww_get C fe_X10_39 dX10_worth_36 0 rfl rfl 39 rfl ?_
        refine ww_iload_n (i := 2) C dX10_worth_39 rfl rfl 40 rfl ?_
        refine ww_callV1p C (c_X1_answerTo l Γ) mi_X1_answerTo im_X1_answerTo se_X1_answerTo ml_X10_231 dX10_worth_40 1 rfl rfl rfl (Nat.le_of_ble_eq_true rfl) (Nat.le_of_ble_eq_true rfl) (Nat.le_of_ble_eq_true rfl) ⟨Nat.zero_le _, Nat.zero_le _⟩ [1, 4, 5] rfl (by decide) 43 rfl ?_
        exact ww_iret C hr dX10_worth_43 rfl rfl
      · exact absurd hk.2 h_17
/-- held, when r rules have been held against the book -/
def s_bh (he en : Nat → Int32) (P : Nat → Nat → Bool) (z : Nat) : Nat → (Nat → Int32)
  | 0 => he
  | r + 1 => s_hf (s_bh he en P z r) en (P r) z
/-- the worth of a rule -/
def s_wv (en al : Nat → Int32) (P : Nat → Nat → Bool) (z r : Nat) : Int32 := s_cnt en (P r) 1 z * (al 0 + al 1) - (s_cnt en (P r) 1 z + s_cnt en (P r) 0 z) * al 1
def s_bst (wv : Nat → Int32) : Nat → Int32 × Int32
  | 0 => (-1000000, 0)
  | r + 1 => if (s_bst wv r).1 = -1000000 ∨ (s_bst wv r).2 < wv r then (nI r, wv r) else s_bst wv r
set_option maxHeartbeats 2000000 in
theorem c_X10_best (l : Launch) (Γ : Gm) {hx xs xm xt xr xb xd x6 x7 : Nat} {code : Int32} {mk : Int64} {lfa lfi : Int32} {kc ke ka kh z qw qf qs qt qn n : Nat} {cs : Nat → Int64} {en al he wd fi se te : Nat → Int32} {tn : Nat → Nat} (hz : z ≤ 100) (hen : ∀ k, k < z → ∃ c, c < 3 ∧ en k = nI c) (hn : n ≤ 15) (ht : ∀ r, r < n → te r = nI (tn r) ∧ tn r ≤ 4) : Ct l Γ yX10_best cX10_best 5 (some .int) 6 [.ref hx] ([wXo hx xs xm xt xr xb xd x6 x7 (code) (mk) (lfa) (lfi), (xb, .inr (1, [.ref kc, .ref ke, .ref ka, .ref kh, .int (nI z)])), (kc, .inl (Γ.2.2.1, 100, .inr (.inl cs))), (ke, .inl (Γ.2.1, 100, .inl en)), (ka, .inl (Γ.2.1, 3, .inl al)), (kh, .inl (Γ.2.1, 3, .inl (he))), (x6, .inr (4, [.ref qw, .ref qf, .ref qs, .ref qt, .ref qn, .int (nI n)])), (qw, .inl (Γ.2.1, 60, .inl wd)), (qf, .inl (Γ.2.1, 60, .inl fi)), (qs, .inl (Γ.2.1, 60, .inl se)), (qt, .inl (Γ.2.1, 15, .inl te))]) (some (.int (s_bst (s_wv en al (fun r k => s_tr wd fi se r (cs k) (tn r)) z) n).1)) ([wXo hx xs xm xt xr xb xd x6 x7 (code) (mk) (lfa) (lfi), (xb, .inr (1, [.ref kc, .ref ke, .ref ka, .ref kh, .int (nI z)])), (kc, .inl (Γ.2.2.1, 100, .inr (.inl cs))), (ke, .inl (Γ.2.1, 100, .inl en)), (ka, .inl (Γ.2.1, 3, .inl al)), (kh, .inl (Γ.2.1, 3, .inl (s_bh he en (fun r k => s_tr wd fi se r (cs k) (tn r)) z n))), (x6, .inr (4, [.ref qw, .ref qf, .ref qs, .ref qt, .ref qn, .int (nI n)])), (qw, .inl (Γ.2.1, 60, .inl wd)), (qf, .inl (Γ.2.1, 60, .inl fi)), (qs, .inl (Γ.2.1, 60, .inl se)), (qt, .inl (Γ.2.1, 15, .inl te))]) := by
  refine Ct.of mi_X10_best [some (.ref hx), none, none, none, none] 4 rfl (Nat.le_of_ble_eq_true rfl) ?_
  intro p e s m args below meth c C hr
  refine ww_ldc C cn_X10_206 dX10_best_0 2 rfl ?_
  refine ww_istore_n (i := 1) C dX10_best_2 rfl (by decide) rfl 3 rfl ?_
  refine ww_iconst (v := 0) C dX10_best_3 (by decide) 4 rfl ?_
  refine ww_istore_n (i := 2) C dX10_best_4 rfl (by decide) rfl 5 rfl ?_
  refine ww_iconst (v := 0) C dX10_best_5 (by decide) 6 rfl ?_
  refine ww_istore_n (i := 3) C dX10_best_6 rfl (by decide) rfl 7 rfl ?_
  refine ww_loop (fun r : Nat => n - r) (fun r => r ≤ n) (fun r => [wXo hx xs xm xt xr xb xd x6 x7 (code) (mk) (lfa) (lfi), (xb, .inr (1, [.ref kc, .ref ke, .ref ka, .ref kh, .int (nI z)])), (kc, .inl (Γ.2.2.1, 100, .inr (.inl cs))), (ke, .inl (Γ.2.1, 100, .inl en)), (ka, .inl (Γ.2.1, 3, .inl al)), (kh, .inl (Γ.2.1, 3, .inl (s_bh he en (fun r k => s_tr wd fi se r (cs k) (tn r)) z r))), (x6, .inr (4, [.ref qw, .ref qf, .ref qs, .ref qt, .ref qn, .int (nI n)])), (qw, .inl (Γ.2.1, 60, .inl wd)), (qf, .inl (Γ.2.1, 60, .inl fi)), (qs, .inl (Γ.2.1, 60, .inl se)), (qt, .inl (Γ.2.1, 15, .inl te))]) (fun r => [some (.ref hx), some (.int (s_bst (s_wv en al (fun r k => s_tr wd fi se r (cs k) (tn r)) z) r).1), some (.int (s_bst (s_wv en al (fun r k => s_tr wd fi se r (cs k) (tn r)) z) r).2), some (.int (nI r)), none]) (0 : Nat) (Nat.zero_le _) rfl rfl (fun r hrr ih => ?_)
  try dsimp only at hrr ih ⊢
  refine ww_iload_n (i := 3) C dX10_best_7 rfl rfl 8 rfl ?_
  refine ww_aload_n (i := 0) C dX10_best_8 rfl rfl 9 rfl ?_
  refine ww_get C fe_X10_53 dX10_best_9 0 rfl rfl 12 rfl ?_
  refine ww_get C fe_X10_202 dX10_best_12 6 rfl rfl 15 rfl ?_
  refine ww_icmp_ge C 62 dX10_best_15 (by decide) 18 rfl (fun h_15 => ?_) (fun h_15 => ?_)
  · skip
    obtain rfl : r = n := eqN h_15 hrr (by omega)
    refine ww_iload_n (i := 1) C dX10_best_62 rfl rfl 63 rfl ?_
    exact ww_iret C hr dX10_best_63 rfl rfl
  · skip
    have hlt : r < n := ltN h_15 (by omega) (by omega)
    refine ww_aload_n (i := 0) C dX10_best_18 rfl rfl 19 rfl ?_
    refine ww_get C fe_X10_39 dX10_best_19 0 rfl rfl 22 rfl ?_
    refine ww_aload_n (i := 0) C dX10_best_22 rfl rfl 23 rfl ?_
    refine ww_get C fe_X10_53 dX10_best_23 0 rfl rfl 26 rfl ?_
    refine ww_iload_n (i := 3) C dX10_best_26 rfl rfl 27 rfl ?_
    refine ww_callV2v C (c_X1_holdAgainst l Γ (t := tn r) hz hen hlt hn (ht r hlt).1 (ht r hlt).2) mi_X1_holdAgainst im_X1_holdAgainst se_X1_holdAgainst ml_X10_227 dX10_best_27 1 rfl rfl rfl (Nat.le_of_ble_eq_true rfl) (Nat.le_of_ble_eq_true rfl) (Nat.le_of_ble_eq_true rfl) ⟨Nat.zero_le _, Nat.zero_le _⟩ [1, 2, 3, 5, 6, 7, 8, 9, 10] rfl (by decide) rfl 30 rfl ?_
    refine ww_eq (ws' := [wXo hx xs xm xt xr xb xd x6 x7 (code) (mk) (lfa) (lfi), (xb, .inr (1, [.ref kc, .ref ke, .ref ka, .ref kh, .int (nI z)])), (kc, .inl (Γ.2.2.1, 100, .inr (.inl cs))), (ke, .inl (Γ.2.1, 100, .inl en)), (ka, .inl (Γ.2.1, 3, .inl al)), (kh, .inl (Γ.2.1, 3, .inl (s_bh he en (fun r k => s_tr wd fi se r (cs k) (tn r)) z (r + 1)))), (x6, .inr (4, [.ref qw, .ref qf, .ref qs, .ref qt, .ref qn, .int (nI n)])), (qw, .inl (Γ.2.1, 60, .inl wd)), (qf, .inl (Γ.2.1, 60, .inl fi)), (qs, .inl (Γ.2.1, 60, .inl se)), (qt, .inl (Γ.2.1, 15, .inl te))]) rfl rfl rfl ?_
    refine ww_aload_n (i := 0) C dX10_best_30 rfl rfl 31 rfl ?_
    refine ww_get C fe_X10_39 dX10_best_31 0 rfl rfl 34 rfl ?_
    refine ww_callV0p C (c_X1_worthHeld l Γ) mi_X1_worthHeld im_X1_worthHeld se_X1_worthHeld ml_X10_232 dX10_best_34 1 rfl rfl rfl (Nat.le_of_ble_eq_true rfl) (Nat.le_of_ble_eq_true rfl) (Nat.le_of_ble_eq_true rfl) ⟨Nat.zero_le _, Nat.zero_le _⟩ [1, 4, 5] rfl (by decide) 37 rfl ?_
    rw [show s_wh al (s_bh he en (fun r k => s_tr wd fi se r (cs k) (tn r)) z (r + 1)) = s_wv en al (fun r k => s_tr wd fi se r (cs k) (tn r)) z r from rfl]
    refine ww_istore C dX10_best_37 (by decide) rfl 39 rfl ?_
    refine ww_iload_n (i := 1) C dX10_best_39 rfl rfl 40 rfl ?_
    refine ww_ldc C cn_X10_206 dX10_best_40 42 rfl ?_
    refine ww_icmp_eq C 51 dX10_best_42 (by decide) 45 rfl (fun h_42 => ?_) (fun h_42 => ?_)
    · skip
      refine ww_iload_n (i := 3) C dX10_best_51 rfl rfl 52 rfl ?_
      refine ww_istore_n (i := 1) C dX10_best_52 rfl (by decide) rfl 53 rfl ?_
      refine ww_iload C dX10_best_53 rfl 55 rfl ?_
      refine ww_istore_n (i := 2) C dX10_best_55 rfl (by decide) rfl 56 rfl ?_
      refine ww_iinc (y := 1) C dX10_best_56 rfl (by decide) (by decide) rfl 59 rfl ?_
      refine ww_goto C 7 dX10_best_59 (by decide) ?_
      refine ww_lv (lv' := [some (.ref hx), some (.int (s_bst (s_wv en al (fun r k => s_tr wd fi se r (cs k) (tn r)) z) (r + 1)).1), some (.int (s_bst (s_wv en al (fun r k => s_tr wd fi se r (cs k) (tn r)) z) (r + 1)).2), some (.int (nI (r + 1))), none]) ?_ (ih (r + 1) (by omega) (by omega))
      rw [s_bst, nI_succ r]
      first
        | (rw [if_pos (Or.inl h_42)]; exact (lvle_same (lvle_same (lvle_same (lvle_same (lvle_none lvle_nil))))))
        | (rw [if_pos (Or.inr (Int32.not_le.mp h_48))]; exact (lvle_same (lvle_same (lvle_same (lvle_same (lvle_none lvle_nil))))))
        | (rw [if_neg (fun q => q.elim h_42 (fun z2 => absurd h_48 (Int32.not_le.mpr z2)))]; exact (lvle_same (lvle_same (lvle_same (lvle_same (lvle_none lvle_nil))))))
    · skip
      refine ww_iload C dX10_best_45 rfl 47 rfl ?_
      refine ww_iload_n (i := 2) C dX10_best_47 rfl rfl 48 rfl ?_
      refine ww_icmp_le C 56 dX10_best_48 (by decide) 51 rfl (fun h_48 => ?_) (fun h_48 => ?_)
      · skip
        refine ww_iinc (y := 1) C dX10_best_56 rfl (by decide) (by decide) rfl 59 rfl ?_
        refine ww_goto C 7 dX10_best_59 (by decide) ?_
        refine ww_lv (lv' := [some (.ref hx), some (.int (s_bst (s_wv en al (fun r k => s_tr wd fi se r (cs k) (tn r)) z) (r + 1)).1), some (.int (s_bst (s_wv en al (fun r k => s_tr wd fi se r (cs k) (tn r)) z) (r + 1)).2), some (.int (nI (r + 1))), none]) ?_ (ih (r + 1) (by omega) (by omega))
        rw [s_bst, nI_succ r]
        first
          | (rw [if_pos (Or.inl h_42)]; exact (lvle_same (lvle_same (lvle_same (lvle_same (lvle_none lvle_nil))))))
          | (rw [if_pos (Or.inr (Int32.not_le.mp h_48))]; exact (lvle_same (lvle_same (lvle_same (lvle_same (lvle_none lvle_nil))))))
          | (rw [if_neg (fun q => q.elim h_42 (fun z2 => absurd h_48 (Int32.not_le.mpr z2)))]; exact (lvle_same (lvle_same (lvle_same (lvle_same (lvle_none lvle_nil))))))
      · skip
        refine ww_iload_n (i := 3) C dX10_best_51 rfl rfl 52 rfl ?_
        refine ww_istore_n (i := 1) C dX10_best_52 rfl (by decide) rfl 53 rfl ?_
        refine ww_iload C dX10_best_53 rfl 55 rfl ?_
        refine ww_istore_n (i := 2) C dX10_best_55 rfl (by decide) rfl 56 rfl ?_
        refine ww_iinc (y := 1) C dX10_best_56 rfl (by decide) (by decide) rfl 59 rfl ?_
        refine ww_goto C 7 dX10_best_59 (by decide) ?_
        refine ww_lv (lv' := [some (.ref hx), some (.int (s_bst (s_wv en al (fun r k => s_tr wd fi se r (cs k) (tn r)) z) (r + 1)).1), some (.int (s_bst (s_wv en al (fun r k => s_tr wd fi se r (cs k) (tn r)) z) (r + 1)).2), some (.int (nI (r + 1))), none]) ?_ (ih (r + 1) (by omega) (by omega))
        rw [s_bst, nI_succ r]
        first
          | (rw [if_pos (Or.inl h_42)]; exact (lvle_same (lvle_same (lvle_same (lvle_same (lvle_none lvle_nil))))))
          | (rw [if_pos (Or.inr (Int32.not_le.mp h_48))]; exact (lvle_same (lvle_same (lvle_same (lvle_same (lvle_none lvle_nil))))))
          | (rw [if_neg (fun q => q.elim h_42 (fun z2 => absurd h_48 (Int32.not_le.mpr z2)))]; exact (lvle_same (lvle_same (lvle_same (lvle_same (lvle_none lvle_nil))))))
theorem s_there_1 {ln : Nat → Int32} {j : Nat} (h : ln j = -1) : s_there ln (j + 1) = s_there ln j := if_pos h
theorem s_there_0 {ln : Nat → Int32} {j : Nat} (h : ¬ ln j = -1) : s_there ln (j + 1) = s_there ln j + 1 := if_neg h
set_option maxHeartbeats 2000000 in
theorem c_X10_sheetsThere (l : Launch) (Γ : Gm) {hx xs xm xt xr xb xd x6 x7 : Nat} {code : Int32} {mk : Int64} {lfa lfi : Int32} {f : Nat → Option Nat} {q0 q1 q2 q3 q4 q5 q6 q7 p0 p1 p2 p3 p4 p5 p6 p7 : Nat} {ln : Nat → Int32} {sz : Nat → Nat} (hf0 : f 0 = some q0) (hf1 : f 1 = some q1) (hf2 : f 2 = some q2) (hf3 : f 3 = some q3) (hf4 : f 4 = some q4) (hf5 : f 5 = some q5) (hf6 : f 6 = some q6) (hf7 : f 7 = some q7) : Ct l Γ yX10_sheetsThere cX10_sheetsThere 3 (some .int) 1 [.ref hx] ([wXo hx xs xm xt xr xb xd x6 x7 (code) (mk) (lfa) (lfi), (xs, .inl (Γ.2.2.2, 8, .inr (.inr (.inr (.inr f))))), (q0, .inr (5, [.ref p0, .int (ln 0), .int (nI (sz 0))])), (q1, .inr (5, [.ref p1, .int (ln 1), .int (nI (sz 1))])), (q2, .inr (5, [.ref p2, .int (ln 2), .int (nI (sz 2))])), (q3, .inr (5, [.ref p3, .int (ln 3), .int (nI (sz 3))])), (q4, .inr (5, [.ref p4, .int (ln 4), .int (nI (sz 4))])), (q5, .inr (5, [.ref p5, .int (ln 5), .int (nI (sz 5))])), (q6, .inr (5, [.ref p6, .int (ln 6), .int (nI (sz 6))])), (q7, .inr (5, [.ref p7, .int (ln 7), .int (nI (sz 7))]))]) (some (.int (s_there ln 8))) ([wXo hx xs xm xt xr xb xd x6 x7 (code) (mk) (lfa) (lfi), (xs, .inl (Γ.2.2.2, 8, .inr (.inr (.inr (.inr f))))), (q0, .inr (5, [.ref p0, .int (ln 0), .int (nI (sz 0))])), (q1, .inr (5, [.ref p1, .int (ln 1), .int (nI (sz 1))])), (q2, .inr (5, [.ref p2, .int (ln 2), .int (nI (sz 2))])), (q3, .inr (5, [.ref p3, .int (ln 3), .int (nI (sz 3))])), (q4, .inr (5, [.ref p4, .int (ln 4), .int (nI (sz 4))])), (q5, .inr (5, [.ref p5, .int (ln 5), .int (nI (sz 5))])), (q6, .inr (5, [.ref p6, .int (ln 6), .int (nI (sz 6))])), (q7, .inr (5, [.ref p7, .int (ln 7), .int (nI (sz 7))]))]) := by
  refine Ct.of mi_X10_sheetsThere [some (.ref hx), none, none] 2 rfl (Nat.le_of_ble_eq_true rfl) ?_
  intro p e s m args below meth c C hr
  refine ww_iconst (v := 0) C dX10_sheetsThere_0 (by decide) 1 rfl ?_
  refine ww_istore_n (i := 1) C dX10_sheetsThere_1 rfl (by decide) rfl 2 rfl ?_
  refine ww_iconst (v := 0) C dX10_sheetsThere_2 (by decide) 3 rfl ?_
  refine ww_istore_n (i := 2) C dX10_sheetsThere_3 rfl (by decide) rfl 4 rfl ?_
  refine ww_loop (fun j : Nat => 8 - j) (fun j => j ≤ 8) (fun _ => [wXo hx xs xm xt xr xb xd x6 x7 (code) (mk) (lfa) (lfi), (xs, .inl (Γ.2.2.2, 8, .inr (.inr (.inr (.inr f))))), (q0, .inr (5, [.ref p0, .int (ln 0), .int (nI (sz 0))])), (q1, .inr (5, [.ref p1, .int (ln 1), .int (nI (sz 1))])), (q2, .inr (5, [.ref p2, .int (ln 2), .int (nI (sz 2))])), (q3, .inr (5, [.ref p3, .int (ln 3), .int (nI (sz 3))])), (q4, .inr (5, [.ref p4, .int (ln 4), .int (nI (sz 4))])), (q5, .inr (5, [.ref p5, .int (ln 5), .int (nI (sz 5))])), (q6, .inr (5, [.ref p6, .int (ln 6), .int (nI (sz 6))])), (q7, .inr (5, [.ref p7, .int (ln 7), .int (nI (sz 7))]))]) (fun j => [some (.ref hx), some (.int (s_there ln j)), some (.int (nI j))]) (0 : Nat) (by omega) rfl rfl (fun j hj ih => ?_)
  try dsimp only at hj ih ⊢
  refine ww_iload_n (i := 2) C dX10_sheetsThere_4 rfl rfl 5 rfl ?_
  refine ww_bipush (v := 8) C dX10_sheetsThere_5 (by decide) 7 rfl ?_
  refine ww_icmp_ge C 31 dX10_sheetsThere_7 (by decide) 10 rfl (fun h_7 => ?_) (fun h_7 => ?_)
  · skip
    obtain rfl : j = 8 := eqN (n := 8) h_7 hj (by decide)
    refine ww_iload_n (i := 1) C dX10_sheetsThere_31 rfl rfl 32 rfl ?_
    exact ww_iret C hr dX10_sheetsThere_32 rfl rfl
  · skip
    have hlt : j < 8 := ltN (n := 8) h_7 (by decide) (by omega)
    rcases (show j = 0 ∨ j = 1 ∨ j = 2 ∨ j = 3 ∨ j = 4 ∨ j = 5 ∨ j = 6 ∨ j = 7 by omega) with rfl | rfl | rfl | rfl | rfl | rfl | rfl | rfl
    · skip
      refine ww_aload_n (i := 0) C dX10_sheetsThere_10 rfl rfl 11 rfl ?_
      refine ww_get C fe_X10_11 dX10_sheetsThere_11 0 rfl rfl 14 rfl ?_
      refine ww_iload_n (i := 2) C dX10_sheetsThere_14 rfl rfl 15 rfl ?_
      refine ww_aald C dX10_sheetsThere_15 1 rfl (vp_in_nI (n := 0) (by decide) (by decide)) hf0 16 rfl ?_
      refine ww_callV0p C (c_X7_isMissing l Γ) mi_X7_isMissing im_X7_isMissing se_X7_isMissing ml_X10_107 dX10_sheetsThere_16 2 rfl rfl rfl (Nat.le_of_ble_eq_true rfl) (Nat.le_of_ble_eq_true rfl) (Nat.le_of_ble_eq_true rfl) ⟨Nat.zero_le _, Nat.zero_le _⟩ [2] rfl (by decide) 19 rfl ?_
      refine ww_if_ne C 25 dX10_sheetsThere_19 (by decide) 22 rfl (fun h_19 => ?_) (fun h_19 => ?_)
      · skip
        refine ww_iinc (y := 1) C dX10_sheetsThere_25 rfl (by decide) (by decide) rfl 28 rfl ?_
        refine ww_goto C 4 dX10_sheetsThere_28 (by decide) ?_
        first
          | exact ww_eq rfl (by rw [show s_there ln 1 = s_there ln 0 from s_there_1 (bI_n0 h_19)]; rfl) rfl (ih 1 (by omega) (by omega))
          | exact ww_eq rfl (by rw [show s_there ln 1 = s_there ln 0 + 1 from s_there_0 (bI_e0 h_19)]; rfl) rfl (ih 1 (by omega) (by omega))
      · skip
        refine ww_iinc (y := 1) C dX10_sheetsThere_22 rfl (by decide) (by decide) rfl 25 rfl ?_
        refine ww_iinc (y := 1) C dX10_sheetsThere_25 rfl (by decide) (by decide) rfl 28 rfl ?_
        refine ww_goto C 4 dX10_sheetsThere_28 (by decide) ?_
        first
          | exact ww_eq rfl (by rw [show s_there ln 1 = s_there ln 0 from s_there_1 (bI_n0 h_19)]; rfl) rfl (ih 1 (by omega) (by omega))
          | exact ww_eq rfl (by rw [show s_there ln 1 = s_there ln 0 + 1 from s_there_0 (bI_e0 h_19)]; rfl) rfl (ih 1 (by omega) (by omega))
    · skip
      refine ww_aload_n (i := 0) C dX10_sheetsThere_10 rfl rfl 11 rfl ?_
      refine ww_get C fe_X10_11 dX10_sheetsThere_11 0 rfl rfl 14 rfl ?_
      refine ww_iload_n (i := 2) C dX10_sheetsThere_14 rfl rfl 15 rfl ?_
      refine ww_aald C dX10_sheetsThere_15 1 rfl (vp_in_nI (n := 1) (by decide) (by decide)) hf1 16 rfl ?_
      refine ww_callV0p C (c_X7_isMissing l Γ) mi_X7_isMissing im_X7_isMissing se_X7_isMissing ml_X10_107 dX10_sheetsThere_16 3 rfl rfl rfl (Nat.le_of_ble_eq_true rfl) (Nat.le_of_ble_eq_true rfl) (Nat.le_of_ble_eq_true rfl) ⟨Nat.zero_le _, Nat.zero_le _⟩ [3] rfl (by decide) 19 rfl ?_
      refine ww_if_ne C 25 dX10_sheetsThere_19 (by decide) 22 rfl (fun h_19 => ?_) (fun h_19 => ?_)
      · skip
        refine ww_iinc (y := 1) C dX10_sheetsThere_25 rfl (by decide) (by decide) rfl 28 rfl ?_
        refine ww_goto C 4 dX10_sheetsThere_28 (by decide) ?_
        first
          | exact ww_eq rfl (by rw [show s_there ln 2 = s_there ln 1 from s_there_1 (bI_n0 h_19)]; rfl) rfl (ih 2 (by omega) (by omega))
          | exact ww_eq rfl (by rw [show s_there ln 2 = s_there ln 1 + 1 from s_there_0 (bI_e0 h_19)]; rfl) rfl (ih 2 (by omega) (by omega))
      · skip
        refine ww_iinc (y := 1) C dX10_sheetsThere_22 rfl (by decide) (by decide) rfl 25 rfl ?_
        refine ww_iinc (y := 1) C dX10_sheetsThere_25 rfl (by decide) (by decide) rfl 28 rfl ?_
        refine ww_goto C 4 dX10_sheetsThere_28 (by decide) ?_
        first
          | exact ww_eq rfl (by rw [show s_there ln 2 = s_there ln 1 from s_there_1 (bI_n0 h_19)]; rfl) rfl (ih 2 (by omega) (by omega))
          | exact ww_eq rfl (by rw [show s_there ln 2 = s_there ln 1 + 1 from s_there_0 (bI_e0 h_19)]; rfl) rfl (ih 2 (by omega) (by omega))
    · skip
      refine ww_aload_n (i := 0) C dX10_sheetsThere_10 rfl rfl 11 rfl ?_
      refine ww_get C fe_X10_11 dX10_sheetsThere_11 0 rfl rfl 14 rfl ?_
      refine ww_iload_n (i := 2) C dX10_sheetsThere_14 rfl rfl 15 rfl ?_
      refine ww_aald C dX10_sheetsThere_15 1 rfl (vp_in_nI (n := 2) (by decide) (by decide)) hf2 16 rfl ?_
      refine ww_callV0p C (c_X7_isMissing l Γ) mi_X7_isMissing im_X7_isMissing se_X7_isMissing ml_X10_107 dX10_sheetsThere_16 4 rfl rfl rfl (Nat.le_of_ble_eq_true rfl) (Nat.le_of_ble_eq_true rfl) (Nat.le_of_ble_eq_true rfl) ⟨Nat.zero_le _, Nat.zero_le _⟩ [4] rfl (by decide) 19 rfl ?_
      refine ww_if_ne C 25 dX10_sheetsThere_19 (by decide) 22 rfl (fun h_19 => ?_) (fun h_19 => ?_)
      · skip
        refine ww_iinc (y := 1) C dX10_sheetsThere_25 rfl (by decide) (by decide) rfl 28 rfl ?_
        refine ww_goto C 4 dX10_sheetsThere_28 (by decide) ?_
        first
          | exact ww_eq rfl (by rw [show s_there ln 3 = s_there ln 2 from s_there_1 (bI_n0 h_19)]; rfl) rfl (ih 3 (by omega) (by omega))
          | exact ww_eq rfl (by rw [show s_there ln 3 = s_there ln 2 + 1 from s_there_0 (bI_e0 h_19)]; rfl) rfl (ih 3 (by omega) (by omega))
      · skip
        refine ww_iinc (y := 1) C dX10_sheetsThere_22 rfl (by decide) (by decide) rfl 25 rfl ?_
        refine ww_iinc (y := 1) C dX10_sheetsThere_25 rfl (by decide) (by decide) rfl 28 rfl ?_
        refine ww_goto C 4 dX10_sheetsThere_28 (by decide) ?_
        first
          | exact ww_eq rfl (by rw [show s_there ln 3 = s_there ln 2 from s_there_1 (bI_n0 h_19)]; rfl) rfl (ih 3 (by omega) (by omega))
          | exact ww_eq rfl (by rw [show s_there ln 3 = s_there ln 2 + 1 from s_there_0 (bI_e0 h_19)]; rfl) rfl (ih 3 (by omega) (by omega))
    · skip
      refine ww_aload_n (i := 0) C dX10_sheetsThere_10 rfl rfl 11 rfl ?_
      refine ww_get C fe_X10_11 dX10_sheetsThere_11 0 rfl rfl 14 rfl ?_
      refine ww_iload_n (i := 2) C dX10_sheetsThere_14 rfl rfl 15 rfl ?_
      refine ww_aald C dX10_sheetsThere_15 1 rfl (vp_in_nI (n := 3) (by decide) (by decide)) hf3 16 rfl ?_
      refine ww_callV0p C (c_X7_isMissing l Γ) mi_X7_isMissing im_X7_isMissing se_X7_isMissing ml_X10_107 dX10_sheetsThere_16 5 rfl rfl rfl (Nat.le_of_ble_eq_true rfl) (Nat.le_of_ble_eq_true rfl) (Nat.le_of_ble_eq_true rfl) ⟨Nat.zero_le _, Nat.zero_le _⟩ [5] rfl (by decide) 19 rfl ?_
      refine ww_if_ne C 25 dX10_sheetsThere_19 (by decide) 22 rfl (fun h_19 => ?_) (fun h_19 => ?_)
      · skip
        refine ww_iinc (y := 1) C dX10_sheetsThere_25 rfl (by decide) (by decide) rfl 28 rfl ?_
        refine ww_goto C 4 dX10_sheetsThere_28 (by decide) ?_
        first
          | exact ww_eq rfl (by rw [show s_there ln 4 = s_there ln 3 from s_there_1 (bI_n0 h_19)]; rfl) rfl (ih 4 (by omega) (by omega))
          | exact ww_eq rfl (by rw [show s_there ln 4 = s_there ln 3 + 1 from s_there_0 (bI_e0 h_19)]; rfl) rfl (ih 4 (by omega) (by omega))
      · skip
        refine ww_iinc (y := 1) C dX10_sheetsThere_22 rfl (by decide) (by decide) rfl 25 rfl ?_
        refine ww_iinc (y := 1) C dX10_sheetsThere_25 rfl (by decide) (by decide) rfl 28 rfl ?_
        refine ww_goto C 4 dX10_sheetsThere_28 (by decide) ?_
        first
          | exact ww_eq rfl (by rw [show s_there ln 4 = s_there ln 3 from s_there_1 (bI_n0 h_19)]; rfl) rfl (ih 4 (by omega) (by omega))
          | exact ww_eq rfl (by rw [show s_there ln 4 = s_there ln 3 + 1 from s_there_0 (bI_e0 h_19)]; rfl) rfl (ih 4 (by omega) (by omega))
    · skip
      refine ww_aload_n (i := 0) C dX10_sheetsThere_10 rfl rfl 11 rfl ?_
      refine ww_get C fe_X10_11 dX10_sheetsThere_11 0 rfl rfl 14 rfl ?_
      refine ww_iload_n (i := 2) C dX10_sheetsThere_14 rfl rfl 15 rfl ?_
      refine ww_aald C dX10_sheetsThere_15 1 rfl (vp_in_nI (n := 4) (by decide) (by decide)) hf4 16 rfl ?_
      refine ww_callV0p C (c_X7_isMissing l Γ) mi_X7_isMissing im_X7_isMissing se_X7_isMissing ml_X10_107 dX10_sheetsThere_16 6 rfl rfl rfl (Nat.le_of_ble_eq_true rfl) (Nat.le_of_ble_eq_true rfl) (Nat.le_of_ble_eq_true rfl) ⟨Nat.zero_le _, Nat.zero_le _⟩ [6] rfl (by decide) 19 rfl ?_
      refine ww_if_ne C 25 dX10_sheetsThere_19 (by decide) 22 rfl (fun h_19 => ?_) (fun h_19 => ?_)
      · skip
        refine ww_iinc (y := 1) C dX10_sheetsThere_25 rfl (by decide) (by decide) rfl 28 rfl ?_
        refine ww_goto C 4 dX10_sheetsThere_28 (by decide) ?_
        first
          | exact ww_eq rfl (by rw [show s_there ln 5 = s_there ln 4 from s_there_1 (bI_n0 h_19)]; rfl) rfl (ih 5 (by omega) (by omega))
          | exact ww_eq rfl (by rw [show s_there ln 5 = s_there ln 4 + 1 from s_there_0 (bI_e0 h_19)]; rfl) rfl (ih 5 (by omega) (by omega))
      · skip
        refine ww_iinc (y := 1) C dX10_sheetsThere_22 rfl (by decide) (by decide) rfl 25 rfl ?_
        refine ww_iinc (y := 1) C dX10_sheetsThere_25 rfl (by decide) (by decide) rfl 28 rfl ?_
        refine ww_goto C 4 dX10_sheetsThere_28 (by decide) ?_
        first
          | exact ww_eq rfl (by rw [show s_there ln 5 = s_there ln 4 from s_there_1 (bI_n0 h_19)]; rfl) rfl (ih 5 (by omega) (by omega))
          | exact ww_eq rfl (by rw [show s_there ln 5 = s_there ln 4 + 1 from s_there_0 (bI_e0 h_19)]; rfl) rfl (ih 5 (by omega) (by omega))
    · skip
      refine ww_aload_n (i := 0) C dX10_sheetsThere_10 rfl rfl 11 rfl ?_
      refine ww_get C fe_X10_11 dX10_sheetsThere_11 0 rfl rfl 14 rfl ?_
      refine ww_iload_n (i := 2) C dX10_sheetsThere_14 rfl rfl 15 rfl ?_
      refine ww_aald C dX10_sheetsThere_15 1 rfl (vp_in_nI (n := 5) (by decide) (by decide)) hf5 16 rfl ?_
      refine ww_callV0p C (c_X7_isMissing l Γ) mi_X7_isMissing im_X7_isMissing se_X7_isMissing ml_X10_107 dX10_sheetsThere_16 7 rfl rfl rfl (Nat.le_of_ble_eq_true rfl) (Nat.le_of_ble_eq_true rfl) (Nat.le_of_ble_eq_true rfl) ⟨Nat.zero_le _, Nat.zero_le _⟩ [7] rfl (by decide) 19 rfl ?_
      refine ww_if_ne C 25 dX10_sheetsThere_19 (by decide) 22 rfl (fun h_19 => ?_) (fun h_19 => ?_)
      · skip
        refine ww_iinc (y := 1) C dX10_sheetsThere_25 rfl (by decide) (by decide) rfl 28 rfl ?_
        refine ww_goto C 4 dX10_sheetsThere_28 (by decide) ?_
        first
          | exact ww_eq rfl (by rw [show s_there ln 6 = s_there ln 5 from s_there_1 (bI_n0 h_19)]; rfl) rfl (ih 6 (by omega) (by omega))
          | exact ww_eq rfl (by rw [show s_there ln 6 = s_there ln 5 + 1 from s_there_0 (bI_e0 h_19)]; rfl) rfl (ih 6 (by omega) (by omega))
      · skip
        refine ww_iinc (y := 1) C dX10_sheetsThere_22 rfl (by decide) (by decide) rfl 25 rfl ?_
        refine ww_iinc (y := 1) C dX10_sheetsThere_25 rfl (by decide) (by decide) rfl 28 rfl ?_
        refine ww_goto C 4 dX10_sheetsThere_28 (by decide) ?_
        first
          | exact ww_eq rfl (by rw [show s_there ln 6 = s_there ln 5 from s_there_1 (bI_n0 h_19)]; rfl) rfl (ih 6 (by omega) (by omega))
          | exact ww_eq rfl (by rw [show s_there ln 6 = s_there ln 5 + 1 from s_there_0 (bI_e0 h_19)]; rfl) rfl (ih 6 (by omega) (by omega))
    · skip
      refine ww_aload_n (i := 0) C dX10_sheetsThere_10 rfl rfl 11 rfl ?_
      refine ww_get C fe_X10_11 dX10_sheetsThere_11 0 rfl rfl 14 rfl ?_
      refine ww_iload_n (i := 2) C dX10_sheetsThere_14 rfl rfl 15 rfl ?_
      refine ww_aald C dX10_sheetsThere_15 1 rfl (vp_in_nI (n := 6) (by decide) (by decide)) hf6 16 rfl ?_
      refine ww_callV0p C (c_X7_isMissing l Γ) mi_X7_isMissing im_X7_isMissing se_X7_isMissing ml_X10_107 dX10_sheetsThere_16 8 rfl rfl rfl (Nat.le_of_ble_eq_true rfl) (Nat.le_of_ble_eq_true rfl) (Nat.le_of_ble_eq_true rfl) ⟨Nat.zero_le _, Nat.zero_le _⟩ [8] rfl (by decide) 19 rfl ?_
      refine ww_if_ne C 25 dX10_sheetsThere_19 (by decide) 22 rfl (fun h_19 => ?_) (fun h_19 => ?_)
      · skip
        refine ww_iinc (y := 1) C dX10_sheetsThere_25 rfl (by decide) (by decide) rfl 28 rfl ?_
        refine ww_goto C 4 dX10_sheetsThere_28 (by decide) ?_
        first
          | exact ww_eq rfl (by rw [show s_there ln 7 = s_there ln 6 from s_there_1 (bI_n0 h_19)]; rfl) rfl (ih 7 (by omega) (by omega))
          | exact ww_eq rfl (by rw [show s_there ln 7 = s_there ln 6 + 1 from s_there_0 (bI_e0 h_19)]; rfl) rfl (ih 7 (by omega) (by omega))
      · skip
        refine ww_iinc (y := 1) C dX10_sheetsThere_22 rfl (by decide) (by decide) rfl 25 rfl ?_
        refine ww_iinc (y := 1) C dX10_sheetsThere_25 rfl (by decide) (by decide) rfl 28 rfl ?_
        refine ww_goto C 4 dX10_sheetsThere_28 (by decide) ?_
        first
          | exact ww_eq rfl (by rw [show s_there ln 7 = s_there ln 6 from s_there_1 (bI_n0 h_19)]; rfl) rfl (ih 7 (by omega) (by omega))
          | exact ww_eq rfl (by rw [show s_there ln 7 = s_there ln 6 + 1 from s_there_0 (bI_e0 h_19)]; rfl) rfl (ih 7 (by omega) (by omega))
    · skip
      refine ww_aload_n (i := 0) C dX10_sheetsThere_10 rfl rfl 11 rfl ?_
      refine ww_get C fe_X10_11 dX10_sheetsThere_11 0 rfl rfl 14 rfl ?_
      refine ww_iload_n (i := 2) C dX10_sheetsThere_14 rfl rfl 15 rfl ?_
      refine ww_aald C dX10_sheetsThere_15 1 rfl (vp_in_nI (n := 7) (by decide) (by decide)) hf7 16 rfl ?_
      refine ww_callV0p C (c_X7_isMissing l Γ) mi_X7_isMissing im_X7_isMissing se_X7_isMissing ml_X10_107 dX10_sheetsThere_16 9 rfl rfl rfl (Nat.le_of_ble_eq_true rfl) (Nat.le_of_ble_eq_true rfl) (Nat.le_of_ble_eq_true rfl) ⟨Nat.zero_le _, Nat.zero_le _⟩ [9] rfl (by decide) 19 rfl ?_
      refine ww_if_ne C 25 dX10_sheetsThere_19 (by decide) 22 rfl (fun h_19 => ?_) (fun h_19 => ?_)
      · skip
        refine ww_iinc (y := 1) C dX10_sheetsThere_25 rfl (by decide) (by decide) rfl 28 rfl ?_
        refine ww_goto C 4 dX10_sheetsThere_28 (by decide) ?_
        first
          | exact ww_eq rfl (by rw [show s_there ln 8 = s_there ln 7 from s_there_1 (bI_n0 h_19)]; rfl) rfl (ih 8 (by omega) (by omega))
          | exact ww_eq rfl (by rw [show s_there ln 8 = s_there ln 7 + 1 from s_there_0 (bI_e0 h_19)]; rfl) rfl (ih 8 (by omega) (by omega))
      · skip
        refine ww_iinc (y := 1) C dX10_sheetsThere_22 rfl (by decide) (by decide) rfl 25 rfl ?_
        refine ww_iinc (y := 1) C dX10_sheetsThere_25 rfl (by decide) (by decide) rfl 28 rfl ?_
        refine ww_goto C 4 dX10_sheetsThere_28 (by decide) ?_
        first
          | exact ww_eq rfl (by rw [show s_there ln 8 = s_there ln 7 from s_there_1 (bI_n0 h_19)]; rfl) rfl (ih 8 (by omega) (by omega))
          | exact ww_eq rfl (by rw [show s_there ln 8 = s_there ln 7 + 1 from s_there_0 (bI_e0 h_19)]; rfl) rfl (ih 8 (by omega) (by omega))
theorem c_X10_count_0 (l : Launch) (Γ : Gm) {hx xs xm xt xr xb xd x6 x7 : Nat} {code : Int32} {mk : Int64} {lfa lfi : Int32} {f : Nat → Option Nat} {q0 q1 q2 q3 q4 q5 q6 q7 p0 p1 p2 p3 p4 p5 p6 p7 : Nat} {ln : Nat → Int32} {sz : Nat → Nat} (hf0 : f 0 = some q0) (hf1 : f 1 = some q1) (hf2 : f 2 = some q2) (hf3 : f 3 = some q3) (hf4 : f 4 = some q4) (hf5 : f 5 = some q5) (hf6 : f 6 = some q6) (hf7 : f 7 = some q7) : Ct l Γ yX10_count cX10_count 2 (some .int) 2 [.ref hx, .int 0] ([wXo hx xs xm xt xr xb xd x6 x7 (code) (mk) (lfa) (lfi), (xs, .inl (Γ.2.2.2, 8, .inr (.inr (.inr (.inr f))))), (q0, .inr (5, [.ref p0, .int (ln 0), .int (nI (sz 0))])), (q1, .inr (5, [.ref p1, .int (ln 1), .int (nI (sz 1))])), (q2, .inr (5, [.ref p2, .int (ln 2), .int (nI (sz 2))])), (q3, .inr (5, [.ref p3, .int (ln 3), .int (nI (sz 3))])), (q4, .inr (5, [.ref p4, .int (ln 4), .int (nI (sz 4))])), (q5, .inr (5, [.ref p5, .int (ln 5), .int (nI (sz 5))])), (q6, .inr (5, [.ref p6, .int (ln 6), .int (nI (sz 6))])), (q7, .inr (5, [.ref p7, .int (ln 7), .int (nI (sz 7))]))]) (some (.int (s_there ln 8))) ([wXo hx xs xm xt xr xb xd x6 x7 (code) (mk) (lfa) (lfi), (xs, .inl (Γ.2.2.2, 8, .inr (.inr (.inr (.inr f))))), (q0, .inr (5, [.ref p0, .int (ln 0), .int (nI (sz 0))])), (q1, .inr (5, [.ref p1, .int (ln 1), .int (nI (sz 1))])), (q2, .inr (5, [.ref p2, .int (ln 2), .int (nI (sz 2))])), (q3, .inr (5, [.ref p3, .int (ln 3), .int (nI (sz 3))])), (q4, .inr (5, [.ref p4, .int (ln 4), .int (nI (sz 4))])), (q5, .inr (5, [.ref p5, .int (ln 5), .int (nI (sz 5))])), (q6, .inr (5, [.ref p6, .int (ln 6), .int (nI (sz 6))])), (q7, .inr (5, [.ref p7, .int (ln 7), .int (nI (sz 7))]))]) := by
  refine Ct.of mi_X10_count [some (.ref hx), some (.int 0)] 0 rfl (Nat.le_of_ble_eq_true rfl) ?_
  intro p e s m args below meth c C hr
  refine ww_iload_n (i := 1) C dX10_count_0 rfl rfl 1 rfl ?_
  refine ww_ts7 C 94 44 49 57 65 73 81 89 dX10_count_1 (by decide) (by decide) (by decide) (by decide) (by decide) (by decide) (by decide) (by decide) (fun s0_1 => ?_) (fun s1_1 => ?_) (fun s2_1 => ?_) (fun s3_1 => ?_) (fun s4_1 => ?_) (fun s5_1 => ?_) (fun s6_1 => ?_) (fun sd_1 => ?_)
  · skip
    refine ww_aload_n (i := 0) C dX10_count_44 rfl rfl 45 rfl ?_
    refine ww_callV0p C (c_X10_sheetsThere l Γ hf0 hf1 hf2 hf3 hf4 hf5 hf6 hf7) mi_X10_sheetsThere im_X10_sheetsThere se_X10_sheetsThere ml_X10_257 dX10_count_45 0 rfl rfl rfl (Nat.le_of_ble_eq_true rfl) (Nat.le_of_ble_eq_true rfl) (Nat.le_of_ble_eq_true rfl) ⟨Nat.zero_le _, Nat.zero_le _⟩ [0, 1, 2, 3, 4, 5, 6, 7, 8, 9] rfl (by decide) 48 rfl ?_
    exact ww_iret C hr dX10_count_48 rfl rfl
  · skip
    exact absurd s1_1 (by decide)
  · skip
    exact absurd s2_1 (by decide)
  · skip
    exact absurd s3_1 (by decide)
  · skip
    exact absurd s4_1 (by decide)
  · skip
    exact absurd s5_1 (by decide)
  · skip
    exact absurd s6_1 (by decide)
  · skip
    exact absurd sd_1 (by decide)
theorem c_X10_count_1 (l : Launch) (Γ : Gm) {hx xs xm xt xr xb xd x6 x7 : Nat} {code : Int32} {mk : Int64} {lfa lfi : Int32} {qw qf qs qt qn n : Nat}  : Ct l Γ yX10_count cX10_count 2 (some .int) 2 [.ref hx, .int 1] ([wXo hx xs xm xt xr xb xd x6 x7 (code) (mk) (lfa) (lfi), (x6, .inr (4, [.ref qw, .ref qf, .ref qs, .ref qt, .ref qn, .int (nI n)]))]) (some (.int (nI n))) ([wXo hx xs xm xt xr xb xd x6 x7 (code) (mk) (lfa) (lfi), (x6, .inr (4, [.ref qw, .ref qf, .ref qs, .ref qt, .ref qn, .int (nI n)]))]) := by
  refine Ct.of mi_X10_count [some (.ref hx), some (.int 1)] 0 rfl (Nat.le_of_ble_eq_true rfl) ?_
  intro p e s m args below meth c C hr
  refine ww_iload_n (i := 1) C dX10_count_0 rfl rfl 1 rfl ?_
  refine ww_ts7 C 94 44 49 57 65 73 81 89 dX10_count_1 (by decide) (by decide) (by decide) (by decide) (by decide) (by decide) (by decide) (by decide) (fun s0_1 => ?_) (fun s1_1 => ?_) (fun s2_1 => ?_) (fun s3_1 => ?_) (fun s4_1 => ?_) (fun s5_1 => ?_) (fun s6_1 => ?_) (fun sd_1 => ?_)
  · skip
    exact absurd s0_1 (by decide)
  · skip
    refine ww_aload_n (i := 0) C dX10_count_49 rfl rfl 50 rfl ?_
    refine ww_get C fe_X10_53 dX10_count_50 0 rfl rfl 53 rfl ?_
    refine ww_get C fe_X10_202 dX10_count_53 1 rfl rfl 56 rfl ?_
    exact ww_iret C hr dX10_count_56 rfl rfl
  · skip
    exact absurd s2_1 (by decide)
  · skip
    exact absurd s3_1 (by decide)
  · skip
    exact absurd s4_1 (by decide)
  · skip
    exact absurd s5_1 (by decide)
  · skip
    exact absurd s6_1 (by decide)
  · skip
    exact absurd sd_1 (by decide)
theorem c_X10_count_2 (l : Launch) (Γ : Gm) {hx xs xm xt xr xb xd x6 x7 : Nat} {code : Int32} {mk : Int64} {lfa lfi : Int32} {kc ke ka kh z : Nat}  : Ct l Γ yX10_count cX10_count 2 (some .int) 2 [.ref hx, .int 2] ([wXo hx xs xm xt xr xb xd x6 x7 (code) (mk) (lfa) (lfi), (xb, .inr (1, [.ref kc, .ref ke, .ref ka, .ref kh, .int (nI z)]))]) (some (.int (nI z))) ([wXo hx xs xm xt xr xb xd x6 x7 (code) (mk) (lfa) (lfi), (xb, .inr (1, [.ref kc, .ref ke, .ref ka, .ref kh, .int (nI z)]))]) := by
  refine Ct.of mi_X10_count [some (.ref hx), some (.int 2)] 0 rfl (Nat.le_of_ble_eq_true rfl) ?_
  intro p e s m args below meth c C hr
  refine ww_iload_n (i := 1) C dX10_count_0 rfl rfl 1 rfl ?_
  refine ww_ts7 C 94 44 49 57 65 73 81 89 dX10_count_1 (by decide) (by decide) (by decide) (by decide) (by decide) (by decide) (by decide) (by decide) (fun s0_1 => ?_) (fun s1_1 => ?_) (fun s2_1 => ?_) (fun s3_1 => ?_) (fun s4_1 => ?_) (fun s5_1 => ?_) (fun s6_1 => ?_) (fun sd_1 => ?_)
  · skip
    exact absurd s0_1 (by decide)
  · skip
    exact absurd s1_1 (by decide)
  · skip
    refine ww_aload_n (i := 0) C dX10_count_57 rfl rfl 58 rfl ?_
    refine ww_get C fe_X10_39 dX10_count_58 0 rfl rfl 61 rfl ?_
    refine ww_get C fe_X10_226 dX10_count_61 1 rfl rfl 64 rfl ?_
    exact ww_iret C hr dX10_count_64 rfl rfl
  · skip
    exact absurd s3_1 (by decide)
  · skip
    exact absurd s4_1 (by decide)
  · skip
    exact absurd s5_1 (by decide)
  · skip
    exact absurd s6_1 (by decide)
  · skip
    exact absurd sd_1 (by decide)
theorem c_X10_count_3 (l : Launch) (Γ : Gm) {hx xs xm xt xr xb xd x6 x7 : Nat} {code : Int32} {mk : Int64} {lfa lfi : Int32} {kc ke ka kh z : Nat} {al : Nat → Int32}  : Ct l Γ yX10_count cX10_count 2 (some .int) 2 [.ref hx, .int 3] ([wXo hx xs xm xt xr xb xd x6 x7 (code) (mk) (lfa) (lfi), (xb, .inr (1, [.ref kc, .ref ke, .ref ka, .ref kh, .int (nI z)])), (ka, .inl (Γ.2.1, 3, .inl al))]) (some (.int (al 0 + al 1))) ([wXo hx xs xm xt xr xb xd x6 x7 (code) (mk) (lfa) (lfi), (xb, .inr (1, [.ref kc, .ref ke, .ref ka, .ref kh, .int (nI z)])), (ka, .inl (Γ.2.1, 3, .inl al))]) := by
  refine Ct.of mi_X10_count [some (.ref hx), some (.int 3)] 0 rfl (Nat.le_of_ble_eq_true rfl) ?_
  intro p e s m args below meth c C hr
  refine ww_iload_n (i := 1) C dX10_count_0 rfl rfl 1 rfl ?_
  refine ww_ts7 C 94 44 49 57 65 73 81 89 dX10_count_1 (by decide) (by decide) (by decide) (by decide) (by decide) (by decide) (by decide) (by decide) (fun s0_1 => ?_) (fun s1_1 => ?_) (fun s2_1 => ?_) (fun s3_1 => ?_) (fun s4_1 => ?_) (fun s5_1 => ?_) (fun s6_1 => ?_) (fun sd_1 => ?_)
  · skip
    exact absurd s0_1 (by decide)
  · skip
    exact absurd s1_1 (by decide)
  · skip
    exact absurd s2_1 (by decide)
  · skip
    refine ww_aload_n (i := 0) C dX10_count_65 rfl rfl 66 rfl ?_
    refine ww_get C fe_X10_39 dX10_count_66 0 rfl rfl 69 rfl ?_
    refine ww_callV0p C (c_X1_casesKnown l Γ) mi_X1_casesKnown im_X1_casesKnown se_X1_casesKnown ml_X10_260 dX10_count_69 1 rfl rfl rfl (Nat.le_of_ble_eq_true rfl) (Nat.le_of_ble_eq_true rfl) (Nat.le_of_ble_eq_true rfl) ⟨Nat.zero_le _, Nat.zero_le _⟩ [1, 2] rfl (by decide) 72 rfl ?_
    exact ww_iret C hr dX10_count_72 rfl rfl
  · skip
    exact absurd s4_1 (by decide)
  · skip
    exact absurd s5_1 (by decide)
  · skip
    exact absurd s6_1 (by decide)
  · skip
    exact absurd sd_1 (by decide)
theorem c_X10_count_4 (l : Launch) (Γ : Gm) {hx xs xm xt xr xb xd x6 x7 : Nat} {code : Int32} {mk : Int64} {lfa lfi : Int32} {kc ke ka kh z : Nat} {al : Nat → Int32}  : Ct l Γ yX10_count cX10_count 2 (some .int) 2 [.ref hx, .int 4] ([wXo hx xs xm xt xr xb xd x6 x7 (code) (mk) (lfa) (lfi), (xb, .inr (1, [.ref kc, .ref ke, .ref ka, .ref kh, .int (nI z)])), (ka, .inl (Γ.2.1, 3, .inl al))]) (some (.int (al 1))) ([wXo hx xs xm xt xr xb xd x6 x7 (code) (mk) (lfa) (lfi), (xb, .inr (1, [.ref kc, .ref ke, .ref ka, .ref kh, .int (nI z)])), (ka, .inl (Γ.2.1, 3, .inl al))]) := by
  refine Ct.of mi_X10_count [some (.ref hx), some (.int 4)] 0 rfl (Nat.le_of_ble_eq_true rfl) ?_
  intro p e s m args below meth c C hr
  refine ww_iload_n (i := 1) C dX10_count_0 rfl rfl 1 rfl ?_
  refine ww_ts7 C 94 44 49 57 65 73 81 89 dX10_count_1 (by decide) (by decide) (by decide) (by decide) (by decide) (by decide) (by decide) (by decide) (fun s0_1 => ?_) (fun s1_1 => ?_) (fun s2_1 => ?_) (fun s3_1 => ?_) (fun s4_1 => ?_) (fun s5_1 => ?_) (fun s6_1 => ?_) (fun sd_1 => ?_)
  · skip
    exact absurd s0_1 (by decide)
  · skip
    exact absurd s1_1 (by decide)
  · skip
    exact absurd s2_1 (by decide)
  · skip
    exact absurd s3_1 (by decide)
  · skip
    refine ww_aload_n (i := 0) C dX10_count_73 rfl rfl 74 rfl ?_
    refine ww_get C fe_X10_39 dX10_count_74 0 rfl rfl 77 rfl ?_
    refine ww_callV0p C (c_X1_casesYes l Γ) mi_X1_casesYes im_X1_casesYes se_X1_casesYes ml_X10_263 dX10_count_77 1 rfl rfl rfl (Nat.le_of_ble_eq_true rfl) (Nat.le_of_ble_eq_true rfl) (Nat.le_of_ble_eq_true rfl) ⟨Nat.zero_le _, Nat.zero_le _⟩ [1, 2] rfl (by decide) 80 rfl ?_
    exact ww_iret C hr dX10_count_80 rfl rfl
  · skip
    exact absurd s5_1 (by decide)
  · skip
    exact absurd s6_1 (by decide)
  · skip
    exact absurd sd_1 (by decide)
theorem c_X10_count_5 (l : Launch) (Γ : Gm) {hx xs xm xt xr xb xd x6 x7 : Nat} {code : Int32} {mk : Int64} {lfa lfi : Int32} {hb u : Nat}  : Ct l Γ yX10_count cX10_count 2 (some .int) 2 [.ref hx, .int 5] ([wXo hx xs xm xt xr xb xd x6 x7 (code) (mk) (lfa) (lfi), (xt, .inr (6, [.ref hb, .int (nI u)]))]) (some (.int (nI u))) ([wXo hx xs xm xt xr xb xd x6 x7 (code) (mk) (lfa) (lfi), (xt, .inr (6, [.ref hb, .int (nI u)]))]) := by
  refine Ct.of mi_X10_count [some (.ref hx), some (.int 5)] 0 rfl (Nat.le_of_ble_eq_true rfl) ?_
  intro p e s m args below meth c C hr
  refine ww_iload_n (i := 1) C dX10_count_0 rfl rfl 1 rfl ?_
  refine ww_ts7 C 94 44 49 57 65 73 81 89 dX10_count_1 (by decide) (by decide) (by decide) (by decide) (by decide) (by decide) (by decide) (by decide) (fun s0_1 => ?_) (fun s1_1 => ?_) (fun s2_1 => ?_) (fun s3_1 => ?_) (fun s4_1 => ?_) (fun s5_1 => ?_) (fun s6_1 => ?_) (fun sd_1 => ?_)
  · skip
    exact absurd s0_1 (by decide)
  · skip
    exact absurd s1_1 (by decide)
  · skip
    exact absurd s2_1 (by decide)
  · skip
    exact absurd s3_1 (by decide)
  · skip
    exact absurd s4_1 (by decide)
  · skip
    refine ww_aload_n (i := 0) C dX10_count_81 rfl rfl 82 rfl ?_
    refine ww_get C fe_X10_25 dX10_count_82 0 rfl rfl 85 rfl ?_
    refine ww_get C fe_X10_188 dX10_count_85 1 rfl rfl 88 rfl ?_
    exact ww_iret C hr dX10_count_88 rfl rfl
  · skip
    exact absurd s6_1 (by decide)
  · skip
    exact absurd sd_1 (by decide)
theorem c_X10_count_6 (l : Launch) (Γ : Gm) {hx xs xm xt xr xb xd x6 x7 : Nat} {code : Int32} {mk : Int64} {lfa lfi : Int32}  : Ct l Γ yX10_count cX10_count 2 (some .int) 2 [.ref hx, .int 6] ([wXo hx xs xm xt xr xb xd x6 x7 (code) (mk) (lfa) (lfi)]) (some (.int (code))) ([wXo hx xs xm xt xr xb xd x6 x7 (code) (mk) (lfa) (lfi)]) := by
  refine Ct.of mi_X10_count [some (.ref hx), some (.int 6)] 0 rfl (Nat.le_of_ble_eq_true rfl) ?_
  intro p e s m args below meth c C hr
  refine ww_iload_n (i := 1) C dX10_count_0 rfl rfl 1 rfl ?_
  refine ww_ts7 C 94 44 49 57 65 73 81 89 dX10_count_1 (by decide) (by decide) (by decide) (by decide) (by decide) (by decide) (by decide) (by decide) (fun s0_1 => ?_) (fun s1_1 => ?_) (fun s2_1 => ?_) (fun s3_1 => ?_) (fun s4_1 => ?_) (fun s5_1 => ?_) (fun s6_1 => ?_) (fun sd_1 => ?_)
  · skip
    exact absurd s0_1 (by decide)
  · skip
    exact absurd s1_1 (by decide)
  · skip
    exact absurd s2_1 (by decide)
  · skip
    exact absurd s3_1 (by decide)
  · skip
    exact absurd s4_1 (by decide)
  · skip
    exact absurd s5_1 (by decide)
  · skip
    refine ww_aload_n (i := 0) C dX10_count_89 rfl rfl 90 rfl ?_
    refine ww_get C fe_X10_60 dX10_count_90 0 rfl rfl 93 rfl ?_
    exact ww_iret C hr dX10_count_93 rfl rfl
  · skip
    exact absurd sd_1 (by decide)
theorem c_X10_count_bad (l : Launch) (Γ : Gm) {hx xs xm xt xr xb xd x6 x7 : Nat} {code : Int32} {mk : Int64} {lfa lfi : Int32} {k9 : Int32} (hb : k9 < 0 ∨ 7 ≤ k9) : Ct l Γ yX10_count cX10_count 2 (some .int) 2 [.ref hx, .int k9] ([wXo hx xs xm xt xr xb xd x6 x7 (code) (mk) (lfa) (lfi)]) (some (.int (-1000001))) ([wXo hx xs xm xt xr xb xd x6 x7 (code) (mk) (lfa) (lfi)]) := by
  refine Ct.of mi_X10_count [some (.ref hx), some (.int k9)] 0 rfl (Nat.le_of_ble_eq_true rfl) ?_
  intro p e s m args below meth c C hr
  refine ww_iload_n (i := 1) C dX10_count_0 rfl rfl 1 rfl ?_
  refine ww_ts7 C 94 44 49 57 65 73 81 89 dX10_count_1 (by decide) (by decide) (by decide) (by decide) (by decide) (by decide) (by decide) (by decide) (fun s0_1 => ?_) (fun s1_1 => ?_) (fun s2_1 => ?_) (fun s3_1 => ?_) (fun s4_1 => ?_) (fun s5_1 => ?_) (fun s6_1 => ?_) (fun sd_1 => ?_)
  · skip
    exact absurd hb (by rw [s0_1]; decide)
  · skip
    exact absurd hb (by rw [s1_1]; decide)
  · skip
    exact absurd hb (by rw [s2_1]; decide)
  · skip
    exact absurd hb (by rw [s3_1]; decide)
  · skip
    exact absurd hb (by rw [s4_1]; decide)
  · skip
    exact absurd hb (by rw [s5_1]; decide)
  · skip
    exact absurd hb (by rw [s6_1]; decide)
  · skip
    refine ww_ldc C cn_X10_88 dX10_count_94 96 rfl ?_
    exact ww_iret C hr dX10_count_96 rfl rfl
set_option maxHeartbeats 4000000 in
theorem c_X10_rules (l : Launch) (Γ : Gm) {hx xs xm xt xr xb xd x6 x7 : Nat} {code : Int32} {mk : Int64} {lfa lfi : Int32} {nx : Nat} {I : Nat → Int32} {ht t0 t1 t2 t3 t4 T u0 : Nat} {A : Nat → Nat → Int32} {qw qf qs qt qn n : Nat} {B : Nat → Nat → Int32} {hb u : Nat} {by0 : Nat → Int32} (hu : u ≤ 400) : Ce l Γ yX10_rules cX10_rules 3 (some .int) 6 [.ref hx] (wXo hx xs xm xt xr xb xd x6 x7 (code) (mk) (lfa) (lfi) :: wRI Γ xr (nx) (I) ht t0 t1 t2 t3 t4 (T) (u0) (A) x7 qw qf qs qt qn (n) (B) xt hb (u) by0) (fun (x : RiX) => RiQ by0 u x) (fun (x : RiX) => some (.int (if x.1 = 1 then nI x.2.2.2 else -1000100 - x.2.2.1.2.1 2))) (fun (x : RiX) => wXo hx xs xm xt xr xb xd (if x.1 = 1 then x7 else x6) (if x.1 = 1 then x6 else x7) (code) (mk) (if x.1 = 1 then lfa else x.2.2.1.2.1 1) (lfi) :: wRI Γ xr (x.2.2.1.1) (x.2.2.1.2.1) ht t0 t1 t2 t3 t4 (x.2.1.1) (u) (x.2.1.2.2.2) x7 qw qf qs qt qn (x.2.2.2) (x.2.2.1.2.2) xt hb (0) by0) := by
  refine Ce.of mi_X10_rules [some (.ref hx), none, none] 2 rfl (Nat.le_of_ble_eq_true rfl) ?_
  intro p e s m args below meth c C hr
  refine ww_aload_n (i := 0) C dX10_rules_0 rfl rfl 1 rfl ?_
  refine ww_get C fe_X10_32 dX10_rules_1 0 rfl rfl 4 rfl ?_
  refine ww_aload_n (i := 0) C dX10_rules_4 rfl rfl 5 rfl ?_
  refine ww_get C fe_X10_57 dX10_rules_5 0 rfl rfl 8 rfl ?_
  refine ww_aload_n (i := 0) C dX10_rules_8 rfl rfl 9 rfl ?_
  refine ww_get C fe_X10_25 dX10_rules_9 0 rfl rfl 12 rfl ?_
  refine ww_callE2 C (c_X5_readInto l Γ hu) mi_X5_readInto im_X5_readInto se_X5_readInto ml_X10_191 dX10_rules_12 1 rfl rfl rfl (Nat.le_of_ble_eq_true rfl) (Nat.le_of_ble_eq_true rfl) (Nat.le_of_ble_eq_true rfl) ⟨Nat.zero_le _, Nat.zero_le _⟩ [1, 2, 3, 4, 5, 6, 7, 8, 9, 10, 11, 12, 13, 14, 15] rfl (by decide) (fun _ => rfl) 15 rfl (fun x_12 hx_12 => ?_)
  refine ww_eq (ws' := wXo hx xs xm xt xr xb xd x6 x7 (code) (mk) (lfa) (lfi) :: wRI Γ xr (x_12.2.2.1.1) (x_12.2.2.1.2.1) ht t0 t1 t2 t3 t4 (x_12.2.1.1) (u) (x_12.2.1.2.2.2) x7 qw qf qs qt qn (x_12.2.2.2) (x_12.2.2.1.2.2) xt hb (u) by0) rfl rfl rfl ?_
  refine ww_istore_n (i := 1) C dX10_rules_15 rfl (by decide) rfl 16 rfl ?_
  refine ww_aload_n (i := 0) C dX10_rules_16 rfl rfl 17 rfl ?_
  refine ww_get C fe_X10_25 dX10_rules_17 0 rfl rfl 20 rfl ?_
  refine ww_iconst (v := 0) C dX10_rules_20 (by decide) 21 rfl ?_
  refine ww_put C fe_X10_188 rfl dX10_rules_21 14 rfl rfl rfl (Nat.le_of_ble_eq_true rfl) 24 rfl ?_
  refine ww_iload_n (i := 1) C dX10_rules_24 rfl rfl 25 rfl ?_
  refine ww_if_ne C 50 dX10_rules_25 (by decide) 28 rfl (fun h_25 => ?_) (fun h_25 => ?_)
  · skip
    have heq : x_12.1 = 1 := by
      rcases hx_12.2.2 with q | q
      · exact q.1
      · exact absurd q.1 h_25
    refine ww_aload_n (i := 0) C dX10_rules_50 rfl rfl 51 rfl ?_
    refine ww_get C fe_X10_53 dX10_rules_51 0 rfl rfl 54 rfl ?_
    refine ww_astore_n (i := 2) C dX10_rules_54 rfl (by decide) rfl 55 rfl ?_
    refine ww_aload_n (i := 0) C dX10_rules_55 rfl rfl 56 rfl ?_
    refine ww_aload_n (i := 0) C dX10_rules_56 rfl rfl 57 rfl ?_
    refine ww_get C fe_X10_57 dX10_rules_57 0 rfl rfl 60 rfl ?_
    refine ww_put C fe_X10_53 rfl dX10_rules_60 0 rfl rfl rfl (Nat.le_of_ble_eq_true rfl) 63 rfl ?_
    refine ww_aload_n (i := 0) C dX10_rules_63 rfl rfl 64 rfl ?_
    refine ww_aload_n (i := 2) C dX10_rules_64 rfl rfl 65 rfl ?_
    refine ww_put C fe_X10_57 rfl dX10_rules_65 0 rfl rfl rfl (Nat.le_of_ble_eq_true rfl) 68 rfl ?_
    refine ww_aload_n (i := 0) C dX10_rules_68 rfl rfl 69 rfl ?_
    refine ww_get C fe_X10_53 dX10_rules_69 0 rfl rfl 72 rfl ?_
    refine ww_get C fe_X10_202 dX10_rules_72 8 rfl rfl 75 rfl ?_
    exact ww_ireE C hr dX10_rules_75 (x_12) (hx_12) (by rw [if_pos heq]) (by simp only [if_pos heq]; rfl)
  · skip
    have hne : ¬ x_12.1 = 1 := fun q => absurd (q.symm.trans h_25) (by decide)
    refine ww_aload_n (i := 0) C dX10_rules_28 rfl rfl 29 rfl ?_
    refine ww_aload_n (i := 0) C dX10_rules_29 rfl rfl 30 rfl ?_
    refine ww_get C fe_X10_32 dX10_rules_30 0 rfl rfl 33 rfl ?_
    refine ww_get C fe_X10_195 dX10_rules_33 1 rfl rfl 36 rfl ?_
    refine ww_put C fe_X10_74 rfl dX10_rules_36 0 rfl rfl rfl (Nat.le_of_ble_eq_true rfl) 39 rfl ?_
    refine ww_ldc C cn_X10_198 dX10_rules_39 41 rfl ?_
    refine ww_aload_n (i := 0) C dX10_rules_41 rfl rfl 42 rfl ?_
    refine ww_get C fe_X10_32 dX10_rules_42 0 rfl rfl 45 rfl ?_
    refine ww_get C fe_X10_199 dX10_rules_45 1 rfl rfl 48 rfl ?_
    refine ww_isub C dX10_rules_48 49 rfl ?_
    exact ww_ireE C hr dX10_rules_49 (x_12) (hx_12) (by rw [if_neg hne]) (by simp only [if_neg hne]; rfl)
