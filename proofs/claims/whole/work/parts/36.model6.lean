theorem c_X11_isRule (l : Launch) (Γ : Gm) {hm : Nat} {q : Nat → Nat} {I : Nat → Int32} {m9 : Nat} {x : Int32} (h7 : I 7 = nI m9) (hm9 : m9 ≤ 15) : Ct l Γ yX11_isRule cX11_isRule 2 (some .boolean) 1 [.ref hm, .int x] ([wMo hm q (I)]) (some (.int (bI (¬ x < 0 ∧ ¬ nI m9 ≤ x)))) ([wMo hm q (I)]) := by
  refine Ct.of mi_X11_isRule [some (.ref hm), some (.int x)] 0 rfl (Nat.le_of_ble_eq_true rfl) ?_
  intro p e s m args below meth c C hr
  refine ww_iload_n (i := 1) C dX11_isRule_0 rfl rfl 1 rfl ?_
  refine ww_i2l C dX11_isRule_1 2 rfl ?_
  refine ww_lconst (v := 0) C dX11_isRule_2 (by decide) 3 rfl ?_
  refine ww_aload_n (i := 0) C dX11_isRule_3 rfl rfl 4 rfl ?_
  refine ww_get C fe_X11_189 dX11_isRule_4 0 rfl rfl 7 rfl ?_
  rw [h7]
  refine ww_iconst (v := 1) C dX11_isRule_7 (by decide) 8 rfl ?_
  refine ww_isub C dX11_isRule_8 9 rfl ?_
  refine ww_i2l C dX11_isRule_9 10 rfl ?_
  refine ww_callS3p C (c_X11_in l Γ) mi_X11_in st_X11_in ml_X11_62 dX11_isRule_10 (Nat.le_of_ble_eq_true rfl) (Nat.le_of_ble_eq_true rfl) (Nat.le_of_ble_eq_true rfl) ⟨Nat.zero_le _, Nat.zero_le _⟩ [] rfl (by decide) 13 rfl ?_
  exact ww_zret C hr bI_z dX11_isRule_13 (by rw [bI_c (rg_iff (show m9 ≤ 100 by omega)).symm]; rfl) rfl
theorem c_X11_holds_bad (l : Launch) (Γ : Gm) {hm : Nat} {q : Nat → Nat} {I : Nat → Int32} {m9 : Nat} {x : Int32} (h7 : I 7 = nI m9) (hm9 : m9 ≤ 15) (hb : ¬ (¬ x < 0 ∧ ¬ nI m9 ≤ x)) : Ct l Γ yX11_holds cX11_holds 2 (some .int) 4 [.ref hm, .int x] ([wMo hm q (I)]) (some (.int (-1000001))) ([wMo hm q (upd I 0 (0))]) := by
  refine Ct.of mi_X11_holds [some (.ref hm), some (.int x)] 0 rfl (Nat.le_of_ble_eq_true rfl) ?_
  intro p e s m args below meth c C hr
  refine ww_aload_n (i := 0) C dX11_holds_0 rfl rfl 1 rfl ?_
  refine ww_iconst (v := 0) C dX11_holds_1 (by decide) 2 rfl ?_
  refine ww_mput_0 C fe_X11_52 dX11_holds_2 5 rfl ?_
  refine ww_aload_n (i := 0) C dX11_holds_5 rfl rfl 6 rfl ?_
  refine ww_iload_n (i := 1) C dX11_holds_6 rfl rfl 7 rfl ?_
  refine ww_callV1p C (c_X11_isRule l Γ (I := upd I 0 0) h7 hm9) mi_X11_isRule im_X11_isRule se_X11_isRule ml_X11_195 dX11_holds_7 0 rfl rfl rfl (Nat.le_of_ble_eq_true rfl) (Nat.le_of_ble_eq_true rfl) (Nat.le_of_ble_eq_true rfl) ⟨Nat.zero_le _, Nat.zero_le _⟩ [0] rfl (by decide) 10 rfl ?_
  refine ww_if_ne C 16 dX11_holds_10 (by decide) 13 rfl (fun h_10 => ?_) (fun h_10 => ?_)
  · exact absurd (bI_n0 h_10) hb
  · skip
    refine ww_ldc C cn_X11_72 dX11_holds_13 15 rfl ?_
    exact ww_iret C hr dX11_holds_15 rfl rfl
theorem c_X11_holds_ok (l : Launch) (Γ : Gm) {hm : Nat} {q : Nat → Nat} {I : Nat → Int32} {n m9 r t : Nat} {pl te ts wd fi se : Nat → Int32} (hc : I 5 = nI n) (hn : n < 65536) (h7 : I 7 = nI m9) (hm9 : m9 ≤ 15) (hr9 : r < m9) (ht : te r = nI t) (h4 : t ≤ 4) (hrel : RlR wd fi se ts r t)  : Ct l Γ yX11_holds cX11_holds 2 (some .int) 4 [.ref hm, .int (nI r)] ([wMo hm q (I), (q 6, .inl (Γ.2.1, 16, .inl (pl))), (q 8, .inl (Γ.2.1, 15, .inl (te))), (q 9, .inl (Γ.2.1, 180, .inl (ts)))]) (some (.int (bI (s_tr wd fi se r (lN (CH n)) t = true)))) ([wMo hm q (upd I 0 (0)), (q 6, .inl (Γ.2.1, 16, .inl (s_lay pl n))), (q 8, .inl (Γ.2.1, 15, .inl (te))), (q 9, .inl (Γ.2.1, 180, .inl (ts)))]) := by
  refine Ct.of mi_X11_holds [some (.ref hm), some (.int (nI r))] 0 rfl (Nat.le_of_ble_eq_true rfl) ?_
  intro p e s m args below meth c C hr
  refine ww_aload_n (i := 0) C dX11_holds_0 rfl rfl 1 rfl ?_
  refine ww_iconst (v := 0) C dX11_holds_1 (by decide) 2 rfl ?_
  refine ww_mput_0 C fe_X11_52 dX11_holds_2 5 rfl ?_
  refine ww_aload_n (i := 0) C dX11_holds_5 rfl rfl 6 rfl ?_
  refine ww_iload_n (i := 1) C dX11_holds_6 rfl rfl 7 rfl ?_
  refine ww_callV1p C (c_X11_isRule l Γ (I := upd I 0 0) h7 hm9) mi_X11_isRule im_X11_isRule se_X11_isRule ml_X11_195 dX11_holds_7 0 rfl rfl rfl (Nat.le_of_ble_eq_true rfl) (Nat.le_of_ble_eq_true rfl) (Nat.le_of_ble_eq_true rfl) ⟨Nat.zero_le _, Nat.zero_le _⟩ [0] rfl (by decide) 10 rfl ?_
  refine ww_if_ne C 16 dX11_holds_10 (by decide) 13 rfl (fun h_10 => ?_) (fun h_10 => ?_)
  · skip
    refine ww_aload_n (i := 0) C dX11_holds_16 rfl rfl 17 rfl ?_
    refine ww_aload_n (i := 0) C dX11_holds_17 rfl rfl 18 rfl ?_
    refine ww_get C fe_X11_81 dX11_holds_18 0 rfl rfl 21 rfl ?_
    rw [show upd I 0 0 5 = nI n from hc]
    refine ww_callV1v C (c_X11_lay l Γ hn) mi_X11_lay im_X11_lay se_X11_lay ml_X11_86 dX11_holds_21 0 rfl rfl rfl (Nat.le_of_ble_eq_true rfl) (Nat.le_of_ble_eq_true rfl) (Nat.le_of_ble_eq_true rfl) ⟨Nat.zero_le _, Nat.zero_le _⟩ [0, 1] rfl (by decide) rfl 24 rfl ?_
    refine ww_eq (ws' := [wMo hm q (upd I 0 (0)), (q 6, .inl (Γ.2.1, 16, .inl (s_lay pl n))), (q 8, .inl (Γ.2.1, 15, .inl (te))), (q 9, .inl (Γ.2.1, 180, .inl (ts)))]) rfl rfl rfl ?_
    refine ww_aload_n (i := 0) C dX11_holds_24 rfl rfl 25 rfl ?_
    refine ww_iload_n (i := 1) C dX11_holds_25 rfl rfl 26 rfl ?_
    refine ww_callV1p C (c_X11_isTrue l Γ (by omega) ht h4 hrel) mi_X11_isTrue im_X11_isTrue se_X11_isTrue ml_X11_192 dX11_holds_26 0 rfl rfl rfl (Nat.le_of_ble_eq_true rfl) (Nat.le_of_ble_eq_true rfl) (Nat.le_of_ble_eq_true rfl) ⟨Nat.zero_le _, Nat.zero_le _⟩ [0, 1, 2, 3] rfl (by decide) 29 rfl ?_
    refine ww_if_eq C 36 dX11_holds_29 (by decide) 32 rfl (fun h_29 => ?_) (fun h_29 => ?_)
    · skip
      refine ww_iconst (v := 0) C dX11_holds_36 (by decide) 37 rfl ?_
      exact ww_iret C hr dX11_holds_37 (by first | rw [bI_0 (bI_e0 h_29)] | rw [bI_1 (bI_n0 h_29)]) rfl
    · skip
      refine ww_iconst (v := 1) C dX11_holds_32 (by decide) 33 rfl ?_
      refine ww_goto C 37 dX11_holds_33 (by decide) ?_
      exact ww_iret C hr dX11_holds_37 (by first | rw [bI_0 (bI_e0 h_29)] | rw [bI_1 (bI_n0 h_29)]) rfl
  · exact absurd (⟨nI_pos (by omega), nI_ge hr9 (by omega)⟩ : ¬ nI r < 0 ∧ ¬ nI m9 ≤ nI r) (bI_e0 h_10)
theorem c_X11_said_bad (l : Launch) (Γ : Gm) {hm : Nat} {q : Nat → Nat} {I : Nat → Int32} {k9 : Int32} (hb : ¬ k9 = 0 ∧ ¬ k9 = 1) : Ct l Γ yX11_said cX11_said 3 (some .int) 4 [.ref hm, .int k9] ([wMo hm q (I)]) (some (.int (-1000001))) ([wMo hm q (upd I 0 (0))]) := by
  refine Ct.of mi_X11_said [some (.ref hm), some (.int k9), none] 1 rfl (Nat.le_of_ble_eq_true rfl) ?_
  intro p e s m args below meth c C hr
  refine ww_aload_n (i := 0) C dX11_said_0 rfl rfl 1 rfl ?_
  refine ww_iconst (v := 0) C dX11_said_1 (by decide) 2 rfl ?_
  refine ww_mput_0 C fe_X11_52 dX11_said_2 5 rfl ?_
  refine ww_iload_n (i := 1) C dX11_said_5 rfl rfl 6 rfl ?_
  refine ww_i2l C dX11_said_6 7 rfl ?_
  refine ww_lconst (v := 0) C dX11_said_7 (by decide) 8 rfl ?_
  refine ww_lconst (v := 1) C dX11_said_8 (by decide) 9 rfl ?_
  refine ww_callS3p C (c_X11_in l Γ) mi_X11_in st_X11_in ml_X11_62 dX11_said_9 (Nat.le_of_ble_eq_true rfl) (Nat.le_of_ble_eq_true rfl) (Nat.le_of_ble_eq_true rfl) ⟨Nat.zero_le _, Nat.zero_le _⟩ [] rfl (by decide) 12 rfl ?_
  refine ww_if_ne C 18 dX11_said_12 (by decide) 15 rfl (fun h_12 => ?_) (fun h_12 => ?_)
  · exact absurd (i01 (fun w => (bI_n0 h_12).1 ((i64_lt (x := k9) (y := 0)).mpr w)) (fun w => (bI_n0 h_12).2 ((i64_lt (x := 1) (y := k9)).mpr w))) (fun z => z.elim hb.1 hb.2)
  · skip
    refine ww_ldc C cn_X11_72 dX11_said_15 17 rfl ?_
    exact ww_iret C hr dX11_said_17 rfl rfl
theorem c_X11_said_none (l : Launch) (Γ : Gm) {hm : Nat} {q : Nat → Nat} {I : Nat → Int32} {n m9 : Nat} {k9 : Int32} {pl te ts sy wd fi se : Nat → Int32} {tn : Nat → Nat}  (hc : I 5 = nI n) (hn : n < 65536) (h7 : I 7 = nI m9) (hm9 : m9 ≤ 15) (ht : ∀ r, r < m9 → te r = nI (tn r) ∧ tn r ≤ 4) (hrel : ∀ r, r < m9 → RlR wd fi se ts r (tn r)) (hk : k9 = 0 ∨ k9 = 1) (h0 : ∀ j, j < m9 → s_tr wd fi se j (lN (CH n)) (tn j) = false) : Ct l Γ yX11_said cX11_said 3 (some .int) 4 [.ref hm, .int k9] ([wMo hm q (I), (q 6, .inl (Γ.2.1, 16, .inl (pl))), (q 8, .inl (Γ.2.1, 15, .inl (te))), (q 9, .inl (Γ.2.1, 180, .inl (ts))), (q 10, .inl (Γ.2.1, 15, .inl (sy)))]) (some (.int (-1000000))) ([wMo hm q (upd I 0 (0)), (q 6, .inl (Γ.2.1, 16, .inl (s_lay pl n))), (q 8, .inl (Γ.2.1, 15, .inl (te))), (q 9, .inl (Γ.2.1, 180, .inl (ts))), (q 10, .inl (Γ.2.1, 15, .inl (sy)))]) := by
  refine Ct.of mi_X11_said [some (.ref hm), some (.int k9), none] 1 rfl (Nat.le_of_ble_eq_true rfl) ?_
  intro p e s m args below meth c C hr
  refine ww_aload_n (i := 0) C dX11_said_0 rfl rfl 1 rfl ?_
  refine ww_iconst (v := 0) C dX11_said_1 (by decide) 2 rfl ?_
  refine ww_mput_0 C fe_X11_52 dX11_said_2 5 rfl ?_
  refine ww_iload_n (i := 1) C dX11_said_5 rfl rfl 6 rfl ?_
  refine ww_i2l C dX11_said_6 7 rfl ?_
  refine ww_lconst (v := 0) C dX11_said_7 (by decide) 8 rfl ?_
  refine ww_lconst (v := 1) C dX11_said_8 (by decide) 9 rfl ?_
  refine ww_callS3p C (c_X11_in l Γ) mi_X11_in st_X11_in ml_X11_62 dX11_said_9 (Nat.le_of_ble_eq_true rfl) (Nat.le_of_ble_eq_true rfl) (Nat.le_of_ble_eq_true rfl) ⟨Nat.zero_le _, Nat.zero_le _⟩ [] rfl (by decide) 12 rfl ?_
  refine ww_if_ne C 18 dX11_said_12 (by decide) 15 rfl (fun h_12 => ?_) (fun h_12 => ?_)
  · skip
    refine ww_aload_n (i := 0) C dX11_said_18 rfl rfl 19 rfl ?_
    refine ww_aload_n (i := 0) C dX11_said_19 rfl rfl 20 rfl ?_
    refine ww_get C fe_X11_81 dX11_said_20 0 rfl rfl 23 rfl ?_
    rw [show upd I 0 0 5 = nI n from hc]
    refine ww_callV1v C (c_X11_lay l Γ hn) mi_X11_lay im_X11_lay se_X11_lay ml_X11_86 dX11_said_23 0 rfl rfl rfl (Nat.le_of_ble_eq_true rfl) (Nat.le_of_ble_eq_true rfl) (Nat.le_of_ble_eq_true rfl) ⟨Nat.zero_le _, Nat.zero_le _⟩ [0, 1] rfl (by decide) rfl 26 rfl ?_
    refine ww_eq (ws' := [wMo hm q (upd I 0 (0)), (q 6, .inl (Γ.2.1, 16, .inl (s_lay pl n))), (q 8, .inl (Γ.2.1, 15, .inl (te))), (q 9, .inl (Γ.2.1, 180, .inl (ts))), (q 10, .inl (Γ.2.1, 15, .inl (sy)))]) rfl rfl rfl ?_
    refine ww_iconst (v := 0) C dX11_said_26 (by decide) 27 rfl ?_
    refine ww_istore_n (i := 2) C dX11_said_27 rfl (by decide) rfl 28 rfl ?_
    refine ww_loop (fun j : Nat => m9 - j) (fun j => j ≤ m9 ∧ ∀ i, i < j → s_tr wd fi se i (lN (CH n)) (tn i) = false) (fun _ => [wMo hm q (upd I 0 (0)), (q 6, .inl (Γ.2.1, 16, .inl (s_lay pl n))), (q 8, .inl (Γ.2.1, 15, .inl (te))), (q 9, .inl (Γ.2.1, 180, .inl (ts))), (q 10, .inl (Γ.2.1, 15, .inl (sy)))]) (fun j => [some (.ref hm), some (.int k9), some (.int (nI j))]) (0 : Nat) ⟨Nat.zero_le _, fun i hi => absurd hi (Nat.not_lt_zero i)⟩ rfl rfl (fun j hj ih => ?_)
    obtain ⟨hj, hw⟩ := hj
    try dsimp only at hj ih ⊢
    refine ww_iload_n (i := 2) C dX11_said_28 rfl rfl 29 rfl ?_
    refine ww_aload_n (i := 0) C dX11_said_29 rfl rfl 30 rfl ?_
    refine ww_get C fe_X11_189 dX11_said_30 0 rfl rfl 33 rfl ?_
    rw [show upd I 0 0 7 = nI m9 from h7]
    refine ww_icmp_ge C 65 dX11_said_33 (by decide) 36 rfl (fun h_33 => ?_) (fun h_33 => ?_)
    · skip
      obtain rfl : j = m9 := eqN h_33 hj (by omega)
      refine ww_ldc C cn_X11_100 dX11_said_65 67 rfl ?_
      exact ww_iret C hr dX11_said_67 rfl rfl
    · skip
      have hlt : j < m9 := ltN h_33 (by omega) (by omega)
      refine ww_aload_n (i := 0) C dX11_said_36 rfl rfl 37 rfl ?_
      refine ww_iload_n (i := 2) C dX11_said_37 rfl rfl 38 rfl ?_
      refine ww_callV1p C (c_X11_isTrue l Γ (t := tn j) (by omega) (ht j hlt).1 (ht j hlt).2 (hrel j hlt)) mi_X11_isTrue im_X11_isTrue se_X11_isTrue ml_X11_192 dX11_said_38 0 rfl rfl rfl (Nat.le_of_ble_eq_true rfl) (Nat.le_of_ble_eq_true rfl) (Nat.le_of_ble_eq_true rfl) ⟨Nat.zero_le _, Nat.zero_le _⟩ [0, 1, 2, 3] rfl (by decide) 41 rfl ?_
      refine ww_if_eq C 59 dX11_said_41 (by decide) 44 rfl (fun h_41 => ?_) (fun h_41 => ?_)
      · skip
        refine ww_iinc (y := 1) C dX11_said_59 rfl (by decide) (by decide) rfl 62 rfl ?_
        refine ww_goto C 28 dX11_said_62 (by decide) ?_
        refine ww_eq rfl (by rw [nI_succ j]; rfl) rfl (ih (j + 1) ⟨by omega, fun i hi => ?_⟩ (by omega))
        rcases Nat.lt_or_ge i j with z | z
        · exact hw i z
        · obtain rfl : i = j := by omega
          exact Bool.eq_false_iff.mpr (bI_e0 h_41)
      · skip
        exact absurd (bI_n0 h_41) (by rw [h0 j hlt]; decide)
  · exact absurd (show ¬ k9.toInt64 < Int32.toInt64 0 ∧ ¬ Int32.toInt64 1 < k9.toInt64 by rcases hk with q | q <;> rw [q] <;> decide) (bI_e0 h_12)
theorem c_X11_said_ok (l : Launch) (Γ : Gm) {hm : Nat} {q : Nat → Nat} {I : Nat → Int32} {n m9 : Nat} {k9 : Int32} {pl te ts sy wd fi se : Nat → Int32} {tn : Nat → Nat} {r : Nat} (hc : I 5 = nI n) (hn : n < 65536) (h7 : I 7 = nI m9) (hm9 : m9 ≤ 15) (ht : ∀ r, r < m9 → te r = nI (tn r) ∧ tn r ≤ 4) (hrel : ∀ r, r < m9 → RlR wd fi se ts r (tn r)) (hk : k9 = 0 ∨ k9 = 1) (hr9 : r < m9) (h1 : s_tr wd fi se r (lN (CH n)) (tn r) = true) (h0 : ∀ j, j < r → s_tr wd fi se j (lN (CH n)) (tn j) = false) : Ct l Γ yX11_said cX11_said 3 (some .int) 4 [.ref hm, .int k9] ([wMo hm q (I), (q 6, .inl (Γ.2.1, 16, .inl (pl))), (q 8, .inl (Γ.2.1, 15, .inl (te))), (q 9, .inl (Γ.2.1, 180, .inl (ts))), (q 10, .inl (Γ.2.1, 15, .inl (sy)))]) (some (.int (if k9 = 0 then sy r else nI r))) ([wMo hm q (upd I 0 (0)), (q 6, .inl (Γ.2.1, 16, .inl (s_lay pl n))), (q 8, .inl (Γ.2.1, 15, .inl (te))), (q 9, .inl (Γ.2.1, 180, .inl (ts))), (q 10, .inl (Γ.2.1, 15, .inl (sy)))]) := by
  refine Ct.of mi_X11_said [some (.ref hm), some (.int k9), none] 1 rfl (Nat.le_of_ble_eq_true rfl) ?_
  intro p e s m args below meth c C hr
  refine ww_aload_n (i := 0) C dX11_said_0 rfl rfl 1 rfl ?_
  refine ww_iconst (v := 0) C dX11_said_1 (by decide) 2 rfl ?_
  refine ww_mput_0 C fe_X11_52 dX11_said_2 5 rfl ?_
  refine ww_iload_n (i := 1) C dX11_said_5 rfl rfl 6 rfl ?_
  refine ww_i2l C dX11_said_6 7 rfl ?_
  refine ww_lconst (v := 0) C dX11_said_7 (by decide) 8 rfl ?_
  refine ww_lconst (v := 1) C dX11_said_8 (by decide) 9 rfl ?_
  refine ww_callS3p C (c_X11_in l Γ) mi_X11_in st_X11_in ml_X11_62 dX11_said_9 (Nat.le_of_ble_eq_true rfl) (Nat.le_of_ble_eq_true rfl) (Nat.le_of_ble_eq_true rfl) ⟨Nat.zero_le _, Nat.zero_le _⟩ [] rfl (by decide) 12 rfl ?_
  refine ww_if_ne C 18 dX11_said_12 (by decide) 15 rfl (fun h_12 => ?_) (fun h_12 => ?_)
  · skip
    refine ww_aload_n (i := 0) C dX11_said_18 rfl rfl 19 rfl ?_
    refine ww_aload_n (i := 0) C dX11_said_19 rfl rfl 20 rfl ?_
    refine ww_get C fe_X11_81 dX11_said_20 0 rfl rfl 23 rfl ?_
    rw [show upd I 0 0 5 = nI n from hc]
    refine ww_callV1v C (c_X11_lay l Γ hn) mi_X11_lay im_X11_lay se_X11_lay ml_X11_86 dX11_said_23 0 rfl rfl rfl (Nat.le_of_ble_eq_true rfl) (Nat.le_of_ble_eq_true rfl) (Nat.le_of_ble_eq_true rfl) ⟨Nat.zero_le _, Nat.zero_le _⟩ [0, 1] rfl (by decide) rfl 26 rfl ?_
    refine ww_eq (ws' := [wMo hm q (upd I 0 (0)), (q 6, .inl (Γ.2.1, 16, .inl (s_lay pl n))), (q 8, .inl (Γ.2.1, 15, .inl (te))), (q 9, .inl (Γ.2.1, 180, .inl (ts))), (q 10, .inl (Γ.2.1, 15, .inl (sy)))]) rfl rfl rfl ?_
    refine ww_iconst (v := 0) C dX11_said_26 (by decide) 27 rfl ?_
    refine ww_istore_n (i := 2) C dX11_said_27 rfl (by decide) rfl 28 rfl ?_
    refine ww_loop (fun j : Nat => m9 - j) (fun j => j ≤ m9 ∧ ∀ i, i < j → s_tr wd fi se i (lN (CH n)) (tn i) = false) (fun _ => [wMo hm q (upd I 0 (0)), (q 6, .inl (Γ.2.1, 16, .inl (s_lay pl n))), (q 8, .inl (Γ.2.1, 15, .inl (te))), (q 9, .inl (Γ.2.1, 180, .inl (ts))), (q 10, .inl (Γ.2.1, 15, .inl (sy)))]) (fun j => [some (.ref hm), some (.int k9), some (.int (nI j))]) (0 : Nat) ⟨Nat.zero_le _, fun i hi => absurd hi (Nat.not_lt_zero i)⟩ rfl rfl (fun j hj ih => ?_)
    obtain ⟨hj, hw⟩ := hj
    try dsimp only at hj ih ⊢
    refine ww_iload_n (i := 2) C dX11_said_28 rfl rfl 29 rfl ?_
    refine ww_aload_n (i := 0) C dX11_said_29 rfl rfl 30 rfl ?_
    refine ww_get C fe_X11_189 dX11_said_30 0 rfl rfl 33 rfl ?_
    rw [show upd I 0 0 7 = nI m9 from h7]
    refine ww_icmp_ge C 65 dX11_said_33 (by decide) 36 rfl (fun h_33 => ?_) (fun h_33 => ?_)
    · skip
      obtain rfl : j = m9 := eqN h_33 hj (by omega)
      exact absurd h1 (by rw [hw r hr9]; decide)
    · skip
      have hlt : j < m9 := ltN h_33 (by omega) (by omega)
      refine ww_aload_n (i := 0) C dX11_said_36 rfl rfl 37 rfl ?_
      refine ww_iload_n (i := 2) C dX11_said_37 rfl rfl 38 rfl ?_
      refine ww_callV1p C (c_X11_isTrue l Γ (t := tn j) (by omega) (ht j hlt).1 (ht j hlt).2 (hrel j hlt)) mi_X11_isTrue im_X11_isTrue se_X11_isTrue ml_X11_192 dX11_said_38 0 rfl rfl rfl (Nat.le_of_ble_eq_true rfl) (Nat.le_of_ble_eq_true rfl) (Nat.le_of_ble_eq_true rfl) ⟨Nat.zero_le _, Nat.zero_le _⟩ [0, 1, 2, 3] rfl (by decide) 41 rfl ?_
      refine ww_if_eq C 59 dX11_said_41 (by decide) 44 rfl (fun h_41 => ?_) (fun h_41 => ?_)
      · skip
        refine ww_iinc (y := 1) C dX11_said_59 rfl (by decide) (by decide) rfl 62 rfl ?_
        refine ww_goto C 28 dX11_said_62 (by decide) ?_
        refine ww_eq rfl (by rw [nI_succ j]; rfl) rfl (ih (j + 1) ⟨by omega, fun i hi => ?_⟩ (by omega))
        rcases Nat.lt_or_ge i j with z | z
        · exact hw i z
        · obtain rfl : i = j := by omega
          exact Bool.eq_false_iff.mpr (bI_e0 h_41)
      · skip
        obtain rfl : j = r := by
          rcases Nat.lt_or_ge j r with z | z
          · exact absurd (bI_n0 h_41) (by rw [h0 j z]; decide)
          · rcases Nat.lt_or_ge r j with z2 | z2
            · exact absurd h1 (by rw [hw r z2]; decide)
            · omega
        refine ww_iload_n (i := 1) C dX11_said_44 rfl rfl 45 rfl ?_
        refine ww_if_ne C 57 dX11_said_45 (by decide) 48 rfl (fun h_45 => ?_) (fun h_45 => ?_)
        · skip
          refine ww_iload_n (i := 2) C dX11_said_57 rfl rfl 58 rfl ?_
          exact ww_iret C hr dX11_said_58 (by first | rw [if_neg h_45] | rw [if_pos h_45, nI_clamp (show j < 2 ^ 31 by omega)]) rfl
        · skip
          refine ww_aload_n (i := 0) C dX11_said_48 rfl rfl 49 rfl ?_
          refine ww_get C fe_X11_28 dX11_said_49 0 rfl rfl 52 rfl ?_
          refine ww_iload_n (i := 2) C dX11_said_52 rfl rfl 53 rfl ?_
          refine ww_iald C dX11_said_53 4 rfl (vp_in_nI (by omega) (by decide)) 54 rfl ?_
          refine ww_goto C 58 dX11_said_54 (by decide) ?_
          exact ww_iret C hr dX11_said_58 (by first | rw [if_neg h_45] | rw [if_pos h_45, nI_clamp (show j < 2 ^ 31 by omega)]) rfl
  · exact absurd (show ¬ k9.toInt64 < Int32.toInt64 0 ∧ ¬ Int32.toInt64 1 < k9.toInt64 by rcases hk with q | q <;> rw [q] <;> decide) (bI_e0 h_12)
/-- the row of places when k cases have been laid -/
def pz (pl : Nat → Int32) (cn : Nat → Nat) : Nat → (Nat → Int32)
  | 0 => pl
  | k + 1 => s_lay pl (cn k)
theorem pz_lay (pl : Nat → Int32) (cn : Nat → Nat) (k m : Nat) : s_lay (pz pl cn k) m = s_lay pl m := by
  cases k with
  | zero => rfl
  | succ k => exact s_lay_2 pl _ _
theorem pz_2 (pl : Nat → Int32) (cn : Nat → Nat) (z : Nat) : pz (pz pl cn z) cn z = pz pl cn z := by
  cases z with
  | zero => rfl
  | succ z => exact s_lay_2 pl _ _
set_option maxHeartbeats 1000000 in
theorem c_X11_holdsIn (l : Launch) (Γ : Gm) {hm : Nat} {q : Nat → Nat} {I : Nat → Int32} {z r t : Nat} {pl te ts cc0 en wd fi se : Nat → Int32} {cn : Nat → Nat} {k9 : Int32} (h25 : I 25 = nI z) (hz : z ≤ 100) (hcc : ∀ k, k < z → cc0 k = nI (cn k) ∧ cn k < 65536) (hr9 : r < 15) (ht : te r = nI t) (h4 : t ≤ 4) (hrel : RlR wd fi se ts r t)  : Ct l Γ yX11_holdsIn cX11_holdsIn 5 (some .int) 2 [.ref hm, .int (nI r), .int k9] ([wMo hm q (I), (q 6, .inl (Γ.2.1, 16, .inl (pl))), (q 8, .inl (Γ.2.1, 15, .inl (te))), (q 9, .inl (Γ.2.1, 180, .inl (ts))), (q 26, .inl (Γ.2.1, 100, .inl (cc0))), (q 27, .inl (Γ.2.1, 100, .inl (en)))]) (some (.int (s_cnt en (fun k => s_tr wd fi se r (lN (CH (cn k))) t) k9 z))) ([wMo hm q (I), (q 6, .inl (Γ.2.1, 16, .inl (pz pl cn z))), (q 8, .inl (Γ.2.1, 15, .inl (te))), (q 9, .inl (Γ.2.1, 180, .inl (ts))), (q 26, .inl (Γ.2.1, 100, .inl (cc0))), (q 27, .inl (Γ.2.1, 100, .inl (en)))]) := by
  refine Ct.of mi_X11_holdsIn [some (.ref hm), some (.int (nI r)), some (.int k9), none, none] 2 rfl (Nat.le_of_ble_eq_true rfl) ?_
  intro p e s m args below meth c C hr
  refine ww_iconst (v := 0) C dX11_holdsIn_0 (by decide) 1 rfl ?_
  refine ww_istore_n (i := 3) C dX11_holdsIn_1 rfl (by decide) rfl 2 rfl ?_
  refine ww_iconst (v := 0) C dX11_holdsIn_2 (by decide) 3 rfl ?_
  refine ww_istore C dX11_holdsIn_3 (by decide) rfl 5 rfl ?_
  refine ww_loop (fun k : Nat => z - k) (fun k => k ≤ z) (fun k => [wMo hm q (I), (q 6, .inl (Γ.2.1, 16, .inl (pz pl cn k))), (q 8, .inl (Γ.2.1, 15, .inl (te))), (q 9, .inl (Γ.2.1, 180, .inl (ts))), (q 26, .inl (Γ.2.1, 100, .inl (cc0))), (q 27, .inl (Γ.2.1, 100, .inl (en)))]) (fun k => [some (.ref hm), some (.int (nI r)), some (.int k9), some (.int (s_cnt en (fun k => s_tr wd fi se r (lN (CH (cn k))) t) k9 k)), some (.int (nI k))]) (0 : Nat) (Nat.zero_le _) rfl rfl (fun k hk ih => ?_)
  try dsimp only at hk ih ⊢
  refine ww_iload C dX11_holdsIn_5 rfl 7 rfl ?_
  refine ww_aload_n (i := 0) C dX11_holdsIn_7 rfl rfl 8 rfl ?_
  refine ww_get C fe_X11_198 dX11_holdsIn_8 0 rfl rfl 11 rfl ?_
  rw [h25]
  refine ww_icmp_ge C 58 dX11_holdsIn_11 (by decide) 14 rfl (fun h_11 => ?_) (fun h_11 => ?_)
  · skip
    obtain rfl : k = z := eqN h_11 hk (by omega)
    refine ww_iload_n (i := 3) C dX11_holdsIn_58 rfl rfl 59 rfl ?_
    exact ww_iret C hr dX11_holdsIn_59 rfl rfl
  · skip
    have hlt : k < z := ltN h_11 (by omega) (by omega)
    have ek : (nI k).toNatClampNeg = k := nI_clamp (by omega)
    refine ww_aload_n (i := 0) C dX11_holdsIn_14 rfl rfl 15 rfl ?_
    refine ww_aload_n (i := 0) C dX11_holdsIn_15 rfl rfl 16 rfl ?_
    refine ww_get C fe_X11_43 dX11_holdsIn_16 0 rfl rfl 19 rfl ?_
    refine ww_iload C dX11_holdsIn_19 rfl 21 rfl ?_
    refine ww_iald C dX11_holdsIn_21 4 rfl (vp_in_nI (by omega) (by decide)) 22 rfl ?_
    rw [ek, (hcc k hlt).1]
    refine ww_callV1v C (c_X11_lay l Γ (hcc k hlt).2) mi_X11_lay im_X11_lay se_X11_lay ml_X11_86 dX11_holdsIn_22 0 rfl rfl rfl (Nat.le_of_ble_eq_true rfl) (Nat.le_of_ble_eq_true rfl) (Nat.le_of_ble_eq_true rfl) ⟨Nat.zero_le _, Nat.zero_le _⟩ [0, 1] rfl (by decide) rfl 25 rfl ?_
    refine ww_eq (ws' := [wMo hm q (I), (q 6, .inl (Γ.2.1, 16, .inl (s_lay pl (cn k)))), (q 8, .inl (Γ.2.1, 15, .inl (te))), (q 9, .inl (Γ.2.1, 180, .inl (ts))), (q 26, .inl (Γ.2.1, 100, .inl (cc0))), (q 27, .inl (Γ.2.1, 100, .inl (en)))]) (by rw [pz_lay]; rfl) rfl rfl ?_
    refine ww_iload_n (i := 3) C dX11_holdsIn_25 rfl rfl 26 rfl ?_
    refine ww_aload_n (i := 0) C dX11_holdsIn_26 rfl rfl 27 rfl ?_
    refine ww_get C fe_X11_46 dX11_holdsIn_27 0 rfl rfl 30 rfl ?_
    refine ww_iload C dX11_holdsIn_30 rfl 32 rfl ?_
    refine ww_iald C dX11_holdsIn_32 5 rfl (vp_in_nI (by omega) (by decide)) 33 rfl ?_
    rw [ek]
    refine ww_iload_n (i := 2) C dX11_holdsIn_33 rfl rfl 34 rfl ?_
    refine ww_icmp_ne C 49 dX11_holdsIn_34 (by decide) 37 rfl (fun h_34 => ?_) (fun h_34 => ?_)
    · skip
      refine ww_iconst (v := 0) C dX11_holdsIn_49 (by decide) 50 rfl ?_
      refine ww_iadd C dX11_holdsIn_50 51 rfl ?_
      refine ww_istore_n (i := 3) C dX11_holdsIn_51 rfl (by decide) rfl 52 rfl ?_
      refine ww_iinc (y := 1) C dX11_holdsIn_52 rfl (by decide) (by decide) rfl 55 rfl ?_
      refine ww_goto C 5 dX11_holdsIn_55 (by decide) ?_
      refine ww_eq rfl ?_ rfl (ih (k + 1) (by omega) (by omega))
      rw [s_cnt, nI_succ k]
      first
        | (rw [if_pos ⟨h_34, bI_n0 h_42⟩]; rfl)
        | (rw [if_neg (fun y => bI_e0 h_42 y.2), Int32.add_zero]; rfl)
        | (rw [if_neg (fun y => h_34 y.1), Int32.add_zero]; rfl)
    · skip
      refine ww_aload_n (i := 0) C dX11_holdsIn_37 rfl rfl 38 rfl ?_
      refine ww_iload_n (i := 1) C dX11_holdsIn_38 rfl rfl 39 rfl ?_
      refine ww_callV1p C (c_X11_isTrue l Γ hr9 ht h4 hrel) mi_X11_isTrue im_X11_isTrue se_X11_isTrue ml_X11_192 dX11_holdsIn_39 0 rfl rfl rfl (Nat.le_of_ble_eq_true rfl) (Nat.le_of_ble_eq_true rfl) (Nat.le_of_ble_eq_true rfl) ⟨Nat.zero_le _, Nat.zero_le _⟩ [0, 1, 2, 3] rfl (by decide) 42 rfl ?_
      refine ww_if_eq C 49 dX11_holdsIn_42 (by decide) 45 rfl (fun h_42 => ?_) (fun h_42 => ?_)
      · skip
        refine ww_iconst (v := 0) C dX11_holdsIn_49 (by decide) 50 rfl ?_
        refine ww_iadd C dX11_holdsIn_50 51 rfl ?_
        refine ww_istore_n (i := 3) C dX11_holdsIn_51 rfl (by decide) rfl 52 rfl ?_
        refine ww_iinc (y := 1) C dX11_holdsIn_52 rfl (by decide) (by decide) rfl 55 rfl ?_
        refine ww_goto C 5 dX11_holdsIn_55 (by decide) ?_
        refine ww_eq rfl ?_ rfl (ih (k + 1) (by omega) (by omega))
        rw [s_cnt, nI_succ k]
        first
          | (rw [if_pos ⟨h_34, bI_n0 h_42⟩]; rfl)
          | (rw [if_neg (fun y => bI_e0 h_42 y.2), Int32.add_zero]; rfl)
          | (rw [if_neg (fun y => h_34 y.1), Int32.add_zero]; rfl)
      · skip
        refine ww_iconst (v := 1) C dX11_holdsIn_45 (by decide) 46 rfl ?_
        refine ww_goto C 50 dX11_holdsIn_46 (by decide) ?_
        refine ww_iadd C dX11_holdsIn_50 51 rfl ?_
        refine ww_istore_n (i := 3) C dX11_holdsIn_51 rfl (by decide) rfl 52 rfl ?_
        refine ww_iinc (y := 1) C dX11_holdsIn_52 rfl (by decide) (by decide) rfl 55 rfl ?_
        refine ww_goto C 5 dX11_holdsIn_55 (by decide) ?_
        refine ww_eq rfl ?_ rfl (ih (k + 1) (by omega) (by omega))
        rw [s_cnt, nI_succ k]
        first
          | (rw [if_pos ⟨h_34, bI_n0 h_42⟩]; rfl)
          | (rw [if_neg (fun y => bI_e0 h_42 y.2), Int32.add_zero]; rfl)
          | (rw [if_neg (fun y => h_34 y.1), Int32.add_zero]; rfl)
def s_wv1 (en al : Nat → Int32) (P : Nat → Bool) (z : Nat) : Int32 := s_cnt en P 1 z * (al 0 + al 1) - (s_cnt en P 1 z + s_cnt en P 0 z) * al 1
theorem s_wv_1 (en al : Nat → Int32) (P : Nat → Nat → Bool) (z r : Nat) : s_wv1 en al (P r) z = s_wv en al P z r := rfl
theorem c_X11_worthOf (l : Launch) (Γ : Gm) {hm : Nat} {q : Nat → Nat} {I : Nat → Int32} {z r t : Nat} {pl te ts cc0 en wd fi se : Nat → Int32} {cn : Nat → Nat} (h25 : I 25 = nI z) (hz : z ≤ 100) (hcc : ∀ k, k < z → cc0 k = nI (cn k) ∧ cn k < 65536) (hr9 : r < 15) (ht : te r = nI t) (h4 : t ≤ 4) (hrel : RlR wd fi se ts r t)  : Ct l Γ yX11_worthOf cX11_worthOf 4 (some .int) 3 [.ref hm, .int (nI r)] ([wMo hm q (I), (q 6, .inl (Γ.2.1, 16, .inl (pl))), (q 8, .inl (Γ.2.1, 15, .inl (te))), (q 9, .inl (Γ.2.1, 180, .inl (ts))), (q 26, .inl (Γ.2.1, 100, .inl (cc0))), (q 27, .inl (Γ.2.1, 100, .inl (en)))]) (some (.int (s_wv1 en (fun c => s_cnt en (fun _ => true) (nI c) z) (fun k => s_tr wd fi se r (lN (CH (cn k))) t) z))) ([wMo hm q (I), (q 6, .inl (Γ.2.1, 16, .inl (pz pl cn z))), (q 8, .inl (Γ.2.1, 15, .inl (te))), (q 9, .inl (Γ.2.1, 180, .inl (ts))), (q 26, .inl (Γ.2.1, 100, .inl (cc0))), (q 27, .inl (Γ.2.1, 100, .inl (en)))]) := by
  refine Ct.of mi_X11_worthOf [some (.ref hm), some (.int (nI r)), none, none] 2 rfl (Nat.le_of_ble_eq_true rfl) ?_
  intro p e s m args below meth c C hr
  refine ww_aload_n (i := 0) C dX11_worthOf_0 rfl rfl 1 rfl ?_
  refine ww_iload_n (i := 1) C dX11_worthOf_1 rfl rfl 2 rfl ?_
  refine ww_iconst (v := 1) C dX11_worthOf_2 (by decide) 3 rfl ?_
  refine ww_callV2 C (c_X11_holdsIn l Γ h25 hz hcc hr9 ht h4 hrel) mi_X11_holdsIn im_X11_holdsIn se_X11_holdsIn ml_X11_201 dX11_worthOf_3 0 rfl rfl rfl (Nat.le_of_ble_eq_true rfl) (Nat.le_of_ble_eq_true rfl) (Nat.le_of_ble_eq_true rfl) ⟨Nat.zero_le _, Nat.zero_le _⟩ [0, 1, 2, 3, 4, 5] rfl (by decide) rfl 6 rfl ?_
  refine ww_eq (ws' := [wMo hm q (I), (q 6, .inl (Γ.2.1, 16, .inl (pz pl cn z))), (q 8, .inl (Γ.2.1, 15, .inl (te))), (q 9, .inl (Γ.2.1, 180, .inl (ts))), (q 26, .inl (Γ.2.1, 100, .inl (cc0))), (q 27, .inl (Γ.2.1, 100, .inl (en)))]) rfl rfl rfl ?_
  refine ww_istore_n (i := 2) C dX11_worthOf_6 rfl (by decide) rfl 7 rfl ?_
  refine ww_aload_n (i := 0) C dX11_worthOf_7 rfl rfl 8 rfl ?_
  refine ww_iload_n (i := 1) C dX11_worthOf_8 rfl rfl 9 rfl ?_
  refine ww_iconst (v := 0) C dX11_worthOf_9 (by decide) 10 rfl ?_
  refine ww_callV2 C (c_X11_holdsIn l Γ h25 hz hcc hr9 ht h4 hrel) mi_X11_holdsIn im_X11_holdsIn se_X11_holdsIn ml_X11_201 dX11_worthOf_10 0 rfl rfl rfl (Nat.le_of_ble_eq_true rfl) (Nat.le_of_ble_eq_true rfl) (Nat.le_of_ble_eq_true rfl) ⟨Nat.zero_le _, Nat.zero_le _⟩ [0, 1, 2, 3, 4, 5] rfl (by decide) rfl 13 rfl ?_
  refine ww_eq (ws' := [wMo hm q (I), (q 6, .inl (Γ.2.1, 16, .inl (pz pl cn z))), (q 8, .inl (Γ.2.1, 15, .inl (te))), (q 9, .inl (Γ.2.1, 180, .inl (ts))), (q 26, .inl (Γ.2.1, 100, .inl (cc0))), (q 27, .inl (Γ.2.1, 100, .inl (en)))]) (by rw [pz_2 pl cn z]; rfl) rfl rfl ?_
  refine ww_istore_n (i := 3) C dX11_worthOf_13 rfl (by decide) rfl 14 rfl ?_
  refine ww_iload_n (i := 2) C dX11_worthOf_14 rfl rfl 15 rfl ?_
  refine ww_aload_n (i := 0) C dX11_worthOf_15 rfl rfl 16 rfl ?_
  refine ww_iconst (v := 0) C dX11_worthOf_16 (by decide) 17 rfl ?_
  refine ww_callV1p C (c_X11_cameSo l Γ h25 hz) mi_X11_cameSo im_X11_cameSo se_X11_cameSo ml_X11_204 dX11_worthOf_17 0 rfl rfl rfl (Nat.le_of_ble_eq_true rfl) (Nat.le_of_ble_eq_true rfl) (Nat.le_of_ble_eq_true rfl) ⟨Nat.zero_le _, Nat.zero_le _⟩ [0, 5] rfl (by decide) 20 rfl ?_
  refine ww_aload_n (i := 0) C dX11_worthOf_20 rfl rfl 21 rfl ?_
  refine ww_iconst (v := 1) C dX11_worthOf_21 (by decide) 22 rfl ?_
  refine ww_callV1p C (c_X11_cameSo l Γ h25 hz) mi_X11_cameSo im_X11_cameSo se_X11_cameSo ml_X11_204 dX11_worthOf_22 0 rfl rfl rfl (Nat.le_of_ble_eq_true rfl) (Nat.le_of_ble_eq_true rfl) (Nat.le_of_ble_eq_true rfl) ⟨Nat.zero_le _, Nat.zero_le _⟩ [0, 5] rfl (by decide) 25 rfl ?_
  refine ww_iadd C dX11_worthOf_25 26 rfl ?_
  refine ww_imul C dX11_worthOf_26 27 rfl ?_
  refine ww_iload_n (i := 2) C dX11_worthOf_27 rfl rfl 28 rfl ?_
  refine ww_iload_n (i := 3) C dX11_worthOf_28 rfl rfl 29 rfl ?_
  refine ww_iadd C dX11_worthOf_29 30 rfl ?_
  refine ww_aload_n (i := 0) C dX11_worthOf_30 rfl rfl 31 rfl ?_
  refine ww_iconst (v := 1) C dX11_worthOf_31 (by decide) 32 rfl ?_
  refine ww_callV1p C (c_X11_cameSo l Γ h25 hz) mi_X11_cameSo im_X11_cameSo se_X11_cameSo ml_X11_204 dX11_worthOf_32 0 rfl rfl rfl (Nat.le_of_ble_eq_true rfl) (Nat.le_of_ble_eq_true rfl) (Nat.le_of_ble_eq_true rfl) ⟨Nat.zero_le _, Nat.zero_le _⟩ [0, 5] rfl (by decide) 35 rfl ?_
  refine ww_imul C dX11_worthOf_35 36 rfl ?_
  refine ww_isub C dX11_worthOf_36 37 rfl ?_
  exact ww_iret C hr dX11_worthOf_37 rfl rfl
theorem c_X11_worth_bad (l : Launch) (Γ : Gm) {hm : Nat} {q : Nat → Nat} {I : Nat → Int32} {m9 : Nat} {x k9 : Int32} (h7 : I 7 = nI m9) (hm9 : m9 ≤ 15) (hb : ¬ (¬ x < 0 ∧ ¬ nI m9 ≤ x) ∨ k9 < 0 ∨ ¬ k9 ≤ 3) : Ct l Γ yX11_worth cX11_worth 3 (some .int) 4 [.ref hm, .int x, .int k9] ([wMo hm q (I)]) (some (.int (-1000001))) ([wMo hm q (upd I 0 (0))]) := by
  refine Ct.of mi_X11_worth [some (.ref hm), some (.int x), some (.int k9)] 0 rfl (Nat.le_of_ble_eq_true rfl) ?_
  intro p e s m args below meth c C hr
  refine ww_aload_n (i := 0) C dX11_worth_0 rfl rfl 1 rfl ?_
  refine ww_iconst (v := 0) C dX11_worth_1 (by decide) 2 rfl ?_
  refine ww_mput_0 C fe_X11_52 dX11_worth_2 5 rfl ?_
  refine ww_aload_n (i := 0) C dX11_worth_5 rfl rfl 6 rfl ?_
  refine ww_iload_n (i := 1) C dX11_worth_6 rfl rfl 7 rfl ?_
  refine ww_callV1p C (c_X11_isRule l Γ (I := upd I 0 0) h7 hm9) mi_X11_isRule im_X11_isRule se_X11_isRule ml_X11_195 dX11_worth_7 0 rfl rfl rfl (Nat.le_of_ble_eq_true rfl) (Nat.le_of_ble_eq_true rfl) (Nat.le_of_ble_eq_true rfl) ⟨Nat.zero_le _, Nat.zero_le _⟩ [0] rfl (by decide) 10 rfl ?_
  refine ww_if_eq C 25 dX11_worth_10 (by decide) 13 rfl (fun h_10 => ?_) (fun h_10 => ?_)
  · skip
    refine ww_ldc C cn_X11_72 dX11_worth_25 27 rfl ?_
    exact ww_iret C hr dX11_worth_27 rfl rfl
  · skip
    refine ww_iload_n (i := 2) C dX11_worth_13 rfl rfl 14 rfl ?_
    refine ww_i2l C dX11_worth_14 15 rfl ?_
    refine ww_lconst (v := 0) C dX11_worth_15 (by decide) 16 rfl ?_
    refine ww_ldc2 C cn_X11_207 dX11_worth_16 19 rfl ?_
    refine ww_callS3p C (c_X11_in l Γ) mi_X11_in st_X11_in ml_X11_62 dX11_worth_19 (Nat.le_of_ble_eq_true rfl) (Nat.le_of_ble_eq_true rfl) (Nat.le_of_ble_eq_true rfl) ⟨Nat.zero_le _, Nat.zero_le _⟩ [] rfl (by decide) 22 rfl ?_
    refine ww_if_ne C 28 dX11_worth_22 (by decide) 25 rfl (fun h_22 => ?_) (fun h_22 => ?_)
    · exact absurd hb (fun q => q.elim (fun z => z (bI_n0 h_10)) (fun z => z.elim (fun y => (bI_n0 h_22).1 ((i64_lt (x := k9) (y := 0)).mpr y)) (fun y => (bI_n0 h_22).2 ((i64_lt (x := 3) (y := k9)).mpr (Int32.not_le.mp y)))))
    · skip
      refine ww_ldc C cn_X11_72 dX11_worth_25 27 rfl ?_
      exact ww_iret C hr dX11_worth_27 rfl rfl
def m_wor (en : Nat → Int32) (P : Nat → Bool) (z : Nat) (k : Int32) : Int32 := if k = 0 then s_cnt en P 0 z + s_cnt en P 1 z + s_cnt en P 2 z else if k = 1 then s_cnt en P 1 z else if k = 2 then s_cnt en P 0 z else s_cnt en P 1 z * (s_cnt en (fun _ => true) 0 z + s_cnt en (fun _ => true) 1 z) - (s_cnt en P 1 z + s_cnt en P 0 z) * s_cnt en (fun _ => true) 1 z
set_option maxHeartbeats 1000000 in
theorem c_X11_worth_ok (l : Launch) (Γ : Gm) {hm : Nat} {q : Nat → Nat} {I : Nat → Int32} {z r t : Nat} {pl te ts cc0 en wd fi se : Nat → Int32} {cn : Nat → Nat} {m9 : Nat} {k9 : Int32} (h7 : I 7 = nI m9) (hm9 : m9 ≤ 15) (h25 : I 25 = nI z) (hz : z ≤ 100) (hcc : ∀ k, k < z → cc0 k = nI (cn k) ∧ cn k < 65536) (hr9 : r < m9) (ht : te r = nI t) (h4 : t ≤ 4) (hrel : RlR wd fi se ts r t) (hk : ¬ k9 < 0 ∧ k9 ≤ 3) : Ct l Γ yX11_worth cX11_worth 3 (some .int) 4 [.ref hm, .int (nI r), .int k9] ([wMo hm q (I), (q 6, .inl (Γ.2.1, 16, .inl (pl))), (q 8, .inl (Γ.2.1, 15, .inl (te))), (q 9, .inl (Γ.2.1, 180, .inl (ts))), (q 26, .inl (Γ.2.1, 100, .inl (cc0))), (q 27, .inl (Γ.2.1, 100, .inl (en)))]) (some (.int (m_wor en (fun k => s_tr wd fi se r (lN (CH (cn k))) t) z k9))) ([wMo hm q (upd I 0 (0)), (q 6, .inl (Γ.2.1, 16, .inl (pz pl cn z))), (q 8, .inl (Γ.2.1, 15, .inl (te))), (q 9, .inl (Γ.2.1, 180, .inl (ts))), (q 26, .inl (Γ.2.1, 100, .inl (cc0))), (q 27, .inl (Γ.2.1, 100, .inl (en)))]) := by
  refine Ct.of mi_X11_worth [some (.ref hm), some (.int (nI r)), some (.int k9)] 0 rfl (Nat.le_of_ble_eq_true rfl) ?_
  intro p e s m args below meth c C hr
  refine ww_aload_n (i := 0) C dX11_worth_0 rfl rfl 1 rfl ?_
  refine ww_iconst (v := 0) C dX11_worth_1 (by decide) 2 rfl ?_
  refine ww_mput_0 C fe_X11_52 dX11_worth_2 5 rfl ?_
  refine ww_aload_n (i := 0) C dX11_worth_5 rfl rfl 6 rfl ?_
  refine ww_iload_n (i := 1) C dX11_worth_6 rfl rfl 7 rfl ?_
  refine ww_callV1p C (c_X11_isRule l Γ (I := upd I 0 0) h7 hm9) mi_X11_isRule im_X11_isRule se_X11_isRule ml_X11_195 dX11_worth_7 0 rfl rfl rfl (Nat.le_of_ble_eq_true rfl) (Nat.le_of_ble_eq_true rfl) (Nat.le_of_ble_eq_true rfl) ⟨Nat.zero_le _, Nat.zero_le _⟩ [0] rfl (by decide) 10 rfl ?_
  refine ww_if_eq C 25 dX11_worth_10 (by decide) 13 rfl (fun h_10 => ?_) (fun h_10 => ?_)
  · exact absurd (⟨nI_pos (by omega), nI_ge hr9 (by omega)⟩ : ¬ nI r < 0 ∧ ¬ nI m9 ≤ nI r) (bI_e0 h_10)
  · skip
    refine ww_iload_n (i := 2) C dX11_worth_13 rfl rfl 14 rfl ?_
    refine ww_i2l C dX11_worth_14 15 rfl ?_
    refine ww_lconst (v := 0) C dX11_worth_15 (by decide) 16 rfl ?_
    refine ww_ldc2 C cn_X11_207 dX11_worth_16 19 rfl ?_
    refine ww_callS3p C (c_X11_in l Γ) mi_X11_in st_X11_in ml_X11_62 dX11_worth_19 (Nat.le_of_ble_eq_true rfl) (Nat.le_of_ble_eq_true rfl) (Nat.le_of_ble_eq_true rfl) ⟨Nat.zero_le _, Nat.zero_le _⟩ [] rfl (by decide) 22 rfl ?_
    refine ww_if_ne C 28 dX11_worth_22 (by decide) 25 rfl (fun h_22 => ?_) (fun h_22 => ?_)
    · skip
      refine ww_iload_n (i := 2) C dX11_worth_28 rfl rfl 29 rfl ?_
      refine ww_if_ne C 55 dX11_worth_29 (by decide) 32 rfl (fun h_29 => ?_) (fun h_29 => ?_)
      · skip
        refine ww_iload_n (i := 2) C dX11_worth_55 rfl rfl 56 rfl ?_
        refine ww_iconst (v := 1) C dX11_worth_56 (by decide) 57 rfl ?_
        refine ww_icmp_ne C 69 dX11_worth_57 (by decide) 60 rfl (fun h_57 => ?_) (fun h_57 => ?_)
        · skip
          refine ww_iload_n (i := 2) C dX11_worth_69 rfl rfl 70 rfl ?_
          refine ww_iconst (v := 2) C dX11_worth_70 (by decide) 71 rfl ?_
          refine ww_icmp_ne C 83 dX11_worth_71 (by decide) 74 rfl (fun h_71 => ?_) (fun h_71 => ?_)
          · skip
            refine ww_aload_n (i := 0) C dX11_worth_83 rfl rfl 84 rfl ?_
            refine ww_iload_n (i := 1) C dX11_worth_84 rfl rfl 85 rfl ?_
            refine ww_callV1 C (c_X11_worthOf l Γ (I := upd I 0 0) h25 hz hcc (by omega) ht h4 hrel) mi_X11_worthOf im_X11_worthOf se_X11_worthOf ml_X11_209 dX11_worth_85 0 rfl rfl rfl (Nat.le_of_ble_eq_true rfl) (Nat.le_of_ble_eq_true rfl) (Nat.le_of_ble_eq_true rfl) ⟨Nat.zero_le _, Nat.zero_le _⟩ [0, 1, 2, 3, 4, 5] rfl (by decide) rfl 88 rfl ?_
            refine ww_eq (ws' := [wMo hm q (upd I 0 (0)), (q 6, .inl (Γ.2.1, 16, .inl (pz pl cn z))), (q 8, .inl (Γ.2.1, 15, .inl (te))), (q 9, .inl (Γ.2.1, 180, .inl (ts))), (q 26, .inl (Γ.2.1, 100, .inl (cc0))), (q 27, .inl (Γ.2.1, 100, .inl (en)))]) rfl rfl rfl ?_
            exact ww_iret C hr dX11_worth_88 (by first | rw [m_wor, if_pos h_29] | rw [m_wor, if_neg h_29, if_pos h_57] | rw [m_wor, if_neg h_29, if_neg h_57, if_pos h_71] | (rw [m_wor, if_neg h_29, if_neg h_57, if_neg h_71]; rfl)) rfl
          · skip
            refine ww_aload_n (i := 0) C dX11_worth_74 rfl rfl 75 rfl ?_
            refine ww_iload_n (i := 1) C dX11_worth_75 rfl rfl 76 rfl ?_
            refine ww_iconst (v := 0) C dX11_worth_76 (by decide) 77 rfl ?_
            refine ww_callV2 C (c_X11_holdsIn l Γ (I := upd I 0 0) h25 hz hcc (by omega) ht h4 hrel) mi_X11_holdsIn im_X11_holdsIn se_X11_holdsIn ml_X11_201 dX11_worth_77 0 rfl rfl rfl (Nat.le_of_ble_eq_true rfl) (Nat.le_of_ble_eq_true rfl) (Nat.le_of_ble_eq_true rfl) ⟨Nat.zero_le _, Nat.zero_le _⟩ [0, 1, 2, 3, 4, 5] rfl (by decide) rfl 80 rfl ?_
            refine ww_eq (ws' := [wMo hm q (upd I 0 (0)), (q 6, .inl (Γ.2.1, 16, .inl (pz pl cn z))), (q 8, .inl (Γ.2.1, 15, .inl (te))), (q 9, .inl (Γ.2.1, 180, .inl (ts))), (q 26, .inl (Γ.2.1, 100, .inl (cc0))), (q 27, .inl (Γ.2.1, 100, .inl (en)))]) rfl rfl rfl ?_
            refine ww_goto C 88 dX11_worth_80 (by decide) ?_
            exact ww_iret C hr dX11_worth_88 (by first | rw [m_wor, if_pos h_29] | rw [m_wor, if_neg h_29, if_pos h_57] | rw [m_wor, if_neg h_29, if_neg h_57, if_pos h_71] | (rw [m_wor, if_neg h_29, if_neg h_57, if_neg h_71]; rfl)) rfl
        · skip
          refine ww_aload_n (i := 0) C dX11_worth_60 rfl rfl 61 rfl ?_
          refine ww_iload_n (i := 1) C dX11_worth_61 rfl rfl 62 rfl ?_
          refine ww_iconst (v := 1) C dX11_worth_62 (by decide) 63 rfl ?_
          refine ww_callV2 C (c_X11_holdsIn l Γ (I := upd I 0 0) h25 hz hcc (by omega) ht h4 hrel) mi_X11_holdsIn im_X11_holdsIn se_X11_holdsIn ml_X11_201 dX11_worth_63 0 rfl rfl rfl (Nat.le_of_ble_eq_true rfl) (Nat.le_of_ble_eq_true rfl) (Nat.le_of_ble_eq_true rfl) ⟨Nat.zero_le _, Nat.zero_le _⟩ [0, 1, 2, 3, 4, 5] rfl (by decide) rfl 66 rfl ?_
          refine ww_eq (ws' := [wMo hm q (upd I 0 (0)), (q 6, .inl (Γ.2.1, 16, .inl (pz pl cn z))), (q 8, .inl (Γ.2.1, 15, .inl (te))), (q 9, .inl (Γ.2.1, 180, .inl (ts))), (q 26, .inl (Γ.2.1, 100, .inl (cc0))), (q 27, .inl (Γ.2.1, 100, .inl (en)))]) rfl rfl rfl ?_
          refine ww_goto C 88 dX11_worth_66 (by decide) ?_
          exact ww_iret C hr dX11_worth_88 (by first | rw [m_wor, if_pos h_29] | rw [m_wor, if_neg h_29, if_pos h_57] | rw [m_wor, if_neg h_29, if_neg h_57, if_pos h_71] | (rw [m_wor, if_neg h_29, if_neg h_57, if_neg h_71]; rfl)) rfl
      · skip
        refine ww_aload_n (i := 0) C dX11_worth_32 rfl rfl 33 rfl ?_
        refine ww_iload_n (i := 1) C dX11_worth_33 rfl rfl 34 rfl ?_
        refine ww_iconst (v := 0) C dX11_worth_34 (by decide) 35 rfl ?_
        refine ww_callV2 C (c_X11_holdsIn l Γ (I := upd I 0 0) h25 hz hcc (by omega) ht h4 hrel) mi_X11_holdsIn im_X11_holdsIn se_X11_holdsIn ml_X11_201 dX11_worth_35 0 rfl rfl rfl (Nat.le_of_ble_eq_true rfl) (Nat.le_of_ble_eq_true rfl) (Nat.le_of_ble_eq_true rfl) ⟨Nat.zero_le _, Nat.zero_le _⟩ [0, 1, 2, 3, 4, 5] rfl (by decide) rfl 38 rfl ?_
        refine ww_eq (ws' := [wMo hm q (upd I 0 (0)), (q 6, .inl (Γ.2.1, 16, .inl (pz pl cn z))), (q 8, .inl (Γ.2.1, 15, .inl (te))), (q 9, .inl (Γ.2.1, 180, .inl (ts))), (q 26, .inl (Γ.2.1, 100, .inl (cc0))), (q 27, .inl (Γ.2.1, 100, .inl (en)))]) rfl rfl rfl ?_
        refine ww_aload_n (i := 0) C dX11_worth_38 rfl rfl 39 rfl ?_
        refine ww_iload_n (i := 1) C dX11_worth_39 rfl rfl 40 rfl ?_
        refine ww_iconst (v := 1) C dX11_worth_40 (by decide) 41 rfl ?_
        refine ww_callV2 C (c_X11_holdsIn l Γ (I := upd I 0 0) h25 hz hcc (by omega) ht h4 hrel) mi_X11_holdsIn im_X11_holdsIn se_X11_holdsIn ml_X11_201 dX11_worth_41 0 rfl rfl rfl (Nat.le_of_ble_eq_true rfl) (Nat.le_of_ble_eq_true rfl) (Nat.le_of_ble_eq_true rfl) ⟨Nat.zero_le _, Nat.zero_le _⟩ [0, 1, 2, 3, 4, 5] rfl (by decide) rfl 44 rfl ?_
        refine ww_eq (ws' := [wMo hm q (upd I 0 (0)), (q 6, .inl (Γ.2.1, 16, .inl (pz pl cn z))), (q 8, .inl (Γ.2.1, 15, .inl (te))), (q 9, .inl (Γ.2.1, 180, .inl (ts))), (q 26, .inl (Γ.2.1, 100, .inl (cc0))), (q 27, .inl (Γ.2.1, 100, .inl (en)))]) (by rw [pz_2 pl cn z]; rfl) rfl rfl ?_
        refine ww_iadd C dX11_worth_44 45 rfl ?_
        refine ww_aload_n (i := 0) C dX11_worth_45 rfl rfl 46 rfl ?_
        refine ww_iload_n (i := 1) C dX11_worth_46 rfl rfl 47 rfl ?_
        refine ww_iconst (v := 2) C dX11_worth_47 (by decide) 48 rfl ?_
        refine ww_callV2 C (c_X11_holdsIn l Γ (I := upd I 0 0) h25 hz hcc (by omega) ht h4 hrel) mi_X11_holdsIn im_X11_holdsIn se_X11_holdsIn ml_X11_201 dX11_worth_48 0 rfl rfl rfl (Nat.le_of_ble_eq_true rfl) (Nat.le_of_ble_eq_true rfl) (Nat.le_of_ble_eq_true rfl) ⟨Nat.zero_le _, Nat.zero_le _⟩ [0, 1, 2, 3, 4, 5] rfl (by decide) rfl 51 rfl ?_
        refine ww_eq (ws' := [wMo hm q (upd I 0 (0)), (q 6, .inl (Γ.2.1, 16, .inl (pz pl cn z))), (q 8, .inl (Γ.2.1, 15, .inl (te))), (q 9, .inl (Γ.2.1, 180, .inl (ts))), (q 26, .inl (Γ.2.1, 100, .inl (cc0))), (q 27, .inl (Γ.2.1, 100, .inl (en)))]) (by rw [pz_2 pl cn z]; rfl) rfl rfl ?_
        refine ww_iadd C dX11_worth_51 52 rfl ?_
        refine ww_goto C 88 dX11_worth_52 (by decide) ?_
        exact ww_iret C hr dX11_worth_88 (by first | rw [m_wor, if_pos h_29] | rw [m_wor, if_neg h_29, if_pos h_57] | rw [m_wor, if_neg h_29, if_neg h_57, if_pos h_71] | (rw [m_wor, if_neg h_29, if_neg h_57, if_neg h_71]; rfl)) rfl
    · exact absurd (⟨fun y => hk.1 ((i64_lt (x := k9) (y := 0)).mp y), fun y => Int32.not_lt.mpr hk.2 ((i64_lt (x := 3) (y := k9)).mp y)⟩ : (¬ k9.toInt64 < Int32.toInt64 0 ∧ ¬ Int32.toInt64 3 < k9.toInt64)) (bI_e0 h_22)
def pbr (pl : Nat → Int32) (cn : Nat → Nat) (z : Nat) : Nat → (Nat → Int32)
  | 0 => pl
  | _ + 1 => pz pl cn z
theorem pbr_pz (pl : Nat → Int32) (cn : Nat → Nat) (z r : Nat) : pz (pbr pl cn z r) cn z = pz pl cn z := by
  cases r with
  | zero => rfl
  | succ r => exact pz_2 pl cn z
set_option maxHeartbeats 600000 in
theorem c_X11_best (l : Launch) (Γ : Gm) {hm : Nat} {q : Nat → Nat} {I : Nat → Int32} {z m9 : Nat} {pl te ts cc0 en wd fi se : Nat → Int32} {cn tn : Nat → Nat} (h7 : I 7 = nI m9) (hm9 : m9 ≤ 15) (h25 : I 25 = nI z) (hz : z ≤ 100) (hcc : ∀ k, k < z → cc0 k = nI (cn k) ∧ cn k < 65536) (ht : ∀ r, r < m9 → te r = nI (tn r) ∧ tn r ≤ 4) (hrel : ∀ r, r < m9 → RlR wd fi se ts r (tn r))  : Ct l Γ yX11_best cX11_best 5 (some .int) 4 [.ref hm] ([wMo hm q (I), (q 6, .inl (Γ.2.1, 16, .inl (pl))), (q 8, .inl (Γ.2.1, 15, .inl (te))), (q 9, .inl (Γ.2.1, 180, .inl (ts))), (q 26, .inl (Γ.2.1, 100, .inl (cc0))), (q 27, .inl (Γ.2.1, 100, .inl (en)))]) (some (.int (s_bst (s_wv en (fun c => s_cnt en (fun _ => true) (nI c) z) (fun r k => s_tr wd fi se r (lN (CH (cn k))) (tn r)) z) m9).1)) ([wMo hm q (upd I 0 (0)), (q 6, .inl (Γ.2.1, 16, .inl ((pbr pl cn z m9)))), (q 8, .inl (Γ.2.1, 15, .inl (te))), (q 9, .inl (Γ.2.1, 180, .inl (ts))), (q 26, .inl (Γ.2.1, 100, .inl (cc0))), (q 27, .inl (Γ.2.1, 100, .inl (en)))]) := by
  refine Ct.of mi_X11_best [some (.ref hm), none, none, none, none] 4 rfl (Nat.le_of_ble_eq_true rfl) ?_
  intro p e s m args below meth c C hr
  refine ww_aload_n (i := 0) C dX11_best_0 rfl rfl 1 rfl ?_
  refine ww_iconst (v := 0) C dX11_best_1 (by decide) 2 rfl ?_
  refine ww_mput_0 C fe_X11_52 dX11_best_2 5 rfl ?_
  refine ww_ldc C cn_X11_100 dX11_best_5 7 rfl ?_
  refine ww_istore_n (i := 1) C dX11_best_7 rfl (by decide) rfl 8 rfl ?_
  refine ww_iconst (v := 0) C dX11_best_8 (by decide) 9 rfl ?_
  refine ww_istore_n (i := 2) C dX11_best_9 rfl (by decide) rfl 10 rfl ?_
  refine ww_iconst (v := 0) C dX11_best_10 (by decide) 11 rfl ?_
  refine ww_istore_n (i := 3) C dX11_best_11 rfl (by decide) rfl 12 rfl ?_
  refine ww_loop (fun r : Nat => m9 - r) (fun r => r ≤ m9) (fun r => [wMo hm q (upd I 0 (0)), (q 6, .inl (Γ.2.1, 16, .inl ((pbr pl cn z r)))), (q 8, .inl (Γ.2.1, 15, .inl (te))), (q 9, .inl (Γ.2.1, 180, .inl (ts))), (q 26, .inl (Γ.2.1, 100, .inl (cc0))), (q 27, .inl (Γ.2.1, 100, .inl (en)))]) (fun r => [some (.ref hm), some (.int (s_bst (s_wv en (fun c => s_cnt en (fun _ => true) (nI c) z) (fun r k => s_tr wd fi se r (lN (CH (cn k))) (tn r)) z) r).1), some (.int (s_bst (s_wv en (fun c => s_cnt en (fun _ => true) (nI c) z) (fun r k => s_tr wd fi se r (lN (CH (cn k))) (tn r)) z) r).2), some (.int (nI r)), none]) (0 : Nat) (Nat.zero_le _) rfl rfl (fun r hrr ih => ?_)
  try dsimp only at hrr ih ⊢
  refine ww_iload_n (i := 3) C dX11_best_12 rfl rfl 13 rfl ?_
  refine ww_aload_n (i := 0) C dX11_best_13 rfl rfl 14 rfl ?_
  refine ww_get C fe_X11_189 dX11_best_14 0 rfl rfl 17 rfl ?_
  rw [show upd I 0 0 7 = nI m9 from h7]
  refine ww_icmp_ge C 50 dX11_best_17 (by decide) 20 rfl (fun h_17 => ?_) (fun h_17 => ?_)
  · skip
    obtain rfl : r = m9 := eqN h_17 hrr (by omega)
    refine ww_iload_n (i := 1) C dX11_best_50 rfl rfl 51 rfl ?_
    exact ww_iret C hr dX11_best_51 rfl rfl
  · skip
    have hlt : r < m9 := ltN h_17 (by omega) (by omega)
    refine ww_aload_n (i := 0) C dX11_best_20 rfl rfl 21 rfl ?_
    refine ww_iload_n (i := 3) C dX11_best_21 rfl rfl 22 rfl ?_
    refine ww_callV1 C (c_X11_worthOf l Γ (I := upd I 0 0) (t := tn r) h25 hz hcc (by omega) (ht r hlt).1 (ht r hlt).2 (hrel r hlt)) mi_X11_worthOf im_X11_worthOf se_X11_worthOf ml_X11_209 dX11_best_22 0 rfl rfl rfl (Nat.le_of_ble_eq_true rfl) (Nat.le_of_ble_eq_true rfl) (Nat.le_of_ble_eq_true rfl) ⟨Nat.zero_le _, Nat.zero_le _⟩ [0, 1, 2, 3, 4, 5] rfl (by decide) rfl 25 rfl ?_
    refine ww_eq (ws' := [wMo hm q (upd I 0 (0)), (q 6, .inl (Γ.2.1, 16, .inl ((pbr pl cn z (r + 1))))), (q 8, .inl (Γ.2.1, 15, .inl (te))), (q 9, .inl (Γ.2.1, 180, .inl (ts))), (q 26, .inl (Γ.2.1, 100, .inl (cc0))), (q 27, .inl (Γ.2.1, 100, .inl (en)))]) (by rw [pbr_pz pl cn z r]; rfl) rfl rfl ?_
    have eW : s_wv1 en (fun c => s_cnt en (fun _ => true) (nI c) z) (fun k => s_tr wd fi se r (lN (CH (cn k))) (tn r)) z = s_wv en (fun c => s_cnt en (fun _ => true) (nI c) z) (fun r k => s_tr wd fi se r (lN (CH (cn k))) (tn r)) z r := s_wv_1 en (fun c => s_cnt en (fun _ => true) (nI c) z) (fun r k => s_tr wd fi se r (lN (CH (cn k))) (tn r)) z r
    rw [eW]
    refine ww_istore C dX11_best_25 (by decide) rfl 27 rfl ?_
    refine ww_iload_n (i := 1) C dX11_best_27 rfl rfl 28 rfl ?_
    refine ww_ldc C cn_X11_100 dX11_best_28 30 rfl ?_
    refine ww_icmp_eq C 39 dX11_best_30 (by decide) 33 rfl (fun h_30 => ?_) (fun h_30 => ?_)
    · skip
      refine ww_iload_n (i := 3) C dX11_best_39 rfl rfl 40 rfl ?_
      refine ww_istore_n (i := 1) C dX11_best_40 rfl (by decide) rfl 41 rfl ?_
      refine ww_iload C dX11_best_41 rfl 43 rfl ?_
      refine ww_istore_n (i := 2) C dX11_best_43 rfl (by decide) rfl 44 rfl ?_
      refine ww_iinc (y := 1) C dX11_best_44 rfl (by decide) (by decide) rfl 47 rfl ?_
      refine ww_goto C 12 dX11_best_47 (by decide) ?_
      refine ww_lv (lv' := [some (.ref hm), some (.int (s_bst (s_wv en (fun c => s_cnt en (fun _ => true) (nI c) z) (fun r k => s_tr wd fi se r (lN (CH (cn k))) (tn r)) z) (r + 1)).1), some (.int (s_bst (s_wv en (fun c => s_cnt en (fun _ => true) (nI c) z) (fun r k => s_tr wd fi se r (lN (CH (cn k))) (tn r)) z) (r + 1)).2), some (.int (nI (r + 1))), none]) ?_ (ih (r + 1) (by omega) (by omega))
      rw [s_bst, nI_succ r]
      first
        | (rw [if_pos (Or.inl h_30)]; exact (lvle_same (lvle_same (lvle_same (lvle_same (lvle_none lvle_nil))))))
        | (rw [if_pos (Or.inr (Int32.not_le.mp h_36))]; exact (lvle_same (lvle_same (lvle_same (lvle_same (lvle_none lvle_nil))))))
        | (rw [if_neg (fun y => y.elim h_30 (fun z2 => absurd h_36 (Int32.not_le.mpr z2)))]; exact (lvle_same (lvle_same (lvle_same (lvle_same (lvle_none lvle_nil))))))
    · skip
      refine ww_iload C dX11_best_33 rfl 35 rfl ?_
      refine ww_iload_n (i := 2) C dX11_best_35 rfl rfl 36 rfl ?_
      refine ww_icmp_le C 44 dX11_best_36 (by decide) 39 rfl (fun h_36 => ?_) (fun h_36 => ?_)
      · skip
        refine ww_iinc (y := 1) C dX11_best_44 rfl (by decide) (by decide) rfl 47 rfl ?_
        refine ww_goto C 12 dX11_best_47 (by decide) ?_
        refine ww_lv (lv' := [some (.ref hm), some (.int (s_bst (s_wv en (fun c => s_cnt en (fun _ => true) (nI c) z) (fun r k => s_tr wd fi se r (lN (CH (cn k))) (tn r)) z) (r + 1)).1), some (.int (s_bst (s_wv en (fun c => s_cnt en (fun _ => true) (nI c) z) (fun r k => s_tr wd fi se r (lN (CH (cn k))) (tn r)) z) (r + 1)).2), some (.int (nI (r + 1))), none]) ?_ (ih (r + 1) (by omega) (by omega))
        rw [s_bst, nI_succ r]
        first
          | (rw [if_pos (Or.inl h_30)]; exact (lvle_same (lvle_same (lvle_same (lvle_same (lvle_none lvle_nil))))))
          | (rw [if_pos (Or.inr (Int32.not_le.mp h_36))]; exact (lvle_same (lvle_same (lvle_same (lvle_same (lvle_none lvle_nil))))))
          | (rw [if_neg (fun y => y.elim h_30 (fun z2 => absurd h_36 (Int32.not_le.mpr z2)))]; exact (lvle_same (lvle_same (lvle_same (lvle_same (lvle_none lvle_nil))))))
      · skip
        refine ww_iload_n (i := 3) C dX11_best_39 rfl rfl 40 rfl ?_
        refine ww_istore_n (i := 1) C dX11_best_40 rfl (by decide) rfl 41 rfl ?_
        refine ww_iload C dX11_best_41 rfl 43 rfl ?_
        refine ww_istore_n (i := 2) C dX11_best_43 rfl (by decide) rfl 44 rfl ?_
        refine ww_iinc (y := 1) C dX11_best_44 rfl (by decide) (by decide) rfl 47 rfl ?_
        refine ww_goto C 12 dX11_best_47 (by decide) ?_
        refine ww_lv (lv' := [some (.ref hm), some (.int (s_bst (s_wv en (fun c => s_cnt en (fun _ => true) (nI c) z) (fun r k => s_tr wd fi se r (lN (CH (cn k))) (tn r)) z) (r + 1)).1), some (.int (s_bst (s_wv en (fun c => s_cnt en (fun _ => true) (nI c) z) (fun r k => s_tr wd fi se r (lN (CH (cn k))) (tn r)) z) (r + 1)).2), some (.int (nI (r + 1))), none]) ?_ (ih (r + 1) (by omega) (by omega))
        rw [s_bst, nI_succ r]
        first
          | (rw [if_pos (Or.inl h_30)]; exact (lvle_same (lvle_same (lvle_same (lvle_same (lvle_none lvle_nil))))))
          | (rw [if_pos (Or.inr (Int32.not_le.mp h_36))]; exact (lvle_same (lvle_same (lvle_same (lvle_same (lvle_none lvle_nil))))))
          | (rw [if_neg (fun y => y.elim h_30 (fun z2 => absurd h_36 (Int32.not_le.mpr z2)))]; exact (lvle_same (lvle_same (lvle_same (lvle_same (lvle_none lvle_nil))))))
