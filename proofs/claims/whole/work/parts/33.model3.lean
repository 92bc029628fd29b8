def s_kO (f : Int32) : Int32 := if (f &&& 1 = (f >>> ((3 : Int32) &&& 31)) &&& 1) ∧ ((f >>> ((1 : Int32) &&& 31)) &&& 1 = (f >>> ((2 : Int32) &&& 31)) &&& 1) then 2 else if s_sg f - s_sg f / 2 * 2 = 0 then 1 else 3
theorem kO_told : ∀ f, f < 16 → s_kO (nI f) = s_told (nI f) := by decide +kernel
theorem sg_bc : ∀ f, f < 16 → s_sg (nI f) = s_bc32 (nI f) := by decide +kernel
theorem told_123 : ∀ f, f < 16 → s_told (nI f) = 1 ∨ s_told (nI f) = 2 ∨ s_told (nI f) = 3 := by decide +kernel
theorem xor_par : ∀ a, a < 16 → ∀ b, b < 16 → ((nI a ^^^ nI b) &&& 1 = 0 ↔ nI a &&& 1 = nI b &&& 1) := by decide +kernel
theorem and1_01 (x : Int32) : x &&& 1 = 0 ∨ x &&& 1 = 1 := by
  have e := pk_and x (m := 1) 1 (by decide)
  have : x.toBitVec.toNat % 2 ^ 1 = 0 ∨ x.toBitVec.toNat % 2 ^ 1 = 1 := by omega
  rcases this with q | q
  · left; rw [e, q]; rfl
  · right; rw [e, q]; rfl
theorem c_X11_fault (l : Launch) (Γ : Gm) {hm : Nat} {q : Nat → Nat} {I : Nat → Int32}  : Ct l Γ yX11_fault cX11_fault 1 (some .int) 0 [.ref hm] ([wMo hm q (I)]) (some (.int (I 17))) ([wMo hm q (upd I 0 (0))]) := by
  refine Ct.of mi_X11_fault [some (.ref hm)] 0 rfl (Nat.le_of_ble_eq_true rfl) ?_
  intro p e s m args below meth c C hr
  refine ww_aload_n (i := 0) C dX11_fault_0 rfl rfl 1 rfl ?_
  refine ww_iconst (v := 0) C dX11_fault_1 (by decide) 2 rfl ?_
  refine ww_mput_0 C fe_X11_52 dX11_fault_2 5 rfl ?_
  refine ww_aload_n (i := 0) C dX11_fault_5 rfl rfl 6 rfl ?_
  refine ww_get C fe_X11_185 dX11_fault_6 0 rfl rfl 9 rfl ?_
  exact ww_iret C hr dX11_fault_9 rfl rfl
theorem c_X11_status (l : Launch) (Γ : Gm) {hm : Nat} {q : Nat → Nat} {I : Nat → Int32}  : Ct l Γ yX11_status cX11_status 1 (some .int) 0 [.ref hm] ([wMo hm q (I)]) (some (.int (I 1))) ([wMo hm q (upd I 0 (0))]) := by
  refine Ct.of mi_X11_status [some (.ref hm)] 0 rfl (Nat.le_of_ble_eq_true rfl) ?_
  intro p e s m args below meth c C hr
  refine ww_aload_n (i := 0) C dX11_status_0 rfl rfl 1 rfl ?_
  refine ww_iconst (v := 0) C dX11_status_1 (by decide) 2 rfl ?_
  refine ww_mput_0 C fe_X11_52 dX11_status_2 5 rfl ?_
  refine ww_aload_n (i := 0) C dX11_status_5 rfl rfl 6 rfl ?_
  refine ww_get C fe_X11_56 dX11_status_6 0 rfl rfl 9 rfl ?_
  exact ww_iret C hr dX11_status_9 rfl rfl
theorem c_X11_chart_bad (l : Launch) (Γ : Gm) {hm : Nat} {q : Nat → Nat} {I : Nat → Int32} {a : Int32} (hb : a < 0 ∨ 65535 < a) : Ct l Γ yX11_chart cX11_chart 3 (some .int) 4 [.ref hm, .int a] ([wMo hm q (I)]) (some (.int (-1000001))) ([wMo hm q (upd I 0 (0))]) := by
  refine Ct.of mi_X11_chart [some (.ref hm), some (.int a), none] 1 rfl (Nat.le_of_ble_eq_true rfl) ?_
  intro p e s m args below meth c C hr
  refine ww_aload_n (i := 0) C dX11_chart_0 rfl rfl 1 rfl ?_
  refine ww_iconst (v := 0) C dX11_chart_1 (by decide) 2 rfl ?_
  refine ww_mput_0 C fe_X11_52 dX11_chart_2 5 rfl ?_
  refine ww_iload_n (i := 1) C dX11_chart_5 rfl rfl 6 rfl ?_
  refine ww_i2l C dX11_chart_6 7 rfl ?_
  refine ww_lconst (v := 0) C dX11_chart_7 (by decide) 8 rfl ?_
  refine ww_ldc2 C cn_X11_84 dX11_chart_8 11 rfl ?_
  refine ww_callS3p C (c_X11_in l Γ) mi_X11_in st_X11_in ml_X11_62 dX11_chart_11 (Nat.le_of_ble_eq_true rfl) (Nat.le_of_ble_eq_true rfl) (Nat.le_of_ble_eq_true rfl) ⟨Nat.zero_le _, Nat.zero_le _⟩ [] rfl (by decide) 14 rfl ?_
  refine ww_if_ne C 20 dX11_chart_14 (by decide) 17 rfl (fun h_14 => ?_) (fun h_14 => ?_)
  · exact absurd hb (fun q => q.elim (fun z => (bI_n0 h_14).1 ((i64_lt (x := a) (y := 0)).mpr z)) (fun z => (bI_n0 h_14).2 ((i64_lt (x := 65535) (y := a)).mpr z)))
  · skip
    refine ww_ldc C cn_X11_72 dX11_chart_17 19 rfl ?_
    exact ww_iret C hr dX11_chart_19 rfl rfl
theorem c_X11_chart_ok (l : Launch) (Γ : Gm) {hm : Nat} {q : Nat → Nat} {I : Nat → Int32} {a : Nat} (ha : a < 65536) : Ct l Γ yX11_chart cX11_chart 3 (some .int) 4 [.ref hm, .int (nI a)] ([wMo hm q (I)]) (some (.int (I 5))) ([wMo hm q (upd (upd I 0 (0)) 5 (nI a))]) := by
  refine Ct.of mi_X11_chart [some (.ref hm), some (.int (nI a)), none] 1 rfl (Nat.le_of_ble_eq_true rfl) ?_
  intro p e s m args below meth c C hr
  refine ww_aload_n (i := 0) C dX11_chart_0 rfl rfl 1 rfl ?_
  refine ww_iconst (v := 0) C dX11_chart_1 (by decide) 2 rfl ?_
  refine ww_mput_0 C fe_X11_52 dX11_chart_2 5 rfl ?_
  refine ww_iload_n (i := 1) C dX11_chart_5 rfl rfl 6 rfl ?_
  refine ww_i2l C dX11_chart_6 7 rfl ?_
  refine ww_lconst (v := 0) C dX11_chart_7 (by decide) 8 rfl ?_
  refine ww_ldc2 C cn_X11_84 dX11_chart_8 11 rfl ?_
  refine ww_callS3p C (c_X11_in l Γ) mi_X11_in st_X11_in ml_X11_62 dX11_chart_11 (Nat.le_of_ble_eq_true rfl) (Nat.le_of_ble_eq_true rfl) (Nat.le_of_ble_eq_true rfl) ⟨Nat.zero_le _, Nat.zero_le _⟩ [] rfl (by decide) 14 rfl ?_
  refine ww_if_ne C 20 dX11_chart_14 (by decide) 17 rfl (fun h_14 => ?_) (fun h_14 => ?_)
  · skip
    refine ww_aload_n (i := 0) C dX11_chart_20 rfl rfl 21 rfl ?_
    refine ww_get C fe_X11_81 dX11_chart_21 0 rfl rfl 24 rfl ?_
    refine ww_istore_n (i := 2) C dX11_chart_24 rfl (by decide) rfl 25 rfl ?_
    refine ww_aload_n (i := 0) C dX11_chart_25 rfl rfl 26 rfl ?_
    refine ww_iload_n (i := 1) C dX11_chart_26 rfl rfl 27 rfl ?_
    refine ww_mput_5 C fe_X11_81 dX11_chart_27 30 rfl ?_
    refine ww_iload_n (i := 2) C dX11_chart_30 rfl rfl 31 rfl ?_
    exact ww_iret C hr dX11_chart_31 rfl rfl
  · exact absurd (⟨fun z => nI_pos (by omega) ((i64_lt (x := nI a) (y := 0)).mp z), fun z => nI_nlt (a := 65535) (by omega) (by decide) ((i64_lt (x := 65535) (y := nI a)).mp z)⟩ : ¬ (nI a).toInt64 < Int32.toInt64 0 ∧ ¬ Int32.toInt64 65535 < (nI a).toInt64) (bI_e0 h_14)
theorem c_X11_add (l : Launch) (Γ : Gm) {hm : Nat} {q : Nat → Nat} {I : Nat → Int32} {a b : Int32}  : Ct l Γ yX11_add cX11_add 3 (some .int) 4 [.ref hm, .int a, .int b] ([wMo hm q (I)]) (some (.int (if (¬ a < 0 ∧ ¬ 15 < a) then if (¬ b < 0 ∧ ¬ 15 < b) then a ^^^ b else -1000001 else -1000001))) ([wMo hm q (upd I 0 (0))]) := by
  refine Ct.of mi_X11_add [some (.ref hm), some (.int a), some (.int b)] 0 rfl (Nat.le_of_ble_eq_true rfl) ?_
  intro p e s m args below meth c C hr
  refine ww_aload_n (i := 0) C dX11_add_0 rfl rfl 1 rfl ?_
  refine ww_iconst (v := 0) C dX11_add_1 (by decide) 2 rfl ?_
  refine ww_mput_0 C fe_X11_52 dX11_add_2 5 rfl ?_
  refine ww_iload_n (i := 1) C dX11_add_5 rfl rfl 6 rfl ?_
  refine ww_callS1p C (c_X11_isFigure16 l Γ) mi_X11_isFigure16 st_X11_isFigure16 ml_X11_90 dX11_add_6 (Nat.le_of_ble_eq_true rfl) (Nat.le_of_ble_eq_true rfl) (Nat.le_of_ble_eq_true rfl) ⟨Nat.zero_le _, Nat.zero_le _⟩ [] rfl (by decide) 9 rfl ?_
  refine ww_if_eq C 19 dX11_add_9 (by decide) 12 rfl (fun h_9 => ?_) (fun h_9 => ?_)
  · skip
    refine ww_ldc C cn_X11_72 dX11_add_19 21 rfl ?_
    refine ww_goto C 27 dX11_add_21 (by decide) ?_
    exact ww_iret C hr dX11_add_27 (by first | rw [if_neg (bI_e0 h_9)] | rw [if_pos (bI_n0 h_9), if_neg (bI_e0 h_16)] | rw [if_pos (bI_n0 h_9), if_pos (bI_n0 h_16)]) rfl
  · skip
    refine ww_iload_n (i := 2) C dX11_add_12 rfl rfl 13 rfl ?_
    refine ww_callS1p C (c_X11_isFigure16 l Γ) mi_X11_isFigure16 st_X11_isFigure16 ml_X11_90 dX11_add_13 (Nat.le_of_ble_eq_true rfl) (Nat.le_of_ble_eq_true rfl) (Nat.le_of_ble_eq_true rfl) ⟨Nat.zero_le _, Nat.zero_le _⟩ [] rfl (by decide) 16 rfl ?_
    refine ww_if_ne C 24 dX11_add_16 (by decide) 19 rfl (fun h_16 => ?_) (fun h_16 => ?_)
    · skip
      refine ww_iload_n (i := 1) C dX11_add_24 rfl rfl 25 rfl ?_
      refine ww_iload_n (i := 2) C dX11_add_25 rfl rfl 26 rfl ?_
      refine ww_ixor C dX11_add_26 27 rfl ?_
      exact ww_iret C hr dX11_add_27 (by first | rw [if_neg (bI_e0 h_9)] | rw [if_pos (bI_n0 h_9), if_neg (bI_e0 h_16)] | rw [if_pos (bI_n0 h_9), if_pos (bI_n0 h_16)]) rfl
    · skip
      refine ww_ldc C cn_X11_72 dX11_add_19 21 rfl ?_
      refine ww_goto C 27 dX11_add_21 (by decide) ?_
      exact ww_iret C hr dX11_add_27 (by first | rw [if_neg (bI_e0 h_9)] | rw [if_pos (bI_n0 h_9), if_neg (bI_e0 h_16)] | rw [if_pos (bI_n0 h_9), if_pos (bI_n0 h_16)]) rfl
theorem c_X11_at_bad (l : Launch) (Γ : Gm) {hm : Nat} {q : Nat → Nat} {I : Nat → Int32} {n : Nat} {a : Int32} {pl : Nat → Int32} (hc : I 5 = nI n) (hn : n < 65536) (hb : ¬ (¬ a < 0 ∧ ¬ 15 < a)) : Ct l Γ yX11_at cX11_at 2 (some .int) 4 [.ref hm, .int a] ([wMo hm q (I), (q 6, .inl (Γ.2.1, 16, .inl (pl)))]) (some (.int (-1000001))) ([wMo hm q (upd I 0 (0)), (q 6, .inl (Γ.2.1, 16, .inl (s_lay pl n)))]) := by
  refine Ct.of mi_X11_at [some (.ref hm), some (.int a)] 0 rfl (Nat.le_of_ble_eq_true rfl) ?_
  intro p e s m args below meth c C hr
  refine ww_aload_n (i := 0) C dX11_at_0 rfl rfl 1 rfl ?_
  refine ww_iconst (v := 0) C dX11_at_1 (by decide) 2 rfl ?_
  refine ww_mput_0 C fe_X11_52 dX11_at_2 5 rfl ?_
  refine ww_aload_n (i := 0) C dX11_at_5 rfl rfl 6 rfl ?_
  refine ww_aload_n (i := 0) C dX11_at_6 rfl rfl 7 rfl ?_
  refine ww_get C fe_X11_81 dX11_at_7 0 rfl rfl 10 rfl ?_
  rw [show upd I 0 0 5 = nI n from hc]
  refine ww_callV1v C (c_X11_lay l Γ hn) mi_X11_lay im_X11_lay se_X11_lay ml_X11_86 dX11_at_10 0 rfl rfl rfl (Nat.le_of_ble_eq_true rfl) (Nat.le_of_ble_eq_true rfl) (Nat.le_of_ble_eq_true rfl) ⟨Nat.zero_le _, Nat.zero_le _⟩ [0, 1] rfl (by decide) rfl 13 rfl ?_
  refine ww_iload_n (i := 1) C dX11_at_13 rfl rfl 14 rfl ?_
  refine ww_callS1p C (c_X11_isFigure16 l Γ) mi_X11_isFigure16 st_X11_isFigure16 ml_X11_90 dX11_at_14 (Nat.le_of_ble_eq_true rfl) (Nat.le_of_ble_eq_true rfl) (Nat.le_of_ble_eq_true rfl) ⟨Nat.zero_le _, Nat.zero_le _⟩ [] rfl (by decide) 17 rfl ?_
  refine ww_if_eq C 29 dX11_at_17 (by decide) 20 rfl (fun h_17 => ?_) (fun h_17 => ?_)
  · skip
    refine ww_ldc C cn_X11_72 dX11_at_29 31 rfl ?_
    exact ww_iret C hr dX11_at_31 rfl rfl
  · exact absurd (bI_n0 h_17) hb
theorem c_X11_at_ok (l : Launch) (Γ : Gm) {hm : Nat} {q : Nat → Nat} {I : Nat → Int32} {n k : Nat} {pl : Nat → Int32} (hc : I 5 = nI n) (hn : n < 65536) (hk : k < 16) : Ct l Γ yX11_at cX11_at 2 (some .int) 4 [.ref hm, .int (nI k)] ([wMo hm q (I), (q 6, .inl (Γ.2.1, 16, .inl (pl)))]) (some (.int (nI (fg n k)))) ([wMo hm q (upd I 0 (0)), (q 6, .inl (Γ.2.1, 16, .inl (s_lay pl n)))]) := by
  refine Ct.of mi_X11_at [some (.ref hm), some (.int (nI k))] 0 rfl (Nat.le_of_ble_eq_true rfl) ?_
  intro p e s m args below meth c C hr
  refine ww_aload_n (i := 0) C dX11_at_0 rfl rfl 1 rfl ?_
  refine ww_iconst (v := 0) C dX11_at_1 (by decide) 2 rfl ?_
  refine ww_mput_0 C fe_X11_52 dX11_at_2 5 rfl ?_
  refine ww_aload_n (i := 0) C dX11_at_5 rfl rfl 6 rfl ?_
  refine ww_aload_n (i := 0) C dX11_at_6 rfl rfl 7 rfl ?_
  refine ww_get C fe_X11_81 dX11_at_7 0 rfl rfl 10 rfl ?_
  rw [show upd I 0 0 5 = nI n from hc]
  refine ww_callV1v C (c_X11_lay l Γ hn) mi_X11_lay im_X11_lay se_X11_lay ml_X11_86 dX11_at_10 0 rfl rfl rfl (Nat.le_of_ble_eq_true rfl) (Nat.le_of_ble_eq_true rfl) (Nat.le_of_ble_eq_true rfl) ⟨Nat.zero_le _, Nat.zero_le _⟩ [0, 1] rfl (by decide) rfl 13 rfl ?_
  refine ww_iload_n (i := 1) C dX11_at_13 rfl rfl 14 rfl ?_
  refine ww_callS1p C (c_X11_isFigure16 l Γ) mi_X11_isFigure16 st_X11_isFigure16 ml_X11_90 dX11_at_14 (Nat.le_of_ble_eq_true rfl) (Nat.le_of_ble_eq_true rfl) (Nat.le_of_ble_eq_true rfl) ⟨Nat.zero_le _, Nat.zero_le _⟩ [] rfl (by decide) 17 rfl ?_
  refine ww_if_eq C 29 dX11_at_17 (by decide) 20 rfl (fun h_17 => ?_) (fun h_17 => ?_)
  · exact absurd (⟨nI_pos (by omega), nI_nlt (a := 15) (by omega) (by decide)⟩ : ¬ nI k < 0 ∧ ¬ nI 15 < nI k) (bI_e0 h_17)
  · skip
    refine ww_aload_n (i := 0) C dX11_at_20 rfl rfl 21 rfl ?_
    refine ww_get C fe_X11_19 dX11_at_21 0 rfl rfl 24 rfl ?_
    refine ww_iload_n (i := 1) C dX11_at_24 rfl rfl 25 rfl ?_
    refine ww_iald C dX11_at_25 1 rfl (vp_in_nI hk (by decide)) 26 rfl ?_
    refine ww_goto C 31 dX11_at_26 (by decide) ?_
    exact ww_iret C hr dX11_at_31 (by rw [nI_clamp (by omega), s_lay_at hk]) rfl
theorem c_X11_seen_bad (l : Launch) (Γ : Gm) {hm : Nat} {q : Nat → Nat} {I : Nat → Int32} {a : Int32} (hb : ¬ (¬ a < 0 ∧ ¬ 15 < a)) : Ct l Γ yX11_seen cX11_seen 4 (some .int) 4 [.ref hm, .int a] ([wMo hm q (I)]) (some (.int (-1000001))) ([wMo hm q (upd I 0 (0))]) := by
  refine Ct.of mi_X11_seen [some (.ref hm), some (.int a), none, none] 2 rfl (Nat.le_of_ble_eq_true rfl) ?_
  intro p e s m args below meth c C hr
  refine ww_aload_n (i := 0) C dX11_seen_0 rfl rfl 1 rfl ?_
  refine ww_iconst (v := 0) C dX11_seen_1 (by decide) 2 rfl ?_
  refine ww_mput_0 C fe_X11_52 dX11_seen_2 5 rfl ?_
  refine ww_iload_n (i := 1) C dX11_seen_5 rfl rfl 6 rfl ?_
  refine ww_callS1p C (c_X11_isFigure16 l Γ) mi_X11_isFigure16 st_X11_isFigure16 ml_X11_90 dX11_seen_6 (Nat.le_of_ble_eq_true rfl) (Nat.le_of_ble_eq_true rfl) (Nat.le_of_ble_eq_true rfl) ⟨Nat.zero_le _, Nat.zero_le _⟩ [] rfl (by decide) 9 rfl ?_
  refine ww_if_ne C 15 dX11_seen_9 (by decide) 12 rfl (fun h_9 => ?_) (fun h_9 => ?_)
  · exact absurd (bI_n0 h_9) hb
  · skip
    refine ww_ldc C cn_X11_72 dX11_seen_12 14 rfl ?_
    exact ww_iret C hr dX11_seen_14 rfl rfl
theorem c_X11_seen_ok (l : Launch) (Γ : Gm) {hm : Nat} {q : Nat → Nat} {I : Nat → Int32} {n : Nat} {a : Int32} {pl : Nat → Int32} (hc : I 5 = nI n) (hn : n < 65536) (hb : (¬ a < 0 ∧ ¬ 15 < a)) : Ct l Γ yX11_seen cX11_seen 4 (some .int) 4 [.ref hm, .int a] ([wMo hm q (I), (q 6, .inl (Γ.2.1, 16, .inl (pl)))]) (some (.int (s_seen (lN (CH n)) a 0 16))) ([wMo hm q (upd I 0 (0)), (q 6, .inl (Γ.2.1, 16, .inl (s_lay pl n)))]) := by
  refine Ct.of mi_X11_seen [some (.ref hm), some (.int a), none, none] 2 rfl (Nat.le_of_ble_eq_true rfl) ?_
  intro p e s m args below meth c C hr
  refine ww_aload_n (i := 0) C dX11_seen_0 rfl rfl 1 rfl ?_
  refine ww_iconst (v := 0) C dX11_seen_1 (by decide) 2 rfl ?_
  refine ww_mput_0 C fe_X11_52 dX11_seen_2 5 rfl ?_
  refine ww_iload_n (i := 1) C dX11_seen_5 rfl rfl 6 rfl ?_
  refine ww_callS1p C (c_X11_isFigure16 l Γ) mi_X11_isFigure16 st_X11_isFigure16 ml_X11_90 dX11_seen_6 (Nat.le_of_ble_eq_true rfl) (Nat.le_of_ble_eq_true rfl) (Nat.le_of_ble_eq_true rfl) ⟨Nat.zero_le _, Nat.zero_le _⟩ [] rfl (by decide) 9 rfl ?_
  refine ww_if_ne C 15 dX11_seen_9 (by decide) 12 rfl (fun h_9 => ?_) (fun h_9 => ?_)
  · skip
    refine ww_aload_n (i := 0) C dX11_seen_15 rfl rfl 16 rfl ?_
    refine ww_aload_n (i := 0) C dX11_seen_16 rfl rfl 17 rfl ?_
    refine ww_get C fe_X11_81 dX11_seen_17 0 rfl rfl 20 rfl ?_
    rw [show upd I 0 0 5 = nI n from hc]
    refine ww_callV1v C (c_X11_lay l Γ hn) mi_X11_lay im_X11_lay se_X11_lay ml_X11_86 dX11_seen_20 0 rfl rfl rfl (Nat.le_of_ble_eq_true rfl) (Nat.le_of_ble_eq_true rfl) (Nat.le_of_ble_eq_true rfl) ⟨Nat.zero_le _, Nat.zero_le _⟩ [0, 1] rfl (by decide) rfl 23 rfl ?_
    refine ww_iconst (v := 0) C dX11_seen_23 (by decide) 24 rfl ?_
    refine ww_istore_n (i := 2) C dX11_seen_24 rfl (by decide) rfl 25 rfl ?_
    refine ww_iconst (v := 0) C dX11_seen_25 (by decide) 26 rfl ?_
    refine ww_istore_n (i := 3) C dX11_seen_26 rfl (by decide) rfl 27 rfl ?_
    refine ww_eq (ws' := [wMo hm q (upd I 0 (0)), (q 6, .inl (Γ.2.1, 16, .inl (s_lay pl n)))]) rfl rfl rfl ?_
    refine ww_loop (fun k : Nat => 16 - k) (fun k => k ≤ 16) (fun _ => [wMo hm q (upd I 0 (0)), (q 6, .inl (Γ.2.1, 16, .inl (s_lay pl n)))]) (fun k => [some (.ref hm), some (.int a), some (.int (s_seen (lN (CH n)) a 0 k)), some (.int (nI k))]) (0 : Nat) (by omega) rfl rfl (fun k hk ih => ?_)
    try dsimp only at hk ih ⊢
    refine ww_iload_n (i := 3) C dX11_seen_27 rfl rfl 28 rfl ?_
    refine ww_bipush (v := 16) C dX11_seen_28 (by decide) 30 rfl ?_
    refine ww_icmp_ge C 57 dX11_seen_30 (by decide) 33 rfl (fun h_30 => ?_) (fun h_30 => ?_)
    · skip
      obtain rfl : k = 16 := eqN (n := 16) h_30 hk (by decide)
      refine ww_iload_n (i := 2) C dX11_seen_57 rfl rfl 58 rfl ?_
      exact ww_iret C hr dX11_seen_58 rfl rfl
    · skip
      have hlt : k < 16 := ltN (n := 16) h_30 (by decide) (by omega)
      refine ww_iload_n (i := 2) C dX11_seen_33 rfl rfl 34 rfl ?_
      refine ww_aload_n (i := 0) C dX11_seen_34 rfl rfl 35 rfl ?_
      refine ww_get C fe_X11_19 dX11_seen_35 0 rfl rfl 38 rfl ?_
      refine ww_iload_n (i := 3) C dX11_seen_38 rfl rfl 39 rfl ?_
      refine ww_iald C dX11_seen_39 1 rfl (vp_in_nI hlt (by decide)) 40 rfl ?_
      rw [nI_clamp (show k < 2 ^ 31 by omega), s_lay_at hlt]
      refine ww_iload_n (i := 1) C dX11_seen_40 rfl rfl 41 rfl ?_
      refine ww_icmp_ne C 48 dX11_seen_41 (by decide) 44 rfl (fun h_41 => ?_) (fun h_41 => ?_)
      · skip
        refine ww_iconst (v := 0) C dX11_seen_48 (by decide) 49 rfl ?_
        refine ww_iadd C dX11_seen_49 50 rfl ?_
        refine ww_istore_n (i := 2) C dX11_seen_50 rfl (by decide) rfl 51 rfl ?_
        refine ww_iinc (y := 1) C dX11_seen_51 rfl (by decide) (by decide) rfl 54 rfl ?_
        refine ww_goto C 27 dX11_seen_54 (by decide) ?_
        refine ww_eq rfl ?_ rfl (ih (k + 1) (by omega) (by omega))
        rw [s_seen, show 0 + k = k by omega, s_fa_CH hlt, nI_succ k]
        first
          | (rw [if_pos h_41]; rfl)
          | (rw [if_neg h_41, Int32.add_zero]; rfl)
      · skip
        refine ww_iconst (v := 1) C dX11_seen_44 (by decide) 45 rfl ?_
        refine ww_goto C 49 dX11_seen_45 (by decide) ?_
        refine ww_iadd C dX11_seen_49 50 rfl ?_
        refine ww_istore_n (i := 2) C dX11_seen_50 rfl (by decide) rfl 51 rfl ?_
        refine ww_iinc (y := 1) C dX11_seen_51 rfl (by decide) (by decide) rfl 54 rfl ?_
        refine ww_goto C 27 dX11_seen_54 (by decide) ?_
        refine ww_eq rfl ?_ rfl (ih (k + 1) (by omega) (by omega))
        rw [s_seen, show 0 + k = k by omega, s_fa_CH hlt, nI_succ k]
        first
          | (rw [if_pos h_41]; rfl)
          | (rw [if_neg h_41, Int32.add_zero]; rfl)
  · exact absurd hb (bI_e0 h_9)
theorem c_X11_above (l : Launch) (Γ : Gm) {k : Nat} (h8 : 8 ≤ k) (hk : k < 15) : Ct l Γ yX11_above cX11_above 1 (some .int) 0 [.int (nI k)] [] (some (.int (nI (2 * (k - 8))))) [] := by
  refine Ct.of mi_X11_above [some (.int (nI k))] 0 rfl (Nat.le_of_ble_eq_true rfl) ?_
  intro p e s m args below meth c C hr
  refine ww_iload_n (i := 0) C dX11_above_0 rfl rfl 1 rfl ?_
  refine ww_bipush (v := 14) C dX11_above_1 (by decide) 3 rfl ?_
  refine ww_icmp_ne C 11 dX11_above_3 (by decide) 6 rfl (fun h_3 => ?_) (fun h_3 => ?_)
  · skip
    refine ww_iload_n (i := 0) C dX11_above_11 rfl rfl 12 rfl ?_
    refine ww_bipush (v := 12) C dX11_above_12 (by decide) 14 rfl ?_
    refine ww_icmp_ne C 22 dX11_above_14 (by decide) 17 rfl (fun h_14 => ?_) (fun h_14 => ?_)
    · skip
      refine ww_iload_n (i := 0) C dX11_above_22 rfl rfl 23 rfl ?_
      refine ww_bipush (v := 13) C dX11_above_23 (by decide) 25 rfl ?_
      refine ww_icmp_ne C 33 dX11_above_25 (by decide) 28 rfl (fun h_25 => ?_) (fun h_25 => ?_)
      · skip
        refine ww_iconst (v := 2) C dX11_above_33 (by decide) 34 rfl ?_
        refine ww_iload_n (i := 0) C dX11_above_34 rfl rfl 35 rfl ?_
        refine ww_bipush (v := 8) C dX11_above_35 (by decide) 37 rfl ?_
        refine ww_isub C dX11_above_37 38 rfl ?_
        refine ww_imul C dX11_above_38 39 rfl ?_
        try rw [show (8 : Int32) = nI 8 from rfl, pk_sub (by omega), show (2 : Int32) = nI 2 from rfl, pk_mul]
        exact ww_iret C hr dX11_above_39 rfl rfl
      · skip
        obtain rfl : k = 13 := (nI_eq (b := 13) (by omega) (by decide)).mp h_25
        refine ww_bipush (v := 10) C dX11_above_28 (by decide) 30 rfl ?_
        refine ww_goto C 39 dX11_above_30 (by decide) ?_
        try rw [show (8 : Int32) = nI 8 from rfl, pk_sub (by omega), show (2 : Int32) = nI 2 from rfl, pk_mul]
        exact ww_iret C hr dX11_above_39 rfl rfl
    · skip
      obtain rfl : k = 12 := (nI_eq (b := 12) (by omega) (by decide)).mp h_14
      refine ww_bipush (v := 8) C dX11_above_17 (by decide) 19 rfl ?_
      refine ww_goto C 39 dX11_above_19 (by decide) ?_
      try rw [show (8 : Int32) = nI 8 from rfl, pk_sub (by omega), show (2 : Int32) = nI 2 from rfl, pk_mul]
      exact ww_iret C hr dX11_above_39 rfl rfl
  · skip
    obtain rfl : k = 14 := (nI_eq (b := 14) (by omega) (by decide)).mp h_3
    refine ww_bipush (v := 12) C dX11_above_6 (by decide) 8 rfl ?_
    refine ww_goto C 39 dX11_above_8 (by decide) ?_
    try rw [show (8 : Int32) = nI 8 from rfl, pk_sub (by omega), show (2 : Int32) = nI 2 from rfl, pk_mul]
    exact ww_iret C hr dX11_above_39 rfl rfl
theorem or_ne {x y : Int32} (h : ¬ y = 0) : ¬ x ||| y = 0 := fun q => by
  apply h
  have q2 := congrArg Int32.toBitVec q
  apply Int32.toBitVec_inj.1
  rw [Int32.toBitVec_or] at q2
  apply BitVec.eq_of_getLsbD_eq
  intro i hi
  have q3 := congrArg (fun z => BitVec.getLsbD z i) q2
  simp at q3
  rw [q3.2]
  simp
theorem sh1_ne : ∀ j, j < 31 → ¬ (1 : Int32) <<< (nI j &&& 31) = 0 := by decide +kernel
theorem or_as (a b c : Int32) : a ||| b ||| c = a ||| (b ||| c) := by
  apply Int32.toBitVec_inj.1
  rw [Int32.toBitVec_or, Int32.toBitVec_or, Int32.toBitVec_or, Int32.toBitVec_or, BitVec.or_assoc]
theorem or_z (a : Int32) : a ||| 0 = a := by
  apply Int32.toBitVec_inj.1
  rw [Int32.toBitVec_or]
  show a.toBitVec ||| 0#32 = _
  rw [BitVec.or_zero]
set_option maxHeartbeats 4000000 in
theorem c_X11_point (l : Launch) (Γ : Gm) {hm : Nat} {q : Nat → Nat} {I : Nat → Int32} {n : Nat} {pl : Nat → Int32} (hc : I 5 = nI n) (hn : n < 65536)  : Ct l Γ yX11_point cX11_point 7 (some .int) 4 [.ref hm] ([wMo hm q (I), (q 6, .inl (Γ.2.1, 16, .inl (pl)))]) (some (.int (s_ep (lN (CH n)) 15).2)) ([wMo hm q (upd I 0 (0)), (q 6, .inl (Γ.2.1, 16, .inl (s_lay pl n)))]) := by
  refine Ct.of mi_X11_point [some (.ref hm), none, none, none, none, none, none] 6 rfl (Nat.le_of_ble_eq_true rfl) ?_
  intro p e s m args below meth c C hr
  refine ww_aload_n (i := 0) C dX11_point_0 rfl rfl 1 rfl ?_
  refine ww_iconst (v := 0) C dX11_point_1 (by decide) 2 rfl ?_
  refine ww_mput_0 C fe_X11_52 dX11_point_2 5 rfl ?_
  refine ww_aload_n (i := 0) C dX11_point_5 rfl rfl 6 rfl ?_
  refine ww_aload_n (i := 0) C dX11_point_6 rfl rfl 7 rfl ?_
  refine ww_get C fe_X11_81 dX11_point_7 0 rfl rfl 10 rfl ?_
  rw [show upd I 0 0 5 = nI n from hc]
  refine ww_callV1v C (c_X11_lay l Γ hn) mi_X11_lay im_X11_lay se_X11_lay ml_X11_86 dX11_point_10 0 rfl rfl rfl (Nat.le_of_ble_eq_true rfl) (Nat.le_of_ble_eq_true rfl) (Nat.le_of_ble_eq_true rfl) ⟨Nat.zero_le _, Nat.zero_le _⟩ [0, 1] rfl (by decide) rfl 13 rfl ?_
  refine ww_sipush (v := 16384) C dX11_point_13 (by decide) 16 rfl ?_
  refine ww_istore_n (i := 1) C dX11_point_16 rfl (by decide) rfl 17 rfl ?_
  refine ww_iconst (v := 0) C dX11_point_17 (by decide) 18 rfl ?_
  refine ww_istore_n (i := 2) C dX11_point_18 rfl (by decide) rfl 19 rfl ?_
  refine ww_bipush (v := 14) C dX11_point_19 (by decide) 21 rfl ?_
  refine ww_istore_n (i := 3) C dX11_point_21 rfl (by decide) rfl 22 rfl ?_
  refine ww_eq (ws' := [wMo hm q (upd I 0 (0)), (q 6, .inl (Γ.2.1, 16, .inl (s_lay pl n)))]) rfl rfl rfl ?_
  refine ww_loop (fun k : Nat => 15 - k) (fun k => k ≤ 15) (fun _ => [wMo hm q (upd I 0 (0)), (q 6, .inl (Γ.2.1, 16, .inl (s_lay pl n)))]) (fun k => [some (.ref hm), some (.int (s_ep (lN (CH n)) k).1), some (.int (s_ep (lN (CH n)) k).2), some (.int (nI 14 - nI k)), none, none, none]) (0 : Nat) (by omega) rfl rfl (fun k hk ih => ?_)
  try dsimp only at hk ih ⊢
  refine ww_iload_n (i := 3) C dX11_point_22 rfl rfl 23 rfl ?_
  refine ww_if_lt C 119 dX11_point_23 (by decide) 26 rfl (fun h_23 => ?_) (fun h_23 => ?_)
  · skip
    obtain rfl : k = 15 := by
      rcases Nat.lt_or_ge k 15 with z | z
      · rw [pk_sub (show k ≤ 14 by omega)] at h_23; exact absurd h_23 (nI_pos (by omega))
      · omega
    refine ww_iload_n (i := 2) C dX11_point_119 rfl rfl 120 rfl ?_
    exact ww_iret C hr dX11_point_120 rfl rfl
  · skip
    have hlt : k < 15 := Nat.lt_of_not_le fun q => h_23 (by obtain rfl : k = 15 := (by omega); decide)
    rw [pk_sub (show k ≤ 14 by omega)]
    refine ww_iload_n (i := 1) C dX11_point_26 rfl rfl 27 rfl ?_
    refine ww_iload_n (i := 3) C dX11_point_27 rfl rfl 28 rfl ?_
    refine ww_ishr C dX11_point_28 29 rfl ?_
    refine ww_iconst (v := 1) C dX11_point_29 (by decide) 30 rfl ?_
    refine ww_iand C dX11_point_30 31 rfl ?_
    refine ww_iconst (v := 1) C dX11_point_31 (by decide) 32 rfl ?_
    refine ww_icmp_ne C 113 dX11_point_32 (by decide) 35 rfl (fun h_32 => ?_) (fun h_32 => ?_)
    · skip
      try (have hz32 : ((s_ep (lN (CH n)) k).1 >>> (nI (14 - k) &&& 31)) &&& 1 = 0 := (and1_01 _).elim id (fun q => absurd q h_32))
      refine ww_iinc (y := (-1)) C dX11_point_113 rfl (by decide) (by decide) rfl 116 rfl ?_
      refine ww_goto C 22 dX11_point_116 (by decide) ?_
      have e9 : nI 14 - nI (k + 1) = nI (14 - k) + (-1) := by rw [nI_succ k, ← pk_sub (show k ≤ 14 by omega)]; exact ep_sub _ _
      refine ww_lv (lv' := [some (.ref hm), some (.int (s_ep (lN (CH n)) (k + 1)).1), some (.int (s_ep (lN (CH n)) (k + 1)).2), some (.int (nI 14 - nI (k + 1))), none, none, none]) ?_ (ih (k + 1) (by omega) (by omega))
      rw [e9, s_ep]
      first
        | (rw [if_pos hz32]; exact (lvle_same (lvle_same (lvle_same (lvle_same (lvle_none (lvle_none (lvle_none lvle_nil))))))))
        | (rw [if_neg hz32, if_neg hwn, ← hwu, or_z]; exact (lvle_same (lvle_same (lvle_same (lvle_same (lvle_none (lvle_none (lvle_none lvle_nil))))))))
        | (rw [if_neg hz32, if_pos hwn, ← hwu]; exact (lvle_same (lvle_same (lvle_same (lvle_same (lvle_none (lvle_none (lvle_none lvle_nil))))))))
    · skip
      have hz32 : ¬ ((s_ep (lN (CH n)) k).1 >>> (nI (14 - k) &&& 31)) &&& 1 = 0 := fun q => absurd (q.symm.trans h_32) (by decide)
      refine ww_iconst (v := 0) C dX11_point_35 (by decide) 36 rfl ?_
      refine ww_istore C dX11_point_36 (by decide) rfl 38 rfl ?_
      refine ww_iconst (v := 0) C dX11_point_38 (by decide) 39 rfl ?_
      refine ww_istore C dX11_point_39 (by decide) rfl 41 rfl ?_
      refine ww_lv (lv' := [some (.ref hm), some (.int (s_ep (lN (CH n)) k).1), some (.int (s_ep (lN (CH n)) k).2), some (.int (nI (14 - k))), some (.int 0), some (.int (nI 0)), none]) (lvle_same (lvle_same (lvle_same (lvle_same (lvle_same (lvle_same (lvle_none lvle_nil))))))) ?_
      refine ww_loop (fun x : Nat × Int32 × Int32 => 2 - x.1) (fun x => x.1 ≤ 2 ∧ (14 - k < 8 → x.1 = 0) ∧ x.2.1 = (s_ep (lN (CH n)) k).1 ||| (s_wu1 (lN (CH n)) (nI (14 - k)) (2 * (14 - k - 8)) x.1) ∧ x.2.2 = bI (¬ s_wu1 (lN (CH n)) (nI (14 - k)) (2 * (14 - k - 8)) x.1 = 0)) (fun _ => [wMo hm q (upd I 0 (0)), (q 6, .inl (Γ.2.1, 16, .inl (s_lay pl n)))]) (fun x => [some (.ref hm), some (.int x.2.1), some (.int (s_ep (lN (CH n)) k).2), some (.int (nI (14 - k))), some (.int x.2.2), some (.int (nI x.1)), none]) (0, (s_ep (lN (CH n)) k).1, 0) ⟨by omega, fun _ => rfl, (or_z _).symm, rfl⟩ rfl rfl (fun x hx ih2 => ?_)
      obtain ⟨j, met, on⟩ := x
      obtain ⟨hj, hj8, hmet, hon⟩ := hx
      try dsimp only at hj hj8 hmet hon ih2 ⊢
      refine ww_iload C dX11_point_41 rfl 43 rfl ?_
      refine ww_iconst (v := 2) C dX11_point_43 (by decide) 44 rfl ?_
      refine ww_icmp_ge C 98 dX11_point_44 (by decide) 47 rfl (fun h_44 => ?_) (fun h_44 => ?_)
      · skip
        have hwu : met = (s_ep (lN (CH n)) k).1 ||| s_wu (lN (CH n)) (14 - k) := by
          rw [hmet, s_wu]
          first
            | (have e2 : j = 2 := eqN (n := 2) h_44 hj (by decide)
               subst e2
               rw [if_neg (fun q => absurd (hj8 q) (by decide))])
            | (have q8 : 14 - k < 8 := by
                 have := (nI_leI (b := 7) (by omega) (by decide)).mp h_50
                 omega
               rw [if_pos q8, hj8 q8]; rfl)
        have hwo : on = bI (¬ s_wu (lN (CH n)) (14 - k) = 0) := by
          rw [hon, s_wu]
          first
            | (have e2 : j = 2 := eqN (n := 2) h_44 hj (by decide)
               subst e2
               rw [if_neg (fun q => absurd (hj8 q) (by decide))])
            | (have q8 : 14 - k < 8 := by
                 have := (nI_leI (b := 7) (by omega) (by decide)).mp h_50
                 omega
               rw [if_pos q8, hj8 q8]; rfl)
        refine ww_iload_n (i := 2) C dX11_point_98 rfl rfl 99 rfl ?_
        refine ww_iload C dX11_point_99 rfl 101 rfl ?_
        refine ww_if_eq C 108 dX11_point_101 (by decide) 104 rfl (fun h_101 => ?_) (fun h_101 => ?_)
        · skip
          have hwn : s_wu (lN (CH n)) (14 - k) = 0 := by rw [hwo] at h_101; exact Decidable.byContradiction (bI_e0 h_101)
          refine ww_iconst (v := 1) C dX11_point_108 (by decide) 109 rfl ?_
          refine ww_iload_n (i := 3) C dX11_point_109 rfl rfl 110 rfl ?_
          refine ww_ishl C dX11_point_110 111 rfl ?_
          refine ww_ior C dX11_point_111 112 rfl ?_
          refine ww_istore_n (i := 2) C dX11_point_112 rfl (by decide) rfl 113 rfl ?_
          try (have hz32 : ((s_ep (lN (CH n)) k).1 >>> (nI (14 - k) &&& 31)) &&& 1 = 0 := (and1_01 _).elim id (fun q => absurd q h_32))
          refine ww_iinc (y := (-1)) C dX11_point_113 rfl (by decide) (by decide) rfl 116 rfl ?_
          refine ww_goto C 22 dX11_point_116 (by decide) ?_
          have e9 : nI 14 - nI (k + 1) = nI (14 - k) + (-1) := by rw [nI_succ k, ← pk_sub (show k ≤ 14 by omega)]; exact ep_sub _ _
          refine ww_lv (lv' := [some (.ref hm), some (.int (s_ep (lN (CH n)) (k + 1)).1), some (.int (s_ep (lN (CH n)) (k + 1)).2), some (.int (nI 14 - nI (k + 1))), none, none, none]) ?_ (ih (k + 1) (by omega) (by omega))
          rw [e9, s_ep]
          first
            | (rw [if_pos hz32]; exact (lvle_same (lvle_same (lvle_same (lvle_same (lvle_none (lvle_none (lvle_none lvle_nil))))))))
            | (rw [if_neg hz32, if_neg hwn, ← hwu, or_z]; exact (lvle_same (lvle_same (lvle_same (lvle_same (lvle_none (lvle_none (lvle_none lvle_nil))))))))
            | (rw [if_neg hz32, if_pos hwn, ← hwu]; exact (lvle_same (lvle_same (lvle_same (lvle_same (lvle_none (lvle_none (lvle_none lvle_nil))))))))
        · skip
          have hwn : ¬ s_wu (lN (CH n)) (14 - k) = 0 := by rw [hwo] at h_101; exact bI_n0 h_101
          refine ww_iconst (v := 0) C dX11_point_104 (by decide) 105 rfl ?_
          refine ww_goto C 111 dX11_point_105 (by decide) ?_
          refine ww_ior C dX11_point_111 112 rfl ?_
          refine ww_istore_n (i := 2) C dX11_point_112 rfl (by decide) rfl 113 rfl ?_
          try (have hz32 : ((s_ep (lN (CH n)) k).1 >>> (nI (14 - k) &&& 31)) &&& 1 = 0 := (and1_01 _).elim id (fun q => absurd q h_32))
          refine ww_iinc (y := (-1)) C dX11_point_113 rfl (by decide) (by decide) rfl 116 rfl ?_
          refine ww_goto C 22 dX11_point_116 (by decide) ?_
          have e9 : nI 14 - nI (k + 1) = nI (14 - k) + (-1) := by rw [nI_succ k, ← pk_sub (show k ≤ 14 by omega)]; exact ep_sub _ _
          refine ww_lv (lv' := [some (.ref hm), some (.int (s_ep (lN (CH n)) (k + 1)).1), some (.int (s_ep (lN (CH n)) (k + 1)).2), some (.int (nI 14 - nI (k + 1))), none, none, none]) ?_ (ih (k + 1) (by omega) (by omega))
          rw [e9, s_ep]
          first
            | (rw [if_pos hz32]; exact (lvle_same (lvle_same (lvle_same (lvle_same (lvle_none (lvle_none (lvle_none lvle_nil))))))))
            | (rw [if_neg hz32, if_neg hwn, ← hwu, or_z]; exact (lvle_same (lvle_same (lvle_same (lvle_same (lvle_none (lvle_none (lvle_none lvle_nil))))))))
            | (rw [if_neg hz32, if_pos hwn, ← hwu]; exact (lvle_same (lvle_same (lvle_same (lvle_same (lvle_none (lvle_none (lvle_none lvle_nil))))))))
      · skip
        refine ww_iload_n (i := 3) C dX11_point_47 rfl rfl 48 rfl ?_
        refine ww_bipush (v := 7) C dX11_point_48 (by decide) 50 rfl ?_
        refine ww_icmp_le C 98 dX11_point_50 (by decide) 53 rfl (fun h_50 => ?_) (fun h_50 => ?_)
        · skip
          have hwu : met = (s_ep (lN (CH n)) k).1 ||| s_wu (lN (CH n)) (14 - k) := by
            rw [hmet, s_wu]
            first
              | (have e2 : j = 2 := eqN (n := 2) h_44 hj (by decide)
                 subst e2
                 rw [if_neg (fun q => absurd (hj8 q) (by decide))])
              | (have q8 : 14 - k < 8 := by
                   have := (nI_leI (b := 7) (by omega) (by decide)).mp h_50
                   omega
                 rw [if_pos q8, hj8 q8]; rfl)
          have hwo : on = bI (¬ s_wu (lN (CH n)) (14 - k) = 0) := by
            rw [hon, s_wu]
            first
              | (have e2 : j = 2 := eqN (n := 2) h_44 hj (by decide)
                 subst e2
                 rw [if_neg (fun q => absurd (hj8 q) (by decide))])
              | (have q8 : 14 - k < 8 := by
                   have := (nI_leI (b := 7) (by omega) (by decide)).mp h_50
                   omega
                 rw [if_pos q8, hj8 q8]; rfl)
          refine ww_iload_n (i := 2) C dX11_point_98 rfl rfl 99 rfl ?_
          refine ww_iload C dX11_point_99 rfl 101 rfl ?_
          refine ww_if_eq C 108 dX11_point_101 (by decide) 104 rfl (fun h_101 => ?_) (fun h_101 => ?_)
          · skip
            have hwn : s_wu (lN (CH n)) (14 - k) = 0 := by rw [hwo] at h_101; exact Decidable.byContradiction (bI_e0 h_101)
            refine ww_iconst (v := 1) C dX11_point_108 (by decide) 109 rfl ?_
            refine ww_iload_n (i := 3) C dX11_point_109 rfl rfl 110 rfl ?_
            refine ww_ishl C dX11_point_110 111 rfl ?_
            refine ww_ior C dX11_point_111 112 rfl ?_
            refine ww_istore_n (i := 2) C dX11_point_112 rfl (by decide) rfl 113 rfl ?_
            try (have hz32 : ((s_ep (lN (CH n)) k).1 >>> (nI (14 - k) &&& 31)) &&& 1 = 0 := (and1_01 _).elim id (fun q => absurd q h_32))
            refine ww_iinc (y := (-1)) C dX11_point_113 rfl (by decide) (by decide) rfl 116 rfl ?_
            refine ww_goto C 22 dX11_point_116 (by decide) ?_
            have e9 : nI 14 - nI (k + 1) = nI (14 - k) + (-1) := by rw [nI_succ k, ← pk_sub (show k ≤ 14 by omega)]; exact ep_sub _ _
            refine ww_lv (lv' := [some (.ref hm), some (.int (s_ep (lN (CH n)) (k + 1)).1), some (.int (s_ep (lN (CH n)) (k + 1)).2), some (.int (nI 14 - nI (k + 1))), none, none, none]) ?_ (ih (k + 1) (by omega) (by omega))
            rw [e9, s_ep]
            first
              | (rw [if_pos hz32]; exact (lvle_same (lvle_same (lvle_same (lvle_same (lvle_none (lvle_none (lvle_none lvle_nil))))))))
              | (rw [if_neg hz32, if_neg hwn, ← hwu, or_z]; exact (lvle_same (lvle_same (lvle_same (lvle_same (lvle_none (lvle_none (lvle_none lvle_nil))))))))
              | (rw [if_neg hz32, if_pos hwn, ← hwu]; exact (lvle_same (lvle_same (lvle_same (lvle_same (lvle_none (lvle_none (lvle_none lvle_nil))))))))
          · skip
            have hwn : ¬ s_wu (lN (CH n)) (14 - k) = 0 := by rw [hwo] at h_101; exact bI_n0 h_101
            refine ww_iconst (v := 0) C dX11_point_104 (by decide) 105 rfl ?_
            refine ww_goto C 111 dX11_point_105 (by decide) ?_
            refine ww_ior C dX11_point_111 112 rfl ?_
            refine ww_istore_n (i := 2) C dX11_point_112 rfl (by decide) rfl 113 rfl ?_
            try (have hz32 : ((s_ep (lN (CH n)) k).1 >>> (nI (14 - k) &&& 31)) &&& 1 = 0 := (and1_01 _).elim id (fun q => absurd q h_32))
            refine ww_iinc (y := (-1)) C dX11_point_113 rfl (by decide) (by decide) rfl 116 rfl ?_
            refine ww_goto C 22 dX11_point_116 (by decide) ?_
            have e9 : nI 14 - nI (k + 1) = nI (14 - k) + (-1) := by rw [nI_succ k, ← pk_sub (show k ≤ 14 by omega)]; exact ep_sub _ _
            refine ww_lv (lv' := [some (.ref hm), some (.int (s_ep (lN (CH n)) (k + 1)).1), some (.int (s_ep (lN (CH n)) (k + 1)).2), some (.int (nI 14 - nI (k + 1))), none, none, none]) ?_ (ih (k + 1) (by omega) (by omega))
            rw [e9, s_ep]
            first
              | (rw [if_pos hz32]; exact (lvle_same (lvle_same (lvle_same (lvle_same (lvle_none (lvle_none (lvle_none lvle_nil))))))))
              | (rw [if_neg hz32, if_neg hwn, ← hwu, or_z]; exact (lvle_same (lvle_same (lvle_same (lvle_same (lvle_none (lvle_none (lvle_none lvle_nil))))))))
              | (rw [if_neg hz32, if_pos hwn, ← hwu]; exact (lvle_same (lvle_same (lvle_same (lvle_same (lvle_none (lvle_none (lvle_none lvle_nil))))))))
        · skip
          have hlj : j < 2 := ltN (n := 2) h_44 (by decide) (by omega)
          have h8 : 8 ≤ 14 - k := by
            rcases Nat.lt_or_ge (14 - k) 8 with q | q
            · exact absurd (nI_le (b := 7) (by omega) (by decide)) h_50
            · exact q
          refine ww_iload_n (i := 3) C dX11_point_53 rfl rfl 54 rfl ?_
          refine ww_callS1p C (c_X11_above l Γ h8 (by omega)) mi_X11_above st_X11_above ml_X11_93 dX11_point_54 (Nat.le_of_ble_eq_true rfl) (Nat.le_of_ble_eq_true rfl) (Nat.le_of_ble_eq_true rfl) ⟨Nat.zero_le _, Nat.zero_le _⟩ [] rfl (by decide) 57 rfl ?_
          refine ww_iload C dX11_point_57 rfl 59 rfl ?_
          refine ww_iadd C dX11_point_59 60 rfl ?_
          rw [nI_add]
          refine ww_istore C dX11_point_60 (by decide) rfl 62 rfl ?_
          refine ww_aload_n (i := 0) C dX11_point_62 rfl rfl 63 rfl ?_
          refine ww_get C fe_X11_19 dX11_point_63 0 rfl rfl 66 rfl ?_
          refine ww_iload C dX11_point_66 rfl 68 rfl ?_
          refine ww_iald C dX11_point_68 1 rfl (vp_in_nI (by omega) (by decide)) 69 rfl ?_
          rw [nI_clamp (show 2 * (14 - k - 8) + j < 2 ^ 31 by omega), s_lay_at (show 2 * (14 - k - 8) + j < 16 by omega)]
          refine ww_iconst (v := 1) C dX11_point_69 (by decide) 70 rfl ?_
          refine ww_iand C dX11_point_70 71 rfl ?_
          refine ww_aload_n (i := 0) C dX11_point_71 rfl rfl 72 rfl ?_
          refine ww_get C fe_X11_19 dX11_point_72 0 rfl rfl 75 rfl ?_
          refine ww_iload_n (i := 3) C dX11_point_75 rfl rfl 76 rfl ?_
          refine ww_iald C dX11_point_76 1 rfl (vp_in_nI (by omega) (by decide)) 77 rfl ?_
          rw [nI_clamp (show 14 - k < 2 ^ 31 by omega), s_lay_at (show 14 - k < 16 by omega)]
          refine ww_iconst (v := 1) C dX11_point_77 (by decide) 78 rfl ?_
          refine ww_iand C dX11_point_78 79 rfl ?_
          refine ww_icmp_ne C 92 dX11_point_79 (by decide) 82 rfl (fun h_79 => ?_) (fun h_79 => ?_)
          · skip
            refine ww_iinc (y := 1) C dX11_point_92 rfl (by decide) (by decide) rfl 95 rfl ?_
            refine ww_goto C 41 dX11_point_95 (by decide) ?_
            first
              | (have hw2 : s_wu1 (lN (CH n)) (nI (14 - k)) (2 * (14 - k - 8)) (j + 1) = (s_wu1 (lN (CH n)) (nI (14 - k)) (2 * (14 - k - 8)) j) ||| ((1 : Int32) <<< (nI (2 * (14 - k - 8) + j) &&& 31)) := by
                   rw [s_wu1, s_fa_CH (by omega), s_fa_CH (by omega), if_pos ((xor_par _ (fg_lt n _) _ (fg_lt n _)).mpr h_79)]
                 refine ww_lv (lv' := [some (.ref hm), some (.int (met ||| ((1 : Int32) <<< (nI (2 * (14 - k - 8) + j) &&& 31)))), some (.int (s_ep (lN (CH n)) k).2), some (.int (nI (14 - k))), some (.int 1), some (.int (nI (j + 1))), none]) (by rw [nI_succ j]; exact (lvle_same (lvle_same (lvle_same (lvle_same (lvle_same (lvle_same (lvle_none lvle_nil)))))))) (ih2 (j + 1, met ||| ((1 : Int32) <<< (nI (2 * (14 - k - 8) + j) &&& 31)), 1) ⟨by omega, fun q => absurd q (by omega), by rw [hw2, hmet, or_as], ?_⟩ (by show 2 - (j + 1) < 2 - j; omega))
                 show (1 : Int32) = _
                 rw [bI_1]
                 rw [hw2]
                 exact or_ne (sh1_ne _ (by omega)))
              | (have hw2 : s_wu1 (lN (CH n)) (nI (14 - k)) (2 * (14 - k - 8)) (j + 1) = (s_wu1 (lN (CH n)) (nI (14 - k)) (2 * (14 - k - 8)) j) := by
                   rw [s_wu1, s_fa_CH (by omega), s_fa_CH (by omega), if_neg (fun z => h_79 ((xor_par _ (fg_lt n _) _ (fg_lt n _)).mp z))]
                 refine ww_lv (lv' := [some (.ref hm), some (.int met), some (.int (s_ep (lN (CH n)) k).2), some (.int (nI (14 - k))), some (.int on), some (.int (nI (j + 1))), none]) (by rw [nI_succ j]; exact (lvle_same (lvle_same (lvle_same (lvle_same (lvle_same (lvle_same (lvle_none lvle_nil)))))))) (ih2 (j + 1, met, on) ⟨by omega, fun q => absurd q (by omega), by rw [hw2]; exact hmet, by rw [hw2]; exact hon⟩ (by show 2 - (j + 1) < 2 - j; omega)))
          · skip
            refine ww_iload_n (i := 1) C dX11_point_82 rfl rfl 83 rfl ?_
            refine ww_iconst (v := 1) C dX11_point_83 (by decide) 84 rfl ?_
            refine ww_iload C dX11_point_84 rfl 86 rfl ?_
            refine ww_ishl C dX11_point_86 87 rfl ?_
            refine ww_ior C dX11_point_87 88 rfl ?_
            refine ww_istore_n (i := 1) C dX11_point_88 rfl (by decide) rfl 89 rfl ?_
            refine ww_iconst (v := 1) C dX11_point_89 (by decide) 90 rfl ?_
            refine ww_istore C dX11_point_90 (by decide) rfl 92 rfl ?_
            refine ww_iinc (y := 1) C dX11_point_92 rfl (by decide) (by decide) rfl 95 rfl ?_
            refine ww_goto C 41 dX11_point_95 (by decide) ?_
            first
              | (have hw2 : s_wu1 (lN (CH n)) (nI (14 - k)) (2 * (14 - k - 8)) (j + 1) = (s_wu1 (lN (CH n)) (nI (14 - k)) (2 * (14 - k - 8)) j) ||| ((1 : Int32) <<< (nI (2 * (14 - k - 8) + j) &&& 31)) := by
                   rw [s_wu1, s_fa_CH (by omega), s_fa_CH (by omega), if_pos ((xor_par _ (fg_lt n _) _ (fg_lt n _)).mpr h_79)]
                 refine ww_lv (lv' := [some (.ref hm), some (.int (met ||| ((1 : Int32) <<< (nI (2 * (14 - k - 8) + j) &&& 31)))), some (.int (s_ep (lN (CH n)) k).2), some (.int (nI (14 - k))), some (.int 1), some (.int (nI (j + 1))), none]) (by rw [nI_succ j]; exact (lvle_same (lvle_same (lvle_same (lvle_same (lvle_same (lvle_same (lvle_none lvle_nil)))))))) (ih2 (j + 1, met ||| ((1 : Int32) <<< (nI (2 * (14 - k - 8) + j) &&& 31)), 1) ⟨by omega, fun q => absurd q (by omega), by rw [hw2, hmet, or_as], ?_⟩ (by show 2 - (j + 1) < 2 - j; omega))
                 show (1 : Int32) = _
                 rw [bI_1]
                 rw [hw2]
                 exact or_ne (sh1_ne _ (by omega)))
              | (have hw2 : s_wu1 (lN (CH n)) (nI (14 - k)) (2 * (14 - k - 8)) (j + 1) = (s_wu1 (lN (CH n)) (nI (14 - k)) (2 * (14 - k - 8)) j) := by
                   rw [s_wu1, s_fa_CH (by omega), s_fa_CH (by omega), if_neg (fun z => h_79 ((xor_par _ (fg_lt n _) _ (fg_lt n _)).mp z))]
                 refine ww_lv (lv' := [some (.ref hm), some (.int met), some (.int (s_ep (lN (CH n)) k).2), some (.int (nI (14 - k))), some (.int on), some (.int (nI (j + 1))), none]) (by rw [nI_succ j]; exact (lvle_same (lvle_same (lvle_same (lvle_same (lvle_same (lvle_same (lvle_none lvle_nil)))))))) (ih2 (j + 1, met, on) ⟨by omega, fun q => absurd q (by omega), by rw [hw2]; exact hmet, by rw [hw2]; exact hon⟩ (by show 2 - (j + 1) < 2 - j; omega)))
