theorem c_X11_count_0 (l : Launch) (Γ : Gm) {hm : Nat} {q : Nat → Nat} {I : Nat → Int32} {ln : Nat → Int32} (hln : ∀ j, j < 8 → (ln j < 0 ↔ ln j = -1)) : Ct l Γ yX11_count cX11_count 4 (some .int) 4 [.ref hm, .int 0] ([wMo hm q (I), (q 2, .inl (Γ.2.1, 8, .inl (ln)))]) (some (.int (s_there ln 8))) ([wMo hm q (upd I 0 (0)), (q 2, .inl (Γ.2.1, 8, .inl (ln)))]) := by
  refine Ct.of mi_X11_count [some (.ref hm), some (.int 0), none, none] 2 rfl (Nat.le_of_ble_eq_true rfl) ?_
  intro p e s m args below meth c C hr
  refine ww_aload_n (i := 0) C dX11_count_0 rfl rfl 1 rfl ?_
  refine ww_iconst (v := 0) C dX11_count_1 (by decide) 2 rfl ?_
  refine ww_mput_0 C fe_X11_52 dX11_count_2 5 rfl ?_
  refine ww_iconst (v := 0) C dX11_count_5 (by decide) 6 rfl ?_
  refine ww_istore_n (i := 2) C dX11_count_6 rfl (by decide) rfl 7 rfl ?_
  refine ww_iload_n (i := 1) C dX11_count_7 rfl rfl 8 rfl ?_
  refine ww_ts7 C 123 52 85 90 95 107 113 118 dX11_count_8 (by decide) (by decide) (by decide) (by decide) (by decide) (by decide) (by decide) (by decide) (fun s0_8 => ?_) (fun s1_8 => ?_) (fun s2_8 => ?_) (fun s3_8 => ?_) (fun s4_8 => ?_) (fun s5_8 => ?_) (fun s6_8 => ?_) (fun sd_8 => ?_)
  · skip
    refine ww_iconst (v := 0) C dX11_count_52 (by decide) 53 rfl ?_
    refine ww_istore_n (i := 3) C dX11_count_53 rfl (by decide) rfl 54 rfl ?_
    refine ww_loop (fun j : Nat => 8 - j) (fun j => j ≤ 8) (fun _ => [wMo hm q (upd I 0 (0)), (q 2, .inl (Γ.2.1, 8, .inl (ln)))]) (fun j => [some (.ref hm), some (.int 0), some (.int (s_there ln j)), some (.int (nI j))]) (0 : Nat) (Nat.zero_le _) rfl rfl (fun j hj ih => ?_)
    try dsimp only at hj ih ⊢
    refine ww_iload_n (i := 3) C dX11_count_54 rfl rfl 55 rfl ?_
    refine ww_bipush (v := 8) C dX11_count_55 (by decide) 57 rfl ?_
    refine ww_icmp_ge C 83 dX11_count_57 (by decide) 60 rfl (fun h_57 => ?_) (fun h_57 => ?_)
    · skip
      obtain rfl : j = 8 := eqN (n := 8) h_57 hj (by decide)
      refine ww_iload_n (i := 2) C dX11_count_83 rfl rfl 84 rfl ?_
      exact ww_iret C hr dX11_count_84 rfl rfl
    · skip
      have hlt : j < 8 := ltN (n := 8) h_57 (by decide) (by omega)
      refine ww_iload_n (i := 2) C dX11_count_60 rfl rfl 61 rfl ?_
      refine ww_aload_n (i := 0) C dX11_count_61 rfl rfl 62 rfl ?_
      refine ww_get C fe_X11_7 dX11_count_62 0 rfl rfl 65 rfl ?_
      refine ww_iload_n (i := 3) C dX11_count_65 rfl rfl 66 rfl ?_
      refine ww_iald C dX11_count_66 1 rfl (vp_in_nI hlt (by decide)) 67 rfl ?_
      rw [nI_clamp (show j < 2 ^ 31 by omega)]
      refine ww_if_lt C 74 dX11_count_67 (by decide) 70 rfl (fun h_67 => ?_) (fun h_67 => ?_)
      · skip
        refine ww_iconst (v := 0) C dX11_count_74 (by decide) 75 rfl ?_
        refine ww_iadd C dX11_count_75 76 rfl ?_
        refine ww_istore_n (i := 2) C dX11_count_76 rfl (by decide) rfl 77 rfl ?_
        refine ww_iinc (y := 1) C dX11_count_77 rfl (by decide) (by decide) rfl 80 rfl ?_
        refine ww_goto C 54 dX11_count_80 (by decide) ?_
        refine ww_eq rfl ?_ rfl (ih (j + 1) (by omega) (by omega))
        rw [nI_succ j]
        first
          | (rw [s_there_1 ((hln j hlt).mp h_67), Int32.add_zero]; rfl)
          | (rw [s_there_0 (fun z => h_67 ((hln j hlt).mpr z))]; rfl)
      · skip
        refine ww_iconst (v := 1) C dX11_count_70 (by decide) 71 rfl ?_
        refine ww_goto C 75 dX11_count_71 (by decide) ?_
        refine ww_iadd C dX11_count_75 76 rfl ?_
        refine ww_istore_n (i := 2) C dX11_count_76 rfl (by decide) rfl 77 rfl ?_
        refine ww_iinc (y := 1) C dX11_count_77 rfl (by decide) (by decide) rfl 80 rfl ?_
        refine ww_goto C 54 dX11_count_80 (by decide) ?_
        refine ww_eq rfl ?_ rfl (ih (j + 1) (by omega) (by omega))
        rw [nI_succ j]
        first
          | (rw [s_there_1 ((hln j hlt).mp h_67), Int32.add_zero]; rfl)
          | (rw [s_there_0 (fun z => h_67 ((hln j hlt).mpr z))]; rfl)
  · skip
    exact absurd s1_8 (by decide)
  · skip
    exact absurd s2_8 (by decide)
  · skip
    exact absurd s3_8 (by decide)
  · skip
    exact absurd s4_8 (by decide)
  · skip
    exact absurd s5_8 (by decide)
  · skip
    exact absurd s6_8 (by decide)
  · skip
    exact absurd sd_8 (by decide)
theorem c_X11_count_1 (l : Launch) (Γ : Gm) {hm : Nat} {q : Nat → Nat} {I : Nat → Int32}  : Ct l Γ yX11_count cX11_count 4 (some .int) 4 [.ref hm, .int 1] ([wMo hm q (I)]) (some (.int (I 7))) ([wMo hm q (upd I 0 (0))]) := by
  refine Ct.of mi_X11_count [some (.ref hm), some (.int 1), none, none] 2 rfl (Nat.le_of_ble_eq_true rfl) ?_
  intro p e s m args below meth c C hr
  refine ww_aload_n (i := 0) C dX11_count_0 rfl rfl 1 rfl ?_
  refine ww_iconst (v := 0) C dX11_count_1 (by decide) 2 rfl ?_
  refine ww_mput_0 C fe_X11_52 dX11_count_2 5 rfl ?_
  refine ww_iconst (v := 0) C dX11_count_5 (by decide) 6 rfl ?_
  refine ww_istore_n (i := 2) C dX11_count_6 rfl (by decide) rfl 7 rfl ?_
  refine ww_iload_n (i := 1) C dX11_count_7 rfl rfl 8 rfl ?_
  refine ww_ts7 C 123 52 85 90 95 107 113 118 dX11_count_8 (by decide) (by decide) (by decide) (by decide) (by decide) (by decide) (by decide) (by decide) (fun s0_8 => ?_) (fun s1_8 => ?_) (fun s2_8 => ?_) (fun s3_8 => ?_) (fun s4_8 => ?_) (fun s5_8 => ?_) (fun s6_8 => ?_) (fun sd_8 => ?_)
  · skip
    exact absurd s0_8 (by decide)
  · skip
    refine ww_aload_n (i := 0) C dX11_count_85 rfl rfl 86 rfl ?_
    refine ww_get C fe_X11_189 dX11_count_86 0 rfl rfl 89 rfl ?_
    exact ww_iret C hr dX11_count_89 rfl rfl
  · skip
    exact absurd s2_8 (by decide)
  · skip
    exact absurd s3_8 (by decide)
  · skip
    exact absurd s4_8 (by decide)
  · skip
    exact absurd s5_8 (by decide)
  · skip
    exact absurd s6_8 (by decide)
  · skip
    exact absurd sd_8 (by decide)
theorem c_X11_count_2 (l : Launch) (Γ : Gm) {hm : Nat} {q : Nat → Nat} {I : Nat → Int32}  : Ct l Γ yX11_count cX11_count 4 (some .int) 4 [.ref hm, .int 2] ([wMo hm q (I)]) (some (.int (I 25))) ([wMo hm q (upd I 0 (0))]) := by
  refine Ct.of mi_X11_count [some (.ref hm), some (.int 2), none, none] 2 rfl (Nat.le_of_ble_eq_true rfl) ?_
  intro p e s m args below meth c C hr
  refine ww_aload_n (i := 0) C dX11_count_0 rfl rfl 1 rfl ?_
  refine ww_iconst (v := 0) C dX11_count_1 (by decide) 2 rfl ?_
  refine ww_mput_0 C fe_X11_52 dX11_count_2 5 rfl ?_
  refine ww_iconst (v := 0) C dX11_count_5 (by decide) 6 rfl ?_
  refine ww_istore_n (i := 2) C dX11_count_6 rfl (by decide) rfl 7 rfl ?_
  refine ww_iload_n (i := 1) C dX11_count_7 rfl rfl 8 rfl ?_
  refine ww_ts7 C 123 52 85 90 95 107 113 118 dX11_count_8 (by decide) (by decide) (by decide) (by decide) (by decide) (by decide) (by decide) (by decide) (fun s0_8 => ?_) (fun s1_8 => ?_) (fun s2_8 => ?_) (fun s3_8 => ?_) (fun s4_8 => ?_) (fun s5_8 => ?_) (fun s6_8 => ?_) (fun sd_8 => ?_)
  · skip
    exact absurd s0_8 (by decide)
  · skip
    exact absurd s1_8 (by decide)
  · skip
    refine ww_aload_n (i := 0) C dX11_count_90 rfl rfl 91 rfl ?_
    refine ww_get C fe_X11_198 dX11_count_91 0 rfl rfl 94 rfl ?_
    exact ww_iret C hr dX11_count_94 rfl rfl
  · skip
    exact absurd s3_8 (by decide)
  · skip
    exact absurd s4_8 (by decide)
  · skip
    exact absurd s5_8 (by decide)
  · skip
    exact absurd s6_8 (by decide)
  · skip
    exact absurd sd_8 (by decide)
theorem c_X11_count_3 (l : Launch) (Γ : Gm) {hm : Nat} {q : Nat → Nat} {I : Nat → Int32} {z : Nat} {en : Nat → Int32} (h25 : I 25 = nI z) (hz : z ≤ 100) : Ct l Γ yX11_count cX11_count 4 (some .int) 4 [.ref hm, .int 3] ([wMo hm q (I), (q 27, .inl (Γ.2.1, 100, .inl (en)))]) (some (.int (s_cnt en (fun _ => true) 0 z + s_cnt en (fun _ => true) 1 z))) ([wMo hm q (upd I 0 (0)), (q 27, .inl (Γ.2.1, 100, .inl (en)))]) := by
  refine Ct.of mi_X11_count [some (.ref hm), some (.int 3), none, none] 2 rfl (Nat.le_of_ble_eq_true rfl) ?_
  intro p e s m args below meth c C hr
  refine ww_aload_n (i := 0) C dX11_count_0 rfl rfl 1 rfl ?_
  refine ww_iconst (v := 0) C dX11_count_1 (by decide) 2 rfl ?_
  refine ww_mput_0 C fe_X11_52 dX11_count_2 5 rfl ?_
  refine ww_iconst (v := 0) C dX11_count_5 (by decide) 6 rfl ?_
  refine ww_istore_n (i := 2) C dX11_count_6 rfl (by decide) rfl 7 rfl ?_
  refine ww_iload_n (i := 1) C dX11_count_7 rfl rfl 8 rfl ?_
  refine ww_ts7 C 123 52 85 90 95 107 113 118 dX11_count_8 (by decide) (by decide) (by decide) (by decide) (by decide) (by decide) (by decide) (by decide) (fun s0_8 => ?_) (fun s1_8 => ?_) (fun s2_8 => ?_) (fun s3_8 => ?_) (fun s4_8 => ?_) (fun s5_8 => ?_) (fun s6_8 => ?_) (fun sd_8 => ?_)
  · skip
    exact absurd s0_8 (by decide)
  · skip
    exact absurd s1_8 (by decide)
  · skip
    exact absurd s2_8 (by decide)
  · skip
    refine ww_aload_n (i := 0) C dX11_count_95 rfl rfl 96 rfl ?_
    refine ww_iconst (v := 0) C dX11_count_96 (by decide) 97 rfl ?_
    refine ww_callV1p C (c_X11_cameSo l Γ (I := upd I 0 0) h25 hz) mi_X11_cameSo im_X11_cameSo se_X11_cameSo ml_X11_204 dX11_count_97 0 rfl rfl rfl (Nat.le_of_ble_eq_true rfl) (Nat.le_of_ble_eq_true rfl) (Nat.le_of_ble_eq_true rfl) ⟨Nat.zero_le _, Nat.zero_le _⟩ [0, 1] rfl (by decide) 100 rfl ?_
    refine ww_aload_n (i := 0) C dX11_count_100 rfl rfl 101 rfl ?_
    refine ww_iconst (v := 1) C dX11_count_101 (by decide) 102 rfl ?_
    refine ww_callV1p C (c_X11_cameSo l Γ (I := upd I 0 0) h25 hz) mi_X11_cameSo im_X11_cameSo se_X11_cameSo ml_X11_204 dX11_count_102 0 rfl rfl rfl (Nat.le_of_ble_eq_true rfl) (Nat.le_of_ble_eq_true rfl) (Nat.le_of_ble_eq_true rfl) ⟨Nat.zero_le _, Nat.zero_le _⟩ [0, 1] rfl (by decide) 105 rfl ?_
    refine ww_iadd C dX11_count_105 106 rfl ?_
    exact ww_iret C hr dX11_count_106 rfl rfl
  · skip
    exact absurd s4_8 (by decide)
  · skip
    exact absurd s5_8 (by decide)
  · skip
    exact absurd s6_8 (by decide)
  · skip
    exact absurd sd_8 (by decide)
theorem c_X11_count_4 (l : Launch) (Γ : Gm) {hm : Nat} {q : Nat → Nat} {I : Nat → Int32} {z : Nat} {en : Nat → Int32} (h25 : I 25 = nI z) (hz : z ≤ 100) : Ct l Γ yX11_count cX11_count 4 (some .int) 4 [.ref hm, .int 4] ([wMo hm q (I), (q 27, .inl (Γ.2.1, 100, .inl (en)))]) (some (.int (s_cnt en (fun _ => true) 1 z))) ([wMo hm q (upd I 0 (0)), (q 27, .inl (Γ.2.1, 100, .inl (en)))]) := by
  refine Ct.of mi_X11_count [some (.ref hm), some (.int 4), none, none] 2 rfl (Nat.le_of_ble_eq_true rfl) ?_
  intro p e s m args below meth c C hr
  refine ww_aload_n (i := 0) C dX11_count_0 rfl rfl 1 rfl ?_
  refine ww_iconst (v := 0) C dX11_count_1 (by decide) 2 rfl ?_
  refine ww_mput_0 C fe_X11_52 dX11_count_2 5 rfl ?_
  refine ww_iconst (v := 0) C dX11_count_5 (by decide) 6 rfl ?_
  refine ww_istore_n (i := 2) C dX11_count_6 rfl (by decide) rfl 7 rfl ?_
  refine ww_iload_n (i := 1) C dX11_count_7 rfl rfl 8 rfl ?_
  refine ww_ts7 C 123 52 85 90 95 107 113 118 dX11_count_8 (by decide) (by decide) (by decide) (by decide) (by decide) (by decide) (by decide) (by decide) (fun s0_8 => ?_) (fun s1_8 => ?_) (fun s2_8 => ?_) (fun s3_8 => ?_) (fun s4_8 => ?_) (fun s5_8 => ?_) (fun s6_8 => ?_) (fun sd_8 => ?_)
  · skip
    exact absurd s0_8 (by decide)
  · skip
    exact absurd s1_8 (by decide)
  · skip
    exact absurd s2_8 (by decide)
  · skip
    exact absurd s3_8 (by decide)
  · skip
    refine ww_aload_n (i := 0) C dX11_count_107 rfl rfl 108 rfl ?_
    refine ww_iconst (v := 1) C dX11_count_108 (by decide) 109 rfl ?_
    refine ww_callV1p C (c_X11_cameSo l Γ (I := upd I 0 0) h25 hz) mi_X11_cameSo im_X11_cameSo se_X11_cameSo ml_X11_204 dX11_count_109 0 rfl rfl rfl (Nat.le_of_ble_eq_true rfl) (Nat.le_of_ble_eq_true rfl) (Nat.le_of_ble_eq_true rfl) ⟨Nat.zero_le _, Nat.zero_le _⟩ [0, 1] rfl (by decide) 112 rfl ?_
    exact ww_iret C hr dX11_count_112 rfl rfl
  · skip
    exact absurd s5_8 (by decide)
  · skip
    exact absurd s6_8 (by decide)
  · skip
    exact absurd sd_8 (by decide)
theorem c_X11_count_5 (l : Launch) (Γ : Gm) {hm : Nat} {q : Nat → Nat} {I : Nat → Int32}  : Ct l Γ yX11_count cX11_count 4 (some .int) 4 [.ref hm, .int 5] ([wMo hm q (I)]) (some (.int (I 16))) ([wMo hm q (upd I 0 (0))]) := by
  refine Ct.of mi_X11_count [some (.ref hm), some (.int 5), none, none] 2 rfl (Nat.le_of_ble_eq_true rfl) ?_
  intro p e s m args below meth c C hr
  refine ww_aload_n (i := 0) C dX11_count_0 rfl rfl 1 rfl ?_
  refine ww_iconst (v := 0) C dX11_count_1 (by decide) 2 rfl ?_
  refine ww_mput_0 C fe_X11_52 dX11_count_2 5 rfl ?_
  refine ww_iconst (v := 0) C dX11_count_5 (by decide) 6 rfl ?_
  refine ww_istore_n (i := 2) C dX11_count_6 rfl (by decide) rfl 7 rfl ?_
  refine ww_iload_n (i := 1) C dX11_count_7 rfl rfl 8 rfl ?_
  refine ww_ts7 C 123 52 85 90 95 107 113 118 dX11_count_8 (by decide) (by decide) (by decide) (by decide) (by decide) (by decide) (by decide) (by decide) (fun s0_8 => ?_) (fun s1_8 => ?_) (fun s2_8 => ?_) (fun s3_8 => ?_) (fun s4_8 => ?_) (fun s5_8 => ?_) (fun s6_8 => ?_) (fun sd_8 => ?_)
  · skip
    exact absurd s0_8 (by decide)
  · skip
    exact absurd s1_8 (by decide)
  · skip
    exact absurd s2_8 (by decide)
  · skip
    exact absurd s3_8 (by decide)
  · skip
    exact absurd s4_8 (by decide)
  · skip
    refine ww_aload_n (i := 0) C dX11_count_113 rfl rfl 114 rfl ?_
    refine ww_get C fe_X11_107 dX11_count_114 0 rfl rfl 117 rfl ?_
    exact ww_iret C hr dX11_count_117 rfl rfl
  · skip
    exact absurd s6_8 (by decide)
  · skip
    exact absurd sd_8 (by decide)
theorem c_X11_count_6 (l : Launch) (Γ : Gm) {hm : Nat} {q : Nat → Nat} {I : Nat → Int32}  : Ct l Γ yX11_count cX11_count 4 (some .int) 4 [.ref hm, .int 6] ([wMo hm q (I)]) (some (.int (I 5))) ([wMo hm q (upd I 0 (0))]) := by
  refine Ct.of mi_X11_count [some (.ref hm), some (.int 6), none, none] 2 rfl (Nat.le_of_ble_eq_true rfl) ?_
  intro p e s m args below meth c C hr
  refine ww_aload_n (i := 0) C dX11_count_0 rfl rfl 1 rfl ?_
  refine ww_iconst (v := 0) C dX11_count_1 (by decide) 2 rfl ?_
  refine ww_mput_0 C fe_X11_52 dX11_count_2 5 rfl ?_
  refine ww_iconst (v := 0) C dX11_count_5 (by decide) 6 rfl ?_
  refine ww_istore_n (i := 2) C dX11_count_6 rfl (by decide) rfl 7 rfl ?_
  refine ww_iload_n (i := 1) C dX11_count_7 rfl rfl 8 rfl ?_
  refine ww_ts7 C 123 52 85 90 95 107 113 118 dX11_count_8 (by decide) (by decide) (by decide) (by decide) (by decide) (by decide) (by decide) (by decide) (fun s0_8 => ?_) (fun s1_8 => ?_) (fun s2_8 => ?_) (fun s3_8 => ?_) (fun s4_8 => ?_) (fun s5_8 => ?_) (fun s6_8 => ?_) (fun sd_8 => ?_)
  · skip
    exact absurd s0_8 (by decide)
  · skip
    exact absurd s1_8 (by decide)
  · skip
    exact absurd s2_8 (by decide)
  · skip
    exact absurd s3_8 (by decide)
  · skip
    exact absurd s4_8 (by decide)
  · skip
    exact absurd s5_8 (by decide)
  · skip
    refine ww_aload_n (i := 0) C dX11_count_118 rfl rfl 119 rfl ?_
    refine ww_get C fe_X11_81 dX11_count_119 0 rfl rfl 122 rfl ?_
    exact ww_iret C hr dX11_count_122 rfl rfl
  · skip
    exact absurd sd_8 (by decide)
theorem c_X11_count_bad (l : Launch) (Γ : Gm) {hm : Nat} {q : Nat → Nat} {I : Nat → Int32} {k9 : Int32} (hb : k9 < 0 ∨ 7 ≤ k9) : Ct l Γ yX11_count cX11_count 4 (some .int) 4 [.ref hm, .int k9] ([wMo hm q (I)]) (some (.int (-1000001))) ([wMo hm q (upd I 0 (0))]) := by
  refine Ct.of mi_X11_count [some (.ref hm), some (.int k9), none, none] 2 rfl (Nat.le_of_ble_eq_true rfl) ?_
  intro p e s m args below meth c C hr
  refine ww_aload_n (i := 0) C dX11_count_0 rfl rfl 1 rfl ?_
  refine ww_iconst (v := 0) C dX11_count_1 (by decide) 2 rfl ?_
  refine ww_mput_0 C fe_X11_52 dX11_count_2 5 rfl ?_
  refine ww_iconst (v := 0) C dX11_count_5 (by decide) 6 rfl ?_
  refine ww_istore_n (i := 2) C dX11_count_6 rfl (by decide) rfl 7 rfl ?_
  refine ww_iload_n (i := 1) C dX11_count_7 rfl rfl 8 rfl ?_
  refine ww_ts7 C 123 52 85 90 95 107 113 118 dX11_count_8 (by decide) (by decide) (by decide) (by decide) (by decide) (by decide) (by decide) (by decide) (fun s0_8 => ?_) (fun s1_8 => ?_) (fun s2_8 => ?_) (fun s3_8 => ?_) (fun s4_8 => ?_) (fun s5_8 => ?_) (fun s6_8 => ?_) (fun sd_8 => ?_)
  · skip
    exact absurd hb (by rw [s0_8]; decide)
  · skip
    exact absurd hb (by rw [s1_8]; decide)
  · skip
    exact absurd hb (by rw [s2_8]; decide)
  · skip
    exact absurd hb (by rw [s3_8]; decide)
  · skip
    exact absurd hb (by rw [s4_8]; decide)
  · skip
    exact absurd hb (by rw [s5_8]; decide)
  · skip
    exact absurd hb (by rw [s6_8]; decide)
  · skip
    refine ww_ldc C cn_X11_72 dX11_count_123 125 rfl ?_
    exact ww_iret C hr dX11_count_125 rfl rfl
theorem c_X11_copy_bad (l : Launch) (Γ : Gm) {hm : Nat} {q : Nat → Nat} {I : Nat → Int32} {s9 a t9 b n9 : Int32} (hb : (s9 < 0 ∨ 7 < s9) ∨ (t9 < 0 ∨ 7 < t9)) : Ct l Γ yX11_copy cX11_copy 9 (some .int) 4 [.ref hm, .int s9, .int a, .int t9, .int b, .int n9] ([wMo hm q (I)]) (some (.int (-1000001))) ([wMo hm q (upd I 0 (0))]) := by
  refine Ct.of mi_X11_copy [some (.ref hm), some (.int s9), some (.int a), some (.int t9), some (.int b), some (.int n9), none, none, none] 3 rfl (Nat.le_of_ble_eq_true rfl) ?_
  intro p e s m args below meth c C hr
  refine ww_aload_n (i := 0) C dX11_copy_0 rfl rfl 1 rfl ?_
  refine ww_iconst (v := 0) C dX11_copy_1 (by decide) 2 rfl ?_
  refine ww_mput_0 C fe_X11_52 dX11_copy_2 5 rfl ?_
  refine ww_iload_n (i := 1) C dX11_copy_5 rfl rfl 6 rfl ?_
  refine ww_callS1p C (c_X11_isSheet l Γ) mi_X11_isSheet st_X11_isSheet ml_X11_66 dX11_copy_6 (Nat.le_of_ble_eq_true rfl) (Nat.le_of_ble_eq_true rfl) (Nat.le_of_ble_eq_true rfl) ⟨Nat.zero_le _, Nat.zero_le _⟩ [] rfl (by decide) 9 rfl ?_
  refine ww_if_eq C 19 dX11_copy_9 (by decide) 12 rfl (fun h_9 => ?_) (fun h_9 => ?_)
  · skip
    refine ww_ldc C cn_X11_72 dX11_copy_19 21 rfl ?_
    exact ww_iret C hr dX11_copy_21 rfl rfl
  · skip
    refine ww_iload_n (i := 3) C dX11_copy_12 rfl rfl 13 rfl ?_
    refine ww_callS1p C (c_X11_isSheet l Γ) mi_X11_isSheet st_X11_isSheet ml_X11_66 dX11_copy_13 (Nat.le_of_ble_eq_true rfl) (Nat.le_of_ble_eq_true rfl) (Nat.le_of_ble_eq_true rfl) ⟨Nat.zero_le _, Nat.zero_le _⟩ [] rfl (by decide) 16 rfl ?_
    refine ww_if_ne C 22 dX11_copy_16 (by decide) 19 rfl (fun h_16 => ?_) (fun h_16 => ?_)
    · exact absurd hb (fun q => q.elim (fun z => z.elim (bI_n0 h_9).1 (bI_n0 h_9).2) (fun z => z.elim (bI_n0 h_16).1 (bI_n0 h_16).2))
    · skip
      refine ww_ldc C cn_X11_72 dX11_copy_19 21 rfl ?_
      exact ww_iret C hr dX11_copy_21 rfl rfl
theorem hs_iff {sz : Nat} {a n : Int32} (hs : sz ≤ 60) (ha : ¬ a < 0) (hn : ¬ n < 0) : (0 < lg_cmp (a.toInt64 + n.toInt64) (nI sz).toInt64) ↔ ¬ s_has sz a n := by
  rw [lg_cmp_gt, Int64.lt_iff_toInt_lt, i64_add, Int32.toInt_toInt64, nI_toInt (by omega), s_has_iff hs]
  obtain ⟨x, hx, rfl⟩ := nI_of ha
  obtain ⟨y, hy, rfl⟩ := nI_of hn
  rw [nI_toInt hx, nI_toInt hy]
  constructor
  · rintro h ⟨a', k', e1, e2, h3⟩
    rw [nI_eq hx (by omega)] at e1
    rw [nI_eq hy (by omega)] at e2
    omega
  · intro h
    have : ¬ x + y ≤ sz := fun q => h ⟨x, y, rfl, rfl, q⟩
    omega
set_option maxHeartbeats 1000000 in
theorem c_X11_copy_no (l : Launch) (Γ : Gm) {hm : Nat} {q : Nat → Nat} {I : Nat → Int32} {j j1 sz sz1 : Nat} {a b n9 g : Int32} {ln mn : Nat → Int32} (hj : j < 8) (hj1 : j1 < 8) (hneg : ∀ k, k < 8 → (ln k < 0 ↔ ln k = -1)) (hm0 : ¬ ln j = -1 → mn j = nI sz) (hm1 : ¬ ln j1 = -1 → mn j1 = nI sz1) (hs : sz ≤ 60) (hs1 : sz1 ≤ 60) (hg : s_cpf (ln j) (ln j1) sz sz1 a b n9 = g) (hg0 : ¬ g = 0) : Ct l Γ yX11_copy cX11_copy 9 (some .int) 4 [.ref hm, .int (nI j), .int a, .int (nI j1), .int b, .int n9] ([wMo hm q (I), (q 2, .inl (Γ.2.1, 8, .inl (ln))), (q 3, .inl (Γ.2.1, 8, .inl (mn)))]) (some (.int (-1000010 - g))) ([wMo hm q (upd (upd (upd I 0 (0)) 1 (0)) 1 (g)), (q 2, .inl (Γ.2.1, 8, .inl (ln))), (q 3, .inl (Γ.2.1, 8, .inl (mn)))]) := by
  refine Ct.of mi_X11_copy [some (.ref hm), some (.int (nI j)), some (.int a), some (.int (nI j1)), some (.int b), some (.int n9), none, none, none] 3 rfl (Nat.le_of_ble_eq_true rfl) ?_
  intro p e s m args below meth c C hr
  have ej : (nI j).toNatClampNeg = j := nI_clamp (by omega)
  have ej1 : (nI j1).toNatClampNeg = j1 := nI_clamp (by omega)
  refine ww_aload_n (i := 0) C dX11_copy_0 rfl rfl 1 rfl ?_
  refine ww_iconst (v := 0) C dX11_copy_1 (by decide) 2 rfl ?_
  refine ww_mput_0 C fe_X11_52 dX11_copy_2 5 rfl ?_
  refine ww_iload_n (i := 1) C dX11_copy_5 rfl rfl 6 rfl ?_
  refine ww_callS1p C (c_X11_isSheet l Γ) mi_X11_isSheet st_X11_isSheet ml_X11_66 dX11_copy_6 (Nat.le_of_ble_eq_true rfl) (Nat.le_of_ble_eq_true rfl) (Nat.le_of_ble_eq_true rfl) ⟨Nat.zero_le _, Nat.zero_le _⟩ [] rfl (by decide) 9 rfl ?_
  refine ww_if_eq C 19 dX11_copy_9 (by decide) 12 rfl (fun h_9 => ?_) (fun h_9 => ?_)
  · exact absurd (⟨nI_pos (by omega), nI_nlt (a := 7) (by omega) (by decide)⟩ : ¬ nI j < 0 ∧ ¬ nI 7 < nI j) (bI_e0 h_9)
  · skip
    refine ww_iload_n (i := 3) C dX11_copy_12 rfl rfl 13 rfl ?_
    refine ww_callS1p C (c_X11_isSheet l Γ) mi_X11_isSheet st_X11_isSheet ml_X11_66 dX11_copy_13 (Nat.le_of_ble_eq_true rfl) (Nat.le_of_ble_eq_true rfl) (Nat.le_of_ble_eq_true rfl) ⟨Nat.zero_le _, Nat.zero_le _⟩ [] rfl (by decide) 16 rfl ?_
    refine ww_if_ne C 22 dX11_copy_16 (by decide) 19 rfl (fun h_16 => ?_) (fun h_16 => ?_)
    · skip
      refine ww_aload_n (i := 0) C dX11_copy_22 rfl rfl 23 rfl ?_
      refine ww_iconst (v := 0) C dX11_copy_23 (by decide) 24 rfl ?_
      refine ww_mput_1 C fe_X11_56 dX11_copy_24 27 rfl ?_
      refine ww_aload_n (i := 0) C dX11_copy_27 rfl rfl 28 rfl ?_
      refine ww_get C fe_X11_7 dX11_copy_28 0 rfl rfl 31 rfl ?_
      refine ww_iload_n (i := 1) C dX11_copy_31 rfl rfl 32 rfl ?_
      refine ww_iald C dX11_copy_32 1 rfl (vp_in_nI hj (by decide)) 33 rfl ?_
      rw [ej]
      refine ww_if_lt C 45 dX11_copy_33 (by decide) 36 rfl (fun h_33 => ?_) (fun h_33 => ?_)
      · skip
        refine ww_aload_n (i := 0) C dX11_copy_45 rfl rfl 46 rfl ?_
        have hv : g = 1 := by
          rw [← hg, s_cpf]
          by_cases z : ln j = -1
          · rw [if_pos z]
          · rw [if_neg z]
            first
              | exact absurd ((hneg j hj).mp h_33) z
              | rw [if_pos ((hneg j1 hj1).mp (Int32.not_le.mp h_42))]
        subst hv
        refine ww_iconst (v := 1) C dX11_copy_46 (by decide) 47 rfl ?_
        refine ww_callV1 C (c_X11_found l Γ) mi_X11_found im_X11_found se_X11_found ml_X11_73 dX11_copy_47 0 rfl rfl rfl (Nat.le_of_ble_eq_true rfl) (Nat.le_of_ble_eq_true rfl) (Nat.le_of_ble_eq_true rfl) ⟨Nat.zero_le _, Nat.zero_le _⟩ [0] rfl (by decide) rfl 50 rfl ?_
        exact ww_iret C hr dX11_copy_50 rfl rfl
      · skip
        refine ww_aload_n (i := 0) C dX11_copy_36 rfl rfl 37 rfl ?_
        refine ww_get C fe_X11_7 dX11_copy_37 0 rfl rfl 40 rfl ?_
        refine ww_iload_n (i := 3) C dX11_copy_40 rfl rfl 41 rfl ?_
        refine ww_iald C dX11_copy_41 1 rfl (vp_in_nI hj1 (by decide)) 42 rfl ?_
        rw [ej1]
        refine ww_if_ge C 51 dX11_copy_42 (by decide) 45 rfl (fun h_42 => ?_) (fun h_42 => ?_)
        · skip
          refine ww_aload_n (i := 0) C dX11_copy_51 rfl rfl 52 rfl ?_
          refine ww_get C fe_X11_7 dX11_copy_52 0 rfl rfl 55 rfl ?_
          refine ww_iload_n (i := 1) C dX11_copy_55 rfl rfl 56 rfl ?_
          refine ww_iald C dX11_copy_56 1 rfl (vp_in_nI hj (by decide)) 57 rfl ?_
          refine ww_aload_n (i := 0) C dX11_copy_57 rfl rfl 58 rfl ?_
          refine ww_get C fe_X11_7 dX11_copy_58 0 rfl rfl 61 rfl ?_
          refine ww_iload_n (i := 3) C dX11_copy_61 rfl rfl 62 rfl ?_
          refine ww_iald C dX11_copy_62 1 rfl (vp_in_nI hj1 (by decide)) 63 rfl ?_
          rw [ej, ej1]
          refine ww_icmp_eq C 72 dX11_copy_63 (by decide) 66 rfl (fun h_63 => ?_) (fun h_63 => ?_)
          · skip
            have hl0 : ¬ ln j = -1 := fun z => h_33 ((hneg j hj).mpr z)
            have hl1 : ¬ ln j1 = -1 := fun z => absurd ((hneg j1 hj1).mpr z) (Int32.not_lt.mpr h_42)
            refine ww_iload_n (i := 2) C dX11_copy_72 rfl rfl 73 rfl ?_
            refine ww_if_lt C 121 dX11_copy_73 (by decide) 76 rfl (fun h_73 => ?_) (fun h_73 => ?_)
            · skip
              refine ww_aload_n (i := 0) C dX11_copy_121 rfl rfl 122 rfl ?_
              have hv : g = 2 := by
                rw [← hg, s_cpf, if_neg hl0, if_neg hl1, if_neg (fun q => q h_63)]
                by_cases z : s_has sz a n9
                · rw [if_neg (fun q => q z)]
                  by_cases z1 : s_has sz1 b n9
                  · exfalso
                    first
                      | exact z.2.1 h_73
                      | exact z1.2.1 h_78
                      | exact z.1 h_83
                      | exact (hs_iff hs h_73 h_83).mp h_100 z
                      | exact (hs_iff hs1 h_78 h_83).mp (Int32.not_le.mp h_118) z1
                  · rw [if_pos z1]
                · rw [if_pos z]
              subst hv
              refine ww_iconst (v := 2) C dX11_copy_122 (by decide) 123 rfl ?_
              refine ww_callV1 C (c_X11_found l Γ) mi_X11_found im_X11_found se_X11_found ml_X11_73 dX11_copy_123 0 rfl rfl rfl (Nat.le_of_ble_eq_true rfl) (Nat.le_of_ble_eq_true rfl) (Nat.le_of_ble_eq_true rfl) ⟨Nat.zero_le _, Nat.zero_le _⟩ [0] rfl (by decide) rfl 126 rfl ?_
              exact ww_iret C hr dX11_copy_126 rfl rfl
            · skip
              refine ww_iload C dX11_copy_76 rfl 78 rfl ?_
              refine ww_if_lt C 121 dX11_copy_78 (by decide) 81 rfl (fun h_78 => ?_) (fun h_78 => ?_)
              · skip
                refine ww_aload_n (i := 0) C dX11_copy_121 rfl rfl 122 rfl ?_
                have hv : g = 2 := by
                  rw [← hg, s_cpf, if_neg hl0, if_neg hl1, if_neg (fun q => q h_63)]
                  by_cases z : s_has sz a n9
                  · rw [if_neg (fun q => q z)]
                    by_cases z1 : s_has sz1 b n9
                    · exfalso
                      first
                        | exact z.2.1 h_73
                        | exact z1.2.1 h_78
                        | exact z.1 h_83
                        | exact (hs_iff hs h_73 h_83).mp h_100 z
                        | exact (hs_iff hs1 h_78 h_83).mp (Int32.not_le.mp h_118) z1
                    · rw [if_pos z1]
                  · rw [if_pos z]
                subst hv
                refine ww_iconst (v := 2) C dX11_copy_122 (by decide) 123 rfl ?_
                refine ww_callV1 C (c_X11_found l Γ) mi_X11_found im_X11_found se_X11_found ml_X11_73 dX11_copy_123 0 rfl rfl rfl (Nat.le_of_ble_eq_true rfl) (Nat.le_of_ble_eq_true rfl) (Nat.le_of_ble_eq_true rfl) ⟨Nat.zero_le _, Nat.zero_le _⟩ [0] rfl (by decide) rfl 126 rfl ?_
                exact ww_iret C hr dX11_copy_126 rfl rfl
              · skip
                refine ww_iload C dX11_copy_81 rfl 83 rfl ?_
                refine ww_if_lt C 121 dX11_copy_83 (by decide) 86 rfl (fun h_83 => ?_) (fun h_83 => ?_)
                · skip
                  refine ww_aload_n (i := 0) C dX11_copy_121 rfl rfl 122 rfl ?_
                  have hv : g = 2 := by
                    rw [← hg, s_cpf, if_neg hl0, if_neg hl1, if_neg (fun q => q h_63)]
                    by_cases z : s_has sz a n9
                    · rw [if_neg (fun q => q z)]
                      by_cases z1 : s_has sz1 b n9
                      · exfalso
                        first
                          | exact z.2.1 h_73
                          | exact z1.2.1 h_78
                          | exact z.1 h_83
                          | exact (hs_iff hs h_73 h_83).mp h_100 z
                          | exact (hs_iff hs1 h_78 h_83).mp (Int32.not_le.mp h_118) z1
                      · rw [if_pos z1]
                    · rw [if_pos z]
                  subst hv
                  refine ww_iconst (v := 2) C dX11_copy_122 (by decide) 123 rfl ?_
                  refine ww_callV1 C (c_X11_found l Γ) mi_X11_found im_X11_found se_X11_found ml_X11_73 dX11_copy_123 0 rfl rfl rfl (Nat.le_of_ble_eq_true rfl) (Nat.le_of_ble_eq_true rfl) (Nat.le_of_ble_eq_true rfl) ⟨Nat.zero_le _, Nat.zero_le _⟩ [0] rfl (by decide) rfl 126 rfl ?_
                  exact ww_iret C hr dX11_copy_126 rfl rfl
                · skip
                  refine ww_iload_n (i := 2) C dX11_copy_86 rfl rfl 87 rfl ?_
                  refine ww_i2l C dX11_copy_87 88 rfl ?_
                  refine ww_iload C dX11_copy_88 rfl 90 rfl ?_
                  refine ww_i2l C dX11_copy_90 91 rfl ?_
                  refine ww_ladd C dX11_copy_91 92 rfl ?_
                  refine ww_aload_n (i := 0) C dX11_copy_92 rfl rfl 93 rfl ?_
                  refine ww_get C fe_X11_13 dX11_copy_93 0 rfl rfl 96 rfl ?_
                  refine ww_iload_n (i := 1) C dX11_copy_96 rfl rfl 97 rfl ?_
                  refine ww_iald C dX11_copy_97 2 rfl (vp_in_nI hj (by decide)) 98 rfl ?_
                  rw [ej, hm0 hl0]
                  refine ww_i2l C dX11_copy_98 99 rfl ?_
                  refine ww_lcmp C dX11_copy_99 100 rfl ?_
                  refine ww_if_gt C 121 dX11_copy_100 (by decide) 103 rfl (fun h_100 => ?_) (fun h_100 => ?_)
                  · skip
                    refine ww_aload_n (i := 0) C dX11_copy_121 rfl rfl 122 rfl ?_
                    have hv : g = 2 := by
                      rw [← hg, s_cpf, if_neg hl0, if_neg hl1, if_neg (fun q => q h_63)]
                      by_cases z : s_has sz a n9
                      · rw [if_neg (fun q => q z)]
                        by_cases z1 : s_has sz1 b n9
                        · exfalso
                          first
                            | exact z.2.1 h_73
                            | exact z1.2.1 h_78
                            | exact z.1 h_83
                            | exact (hs_iff hs h_73 h_83).mp h_100 z
                            | exact (hs_iff hs1 h_78 h_83).mp (Int32.not_le.mp h_118) z1
                        · rw [if_pos z1]
                      · rw [if_pos z]
                    subst hv
                    refine ww_iconst (v := 2) C dX11_copy_122 (by decide) 123 rfl ?_
                    refine ww_callV1 C (c_X11_found l Γ) mi_X11_found im_X11_found se_X11_found ml_X11_73 dX11_copy_123 0 rfl rfl rfl (Nat.le_of_ble_eq_true rfl) (Nat.le_of_ble_eq_true rfl) (Nat.le_of_ble_eq_true rfl) ⟨Nat.zero_le _, Nat.zero_le _⟩ [0] rfl (by decide) rfl 126 rfl ?_
                    exact ww_iret C hr dX11_copy_126 rfl rfl
                  · skip
                    refine ww_iload C dX11_copy_103 rfl 105 rfl ?_
                    refine ww_i2l C dX11_copy_105 106 rfl ?_
                    refine ww_iload C dX11_copy_106 rfl 108 rfl ?_
                    refine ww_i2l C dX11_copy_108 109 rfl ?_
                    refine ww_ladd C dX11_copy_109 110 rfl ?_
                    refine ww_aload_n (i := 0) C dX11_copy_110 rfl rfl 111 rfl ?_
                    refine ww_get C fe_X11_13 dX11_copy_111 0 rfl rfl 114 rfl ?_
                    refine ww_iload_n (i := 3) C dX11_copy_114 rfl rfl 115 rfl ?_
                    refine ww_iald C dX11_copy_115 2 rfl (vp_in_nI hj1 (by decide)) 116 rfl ?_
                    rw [ej1, hm1 hl1]
                    refine ww_i2l C dX11_copy_116 117 rfl ?_
                    refine ww_lcmp C dX11_copy_117 118 rfl ?_
                    refine ww_if_le C 127 dX11_copy_118 (by decide) 121 rfl (fun h_118 => ?_) (fun h_118 => ?_)
                    · exact absurd (by
    have z : s_has sz a n9 := Decidable.byContradiction fun q => h_100 ((hs_iff hs h_73 h_83).mpr q)
    have z1 : s_has sz1 b n9 := Decidable.byContradiction fun q => absurd ((hs_iff hs1 h_78 h_83).mpr q) (Int32.not_lt.mpr h_118)
    rw [← hg, s_cpf, if_neg hl0, if_neg hl1, if_neg (fun q => q h_63), if_neg (fun q => q z), if_neg (fun q => q z1)]) hg0
                    · skip
                      refine ww_aload_n (i := 0) C dX11_copy_121 rfl rfl 122 rfl ?_
                      have hv : g = 2 := by
                        rw [← hg, s_cpf, if_neg hl0, if_neg hl1, if_neg (fun q => q h_63)]
                        by_cases z : s_has sz a n9
                        · rw [if_neg (fun q => q z)]
                          by_cases z1 : s_has sz1 b n9
                          · exfalso
                            first
                              | exact z.2.1 h_73
                              | exact z1.2.1 h_78
                              | exact z.1 h_83
                              | exact (hs_iff hs h_73 h_83).mp h_100 z
                              | exact (hs_iff hs1 h_78 h_83).mp (Int32.not_le.mp h_118) z1
                          · rw [if_pos z1]
                        · rw [if_pos z]
                      subst hv
                      refine ww_iconst (v := 2) C dX11_copy_122 (by decide) 123 rfl ?_
                      refine ww_callV1 C (c_X11_found l Γ) mi_X11_found im_X11_found se_X11_found ml_X11_73 dX11_copy_123 0 rfl rfl rfl (Nat.le_of_ble_eq_true rfl) (Nat.le_of_ble_eq_true rfl) (Nat.le_of_ble_eq_true rfl) ⟨Nat.zero_le _, Nat.zero_le _⟩ [0] rfl (by decide) rfl 126 rfl ?_
                      exact ww_iret C hr dX11_copy_126 rfl rfl
          · skip
            refine ww_aload_n (i := 0) C dX11_copy_66 rfl rfl 67 rfl ?_
            have hl0 : ¬ ln j = -1 := fun z => h_33 ((hneg j hj).mpr z)
            have hl1 : ¬ ln j1 = -1 := fun z => absurd ((hneg j1 hj1).mpr z) (Int32.not_lt.mpr h_42)
            have hv : g = 5 := by rw [← hg, s_cpf, if_neg hl0, if_neg hl1, if_pos h_63]
            subst hv
            refine ww_iconst (v := 5) C dX11_copy_67 (by decide) 68 rfl ?_
            refine ww_callV1 C (c_X11_found l Γ) mi_X11_found im_X11_found se_X11_found ml_X11_73 dX11_copy_68 0 rfl rfl rfl (Nat.le_of_ble_eq_true rfl) (Nat.le_of_ble_eq_true rfl) (Nat.le_of_ble_eq_true rfl) ⟨Nat.zero_le _, Nat.zero_le _⟩ [0] rfl (by decide) rfl 71 rfl ?_
            exact ww_iret C hr dX11_copy_71 rfl rfl
        · skip
          refine ww_aload_n (i := 0) C dX11_copy_45 rfl rfl 46 rfl ?_
          have hv : g = 1 := by
            rw [← hg, s_cpf]
            by_cases z : ln j = -1
            · rw [if_pos z]
            · rw [if_neg z]
              first
                | exact absurd ((hneg j hj).mp h_33) z
                | rw [if_pos ((hneg j1 hj1).mp (Int32.not_le.mp h_42))]
          subst hv
          refine ww_iconst (v := 1) C dX11_copy_46 (by decide) 47 rfl ?_
          refine ww_callV1 C (c_X11_found l Γ) mi_X11_found im_X11_found se_X11_found ml_X11_73 dX11_copy_47 0 rfl rfl rfl (Nat.le_of_ble_eq_true rfl) (Nat.le_of_ble_eq_true rfl) (Nat.le_of_ble_eq_true rfl) ⟨Nat.zero_le _, Nat.zero_le _⟩ [0] rfl (by decide) rfl 50 rfl ?_
          exact ww_iret C hr dX11_copy_50 rfl rfl
    · exact absurd (⟨nI_pos (by omega), nI_nlt (a := 7) (by omega) (by decide)⟩ : ¬ nI j1 < 0 ∧ ¬ nI 7 < nI j1) (bI_e0 h_16)
/-- the row while n items come from S on to D on: k of them have come, upward; downward -/
def cpU (it : Nat → Int32) (S D k : Nat) : Nat → Int32 := fun x => if D ≤ x ∧ x < D + k then it (S + (x - D)) else it x
def cpD (it : Nat → Int32) (S D n k : Nat) : Nat → Int32 := fun x => if D + n - k ≤ x ∧ x < D + n then it (S + (x - D)) else it x
theorem cpU_0 (it : Nat → Int32) (S D : Nat) : cpU it S D 0 = it := by
  funext x
  exact if_neg (by omega)
theorem cpD_0 (it : Nat → Int32) (S D n : Nat) : cpD it S D n 0 = it := by
  funext x
  exact if_neg (by omega)
theorem cpD_n (it : Nat → Int32) (S D n : Nat) : cpD it S D n n = cpU it S D n := by
  funext x
  simp only [cpD, cpU]
  rw [show D + n - n = D by omega]
theorem cpU_s (it : Nat → Int32) (S D k : Nat) : upd (cpU it S D k) (D + k) (it (S + k)) = cpU it S D (k + 1) := by
  funext x
  by_cases e : x = D + k
  · subst e
    rw [pk_us]
    simp only [cpU]
    rw [if_pos (by omega), show D + k - D = k by omega]
  · rw [pk_un e]
    simp only [cpU]
    by_cases h : D ≤ x ∧ x < D + k
    · rw [if_pos h, if_pos (by omega)]
    · rw [if_neg h, if_neg (by omega)]
theorem cpD_s {it : Nat → Int32} {S D n k : Nat} (hk : k < n) : upd (cpD it S D n k) (D + (n - 1 - k)) (it (S + (n - 1 - k))) = cpD it S D n (k + 1) := by
  funext x
  by_cases e : x = D + (n - 1 - k)
  · subst e
    rw [pk_us]
    simp only [cpD]
    rw [if_pos (by omega), show D + (n - 1 - k) - D = n - 1 - k by omega]
  · rw [pk_un e]
    simp only [cpD]
    by_cases h : D + n - k ≤ x ∧ x < D + n
    · rw [if_pos h, if_pos (by omega)]
    · rw [if_neg h, if_neg (by omega)]
set_option maxHeartbeats 2000000 in
theorem c_X11_copy_U (l : Launch) (Γ : Gm) {hm : Nat} {q : Nat → Nat} {I : Nat → Int32} {j j1 sz sz1 a b n : Nat} {ln mn it : Nat → Int32} (hj : j < 8) (hj1 : j1 < 8) (hneg : ∀ k, k < 8 → (ln k < 0 ↔ ln k = -1)) (hm0 : ¬ ln j = -1 → mn j = nI sz) (hm1 : ¬ ln j1 = -1 → mn j1 = nI sz1) (hs : sz ≤ 60) (hs1 : sz1 ≤ 60) (hl : ¬ ln j = -1) (hll : ln j = ln j1) (ha : a + n ≤ sz) (hb : b + n ≤ sz1) (hdn : ¬ nI a < nI b) : Ct l Γ yX11_copy cX11_copy 9 (some .int) 4 [.ref hm, .int (nI j), .int (nI a), .int (nI j1), .int (nI b), .int (nI n)] ([wMo hm q (I), (q 2, .inl (Γ.2.1, 8, .inl (ln))), (q 3, .inl (Γ.2.1, 8, .inl (mn))), (q 4, .inl (Γ.2.1, 480, .inl (it)))]) (some (.int (nI n))) ([wMo hm q (upd (upd I 0 (0)) 1 (0)), (q 2, .inl (Γ.2.1, 8, .inl (ln))), (q 3, .inl (Γ.2.1, 8, .inl (mn))), (q 4, .inl (Γ.2.1, 480, .inl (cpU it (60 * j + a) (60 * j1 + b) n)))]) := by
  refine Ct.of mi_X11_copy [some (.ref hm), some (.int (nI j)), some (.int (nI a)), some (.int (nI j1)), some (.int (nI b)), some (.int (nI n)), none, none, none] 3 rfl (Nat.le_of_ble_eq_true rfl) ?_
  intro p e s m args below meth c C hr
  have ej : (nI j).toNatClampNeg = j := nI_clamp (by omega)
  have ej1 : (nI j1).toNatClampNeg = j1 := nI_clamp (by omega)
  have hl1 : ¬ ln j1 = -1 := by rw [← hll]; exact hl
  have hl0 := hl
  have hdir : j ≠ j1 ∨ b ≤ a := by
    exact Or.inr (Nat.le_of_not_lt fun q => hdn (nI_lt q (by omega)))
  refine ww_aload_n (i := 0) C dX11_copy_0 rfl rfl 1 rfl ?_
  refine ww_iconst (v := 0) C dX11_copy_1 (by decide) 2 rfl ?_
  refine ww_mput_0 C fe_X11_52 dX11_copy_2 5 rfl ?_
  refine ww_iload_n (i := 1) C dX11_copy_5 rfl rfl 6 rfl ?_
  refine ww_callS1p C (c_X11_isSheet l Γ) mi_X11_isSheet st_X11_isSheet ml_X11_66 dX11_copy_6 (Nat.le_of_ble_eq_true rfl) (Nat.le_of_ble_eq_true rfl) (Nat.le_of_ble_eq_true rfl) ⟨Nat.zero_le _, Nat.zero_le _⟩ [] rfl (by decide) 9 rfl ?_
  refine ww_if_eq C 19 dX11_copy_9 (by decide) 12 rfl (fun h_9 => ?_) (fun h_9 => ?_)
  · exact absurd (⟨nI_pos (by omega), nI_nlt (a := 7) (by omega) (by decide)⟩ : ¬ nI j < 0 ∧ ¬ nI 7 < nI j) (bI_e0 h_9)
  · skip
    refine ww_iload_n (i := 3) C dX11_copy_12 rfl rfl 13 rfl ?_
    refine ww_callS1p C (c_X11_isSheet l Γ) mi_X11_isSheet st_X11_isSheet ml_X11_66 dX11_copy_13 (Nat.le_of_ble_eq_true rfl) (Nat.le_of_ble_eq_true rfl) (Nat.le_of_ble_eq_true rfl) ⟨Nat.zero_le _, Nat.zero_le _⟩ [] rfl (by decide) 16 rfl ?_
    refine ww_if_ne C 22 dX11_copy_16 (by decide) 19 rfl (fun h_16 => ?_) (fun h_16 => ?_)
    · skip
      refine ww_aload_n (i := 0) C dX11_copy_22 rfl rfl 23 rfl ?_
      refine ww_iconst (v := 0) C dX11_copy_23 (by decide) 24 rfl ?_
      refine ww_mput_1 C fe_X11_56 dX11_copy_24 27 rfl ?_
      refine ww_aload_n (i := 0) C dX11_copy_27 rfl rfl 28 rfl ?_
      refine ww_get C fe_X11_7 dX11_copy_28 0 rfl rfl 31 rfl ?_
      refine ww_iload_n (i := 1) C dX11_copy_31 rfl rfl 32 rfl ?_
      refine ww_iald C dX11_copy_32 1 rfl (vp_in_nI hj (by decide)) 33 rfl ?_
      rw [ej]
      refine ww_if_lt C 45 dX11_copy_33 (by decide) 36 rfl (fun h_33 => ?_) (fun h_33 => ?_)
      · exact absurd ((hneg j hj).mp h_33) hl
      · skip
        refine ww_aload_n (i := 0) C dX11_copy_36 rfl rfl 37 rfl ?_
        refine ww_get C fe_X11_7 dX11_copy_37 0 rfl rfl 40 rfl ?_
        refine ww_iload_n (i := 3) C dX11_copy_40 rfl rfl 41 rfl ?_
        refine ww_iald C dX11_copy_41 1 rfl (vp_in_nI hj1 (by decide)) 42 rfl ?_
        rw [ej1]
        refine ww_if_ge C 51 dX11_copy_42 (by decide) 45 rfl (fun h_42 => ?_) (fun h_42 => ?_)
        · skip
          refine ww_aload_n (i := 0) C dX11_copy_51 rfl rfl 52 rfl ?_
          refine ww_get C fe_X11_7 dX11_copy_52 0 rfl rfl 55 rfl ?_
          refine ww_iload_n (i := 1) C dX11_copy_55 rfl rfl 56 rfl ?_
          refine ww_iald C dX11_copy_56 1 rfl (vp_in_nI hj (by decide)) 57 rfl ?_
          refine ww_aload_n (i := 0) C dX11_copy_57 rfl rfl 58 rfl ?_
          refine ww_get C fe_X11_7 dX11_copy_58 0 rfl rfl 61 rfl ?_
          refine ww_iload_n (i := 3) C dX11_copy_61 rfl rfl 62 rfl ?_
          refine ww_iald C dX11_copy_62 1 rfl (vp_in_nI hj1 (by decide)) 63 rfl ?_
          rw [ej, ej1]
          refine ww_icmp_eq C 72 dX11_copy_63 (by decide) 66 rfl (fun h_63 => ?_) (fun h_63 => ?_)
          · skip
            refine ww_iload_n (i := 2) C dX11_copy_72 rfl rfl 73 rfl ?_
            refine ww_if_lt C 121 dX11_copy_73 (by decide) 76 rfl (fun h_73 => ?_) (fun h_73 => ?_)
            · exact absurd h_73 (nI_pos (by omega))
            · skip
              refine ww_iload C dX11_copy_76 rfl 78 rfl ?_
              refine ww_if_lt C 121 dX11_copy_78 (by decide) 81 rfl (fun h_78 => ?_) (fun h_78 => ?_)
              · exact absurd h_78 (nI_pos (by omega))
              · skip
                refine ww_iload C dX11_copy_81 rfl 83 rfl ?_
                refine ww_if_lt C 121 dX11_copy_83 (by decide) 86 rfl (fun h_83 => ?_) (fun h_83 => ?_)
                · exact absurd h_83 (nI_pos (by omega))
                · skip
                  refine ww_iload_n (i := 2) C dX11_copy_86 rfl rfl 87 rfl ?_
                  refine ww_i2l C dX11_copy_87 88 rfl ?_
                  refine ww_iload C dX11_copy_88 rfl 90 rfl ?_
                  refine ww_i2l C dX11_copy_90 91 rfl ?_
                  refine ww_ladd C dX11_copy_91 92 rfl ?_
                  refine ww_aload_n (i := 0) C dX11_copy_92 rfl rfl 93 rfl ?_
                  refine ww_get C fe_X11_13 dX11_copy_93 0 rfl rfl 96 rfl ?_
                  refine ww_iload_n (i := 1) C dX11_copy_96 rfl rfl 97 rfl ?_
                  refine ww_iald C dX11_copy_97 2 rfl (vp_in_nI hj (by decide)) 98 rfl ?_
                  rw [ej, hm0 hl0]
                  refine ww_i2l C dX11_copy_98 99 rfl ?_
                  refine ww_lcmp C dX11_copy_99 100 rfl ?_
                  refine ww_if_gt C 121 dX11_copy_100 (by decide) 103 rfl (fun h_100 => ?_) (fun h_100 => ?_)
                  · exact absurd (s_has_n hs ha) ((hs_iff hs (nI_pos (by omega)) (nI_pos (by omega))).mp h_100)
                  · skip
                    refine ww_iload C dX11_copy_103 rfl 105 rfl ?_
                    refine ww_i2l C dX11_copy_105 106 rfl ?_
                    refine ww_iload C dX11_copy_106 rfl 108 rfl ?_
                    refine ww_i2l C dX11_copy_108 109 rfl ?_
                    refine ww_ladd C dX11_copy_109 110 rfl ?_
                    refine ww_aload_n (i := 0) C dX11_copy_110 rfl rfl 111 rfl ?_
                    refine ww_get C fe_X11_13 dX11_copy_111 0 rfl rfl 114 rfl ?_
                    refine ww_iload_n (i := 3) C dX11_copy_114 rfl rfl 115 rfl ?_
                    refine ww_iald C dX11_copy_115 2 rfl (vp_in_nI hj1 (by decide)) 116 rfl ?_
                    rw [ej1, hm1 hl1]
                    refine ww_i2l C dX11_copy_116 117 rfl ?_
                    refine ww_lcmp C dX11_copy_117 118 rfl ?_
                    refine ww_if_le C 127 dX11_copy_118 (by decide) 121 rfl (fun h_118 => ?_) (fun h_118 => ?_)
                    · skip
                      refine ww_iload_n (i := 2) C dX11_copy_127 rfl rfl 128 rfl ?_
                      refine ww_iload C dX11_copy_128 rfl 130 rfl ?_
                      refine ww_icmp_lt C 137 dX11_copy_130 (by decide) 133 rfl (fun h_130 => ?_) (fun h_130 => ?_)
                      · exact absurd h_130 hdn
                      · skip
                        refine ww_iconst (v := 1) C dX11_copy_133 (by decide) 134 rfl ?_
                        refine ww_goto C 138 dX11_copy_134 (by decide) ?_
                        refine ww_istore C dX11_copy_138 (by decide) rfl 140 rfl ?_
                        refine ww_iconst (v := 0) C dX11_copy_140 (by decide) 141 rfl ?_
                        refine ww_istore C dX11_copy_141 (by decide) rfl 143 rfl ?_
                        refine ww_lv (lv' := [some (.ref hm), some (.int (nI j)), some (.int (nI a)), some (.int (nI j1)), some (.int (nI b)), some (.int (nI n)), some (.int 1), some (.int (nI 0)), none]) (lvle_same (lvle_same (lvle_same (lvle_same (lvle_same (lvle_same (lvle_same (lvle_same (lvle_none lvle_nil))))))))) ?_
                        refine ww_eq (ws' := [wMo hm q (upd (upd I 0 (0)) 1 (0)), (q 2, .inl (Γ.2.1, 8, .inl (ln))), (q 3, .inl (Γ.2.1, 8, .inl (mn))), (q 4, .inl (Γ.2.1, 480, .inl (cpU it (60 * j + a) (60 * j1 + b) 0)))]) (by rw [cpU_0]; all_goals rfl) rfl rfl ?_
                        refine ww_loop (fun k : Nat => n - k) (fun k => k ≤ n) (fun k => [wMo hm q (upd (upd I 0 (0)) 1 (0)), (q 2, .inl (Γ.2.1, 8, .inl (ln))), (q 3, .inl (Γ.2.1, 8, .inl (mn))), (q 4, .inl (Γ.2.1, 480, .inl (cpU it (60 * j + a) (60 * j1 + b) k)))]) (fun k => [some (.ref hm), some (.int (nI j)), some (.int (nI a)), some (.int (nI j1)), some (.int (nI b)), some (.int (nI n)), some (.int 1), some (.int (nI k)), none]) (0 : Nat) (Nat.zero_le _) rfl rfl (fun k hk ih => ?_)
                        try dsimp only at hk ih ⊢
                        refine ww_iload C dX11_copy_143 rfl 145 rfl ?_
                        refine ww_iload C dX11_copy_145 rfl 147 rfl ?_
                        refine ww_icmp_ge C 204 dX11_copy_147 (by decide) 150 rfl (fun h_147 => ?_) (fun h_147 => ?_)
                        · skip
                          obtain rfl : k = n := eqN h_147 hk (by omega)
                          refine ww_iload C dX11_copy_204 rfl 206 rfl ?_
                          exact ww_iret C hr dX11_copy_206 rfl rfl
                        · skip
                          have hlt : k < n := ltN h_147 (by omega) (by omega)
                          have eD : (60 : Int32) * nI j1 + nI b + nI k = nI (60 * j1 + b + k) := by rw [show (60 : Int32) = nI 60 from rfl, pk_mul, nI_add, nI_add]
                          have eS : (60 : Int32) * nI j + nI a + nI k = nI (60 * j + a + k) := by rw [show (60 : Int32) = nI 60 from rfl, pk_mul, nI_add, nI_add]
                          have cD : (nI (60 * j1 + b + k)).toNatClampNeg = 60 * j1 + b + k := nI_clamp (by omega)
                          have cS : (nI (60 * j + a + k)).toNatClampNeg = 60 * j + a + k := nI_clamp (by omega)
                          have hrd : cpU it (60 * j + a) (60 * j1 + b) k (60 * j + a + k) = it (60 * j + a + k) := if_neg (by rcases hdir with q | q <;> omega)
                          refine ww_iload C dX11_copy_150 rfl 152 rfl ?_
                          refine ww_if_eq C 160 dX11_copy_152 (by decide) 155 rfl (fun h_152 => ?_) (fun h_152 => ?_)
                          · exact absurd h_152 (by decide)
                          · skip
                            refine ww_iload C dX11_copy_155 rfl 157 rfl ?_
                            refine ww_goto C 167 dX11_copy_157 (by decide) ?_
                            skip
                            refine ww_istore C dX11_copy_167 (by decide) rfl 169 rfl ?_
                            refine ww_aload_n (i := 0) C dX11_copy_169 rfl rfl 170 rfl ?_
                            refine ww_get C fe_X11_16 dX11_copy_170 0 rfl rfl 173 rfl ?_
                            refine ww_bipush (v := 60) C dX11_copy_173 (by decide) 175 rfl ?_
                            refine ww_iload_n (i := 3) C dX11_copy_175 rfl rfl 176 rfl ?_
                            refine ww_imul C dX11_copy_176 177 rfl ?_
                            refine ww_iload C dX11_copy_177 rfl 179 rfl ?_
                            refine ww_iadd C dX11_copy_179 180 rfl ?_
                            refine ww_iload C dX11_copy_180 rfl 182 rfl ?_
                            refine ww_iadd C dX11_copy_182 183 rfl ?_
                            rw [eD]
                            refine ww_aload_n (i := 0) C dX11_copy_183 rfl rfl 184 rfl ?_
                            refine ww_get C fe_X11_16 dX11_copy_184 0 rfl rfl 187 rfl ?_
                            refine ww_bipush (v := 60) C dX11_copy_187 (by decide) 189 rfl ?_
                            refine ww_iload_n (i := 1) C dX11_copy_189 rfl rfl 190 rfl ?_
                            refine ww_imul C dX11_copy_190 191 rfl ?_
                            refine ww_iload_n (i := 2) C dX11_copy_191 rfl rfl 192 rfl ?_
                            refine ww_iadd C dX11_copy_192 193 rfl ?_
                            refine ww_iload C dX11_copy_193 rfl 195 rfl ?_
                            refine ww_iadd C dX11_copy_195 196 rfl ?_
                            rw [eS]
                            refine ww_iald C dX11_copy_196 3 rfl (vp_in_nI (by omega) (by decide)) 197 rfl ?_
                            refine ww_iast C dX11_copy_197 3 rfl (vp_in_nI (by omega) (by decide)) 198 rfl ?_
                            refine ww_iinc (y := 1) C dX11_copy_198 rfl (by decide) (by decide) rfl 201 rfl ?_
                            refine ww_goto C 143 dX11_copy_201 (by decide) ?_
                            refine ww_lv (lv' := [some (.ref hm), some (.int (nI j)), some (.int (nI a)), some (.int (nI j1)), some (.int (nI b)), some (.int (nI n)), some (.int 1), some (.int (nI (k + 1))), none]) (by rw [nI_succ k]; exact (lvle_same (lvle_same (lvle_same (lvle_same (lvle_same (lvle_same (lvle_same (lvle_same (lvle_none lvle_nil)))))))))) ?_
                            refine ww_eq ?_ rfl rfl (ih (k + 1) (by omega) (by omega))
                            rw [← cpU_s, cS, cD, hrd]
                            rfl
                    · exact absurd (s_has_n hs1 hb) ((hs_iff hs1 (nI_pos (by omega)) (nI_pos (by omega))).mp (Int32.not_le.mp h_118))
          · exact absurd hll h_63
        · exact absurd h_42 (fun q => absurd (Int32.not_le.mpr ((Int32.not_le.mp q))) (fun w => w (Int32.not_lt.mp (fun y => hl1 ((hneg j1 hj1).mp y)))))
    · exact absurd (⟨nI_pos (by omega), nI_nlt (a := 7) (by omega) (by decide)⟩ : ¬ nI j1 < 0 ∧ ¬ nI 7 < nI j1) (bI_e0 h_16)
set_option maxHeartbeats 2000000 in
theorem c_X11_copy_D (l : Launch) (Γ : Gm) {hm : Nat} {q : Nat → Nat} {I : Nat → Int32} {j j1 sz sz1 a b n : Nat} {ln mn it : Nat → Int32} (hj : j < 8) (hj1 : j1 < 8) (hneg : ∀ k, k < 8 → (ln k < 0 ↔ ln k = -1)) (hm0 : ¬ ln j = -1 → mn j = nI sz) (hm1 : ¬ ln j1 = -1 → mn j1 = nI sz1) (hs : sz ≤ 60) (hs1 : sz1 ≤ 60) (hl : ¬ ln j = -1) (hll : ln j = ln j1) (ha : a + n ≤ sz) (hb : b + n ≤ sz1) (hdn : nI a < nI b) : Ct l Γ yX11_copy cX11_copy 9 (some .int) 4 [.ref hm, .int (nI j), .int (nI a), .int (nI j1), .int (nI b), .int (nI n)] ([wMo hm q (I), (q 2, .inl (Γ.2.1, 8, .inl (ln))), (q 3, .inl (Γ.2.1, 8, .inl (mn))), (q 4, .inl (Γ.2.1, 480, .inl (it)))]) (some (.int (nI n))) ([wMo hm q (upd (upd I 0 (0)) 1 (0)), (q 2, .inl (Γ.2.1, 8, .inl (ln))), (q 3, .inl (Γ.2.1, 8, .inl (mn))), (q 4, .inl (Γ.2.1, 480, .inl (cpU it (60 * j + a) (60 * j1 + b) n)))]) := by
  refine Ct.of mi_X11_copy [some (.ref hm), some (.int (nI j)), some (.int (nI a)), some (.int (nI j1)), some (.int (nI b)), some (.int (nI n)), none, none, none] 3 rfl (Nat.le_of_ble_eq_true rfl) ?_
  intro p e s m args below meth c C hr
  have ej : (nI j).toNatClampNeg = j := nI_clamp (by omega)
  have ej1 : (nI j1).toNatClampNeg = j1 := nI_clamp (by omega)
  have hl1 : ¬ ln j1 = -1 := by rw [← hll]; exact hl
  have hl0 := hl
  have hdir : j ≠ j1 ∨ a < b := by
    exact Or.inr ((nI_ltI (by omega) (by omega)).mp hdn)
  refine ww_aload_n (i := 0) C dX11_copy_0 rfl rfl 1 rfl ?_
  refine ww_iconst (v := 0) C dX11_copy_1 (by decide) 2 rfl ?_
  refine ww_mput_0 C fe_X11_52 dX11_copy_2 5 rfl ?_
  refine ww_iload_n (i := 1) C dX11_copy_5 rfl rfl 6 rfl ?_
  refine ww_callS1p C (c_X11_isSheet l Γ) mi_X11_isSheet st_X11_isSheet ml_X11_66 dX11_copy_6 (Nat.le_of_ble_eq_true rfl) (Nat.le_of_ble_eq_true rfl) (Nat.le_of_ble_eq_true rfl) ⟨Nat.zero_le _, Nat.zero_le _⟩ [] rfl (by decide) 9 rfl ?_
  refine ww_if_eq C 19 dX11_copy_9 (by decide) 12 rfl (fun h_9 => ?_) (fun h_9 => ?_)
  · exact absurd (⟨nI_pos (by omega), nI_nlt (a := 7) (by omega) (by decide)⟩ : ¬ nI j < 0 ∧ ¬ nI 7 < nI j) (bI_e0 h_9)
  · skip
    refine ww_iload_n (i := 3) C dX11_copy_12 rfl rfl 13 rfl ?_
    refine ww_callS1p C (c_X11_isSheet l Γ) mi_X11_isSheet st_X11_isSheet ml_X11_66 dX11_copy_13 (Nat.le_of_ble_eq_true rfl) (Nat.le_of_ble_eq_true rfl) (Nat.le_of_ble_eq_true rfl) ⟨Nat.zero_le _, Nat.zero_le _⟩ [] rfl (by decide) 16 rfl ?_
    refine ww_if_ne C 22 dX11_copy_16 (by decide) 19 rfl (fun h_16 => ?_) (fun h_16 => ?_)
    · skip
      refine ww_aload_n (i := 0) C dX11_copy_22 rfl rfl 23 rfl ?_
      refine ww_iconst (v := 0) C dX11_copy_23 (by decide) 24 rfl ?_
      refine ww_mput_1 C fe_X11_56 dX11_copy_24 27 rfl ?_
      refine ww_aload_n (i := 0) C dX11_copy_27 rfl rfl 28 rfl ?_
      refine ww_get C fe_X11_7 dX11_copy_28 0 rfl rfl 31 rfl ?_
      refine ww_iload_n (i := 1) C dX11_copy_31 rfl rfl 32 rfl ?_
      refine ww_iald C dX11_copy_32 1 rfl (vp_in_nI hj (by decide)) 33 rfl ?_
      rw [ej]
      refine ww_if_lt C 45 dX11_copy_33 (by decide) 36 rfl (fun h_33 => ?_) (fun h_33 => ?_)
      · exact absurd ((hneg j hj).mp h_33) hl
      · skip
        refine ww_aload_n (i := 0) C dX11_copy_36 rfl rfl 37 rfl ?_
        refine ww_get C fe_X11_7 dX11_copy_37 0 rfl rfl 40 rfl ?_
        refine ww_iload_n (i := 3) C dX11_copy_40 rfl rfl 41 rfl ?_
        refine ww_iald C dX11_copy_41 1 rfl (vp_in_nI hj1 (by decide)) 42 rfl ?_
        rw [ej1]
        refine ww_if_ge C 51 dX11_copy_42 (by decide) 45 rfl (fun h_42 => ?_) (fun h_42 => ?_)
        · skip
          refine ww_aload_n (i := 0) C dX11_copy_51 rfl rfl 52 rfl ?_
          refine ww_get C fe_X11_7 dX11_copy_52 0 rfl rfl 55 rfl ?_
          refine ww_iload_n (i := 1) C dX11_copy_55 rfl rfl 56 rfl ?_
          refine ww_iald C dX11_copy_56 1 rfl (vp_in_nI hj (by decide)) 57 rfl ?_
          refine ww_aload_n (i := 0) C dX11_copy_57 rfl rfl 58 rfl ?_
          refine ww_get C fe_X11_7 dX11_copy_58 0 rfl rfl 61 rfl ?_
          refine ww_iload_n (i := 3) C dX11_copy_61 rfl rfl 62 rfl ?_
          refine ww_iald C dX11_copy_62 1 rfl (vp_in_nI hj1 (by decide)) 63 rfl ?_
          rw [ej, ej1]
          refine ww_icmp_eq C 72 dX11_copy_63 (by decide) 66 rfl (fun h_63 => ?_) (fun h_63 => ?_)
          · skip
            refine ww_iload_n (i := 2) C dX11_copy_72 rfl rfl 73 rfl ?_
            refine ww_if_lt C 121 dX11_copy_73 (by decide) 76 rfl (fun h_73 => ?_) (fun h_73 => ?_)
            · exact absurd h_73 (nI_pos (by omega))
            · skip
              refine ww_iload C dX11_copy_76 rfl 78 rfl ?_
              refine ww_if_lt C 121 dX11_copy_78 (by decide) 81 rfl (fun h_78 => ?_) (fun h_78 => ?_)
              · exact absurd h_78 (nI_pos (by omega))
              · skip
                refine ww_iload C dX11_copy_81 rfl 83 rfl ?_
                refine ww_if_lt C 121 dX11_copy_83 (by decide) 86 rfl (fun h_83 => ?_) (fun h_83 => ?_)
                · exact absurd h_83 (nI_pos (by omega))
                · skip
                  refine ww_iload_n (i := 2) C dX11_copy_86 rfl rfl 87 rfl ?_
                  refine ww_i2l C dX11_copy_87 88 rfl ?_
                  refine ww_iload C dX11_copy_88 rfl 90 rfl ?_
                  refine ww_i2l C dX11_copy_90 91 rfl ?_
                  refine ww_ladd C dX11_copy_91 92 rfl ?_
                  refine ww_aload_n (i := 0) C dX11_copy_92 rfl rfl 93 rfl ?_
                  refine ww_get C fe_X11_13 dX11_copy_93 0 rfl rfl 96 rfl ?_
                  refine ww_iload_n (i := 1) C dX11_copy_96 rfl rfl 97 rfl ?_
                  refine ww_iald C dX11_copy_97 2 rfl (vp_in_nI hj (by decide)) 98 rfl ?_
                  rw [ej, hm0 hl0]
                  refine ww_i2l C dX11_copy_98 99 rfl ?_
                  refine ww_lcmp C dX11_copy_99 100 rfl ?_
                  refine ww_if_gt C 121 dX11_copy_100 (by decide) 103 rfl (fun h_100 => ?_) (fun h_100 => ?_)
                  · exact absurd (s_has_n hs ha) ((hs_iff hs (nI_pos (by omega)) (nI_pos (by omega))).mp h_100)
                  · skip
                    refine ww_iload C dX11_copy_103 rfl 105 rfl ?_
                    refine ww_i2l C dX11_copy_105 106 rfl ?_
                    refine ww_iload C dX11_copy_106 rfl 108 rfl ?_
                    refine ww_i2l C dX11_copy_108 109 rfl ?_
                    refine ww_ladd C dX11_copy_109 110 rfl ?_
                    refine ww_aload_n (i := 0) C dX11_copy_110 rfl rfl 111 rfl ?_
                    refine ww_get C fe_X11_13 dX11_copy_111 0 rfl rfl 114 rfl ?_
                    refine ww_iload_n (i := 3) C dX11_copy_114 rfl rfl 115 rfl ?_
                    refine ww_iald C dX11_copy_115 2 rfl (vp_in_nI hj1 (by decide)) 116 rfl ?_
                    rw [ej1, hm1 hl1]
                    refine ww_i2l C dX11_copy_116 117 rfl ?_
                    refine ww_lcmp C dX11_copy_117 118 rfl ?_
                    refine ww_if_le C 127 dX11_copy_118 (by decide) 121 rfl (fun h_118 => ?_) (fun h_118 => ?_)
                    · skip
                      refine ww_iload_n (i := 2) C dX11_copy_127 rfl rfl 128 rfl ?_
                      refine ww_iload C dX11_copy_128 rfl 130 rfl ?_
                      refine ww_icmp_lt C 137 dX11_copy_130 (by decide) 133 rfl (fun h_130 => ?_) (fun h_130 => ?_)
                      · skip
                        refine ww_iconst (v := 0) C dX11_copy_137 (by decide) 138 rfl ?_
                        refine ww_istore C dX11_copy_138 (by decide) rfl 140 rfl ?_
                        refine ww_iconst (v := 0) C dX11_copy_140 (by decide) 141 rfl ?_
                        refine ww_istore C dX11_copy_141 (by decide) rfl 143 rfl ?_
                        refine ww_lv (lv' := [some (.ref hm), some (.int (nI j)), some (.int (nI a)), some (.int (nI j1)), some (.int (nI b)), some (.int (nI n)), some (.int 0), some (.int (nI 0)), none]) (lvle_same (lvle_same (lvle_same (lvle_same (lvle_same (lvle_same (lvle_same (lvle_same (lvle_none lvle_nil))))))))) ?_
                        refine ww_eq (ws' := [wMo hm q (upd (upd I 0 (0)) 1 (0)), (q 2, .inl (Γ.2.1, 8, .inl (ln))), (q 3, .inl (Γ.2.1, 8, .inl (mn))), (q 4, .inl (Γ.2.1, 480, .inl (cpD it (60 * j + a) (60 * j1 + b) n 0)))]) (by rw [cpD_0]; all_goals rfl) rfl rfl ?_
                        refine ww_loop (fun k : Nat => n - k) (fun k => k ≤ n) (fun k => [wMo hm q (upd (upd I 0 (0)) 1 (0)), (q 2, .inl (Γ.2.1, 8, .inl (ln))), (q 3, .inl (Γ.2.1, 8, .inl (mn))), (q 4, .inl (Γ.2.1, 480, .inl (cpD it (60 * j + a) (60 * j1 + b) n k)))]) (fun k => [some (.ref hm), some (.int (nI j)), some (.int (nI a)), some (.int (nI j1)), some (.int (nI b)), some (.int (nI n)), some (.int 0), some (.int (nI k)), none]) (0 : Nat) (Nat.zero_le _) rfl rfl (fun k hk ih => ?_)
                        try dsimp only at hk ih ⊢
                        refine ww_iload C dX11_copy_143 rfl 145 rfl ?_
                        refine ww_iload C dX11_copy_145 rfl 147 rfl ?_
                        refine ww_icmp_ge C 204 dX11_copy_147 (by decide) 150 rfl (fun h_147 => ?_) (fun h_147 => ?_)
                        · skip
                          obtain rfl : k = n := eqN h_147 hk (by omega)
                          rw [cpD_n]
                          refine ww_iload C dX11_copy_204 rfl 206 rfl ?_
                          exact ww_iret C hr dX11_copy_206 rfl rfl
                        · skip
                          have hlt : k < n := ltN h_147 (by omega) (by omega)
                          have eD : (60 : Int32) * nI j1 + nI b + nI (n - 1 - k) = nI (60 * j1 + b + (n - 1 - k)) := by rw [show (60 : Int32) = nI 60 from rfl, pk_mul, nI_add, nI_add]
                          have eS : (60 : Int32) * nI j + nI a + nI (n - 1 - k) = nI (60 * j + a + (n - 1 - k)) := by rw [show (60 : Int32) = nI 60 from rfl, pk_mul, nI_add, nI_add]
                          have cD : (nI (60 * j1 + b + (n - 1 - k))).toNatClampNeg = 60 * j1 + b + (n - 1 - k) := nI_clamp (by omega)
                          have cS : (nI (60 * j + a + (n - 1 - k))).toNatClampNeg = 60 * j + a + (n - 1 - k) := nI_clamp (by omega)
                          have hrd : cpD it (60 * j + a) (60 * j1 + b) n k (60 * j + a + (n - 1 - k)) = it (60 * j + a + (n - 1 - k)) := if_neg (by rcases hdir with q | q <;> omega)
                          refine ww_iload C dX11_copy_150 rfl 152 rfl ?_
                          refine ww_if_eq C 160 dX11_copy_152 (by decide) 155 rfl (fun h_152 => ?_) (fun h_152 => ?_)
                          · skip
                            refine ww_iload C dX11_copy_160 rfl 162 rfl ?_
                            refine ww_iconst (v := 1) C dX11_copy_162 (by decide) 163 rfl ?_
                            refine ww_isub C dX11_copy_163 164 rfl ?_
                            refine ww_iload C dX11_copy_164 rfl 166 rfl ?_
                            refine ww_isub C dX11_copy_166 167 rfl ?_
                            rw [show nI n - 1 - nI k = nI (n - 1 - k) by rw [show (1 : Int32) = nI 1 from rfl, pk_sub (by omega), pk_sub (by omega)]]
                            refine ww_istore C dX11_copy_167 (by decide) rfl 169 rfl ?_
                            refine ww_aload_n (i := 0) C dX11_copy_169 rfl rfl 170 rfl ?_
                            refine ww_get C fe_X11_16 dX11_copy_170 0 rfl rfl 173 rfl ?_
                            refine ww_bipush (v := 60) C dX11_copy_173 (by decide) 175 rfl ?_
                            refine ww_iload_n (i := 3) C dX11_copy_175 rfl rfl 176 rfl ?_
                            refine ww_imul C dX11_copy_176 177 rfl ?_
                            refine ww_iload C dX11_copy_177 rfl 179 rfl ?_
                            refine ww_iadd C dX11_copy_179 180 rfl ?_
                            refine ww_iload C dX11_copy_180 rfl 182 rfl ?_
                            refine ww_iadd C dX11_copy_182 183 rfl ?_
                            rw [eD]
                            refine ww_aload_n (i := 0) C dX11_copy_183 rfl rfl 184 rfl ?_
                            refine ww_get C fe_X11_16 dX11_copy_184 0 rfl rfl 187 rfl ?_
                            refine ww_bipush (v := 60) C dX11_copy_187 (by decide) 189 rfl ?_
                            refine ww_iload_n (i := 1) C dX11_copy_189 rfl rfl 190 rfl ?_
                            refine ww_imul C dX11_copy_190 191 rfl ?_
                            refine ww_iload_n (i := 2) C dX11_copy_191 rfl rfl 192 rfl ?_
                            refine ww_iadd C dX11_copy_192 193 rfl ?_
                            refine ww_iload C dX11_copy_193 rfl 195 rfl ?_
                            refine ww_iadd C dX11_copy_195 196 rfl ?_
                            rw [eS]
                            refine ww_iald C dX11_copy_196 3 rfl (vp_in_nI (by omega) (by decide)) 197 rfl ?_
                            refine ww_iast C dX11_copy_197 3 rfl (vp_in_nI (by omega) (by decide)) 198 rfl ?_
                            refine ww_iinc (y := 1) C dX11_copy_198 rfl (by decide) (by decide) rfl 201 rfl ?_
                            refine ww_goto C 143 dX11_copy_201 (by decide) ?_
                            refine ww_lv (lv' := [some (.ref hm), some (.int (nI j)), some (.int (nI a)), some (.int (nI j1)), some (.int (nI b)), some (.int (nI n)), some (.int 0), some (.int (nI (k + 1))), none]) (by rw [nI_succ k]; exact (lvle_same (lvle_same (lvle_same (lvle_same (lvle_same (lvle_same (lvle_same (lvle_same (lvle_none lvle_nil)))))))))) ?_
                            refine ww_eq ?_ rfl rfl (ih (k + 1) (by omega) (by omega))
                            rw [← cpD_s hlt, cS, cD, hrd]
                            rfl
                          · exact absurd h_152 (by decide)
                      · exact absurd hdn h_130
                    · exact absurd (s_has_n hs1 hb) ((hs_iff hs1 (nI_pos (by omega)) (nI_pos (by omega))).mp (Int32.not_le.mp h_118))
          · exact absurd hll h_63
        · exact absurd h_42 (fun q => absurd (Int32.not_le.mpr ((Int32.not_le.mp q))) (fun w => w (Int32.not_lt.mp (fun y => hl1 ((hneg j1 hj1).mp y)))))
    · exact absurd (⟨nI_pos (by omega), nI_nlt (a := 7) (by omega) (by decide)⟩ : ¬ nI j1 < 0 ∧ ¬ nI 7 < nI j1) (bI_e0 h_16)
