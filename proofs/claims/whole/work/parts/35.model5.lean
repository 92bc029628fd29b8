/-- a test in the class's rows and in the model's row -/
def TsR (w a b o a' b' : Int32) : Prop :=
  (w = 6711655 ∧ o = 1 ∧ a' = a ∧ b' = b ∧ ∃ y, y < 16 ∧ b = nI y) ∨ (w = 1935764837 ∧ o = 2 ∧ a' = a ∧ b' = b ∧ (∃ x, x < 16 ∧ a = nI x) ∧ ∃ y, y < 16 ∧ b = nI y) ∨ (w = 1885434739 ∧ o = 3 ∧ a' = a) ∨ (w = 1702258030 ∧ o = 4 ∧ a' = a ∧ ∃ x, x < 16 ∧ a = nI x)
def RlR (wd fi se ts : Nat → Int32) (r t : Nat) : Prop := ∀ j, j < t → TsR (wd (4 * r + j)) (fi (4 * r + j)) (se (4 * r + j)) (ts (12 * r + 3 * j)) (ts (12 * r + 3 * j + 1)) (ts (12 * r + 3 * j + 2))
theorem bI_tr {b : Bool} {c : Int32} {p : Prop} [Decidable p] (hc : c = bI p) : bI ((b && !(c == 0)) = true) = if b = true then bI p else 0 := by
  subst hc
  cases b
  · rfl
  · by_cases h : p
    · rw [bI_1 h]; rfl
    · rw [bI_0 h]; rfl
set_option maxHeartbeats 4000000 in
theorem c_X11_isTrue (l : Launch) (Γ : Gm) {hm : Nat} {q : Nat → Nat} {I : Nat → Int32} {n r t : Nat} {pl te ts wd fi se : Nat → Int32} (hr9 : r < 15) (ht : te r = nI t) (h4 : t ≤ 4) (hrel : RlR wd fi se ts r t) : Ct l Γ yX11_isTrue cX11_isTrue 9 (some .boolean) 1 [.ref hm, .int (nI r)] ([wMo hm q (I), (q 6, .inl (Γ.2.1, 16, .inl (s_lay pl n))), (q 8, .inl (Γ.2.1, 15, .inl (te))), (q 9, .inl (Γ.2.1, 180, .inl (ts)))]) (some (.int (bI (s_tr wd fi se r (lN (CH n)) t = true)))) ([wMo hm q (I), (q 6, .inl (Γ.2.1, 16, .inl (s_lay pl n))), (q 8, .inl (Γ.2.1, 15, .inl (te))), (q 9, .inl (Γ.2.1, 180, .inl (ts)))]) := by
  refine Ct.of mi_X11_isTrue [some (.ref hm), some (.int (nI r)), none, none, none, none, none, none, none] 7 rfl (Nat.le_of_ble_eq_true rfl) ?_
  intro p e s m args below meth c C hr
  refine ww_iconst (v := 1) C dX11_isTrue_0 (by decide) 1 rfl ?_
  refine ww_istore_n (i := 2) C dX11_isTrue_1 rfl (by decide) rfl 2 rfl ?_
  refine ww_iconst (v := 0) C dX11_isTrue_2 (by decide) 3 rfl ?_
  refine ww_istore_n (i := 3) C dX11_isTrue_3 rfl (by decide) rfl 4 rfl ?_
  refine ww_lv (lv' := [some (.ref hm), some (.int (nI r)), some (.int 1), some (.int (nI 0)), none, none, none, none, none]) (lvle_same (lvle_same (lvle_same (lvle_same (lvle_none (lvle_none (lvle_none (lvle_none (lvle_none lvle_nil))))))))) ?_
  refine ww_loop (fun j : Nat => t - j) (fun j => j ≤ t) (fun _ => [wMo hm q (I), (q 6, .inl (Γ.2.1, 16, .inl (s_lay pl n))), (q 8, .inl (Γ.2.1, 15, .inl (te))), (q 9, .inl (Γ.2.1, 180, .inl (ts)))]) (fun j => [some (.ref hm), some (.int (nI r)), some (.int (bI (s_tr wd fi se r (lN (CH n)) j = true))), some (.int (nI j)), none, none, none, none, none]) (0 : Nat) (Nat.zero_le _) rfl rfl (fun j hj ih => ?_)
  try dsimp only at hj ih ⊢
  refine ww_iload_n (i := 3) C dX11_isTrue_4 rfl rfl 5 rfl ?_
  refine ww_aload_n (i := 0) C dX11_isTrue_5 rfl rfl 6 rfl ?_
  refine ww_get C fe_X11_22 dX11_isTrue_6 0 rfl rfl 9 rfl ?_
  refine ww_iload_n (i := 1) C dX11_isTrue_9 rfl rfl 10 rfl ?_
  refine ww_iald C dX11_isTrue_10 2 rfl (vp_in_nI hr9 (by decide)) 11 rfl ?_
  rw [nI_clamp (show r < 2 ^ 31 by omega), ht]
  refine ww_icmp_ge C 230 dX11_isTrue_11 (by decide) 14 rfl (fun h_11 => ?_) (fun h_11 => ?_)
  · skip
    obtain rfl : j = t := eqN h_11 hj (by omega)
    refine ww_iload_n (i := 2) C dX11_isTrue_230 rfl rfl 231 rfl ?_
    exact ww_zret C hr bI_z dX11_isTrue_231 rfl rfl
  · skip
    have hlt : j < t := ltN h_11 (by omega) (by omega)
    have ih0 : (12 : Int32) * nI r + 3 * nI j = nI (12 * r + 3 * j) := by rw [show (12 : Int32) = nI 12 from rfl, show (3 : Int32) = nI 3 from rfl, pk_mul, pk_mul, nI_add]
    have ix1 : nI (12 * r + 3 * j) + 1 = nI (12 * r + 3 * j + 1) := by rw [show (1 : Int32) = nI 1 from rfl, nI_add]
    have ix2 : nI (12 * r + 3 * j) + 2 = nI (12 * r + 3 * j + 2) := by rw [show (2 : Int32) = nI 2 from rfl, nI_add]
    have ic0 : (nI (12 * r + 3 * j)).toNatClampNeg = 12 * r + 3 * j := nI_clamp (by omega)
    have ic1 : (nI (12 * r + 3 * j) + 1).toNatClampNeg = 12 * r + 3 * j + 1 := by rw [ix1]; exact nI_clamp (by omega)
    have ic2 : (nI (12 * r + 3 * j) + 2).toNatClampNeg = 12 * r + 3 * j + 2 := by rw [ix2]; exact nI_clamp (by omega)
    refine ww_bipush (v := 12) C dX11_isTrue_14 (by decide) 16 rfl ?_
    refine ww_iload_n (i := 1) C dX11_isTrue_16 rfl rfl 17 rfl ?_
    refine ww_imul C dX11_isTrue_17 18 rfl ?_
    refine ww_iconst (v := 3) C dX11_isTrue_18 (by decide) 19 rfl ?_
    refine ww_iload_n (i := 3) C dX11_isTrue_19 rfl rfl 20 rfl ?_
    refine ww_imul C dX11_isTrue_20 21 rfl ?_
    refine ww_iadd C dX11_isTrue_21 22 rfl ?_
    rw [ih0]
    refine ww_istore C dX11_isTrue_22 (by decide) rfl 24 rfl ?_
    refine ww_aload_n (i := 0) C dX11_isTrue_24 rfl rfl 25 rfl ?_
    refine ww_get C fe_X11_25 dX11_isTrue_25 0 rfl rfl 28 rfl ?_
    refine ww_iload C dX11_isTrue_28 rfl 30 rfl ?_
    refine ww_iconst (v := 1) C dX11_isTrue_30 (by decide) 31 rfl ?_
    refine ww_iadd C dX11_isTrue_31 32 rfl ?_
    refine ww_iald C dX11_isTrue_32 3 rfl (by rw [ix1]; exact vp_in_nI (by omega) (by decide)) 33 rfl ?_
    rw [ic1]
    refine ww_istore C dX11_isTrue_33 (by decide) rfl 35 rfl ?_
    refine ww_aload_n (i := 0) C dX11_isTrue_35 rfl rfl 36 rfl ?_
    refine ww_get C fe_X11_25 dX11_isTrue_36 0 rfl rfl 39 rfl ?_
    refine ww_iload C dX11_isTrue_39 rfl 41 rfl ?_
    refine ww_iconst (v := 2) C dX11_isTrue_41 (by decide) 42 rfl ?_
    refine ww_iadd C dX11_isTrue_42 43 rfl ?_
    refine ww_iald C dX11_isTrue_43 3 rfl (by rw [ix2]; exact vp_in_nI (by omega) (by decide)) 44 rfl ?_
    rw [ic2]
    refine ww_istore C dX11_isTrue_44 (by decide) rfl 46 rfl ?_
    refine ww_aload_n (i := 0) C dX11_isTrue_46 rfl rfl 47 rfl ?_
    refine ww_get C fe_X11_25 dX11_isTrue_47 0 rfl rfl 50 rfl ?_
    refine ww_iload C dX11_isTrue_50 rfl 52 rfl ?_
    refine ww_iald C dX11_isTrue_52 3 rfl (vp_in_nI (by omega) (by decide)) 53 rfl ?_
    rw [ic0]
    rcases hrel j hlt with ⟨hw, ho, ha2, hb2, y, hy, hy2⟩ | ⟨hw, ho, ha2, hb2, ⟨x, hx, hx2⟩, y, hy, hy2⟩ | ⟨hw, ho, ha2⟩ | ⟨hw, ho, ha2, x, hx, hx2⟩
    · skip
      rw [ho]
      refine ww_iconst (v := 1) C dX11_isTrue_53 (by decide) 54 rfl ?_
      refine ww_icmp_ne C 82 dX11_isTrue_54 (by decide) 57 rfl (fun h_54 => ?_) (fun h_54 => ?_)
      · exact absurd h_54 (by decide)
      · skip
        refine ww_iload_n (i := 2) C dX11_isTrue_57 rfl rfl 58 rfl ?_
        refine ww_if_eq C 77 dX11_isTrue_58 (by decide) 61 rfl (fun h_58 => ?_) (fun h_58 => ?_)
        · skip
          refine ww_iconst (v := 0) C dX11_isTrue_77 (by decide) 78 rfl ?_
          refine ww_istore_n (i := 2) C dX11_isTrue_78 rfl (by decide) rfl 79 rfl ?_
          refine ww_goto C 224 dX11_isTrue_79 (by decide) ?_
          refine ww_iinc (y := 1) C dX11_isTrue_224 rfl (by decide) (by decide) rfl 227 rfl ?_
          refine ww_goto C 4 dX11_isTrue_227 (by decide) ?_
          have hval : bI (s_tr wd fi se r (lN (CH n)) (j + 1) = true) = _ := (congrArg (fun b => bI (b = true)) (show s_tr wd fi se r (lN (CH n)) (j + 1) = (s_tr wd fi se r (lN (CH n)) j && !(s_tst (wd (4 * r + j)) (fi (4 * r + j)) (se (4 * r + j)) (lN (CH n)) == 0)) from rfl)).trans (bI_tr (p := s_fa (lN (CH n)) (se (4 * r + j)) = (fi (4 * r + j))) (by rw [s_tst, if_pos hw]))
          have hv2 : bI (s_tr wd fi se r (lN (CH n)) (j + 1) = true) = 1 ∨ bI (s_tr wd fi se r (lN (CH n)) (j + 1) = true) = 0 := by
            by_cases z : s_tr wd fi se r (lN (CH n)) (j + 1) = true
            · left; exact bI_1 z
            · right; exact bI_0 z
          first
            | (have h9 : bI (s_tr wd fi se r (lN (CH n)) (j + 1) = true) = 1 := by
                 rw [hval, if_pos (bI_n0 h_58), bI_1 (by rw [hy2, s_fa_CH hy]; exact h_70)]
               refine ww_lv (lv' := [some (.ref hm), some (.int (nI r)), some (.int (bI (s_tr wd fi se r (lN (CH n)) (j + 1) = true))), some (.int (nI (j + 1))), none, none, none, none, none]) (by rw [h9, nI_succ j]; exact (lvle_same (lvle_same (lvle_same (lvle_same (lvle_none (lvle_none (lvle_none (lvle_none (lvle_none lvle_nil)))))))))) (ih (j + 1) (by omega) (by omega)))
            | (have h9 : bI (s_tr wd fi se r (lN (CH n)) (j + 1) = true) = 0 := by
                 rw [hval]
                 by_cases z : s_tr wd fi se r (lN (CH n)) j = true
                 · rw [if_pos z]
                   first
                     | exact absurd z (bI_e0 h_58)
                     | exact bI_0 (fun z2 => h_70 (by rw [hy2, s_fa_CH hy] at z2; exact z2))
                 · exact if_neg z
               refine ww_lv (lv' := [some (.ref hm), some (.int (nI r)), some (.int (bI (s_tr wd fi se r (lN (CH n)) (j + 1) = true))), some (.int (nI (j + 1))), none, none, none, none, none]) (by rw [h9, nI_succ j]; exact (lvle_same (lvle_same (lvle_same (lvle_same (lvle_none (lvle_none (lvle_none (lvle_none (lvle_none lvle_nil)))))))))) (ih (j + 1) (by omega) (by omega)))
        · skip
          refine ww_aload_n (i := 0) C dX11_isTrue_61 rfl rfl 62 rfl ?_
          refine ww_get C fe_X11_19 dX11_isTrue_62 0 rfl rfl 65 rfl ?_
          refine ww_iload C dX11_isTrue_65 rfl 67 rfl ?_
          rw [hb2, hy2]
          refine ww_iald C dX11_isTrue_67 1 rfl (vp_in_nI hy (by decide)) 68 rfl ?_
          rw [nI_clamp (show y < 2 ^ 31 by omega), s_lay_at hy]
          refine ww_iload C dX11_isTrue_68 rfl 70 rfl ?_
          rw [ha2]
          refine ww_icmp_ne C 77 dX11_isTrue_70 (by decide) 73 rfl (fun h_70 => ?_) (fun h_70 => ?_)
          · skip
            refine ww_iconst (v := 0) C dX11_isTrue_77 (by decide) 78 rfl ?_
            refine ww_istore_n (i := 2) C dX11_isTrue_78 rfl (by decide) rfl 79 rfl ?_
            refine ww_goto C 224 dX11_isTrue_79 (by decide) ?_
            refine ww_iinc (y := 1) C dX11_isTrue_224 rfl (by decide) (by decide) rfl 227 rfl ?_
            refine ww_goto C 4 dX11_isTrue_227 (by decide) ?_
            have hval : bI (s_tr wd fi se r (lN (CH n)) (j + 1) = true) = _ := (congrArg (fun b => bI (b = true)) (show s_tr wd fi se r (lN (CH n)) (j + 1) = (s_tr wd fi se r (lN (CH n)) j && !(s_tst (wd (4 * r + j)) (fi (4 * r + j)) (se (4 * r + j)) (lN (CH n)) == 0)) from rfl)).trans (bI_tr (p := s_fa (lN (CH n)) (se (4 * r + j)) = (fi (4 * r + j))) (by rw [s_tst, if_pos hw]))
            have hv2 : bI (s_tr wd fi se r (lN (CH n)) (j + 1) = true) = 1 ∨ bI (s_tr wd fi se r (lN (CH n)) (j + 1) = true) = 0 := by
              by_cases z : s_tr wd fi se r (lN (CH n)) (j + 1) = true
              · left; exact bI_1 z
              · right; exact bI_0 z
            first
              | (have h9 : bI (s_tr wd fi se r (lN (CH n)) (j + 1) = true) = 1 := by
                   rw [hval, if_pos (bI_n0 h_58), bI_1 (by rw [hy2, s_fa_CH hy]; exact h_70)]
                 refine ww_lv (lv' := [some (.ref hm), some (.int (nI r)), some (.int (bI (s_tr wd fi se r (lN (CH n)) (j + 1) = true))), some (.int (nI (j + 1))), none, none, none, none, none]) (by rw [h9, nI_succ j]; exact (lvle_same (lvle_same (lvle_same (lvle_same (lvle_none (lvle_none (lvle_none (lvle_none (lvle_none lvle_nil)))))))))) (ih (j + 1) (by omega) (by omega)))
              | (have h9 : bI (s_tr wd fi se r (lN (CH n)) (j + 1) = true) = 0 := by
                   rw [hval]
                   by_cases z : s_tr wd fi se r (lN (CH n)) j = true
                   · rw [if_pos z]
                     first
                       | exact absurd z (bI_e0 h_58)
                       | exact bI_0 (fun z2 => h_70 (by rw [hy2, s_fa_CH hy] at z2; exact z2))
                   · exact if_neg z
                 refine ww_lv (lv' := [some (.ref hm), some (.int (nI r)), some (.int (bI (s_tr wd fi se r (lN (CH n)) (j + 1) = true))), some (.int (nI (j + 1))), none, none, none, none, none]) (by rw [h9, nI_succ j]; exact (lvle_same (lvle_same (lvle_same (lvle_same (lvle_none (lvle_none (lvle_none (lvle_none (lvle_none lvle_nil)))))))))) (ih (j + 1) (by omega) (by omega)))
          · skip
            refine ww_iconst (v := 1) C dX11_isTrue_73 (by decide) 74 rfl ?_
            refine ww_goto C 78 dX11_isTrue_74 (by decide) ?_
            refine ww_istore_n (i := 2) C dX11_isTrue_78 rfl (by decide) rfl 79 rfl ?_
            refine ww_goto C 224 dX11_isTrue_79 (by decide) ?_
            refine ww_iinc (y := 1) C dX11_isTrue_224 rfl (by decide) (by decide) rfl 227 rfl ?_
            refine ww_goto C 4 dX11_isTrue_227 (by decide) ?_
            have hval : bI (s_tr wd fi se r (lN (CH n)) (j + 1) = true) = _ := (congrArg (fun b => bI (b = true)) (show s_tr wd fi se r (lN (CH n)) (j + 1) = (s_tr wd fi se r (lN (CH n)) j && !(s_tst (wd (4 * r + j)) (fi (4 * r + j)) (se (4 * r + j)) (lN (CH n)) == 0)) from rfl)).trans (bI_tr (p := s_fa (lN (CH n)) (se (4 * r + j)) = (fi (4 * r + j))) (by rw [s_tst, if_pos hw]))
            have hv2 : bI (s_tr wd fi se r (lN (CH n)) (j + 1) = true) = 1 ∨ bI (s_tr wd fi se r (lN (CH n)) (j + 1) = true) = 0 := by
              by_cases z : s_tr wd fi se r (lN (CH n)) (j + 1) = true
              · left; exact bI_1 z
              · right; exact bI_0 z
            first
              | (have h9 : bI (s_tr wd fi se r (lN (CH n)) (j + 1) = true) = 1 := by
                   rw [hval, if_pos (bI_n0 h_58), bI_1 (by rw [hy2, s_fa_CH hy]; exact h_70)]
                 refine ww_lv (lv' := [some (.ref hm), some (.int (nI r)), some (.int (bI (s_tr wd fi se r (lN (CH n)) (j + 1) = true))), some (.int (nI (j + 1))), none, none, none, none, none]) (by rw [h9, nI_succ j]; exact (lvle_same (lvle_same (lvle_same (lvle_same (lvle_none (lvle_none (lvle_none (lvle_none (lvle_none lvle_nil)))))))))) (ih (j + 1) (by omega) (by omega)))
              | (have h9 : bI (s_tr wd fi se r (lN (CH n)) (j + 1) = true) = 0 := by
                   rw [hval]
                   by_cases z : s_tr wd fi se r (lN (CH n)) j = true
                   · rw [if_pos z]
                     first
                       | exact absurd z (bI_e0 h_58)
                       | exact bI_0 (fun z2 => h_70 (by rw [hy2, s_fa_CH hy] at z2; exact z2))
                   · exact if_neg z
                 refine ww_lv (lv' := [some (.ref hm), some (.int (nI r)), some (.int (bI (s_tr wd fi se r (lN (CH n)) (j + 1) = true))), some (.int (nI (j + 1))), none, none, none, none, none]) (by rw [h9, nI_succ j]; exact (lvle_same (lvle_same (lvle_same (lvle_same (lvle_none (lvle_none (lvle_none (lvle_none (lvle_none lvle_nil)))))))))) (ih (j + 1) (by omega) (by omega)))
    · skip
      rw [ho]
      refine ww_iconst (v := 1) C dX11_isTrue_53 (by decide) 54 rfl ?_
      refine ww_icmp_ne C 82 dX11_isTrue_54 (by decide) 57 rfl (fun h_54 => ?_) (fun h_54 => ?_)
      · skip
        refine ww_aload_n (i := 0) C dX11_isTrue_82 rfl rfl 83 rfl ?_
        refine ww_get C fe_X11_25 dX11_isTrue_83 0 rfl rfl 86 rfl ?_
        refine ww_iload C dX11_isTrue_86 rfl 88 rfl ?_
        refine ww_iald C dX11_isTrue_88 3 rfl (vp_in_nI (by omega) (by decide)) 89 rfl ?_
        rw [ic0, ho]
        · skip
          refine ww_iconst (v := 2) C dX11_isTrue_89 (by decide) 90 rfl ?_
          refine ww_icmp_ne C 123 dX11_isTrue_90 (by decide) 93 rfl (fun h_90 => ?_) (fun h_90 => ?_)
          · exact absurd h_90 (by decide)
          · skip
            refine ww_iload_n (i := 2) C dX11_isTrue_93 rfl rfl 94 rfl ?_
            refine ww_if_eq C 118 dX11_isTrue_94 (by decide) 97 rfl (fun h_94 => ?_) (fun h_94 => ?_)
            · skip
              refine ww_iconst (v := 0) C dX11_isTrue_118 (by decide) 119 rfl ?_
              refine ww_istore_n (i := 2) C dX11_isTrue_119 rfl (by decide) rfl 120 rfl ?_
              refine ww_goto C 224 dX11_isTrue_120 (by decide) ?_
              refine ww_iinc (y := 1) C dX11_isTrue_224 rfl (by decide) (by decide) rfl 227 rfl ?_
              refine ww_goto C 4 dX11_isTrue_227 (by decide) ?_
              have hval : bI (s_tr wd fi se r (lN (CH n)) (j + 1) = true) = _ := (congrArg (fun b => bI (b = true)) (show s_tr wd fi se r (lN (CH n)) (j + 1) = (s_tr wd fi se r (lN (CH n)) j && !(s_tst (wd (4 * r + j)) (fi (4 * r + j)) (se (4 * r + j)) (lN (CH n)) == 0)) from rfl)).trans (bI_tr (p := s_fa (lN (CH n)) (fi (4 * r + j)) = s_fa (lN (CH n)) (se (4 * r + j))) (by rw [s_tst, if_neg (fun z => absurd (hw.symm.trans z) (by decide)), if_neg (fun z => absurd (hw.symm.trans z) (by decide)), if_neg (fun z => absurd (hw.symm.trans z) (by decide)), if_pos hw]))
              have hv2 : bI (s_tr wd fi se r (lN (CH n)) (j + 1) = true) = 1 ∨ bI (s_tr wd fi se r (lN (CH n)) (j + 1) = true) = 0 := by
                by_cases z : s_tr wd fi se r (lN (CH n)) (j + 1) = true
                · left; exact bI_1 z
                · right; exact bI_0 z
              first
                | (have h9 : bI (s_tr wd fi se r (lN (CH n)) (j + 1) = true) = 1 := by
                     rw [hval, if_pos (bI_n0 h_94), bI_1 (by rw [hx2, hy2, s_fa_CH hx, s_fa_CH hy]; exact h_111)]
                   refine ww_lv (lv' := [some (.ref hm), some (.int (nI r)), some (.int (bI (s_tr wd fi se r (lN (CH n)) (j + 1) = true))), some (.int (nI (j + 1))), none, none, none, none, none]) (by rw [h9, nI_succ j]; exact (lvle_same (lvle_same (lvle_same (lvle_same (lvle_none (lvle_none (lvle_none (lvle_none (lvle_none lvle_nil)))))))))) (ih (j + 1) (by omega) (by omega)))
                | (have h9 : bI (s_tr wd fi se r (lN (CH n)) (j + 1) = true) = 0 := by
                     rw [hval]
                     by_cases z : s_tr wd fi se r (lN (CH n)) j = true
                     · rw [if_pos z]
                       first
                         | exact absurd z (bI_e0 h_94)
                         | exact bI_0 (fun z2 => h_111 (by rw [hx2, hy2, s_fa_CH hx, s_fa_CH hy] at z2; exact z2))
                     · exact if_neg z
                   refine ww_lv (lv' := [some (.ref hm), some (.int (nI r)), some (.int (bI (s_tr wd fi se r (lN (CH n)) (j + 1) = true))), some (.int (nI (j + 1))), none, none, none, none, none]) (by rw [h9, nI_succ j]; exact (lvle_same (lvle_same (lvle_same (lvle_same (lvle_none (lvle_none (lvle_none (lvle_none (lvle_none lvle_nil)))))))))) (ih (j + 1) (by omega) (by omega)))
            · skip
              refine ww_aload_n (i := 0) C dX11_isTrue_97 rfl rfl 98 rfl ?_
              refine ww_get C fe_X11_19 dX11_isTrue_98 0 rfl rfl 101 rfl ?_
              refine ww_iload C dX11_isTrue_101 rfl 103 rfl ?_
              rw [ha2, hx2]
              refine ww_iald C dX11_isTrue_103 1 rfl (vp_in_nI hx (by decide)) 104 rfl ?_
              rw [nI_clamp (show x < 2 ^ 31 by omega), s_lay_at hx]
              refine ww_aload_n (i := 0) C dX11_isTrue_104 rfl rfl 105 rfl ?_
              refine ww_get C fe_X11_19 dX11_isTrue_105 0 rfl rfl 108 rfl ?_
              refine ww_iload C dX11_isTrue_108 rfl 110 rfl ?_
              rw [hb2, hy2]
              refine ww_iald C dX11_isTrue_110 1 rfl (vp_in_nI hy (by decide)) 111 rfl ?_
              rw [nI_clamp (show y < 2 ^ 31 by omega), s_lay_at hy]
              refine ww_icmp_ne C 118 dX11_isTrue_111 (by decide) 114 rfl (fun h_111 => ?_) (fun h_111 => ?_)
              · skip
                refine ww_iconst (v := 0) C dX11_isTrue_118 (by decide) 119 rfl ?_
                refine ww_istore_n (i := 2) C dX11_isTrue_119 rfl (by decide) rfl 120 rfl ?_
                refine ww_goto C 224 dX11_isTrue_120 (by decide) ?_
                refine ww_iinc (y := 1) C dX11_isTrue_224 rfl (by decide) (by decide) rfl 227 rfl ?_
                refine ww_goto C 4 dX11_isTrue_227 (by decide) ?_
                have hval : bI (s_tr wd fi se r (lN (CH n)) (j + 1) = true) = _ := (congrArg (fun b => bI (b = true)) (show s_tr wd fi se r (lN (CH n)) (j + 1) = (s_tr wd fi se r (lN (CH n)) j && !(s_tst (wd (4 * r + j)) (fi (4 * r + j)) (se (4 * r + j)) (lN (CH n)) == 0)) from rfl)).trans (bI_tr (p := s_fa (lN (CH n)) (fi (4 * r + j)) = s_fa (lN (CH n)) (se (4 * r + j))) (by rw [s_tst, if_neg (fun z => absurd (hw.symm.trans z) (by decide)), if_neg (fun z => absurd (hw.symm.trans z) (by decide)), if_neg (fun z => absurd (hw.symm.trans z) (by decide)), if_pos hw]))
                have hv2 : bI (s_tr wd fi se r (lN (CH n)) (j + 1) = true) = 1 ∨ bI (s_tr wd fi se r (lN (CH n)) (j + 1) = true) = 0 := by
                  by_cases z : s_tr wd fi se r (lN (CH n)) (j + 1) = true
                  · left; exact bI_1 z
                  · right; exact bI_0 z
                first
                  | (have h9 : bI (s_tr wd fi se r (lN (CH n)) (j + 1) = true) = 1 := by
                       rw [hval, if_pos (bI_n0 h_94), bI_1 (by rw [hx2, hy2, s_fa_CH hx, s_fa_CH hy]; exact h_111)]
                     refine ww_lv (lv' := [some (.ref hm), some (.int (nI r)), some (.int (bI (s_tr wd fi se r (lN (CH n)) (j + 1) = true))), some (.int (nI (j + 1))), none, none, none, none, none]) (by rw [h9, nI_succ j]; exact (lvle_same (lvle_same (lvle_same (lvle_same (lvle_none (lvle_none (lvle_none (lvle_none (lvle_none lvle_nil)))))))))) (ih (j + 1) (by omega) (by omega)))
                  | (have h9 : bI (s_tr wd fi se r (lN (CH n)) (j + 1) = true) = 0 := by
                       rw [hval]
                       by_cases z : s_tr wd fi se r (lN (CH n)) j = true
                       · rw [if_pos z]
                         first
                           | exact absurd z (bI_e0 h_94)
                           | exact bI_0 (fun z2 => h_111 (by rw [hx2, hy2, s_fa_CH hx, s_fa_CH hy] at z2; exact z2))
                       · exact if_neg z
                     refine ww_lv (lv' := [some (.ref hm), some (.int (nI r)), some (.int (bI (s_tr wd fi se r (lN (CH n)) (j + 1) = true))), some (.int (nI (j + 1))), none, none, none, none, none]) (by rw [h9, nI_succ j]; exact (lvle_same (lvle_same (lvle_same (lvle_same (lvle_none (lvle_none (lvle_none (lvle_none (lvle_none lvle_nil)))))))))) (ih (j + 1) (by omega) (by omega)))
              · skip
                refine ww_iconst (v := 1) C dX11_isTrue_114 (by decide) 115 rfl ?_
                refine ww_goto C 119 dX11_isTrue_115 (by decide) ?_
                refine ww_istore_n (i := 2) C dX11_isTrue_119 rfl (by decide) rfl 120 rfl ?_
                refine ww_goto C 224 dX11_isTrue_120 (by decide) ?_
                refine ww_iinc (y := 1) C dX11_isTrue_224 rfl (by decide) (by decide) rfl 227 rfl ?_
                refine ww_goto C 4 dX11_isTrue_227 (by decide) ?_
                have hval : bI (s_tr wd fi se r (lN (CH n)) (j + 1) = true) = _ := (congrArg (fun b => bI (b = true)) (show s_tr wd fi se r (lN (CH n)) (j + 1) = (s_tr wd fi se r (lN (CH n)) j && !(s_tst (wd (4 * r + j)) (fi (4 * r + j)) (se (4 * r + j)) (lN (CH n)) == 0)) from rfl)).trans (bI_tr (p := s_fa (lN (CH n)) (fi (4 * r + j)) = s_fa (lN (CH n)) (se (4 * r + j))) (by rw [s_tst, if_neg (fun z => absurd (hw.symm.trans z) (by decide)), if_neg (fun z => absurd (hw.symm.trans z) (by decide)), if_neg (fun z => absurd (hw.symm.trans z) (by decide)), if_pos hw]))
                have hv2 : bI (s_tr wd fi se r (lN (CH n)) (j + 1) = true) = 1 ∨ bI (s_tr wd fi se r (lN (CH n)) (j + 1) = true) = 0 := by
                  by_cases z : s_tr wd fi se r (lN (CH n)) (j + 1) = true
                  · left; exact bI_1 z
                  · right; exact bI_0 z
                first
                  | (have h9 : bI (s_tr wd fi se r (lN (CH n)) (j + 1) = true) = 1 := by
                       rw [hval, if_pos (bI_n0 h_94), bI_1 (by rw [hx2, hy2, s_fa_CH hx, s_fa_CH hy]; exact h_111)]
                     refine ww_lv (lv' := [some (.ref hm), some (.int (nI r)), some (.int (bI (s_tr wd fi se r (lN (CH n)) (j + 1) = true))), some (.int (nI (j + 1))), none, none, none, none, none]) (by rw [h9, nI_succ j]; exact (lvle_same (lvle_same (lvle_same (lvle_same (lvle_none (lvle_none (lvle_none (lvle_none (lvle_none lvle_nil)))))))))) (ih (j + 1) (by omega) (by omega)))
                  | (have h9 : bI (s_tr wd fi se r (lN (CH n)) (j + 1) = true) = 0 := by
                       rw [hval]
                       by_cases z : s_tr wd fi se r (lN (CH n)) j = true
                       · rw [if_pos z]
                         first
                           | exact absurd z (bI_e0 h_94)
                           | exact bI_0 (fun z2 => h_111 (by rw [hx2, hy2, s_fa_CH hx, s_fa_CH hy] at z2; exact z2))
                       · exact if_neg z
                     refine ww_lv (lv' := [some (.ref hm), some (.int (nI r)), some (.int (bI (s_tr wd fi se r (lN (CH n)) (j + 1) = true))), some (.int (nI (j + 1))), none, none, none, none, none]) (by rw [h9, nI_succ j]; exact (lvle_same (lvle_same (lvle_same (lvle_same (lvle_none (lvle_none (lvle_none (lvle_none (lvle_none lvle_nil)))))))))) (ih (j + 1) (by omega) (by omega)))
      · exact absurd h_54 (by decide)
    · skip
      rw [ho]
      refine ww_iconst (v := 1) C dX11_isTrue_53 (by decide) 54 rfl ?_
      refine ww_icmp_ne C 82 dX11_isTrue_54 (by decide) 57 rfl (fun h_54 => ?_) (fun h_54 => ?_)
      · skip
        refine ww_aload_n (i := 0) C dX11_isTrue_82 rfl rfl 83 rfl ?_
        refine ww_get C fe_X11_25 dX11_isTrue_83 0 rfl rfl 86 rfl ?_
        refine ww_iload C dX11_isTrue_86 rfl 88 rfl ?_
        refine ww_iald C dX11_isTrue_88 3 rfl (vp_in_nI (by omega) (by decide)) 89 rfl ?_
        rw [ic0, ho]
        · skip
          refine ww_iconst (v := 2) C dX11_isTrue_89 (by decide) 90 rfl ?_
          refine ww_icmp_ne C 123 dX11_isTrue_90 (by decide) 93 rfl (fun h_90 => ?_) (fun h_90 => ?_)
          · skip
            refine ww_aload_n (i := 0) C dX11_isTrue_123 rfl rfl 124 rfl ?_
            refine ww_get C fe_X11_25 dX11_isTrue_124 0 rfl rfl 127 rfl ?_
            refine ww_iload C dX11_isTrue_127 rfl 129 rfl ?_
            refine ww_iald C dX11_isTrue_129 3 rfl (vp_in_nI (by omega) (by decide)) 130 rfl ?_
            rw [ic0, ho]
            · skip
              refine ww_iconst (v := 4) C dX11_isTrue_130 (by decide) 131 rfl ?_
              refine ww_icmp_ne C 162 dX11_isTrue_131 (by decide) 134 rfl (fun h_131 => ?_) (fun h_131 => ?_)
              · skip
                refine ww_iconst (v := 0) C dX11_isTrue_162 (by decide) 163 rfl ?_
                refine ww_istore C dX11_isTrue_163 (by decide) rfl 165 rfl ?_
                refine ww_iconst (v := 1) C dX11_isTrue_165 (by decide) 166 rfl ?_
                refine ww_istore C dX11_isTrue_166 (by decide) rfl 168 rfl ?_
                refine ww_loop (fun k : Nat => 11 - k) (fun k => k ≤ 11) (fun _ => [wMo hm q (I), (q 6, .inl (Γ.2.1, 16, .inl (s_lay pl n))), (q 8, .inl (Γ.2.1, 15, .inl (te))), (q 9, .inl (Γ.2.1, 180, .inl (ts)))]) (fun k => [some (.ref hm), some (.int (nI r)), some (.int (bI (s_tr wd fi se r (lN (CH n)) j = true))), some (.int (nI j)), some (.int (nI (12 * r + 3 * j))), some (.int (ts (12 * r + 3 * j + 1))), some (.int (ts (12 * r + 3 * j + 2))), some (.int (s_seen (lN (CH n)) (s_fa (lN (CH n)) 0) 1 k)), some (.int (nI (1 + k)))]) (0 : Nat) (Nat.zero_le _) rfl rfl (fun k hk ih2 => ?_)
                try dsimp only at hk ih2 ⊢
                refine ww_iload C dX11_isTrue_168 rfl 170 rfl ?_
                refine ww_bipush (v := 12) C dX11_isTrue_170 (by decide) 172 rfl ?_
                refine ww_icmp_ge C 207 dX11_isTrue_172 (by decide) 175 rfl (fun h_172 => ?_) (fun h_172 => ?_)
                · skip
                  obtain rfl : k = 11 := by have := eqN (n := 12) (k := 1 + k) h_172 (by omega) (by decide); omega
                  refine ww_iload_n (i := 2) C dX11_isTrue_207 rfl rfl 208 rfl ?_
                  refine ww_if_eq C 222 dX11_isTrue_208 (by decide) 211 rfl (fun h_208 => ?_) (fun h_208 => ?_)
                  · skip
                    refine ww_iconst (v := 0) C dX11_isTrue_222 (by decide) 223 rfl ?_
                    refine ww_istore_n (i := 2) C dX11_isTrue_223 rfl (by decide) rfl 224 rfl ?_
                    refine ww_iinc (y := 1) C dX11_isTrue_224 rfl (by decide) (by decide) rfl 227 rfl ?_
                    refine ww_goto C 4 dX11_isTrue_227 (by decide) ?_
                    have hval : bI (s_tr wd fi se r (lN (CH n)) (j + 1) = true) = _ := (congrArg (fun b => bI (b = true)) (show s_tr wd fi se r (lN (CH n)) (j + 1) = (s_tr wd fi se r (lN (CH n)) j && !(s_tst (wd (4 * r + j)) (fi (4 * r + j)) (se (4 * r + j)) (lN (CH n)) == 0)) from rfl)).trans (bI_tr (p := ¬ s_seen (lN (CH n)) (s_fa (lN (CH n)) 0) 1 11 < (fi (4 * r + j))) (by rw [s_tst, if_neg (fun z => absurd (hw.symm.trans z) (by decide)), if_neg (fun z => absurd (hw.symm.trans z) (by decide)), if_pos hw]))
                    have hv2 : bI (s_tr wd fi se r (lN (CH n)) (j + 1) = true) = 1 ∨ bI (s_tr wd fi se r (lN (CH n)) (j + 1) = true) = 0 := by
                      by_cases z : s_tr wd fi se r (lN (CH n)) (j + 1) = true
                      · left; exact bI_1 z
                      · right; exact bI_0 z
                    first
                      | (have h9 : bI (s_tr wd fi se r (lN (CH n)) (j + 1) = true) = 1 := by
                           rw [hval, if_pos (bI_n0 h_208), bI_1 h_215]
                         refine ww_lv (lv' := [some (.ref hm), some (.int (nI r)), some (.int (bI (s_tr wd fi se r (lN (CH n)) (j + 1) = true))), some (.int (nI (j + 1))), none, none, none, none, none]) (by rw [h9, nI_succ j]; exact (lvle_same (lvle_same (lvle_same (lvle_same (lvle_none (lvle_none (lvle_none (lvle_none (lvle_none lvle_nil)))))))))) (ih (j + 1) (by omega) (by omega)))
                      | (have h9 : bI (s_tr wd fi se r (lN (CH n)) (j + 1) = true) = 0 := by
                           rw [hval]
                           by_cases z : s_tr wd fi se r (lN (CH n)) j = true
                           · rw [if_pos z]
                             first
                               | exact absurd z (bI_e0 h_208)
                               | exact bI_0 (fun z2 => z2 h_215)
                           · exact if_neg z
                         refine ww_lv (lv' := [some (.ref hm), some (.int (nI r)), some (.int (bI (s_tr wd fi se r (lN (CH n)) (j + 1) = true))), some (.int (nI (j + 1))), none, none, none, none, none]) (by rw [h9, nI_succ j]; exact (lvle_same (lvle_same (lvle_same (lvle_same (lvle_none (lvle_none (lvle_none (lvle_none (lvle_none lvle_nil)))))))))) (ih (j + 1) (by omega) (by omega)))
                  · skip
                    refine ww_iload C dX11_isTrue_211 rfl 213 rfl ?_
                    refine ww_iload C dX11_isTrue_213 rfl 215 rfl ?_
                    rw [ha2]
                    refine ww_icmp_lt C 222 dX11_isTrue_215 (by decide) 218 rfl (fun h_215 => ?_) (fun h_215 => ?_)
                    · skip
                      refine ww_iconst (v := 0) C dX11_isTrue_222 (by decide) 223 rfl ?_
                      refine ww_istore_n (i := 2) C dX11_isTrue_223 rfl (by decide) rfl 224 rfl ?_
                      refine ww_iinc (y := 1) C dX11_isTrue_224 rfl (by decide) (by decide) rfl 227 rfl ?_
                      refine ww_goto C 4 dX11_isTrue_227 (by decide) ?_
                      have hval : bI (s_tr wd fi se r (lN (CH n)) (j + 1) = true) = _ := (congrArg (fun b => bI (b = true)) (show s_tr wd fi se r (lN (CH n)) (j + 1) = (s_tr wd fi se r (lN (CH n)) j && !(s_tst (wd (4 * r + j)) (fi (4 * r + j)) (se (4 * r + j)) (lN (CH n)) == 0)) from rfl)).trans (bI_tr (p := ¬ s_seen (lN (CH n)) (s_fa (lN (CH n)) 0) 1 11 < (fi (4 * r + j))) (by rw [s_tst, if_neg (fun z => absurd (hw.symm.trans z) (by decide)), if_neg (fun z => absurd (hw.symm.trans z) (by decide)), if_pos hw]))
                      have hv2 : bI (s_tr wd fi se r (lN (CH n)) (j + 1) = true) = 1 ∨ bI (s_tr wd fi se r (lN (CH n)) (j + 1) = true) = 0 := by
                        by_cases z : s_tr wd fi se r (lN (CH n)) (j + 1) = true
                        · left; exact bI_1 z
                        · right; exact bI_0 z
                      first
                        | (have h9 : bI (s_tr wd fi se r (lN (CH n)) (j + 1) = true) = 1 := by
                             rw [hval, if_pos (bI_n0 h_208), bI_1 h_215]
                           refine ww_lv (lv' := [some (.ref hm), some (.int (nI r)), some (.int (bI (s_tr wd fi se r (lN (CH n)) (j + 1) = true))), some (.int (nI (j + 1))), none, none, none, none, none]) (by rw [h9, nI_succ j]; exact (lvle_same (lvle_same (lvle_same (lvle_same (lvle_none (lvle_none (lvle_none (lvle_none (lvle_none lvle_nil)))))))))) (ih (j + 1) (by omega) (by omega)))
                        | (have h9 : bI (s_tr wd fi se r (lN (CH n)) (j + 1) = true) = 0 := by
                             rw [hval]
                             by_cases z : s_tr wd fi se r (lN (CH n)) j = true
                             · rw [if_pos z]
                               first
                                 | exact absurd z (bI_e0 h_208)
                                 | exact bI_0 (fun z2 => z2 h_215)
                             · exact if_neg z
                           refine ww_lv (lv' := [some (.ref hm), some (.int (nI r)), some (.int (bI (s_tr wd fi se r (lN (CH n)) (j + 1) = true))), some (.int (nI (j + 1))), none, none, none, none, none]) (by rw [h9, nI_succ j]; exact (lvle_same (lvle_same (lvle_same (lvle_same (lvle_none (lvle_none (lvle_none (lvle_none (lvle_none lvle_nil)))))))))) (ih (j + 1) (by omega) (by omega)))
                    · skip
                      refine ww_iconst (v := 1) C dX11_isTrue_218 (by decide) 219 rfl ?_
                      refine ww_goto C 223 dX11_isTrue_219 (by decide) ?_
                      refine ww_istore_n (i := 2) C dX11_isTrue_223 rfl (by decide) rfl 224 rfl ?_
                      refine ww_iinc (y := 1) C dX11_isTrue_224 rfl (by decide) (by decide) rfl 227 rfl ?_
                      refine ww_goto C 4 dX11_isTrue_227 (by decide) ?_
                      have hval : bI (s_tr wd fi se r (lN (CH n)) (j + 1) = true) = _ := (congrArg (fun b => bI (b = true)) (show s_tr wd fi se r (lN (CH n)) (j + 1) = (s_tr wd fi se r (lN (CH n)) j && !(s_tst (wd (4 * r + j)) (fi (4 * r + j)) (se (4 * r + j)) (lN (CH n)) == 0)) from rfl)).trans (bI_tr (p := ¬ s_seen (lN (CH n)) (s_fa (lN (CH n)) 0) 1 11 < (fi (4 * r + j))) (by rw [s_tst, if_neg (fun z => absurd (hw.symm.trans z) (by decide)), if_neg (fun z => absurd (hw.symm.trans z) (by decide)), if_pos hw]))
                      have hv2 : bI (s_tr wd fi se r (lN (CH n)) (j + 1) = true) = 1 ∨ bI (s_tr wd fi se r (lN (CH n)) (j + 1) = true) = 0 := by
                        by_cases z : s_tr wd fi se r (lN (CH n)) (j + 1) = true
                        · left; exact bI_1 z
                        · right; exact bI_0 z
                      first
                        | (have h9 : bI (s_tr wd fi se r (lN (CH n)) (j + 1) = true) = 1 := by
                             rw [hval, if_pos (bI_n0 h_208), bI_1 h_215]
                           refine ww_lv (lv' := [some (.ref hm), some (.int (nI r)), some (.int (bI (s_tr wd fi se r (lN (CH n)) (j + 1) = true))), some (.int (nI (j + 1))), none, none, none, none, none]) (by rw [h9, nI_succ j]; exact (lvle_same (lvle_same (lvle_same (lvle_same (lvle_none (lvle_none (lvle_none (lvle_none (lvle_none lvle_nil)))))))))) (ih (j + 1) (by omega) (by omega)))
                        | (have h9 : bI (s_tr wd fi se r (lN (CH n)) (j + 1) = true) = 0 := by
                             rw [hval]
                             by_cases z : s_tr wd fi se r (lN (CH n)) j = true
                             · rw [if_pos z]
                               first
                                 | exact absurd z (bI_e0 h_208)
                                 | exact bI_0 (fun z2 => z2 h_215)
                             · exact if_neg z
                           refine ww_lv (lv' := [some (.ref hm), some (.int (nI r)), some (.int (bI (s_tr wd fi se r (lN (CH n)) (j + 1) = true))), some (.int (nI (j + 1))), none, none, none, none, none]) (by rw [h9, nI_succ j]; exact (lvle_same (lvle_same (lvle_same (lvle_same (lvle_none (lvle_none (lvle_none (lvle_none (lvle_none lvle_nil)))))))))) (ih (j + 1) (by omega) (by omega)))
                · skip
                  have hlk : 1 + k < 12 := ltN (n := 12) h_172 (by decide) (by omega)
                  refine ww_iload C dX11_isTrue_175 rfl 177 rfl ?_
                  refine ww_aload_n (i := 0) C dX11_isTrue_177 rfl rfl 178 rfl ?_
                  refine ww_get C fe_X11_19 dX11_isTrue_178 0 rfl rfl 181 rfl ?_
                  refine ww_iload C dX11_isTrue_181 rfl 183 rfl ?_
                  refine ww_iald C dX11_isTrue_183 1 rfl (vp_in_nI (by omega) (by decide)) 184 rfl ?_
                  rw [nI_clamp (show 1 + k < 2 ^ 31 by omega), s_lay_at (show 1 + k < 16 by omega)]
                  refine ww_aload_n (i := 0) C dX11_isTrue_184 rfl rfl 185 rfl ?_
                  refine ww_get C fe_X11_19 dX11_isTrue_185 0 rfl rfl 188 rfl ?_
                  refine ww_iconst (v := 0) C dX11_isTrue_188 (by decide) 189 rfl ?_
                  refine ww_iald C dX11_isTrue_189 1 rfl (vp_in_nI (n := 0) (by decide) (by decide)) 190 rfl ?_
                  rw [show s_lay pl n (0 : Int32).toNatClampNeg = nI (fg n 0) from s_lay_at (by decide)]
                  refine ww_icmp_ne C 197 dX11_isTrue_190 (by decide) 193 rfl (fun h_190 => ?_) (fun h_190 => ?_)
                  · skip
                    refine ww_iconst (v := 0) C dX11_isTrue_197 (by decide) 198 rfl ?_
                    refine ww_iadd C dX11_isTrue_198 199 rfl ?_
                    refine ww_istore C dX11_isTrue_199 (by decide) rfl 201 rfl ?_
                    refine ww_iinc (y := 1) C dX11_isTrue_201 rfl (by decide) (by decide) rfl 204 rfl ?_
                    refine ww_goto C 168 dX11_isTrue_204 (by decide) ?_
                    refine ww_eq rfl ?_ rfl (ih2 (k + 1) (by omega) (by omega))
                    rw [show 1 + (k + 1) = 1 + k + 1 from rfl, nI_succ (1 + k), s_seen, s_fa_CH (show 1 + k < 16 by omega), show (0 : Int32) = nI 0 from rfl, s_fa_CH (show 0 < 16 by omega)]
                    first
                      | (rw [if_pos h_190]; rfl)
                      | (rw [if_neg h_190, show (nI 0 : Int32) = 0 from rfl, Int32.add_zero]; rfl)
                  · skip
                    refine ww_iconst (v := 1) C dX11_isTrue_193 (by decide) 194 rfl ?_
                    refine ww_goto C 198 dX11_isTrue_194 (by decide) ?_
                    refine ww_iadd C dX11_isTrue_198 199 rfl ?_
                    refine ww_istore C dX11_isTrue_199 (by decide) rfl 201 rfl ?_
                    refine ww_iinc (y := 1) C dX11_isTrue_201 rfl (by decide) (by decide) rfl 204 rfl ?_
                    refine ww_goto C 168 dX11_isTrue_204 (by decide) ?_
                    refine ww_eq rfl ?_ rfl (ih2 (k + 1) (by omega) (by omega))
                    rw [show 1 + (k + 1) = 1 + k + 1 from rfl, nI_succ (1 + k), s_seen, s_fa_CH (show 1 + k < 16 by omega), show (0 : Int32) = nI 0 from rfl, s_fa_CH (show 0 < 16 by omega)]
                    first
                      | (rw [if_pos h_190]; rfl)
                      | (rw [if_neg h_190, show (nI 0 : Int32) = 0 from rfl, Int32.add_zero]; rfl)
              · exact absurd h_131 (by decide)
          · exact absurd h_90 (by decide)
      · exact absurd h_54 (by decide)
    · skip
      rw [ho]
      refine ww_iconst (v := 1) C dX11_isTrue_53 (by decide) 54 rfl ?_
      refine ww_icmp_ne C 82 dX11_isTrue_54 (by decide) 57 rfl (fun h_54 => ?_) (fun h_54 => ?_)
      · skip
        refine ww_aload_n (i := 0) C dX11_isTrue_82 rfl rfl 83 rfl ?_
        refine ww_get C fe_X11_25 dX11_isTrue_83 0 rfl rfl 86 rfl ?_
        refine ww_iload C dX11_isTrue_86 rfl 88 rfl ?_
        refine ww_iald C dX11_isTrue_88 3 rfl (vp_in_nI (by omega) (by decide)) 89 rfl ?_
        rw [ic0, ho]
        · skip
          refine ww_iconst (v := 2) C dX11_isTrue_89 (by decide) 90 rfl ?_
          refine ww_icmp_ne C 123 dX11_isTrue_90 (by decide) 93 rfl (fun h_90 => ?_) (fun h_90 => ?_)
          · skip
            refine ww_aload_n (i := 0) C dX11_isTrue_123 rfl rfl 124 rfl ?_
            refine ww_get C fe_X11_25 dX11_isTrue_124 0 rfl rfl 127 rfl ?_
            refine ww_iload C dX11_isTrue_127 rfl 129 rfl ?_
            refine ww_iald C dX11_isTrue_129 3 rfl (vp_in_nI (by omega) (by decide)) 130 rfl ?_
            rw [ic0, ho]
            · skip
              refine ww_iconst (v := 4) C dX11_isTrue_130 (by decide) 131 rfl ?_
              refine ww_icmp_ne C 162 dX11_isTrue_131 (by decide) 134 rfl (fun h_131 => ?_) (fun h_131 => ?_)
              · exact absurd h_131 (by decide)
              · skip
                refine ww_iload_n (i := 2) C dX11_isTrue_134 rfl rfl 135 rfl ?_
                refine ww_if_eq C 157 dX11_isTrue_135 (by decide) 138 rfl (fun h_135 => ?_) (fun h_135 => ?_)
                · skip
                  refine ww_iconst (v := 0) C dX11_isTrue_157 (by decide) 158 rfl ?_
                  refine ww_istore_n (i := 2) C dX11_isTrue_158 rfl (by decide) rfl 159 rfl ?_
                  refine ww_goto C 224 dX11_isTrue_159 (by decide) ?_
                  refine ww_iinc (y := 1) C dX11_isTrue_224 rfl (by decide) (by decide) rfl 227 rfl ?_
                  refine ww_goto C 4 dX11_isTrue_227 (by decide) ?_
                  have hval : bI (s_tr wd fi se r (lN (CH n)) (j + 1) = true) = _ := (congrArg (fun b => bI (b = true)) (show s_tr wd fi se r (lN (CH n)) (j + 1) = (s_tr wd fi se r (lN (CH n)) j && !(s_tst (wd (4 * r + j)) (fi (4 * r + j)) (se (4 * r + j)) (lN (CH n)) == 0)) from rfl)).trans (bI_tr (p := s_bc32 (s_fa (lN (CH n)) (fi (4 * r + j))) - s_bc32 (s_fa (lN (CH n)) (fi (4 * r + j))) / 2 * 2 = 0) (by rw [s_tst, if_neg (fun z => absurd (hw.symm.trans z) (by decide)), if_pos hw]))
                  have hv2 : bI (s_tr wd fi se r (lN (CH n)) (j + 1) = true) = 1 ∨ bI (s_tr wd fi se r (lN (CH n)) (j + 1) = true) = 0 := by
                    by_cases z : s_tr wd fi se r (lN (CH n)) (j + 1) = true
                    · left; exact bI_1 z
                    · right; exact bI_0 z
                  first
                    | (have h9 : bI (s_tr wd fi se r (lN (CH n)) (j + 1) = true) = 1 := by
                         rw [hval, if_pos (bI_n0 h_135), bI_1 (by rw [hx2, s_fa_CH hx, ← sg_bc _ (fg_lt n x)]; exact h_150)]
                       refine ww_lv (lv' := [some (.ref hm), some (.int (nI r)), some (.int (bI (s_tr wd fi se r (lN (CH n)) (j + 1) = true))), some (.int (nI (j + 1))), none, none, none, none, none]) (by rw [h9, nI_succ j]; exact (lvle_same (lvle_same (lvle_same (lvle_same (lvle_none (lvle_none (lvle_none (lvle_none (lvle_none lvle_nil)))))))))) (ih (j + 1) (by omega) (by omega)))
                    | (have h9 : bI (s_tr wd fi se r (lN (CH n)) (j + 1) = true) = 0 := by
                         rw [hval]
                         by_cases z : s_tr wd fi se r (lN (CH n)) j = true
                         · rw [if_pos z]
                           first
                             | exact absurd z (bI_e0 h_135)
                             | exact bI_0 (fun z2 => h_150 (by rw [hx2, s_fa_CH hx, ← sg_bc _ (fg_lt n x)] at z2; exact z2))
                         · exact if_neg z
                       refine ww_lv (lv' := [some (.ref hm), some (.int (nI r)), some (.int (bI (s_tr wd fi se r (lN (CH n)) (j + 1) = true))), some (.int (nI (j + 1))), none, none, none, none, none]) (by rw [h9, nI_succ j]; exact (lvle_same (lvle_same (lvle_same (lvle_same (lvle_none (lvle_none (lvle_none (lvle_none (lvle_none lvle_nil)))))))))) (ih (j + 1) (by omega) (by omega)))
                · skip
                  refine ww_aload_n (i := 0) C dX11_isTrue_138 rfl rfl 139 rfl ?_
                  refine ww_get C fe_X11_19 dX11_isTrue_139 0 rfl rfl 142 rfl ?_
                  refine ww_iload C dX11_isTrue_142 rfl 144 rfl ?_
                  rw [ha2, hx2]
                  refine ww_iald C dX11_isTrue_144 1 rfl (vp_in_nI hx (by decide)) 145 rfl ?_
                  rw [nI_clamp (show x < 2 ^ 31 by omega), s_lay_at hx]
                  refine ww_callS1p C (c_X11_singles l Γ) mi_X11_singles st_X11_singles ml_X11_102 dX11_isTrue_145 (Nat.le_of_ble_eq_true rfl) (Nat.le_of_ble_eq_true rfl) (Nat.le_of_ble_eq_true rfl) ⟨Nat.zero_le _, Nat.zero_le _⟩ [] rfl (by decide) 148 rfl ?_
                  refine ww_iconst (v := 2) C dX11_isTrue_148 (by decide) 149 rfl ?_
                  refine ww_irem C dX11_isTrue_149 (by decide) 150 rfl ?_
                  refine ww_if_ne C 157 dX11_isTrue_150 (by decide) 153 rfl (fun h_150 => ?_) (fun h_150 => ?_)
                  · skip
                    refine ww_iconst (v := 0) C dX11_isTrue_157 (by decide) 158 rfl ?_
                    refine ww_istore_n (i := 2) C dX11_isTrue_158 rfl (by decide) rfl 159 rfl ?_
                    refine ww_goto C 224 dX11_isTrue_159 (by decide) ?_
                    refine ww_iinc (y := 1) C dX11_isTrue_224 rfl (by decide) (by decide) rfl 227 rfl ?_
                    refine ww_goto C 4 dX11_isTrue_227 (by decide) ?_
                    have hval : bI (s_tr wd fi se r (lN (CH n)) (j + 1) = true) = _ := (congrArg (fun b => bI (b = true)) (show s_tr wd fi se r (lN (CH n)) (j + 1) = (s_tr wd fi se r (lN (CH n)) j && !(s_tst (wd (4 * r + j)) (fi (4 * r + j)) (se (4 * r + j)) (lN (CH n)) == 0)) from rfl)).trans (bI_tr (p := s_bc32 (s_fa (lN (CH n)) (fi (4 * r + j))) - s_bc32 (s_fa (lN (CH n)) (fi (4 * r + j))) / 2 * 2 = 0) (by rw [s_tst, if_neg (fun z => absurd (hw.symm.trans z) (by decide)), if_pos hw]))
                    have hv2 : bI (s_tr wd fi se r (lN (CH n)) (j + 1) = true) = 1 ∨ bI (s_tr wd fi se r (lN (CH n)) (j + 1) = true) = 0 := by
                      by_cases z : s_tr wd fi se r (lN (CH n)) (j + 1) = true
                      · left; exact bI_1 z
                      · right; exact bI_0 z
                    first
                      | (have h9 : bI (s_tr wd fi se r (lN (CH n)) (j + 1) = true) = 1 := by
                           rw [hval, if_pos (bI_n0 h_135), bI_1 (by rw [hx2, s_fa_CH hx, ← sg_bc _ (fg_lt n x)]; exact h_150)]
                         refine ww_lv (lv' := [some (.ref hm), some (.int (nI r)), some (.int (bI (s_tr wd fi se r (lN (CH n)) (j + 1) = true))), some (.int (nI (j + 1))), none, none, none, none, none]) (by rw [h9, nI_succ j]; exact (lvle_same (lvle_same (lvle_same (lvle_same (lvle_none (lvle_none (lvle_none (lvle_none (lvle_none lvle_nil)))))))))) (ih (j + 1) (by omega) (by omega)))
                      | (have h9 : bI (s_tr wd fi se r (lN (CH n)) (j + 1) = true) = 0 := by
                           rw [hval]
                           by_cases z : s_tr wd fi se r (lN (CH n)) j = true
                           · rw [if_pos z]
                             first
                               | exact absurd z (bI_e0 h_135)
                               | exact bI_0 (fun z2 => h_150 (by rw [hx2, s_fa_CH hx, ← sg_bc _ (fg_lt n x)] at z2; exact z2))
                           · exact if_neg z
                         refine ww_lv (lv' := [some (.ref hm), some (.int (nI r)), some (.int (bI (s_tr wd fi se r (lN (CH n)) (j + 1) = true))), some (.int (nI (j + 1))), none, none, none, none, none]) (by rw [h9, nI_succ j]; exact (lvle_same (lvle_same (lvle_same (lvle_same (lvle_none (lvle_none (lvle_none (lvle_none (lvle_none lvle_nil)))))))))) (ih (j + 1) (by omega) (by omega)))
                  · skip
                    refine ww_iconst (v := 1) C dX11_isTrue_153 (by decide) 154 rfl ?_
                    refine ww_goto C 158 dX11_isTrue_154 (by decide) ?_
                    refine ww_istore_n (i := 2) C dX11_isTrue_158 rfl (by decide) rfl 159 rfl ?_
                    refine ww_goto C 224 dX11_isTrue_159 (by decide) ?_
                    refine ww_iinc (y := 1) C dX11_isTrue_224 rfl (by decide) (by decide) rfl 227 rfl ?_
                    refine ww_goto C 4 dX11_isTrue_227 (by decide) ?_
                    have hval : bI (s_tr wd fi se r (lN (CH n)) (j + 1) = true) = _ := (congrArg (fun b => bI (b = true)) (show s_tr wd fi se r (lN (CH n)) (j + 1) = (s_tr wd fi se r (lN (CH n)) j && !(s_tst (wd (4 * r + j)) (fi (4 * r + j)) (se (4 * r + j)) (lN (CH n)) == 0)) from rfl)).trans (bI_tr (p := s_bc32 (s_fa (lN (CH n)) (fi (4 * r + j))) - s_bc32 (s_fa (lN (CH n)) (fi (4 * r + j))) / 2 * 2 = 0) (by rw [s_tst, if_neg (fun z => absurd (hw.symm.trans z) (by decide)), if_pos hw]))
                    have hv2 : bI (s_tr wd fi se r (lN (CH n)) (j + 1) = true) = 1 ∨ bI (s_tr wd fi se r (lN (CH n)) (j + 1) = true) = 0 := by
                      by_cases z : s_tr wd fi se r (lN (CH n)) (j + 1) = true
                      · left; exact bI_1 z
                      · right; exact bI_0 z
                    first
                      | (have h9 : bI (s_tr wd fi se r (lN (CH n)) (j + 1) = true) = 1 := by
                           rw [hval, if_pos (bI_n0 h_135), bI_1 (by rw [hx2, s_fa_CH hx, ← sg_bc _ (fg_lt n x)]; exact h_150)]
                         refine ww_lv (lv' := [some (.ref hm), some (.int (nI r)), some (.int (bI (s_tr wd fi se r (lN (CH n)) (j + 1) = true))), some (.int (nI (j + 1))), none, none, none, none, none]) (by rw [h9, nI_succ j]; exact (lvle_same (lvle_same (lvle_same (lvle_same (lvle_none (lvle_none (lvle_none (lvle_none (lvle_none lvle_nil)))))))))) (ih (j + 1) (by omega) (by omega)))
                      | (have h9 : bI (s_tr wd fi se r (lN (CH n)) (j + 1) = true) = 0 := by
                           rw [hval]
                           by_cases z : s_tr wd fi se r (lN (CH n)) j = true
                           · rw [if_pos z]
                             first
                               | exact absurd z (bI_e0 h_135)
                               | exact bI_0 (fun z2 => h_150 (by rw [hx2, s_fa_CH hx, ← sg_bc _ (fg_lt n x)] at z2; exact z2))
                           · exact if_neg z
                         refine ww_lv (lv' := [some (.ref hm), some (.int (nI r)), some (.int (bI (s_tr wd fi se r (lN (CH n)) (j + 1) = true))), some (.int (nI (j + 1))), none, none, none, none, none]) (by rw [h9, nI_succ j]; exact (lvle_same (lvle_same (lvle_same (lvle_same (lvle_none (lvle_none (lvle_none (lvle_none (lvle_none lvle_nil)))))))))) (ih (j + 1) (by omega) (by omega)))
          · exact absurd h_90 (by decide)
      · exact absurd h_54 (by decide)
