theorem nI_neM (r : Nat) (h : r < 100) : ¬ nI r = -1000000 := fun q => by
  have := congrArg Int32.toInt q
  rw [nI_toInt (by omega)] at this
  have e : (-1000000 : Int32).toInt = -1000000 := by decide
  omega
/-- what a copy finds -/
def s_cpf (la lb : Int32) (sa sb : Nat) (a b n : Int32) : Int32 := if la = -1 then 1 else if lb = -1 then 1 else if ¬ la = lb then 5 else if ¬ s_has sa a n then 2 else if ¬ s_has sb b n then 2 else 0
theorem c_X10_copy_bad (l : Launch) (Γ : Gm) {hx xs xm xt xr xb xd x6 x7 : Nat} {code : Int32} {mk : Int64} {lfa lfi : Int32} {s9 a t9 b n9 : Int32} (hb : (s9 < 0 ∨ 8 ≤ s9) ∨ (t9 < 0 ∨ 8 ≤ t9)) : Ct l Γ yX10_copy cX10_copy 8 (some .int) 5 [.ref hx, .int s9, .int a, .int t9, .int b, .int n9] ([wXo hx xs xm xt xr xb xd x6 x7 (code) (mk) (lfa) (lfi)]) (some (.int (-1000001))) ([wXo hx xs xm xt xr xb xd x6 x7 (code) (mk) (lfa) (lfi)]) := by
  refine Ct.of mi_X10_copy [some (.ref hx), some (.int s9), some (.int a), some (.int t9), some (.int b), some (.int n9), none, none] 2 rfl (Nat.le_of_ble_eq_true rfl) ?_
  intro p e s m args below meth c C hr
  refine ww_iload_n (i := 1) C dX10_copy_0 rfl rfl 1 rfl ?_
  refine ww_callS1p C (c_X10_isSheet l Γ) mi_X10_isSheet st_X10_isSheet ml_X10_81 dX10_copy_1 (Nat.le_of_ble_eq_true rfl) (Nat.le_of_ble_eq_true rfl) (Nat.le_of_ble_eq_true rfl) ⟨Nat.zero_le _, Nat.zero_le _⟩ [] rfl (by decide) 4 rfl ?_
  refine ww_if_eq C 14 dX10_copy_4 (by decide) 7 rfl (fun h_4 => ?_) (fun h_4 => ?_)
  · skip
    refine ww_ldc C cn_X10_88 dX10_copy_14 16 rfl ?_
    exact ww_iret C hr dX10_copy_16 rfl rfl
  · skip
    refine ww_iload_n (i := 3) C dX10_copy_7 rfl rfl 8 rfl ?_
    refine ww_callS1p C (c_X10_isSheet l Γ) mi_X10_isSheet st_X10_isSheet ml_X10_81 dX10_copy_8 (Nat.le_of_ble_eq_true rfl) (Nat.le_of_ble_eq_true rfl) (Nat.le_of_ble_eq_true rfl) ⟨Nat.zero_le _, Nat.zero_le _⟩ [] rfl (by decide) 11 rfl ?_
    refine ww_if_ne C 17 dX10_copy_11 (by decide) 14 rfl (fun h_11 => ?_) (fun h_11 => ?_)
    · exact absurd hb (fun q => q.elim (fun z => bad_n z (bI_n0 h_4)) (fun z => bad_n z (bI_n0 h_11)))
    · skip
      refine ww_ldc C cn_X10_88 dX10_copy_14 16 rfl ?_
      exact ww_iret C hr dX10_copy_16 rfl rfl
theorem c_X10_copy_no2 (l : Launch) (Γ : Gm) {hx xs xm xt xr xb xd x6 x7 : Nat} {code : Int32} {mk : Int64} {lfa lfi : Int32} {f : Nat → Option Nat} {h0 hi sz j : Nat} {lane : Int32} {it : Nat → Int32} {h1 hi1 sz1 j1 : Nat} {lane1 : Int32} {it1 : Nat → Int32} {a b n9 g : Int32} (hj : j < 8) (hf : f j = some h0) (hj1 : j1 < 8) (hf1 : f j1 = some h1) (hg : s_cpf lane lane1 sz sz1 a b n9 = g) (hg0 : ¬ g = 0) : Ct l Γ yX10_copy cX10_copy 8 (some .int) 5 [.ref hx, .int (nI j), .int a, .int (nI j1), .int b, .int n9] ([wXo hx xs xm xt xr xb xd x6 x7 (code) (mk) (lfa) (lfi), (xs, .inl (Γ.2.2.2, 8, .inr (.inr (.inr (.inr f))))), (h0, .inr (5, [.ref hi, .int (lane), .int (nI sz)])), (hi, .inl (Γ.2.1, 60, .inl it)), (h1, .inr (5, [.ref hi1, .int (lane1), .int (nI sz1)])), (hi1, .inl (Γ.2.1, 60, .inl (it1)))]) (some (.int (-1000010 - g))) ([wXo hx xs xm xt xr xb xd x6 x7 (code) (mk) (lfa) (g), (xs, .inl (Γ.2.2.2, 8, .inr (.inr (.inr (.inr f))))), (h0, .inr (5, [.ref hi, .int (lane), .int (nI sz)])), (hi, .inl (Γ.2.1, 60, .inl it)), (h1, .inr (5, [.ref hi1, .int (lane1), .int (nI sz1)])), (hi1, .inl (Γ.2.1, 60, .inl (it1)))]) := by
  refine Ct.of mi_X10_copy [some (.ref hx), some (.int (nI j)), some (.int a), some (.int (nI j1)), some (.int b), some (.int n9), none, none] 2 rfl (Nat.le_of_ble_eq_true rfl) ?_
  intro p e s m args below meth c C hr
  refine ww_iload_n (i := 1) C dX10_copy_0 rfl rfl 1 rfl ?_
  refine ww_callS1p C (c_X10_isSheet l Γ) mi_X10_isSheet st_X10_isSheet ml_X10_81 dX10_copy_1 (Nat.le_of_ble_eq_true rfl) (Nat.le_of_ble_eq_true rfl) (Nat.le_of_ble_eq_true rfl) ⟨Nat.zero_le _, Nat.zero_le _⟩ [] rfl (by decide) 4 rfl ?_
  refine ww_if_eq C 14 dX10_copy_4 (by decide) 7 rfl (fun h_4 => ?_) (fun h_4 => ?_)
  · exact absurd (ok_lt rfl hj (by decide)) (bI_e0 h_4)
  · skip
    refine ww_iload_n (i := 3) C dX10_copy_7 rfl rfl 8 rfl ?_
    refine ww_callS1p C (c_X10_isSheet l Γ) mi_X10_isSheet st_X10_isSheet ml_X10_81 dX10_copy_8 (Nat.le_of_ble_eq_true rfl) (Nat.le_of_ble_eq_true rfl) (Nat.le_of_ble_eq_true rfl) ⟨Nat.zero_le _, Nat.zero_le _⟩ [] rfl (by decide) 11 rfl ?_
    refine ww_if_ne C 17 dX10_copy_11 (by decide) 14 rfl (fun h_11 => ?_) (fun h_11 => ?_)
    · skip
      refine ww_aload_n (i := 0) C dX10_copy_17 rfl rfl 18 rfl ?_
      refine ww_get C fe_X10_11 dX10_copy_18 0 rfl rfl 21 rfl ?_
      refine ww_iload_n (i := 1) C dX10_copy_21 rfl rfl 22 rfl ?_
      refine ww_aald C dX10_copy_22 1 rfl (vp_in_nI hj (by decide)) (by rw [nI_clamp (by omega)]; exact hf) 23 rfl ?_
      refine ww_astore C dX10_copy_23 (by decide) rfl 25 rfl ?_
      refine ww_aload_n (i := 0) C dX10_copy_25 rfl rfl 26 rfl ?_
      refine ww_get C fe_X10_11 dX10_copy_26 0 rfl rfl 29 rfl ?_
      refine ww_iload_n (i := 3) C dX10_copy_29 rfl rfl 30 rfl ?_
      refine ww_aald C dX10_copy_30 1 rfl (vp_in_nI hj1 (by decide)) (by rw [nI_clamp (by omega)]; exact hf1) 31 rfl ?_
      refine ww_astore C dX10_copy_31 (by decide) rfl 33 rfl ?_
      refine ww_aload C dX10_copy_33 rfl 35 rfl ?_
      refine ww_callV0p C (c_X7_isMissing l Γ) mi_X7_isMissing im_X7_isMissing se_X7_isMissing ml_X10_107 dX10_copy_35 2 rfl rfl rfl (Nat.le_of_ble_eq_true rfl) (Nat.le_of_ble_eq_true rfl) (Nat.le_of_ble_eq_true rfl) ⟨Nat.zero_le _, Nat.zero_le _⟩ [2] rfl (by decide) 38 rfl ?_
      refine ww_if_ne C 49 dX10_copy_38 (by decide) 41 rfl (fun h_38 => ?_) (fun h_38 => ?_)
      · skip
        refine ww_aload_n (i := 0) C dX10_copy_49 rfl rfl 50 rfl ?_
        have hv : g = 1 := by
          rw [← hg, s_cpf]
          by_cases z : lane = -1
          · rw [if_pos z]
          · rw [if_neg z]
            first
              | exact absurd (bI_n0 h_38) z
              | rw [if_pos (bI_n0 h_46)]
        subst hv
        refine ww_iconst (v := 1) C dX10_copy_50 (by decide) 51 rfl ?_
        refine ww_callV1 C (c_X10_found l Γ) mi_X10_found im_X10_found se_X10_found ml_X10_89 dX10_copy_51 0 rfl rfl rfl (Nat.le_of_ble_eq_true rfl) (Nat.le_of_ble_eq_true rfl) (Nat.le_of_ble_eq_true rfl) ⟨Nat.zero_le _, Nat.zero_le _⟩ [0] rfl (by decide) rfl 54 rfl ?_
        exact ww_iret C hr dX10_copy_54 rfl rfl
      · skip
        refine ww_aload C dX10_copy_41 rfl 43 rfl ?_
        refine ww_callV0p C (c_X7_isMissing l Γ) mi_X7_isMissing im_X7_isMissing se_X7_isMissing ml_X10_107 dX10_copy_43 4 rfl rfl rfl (Nat.le_of_ble_eq_true rfl) (Nat.le_of_ble_eq_true rfl) (Nat.le_of_ble_eq_true rfl) ⟨Nat.zero_le _, Nat.zero_le _⟩ [4] rfl (by decide) 46 rfl ?_
        refine ww_if_eq C 55 dX10_copy_46 (by decide) 49 rfl (fun h_46 => ?_) (fun h_46 => ?_)
        · skip
          refine ww_aload C dX10_copy_55 rfl 57 rfl ?_
          refine ww_get C fe_X10_111 dX10_copy_57 2 rfl rfl 60 rfl ?_
          refine ww_aload C dX10_copy_60 rfl 62 rfl ?_
          refine ww_get C fe_X10_111 dX10_copy_62 4 rfl rfl 65 rfl ?_
          refine ww_icmp_eq C 74 dX10_copy_65 (by decide) 68 rfl (fun h_65 => ?_) (fun h_65 => ?_)
          · skip
            refine ww_aload C dX10_copy_74 rfl 76 rfl ?_
            refine ww_iload_n (i := 2) C dX10_copy_76 rfl rfl 77 rfl ?_
            refine ww_iload C dX10_copy_77 rfl 79 rfl ?_
            refine ww_callV2p C (c_X7_hasItems l Γ) mi_X7_hasItems im_X7_hasItems se_X7_hasItems ml_X10_114 dX10_copy_79 2 rfl rfl rfl (Nat.le_of_ble_eq_true rfl) (Nat.le_of_ble_eq_true rfl) (Nat.le_of_ble_eq_true rfl) ⟨Nat.zero_le _, Nat.zero_le _⟩ [2] rfl (by decide) 82 rfl ?_
            refine ww_if_eq C 97 dX10_copy_82 (by decide) 85 rfl (fun h_82 => ?_) (fun h_82 => ?_)
            · skip
              refine ww_aload_n (i := 0) C dX10_copy_97 rfl rfl 98 rfl ?_
              have hv : g = 2 := by
                rw [← hg, s_cpf, if_neg (bI_e0 h_38), if_neg (bI_e0 h_46), if_neg (fun q => q h_65)]
                by_cases z : s_has sz a n9
                · rw [if_neg (fun q => q z)]
                  first
                    | exact absurd z (bI_e0 h_82)
                    | rw [if_pos (bI_e0 h_94)]
                · rw [if_pos z]
              subst hv
              refine ww_iconst (v := 2) C dX10_copy_98 (by decide) 99 rfl ?_
              refine ww_callV1 C (c_X10_found l Γ) mi_X10_found im_X10_found se_X10_found ml_X10_89 dX10_copy_99 0 rfl rfl rfl (Nat.le_of_ble_eq_true rfl) (Nat.le_of_ble_eq_true rfl) (Nat.le_of_ble_eq_true rfl) ⟨Nat.zero_le _, Nat.zero_le _⟩ [0] rfl (by decide) rfl 102 rfl ?_
              exact ww_iret C hr dX10_copy_102 rfl rfl
            · skip
              refine ww_aload C dX10_copy_85 rfl 87 rfl ?_
              refine ww_iload C dX10_copy_87 rfl 89 rfl ?_
              refine ww_iload C dX10_copy_89 rfl 91 rfl ?_
              refine ww_callV2p C (c_X7_hasItems l Γ) mi_X7_hasItems im_X7_hasItems se_X7_hasItems ml_X10_114 dX10_copy_91 4 rfl rfl rfl (Nat.le_of_ble_eq_true rfl) (Nat.le_of_ble_eq_true rfl) (Nat.le_of_ble_eq_true rfl) ⟨Nat.zero_le _, Nat.zero_le _⟩ [4] rfl (by decide) 94 rfl ?_
              refine ww_if_ne C 103 dX10_copy_94 (by decide) 97 rfl (fun h_94 => ?_) (fun h_94 => ?_)
              · exact absurd (by rw [← hg, s_cpf, if_neg (bI_e0 h_38), if_neg (bI_e0 h_46), if_neg (fun q => q h_65), if_neg (fun q => q (bI_n0 h_82)), if_neg (fun q => q (bI_n0 h_94))]) hg0
              · skip
                refine ww_aload_n (i := 0) C dX10_copy_97 rfl rfl 98 rfl ?_
                have hv : g = 2 := by
                  rw [← hg, s_cpf, if_neg (bI_e0 h_38), if_neg (bI_e0 h_46), if_neg (fun q => q h_65)]
                  by_cases z : s_has sz a n9
                  · rw [if_neg (fun q => q z)]
                    first
                      | exact absurd z (bI_e0 h_82)
                      | rw [if_pos (bI_e0 h_94)]
                  · rw [if_pos z]
                subst hv
                refine ww_iconst (v := 2) C dX10_copy_98 (by decide) 99 rfl ?_
                refine ww_callV1 C (c_X10_found l Γ) mi_X10_found im_X10_found se_X10_found ml_X10_89 dX10_copy_99 0 rfl rfl rfl (Nat.le_of_ble_eq_true rfl) (Nat.le_of_ble_eq_true rfl) (Nat.le_of_ble_eq_true rfl) ⟨Nat.zero_le _, Nat.zero_le _⟩ [0] rfl (by decide) rfl 102 rfl ?_
                exact ww_iret C hr dX10_copy_102 rfl rfl
          · skip
            refine ww_aload_n (i := 0) C dX10_copy_68 rfl rfl 69 rfl ?_
            have hv : g = 5 := by rw [← hg, s_cpf, if_neg (bI_e0 h_38), if_neg (bI_e0 h_46), if_pos h_65]
            subst hv
            refine ww_iconst (v := 5) C dX10_copy_69 (by decide) 70 rfl ?_
            refine ww_callV1 C (c_X10_found l Γ) mi_X10_found im_X10_found se_X10_found ml_X10_89 dX10_copy_70 0 rfl rfl rfl (Nat.le_of_ble_eq_true rfl) (Nat.le_of_ble_eq_true rfl) (Nat.le_of_ble_eq_true rfl) ⟨Nat.zero_le _, Nat.zero_le _⟩ [0] rfl (by decide) rfl 73 rfl ?_
            exact ww_iret C hr dX10_copy_73 rfl rfl
        · skip
          refine ww_aload_n (i := 0) C dX10_copy_49 rfl rfl 50 rfl ?_
          have hv : g = 1 := by
            rw [← hg, s_cpf]
            by_cases z : lane = -1
            · rw [if_pos z]
            · rw [if_neg z]
              first
                | exact absurd (bI_n0 h_38) z
                | rw [if_pos (bI_n0 h_46)]
          subst hv
          refine ww_iconst (v := 1) C dX10_copy_50 (by decide) 51 rfl ?_
          refine ww_callV1 C (c_X10_found l Γ) mi_X10_found im_X10_found se_X10_found ml_X10_89 dX10_copy_51 0 rfl rfl rfl (Nat.le_of_ble_eq_true rfl) (Nat.le_of_ble_eq_true rfl) (Nat.le_of_ble_eq_true rfl) ⟨Nat.zero_le _, Nat.zero_le _⟩ [0] rfl (by decide) rfl 54 rfl ?_
          exact ww_iret C hr dX10_copy_54 rfl rfl
    · exact absurd (ok_lt rfl hj1 (by decide)) (bI_e0 h_11)
theorem c_X10_copy_no1 (l : Launch) (Γ : Gm) {hx xs xm xt xr xb xd x6 x7 : Nat} {code : Int32} {mk : Int64} {lfa lfi : Int32} {f : Nat → Option Nat} {h0 hi sz j : Nat} {lane : Int32} {it : Nat → Int32} {a b n9 g : Int32} (hj : j < 8) (hf : f j = some h0) (hj1 : j < 8) (hf1 : f j = some h0) (hg : s_cpf lane lane sz sz a b n9 = g) (hg0 : ¬ g = 0) : Ct l Γ yX10_copy cX10_copy 8 (some .int) 5 [.ref hx, .int (nI j), .int a, .int (nI j), .int b, .int n9] ([wXo hx xs xm xt xr xb xd x6 x7 (code) (mk) (lfa) (lfi), (xs, .inl (Γ.2.2.2, 8, .inr (.inr (.inr (.inr f))))), (h0, .inr (5, [.ref hi, .int (lane), .int (nI (sz))])), (hi, .inl (Γ.2.1, 60, .inl (it)))]) (some (.int (-1000010 - g))) ([wXo hx xs xm xt xr xb xd x6 x7 (code) (mk) (lfa) (g), (xs, .inl (Γ.2.2.2, 8, .inr (.inr (.inr (.inr f))))), (h0, .inr (5, [.ref hi, .int (lane), .int (nI (sz))])), (hi, .inl (Γ.2.1, 60, .inl (it)))]) := by
  refine Ct.of mi_X10_copy [some (.ref hx), some (.int (nI j)), some (.int a), some (.int (nI j)), some (.int b), some (.int n9), none, none] 2 rfl (Nat.le_of_ble_eq_true rfl) ?_
  intro p e s m args below meth c C hr
  refine ww_iload_n (i := 1) C dX10_copy_0 rfl rfl 1 rfl ?_
  refine ww_callS1p C (c_X10_isSheet l Γ) mi_X10_isSheet st_X10_isSheet ml_X10_81 dX10_copy_1 (Nat.le_of_ble_eq_true rfl) (Nat.le_of_ble_eq_true rfl) (Nat.le_of_ble_eq_true rfl) ⟨Nat.zero_le _, Nat.zero_le _⟩ [] rfl (by decide) 4 rfl ?_
  refine ww_if_eq C 14 dX10_copy_4 (by decide) 7 rfl (fun h_4 => ?_) (fun h_4 => ?_)
  · exact absurd (ok_lt rfl hj (by decide)) (bI_e0 h_4)
  · skip
    refine ww_iload_n (i := 3) C dX10_copy_7 rfl rfl 8 rfl ?_
    refine ww_callS1p C (c_X10_isSheet l Γ) mi_X10_isSheet st_X10_isSheet ml_X10_81 dX10_copy_8 (Nat.le_of_ble_eq_true rfl) (Nat.le_of_ble_eq_true rfl) (Nat.le_of_ble_eq_true rfl) ⟨Nat.zero_le _, Nat.zero_le _⟩ [] rfl (by decide) 11 rfl ?_
    refine ww_if_ne C 17 dX10_copy_11 (by decide) 14 rfl (fun h_11 => ?_) (fun h_11 => ?_)
    · skip
      refine ww_aload_n (i := 0) C dX10_copy_17 rfl rfl 18 rfl ?_
      refine ww_get C fe_X10_11 dX10_copy_18 0 rfl rfl 21 rfl ?_
      refine ww_iload_n (i := 1) C dX10_copy_21 rfl rfl 22 rfl ?_
      refine ww_aald C dX10_copy_22 1 rfl (vp_in_nI hj (by decide)) (by rw [nI_clamp (by omega)]; exact hf) 23 rfl ?_
      refine ww_astore C dX10_copy_23 (by decide) rfl 25 rfl ?_
      refine ww_aload_n (i := 0) C dX10_copy_25 rfl rfl 26 rfl ?_
      refine ww_get C fe_X10_11 dX10_copy_26 0 rfl rfl 29 rfl ?_
      refine ww_iload_n (i := 3) C dX10_copy_29 rfl rfl 30 rfl ?_
      refine ww_aald C dX10_copy_30 1 rfl (vp_in_nI hj1 (by decide)) (by rw [nI_clamp (by omega)]; exact hf1) 31 rfl ?_
      refine ww_astore C dX10_copy_31 (by decide) rfl 33 rfl ?_
      refine ww_aload C dX10_copy_33 rfl 35 rfl ?_
      refine ww_callV0p C (c_X7_isMissing l Γ) mi_X7_isMissing im_X7_isMissing se_X7_isMissing ml_X10_107 dX10_copy_35 2 rfl rfl rfl (Nat.le_of_ble_eq_true rfl) (Nat.le_of_ble_eq_true rfl) (Nat.le_of_ble_eq_true rfl) ⟨Nat.zero_le _, Nat.zero_le _⟩ [2] rfl (by decide) 38 rfl ?_
      refine ww_if_ne C 49 dX10_copy_38 (by decide) 41 rfl (fun h_38 => ?_) (fun h_38 => ?_)
      · skip
        refine ww_aload_n (i := 0) C dX10_copy_49 rfl rfl 50 rfl ?_
        have hv : g = 1 := by
          rw [← hg, s_cpf]
          by_cases z : lane = -1
          · rw [if_pos z]
          · rw [if_neg z]
            first
              | exact absurd (bI_n0 h_38) z
              | rw [if_pos (bI_n0 h_46)]
        subst hv
        refine ww_iconst (v := 1) C dX10_copy_50 (by decide) 51 rfl ?_
        refine ww_callV1 C (c_X10_found l Γ) mi_X10_found im_X10_found se_X10_found ml_X10_89 dX10_copy_51 0 rfl rfl rfl (Nat.le_of_ble_eq_true rfl) (Nat.le_of_ble_eq_true rfl) (Nat.le_of_ble_eq_true rfl) ⟨Nat.zero_le _, Nat.zero_le _⟩ [0] rfl (by decide) rfl 54 rfl ?_
        exact ww_iret C hr dX10_copy_54 rfl rfl
      · skip
        refine ww_aload C dX10_copy_41 rfl 43 rfl ?_
        refine ww_callV0p C (c_X7_isMissing l Γ) mi_X7_isMissing im_X7_isMissing se_X7_isMissing ml_X10_107 dX10_copy_43 2 rfl rfl rfl (Nat.le_of_ble_eq_true rfl) (Nat.le_of_ble_eq_true rfl) (Nat.le_of_ble_eq_true rfl) ⟨Nat.zero_le _, Nat.zero_le _⟩ [2] rfl (by decide) 46 rfl ?_
        refine ww_if_eq C 55 dX10_copy_46 (by decide) 49 rfl (fun h_46 => ?_) (fun h_46 => ?_)
        · skip
          refine ww_aload C dX10_copy_55 rfl 57 rfl ?_
          refine ww_get C fe_X10_111 dX10_copy_57 2 rfl rfl 60 rfl ?_
          refine ww_aload C dX10_copy_60 rfl 62 rfl ?_
          refine ww_get C fe_X10_111 dX10_copy_62 2 rfl rfl 65 rfl ?_
          refine ww_icmp_eq C 74 dX10_copy_65 (by decide) 68 rfl (fun h_65 => ?_) (fun h_65 => ?_)
          · skip
            refine ww_aload C dX10_copy_74 rfl 76 rfl ?_
            refine ww_iload_n (i := 2) C dX10_copy_76 rfl rfl 77 rfl ?_
            refine ww_iload C dX10_copy_77 rfl 79 rfl ?_
            refine ww_callV2p C (c_X7_hasItems l Γ) mi_X7_hasItems im_X7_hasItems se_X7_hasItems ml_X10_114 dX10_copy_79 2 rfl rfl rfl (Nat.le_of_ble_eq_true rfl) (Nat.le_of_ble_eq_true rfl) (Nat.le_of_ble_eq_true rfl) ⟨Nat.zero_le _, Nat.zero_le _⟩ [2] rfl (by decide) 82 rfl ?_
            refine ww_if_eq C 97 dX10_copy_82 (by decide) 85 rfl (fun h_82 => ?_) (fun h_82 => ?_)
            · skip
              refine ww_aload_n (i := 0) C dX10_copy_97 rfl rfl 98 rfl ?_
              have hv : g = 2 := by
                rw [← hg, s_cpf, if_neg (bI_e0 h_38), if_neg (bI_e0 h_46), if_neg (fun q => q h_65)]
                by_cases z : s_has sz a n9
                · rw [if_neg (fun q => q z)]
                  first
                    | exact absurd z (bI_e0 h_82)
                    | rw [if_pos (bI_e0 h_94)]
                · rw [if_pos z]
              subst hv
              refine ww_iconst (v := 2) C dX10_copy_98 (by decide) 99 rfl ?_
              refine ww_callV1 C (c_X10_found l Γ) mi_X10_found im_X10_found se_X10_found ml_X10_89 dX10_copy_99 0 rfl rfl rfl (Nat.le_of_ble_eq_true rfl) (Nat.le_of_ble_eq_true rfl) (Nat.le_of_ble_eq_true rfl) ⟨Nat.zero_le _, Nat.zero_le _⟩ [0] rfl (by decide) rfl 102 rfl ?_
              exact ww_iret C hr dX10_copy_102 rfl rfl
            · skip
              refine ww_aload C dX10_copy_85 rfl 87 rfl ?_
              refine ww_iload C dX10_copy_87 rfl 89 rfl ?_
              refine ww_iload C dX10_copy_89 rfl 91 rfl ?_
              refine ww_callV2p C (c_X7_hasItems l Γ) mi_X7_hasItems im_X7_hasItems se_X7_hasItems ml_X10_114 dX10_copy_91 2 rfl rfl rfl (Nat.le_of_ble_eq_true rfl) (Nat.le_of_ble_eq_true rfl) (Nat.le_of_ble_eq_true rfl) ⟨Nat.zero_le _, Nat.zero_le _⟩ [2] rfl (by decide) 94 rfl ?_
              refine ww_if_ne C 103 dX10_copy_94 (by decide) 97 rfl (fun h_94 => ?_) (fun h_94 => ?_)
              · exact absurd (by rw [← hg, s_cpf, if_neg (bI_e0 h_38), if_neg (bI_e0 h_46), if_neg (fun q => q h_65), if_neg (fun q => q (bI_n0 h_82)), if_neg (fun q => q (bI_n0 h_94))]) hg0
              · skip
                refine ww_aload_n (i := 0) C dX10_copy_97 rfl rfl 98 rfl ?_
                have hv : g = 2 := by
                  rw [← hg, s_cpf, if_neg (bI_e0 h_38), if_neg (bI_e0 h_46), if_neg (fun q => q h_65)]
                  by_cases z : s_has sz a n9
                  · rw [if_neg (fun q => q z)]
                    first
                      | exact absurd z (bI_e0 h_82)
                      | rw [if_pos (bI_e0 h_94)]
                  · rw [if_pos z]
                subst hv
                refine ww_iconst (v := 2) C dX10_copy_98 (by decide) 99 rfl ?_
                refine ww_callV1 C (c_X10_found l Γ) mi_X10_found im_X10_found se_X10_found ml_X10_89 dX10_copy_99 0 rfl rfl rfl (Nat.le_of_ble_eq_true rfl) (Nat.le_of_ble_eq_true rfl) (Nat.le_of_ble_eq_true rfl) ⟨Nat.zero_le _, Nat.zero_le _⟩ [0] rfl (by decide) rfl 102 rfl ?_
                exact ww_iret C hr dX10_copy_102 rfl rfl
          · skip
            refine ww_aload_n (i := 0) C dX10_copy_68 rfl rfl 69 rfl ?_
            have hv : g = 5 := by rw [← hg, s_cpf, if_neg (bI_e0 h_38), if_neg (bI_e0 h_46), if_pos h_65]
            subst hv
            refine ww_iconst (v := 5) C dX10_copy_69 (by decide) 70 rfl ?_
            refine ww_callV1 C (c_X10_found l Γ) mi_X10_found im_X10_found se_X10_found ml_X10_89 dX10_copy_70 0 rfl rfl rfl (Nat.le_of_ble_eq_true rfl) (Nat.le_of_ble_eq_true rfl) (Nat.le_of_ble_eq_true rfl) ⟨Nat.zero_le _, Nat.zero_le _⟩ [0] rfl (by decide) rfl 73 rfl ?_
            exact ww_iret C hr dX10_copy_73 rfl rfl
        · skip
          refine ww_aload_n (i := 0) C dX10_copy_49 rfl rfl 50 rfl ?_
          have hv : g = 1 := by
            rw [← hg, s_cpf]
            by_cases z : lane = -1
            · rw [if_pos z]
            · rw [if_neg z]
              first
                | exact absurd (bI_n0 h_38) z
                | rw [if_pos (bI_n0 h_46)]
          subst hv
          refine ww_iconst (v := 1) C dX10_copy_50 (by decide) 51 rfl ?_
          refine ww_callV1 C (c_X10_found l Γ) mi_X10_found im_X10_found se_X10_found ml_X10_89 dX10_copy_51 0 rfl rfl rfl (Nat.le_of_ble_eq_true rfl) (Nat.le_of_ble_eq_true rfl) (Nat.le_of_ble_eq_true rfl) ⟨Nat.zero_le _, Nat.zero_le _⟩ [0] rfl (by decide) rfl 54 rfl ?_
          exact ww_iret C hr dX10_copy_54 rfl rfl
    · exact absurd (ok_lt rfl hj1 (by decide)) (bI_e0 h_11)
theorem c_X10_copy_ok2 (l : Launch) (Γ : Gm) {hx xs xm xt xr xb xd x6 x7 : Nat} {code : Int32} {mk : Int64} {lfa lfi : Int32} {f : Nat → Option Nat} {h0 hi sz j : Nat} {lane : Int32} {it : Nat → Int32} {h1 hi1 sz1 j1 : Nat} {lane1 : Int32} {it1 : Nat → Int32} {a b n : Nat} (hj : j < 8) (hf : f j = some h0) (hj1 : j1 < 8) (hf1 : f j1 = some h1) (hl : ¬ lane = -1) (hll : lane = lane1) (hs : sz ≤ 60) (hs1 : sz1 ≤ 60) (ha : a + n ≤ sz) (hb : b + n ≤ sz1) : Ct l Γ yX10_copy cX10_copy 8 (some .int) 5 [.ref hx, .int (nI j), .int (nI a), .int (nI j1), .int (nI b), .int (nI n)] ([wXo hx xs xm xt xr xb xd x6 x7 (code) (mk) (lfa) (lfi), (xs, .inl (Γ.2.2.2, 8, .inr (.inr (.inr (.inr f))))), (h0, .inr (5, [.ref hi, .int (lane), .int (nI sz)])), (hi, .inl (Γ.2.1, 60, .inl it)), (h1, .inr (5, [.ref hi1, .int (lane1), .int (nI sz1)])), (hi1, .inl (Γ.2.1, 60, .inl (it1)))]) (some (.int (nI n))) ([wXo hx xs xm xt xr xb xd x6 x7 (code) (mk) (lfa) (0), (xs, .inl (Γ.2.2.2, 8, .inr (.inr (.inr (.inr f))))), (h0, .inr (5, [.ref hi, .int (lane), .int (nI sz)])), (hi, .inl (Γ.2.1, 60, .inl it)), (h1, .inr (5, [.ref hi1, .int (lane1), .int (nI sz1)])), (hi1, .inl (Γ.2.1, 60, .inl (va_cpy it it1 a b n)))]) := by
  refine Ct.of mi_X10_copy [some (.ref hx), some (.int (nI j)), some (.int (nI a)), some (.int (nI j1)), some (.int (nI b)), some (.int (nI n)), none, none] 2 rfl (Nat.le_of_ble_eq_true rfl) ?_
  intro p e s m args below meth c C hr
  refine ww_iload_n (i := 1) C dX10_copy_0 rfl rfl 1 rfl ?_
  refine ww_callS1p C (c_X10_isSheet l Γ) mi_X10_isSheet st_X10_isSheet ml_X10_81 dX10_copy_1 (Nat.le_of_ble_eq_true rfl) (Nat.le_of_ble_eq_true rfl) (Nat.le_of_ble_eq_true rfl) ⟨Nat.zero_le _, Nat.zero_le _⟩ [] rfl (by decide) 4 rfl ?_
  refine ww_if_eq C 14 dX10_copy_4 (by decide) 7 rfl (fun h_4 => ?_) (fun h_4 => ?_)
  · exact absurd (ok_lt rfl hj (by decide)) (bI_e0 h_4)
  · skip
    refine ww_iload_n (i := 3) C dX10_copy_7 rfl rfl 8 rfl ?_
    refine ww_callS1p C (c_X10_isSheet l Γ) mi_X10_isSheet st_X10_isSheet ml_X10_81 dX10_copy_8 (Nat.le_of_ble_eq_true rfl) (Nat.le_of_ble_eq_true rfl) (Nat.le_of_ble_eq_true rfl) ⟨Nat.zero_le _, Nat.zero_le _⟩ [] rfl (by decide) 11 rfl ?_
    refine ww_if_ne C 17 dX10_copy_11 (by decide) 14 rfl (fun h_11 => ?_) (fun h_11 => ?_)
    · skip
      refine ww_aload_n (i := 0) C dX10_copy_17 rfl rfl 18 rfl ?_
      refine ww_get C fe_X10_11 dX10_copy_18 0 rfl rfl 21 rfl ?_
      refine ww_iload_n (i := 1) C dX10_copy_21 rfl rfl 22 rfl ?_
      refine ww_aald C dX10_copy_22 1 rfl (vp_in_nI hj (by decide)) (by rw [nI_clamp (by omega)]; exact hf) 23 rfl ?_
      refine ww_astore C dX10_copy_23 (by decide) rfl 25 rfl ?_
      refine ww_aload_n (i := 0) C dX10_copy_25 rfl rfl 26 rfl ?_
      refine ww_get C fe_X10_11 dX10_copy_26 0 rfl rfl 29 rfl ?_
      refine ww_iload_n (i := 3) C dX10_copy_29 rfl rfl 30 rfl ?_
      refine ww_aald C dX10_copy_30 1 rfl (vp_in_nI hj1 (by decide)) (by rw [nI_clamp (by omega)]; exact hf1) 31 rfl ?_
      refine ww_astore C dX10_copy_31 (by decide) rfl 33 rfl ?_
      refine ww_aload C dX10_copy_33 rfl 35 rfl ?_
      refine ww_callV0p C (c_X7_isMissing l Γ) mi_X7_isMissing im_X7_isMissing se_X7_isMissing ml_X10_107 dX10_copy_35 2 rfl rfl rfl (Nat.le_of_ble_eq_true rfl) (Nat.le_of_ble_eq_true rfl) (Nat.le_of_ble_eq_true rfl) ⟨Nat.zero_le _, Nat.zero_le _⟩ [2] rfl (by decide) 38 rfl ?_
      refine ww_if_ne C 49 dX10_copy_38 (by decide) 41 rfl (fun h_38 => ?_) (fun h_38 => ?_)
      · exact absurd (bI_n0 h_38) hl
      · skip
        refine ww_aload C dX10_copy_41 rfl 43 rfl ?_
        refine ww_callV0p C (c_X7_isMissing l Γ) mi_X7_isMissing im_X7_isMissing se_X7_isMissing ml_X10_107 dX10_copy_43 4 rfl rfl rfl (Nat.le_of_ble_eq_true rfl) (Nat.le_of_ble_eq_true rfl) (Nat.le_of_ble_eq_true rfl) ⟨Nat.zero_le _, Nat.zero_le _⟩ [4] rfl (by decide) 46 rfl ?_
        refine ww_if_eq C 55 dX10_copy_46 (by decide) 49 rfl (fun h_46 => ?_) (fun h_46 => ?_)
        · skip
          refine ww_aload C dX10_copy_55 rfl 57 rfl ?_
          refine ww_get C fe_X10_111 dX10_copy_57 2 rfl rfl 60 rfl ?_
          refine ww_aload C dX10_copy_60 rfl 62 rfl ?_
          refine ww_get C fe_X10_111 dX10_copy_62 4 rfl rfl 65 rfl ?_
          refine ww_icmp_eq C 74 dX10_copy_65 (by decide) 68 rfl (fun h_65 => ?_) (fun h_65 => ?_)
          · skip
            refine ww_aload C dX10_copy_74 rfl 76 rfl ?_
            refine ww_iload_n (i := 2) C dX10_copy_76 rfl rfl 77 rfl ?_
            refine ww_iload C dX10_copy_77 rfl 79 rfl ?_
            refine ww_callV2p C (c_X7_hasItems l Γ) mi_X7_hasItems im_X7_hasItems se_X7_hasItems ml_X10_114 dX10_copy_79 2 rfl rfl rfl (Nat.le_of_ble_eq_true rfl) (Nat.le_of_ble_eq_true rfl) (Nat.le_of_ble_eq_true rfl) ⟨Nat.zero_le _, Nat.zero_le _⟩ [2] rfl (by decide) 82 rfl ?_
            refine ww_if_eq C 97 dX10_copy_82 (by decide) 85 rfl (fun h_82 => ?_) (fun h_82 => ?_)
            · exact absurd (s_has_n hs ha) (bI_e0 h_82)
            · skip
              refine ww_aload C dX10_copy_85 rfl 87 rfl ?_
              refine ww_iload C dX10_copy_87 rfl 89 rfl ?_
              refine ww_iload C dX10_copy_89 rfl 91 rfl ?_
              refine ww_callV2p C (c_X7_hasItems l Γ) mi_X7_hasItems im_X7_hasItems se_X7_hasItems ml_X10_114 dX10_copy_91 4 rfl rfl rfl (Nat.le_of_ble_eq_true rfl) (Nat.le_of_ble_eq_true rfl) (Nat.le_of_ble_eq_true rfl) ⟨Nat.zero_le _, Nat.zero_le _⟩ [4] rfl (by decide) 94 rfl ?_
              refine ww_if_ne C 103 dX10_copy_94 (by decide) 97 rfl (fun h_94 => ?_) (fun h_94 => ?_)
              · skip
                refine ww_aload C dX10_copy_103 rfl 105 rfl ?_
                refine ww_get C fe_X10_118 dX10_copy_105 2 rfl rfl 108 rfl ?_
                refine ww_iload_n (i := 2) C dX10_copy_108 rfl rfl 109 rfl ?_
                refine ww_aload C dX10_copy_109 rfl 111 rfl ?_
                refine ww_get C fe_X10_118 dX10_copy_111 4 rfl rfl 114 rfl ?_
                refine ww_iload C dX10_copy_114 rfl 116 rfl ?_
                refine ww_iload C dX10_copy_116 rfl 118 rfl ?_
                refine ww_copyi C 3 5 ml_X10_122 dX10_copy_118 rfl rfl (nI_pos (by omega)) (nI_pos (by omega)) (nI_pos (by omega)) (by rw [nI_clamp (by omega), nI_clamp (by omega)]; omega) (by rw [nI_clamp (by omega), nI_clamp (by omega)]; omega) rfl (by decide) 121 rfl ?_
                rw [nI_clamp (show a < 2 ^ 31 by omega), nI_clamp (show b < 2 ^ 31 by omega), nI_clamp (show n < 2 ^ 31 by omega)]
                refine ww_eq (ws' := [wXo hx xs xm xt xr xb xd x6 x7 (code) (mk) (lfa) (lfi), (xs, .inl (Γ.2.2.2, 8, .inr (.inr (.inr (.inr f))))), (h0, .inr (5, [.ref hi, .int (lane), .int (nI sz)])), (hi, .inl (Γ.2.1, 60, .inl it)), (h1, .inr (5, [.ref hi1, .int (lane1), .int (nI sz1)])), (hi1, .inl (Γ.2.1, 60, .inl (va_cpy it it1 a b n)))]) rfl rfl rfl ?_
                refine ww_aload_n (i := 0) C dX10_copy_121 rfl rfl 122 rfl ?_
                refine ww_iload C dX10_copy_122 rfl 124 rfl ?_
                refine ww_callV1 C (c_X10_done l Γ) mi_X10_done im_X10_done se_X10_done ml_X10_97 dX10_copy_124 0 rfl rfl rfl (Nat.le_of_ble_eq_true rfl) (Nat.le_of_ble_eq_true rfl) (Nat.le_of_ble_eq_true rfl) ⟨Nat.zero_le _, Nat.zero_le _⟩ [0] rfl (by decide) rfl 127 rfl ?_
                exact ww_iret C hr dX10_copy_127 rfl rfl
              · exact absurd (s_has_n hs1 hb) (bI_e0 h_94)
          · exact absurd hll h_65
        · exact absurd (bI_n0 h_46) (by rw [← hll]; exact hl)
    · exact absurd (ok_lt rfl hj1 (by decide)) (bI_e0 h_11)
theorem c_X10_copy_ok1 (l : Launch) (Γ : Gm) {hx xs xm xt xr xb xd x6 x7 : Nat} {code : Int32} {mk : Int64} {lfa lfi : Int32} {f : Nat → Option Nat} {h0 hi sz j : Nat} {lane : Int32} {it : Nat → Int32} {a b n : Nat} (hj : j < 8) (hf : f j = some h0) (hj1 : j < 8) (hf1 : f j = some h0) (hl : ¬ lane = -1) (hll : lane = lane) (hs : sz ≤ 60) (hs1 : sz ≤ 60) (ha : a + n ≤ sz) (hb : b + n ≤ sz) : Ct l Γ yX10_copy cX10_copy 8 (some .int) 5 [.ref hx, .int (nI j), .int (nI a), .int (nI j), .int (nI b), .int (nI n)] ([wXo hx xs xm xt xr xb xd x6 x7 (code) (mk) (lfa) (lfi), (xs, .inl (Γ.2.2.2, 8, .inr (.inr (.inr (.inr f))))), (h0, .inr (5, [.ref hi, .int (lane), .int (nI (sz))])), (hi, .inl (Γ.2.1, 60, .inl (it)))]) (some (.int (nI n))) ([wXo hx xs xm xt xr xb xd x6 x7 (code) (mk) (lfa) (0), (xs, .inl (Γ.2.2.2, 8, .inr (.inr (.inr (.inr f))))), (h0, .inr (5, [.ref hi, .int (lane), .int (nI (sz))])), (hi, .inl (Γ.2.1, 60, .inl (va_cpy it it a b n)))]) := by
  refine Ct.of mi_X10_copy [some (.ref hx), some (.int (nI j)), some (.int (nI a)), some (.int (nI j)), some (.int (nI b)), some (.int (nI n)), none, none] 2 rfl (Nat.le_of_ble_eq_true rfl) ?_
  intro p e s m args below meth c C hr
  refine ww_iload_n (i := 1) C dX10_copy_0 rfl rfl 1 rfl ?_
  refine ww_callS1p C (c_X10_isSheet l Γ) mi_X10_isSheet st_X10_isSheet ml_X10_81 dX10_copy_1 (Nat.le_of_ble_eq_true rfl) (Nat.le_of_ble_eq_true rfl) (Nat.le_of_ble_eq_true rfl) ⟨Nat.zero_le _, Nat.zero_le _⟩ [] rfl (by decide) 4 rfl ?_
  refine ww_if_eq C 14 dX10_copy_4 (by decide) 7 rfl (fun h_4 => ?_) (fun h_4 => ?_)
  · exact absurd (ok_lt rfl hj (by decide)) (bI_e0 h_4)
  · skip
    refine ww_iload_n (i := 3) C dX10_copy_7 rfl rfl 8 rfl ?_
    refine ww_callS1p C (c_X10_isSheet l Γ) mi_X10_isSheet st_X10_isSheet ml_X10_81 dX10_copy_8 (Nat.le_of_ble_eq_true rfl) (Nat.le_of_ble_eq_true rfl) (Nat.le_of_ble_eq_true rfl) ⟨Nat.zero_le _, Nat.zero_le _⟩ [] rfl (by decide) 11 rfl ?_
    refine ww_if_ne C 17 dX10_copy_11 (by decide) 14 rfl (fun h_11 => ?_) (fun h_11 => ?_)
    · skip
      refine ww_aload_n (i := 0) C dX10_copy_17 rfl rfl 18 rfl ?_
      refine ww_get C fe_X10_11 dX10_copy_18 0 rfl rfl 21 rfl ?_
      refine ww_iload_n (i := 1) C dX10_copy_21 rfl rfl 22 rfl ?_
      refine ww_aald C dX10_copy_22 1 rfl (vp_in_nI hj (by decide)) (by rw [nI_clamp (by omega)]; exact hf) 23 rfl ?_
      refine ww_astore C dX10_copy_23 (by decide) rfl 25 rfl ?_
      refine ww_aload_n (i := 0) C dX10_copy_25 rfl rfl 26 rfl ?_
      refine ww_get C fe_X10_11 dX10_copy_26 0 rfl rfl 29 rfl ?_
      refine ww_iload_n (i := 3) C dX10_copy_29 rfl rfl 30 rfl ?_
      refine ww_aald C dX10_copy_30 1 rfl (vp_in_nI hj1 (by decide)) (by rw [nI_clamp (by omega)]; exact hf1) 31 rfl ?_
      refine ww_astore C dX10_copy_31 (by decide) rfl 33 rfl ?_
      refine ww_aload C dX10_copy_33 rfl 35 rfl ?_
      refine ww_callV0p C (c_X7_isMissing l Γ) mi_X7_isMissing im_X7_isMissing se_X7_isMissing ml_X10_107 dX10_copy_35 2 rfl rfl rfl (Nat.le_of_ble_eq_true rfl) (Nat.le_of_ble_eq_true rfl) (Nat.le_of_ble_eq_true rfl) ⟨Nat.zero_le _, Nat.zero_le _⟩ [2] rfl (by decide) 38 rfl ?_
      refine ww_if_ne C 49 dX10_copy_38 (by decide) 41 rfl (fun h_38 => ?_) (fun h_38 => ?_)
      · exact absurd (bI_n0 h_38) hl
      · skip
        refine ww_aload C dX10_copy_41 rfl 43 rfl ?_
        refine ww_callV0p C (c_X7_isMissing l Γ) mi_X7_isMissing im_X7_isMissing se_X7_isMissing ml_X10_107 dX10_copy_43 2 rfl rfl rfl (Nat.le_of_ble_eq_true rfl) (Nat.le_of_ble_eq_true rfl) (Nat.le_of_ble_eq_true rfl) ⟨Nat.zero_le _, Nat.zero_le _⟩ [2] rfl (by decide) 46 rfl ?_
        refine ww_if_eq C 55 dX10_copy_46 (by decide) 49 rfl (fun h_46 => ?_) (fun h_46 => ?_)
        · skip
          refine ww_aload C dX10_copy_55 rfl 57 rfl ?_
          refine ww_get C fe_X10_111 dX10_copy_57 2 rfl rfl 60 rfl ?_
          refine ww_aload C dX10_copy_60 rfl 62 rfl ?_
          refine ww_get C fe_X10_111 dX10_copy_62 2 rfl rfl 65 rfl ?_
          refine ww_icmp_eq C 74 dX10_copy_65 (by decide) 68 rfl (fun h_65 => ?_) (fun h_65 => ?_)
          · skip
            refine ww_aload C dX10_copy_74 rfl 76 rfl ?_
            refine ww_iload_n (i := 2) C dX10_copy_76 rfl rfl 77 rfl ?_
            refine ww_iload C dX10_copy_77 rfl 79 rfl ?_
            refine ww_callV2p C (c_X7_hasItems l Γ) mi_X7_hasItems im_X7_hasItems se_X7_hasItems ml_X10_114 dX10_copy_79 2 rfl rfl rfl (Nat.le_of_ble_eq_true rfl) (Nat.le_of_ble_eq_true rfl) (Nat.le_of_ble_eq_true rfl) ⟨Nat.zero_le _, Nat.zero_le _⟩ [2] rfl (by decide) 82 rfl ?_
            refine ww_if_eq C 97 dX10_copy_82 (by decide) 85 rfl (fun h_82 => ?_) (fun h_82 => ?_)
            · exact absurd (s_has_n hs ha) (bI_e0 h_82)
            · skip
              refine ww_aload C dX10_copy_85 rfl 87 rfl ?_
              refine ww_iload C dX10_copy_87 rfl 89 rfl ?_
              refine ww_iload C dX10_copy_89 rfl 91 rfl ?_
              refine ww_callV2p C (c_X7_hasItems l Γ) mi_X7_hasItems im_X7_hasItems se_X7_hasItems ml_X10_114 dX10_copy_91 2 rfl rfl rfl (Nat.le_of_ble_eq_true rfl) (Nat.le_of_ble_eq_true rfl) (Nat.le_of_ble_eq_true rfl) ⟨Nat.zero_le _, Nat.zero_le _⟩ [2] rfl (by decide) 94 rfl ?_
              refine ww_if_ne C 103 dX10_copy_94 (by decide) 97 rfl (fun h_94 => ?_) (fun h_94 => ?_)
              · skip
                refine ww_aload C dX10_copy_103 rfl 105 rfl ?_
                refine ww_get C fe_X10_118 dX10_copy_105 2 rfl rfl 108 rfl ?_
                refine ww_iload_n (i := 2) C dX10_copy_108 rfl rfl 109 rfl ?_
                refine ww_aload C dX10_copy_109 rfl 111 rfl ?_
                refine ww_get C fe_X10_118 dX10_copy_111 2 rfl rfl 114 rfl ?_
                refine ww_iload C dX10_copy_114 rfl 116 rfl ?_
                refine ww_iload C dX10_copy_116 rfl 118 rfl ?_
                refine ww_copyi C 3 3 ml_X10_122 dX10_copy_118 rfl rfl (nI_pos (by omega)) (nI_pos (by omega)) (nI_pos (by omega)) (by rw [nI_clamp (by omega), nI_clamp (by omega)]; omega) (by rw [nI_clamp (by omega), nI_clamp (by omega)]; omega) rfl (by decide) 121 rfl ?_
                rw [nI_clamp (show a < 2 ^ 31 by omega), nI_clamp (show b < 2 ^ 31 by omega), nI_clamp (show n < 2 ^ 31 by omega)]
                refine ww_eq (ws' := [wXo hx xs xm xt xr xb xd x6 x7 (code) (mk) (lfa) (lfi), (xs, .inl (Γ.2.2.2, 8, .inr (.inr (.inr (.inr f))))), (h0, .inr (5, [.ref hi, .int (lane), .int (nI (sz))])), (hi, .inl (Γ.2.1, 60, .inl (va_cpy it it a b n)))]) rfl rfl rfl ?_
                refine ww_aload_n (i := 0) C dX10_copy_121 rfl rfl 122 rfl ?_
                refine ww_iload C dX10_copy_122 rfl 124 rfl ?_
                refine ww_callV1 C (c_X10_done l Γ) mi_X10_done im_X10_done se_X10_done ml_X10_97 dX10_copy_124 0 rfl rfl rfl (Nat.le_of_ble_eq_true rfl) (Nat.le_of_ble_eq_true rfl) (Nat.le_of_ble_eq_true rfl) ⟨Nat.zero_le _, Nat.zero_le _⟩ [0] rfl (by decide) rfl 127 rfl ?_
                exact ww_iret C hr dX10_copy_127 rfl rfl
              · exact absurd (s_has_n hs1 hb) (bI_e0 h_94)
          · exact absurd hll h_65
        · exact absurd (bI_n0 h_46) (by rw [← hll]; exact hl)
    · exact absurd (ok_lt rfl hj1 (by decide)) (bI_e0 h_11)
theorem c_X10_draw_bad (l : Launch) (Γ : Gm) {hx xs xm xt xr xb xd x6 x7 : Nat} {code : Int32} {mk : Int64} {lfa lfi : Int32} {s9 a k9 : Int32} (hb : (s9 < 0 ∨ 8 ≤ s9) ∨ k9 < 0 ∨ ¬ k9 ≤ 4) : Ct l Γ yX10_drawing cX10_drawing 6 (some .int) 5 [.ref hx, .int s9, .int a, .int k9] ([wXo hx xs xm xt xr xb xd x6 x7 (code) (mk) (lfa) (lfi)]) (some (.int (-1000001))) ([wXo hx xs xm xt xr xb xd x6 x7 (code) (mk) (lfa) (lfi)]) := by
  refine Ct.of mi_X10_drawing [some (.ref hx), some (.int s9), some (.int a), some (.int k9), none, none] 2 rfl (Nat.le_of_ble_eq_true rfl) ?_
  intro p e s m args below meth c C hr
  refine ww_iload_n (i := 1) C dX10_drawing_0 rfl rfl 1 rfl ?_
  refine ww_callS1p C (c_X10_isSheet l Γ) mi_X10_isSheet st_X10_isSheet ml_X10_81 dX10_drawing_1 (Nat.le_of_ble_eq_true rfl) (Nat.le_of_ble_eq_true rfl) (Nat.le_of_ble_eq_true rfl) ⟨Nat.zero_le _, Nat.zero_le _⟩ [] rfl (by decide) 4 rfl ?_
  refine ww_if_eq C 16 dX10_drawing_4 (by decide) 7 rfl (fun h_4 => ?_) (fun h_4 => ?_)
  · skip
    refine ww_ldc C cn_X10_88 dX10_drawing_16 18 rfl ?_
    exact ww_iret C hr dX10_drawing_18 rfl rfl
  · skip
    refine ww_iload_n (i := 3) C dX10_drawing_7 rfl rfl 8 rfl ?_
    refine ww_if_lt C 16 dX10_drawing_8 (by decide) 11 rfl (fun h_8 => ?_) (fun h_8 => ?_)
    · skip
      refine ww_ldc C cn_X10_88 dX10_drawing_16 18 rfl ?_
      exact ww_iret C hr dX10_drawing_18 rfl rfl
    · skip
      refine ww_iload_n (i := 3) C dX10_drawing_11 rfl rfl 12 rfl ?_
      refine ww_iconst (v := 4) C dX10_drawing_12 (by decide) 13 rfl ?_
      refine ww_icmp_le C 19 dX10_drawing_13 (by decide) 16 rfl (fun h_13 => ?_) (fun h_13 => ?_)
      · exact absurd hb (fun q => q.elim (fun z => bad_n z (bI_n0 h_4)) (fun z => z.elim h_8 (fun y => y h_13)))
      · skip
        refine ww_ldc C cn_X10_88 dX10_drawing_16 18 rfl ?_
        exact ww_iret C hr dX10_drawing_18 rfl rfl
theorem c_X10_draw_no (l : Launch) (Γ : Gm) {hx xs xm xt xr xb xd x6 x7 : Nat} {code : Int32} {mk : Int64} {lfa lfi : Int32} {f : Nat → Option Nat} {h0 hi sz j : Nat} {lane : Int32} {it : Nat → Int32} {a k9 g : Int32} (hj : j < 8) (hf : f j = some h0) (hk : ¬ k9 < 0 ∧ k9 ≤ 4) (hg : s_find lane sz a 16 = g) (hg0 : ¬ g = 0) : Ct l Γ yX10_drawing cX10_drawing 6 (some .int) 5 [.ref hx, .int (nI j), .int a, .int k9] ([wXo hx xs xm xt xr xb xd x6 x7 (code) (mk) (lfa) (lfi), (xs, .inl (Γ.2.2.2, 8, .inr (.inr (.inr (.inr f))))), (h0, .inr (5, [.ref hi, .int (lane), .int (nI (sz))])), (hi, .inl (Γ.2.1, 60, .inl (it)))]) (some (.int (-1000010 - g))) ([wXo hx xs xm xt xr xb xd x6 x7 (code) (mk) (lfa) (g), (xs, .inl (Γ.2.2.2, 8, .inr (.inr (.inr (.inr f))))), (h0, .inr (5, [.ref hi, .int (lane), .int (nI (sz))])), (hi, .inl (Γ.2.1, 60, .inl (it)))]) := by
  refine Ct.of mi_X10_drawing [some (.ref hx), some (.int (nI j)), some (.int a), some (.int k9), none, none] 2 rfl (Nat.le_of_ble_eq_true rfl) ?_
  intro p e s m args below meth c C hr
  refine ww_iload_n (i := 1) C dX10_drawing_0 rfl rfl 1 rfl ?_
  refine ww_callS1p C (c_X10_isSheet l Γ) mi_X10_isSheet st_X10_isSheet ml_X10_81 dX10_drawing_1 (Nat.le_of_ble_eq_true rfl) (Nat.le_of_ble_eq_true rfl) (Nat.le_of_ble_eq_true rfl) ⟨Nat.zero_le _, Nat.zero_le _⟩ [] rfl (by decide) 4 rfl ?_
  refine ww_if_eq C 16 dX10_drawing_4 (by decide) 7 rfl (fun h_4 => ?_) (fun h_4 => ?_)
  · exact absurd (ok_lt rfl hj (by decide)) (bI_e0 h_4)
  · skip
    refine ww_iload_n (i := 3) C dX10_drawing_7 rfl rfl 8 rfl ?_
    refine ww_if_lt C 16 dX10_drawing_8 (by decide) 11 rfl (fun h_8 => ?_) (fun h_8 => ?_)
    · exact absurd h_8 hk.1
    · skip
      refine ww_iload_n (i := 3) C dX10_drawing_11 rfl rfl 12 rfl ?_
      refine ww_iconst (v := 4) C dX10_drawing_12 (by decide) 13 rfl ?_
      refine ww_icmp_le C 19 dX10_drawing_13 (by decide) 16 rfl (fun h_13 => ?_) (fun h_13 => ?_)
      · skip
        refine ww_aload_n (i := 0) C dX10_drawing_19 rfl rfl 20 rfl ?_
        refine ww_get C fe_X10_11 dX10_drawing_20 0 rfl rfl 23 rfl ?_
        refine ww_iload_n (i := 1) C dX10_drawing_23 rfl rfl 24 rfl ?_
        refine ww_aald C dX10_drawing_24 1 rfl (vp_in_nI hj (by decide)) (by rw [nI_clamp (by omega)]; exact hf) 25 rfl ?_
        refine ww_astore C dX10_drawing_25 (by decide) rfl 27 rfl ?_
        refine ww_aload C dX10_drawing_27 rfl 29 rfl ?_
        refine ww_iload_n (i := 2) C dX10_drawing_29 rfl rfl 30 rfl ?_
        refine ww_bipush (v := 16) C dX10_drawing_30 (by decide) 32 rfl ?_
        refine ww_callV2p C (c_X7_findingOf l Γ) mi_X7_findingOf im_X7_findingOf se_X7_findingOf ml_X10_100 dX10_drawing_32 2 rfl rfl rfl (Nat.le_of_ble_eq_true rfl) (Nat.le_of_ble_eq_true rfl) (Nat.le_of_ble_eq_true rfl) ⟨Nat.zero_le _, Nat.zero_le _⟩ [2] rfl (by decide) 35 rfl ?_
        refine ww_istore C dX10_drawing_35 (by decide) rfl 37 rfl ?_
        refine ww_iload C dX10_drawing_37 rfl 39 rfl ?_
        refine ww_if_eq C 49 dX10_drawing_39 (by decide) 42 rfl (fun h_39 => ?_) (fun h_39 => ?_)
        · exact absurd h_39 (by rw [hg]; exact hg0)
        · skip
          refine ww_aload_n (i := 0) C dX10_drawing_42 rfl rfl 43 rfl ?_
          refine ww_iload C dX10_drawing_43 rfl 45 rfl ?_
          refine ww_callV1 C (c_X10_found l Γ) mi_X10_found im_X10_found se_X10_found ml_X10_89 dX10_drawing_45 0 rfl rfl rfl (Nat.le_of_ble_eq_true rfl) (Nat.le_of_ble_eq_true rfl) (Nat.le_of_ble_eq_true rfl) ⟨Nat.zero_le _, Nat.zero_le _⟩ [0] rfl (by decide) rfl 48 rfl ?_
          exact ww_iret C hr dX10_drawing_48 (by rw [hg]) (by rw [← hg]; rfl)
      · exact absurd hk.2 h_13
theorem c_X10_draw_neg (l : Launch) (Γ : Gm) {hx xs xm xt xr xb xd x6 x7 : Nat} {code : Int32} {mk : Int64} {lfa lfi : Int32} {f : Nat → Option Nat} {h0 hi sz j : Nat} {lane : Int32} {it : Nat → Int32} {a : Nat} {k9 : Int32} (hj : j < 8) (hf : f j = some h0) (hk : ¬ k9 < 0 ∧ k9 ≤ 4) (hl : ¬ lane = -1) (ha : a + 16 ≤ sz) (hs : sz ≤ 60) (hw : ¬ s_within it a (-1) 15 16) : Ct l Γ yX10_drawing cX10_drawing 6 (some .int) 5 [.ref hx, .int (nI j), .int (nI a), .int k9] ([wXo hx xs xm xt xr xb xd x6 x7 (code) (mk) (lfa) (lfi), (xs, .inl (Γ.2.2.2, 8, .inr (.inr (.inr (.inr f))))), (h0, .inr (5, [.ref hi, .int (lane), .int (nI (sz))])), (hi, .inl (Γ.2.1, 60, .inl (it)))]) (some (.int (-1000001))) ([wXo hx xs xm xt xr xb xd x6 x7 (code) (mk) (lfa) (lfi), (xs, .inl (Γ.2.2.2, 8, .inr (.inr (.inr (.inr f))))), (h0, .inr (5, [.ref hi, .int (lane), .int (nI (sz))])), (hi, .inl (Γ.2.1, 60, .inl (it)))]) := by
  refine Ct.of mi_X10_drawing [some (.ref hx), some (.int (nI j)), some (.int (nI a)), some (.int k9), none, none] 2 rfl (Nat.le_of_ble_eq_true rfl) ?_
  intro p e s m args below meth c C hr
  have hfi : s_find lane sz (nI a) 16 = 0 := by rw [s_find, if_neg hl]; exact if_pos (s_has_n (k := 16) hs ha)
  refine ww_iload_n (i := 1) C dX10_drawing_0 rfl rfl 1 rfl ?_
  refine ww_callS1p C (c_X10_isSheet l Γ) mi_X10_isSheet st_X10_isSheet ml_X10_81 dX10_drawing_1 (Nat.le_of_ble_eq_true rfl) (Nat.le_of_ble_eq_true rfl) (Nat.le_of_ble_eq_true rfl) ⟨Nat.zero_le _, Nat.zero_le _⟩ [] rfl (by decide) 4 rfl ?_
  refine ww_if_eq C 16 dX10_drawing_4 (by decide) 7 rfl (fun h_4 => ?_) (fun h_4 => ?_)
  · exact absurd (ok_lt rfl hj (by decide)) (bI_e0 h_4)
  · skip
    refine ww_iload_n (i := 3) C dX10_drawing_7 rfl rfl 8 rfl ?_
    refine ww_if_lt C 16 dX10_drawing_8 (by decide) 11 rfl (fun h_8 => ?_) (fun h_8 => ?_)
    · exact absurd h_8 hk.1
    · skip
      refine ww_iload_n (i := 3) C dX10_drawing_11 rfl rfl 12 rfl ?_
      refine ww_iconst (v := 4) C dX10_drawing_12 (by decide) 13 rfl ?_
      refine ww_icmp_le C 19 dX10_drawing_13 (by decide) 16 rfl (fun h_13 => ?_) (fun h_13 => ?_)
      · skip
        refine ww_aload_n (i := 0) C dX10_drawing_19 rfl rfl 20 rfl ?_
        refine ww_get C fe_X10_11 dX10_drawing_20 0 rfl rfl 23 rfl ?_
        refine ww_iload_n (i := 1) C dX10_drawing_23 rfl rfl 24 rfl ?_
        refine ww_aald C dX10_drawing_24 1 rfl (vp_in_nI hj (by decide)) (by rw [nI_clamp (by omega)]; exact hf) 25 rfl ?_
        refine ww_astore C dX10_drawing_25 (by decide) rfl 27 rfl ?_
        refine ww_aload C dX10_drawing_27 rfl 29 rfl ?_
        refine ww_iload_n (i := 2) C dX10_drawing_29 rfl rfl 30 rfl ?_
        refine ww_bipush (v := 16) C dX10_drawing_30 (by decide) 32 rfl ?_
        refine ww_callV2p C (c_X7_findingOf l Γ) mi_X7_findingOf im_X7_findingOf se_X7_findingOf ml_X10_100 dX10_drawing_32 2 rfl rfl rfl (Nat.le_of_ble_eq_true rfl) (Nat.le_of_ble_eq_true rfl) (Nat.le_of_ble_eq_true rfl) ⟨Nat.zero_le _, Nat.zero_le _⟩ [2] rfl (by decide) 35 rfl ?_
        refine ww_istore C dX10_drawing_35 (by decide) rfl 37 rfl ?_
        refine ww_iload C dX10_drawing_37 rfl 39 rfl ?_
        refine ww_if_eq C 49 dX10_drawing_39 (by decide) 42 rfl (fun h_39 => ?_) (fun h_39 => ?_)
        · skip
          refine ww_aload C dX10_drawing_49 rfl 51 rfl ?_
          refine ww_iload_n (i := 2) C dX10_drawing_51 rfl rfl 52 rfl ?_
          refine ww_bipush (v := 16) C dX10_drawing_52 (by decide) 54 rfl ?_
          refine ww_iconst (v := (-1)) C dX10_drawing_54 (by decide) 55 rfl ?_
          refine ww_bipush (v := 15) C dX10_drawing_55 (by decide) 57 rfl ?_
          refine ww_callV4p C (c_X7_areWithin l Γ (k := 16) (r := 0) ha hs (fun q => absurd q hw) (fun _ => rfl)) mi_X7_areWithin im_X7_areWithin se_X7_areWithin ml_X10_135 dX10_drawing_57 2 rfl rfl rfl (Nat.le_of_ble_eq_true rfl) (Nat.le_of_ble_eq_true rfl) (Nat.le_of_ble_eq_true rfl) ⟨Nat.zero_le _, Nat.zero_le _⟩ [2, 3] rfl (by decide) 60 rfl ?_
          refine ww_if_ne C 66 dX10_drawing_60 (by decide) 63 rfl (fun h_60 => ?_) (fun h_60 => ?_)
          · exact absurd h_60 (by decide)
          · skip
            refine ww_ldc C cn_X10_88 dX10_drawing_63 65 rfl ?_
            exact ww_iret C hr dX10_drawing_65 rfl rfl
        · exact absurd hfi h_39
      · exact absurd hk.2 h_13
set_option maxHeartbeats 1000000 in
theorem c_X10_draw_same (l : Launch) (Γ : Gm) {hx xs xm xt xr xb xd x6 x7 : Nat} {code : Int32} {mk : Int64} {lfa lfi : Int32} {f : Nat → Option Nat} {h0 hi sz j : Nat} {lane : Int32} {it : Nat → Int32} {ml mu : Nat} {ua : Int64} {lk : Int32} {dr un : Int64} {s0 : Ms} {lw up : Nat → Int64} {a : Nat} {k9 : Int32} (hj : j < 8) (hf : f j = some h0) (hk : ¬ k9 < 0 ∧ k9 ≤ 4) (hl : ¬ lane = -1) (ha : a + 16 ≤ sz) (hs : sz ≤ 60) (hw : s_within it a (-1) 15 16) (h1 : ¬ lk = 0) (h2 : dr = s_drw it a 16) (h3 : un = s_unt it a 16) (hfw : s0.2.2.2 ≤ 16) : Ct l Γ yX10_drawing cX10_drawing 6 (some .int) 5 [.ref hx, .int (nI j), .int (nI a), .int k9] ([wXo hx xs xm xt xr xb xd x6 x7 (code) (mk) (lfa) (lfi), (xs, .inl (Γ.2.2.2, 8, .inr (.inr (.inr (.inr f))))), (h0, .inr (5, [.ref hi, .int (lane), .int (nI (sz))])), (hi, .inl (Γ.2.1, 60, .inl (it))), wMe xm ml mu ua lk (dr) (un) (s0), (ml, .inl (Γ.2.2.1, 256, .inr (.inl lw))), (mu, .inl (Γ.2.2.1, 256, .inr (.inl up)))]) (some (.int (s_mans (s0) k9))) ([wXo hx xs xm xt xr xb xd x6 x7 (code) (mk) (lfa) (0), (xs, .inl (Γ.2.2.2, 8, .inr (.inr (.inr (.inr f))))), (h0, .inr (5, [.ref hi, .int (lane), .int (nI (sz))])), (hi, .inl (Γ.2.1, 60, .inl (it))), wMe xm ml mu ua lk (dr) (un) (s0), (ml, .inl (Γ.2.2.1, 256, .inr (.inl lw))), (mu, .inl (Γ.2.2.1, 256, .inr (.inl up)))]) := by
  refine Ct.of mi_X10_drawing [some (.ref hx), some (.int (nI j)), some (.int (nI a)), some (.int k9), none, none] 2 rfl (Nat.le_of_ble_eq_true rfl) ?_
  intro p e s m args below meth c C hr
  have hfi : s_find lane sz (nI a) 16 = 0 := by rw [s_find, if_neg hl]; exact if_pos (s_has_n (k := 16) hs ha)
  refine ww_iload_n (i := 1) C dX10_drawing_0 rfl rfl 1 rfl ?_
  refine ww_callS1p C (c_X10_isSheet l Γ) mi_X10_isSheet st_X10_isSheet ml_X10_81 dX10_drawing_1 (Nat.le_of_ble_eq_true rfl) (Nat.le_of_ble_eq_true rfl) (Nat.le_of_ble_eq_true rfl) ⟨Nat.zero_le _, Nat.zero_le _⟩ [] rfl (by decide) 4 rfl ?_
  refine ww_if_eq C 16 dX10_drawing_4 (by decide) 7 rfl (fun h_4 => ?_) (fun h_4 => ?_)
  · exact absurd (ok_lt rfl hj (by decide)) (bI_e0 h_4)
  · skip
    refine ww_iload_n (i := 3) C dX10_drawing_7 rfl rfl 8 rfl ?_
    refine ww_if_lt C 16 dX10_drawing_8 (by decide) 11 rfl (fun h_8 => ?_) (fun h_8 => ?_)
    · exact absurd h_8 hk.1
    · skip
      refine ww_iload_n (i := 3) C dX10_drawing_11 rfl rfl 12 rfl ?_
      refine ww_iconst (v := 4) C dX10_drawing_12 (by decide) 13 rfl ?_
      refine ww_icmp_le C 19 dX10_drawing_13 (by decide) 16 rfl (fun h_13 => ?_) (fun h_13 => ?_)
      · skip
        refine ww_aload_n (i := 0) C dX10_drawing_19 rfl rfl 20 rfl ?_
        refine ww_get C fe_X10_11 dX10_drawing_20 0 rfl rfl 23 rfl ?_
        refine ww_iload_n (i := 1) C dX10_drawing_23 rfl rfl 24 rfl ?_
        refine ww_aald C dX10_drawing_24 1 rfl (vp_in_nI hj (by decide)) (by rw [nI_clamp (by omega)]; exact hf) 25 rfl ?_
        refine ww_astore C dX10_drawing_25 (by decide) rfl 27 rfl ?_
        refine ww_aload C dX10_drawing_27 rfl 29 rfl ?_
        refine ww_iload_n (i := 2) C dX10_drawing_29 rfl rfl 30 rfl ?_
        refine ww_bipush (v := 16) C dX10_drawing_30 (by decide) 32 rfl ?_
        refine ww_callV2p C (c_X7_findingOf l Γ) mi_X7_findingOf im_X7_findingOf se_X7_findingOf ml_X10_100 dX10_drawing_32 2 rfl rfl rfl (Nat.le_of_ble_eq_true rfl) (Nat.le_of_ble_eq_true rfl) (Nat.le_of_ble_eq_true rfl) ⟨Nat.zero_le _, Nat.zero_le _⟩ [2] rfl (by decide) 35 rfl ?_
        refine ww_istore C dX10_drawing_35 (by decide) rfl 37 rfl ?_
        refine ww_iload C dX10_drawing_37 rfl 39 rfl ?_
        refine ww_if_eq C 49 dX10_drawing_39 (by decide) 42 rfl (fun h_39 => ?_) (fun h_39 => ?_)
        · skip
          refine ww_aload C dX10_drawing_49 rfl 51 rfl ?_
          refine ww_iload_n (i := 2) C dX10_drawing_51 rfl rfl 52 rfl ?_
          refine ww_bipush (v := 16) C dX10_drawing_52 (by decide) 54 rfl ?_
          refine ww_iconst (v := (-1)) C dX10_drawing_54 (by decide) 55 rfl ?_
          refine ww_bipush (v := 15) C dX10_drawing_55 (by decide) 57 rfl ?_
          refine ww_callV4p C (c_X7_areWithin l Γ (k := 16) (r := 1) ha hs (fun _ => rfl) (fun q => absurd hw q)) mi_X7_areWithin im_X7_areWithin se_X7_areWithin ml_X10_135 dX10_drawing_57 2 rfl rfl rfl (Nat.le_of_ble_eq_true rfl) (Nat.le_of_ble_eq_true rfl) (Nat.le_of_ble_eq_true rfl) ⟨Nat.zero_le _, Nat.zero_le _⟩ [2, 3] rfl (by decide) 60 rfl ?_
          refine ww_if_ne C 66 dX10_drawing_60 (by decide) 63 rfl (fun h_60 => ?_) (fun h_60 => ?_)
          · skip
            refine ww_aload_n (i := 0) C dX10_drawing_66 rfl rfl 67 rfl ?_
            refine ww_get C fe_X10_18 dX10_drawing_67 0 rfl rfl 70 rfl ?_
            refine ww_aload C dX10_drawing_70 rfl 72 rfl ?_
            refine ww_iload_n (i := 2) C dX10_drawing_72 rfl rfl 73 rfl ?_
            refine ww_callV1p C (c_X7_drawnRows l Γ ha hs) mi_X7_drawnRows im_X7_drawnRows se_X7_drawnRows ml_X10_167 dX10_drawing_73 2 rfl rfl rfl (Nat.le_of_ble_eq_true rfl) (Nat.le_of_ble_eq_true rfl) (Nat.le_of_ble_eq_true rfl) ⟨Nat.zero_le _, Nat.zero_le _⟩ [2, 3] rfl (by decide) 76 rfl ?_
            refine ww_aload C dX10_drawing_76 rfl 78 rfl ?_
            refine ww_iload_n (i := 2) C dX10_drawing_78 rfl rfl 79 rfl ?_
            refine ww_callV1p C (c_X7_untornRows l Γ ha hs) mi_X7_untornRows im_X7_untornRows se_X7_untornRows ml_X10_170 dX10_drawing_79 2 rfl rfl rfl (Nat.le_of_ble_eq_true rfl) (Nat.le_of_ble_eq_true rfl) (Nat.le_of_ble_eq_true rfl) ⟨Nat.zero_le _, Nat.zero_le _⟩ [2, 3] rfl (by decide) 82 rfl ?_
            refine ww_callV2vp C (c_X4_look_same l Γ h1 h2 h3) mi_X4_lookAt im_X4_lookAt se_X4_lookAt ml_X10_173 dX10_drawing_82 4 rfl rfl rfl (Nat.le_of_ble_eq_true rfl) (Nat.le_of_ble_eq_true rfl) (Nat.le_of_ble_eq_true rfl) ⟨Nat.zero_le _, Nat.zero_le _⟩ [4, 5, 6] rfl (by decide) 85 rfl ?_
            refine ww_aload_n (i := 0) C dX10_drawing_85 rfl rfl 86 rfl ?_
            refine ww_aload_n (i := 0) C dX10_drawing_86 rfl rfl 87 rfl ?_
            refine ww_get C fe_X10_18 dX10_drawing_87 0 rfl rfl 90 rfl ?_
            refine ww_iload_n (i := 3) C dX10_drawing_90 rfl rfl 91 rfl ?_
            refine ww_callV1p C (c_X4_answerTo l Γ hfw) mi_X4_answerTo im_X4_answerTo se_X4_answerTo ml_X10_177 dX10_drawing_91 4 rfl rfl rfl (Nat.le_of_ble_eq_true rfl) (Nat.le_of_ble_eq_true rfl) (Nat.le_of_ble_eq_true rfl) ⟨Nat.zero_le _, Nat.zero_le _⟩ [4] rfl (by decide) 94 rfl ?_
            refine ww_callV1 C (c_X10_done l Γ) mi_X10_done im_X10_done se_X10_done ml_X10_97 dX10_drawing_94 0 rfl rfl rfl (Nat.le_of_ble_eq_true rfl) (Nat.le_of_ble_eq_true rfl) (Nat.le_of_ble_eq_true rfl) ⟨Nat.zero_le _, Nat.zero_le _⟩ [0] rfl (by decide) rfl 97 rfl ?_
            exact ww_iret C hr dX10_drawing_97 rfl rfl
          · exact absurd h_60 (by decide)
        · exact absurd hfi h_39
      · exact absurd hk.2 h_13
set_option maxHeartbeats 1000000 in
theorem c_X10_draw_new (l : Launch) (Γ : Gm) {hx xs xm xt xr xb xd x6 x7 : Nat} {code : Int32} {mk : Int64} {lfa lfi : Int32} {f : Nat → Option Nat} {h0 hi sz j : Nat} {lane : Int32} {it : Nat → Int32} {ml mu : Nat} {ua : Int64} {lk : Int32} {dr un : Int64} {s0 : Ms} {lw up : Nat → Int64} {a : Nat} {k9 : Int32} (hj : j < 8) (hf : f j = some h0) (hk : ¬ k9 < 0 ∧ k9 ≤ 4) (hl : ¬ lane = -1) (ha : a + 16 ≤ sz) (hs : sz ≤ 60) (hw : s_within it a (-1) 15 16) (h9 : lk = 0 ∨ ¬ dr = s_drw it a 16 ∨ ¬ un = s_unt it a 16) : Ct l Γ yX10_drawing cX10_drawing 6 (some .int) 5 [.ref hx, .int (nI j), .int (nI a), .int k9] ([wXo hx xs xm xt xr xb xd x6 x7 (code) (mk) (lfa) (lfi), (xs, .inl (Γ.2.2.2, 8, .inr (.inr (.inr (.inr f))))), (h0, .inr (5, [.ref hi, .int (lane), .int (nI (sz))])), (hi, .inl (Γ.2.1, 60, .inl (it))), wMe xm ml mu ua lk (dr) (un) (s0), (ml, .inl (Γ.2.2.1, 256, .inr (.inl lw))), (mu, .inl (Γ.2.2.1, 256, .inr (.inl up)))]) (some (.int (s_mans (s_la lw up ua (s_drw it a 16) (s_unt it a 16) 256) k9))) ([wXo hx xs xm xt xr xb xd x6 x7 (code) (mk) (lfa) (0), (xs, .inl (Γ.2.2.2, 8, .inr (.inr (.inr (.inr f))))), (h0, .inr (5, [.ref hi, .int (lane), .int (nI (sz))])), (hi, .inl (Γ.2.1, 60, .inl (it))), wMe xm ml mu ua 1 (s_drw it a 16) (s_unt it a 16) (s_la lw up ua (s_drw it a 16) (s_unt it a 16) 256), (ml, .inl (Γ.2.2.1, 256, .inr (.inl lw))), (mu, .inl (Γ.2.2.1, 256, .inr (.inl up)))]) := by
  refine Ct.of mi_X10_drawing [some (.ref hx), some (.int (nI j)), some (.int (nI a)), some (.int k9), none, none] 2 rfl (Nat.le_of_ble_eq_true rfl) ?_
  intro p e s m args below meth c C hr
  have hfi : s_find lane sz (nI a) 16 = 0 := by rw [s_find, if_neg hl]; exact if_pos (s_has_n (k := 16) hs ha)
  refine ww_iload_n (i := 1) C dX10_drawing_0 rfl rfl 1 rfl ?_
  refine ww_callS1p C (c_X10_isSheet l Γ) mi_X10_isSheet st_X10_isSheet ml_X10_81 dX10_drawing_1 (Nat.le_of_ble_eq_true rfl) (Nat.le_of_ble_eq_true rfl) (Nat.le_of_ble_eq_true rfl) ⟨Nat.zero_le _, Nat.zero_le _⟩ [] rfl (by decide) 4 rfl ?_
  refine ww_if_eq C 16 dX10_drawing_4 (by decide) 7 rfl (fun h_4 => ?_) (fun h_4 => ?_)
  · exact absurd (ok_lt rfl hj (by decide)) (bI_e0 h_4)
  · skip
    refine ww_iload_n (i := 3) C dX10_drawing_7 rfl rfl 8 rfl ?_
    refine ww_if_lt C 16 dX10_drawing_8 (by decide) 11 rfl (fun h_8 => ?_) (fun h_8 => ?_)
    · exact absurd h_8 hk.1
    · skip
      refine ww_iload_n (i := 3) C dX10_drawing_11 rfl rfl 12 rfl ?_
      refine ww_iconst (v := 4) C dX10_drawing_12 (by decide) 13 rfl ?_
      refine ww_icmp_le C 19 dX10_drawing_13 (by decide) 16 rfl (fun h_13 => ?_) (fun h_13 => ?_)
      · skip
        refine ww_aload_n (i := 0) C dX10_drawing_19 rfl rfl 20 rfl ?_
        refine ww_get C fe_X10_11 dX10_drawing_20 0 rfl rfl 23 rfl ?_
        refine ww_iload_n (i := 1) C dX10_drawing_23 rfl rfl 24 rfl ?_
        refine ww_aald C dX10_drawing_24 1 rfl (vp_in_nI hj (by decide)) (by rw [nI_clamp (by omega)]; exact hf) 25 rfl ?_
        refine ww_astore C dX10_drawing_25 (by decide) rfl 27 rfl ?_
        refine ww_aload C dX10_drawing_27 rfl 29 rfl ?_
        refine ww_iload_n (i := 2) C dX10_drawing_29 rfl rfl 30 rfl ?_
        refine ww_bipush (v := 16) C dX10_drawing_30 (by decide) 32 rfl ?_
        refine ww_callV2p C (c_X7_findingOf l Γ) mi_X7_findingOf im_X7_findingOf se_X7_findingOf ml_X10_100 dX10_drawing_32 2 rfl rfl rfl (Nat.le_of_ble_eq_true rfl) (Nat.le_of_ble_eq_true rfl) (Nat.le_of_ble_eq_true rfl) ⟨Nat.zero_le _, Nat.zero_le _⟩ [2] rfl (by decide) 35 rfl ?_
        refine ww_istore C dX10_drawing_35 (by decide) rfl 37 rfl ?_
        refine ww_iload C dX10_drawing_37 rfl 39 rfl ?_
        refine ww_if_eq C 49 dX10_drawing_39 (by decide) 42 rfl (fun h_39 => ?_) (fun h_39 => ?_)
        · skip
          refine ww_aload C dX10_drawing_49 rfl 51 rfl ?_
          refine ww_iload_n (i := 2) C dX10_drawing_51 rfl rfl 52 rfl ?_
          refine ww_bipush (v := 16) C dX10_drawing_52 (by decide) 54 rfl ?_
          refine ww_iconst (v := (-1)) C dX10_drawing_54 (by decide) 55 rfl ?_
          refine ww_bipush (v := 15) C dX10_drawing_55 (by decide) 57 rfl ?_
          refine ww_callV4p C (c_X7_areWithin l Γ (k := 16) (r := 1) ha hs (fun _ => rfl) (fun q => absurd hw q)) mi_X7_areWithin im_X7_areWithin se_X7_areWithin ml_X10_135 dX10_drawing_57 2 rfl rfl rfl (Nat.le_of_ble_eq_true rfl) (Nat.le_of_ble_eq_true rfl) (Nat.le_of_ble_eq_true rfl) ⟨Nat.zero_le _, Nat.zero_le _⟩ [2, 3] rfl (by decide) 60 rfl ?_
          refine ww_if_ne C 66 dX10_drawing_60 (by decide) 63 rfl (fun h_60 => ?_) (fun h_60 => ?_)
          · skip
            refine ww_aload_n (i := 0) C dX10_drawing_66 rfl rfl 67 rfl ?_
            refine ww_get C fe_X10_18 dX10_drawing_67 0 rfl rfl 70 rfl ?_
            refine ww_aload C dX10_drawing_70 rfl 72 rfl ?_
            refine ww_iload_n (i := 2) C dX10_drawing_72 rfl rfl 73 rfl ?_
            refine ww_callV1p C (c_X7_drawnRows l Γ ha hs) mi_X7_drawnRows im_X7_drawnRows se_X7_drawnRows ml_X10_167 dX10_drawing_73 2 rfl rfl rfl (Nat.le_of_ble_eq_true rfl) (Nat.le_of_ble_eq_true rfl) (Nat.le_of_ble_eq_true rfl) ⟨Nat.zero_le _, Nat.zero_le _⟩ [2, 3] rfl (by decide) 76 rfl ?_
            refine ww_aload C dX10_drawing_76 rfl 78 rfl ?_
            refine ww_iload_n (i := 2) C dX10_drawing_78 rfl rfl 79 rfl ?_
            refine ww_callV1p C (c_X7_untornRows l Γ ha hs) mi_X7_untornRows im_X7_untornRows se_X7_untornRows ml_X10_170 dX10_drawing_79 2 rfl rfl rfl (Nat.le_of_ble_eq_true rfl) (Nat.le_of_ble_eq_true rfl) (Nat.le_of_ble_eq_true rfl) ⟨Nat.zero_le _, Nat.zero_le _⟩ [2, 3] rfl (by decide) 82 rfl ?_
            refine ww_callV2v C (c_X4_look_new l Γ h9) mi_X4_lookAt im_X4_lookAt se_X4_lookAt ml_X10_173 dX10_drawing_82 4 rfl rfl rfl (Nat.le_of_ble_eq_true rfl) (Nat.le_of_ble_eq_true rfl) (Nat.le_of_ble_eq_true rfl) ⟨Nat.zero_le _, Nat.zero_le _⟩ [4, 5, 6] rfl (by decide) rfl 85 rfl ?_
            refine ww_eq (ws' := [wXo hx xs xm xt xr xb xd x6 x7 (code) (mk) (lfa) (lfi), (xs, .inl (Γ.2.2.2, 8, .inr (.inr (.inr (.inr f))))), (h0, .inr (5, [.ref hi, .int (lane), .int (nI (sz))])), (hi, .inl (Γ.2.1, 60, .inl (it))), wMe xm ml mu ua 1 (s_drw it a 16) (s_unt it a 16) (s_la lw up ua (s_drw it a 16) (s_unt it a 16) 256), (ml, .inl (Γ.2.2.1, 256, .inr (.inl lw))), (mu, .inl (Γ.2.2.1, 256, .inr (.inl up)))]) rfl rfl rfl ?_
            refine ww_aload_n (i := 0) C dX10_drawing_85 rfl rfl 86 rfl ?_
            refine ww_aload_n (i := 0) C dX10_drawing_86 rfl rfl 87 rfl ?_
            refine ww_get C fe_X10_18 dX10_drawing_87 0 rfl rfl 90 rfl ?_
            refine ww_iload_n (i := 3) C dX10_drawing_90 rfl rfl 91 rfl ?_
            refine ww_callV1p C (c_X4_answerTo l Γ s_la_le) mi_X4_answerTo im_X4_answerTo se_X4_answerTo ml_X10_177 dX10_drawing_91 4 rfl rfl rfl (Nat.le_of_ble_eq_true rfl) (Nat.le_of_ble_eq_true rfl) (Nat.le_of_ble_eq_true rfl) ⟨Nat.zero_le _, Nat.zero_le _⟩ [4] rfl (by decide) 94 rfl ?_
            refine ww_callV1 C (c_X10_done l Γ) mi_X10_done im_X10_done se_X10_done ml_X10_97 dX10_drawing_94 0 rfl rfl rfl (Nat.le_of_ble_eq_true rfl) (Nat.le_of_ble_eq_true rfl) (Nat.le_of_ble_eq_true rfl) ⟨Nat.zero_le _, Nat.zero_le _⟩ [0] rfl (by decide) rfl 97 rfl ?_
            exact ww_iret C hr dX10_drawing_97 rfl rfl
          · exact absurd h_60 (by decide)
        · exact absurd hfi h_39
      · exact absurd hk.2 h_13
theorem c_X10_feed_bad (l : Launch) (Γ : Gm) {hx xs xm xt xr xb xd x6 x7 : Nat} {code : Int32} {mk : Int64} {lfa lfi : Int32} {w : Int64} {n9 : Int32} (hb : n9 < 1 ∨ ¬ n9 ≤ 8) : Ct l Γ yX10_feed cX10_feed 4 (some .int) 5 [.ref hx, .long w, .int n9] ([wXo hx xs xm xt xr xb xd x6 x7 (code) (mk) (lfa) (lfi)]) (some (.int (-1000001))) ([wXo hx xs xm xt xr xb xd x6 x7 (code) (mk) (lfa) (lfi)]) := by
  refine Ct.of mi_X10_feed [some (.ref hx), some (.long w), none, some (.int n9)] 0 rfl (Nat.le_of_ble_eq_true rfl) ?_
  intro p e s m args below meth c C hr
  refine ww_iload_n (i := 3) C dX10_feed_0 rfl rfl 1 rfl ?_
  refine ww_iconst (v := 1) C dX10_feed_1 (by decide) 2 rfl ?_
  refine ww_icmp_lt C 11 dX10_feed_2 (by decide) 5 rfl (fun h_2 => ?_) (fun h_2 => ?_)
  · skip
    refine ww_ldc C cn_X10_88 dX10_feed_11 13 rfl ?_
    exact ww_iret C hr dX10_feed_13 rfl rfl
  · skip
    refine ww_iload_n (i := 3) C dX10_feed_5 rfl rfl 6 rfl ?_
    refine ww_bipush (v := 8) C dX10_feed_6 (by decide) 8 rfl ?_
    refine ww_icmp_le C 14 dX10_feed_8 (by decide) 11 rfl (fun h_8 => ?_) (fun h_8 => ?_)
    · exact absurd hb (fun q => q.elim h_2 (fun z => z h_8))
    · skip
      refine ww_ldc C cn_X10_88 dX10_feed_11 13 rfl ?_
      exact ww_iret C hr dX10_feed_13 rfl rfl
theorem c_X10_feed_full (l : Launch) (Γ : Gm) {hx xs xm xt xr xb xd x6 x7 : Nat} {code : Int32} {mk : Int64} {lfa lfi : Int32} {hb u n : Nat} {by0 : Nat → Int32} {w : Int64} (h1 : 1 ≤ n) (h8 : n ≤ 8) (hu : u ≤ 400) (hfu : ¬ u + n ≤ 400) : Ct l Γ yX10_feed cX10_feed 4 (some .int) 5 [.ref hx, .long w, .int (nI n)] ([wXo hx xs xm xt xr xb xd x6 x7 (code) (mk) (lfa) (lfi), (xt, .inr (6, [.ref hb, .int (nI (u))])), (hb, .inl (Γ.2.1, 400, .inl (by0)))]) (some (.int (-1000003))) ([wXo hx xs xm xt xr xb xd x6 x7 (code) (mk) (lfa) (lfi), (xt, .inr (6, [.ref hb, .int (nI (u))])), (hb, .inl (Γ.2.1, 400, .inl (by0)))]) := by
  refine Ct.of mi_X10_feed [some (.ref hx), some (.long w), none, some (.int (nI n))] 0 rfl (Nat.le_of_ble_eq_true rfl) ?_
  intro p e s m args below meth c C hr
  have hrm : (¬ (400 : Int32) - nI u < nI n) ↔ u + n ≤ 400 := by
    rw [show (400 : Int32) = nI 400 from rfl, pk_sub hu, nI_ltI (by omega) (by omega)]
    omega
  refine ww_iload_n (i := 3) C dX10_feed_0 rfl rfl 1 rfl ?_
  refine ww_iconst (v := 1) C dX10_feed_1 (by decide) 2 rfl ?_
  refine ww_icmp_lt C 11 dX10_feed_2 (by decide) 5 rfl (fun h_2 => ?_) (fun h_2 => ?_)
  · exact absurd h_2 (nI_nlt (b := 1) h1 (by omega))
  · skip
    refine ww_iload_n (i := 3) C dX10_feed_5 rfl rfl 6 rfl ?_
    refine ww_bipush (v := 8) C dX10_feed_6 (by decide) 8 rfl ?_
    refine ww_icmp_le C 14 dX10_feed_8 (by decide) 11 rfl (fun h_8 => ?_) (fun h_8 => ?_)
    · skip
      refine ww_aload_n (i := 0) C dX10_feed_14 rfl rfl 15 rfl ?_
      refine ww_get C fe_X10_25 dX10_feed_15 0 rfl rfl 18 rfl ?_
      refine ww_iload_n (i := 3) C dX10_feed_18 rfl rfl 19 rfl ?_
      refine ww_callV1p C (c_X8_hasRoom l Γ) mi_X8_hasRoom im_X8_hasRoom se_X8_hasRoom ml_X10_180 dX10_feed_19 1 rfl rfl rfl (Nat.le_of_ble_eq_true rfl) (Nat.le_of_ble_eq_true rfl) (Nat.le_of_ble_eq_true rfl) ⟨Nat.zero_le _, Nat.zero_le _⟩ [1] rfl (by decide) 22 rfl ?_
      refine ww_if_ne C 28 dX10_feed_22 (by decide) 25 rfl (fun h_22 => ?_) (fun h_22 => ?_)
      · exact absurd (hrm.mp (bI_n0 h_22)) hfu
      · skip
        refine ww_ldc C cn_X10_183 dX10_feed_25 27 rfl ?_
        exact ww_iret C hr dX10_feed_27 rfl rfl
    · exact absurd (nI_le (b := 8) h8 (by decide)) h_8
theorem c_X10_feed_ok (l : Launch) (Γ : Gm) {hx xs xm xt xr xb xd x6 x7 : Nat} {code : Int32} {mk : Int64} {lfa lfi : Int32} {hb u n : Nat} {by0 : Nat → Int32} {w : Int64} (h1 : 1 ≤ n) (h8 : n ≤ 8) (hu : u ≤ 400) (hfu : u + n ≤ 400) : Ct l Γ yX10_feed cX10_feed 4 (some .int) 5 [.ref hx, .long w, .int (nI n)] ([wXo hx xs xm xt xr xb xd x6 x7 (code) (mk) (lfa) (lfi), (xt, .inr (6, [.ref hb, .int (nI (u))])), (hb, .inl (Γ.2.1, 400, .inl (by0)))]) (some (.int (nI (u + n)))) ([wXo hx xs xm xt xr xb xd x6 x7 (code) (mk) (lfa) (lfi), (xt, .inr (6, [.ref hb, .int (nI (u + n))])), (hb, .inl (Γ.2.1, 400, .inl (s_apb by0 u w n n)))]) := by
  refine Ct.of mi_X10_feed [some (.ref hx), some (.long w), none, some (.int (nI n))] 0 rfl (Nat.le_of_ble_eq_true rfl) ?_
  intro p e s m args below meth c C hr
  have hrm : (¬ (400 : Int32) - nI u < nI n) ↔ u + n ≤ 400 := by
    rw [show (400 : Int32) = nI 400 from rfl, pk_sub hu, nI_ltI (by omega) (by omega)]
    omega
  refine ww_iload_n (i := 3) C dX10_feed_0 rfl rfl 1 rfl ?_
  refine ww_iconst (v := 1) C dX10_feed_1 (by decide) 2 rfl ?_
  refine ww_icmp_lt C 11 dX10_feed_2 (by decide) 5 rfl (fun h_2 => ?_) (fun h_2 => ?_)
  · exact absurd h_2 (nI_nlt (b := 1) h1 (by omega))
  · skip
    refine ww_iload_n (i := 3) C dX10_feed_5 rfl rfl 6 rfl ?_
    refine ww_bipush (v := 8) C dX10_feed_6 (by decide) 8 rfl ?_
    refine ww_icmp_le C 14 dX10_feed_8 (by decide) 11 rfl (fun h_8 => ?_) (fun h_8 => ?_)
    · skip
      refine ww_aload_n (i := 0) C dX10_feed_14 rfl rfl 15 rfl ?_
      refine ww_get C fe_X10_25 dX10_feed_15 0 rfl rfl 18 rfl ?_
      refine ww_iload_n (i := 3) C dX10_feed_18 rfl rfl 19 rfl ?_
      refine ww_callV1p C (c_X8_hasRoom l Γ) mi_X8_hasRoom im_X8_hasRoom se_X8_hasRoom ml_X10_180 dX10_feed_19 1 rfl rfl rfl (Nat.le_of_ble_eq_true rfl) (Nat.le_of_ble_eq_true rfl) (Nat.le_of_ble_eq_true rfl) ⟨Nat.zero_le _, Nat.zero_le _⟩ [1] rfl (by decide) 22 rfl ?_
      refine ww_if_ne C 28 dX10_feed_22 (by decide) 25 rfl (fun h_22 => ?_) (fun h_22 => ?_)
      · skip
        refine ww_aload_n (i := 0) C dX10_feed_28 rfl rfl 29 rfl ?_
        refine ww_get C fe_X10_25 dX10_feed_29 0 rfl rfl 32 rfl ?_
        refine ww_lload_n (i := 1) C dX10_feed_32 rfl rfl 33 rfl ?_
        refine ww_iload_n (i := 3) C dX10_feed_33 rfl rfl 34 rfl ?_
        refine ww_callV2v C (c_X8_append l Γ h1 h8 hfu) mi_X8_append im_X8_append se_X8_append ml_X10_184 dX10_feed_34 1 rfl rfl rfl (Nat.le_of_ble_eq_true rfl) (Nat.le_of_ble_eq_true rfl) (Nat.le_of_ble_eq_true rfl) ⟨Nat.zero_le _, Nat.zero_le _⟩ [1, 2] rfl (by decide) rfl 37 rfl ?_
        refine ww_eq (ws' := [wXo hx xs xm xt xr xb xd x6 x7 (code) (mk) (lfa) (lfi), (xt, .inr (6, [.ref hb, .int (nI (u + n))])), (hb, .inl (Γ.2.1, 400, .inl (s_apb by0 u w n n)))]) rfl rfl rfl ?_
        refine ww_aload_n (i := 0) C dX10_feed_37 rfl rfl 38 rfl ?_
        refine ww_get C fe_X10_25 dX10_feed_38 0 rfl rfl 41 rfl ?_
        refine ww_get C fe_X10_188 dX10_feed_41 1 rfl rfl 44 rfl ?_
        exact ww_iret C hr dX10_feed_44 rfl rfl
      · exact absurd (hrm.mpr hfu) (bI_e0 h_22)
    · exact absurd (nI_le (b := 8) h8 (by decide)) h_8
theorem c_X10_rec_bad (l : Launch) (Γ : Gm) {hx xs xm xt xr xb xd x6 x7 : Nat} {code : Int32} {mk : Int64} {lfa lfi : Int32} {c9 : Int32} (hb : ¬ (¬ c9 < 0 ∧ ¬ 2 < c9)) : Ct l Γ yX10_record cX10_record 2 (some .int) 5 [.ref hx, .int c9] ([wXo hx xs xm xt xr xb xd x6 x7 (code) (mk) (lfa) (lfi)]) (some (.int (-1000001))) ([wXo hx xs xm xt xr xb xd x6 x7 (code) (mk) (lfa) (lfi)]) := by
  refine Ct.of mi_X10_record [some (.ref hx), some (.int c9)] 0 rfl (Nat.le_of_ble_eq_true rfl) ?_
  intro p e s m args below meth c C hr
  refine ww_iload_n (i := 1) C dX10_record_0 rfl rfl 1 rfl ?_
  refine ww_callS1p C (c_X1_isEnd l Γ) mi_X1_isEnd st_X1_isEnd ml_X10_217 dX10_record_1 (Nat.le_of_ble_eq_true rfl) (Nat.le_of_ble_eq_true rfl) (Nat.le_of_ble_eq_true rfl) ⟨Nat.zero_le _, Nat.zero_le _⟩ [] rfl (by decide) 4 rfl ?_
  refine ww_if_ne C 10 dX10_record_4 (by decide) 7 rfl (fun h_4 => ?_) (fun h_4 => ?_)
  · exact absurd (bI_n0 h_4) hb
  · skip
    refine ww_ldc C cn_X10_88 dX10_record_7 9 rfl ?_
    exact ww_iret C hr dX10_record_9 rfl rfl
theorem c_X10_rec_full (l : Launch) (Γ : Gm) {hx xs xm xt xr xb xd x6 x7 : Nat} {code : Int32} {mk : Int64} {lfa lfi : Int32} {kc ke ka kh z k : Nat} {cs : Nat → Int64} {en al : Nat → Int32} (hk : k < 3) (hz : z = 100) : Ct l Γ yX10_record cX10_record 2 (some .int) 5 [.ref hx, .int (nI k)] ([wXo hx xs xm xt xr xb xd x6 x7 (code) (mk) (lfa) (lfi), (xb, .inr (1, [.ref kc, .ref ke, .ref ka, .ref kh, .int (nI (z))])), (kc, .inl (Γ.2.2.1, 100, .inr (.inl (cs)))), (ke, .inl (Γ.2.1, 100, .inl (en))), (ka, .inl (Γ.2.1, 3, .inl (al)))]) (some (.int (-1000003))) ([wXo hx xs xm xt xr xb xd x6 x7 (code) (mk) (lfa) (lfi), (xb, .inr (1, [.ref kc, .ref ke, .ref ka, .ref kh, .int (nI (z))])), (kc, .inl (Γ.2.2.1, 100, .inr (.inl (cs)))), (ke, .inl (Γ.2.1, 100, .inl (en))), (ka, .inl (Γ.2.1, 3, .inl (al)))]) := by
  refine Ct.of mi_X10_record [some (.ref hx), some (.int (nI k))] 0 rfl (Nat.le_of_ble_eq_true rfl) ?_
  intro p e s m args below meth c C hr
  refine ww_iload_n (i := 1) C dX10_record_0 rfl rfl 1 rfl ?_
  refine ww_callS1p C (c_X1_isEnd l Γ) mi_X1_isEnd st_X1_isEnd ml_X10_217 dX10_record_1 (Nat.le_of_ble_eq_true rfl) (Nat.le_of_ble_eq_true rfl) (Nat.le_of_ble_eq_true rfl) ⟨Nat.zero_le _, Nat.zero_le _⟩ [] rfl (by decide) 4 rfl ?_
  refine ww_if_ne C 10 dX10_record_4 (by decide) 7 rfl (fun h_4 => ?_) (fun h_4 => ?_)
  · skip
    refine ww_aload_n (i := 0) C dX10_record_10 rfl rfl 11 rfl ?_
    refine ww_get C fe_X10_39 dX10_record_11 0 rfl rfl 14 rfl ?_
    refine ww_callV0p C (c_X1_isFull l Γ) mi_X1_isFull im_X1_isFull se_X1_isFull ml_X10_220 dX10_record_14 1 rfl rfl rfl (Nat.le_of_ble_eq_true rfl) (Nat.le_of_ble_eq_true rfl) (Nat.le_of_ble_eq_true rfl) ⟨Nat.zero_le _, Nat.zero_le _⟩ [1] rfl (by decide) 17 rfl ?_
    refine ww_if_eq C 23 dX10_record_17 (by decide) 20 rfl (fun h_17 => ?_) (fun h_17 => ?_)
    · exact absurd (show ¬ nI z < 100 by rw [hz]; decide) (bI_e0 h_17)
    · skip
      refine ww_ldc C cn_X10_183 dX10_record_20 22 rfl ?_
      exact ww_iret C hr dX10_record_22 rfl rfl
  · exact absurd (⟨nI_pos (by omega), nI_nlt (a := 2) (by omega) (by decide)⟩ : ¬ nI k < 0 ∧ ¬ nI 2 < nI k) (bI_e0 h_4)
theorem c_X10_rec_ok (l : Launch) (Γ : Gm) {hx xs xm xt xr xb xd x6 x7 : Nat} {code : Int32} {mk : Int64} {lfa lfi : Int32} {kc ke ka kh z k : Nat} {cs : Nat → Int64} {en al : Nat → Int32} (hk : k < 3) (hz : z < 100) : Ct l Γ yX10_record cX10_record 2 (some .int) 5 [.ref hx, .int (nI k)] ([wXo hx xs xm xt xr xb xd x6 x7 (code) (mk) (lfa) (lfi), (xb, .inr (1, [.ref kc, .ref ke, .ref ka, .ref kh, .int (nI (z))])), (kc, .inl (Γ.2.2.1, 100, .inr (.inl (cs)))), (ke, .inl (Γ.2.1, 100, .inl (en))), (ka, .inl (Γ.2.1, 3, .inl (al)))]) (some (.int (nI (z + 1)))) ([wXo hx xs xm xt xr xb xd x6 x7 (code) (mk) (lfa) (lfi), (xb, .inr (1, [.ref kc, .ref ke, .ref ka, .ref kh, .int (nI (z + 1))])), (kc, .inl (Γ.2.2.1, 100, .inr (.inl (vp_updL cs z mk)))), (ke, .inl (Γ.2.1, 100, .inl (upd en z (nI k)))), (ka, .inl (Γ.2.1, 3, .inl (upd al k (al k + 1))))]) := by
  refine Ct.of mi_X10_record [some (.ref hx), some (.int (nI k))] 0 rfl (Nat.le_of_ble_eq_true rfl) ?_
  intro p e s m args below meth c C hr
  refine ww_iload_n (i := 1) C dX10_record_0 rfl rfl 1 rfl ?_
  refine ww_callS1p C (c_X1_isEnd l Γ) mi_X1_isEnd st_X1_isEnd ml_X10_217 dX10_record_1 (Nat.le_of_ble_eq_true rfl) (Nat.le_of_ble_eq_true rfl) (Nat.le_of_ble_eq_true rfl) ⟨Nat.zero_le _, Nat.zero_le _⟩ [] rfl (by decide) 4 rfl ?_
  refine ww_if_ne C 10 dX10_record_4 (by decide) 7 rfl (fun h_4 => ?_) (fun h_4 => ?_)
  · skip
    refine ww_aload_n (i := 0) C dX10_record_10 rfl rfl 11 rfl ?_
    refine ww_get C fe_X10_39 dX10_record_11 0 rfl rfl 14 rfl ?_
    refine ww_callV0p C (c_X1_isFull l Γ) mi_X1_isFull im_X1_isFull se_X1_isFull ml_X10_220 dX10_record_14 1 rfl rfl rfl (Nat.le_of_ble_eq_true rfl) (Nat.le_of_ble_eq_true rfl) (Nat.le_of_ble_eq_true rfl) ⟨Nat.zero_le _, Nat.zero_le _⟩ [1] rfl (by decide) 17 rfl ?_
    refine ww_if_eq C 23 dX10_record_17 (by decide) 20 rfl (fun h_17 => ?_) (fun h_17 => ?_)
    · skip
      refine ww_aload_n (i := 0) C dX10_record_23 rfl rfl 24 rfl ?_
      refine ww_get C fe_X10_39 dX10_record_24 0 rfl rfl 27 rfl ?_
      refine ww_aload_n (i := 0) C dX10_record_27 rfl rfl 28 rfl ?_
      refine ww_get C fe_X10_70 dX10_record_28 0 rfl rfl 31 rfl ?_
      refine ww_iload_n (i := 1) C dX10_record_31 rfl rfl 32 rfl ?_
      refine ww_callV2v C (c_X1_write l Γ hz hk) mi_X1_write im_X1_write se_X1_write ml_X10_223 dX10_record_32 1 rfl rfl rfl (Nat.le_of_ble_eq_true rfl) (Nat.le_of_ble_eq_true rfl) (Nat.le_of_ble_eq_true rfl) ⟨Nat.zero_le _, Nat.zero_le _⟩ [1, 2, 3, 4] rfl (by decide) rfl 35 rfl ?_
      refine ww_eq (ws' := [wXo hx xs xm xt xr xb xd x6 x7 (code) (mk) (lfa) (lfi), (xb, .inr (1, [.ref kc, .ref ke, .ref ka, .ref kh, .int (nI (z + 1))])), (kc, .inl (Γ.2.2.1, 100, .inr (.inl (vp_updL cs z mk)))), (ke, .inl (Γ.2.1, 100, .inl (upd en z (nI k)))), (ka, .inl (Γ.2.1, 3, .inl (upd al k (al k + 1))))]) rfl rfl rfl ?_
      refine ww_aload_n (i := 0) C dX10_record_35 rfl rfl 36 rfl ?_
      refine ww_get C fe_X10_39 dX10_record_36 0 rfl rfl 39 rfl ?_
      refine ww_get C fe_X10_226 dX10_record_39 1 rfl rfl 42 rfl ?_
      exact ww_iret C hr dX10_record_42 rfl rfl
    · exact absurd (nI_lt (b := 100) hz (by decide)) (bI_n0 h_17)
  · exact absurd (⟨nI_pos (by omega), nI_nlt (a := 2) (by omega) (by decide)⟩ : ¬ nI k < 0 ∧ ¬ nI 2 < nI k) (bI_e0 h_4)
theorem c_X10_holds_bad (l : Launch) (Γ : Gm) {hx xs xm xt xr xb xd x6 x7 : Nat} {code : Int32} {mk : Int64} {lfa lfi : Int32} {qw qf qs qt qn n : Nat} {wd fi se te : Nat → Int32} {r9 : Int32} (hb : ¬ (¬ r9 < 0 ∧ ¬ nI n ≤ r9)) : Ct l Γ yX10_holds cX10_holds 2 (some .int) 5 [.ref hx, .int r9] ([wXo hx xs xm xt xr xb xd x6 x7 (code) (mk) (lfa) (lfi), (x6, .inr (4, [.ref qw, .ref qf, .ref qs, .ref qt, .ref qn, .int (nI n)])), (qw, .inl (Γ.2.1, 60, .inl wd)), (qf, .inl (Γ.2.1, 60, .inl fi)), (qs, .inl (Γ.2.1, 60, .inl se)), (qt, .inl (Γ.2.1, 15, .inl te))]) (some (.int (-1000001))) ([wXo hx xs xm xt xr xb xd x6 x7 (code) (mk) (lfa) (lfi), (x6, .inr (4, [.ref qw, .ref qf, .ref qs, .ref qt, .ref qn, .int (nI n)])), (qw, .inl (Γ.2.1, 60, .inl wd)), (qf, .inl (Γ.2.1, 60, .inl fi)), (qs, .inl (Γ.2.1, 60, .inl se)), (qt, .inl (Γ.2.1, 15, .inl te))]) := by
  refine Ct.of mi_X10_holds [some (.ref hx), some (.int r9)] 0 rfl (Nat.le_of_ble_eq_true rfl) ?_
  intro p e s m args below meth c C hr
  refine ww_aload_n (i := 0) C dX10_holds_0 rfl rfl 1 rfl ?_
  refine ww_get C fe_X10_53 dX10_holds_1 0 rfl rfl 4 rfl ?_
  refine ww_iload_n (i := 1) C dX10_holds_4 rfl rfl 5 rfl ?_
  refine ww_callV1p C (c_X6_hasRule l Γ) mi_X6_hasRule im_X6_hasRule se_X6_hasRule ml_X10_210 dX10_holds_5 1 rfl rfl rfl (Nat.le_of_ble_eq_true rfl) (Nat.le_of_ble_eq_true rfl) (Nat.le_of_ble_eq_true rfl) ⟨Nat.zero_le _, Nat.zero_le _⟩ [1] rfl (by decide) 8 rfl ?_
  refine ww_if_ne C 14 dX10_holds_8 (by decide) 11 rfl (fun h_8 => ?_) (fun h_8 => ?_)
  · exact absurd (bI_n0 h_8) hb
  · skip
    refine ww_ldc C cn_X10_88 dX10_holds_11 13 rfl ?_
    exact ww_iret C hr dX10_holds_13 rfl rfl
theorem c_X10_holds_ok (l : Launch) (Γ : Gm) {hx xs xm xt xr xb xd x6 x7 : Nat} {code : Int32} {mk : Int64} {lfa lfi : Int32} {qw qf qs qt qn n : Nat} {wd fi se te : Nat → Int32} {r t : Nat} (hr9 : r < n) (hn : n ≤ 15) (ht : te r = nI t) (h4 : t ≤ 4) : Ct l Γ yX10_holds cX10_holds 2 (some .int) 5 [.ref hx, .int (nI r)] ([wXo hx xs xm xt xr xb xd x6 x7 (code) (mk) (lfa) (lfi), (x6, .inr (4, [.ref qw, .ref qf, .ref qs, .ref qt, .ref qn, .int (nI n)])), (qw, .inl (Γ.2.1, 60, .inl wd)), (qf, .inl (Γ.2.1, 60, .inl fi)), (qs, .inl (Γ.2.1, 60, .inl se)), (qt, .inl (Γ.2.1, 15, .inl te))]) (some (.int (bI (s_tr wd fi se r mk t = true)))) ([wXo hx xs xm xt xr xb xd x6 x7 (code) (mk) (lfa) (lfi), (x6, .inr (4, [.ref qw, .ref qf, .ref qs, .ref qt, .ref qn, .int (nI n)])), (qw, .inl (Γ.2.1, 60, .inl wd)), (qf, .inl (Γ.2.1, 60, .inl fi)), (qs, .inl (Γ.2.1, 60, .inl se)), (qt, .inl (Γ.2.1, 15, .inl te))]) := by
  refine Ct.of mi_X10_holds [some (.ref hx), some (.int (nI r))] 0 rfl (Nat.le_of_ble_eq_true rfl) ?_
  intro p e s m args below meth c C hr
  refine ww_aload_n (i := 0) C dX10_holds_0 rfl rfl 1 rfl ?_
  refine ww_get C fe_X10_53 dX10_holds_1 0 rfl rfl 4 rfl ?_
  refine ww_iload_n (i := 1) C dX10_holds_4 rfl rfl 5 rfl ?_
  refine ww_callV1p C (c_X6_hasRule l Γ) mi_X6_hasRule im_X6_hasRule se_X6_hasRule ml_X10_210 dX10_holds_5 1 rfl rfl rfl (Nat.le_of_ble_eq_true rfl) (Nat.le_of_ble_eq_true rfl) (Nat.le_of_ble_eq_true rfl) ⟨Nat.zero_le _, Nat.zero_le _⟩ [1] rfl (by decide) 8 rfl ?_
  refine ww_if_ne C 14 dX10_holds_8 (by decide) 11 rfl (fun h_8 => ?_) (fun h_8 => ?_)
  · skip
    refine ww_aload_n (i := 0) C dX10_holds_14 rfl rfl 15 rfl ?_
    refine ww_get C fe_X10_53 dX10_holds_15 0 rfl rfl 18 rfl ?_
    refine ww_iload_n (i := 1) C dX10_holds_18 rfl rfl 19 rfl ?_
    refine ww_aload_n (i := 0) C dX10_holds_19 rfl rfl 20 rfl ?_
    refine ww_get C fe_X10_70 dX10_holds_20 0 rfl rfl 23 rfl ?_
    refine ww_callV2p C (c_X6_isTrueOf l Γ hr9 hn ht h4) mi_X6_isTrueOf im_X6_isTrueOf se_X6_isTrueOf ml_X10_213 dX10_holds_23 1 rfl rfl rfl (Nat.le_of_ble_eq_true rfl) (Nat.le_of_ble_eq_true rfl) (Nat.le_of_ble_eq_true rfl) ⟨Nat.zero_le _, Nat.zero_le _⟩ [1, 2, 3, 4, 5] rfl (by decide) 26 rfl ?_
    refine ww_if_eq C 33 dX10_holds_26 (by decide) 29 rfl (fun h_26 => ?_) (fun h_26 => ?_)
    · skip
      refine ww_iconst (v := 0) C dX10_holds_33 (by decide) 34 rfl ?_
      exact ww_iret C hr dX10_holds_34 (by first | rw [bI_0 (bI_e0 h_26)] | rw [bI_1 (bI_n0 h_26)]) rfl
    · skip
      refine ww_iconst (v := 1) C dX10_holds_29 (by decide) 30 rfl ?_
      refine ww_goto C 34 dX10_holds_30 (by decide) ?_
      exact ww_iret C hr dX10_holds_34 (by first | rw [bI_0 (bI_e0 h_26)] | rw [bI_1 (bI_n0 h_26)]) rfl
  · exact absurd (⟨nI_pos (by omega), nI_ge hr9 (by omega)⟩ : ¬ nI r < 0 ∧ ¬ nI n ≤ nI r) (bI_e0 h_8)
theorem c_X10_said_bad (l : Launch) (Γ : Gm) {hx xs xm xt xr xb xd x6 x7 : Nat} {code : Int32} {mk : Int64} {lfa lfi : Int32} {qw qf qs qt qn n : Nat} {wd fi se te : Nat → Int32} {k9 : Int32} (hb : ¬ k9 = 0 ∧ ¬ k9 = 1) : Ct l Γ yX10_said cX10_said 3 (some .int) 6 [.ref hx, .int k9] ([wXo hx xs xm xt xr xb xd x6 x7 (code) (mk) (lfa) (lfi), (x6, .inr (4, [.ref qw, .ref qf, .ref qs, .ref qt, .ref qn, .int (nI n)])), (qw, .inl (Γ.2.1, 60, .inl wd)), (qf, .inl (Γ.2.1, 60, .inl fi)), (qs, .inl (Γ.2.1, 60, .inl se)), (qt, .inl (Γ.2.1, 15, .inl te))]) (some (.int (-1000001))) ([wXo hx xs xm xt xr xb xd x6 x7 (code) (mk) (lfa) (lfi), (x6, .inr (4, [.ref qw, .ref qf, .ref qs, .ref qt, .ref qn, .int (nI n)])), (qw, .inl (Γ.2.1, 60, .inl wd)), (qf, .inl (Γ.2.1, 60, .inl fi)), (qs, .inl (Γ.2.1, 60, .inl se)), (qt, .inl (Γ.2.1, 15, .inl te))]) := by
  refine Ct.of mi_X10_said [some (.ref hx), some (.int k9), none] 1 rfl (Nat.le_of_ble_eq_true rfl) ?_
  intro p e s m args below meth c C hr
  refine ww_iload_n (i := 1) C dX10_said_0 rfl rfl 1 rfl ?_
  refine ww_if_eq C 12 dX10_said_1 (by decide) 4 rfl (fun h_1 => ?_) (fun h_1 => ?_)
  · exact absurd h_1 hb.1
  · skip
    refine ww_iload_n (i := 1) C dX10_said_4 rfl rfl 5 rfl ?_
    refine ww_iconst (v := 1) C dX10_said_5 (by decide) 6 rfl ?_
    refine ww_icmp_eq C 12 dX10_said_6 (by decide) 9 rfl (fun h_6 => ?_) (fun h_6 => ?_)
    · exact absurd h_6 hb.2
    · skip
      refine ww_ldc C cn_X10_88 dX10_said_9 11 rfl ?_
      exact ww_iret C hr dX10_said_11 rfl rfl
theorem c_X10_said_none (l : Launch) (Γ : Gm) {hx xs xm xt xr xb xd x6 x7 : Nat} {code : Int32} {mk : Int64} {lfa lfi : Int32} {qw qf qs qt qn n : Nat} {wd fi se te : Nat → Int32} {tn : Nat → Nat} {k9 : Int32} (hn : n ≤ 15) (ht : ∀ r, r < n → te r = nI (tn r) ∧ tn r ≤ 4) (hk : k9 = 0 ∨ k9 = 1) (h0 : ∀ j, j < n → s_tr wd fi se j mk (tn j) = false) : Ct l Γ yX10_said cX10_said 3 (some .int) 6 [.ref hx, .int k9] ([wXo hx xs xm xt xr xb xd x6 x7 (code) (mk) (lfa) (lfi), (x6, .inr (4, [.ref qw, .ref qf, .ref qs, .ref qt, .ref qn, .int (nI n)])), (qw, .inl (Γ.2.1, 60, .inl wd)), (qf, .inl (Γ.2.1, 60, .inl fi)), (qs, .inl (Γ.2.1, 60, .inl se)), (qt, .inl (Γ.2.1, 15, .inl te))]) (some (.int (-1000000))) ([wXo hx xs xm xt xr xb xd x6 x7 (code) (mk) (lfa) (lfi), (x6, .inr (4, [.ref qw, .ref qf, .ref qs, .ref qt, .ref qn, .int (nI n)])), (qw, .inl (Γ.2.1, 60, .inl wd)), (qf, .inl (Γ.2.1, 60, .inl fi)), (qs, .inl (Γ.2.1, 60, .inl se)), (qt, .inl (Γ.2.1, 15, .inl te))]) := by
  refine Ct.of mi_X10_said [some (.ref hx), some (.int k9), none] 1 rfl (Nat.le_of_ble_eq_true rfl) ?_
  intro p e s m args below meth c C hr
  refine ww_iload_n (i := 1) C dX10_said_0 rfl rfl 1 rfl ?_
  refine ww_if_eq C 12 dX10_said_1 (by decide) 4 rfl (fun h_1 => ?_) (fun h_1 => ?_)
  · skip
    refine ww_aload_n (i := 0) C dX10_said_12 rfl rfl 13 rfl ?_
    refine ww_get C fe_X10_53 dX10_said_13 0 rfl rfl 16 rfl ?_
    refine ww_aload_n (i := 0) C dX10_said_16 rfl rfl 17 rfl ?_
    refine ww_get C fe_X10_70 dX10_said_17 0 rfl rfl 20 rfl ?_
    refine ww_callV1p C (c_X6_firstThatHolds l Γ (r9 := -1000000) hn ht (fun r hr h1 _ => absurd h1 (by rw [h0 r hr]; decide)) (fun _ => rfl)) mi_X6_firstThatHolds im_X6_firstThatHolds se_X6_firstThatHolds ml_X10_203 dX10_said_20 1 rfl rfl rfl (Nat.le_of_ble_eq_true rfl) (Nat.le_of_ble_eq_true rfl) (Nat.le_of_ble_eq_true rfl) ⟨Nat.zero_le _, Nat.zero_le _⟩ [1, 2, 3, 4, 5] rfl (by decide) 23 rfl ?_
    refine ww_istore_n (i := 2) C dX10_said_23 rfl (by decide) rfl 24 rfl ?_
    refine ww_iload_n (i := 2) C dX10_said_24 rfl rfl 25 rfl ?_
    refine ww_ldc C cn_X10_206 dX10_said_25 27 rfl ?_
    refine ww_icmp_ne C 33 dX10_said_27 (by decide) 30 rfl (fun h_27 => ?_) (fun h_27 => ?_)
    · exact absurd h_27 (by decide)
    · skip
      refine ww_ldc C cn_X10_206 dX10_said_30 32 rfl ?_
      exact ww_iret C hr dX10_said_32 rfl rfl
  · skip
    refine ww_iload_n (i := 1) C dX10_said_4 rfl rfl 5 rfl ?_
    refine ww_iconst (v := 1) C dX10_said_5 (by decide) 6 rfl ?_
    refine ww_icmp_eq C 12 dX10_said_6 (by decide) 9 rfl (fun h_6 => ?_) (fun h_6 => ?_)
    · skip
      refine ww_aload_n (i := 0) C dX10_said_12 rfl rfl 13 rfl ?_
      refine ww_get C fe_X10_53 dX10_said_13 0 rfl rfl 16 rfl ?_
      refine ww_aload_n (i := 0) C dX10_said_16 rfl rfl 17 rfl ?_
      refine ww_get C fe_X10_70 dX10_said_17 0 rfl rfl 20 rfl ?_
      refine ww_callV1p C (c_X6_firstThatHolds l Γ (r9 := -1000000) hn ht (fun r hr h1 _ => absurd h1 (by rw [h0 r hr]; decide)) (fun _ => rfl)) mi_X6_firstThatHolds im_X6_firstThatHolds se_X6_firstThatHolds ml_X10_203 dX10_said_20 1 rfl rfl rfl (Nat.le_of_ble_eq_true rfl) (Nat.le_of_ble_eq_true rfl) (Nat.le_of_ble_eq_true rfl) ⟨Nat.zero_le _, Nat.zero_le _⟩ [1, 2, 3, 4, 5] rfl (by decide) 23 rfl ?_
      refine ww_istore_n (i := 2) C dX10_said_23 rfl (by decide) rfl 24 rfl ?_
      refine ww_iload_n (i := 2) C dX10_said_24 rfl rfl 25 rfl ?_
      refine ww_ldc C cn_X10_206 dX10_said_25 27 rfl ?_
      refine ww_icmp_ne C 33 dX10_said_27 (by decide) 30 rfl (fun h_27 => ?_) (fun h_27 => ?_)
      · exact absurd h_27 (by decide)
      · skip
        refine ww_ldc C cn_X10_206 dX10_said_30 32 rfl ?_
        exact ww_iret C hr dX10_said_32 rfl rfl
    · exact absurd hk (fun q => q.elim h_1 h_6)
theorem c_X10_said_ok (l : Launch) (Γ : Gm) {hx xs xm xt xr xb xd x6 x7 : Nat} {code : Int32} {mk : Int64} {lfa lfi : Int32} {qw qf qs qt qn n : Nat} {wd fi se te : Nat → Int32} {nu : Nat → Int32} {tn : Nat → Nat} {k9 : Int32} {r : Nat} (hn : n ≤ 15) (ht : ∀ r, r < n → te r = nI (tn r) ∧ tn r ≤ 4) (hk : k9 = 0 ∨ k9 = 1) (hr9 : r < n) (h1 : s_tr wd fi se r mk (tn r) = true) (h0 : ∀ j, j < r → s_tr wd fi se j mk (tn j) = false) : Ct l Γ yX10_said cX10_said 3 (some .int) 6 [.ref hx, .int k9] ([wXo hx xs xm xt xr xb xd x6 x7 (code) (mk) (lfa) (lfi), (x6, .inr (4, [.ref qw, .ref qf, .ref qs, .ref qt, .ref qn, .int (nI n)])), (qw, .inl (Γ.2.1, 60, .inl wd)), (qf, .inl (Γ.2.1, 60, .inl fi)), (qs, .inl (Γ.2.1, 60, .inl se)), (qt, .inl (Γ.2.1, 15, .inl te)), (qn, .inl (Γ.2.1, 15, .inl nu))]) (some (.int (if k9 = 0 then nu r else nI r))) ([wXo hx xs xm xt xr xb xd x6 x7 (code) (mk) (lfa) (lfi), (x6, .inr (4, [.ref qw, .ref qf, .ref qs, .ref qt, .ref qn, .int (nI n)])), (qw, .inl (Γ.2.1, 60, .inl wd)), (qf, .inl (Γ.2.1, 60, .inl fi)), (qs, .inl (Γ.2.1, 60, .inl se)), (qt, .inl (Γ.2.1, 15, .inl te)), (qn, .inl (Γ.2.1, 15, .inl nu))]) := by
  refine Ct.of mi_X10_said [some (.ref hx), some (.int k9), none] 1 rfl (Nat.le_of_ble_eq_true rfl) ?_
  intro p e s m args below meth c C hr
  refine ww_iload_n (i := 1) C dX10_said_0 rfl rfl 1 rfl ?_
  refine ww_if_eq C 12 dX10_said_1 (by decide) 4 rfl (fun h_1 => ?_) (fun h_1 => ?_)
  · skip
    refine ww_aload_n (i := 0) C dX10_said_12 rfl rfl 13 rfl ?_
    refine ww_get C fe_X10_53 dX10_said_13 0 rfl rfl 16 rfl ?_
    refine ww_aload_n (i := 0) C dX10_said_16 rfl rfl 17 rfl ?_
    refine ww_get C fe_X10_70 dX10_said_17 0 rfl rfl 20 rfl ?_
    refine ww_callV1p C (c_X6_firstThatHolds l Γ (r9 := nI r) hn ht (fun r' hr' h1' h0' => by
    rcases Nat.lt_or_ge r r' with q | q
    · exact absurd h1 (by rw [h0' r q]; decide)
    · rcases Nat.lt_or_ge r' r with q2 | q2
      · exact absurd h1' (by rw [h0 r' q2]; decide)
      · rw [show r' = r by omega]) (fun q => absurd h1 (by rw [q r hr9]; decide))) mi_X6_firstThatHolds im_X6_firstThatHolds se_X6_firstThatHolds ml_X10_203 dX10_said_20 1 rfl rfl rfl (Nat.le_of_ble_eq_true rfl) (Nat.le_of_ble_eq_true rfl) (Nat.le_of_ble_eq_true rfl) ⟨Nat.zero_le _, Nat.zero_le _⟩ [1, 2, 3, 4, 5] rfl (by decide) 23 rfl ?_
    refine ww_istore_n (i := 2) C dX10_said_23 rfl (by decide) rfl 24 rfl ?_
    refine ww_iload_n (i := 2) C dX10_said_24 rfl rfl 25 rfl ?_
    refine ww_ldc C cn_X10_206 dX10_said_25 27 rfl ?_
    refine ww_icmp_ne C 33 dX10_said_27 (by decide) 30 rfl (fun h_27 => ?_) (fun h_27 => ?_)
    · skip
      refine ww_iload_n (i := 1) C dX10_said_33 rfl rfl 34 rfl ?_
      refine ww_if_ne C 48 dX10_said_34 (by decide) 37 rfl (fun h_34 => ?_) (fun h_34 => ?_)
      · skip
        refine ww_iload_n (i := 2) C dX10_said_48 rfl rfl 49 rfl ?_
        exact ww_iret C hr dX10_said_49 (by first | rw [if_neg h_34] | rw [if_pos h_34]) rfl
      · skip
        refine ww_aload_n (i := 0) C dX10_said_37 rfl rfl 38 rfl ?_
        refine ww_get C fe_X10_53 dX10_said_38 0 rfl rfl 41 rfl ?_
        refine ww_iload_n (i := 2) C dX10_said_41 rfl rfl 42 rfl ?_
        refine ww_callV1p C (c_X6_numberSaid l Γ hr9 hn) mi_X6_numberSaid im_X6_numberSaid se_X6_numberSaid ml_X10_207 dX10_said_42 1 rfl rfl rfl (Nat.le_of_ble_eq_true rfl) (Nat.le_of_ble_eq_true rfl) (Nat.le_of_ble_eq_true rfl) ⟨Nat.zero_le _, Nat.zero_le _⟩ [1, 6] rfl (by decide) 45 rfl ?_
        refine ww_goto C 49 dX10_said_45 (by decide) ?_
        exact ww_iret C hr dX10_said_49 (by first | rw [if_neg h_34] | rw [if_pos h_34]) rfl
    · exact absurd h_27 (nI_neM r (by omega))
  · skip
    refine ww_iload_n (i := 1) C dX10_said_4 rfl rfl 5 rfl ?_
    refine ww_iconst (v := 1) C dX10_said_5 (by decide) 6 rfl ?_
    refine ww_icmp_eq C 12 dX10_said_6 (by decide) 9 rfl (fun h_6 => ?_) (fun h_6 => ?_)
    · skip
      refine ww_aload_n (i := 0) C dX10_said_12 rfl rfl 13 rfl ?_
      refine ww_get C fe_X10_53 dX10_said_13 0 rfl rfl 16 rfl ?_
      refine ww_aload_n (i := 0) C dX10_said_16 rfl rfl 17 rfl ?_
      refine ww_get C fe_X10_70 dX10_said_17 0 rfl rfl 20 rfl ?_
      refine ww_callV1p C (c_X6_firstThatHolds l Γ (r9 := nI r) hn ht (fun r' hr' h1' h0' => by
    rcases Nat.lt_or_ge r r' with q | q
    · exact absurd h1 (by rw [h0' r q]; decide)
    · rcases Nat.lt_or_ge r' r with q2 | q2
      · exact absurd h1' (by rw [h0 r' q2]; decide)
      · rw [show r' = r by omega]) (fun q => absurd h1 (by rw [q r hr9]; decide))) mi_X6_firstThatHolds im_X6_firstThatHolds se_X6_firstThatHolds ml_X10_203 dX10_said_20 1 rfl rfl rfl (Nat.le_of_ble_eq_true rfl) (Nat.le_of_ble_eq_true rfl) (Nat.le_of_ble_eq_true rfl) ⟨Nat.zero_le _, Nat.zero_le _⟩ [1, 2, 3, 4, 5] rfl (by decide) 23 rfl ?_
      refine ww_istore_n (i := 2) C dX10_said_23 rfl (by decide) rfl 24 rfl ?_
      refine ww_iload_n (i := 2) C dX10_said_24 rfl rfl 25 rfl ?_
      refine ww_ldc C cn_X10_206 dX10_said_25 27 rfl ?_
      refine ww_icmp_ne C 33 dX10_said_27 (by decide) 30 rfl (fun h_27 => ?_) (fun h_27 => ?_)
      · skip
        refine ww_iload_n (i := 1) C dX10_said_33 rfl rfl 34 rfl ?_
        refine ww_if_ne C 48 dX10_said_34 (by decide) 37 rfl (fun h_34 => ?_) (fun h_34 => ?_)
        · skip
          refine ww_iload_n (i := 2) C dX10_said_48 rfl rfl 49 rfl ?_
          exact ww_iret C hr dX10_said_49 (by first | rw [if_neg h_34] | rw [if_pos h_34]) rfl
        · skip
          refine ww_aload_n (i := 0) C dX10_said_37 rfl rfl 38 rfl ?_
          refine ww_get C fe_X10_53 dX10_said_38 0 rfl rfl 41 rfl ?_
          refine ww_iload_n (i := 2) C dX10_said_41 rfl rfl 42 rfl ?_
          refine ww_callV1p C (c_X6_numberSaid l Γ hr9 hn) mi_X6_numberSaid im_X6_numberSaid se_X6_numberSaid ml_X10_207 dX10_said_42 1 rfl rfl rfl (Nat.le_of_ble_eq_true rfl) (Nat.le_of_ble_eq_true rfl) (Nat.le_of_ble_eq_true rfl) ⟨Nat.zero_le _, Nat.zero_le _⟩ [1, 6] rfl (by decide) 45 rfl ?_
          refine ww_goto C 49 dX10_said_45 (by decide) ?_
          exact ww_iret C hr dX10_said_49 (by first | rw [if_neg h_34] | rw [if_pos h_34]) rfl
      · exact absurd h_27 (nI_neM r (by omega))
    · exact absurd hk (fun q => q.elim h_1 h_6)
