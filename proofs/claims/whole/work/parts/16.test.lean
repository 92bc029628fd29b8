abbrev wRS (Γ : Gm) (hr0 qw qf qs qt qn n : Nat) (B : Nat → Nat → Int32) : va_W := [(hr0, .inr (4, [.ref qw, .ref qf, .ref qs, .ref qt, .ref qn, .int (nI n)])), (qw, .inl (Γ.2.1, 60, .inl (B 0))), (qf, .inl (Γ.2.1, 60, .inl (B 1))), (qs, .inl (Γ.2.1, 60, .inl (B 2))), (qt, .inl (Γ.2.1, 15, .inl (B 3))), (qn, .inl (Γ.2.1, 15, .inl (B 4)))]
def i3 (a b c : Int32) : Nat → Int32 := fun k => match k with
  | 0 => a
  | 1 => b
  | _ => c
abbrev wRd (Γ : Gm) (hd0 ht nx : Nat) (I : Nat → Int32) : Nat × va_E := (hd0, .inr (3, [.ref ht, .int (nI nx), .int (I 0), .int (I 1), .int (I 2)]))
abbrev RdX : Type := Nat × (Nat → Int32) × (Nat → Nat → Int32)
/-- a test is read into the rows, or its fault is told -/
def RtQ (T u : Nat) (A : Nat → Nat → Int32) (nx n t : Nat) (B : Nat → Nat → Int32) (x : Int32 × RdX) : Prop :=
  (x.1 = 1 ∧ (gT (kp T A) (nv T A) nx).1 = 0 ∧ x.2.1 = (gT (kp T A) (nv T A) nx).2 ∧ x.2.1 ≤ T ∧ ∃ b : Int32, x.2.2.2 = a5 (upd (B 0) (4 * n + t) (kp T A nx)) (upd (B 1) (4 * n + t) (nv T A (nx + 1))) (upd (B 2) (4 * n + t) b) (upd (B 3) n (nI (t + 1))) (B 4) ∧ (kp T A nx = 6711655 → b = nv T A (nx + 3)) ∧ (kp T A nx = 1935764837 → b = nv T A (nx + 2))) ∨
  (x.1 = 0 ∧ ¬ (gT (kp T A) (nv T A) nx).1 = 0 ∧ x.2.2.1 1 = (gT (kp T A) (nv T A) nx).1 ∧ x.2.2.1 2 = ps T u A (gT (kp T A) (nv T A) nx).2 ∧ x.2.2.2 = B)
theorem RtQ_no {T u : Nat} {A : Nat → Nat → Int32} {nx n t k : Nat} {B : Nat → Nat → Int32} {f : Int32} {y : Nat} {a : Int32} (h : gT (kp T A) (nv T A) nx = (f, k)) (hf : ¬ f = 0) : RtQ T u A nx n t B (0, y, i3 a f (ps T u A k), B) := by
  refine Or.inr ⟨rfl, ?_⟩
  rw [h]
  exact ⟨hf, rfl, rfl, rfl⟩
theorem RtQ_ok {T u : Nat} {A : Nat → Nat → Int32} {nx n t k : Nat} {B : Nat → Nat → Int32} {I : Nat → Int32} {b : Int32} (h : gT (kp T A) (nv T A) nx = (0, k)) (hk : k ≤ T) (h1 : kp T A nx = 6711655 → b = nv T A (nx + 3)) (h2 : kp T A nx = 1935764837 → b = nv T A (nx + 2)) : RtQ T u A nx n t B (1, k, I, a5 (upd (B 0) (4 * n + t) (kp T A nx)) (upd (B 1) (4 * n + t) (nv T A (nx + 1))) (upd (B 2) (4 * n + t) b) (upd (B 3) n (nI (t + 1))) (B 4)) := by
  refine Or.inl ⟨rfl, ?_⟩
  rw [h]
  exact ⟨rfl, rfl, hk, b, rfl, h1, h2⟩
set_option maxHeartbeats 2000000 in
theorem c_X5_readTest (l : Launch) (Γ : Gm) {hd0 nx : Nat} {I : Nat → Int32} {ht t0 t1 t2 t3 t4 T u : Nat} {A : Nat → Nat → Int32} {hr0 qw qf qs qt qn n : Nat} {B : Nat → Nat → Int32} {t : Nat} (hT : T ≤ 400) (hnx : nx ≤ T) (hn : n < 15) (h3 : B 3 n = nI t) (h4 : t < 4) : Ce l Γ yX5_readTest cX5_readTest 6 (some .boolean) 3 [.ref hd0, .ref hr0] (wRd Γ hd0 ht (nx) (I) :: (wTok Γ ht t0 t1 t2 t3 t4 T u A ++ wRS Γ hr0 qw qf qs qt qn n (B))) (fun (x : Int32 × RdX) => RtQ T u A nx n t B x) (fun (x : Int32 × RdX) => some (.int x.1)) (fun (x : Int32 × RdX) => wRd Γ hd0 ht (x.2.1) (x.2.2.1) :: (wTok Γ ht t0 t1 t2 t3 t4 T u A ++ wRS Γ hr0 qw qf qs qt qn n (x.2.2.2))) := by
  refine Ce.of mi_X5_readTest [some (.ref hd0), some (.ref hr0), none, none, none, none] 4 rfl (Nat.le_of_ble_eq_true rfl) ?_
  intro p e s m args below meth c C hr
  refine ww_aload_n (i := 0) C dX5_readTest_0 rfl rfl 1 rfl ?_
  refine ww_get C fe_X5_12 dX5_readTest_1 0 rfl rfl 4 rfl ?_
  refine ww_aload_n (i := 0) C dX5_readTest_4 rfl rfl 5 rfl ?_
  refine ww_get C fe_X5_18 dX5_readTest_5 0 rfl rfl 8 rfl ?_
  refine ww_callV1p C (c_X9_kindOf l Γ (by omega) (by omega)) mi_X9_kindOf im_X9_kindOf se_X9_kindOf ml_X5_40 dX5_readTest_8 1 rfl rfl rfl (Nat.le_of_ble_eq_true rfl) (Nat.le_of_ble_eq_true rfl) (Nat.le_of_ble_eq_true rfl) ⟨Nat.zero_le _, Nat.zero_le _⟩ [1, 5] rfl (by decide) 11 rfl ?_
  rw [show (if nx < T then A 3 nx else 0) = kp T A nx from rfl]
  refine ww_istore_n (i := 2) C dX5_readTest_11 rfl (by decide) rfl 12 rfl ?_
  have hcs : kp T A nx = 6711655 ∨ kp T A nx = 1935764837 ∨ kp T A nx = 1885434739 ∨ kp T A nx = 1702258030 ∨ (¬ kp T A nx = 6711655 ∧ ¬ kp T A nx = 1935764837 ∧ ¬ kp T A nx = 1885434739 ∧ ¬ kp T A nx = 1702258030) := by
    by_cases a1 : kp T A nx = 6711655
    · exact Or.inl a1
    by_cases a2 : kp T A nx = 1935764837
    · exact Or.inr (Or.inl a2)
    by_cases a3 : kp T A nx = 1885434739
    · exact Or.inr (Or.inr (Or.inl a3))
    by_cases a4 : kp T A nx = 1702258030
    · exact Or.inr (Or.inr (Or.inr (Or.inl a4)))
    exact Or.inr (Or.inr (Or.inr (Or.inr ⟨a1, a2, a3, a4⟩)))
  rcases hcs with hw | hw | hw | hw | hw
  · skip
    have hl0 := kp_lt2 hw (by decide)
    rw [hw]
    refine ww_iload_n (i := 2) C dX5_readTest_12 rfl rfl 13 rfl ?_
    refine ww_ldc C cn_X5_75 dX5_readTest_13 15 rfl ?_
    refine ww_icmp_eq C 42 dX5_readTest_15 (by decide) 18 rfl (fun h_15 => ?_) (fun h_15 => ?_)
    · skip
      refine ww_iload_n (i := 2) C dX5_readTest_42 rfl rfl 43 rfl ?_
      refine ww_ldc C cn_X5_77 dX5_readTest_43 45 rfl ?_
      refine ww_icmp_ne C 52 dX5_readTest_45 (by decide) 48 rfl (fun h_45 => ?_) (fun h_45 => ?_)
      · skip
        refine ww_iconst (v := 0) C dX5_readTest_52 (by decide) 53 rfl ?_
        refine ww_istore_n (i := 3) C dX5_readTest_53 rfl (by decide) rfl 54 rfl ?_
        refine ww_aload_n (i := 0) C dX5_readTest_54 rfl rfl 55 rfl ?_
        refine ww_iload_n (i := 2) C dX5_readTest_55 rfl rfl 56 rfl ?_
        refine ww_callV1 C (c_X5_take_ok l Γ hT hnx hw) mi_X5_take im_X5_take se_X5_take ml_X5_56 dX5_readTest_56 0 rfl rfl rfl (Nat.le_of_ble_eq_true rfl) (Nat.le_of_ble_eq_true rfl) (Nat.le_of_ble_eq_true rfl) ⟨Nat.zero_le _, Nat.zero_le _⟩ [0, 1, 2, 3, 4, 5, 6] rfl (by decide) rfl 59 rfl ?_
        refine ww_eq (ws' := wRd Γ hd0 ht (nx + 1) (I) :: (wTok Γ ht t0 t1 t2 t3 t4 T u A ++ wRS Γ hr0 qw qf qs qt qn n (B))) rfl rfl rfl ?_
        refine ww_if_eq C 89 dX5_readTest_59 (by decide) 62 rfl (fun h_59 => ?_) (fun h_59 => ?_)
        · exact absurd h_59 (by decide)
        · skip
          refine ww_aload_n (i := 0) C dX5_readTest_62 rfl rfl 63 rfl ?_
          refine ww_iload_n (i := 3) C dX5_readTest_63 rfl rfl 64 rfl ?_
          refine ww_if_eq C 71 dX5_readTest_64 (by decide) 67 rfl (fun h_64 => ?_) (fun h_64 => ?_)
          · skip
            refine ww_iconst (v := 0) C dX5_readTest_71 (by decide) 72 rfl ?_
            refine ww_iload_n (i := 3) C dX5_readTest_72 rfl rfl 73 rfl ?_
            refine ww_if_eq C 81 dX5_readTest_73 (by decide) 76 rfl (fun h_73 => ?_) (fun h_73 => ?_)
            · skip
              refine ww_bipush (v := 15) C dX5_readTest_81 (by decide) 83 rfl ?_
              by_cases hg_83 : gN (kp T A) (nv T A) (nx + 1) 0 15 = 0
              · skip
                have g1 := (gN_k hg_83).1
                have hl1 := kp_lt2 g1 (by decide)
                refine ww_callV2 C (c_X5_tn_ok l Γ hT (by omega) hg_83) mi_X5_takeNumber im_X5_takeNumber se_X5_takeNumber ml_X5_67 dX5_readTest_83 0 rfl rfl rfl (Nat.le_of_ble_eq_true rfl) (Nat.le_of_ble_eq_true rfl) (Nat.le_of_ble_eq_true rfl) ⟨Nat.zero_le _, Nat.zero_le _⟩ [0, 1, 2, 3, 4, 5, 6] rfl (by decide) rfl 86 rfl ?_
                refine ww_eq (ws' := wRd Γ hd0 ht (nx + 2) (i3 (nv T A (nx + 1)) (I 1) (I 2)) :: (wTok Γ ht t0 t1 t2 t3 t4 T u A ++ wRS Γ hr0 qw qf qs qt qn n (B))) rfl rfl rfl ?_
                refine ww_if_ne C 91 dX5_readTest_86 (by decide) 89 rfl (fun h_86 => ?_) (fun h_86 => ?_)
                · skip
                  refine ww_aload_n (i := 0) C dX5_readTest_91 rfl rfl 92 rfl ?_
                  refine ww_get C fe_X5_22 dX5_readTest_92 0 rfl rfl 95 rfl ?_
                  refine ww_istore C dX5_readTest_95 (by decide) rfl 97 rfl ?_
                  refine ww_iload_n (i := 2) C dX5_readTest_97 rfl rfl 98 rfl ?_
                  refine ww_ldc C cn_X5_75 dX5_readTest_98 100 rfl ?_
                  refine ww_icmp_ne C 115 dX5_readTest_100 (by decide) 103 rfl (fun h_100 => ?_) (fun h_100 => ?_)
                  · exact absurd h_100 (by decide)
                  · skip
                    refine ww_aload_n (i := 0) C dX5_readTest_103 rfl rfl 104 rfl ?_
                    refine ww_sipush (v := 24948) C dX5_readTest_104 (by decide) 107 rfl ?_
                    by_cases hg_107 : kp T A (nx + 2) = 24948
                    · skip
                      have hl2 := kp_lt2 hg_107 (by decide)
                      refine ww_callV1 C (c_X5_take_ok l Γ hT (by omega) hg_107) mi_X5_take im_X5_take se_X5_take ml_X5_56 dX5_readTest_107 0 rfl rfl rfl (Nat.le_of_ble_eq_true rfl) (Nat.le_of_ble_eq_true rfl) (Nat.le_of_ble_eq_true rfl) ⟨Nat.zero_le _, Nat.zero_le _⟩ [0, 1, 2, 3, 4, 5, 6] rfl (by decide) rfl 110 rfl ?_
                      refine ww_eq (ws' := wRd Γ hd0 ht (nx + 3) (i3 (nv T A (nx + 1)) (I 1) (I 2)) :: (wTok Γ ht t0 t1 t2 t3 t4 T u A ++ wRS Γ hr0 qw qf qs qt qn n (B))) rfl rfl rfl ?_
                      refine ww_if_ne C 115 dX5_readTest_110 (by decide) 113 rfl (fun h_110 => ?_) (fun h_110 => ?_)
                      · skip
                        refine ww_iload_n (i := 2) C dX5_readTest_115 rfl rfl 116 rfl ?_
                        refine ww_ldc C cn_X5_75 dX5_readTest_116 118 rfl ?_
                        refine ww_icmp_eq C 127 dX5_readTest_118 (by decide) 121 rfl (fun h_118 => ?_) (fun h_118 => ?_)
                        · skip
                          refine ww_iconst (v := 1) C dX5_readTest_127 (by decide) 128 rfl ?_
                          refine ww_goto C 132 dX5_readTest_128 (by decide) ?_
                          refine ww_istore C dX5_readTest_132 (by decide) rfl 134 rfl ?_
                          refine ww_iload C dX5_readTest_134 rfl 136 rfl ?_
                          refine ww_if_eq C 151 dX5_readTest_136 (by decide) 139 rfl (fun h_136 => ?_) (fun h_136 => ?_)
                          · exact absurd h_136 (by decide)
                          · skip
                            refine ww_aload_n (i := 0) C dX5_readTest_139 rfl rfl 140 rfl ?_
                            refine ww_iconst (v := 0) C dX5_readTest_140 (by decide) 141 rfl ?_
                            refine ww_bipush (v := 15) C dX5_readTest_141 (by decide) 143 rfl ?_
                            by_cases hg_143 : gN (kp T A) (nv T A) (nx + 3) 0 15 = 0
                            · skip
                              have hl3 := kp_lt2 (gN_k hg_143).1 (by decide)
                              refine ww_callV2 C (c_X5_tn_ok l Γ hT (by omega) hg_143) mi_X5_takeNumber im_X5_takeNumber se_X5_takeNumber ml_X5_67 dX5_readTest_143 0 rfl rfl rfl (Nat.le_of_ble_eq_true rfl) (Nat.le_of_ble_eq_true rfl) (Nat.le_of_ble_eq_true rfl) ⟨Nat.zero_le _, Nat.zero_le _⟩ [0, 1, 2, 3, 4, 5, 6] rfl (by decide) rfl 146 rfl ?_
                              refine ww_eq (ws' := wRd Γ hd0 ht (nx + 4) (i3 (nv T A (nx + 3)) (I 1) (I 2)) :: (wTok Γ ht t0 t1 t2 t3 t4 T u A ++ wRS Γ hr0 qw qf qs qt qn n (B))) rfl rfl rfl ?_
                              refine ww_if_ne C 151 dX5_readTest_146 (by decide) 149 rfl (fun h_146 => ?_) (fun h_146 => ?_)
                              · skip
                                refine ww_aload_n (i := 1) C dX5_readTest_151 rfl rfl 152 rfl ?_
                                refine ww_iload_n (i := 2) C dX5_readTest_152 rfl rfl 153 rfl ?_
                                refine ww_iload C dX5_readTest_153 rfl 155 rfl ?_
                                refine ww_aload_n (i := 0) C dX5_readTest_155 rfl rfl 156 rfl ?_
                                refine ww_get C fe_X5_22 dX5_readTest_156 0 rfl rfl 159 rfl ?_
                                refine ww_callV3v C (c_X6_addTest l Γ hn h3 h4) mi_X6_addTest im_X6_addTest se_X6_addTest ml_X5_79 dX5_readTest_159 7 rfl rfl rfl (Nat.le_of_ble_eq_true rfl) (Nat.le_of_ble_eq_true rfl) (Nat.le_of_ble_eq_true rfl) ⟨Nat.zero_le _, Nat.zero_le _⟩ [7, 8, 9, 10, 11] rfl (by decide) rfl 162 rfl ?_
                                refine ww_iconst (v := 1) C dX5_readTest_162 (by decide) 163 rfl ?_
                                exact ww_zreE C hr rfl dX5_readTest_163 ((1, nx + 4, i3 (nv T A (nx + 3)) (I 1) (I 2), a5 (upd (B 0) (4 * n + t) (kp T A nx)) (upd (B 1) (4 * n + t) (nv T A (nx + 1))) (upd (B 2) (4 * n + t) (nv T A (nx + 3))) (upd (B 3) n (nI (t + 1))) (B 4))) (RtQ_ok (by rw [gT, if_pos hw, if_neg (fun q => q hg_83), if_neg (fun q => q hg_107), if_neg (fun q => q hg_143)]) (by omega) (fun _ => rfl) (fun q => absurd (hw.symm.trans q) (by decide))) rfl (by rw [hw]; rfl)
                              · exact absurd h_146 (by decide)
                            · skip
                              refine ww_callV2 C (c_X5_tn_no l Γ hT (by omega) hg_143) mi_X5_takeNumber im_X5_takeNumber se_X5_takeNumber ml_X5_67 dX5_readTest_143 0 rfl rfl rfl (Nat.le_of_ble_eq_true rfl) (Nat.le_of_ble_eq_true rfl) (Nat.le_of_ble_eq_true rfl) ⟨Nat.zero_le _, Nat.zero_le _⟩ [0, 1, 2, 3, 4, 5, 6] rfl (by decide) rfl 146 rfl ?_
                              refine ww_eq (ws' := wRd Γ hd0 ht (nx + 3) (i3 (if kp T A (nx + 3) = 1 then nv T A (nx + 3) else nv T A (nx + 1)) (gN (kp T A) (nv T A) (nx + 3) 0 15) (ps T u A (nx + 3))) :: (wTok Γ ht t0 t1 t2 t3 t4 T u A ++ wRS Γ hr0 qw qf qs qt qn n (B))) rfl rfl rfl ?_
                              refine ww_if_ne C 151 dX5_readTest_146 (by decide) 149 rfl (fun h_146 => ?_) (fun h_146 => ?_)
                              · exact absurd h_146 (by decide)
                              · skip
                                refine ww_iconst (v := 0) C dX5_readTest_149 (by decide) 150 rfl ?_
                                exact ww_zreE C hr rfl dX5_readTest_150 ((0, nx + 3, i3 (if kp T A (nx + 3) = 1 then nv T A (nx + 3) else nv T A (nx + 1)) (gN (kp T A) (nv T A) (nx + 3) 0 15) (ps T u A (nx + 3)), B)) (RtQ_no (by rw [gT, if_pos hw, if_neg (fun q => q hg_83), if_neg (fun q => q hg_107), if_pos hg_143]) hg_143) rfl rfl
                        · exact absurd h_118 (by decide)
                      · exact absurd h_110 (by decide)
                    · skip
                      refine ww_callV1 C (c_X5_take_no l Γ hT (by omega) hg_107) mi_X5_take im_X5_take se_X5_take ml_X5_56 dX5_readTest_107 0 rfl rfl rfl (Nat.le_of_ble_eq_true rfl) (Nat.le_of_ble_eq_true rfl) (Nat.le_of_ble_eq_true rfl) ⟨Nat.zero_le _, Nat.zero_le _⟩ [0, 1, 2, 3, 4, 5, 6] rfl (by decide) rfl 110 rfl ?_
                      refine ww_eq (ws' := wRd Γ hd0 ht (nx + 2) (i3 (nv T A (nx + 1)) 1 (ps T u A (nx + 2))) :: (wTok Γ ht t0 t1 t2 t3 t4 T u A ++ wRS Γ hr0 qw qf qs qt qn n (B))) rfl rfl rfl ?_
                      refine ww_if_ne C 115 dX5_readTest_110 (by decide) 113 rfl (fun h_110 => ?_) (fun h_110 => ?_)
                      · exact absurd h_110 (by decide)
                      · skip
                        refine ww_iconst (v := 0) C dX5_readTest_113 (by decide) 114 rfl ?_
                        exact ww_zreE C hr rfl dX5_readTest_114 ((0, nx + 2, i3 (nv T A (nx + 1)) 1 (ps T u A (nx + 2)), B)) (RtQ_no (by rw [gT, if_pos hw, if_neg (fun q => q hg_83), if_pos hg_107]) (by decide)) rfl rfl
                · exact absurd h_86 (by decide)
              · skip
                refine ww_callV2 C (c_X5_tn_no l Γ hT (by omega) hg_83) mi_X5_takeNumber im_X5_takeNumber se_X5_takeNumber ml_X5_67 dX5_readTest_83 0 rfl rfl rfl (Nat.le_of_ble_eq_true rfl) (Nat.le_of_ble_eq_true rfl) (Nat.le_of_ble_eq_true rfl) ⟨Nat.zero_le _, Nat.zero_le _⟩ [0, 1, 2, 3, 4, 5, 6] rfl (by decide) rfl 86 rfl ?_
                refine ww_eq (ws' := wRd Γ hd0 ht (nx + 1) (i3 (if kp T A (nx + 1) = 1 then nv T A (nx + 1) else I 0) (gN (kp T A) (nv T A) (nx + 1) 0 15) (ps T u A (nx + 1))) :: (wTok Γ ht t0 t1 t2 t3 t4 T u A ++ wRS Γ hr0 qw qf qs qt qn n (B))) rfl rfl rfl ?_
                refine ww_if_ne C 91 dX5_readTest_86 (by decide) 89 rfl (fun h_86 => ?_) (fun h_86 => ?_)
                · exact absurd h_86 (by decide)
                · skip
                  refine ww_iconst (v := 0) C dX5_readTest_89 (by decide) 90 rfl ?_
                  exact ww_zreE C hr rfl dX5_readTest_90 ((0, nx + 1, i3 (if kp T A (nx + 1) = 1 then nv T A (nx + 1) else I 0) (gN (kp T A) (nv T A) (nx + 1) 0 15) (ps T u A (nx + 1)), B)) (RtQ_no (by rw [gT, if_pos hw, if_pos hg_83]) hg_83) rfl rfl
            · exact absurd h_73 (by decide)
          · exact absurd h_64 (by decide)
      · exact absurd h_45 (by decide)
    · exact absurd h_15 (by decide)
  · skip
    have hl0 := kp_lt2 hw (by decide)
    rw [hw]
    refine ww_iload_n (i := 2) C dX5_readTest_12 rfl rfl 13 rfl ?_
    refine ww_ldc C cn_X5_75 dX5_readTest_13 15 rfl ?_
    refine ww_icmp_eq C 42 dX5_readTest_15 (by decide) 18 rfl (fun h_15 => ?_) (fun h_15 => ?_)
    · exact absurd h_15 (by decide)
    · skip
      refine ww_iload_n (i := 2) C dX5_readTest_18 rfl rfl 19 rfl ?_
      refine ww_ldc C cn_X5_76 dX5_readTest_19 21 rfl ?_
      refine ww_icmp_eq C 42 dX5_readTest_21 (by decide) 24 rfl (fun h_21 => ?_) (fun h_21 => ?_)
      · skip
        refine ww_iload_n (i := 2) C dX5_readTest_42 rfl rfl 43 rfl ?_
        refine ww_ldc C cn_X5_77 dX5_readTest_43 45 rfl ?_
        refine ww_icmp_ne C 52 dX5_readTest_45 (by decide) 48 rfl (fun h_45 => ?_) (fun h_45 => ?_)
        · skip
          refine ww_iconst (v := 0) C dX5_readTest_52 (by decide) 53 rfl ?_
          refine ww_istore_n (i := 3) C dX5_readTest_53 rfl (by decide) rfl 54 rfl ?_
          refine ww_aload_n (i := 0) C dX5_readTest_54 rfl rfl 55 rfl ?_
          refine ww_iload_n (i := 2) C dX5_readTest_55 rfl rfl 56 rfl ?_
          refine ww_callV1 C (c_X5_take_ok l Γ hT hnx hw) mi_X5_take im_X5_take se_X5_take ml_X5_56 dX5_readTest_56 0 rfl rfl rfl (Nat.le_of_ble_eq_true rfl) (Nat.le_of_ble_eq_true rfl) (Nat.le_of_ble_eq_true rfl) ⟨Nat.zero_le _, Nat.zero_le _⟩ [0, 1, 2, 3, 4, 5, 6] rfl (by decide) rfl 59 rfl ?_
          refine ww_eq (ws' := wRd Γ hd0 ht (nx + 1) (I) :: (wTok Γ ht t0 t1 t2 t3 t4 T u A ++ wRS Γ hr0 qw qf qs qt qn n (B))) rfl rfl rfl ?_
          refine ww_if_eq C 89 dX5_readTest_59 (by decide) 62 rfl (fun h_59 => ?_) (fun h_59 => ?_)
          · exact absurd h_59 (by decide)
          · skip
            refine ww_aload_n (i := 0) C dX5_readTest_62 rfl rfl 63 rfl ?_
            refine ww_iload_n (i := 3) C dX5_readTest_63 rfl rfl 64 rfl ?_
            refine ww_if_eq C 71 dX5_readTest_64 (by decide) 67 rfl (fun h_64 => ?_) (fun h_64 => ?_)
            · skip
              refine ww_iconst (v := 0) C dX5_readTest_71 (by decide) 72 rfl ?_
              refine ww_iload_n (i := 3) C dX5_readTest_72 rfl rfl 73 rfl ?_
              refine ww_if_eq C 81 dX5_readTest_73 (by decide) 76 rfl (fun h_73 => ?_) (fun h_73 => ?_)
              · skip
                refine ww_bipush (v := 15) C dX5_readTest_81 (by decide) 83 rfl ?_
                by_cases hg_83 : gN (kp T A) (nv T A) (nx + 1) 0 15 = 0
                · skip
                  have g1 := (gN_k hg_83).1
                  have hl1 := kp_lt2 g1 (by decide)
                  refine ww_callV2 C (c_X5_tn_ok l Γ hT (by omega) hg_83) mi_X5_takeNumber im_X5_takeNumber se_X5_takeNumber ml_X5_67 dX5_readTest_83 0 rfl rfl rfl (Nat.le_of_ble_eq_true rfl) (Nat.le_of_ble_eq_true rfl) (Nat.le_of_ble_eq_true rfl) ⟨Nat.zero_le _, Nat.zero_le _⟩ [0, 1, 2, 3, 4, 5, 6] rfl (by decide) rfl 86 rfl ?_
                  refine ww_eq (ws' := wRd Γ hd0 ht (nx + 2) (i3 (nv T A (nx + 1)) (I 1) (I 2)) :: (wTok Γ ht t0 t1 t2 t3 t4 T u A ++ wRS Γ hr0 qw qf qs qt qn n (B))) rfl rfl rfl ?_
                  refine ww_if_ne C 91 dX5_readTest_86 (by decide) 89 rfl (fun h_86 => ?_) (fun h_86 => ?_)
                  · skip
                    refine ww_aload_n (i := 0) C dX5_readTest_91 rfl rfl 92 rfl ?_
                    refine ww_get C fe_X5_22 dX5_readTest_92 0 rfl rfl 95 rfl ?_
                    refine ww_istore C dX5_readTest_95 (by decide) rfl 97 rfl ?_
                    refine ww_iload_n (i := 2) C dX5_readTest_97 rfl rfl 98 rfl ?_
                    refine ww_ldc C cn_X5_75 dX5_readTest_98 100 rfl ?_
                    refine ww_icmp_ne C 115 dX5_readTest_100 (by decide) 103 rfl (fun h_100 => ?_) (fun h_100 => ?_)
                    · skip
                      refine ww_iload_n (i := 2) C dX5_readTest_115 rfl rfl 116 rfl ?_
                      refine ww_ldc C cn_X5_75 dX5_readTest_116 118 rfl ?_
                      refine ww_icmp_eq C 127 dX5_readTest_118 (by decide) 121 rfl (fun h_118 => ?_) (fun h_118 => ?_)
                      · exact absurd h_118 (by decide)
                      · skip
                        refine ww_iload_n (i := 2) C dX5_readTest_121 rfl rfl 122 rfl ?_
                        refine ww_ldc C cn_X5_76 dX5_readTest_122 124 rfl ?_
                        refine ww_icmp_ne C 131 dX5_readTest_124 (by decide) 127 rfl (fun h_124 => ?_) (fun h_124 => ?_)
                        · exact absurd h_124 (by decide)
                        · skip
                          refine ww_iconst (v := 1) C dX5_readTest_127 (by decide) 128 rfl ?_
                          refine ww_goto C 132 dX5_readTest_128 (by decide) ?_
                          refine ww_istore C dX5_readTest_132 (by decide) rfl 134 rfl ?_
                          refine ww_iload C dX5_readTest_134 rfl 136 rfl ?_
                          refine ww_if_eq C 151 dX5_readTest_136 (by decide) 139 rfl (fun h_136 => ?_) (fun h_136 => ?_)
                          · exact absurd h_136 (by decide)
                          · skip
                            refine ww_aload_n (i := 0) C dX5_readTest_139 rfl rfl 140 rfl ?_
                            refine ww_iconst (v := 0) C dX5_readTest_140 (by decide) 141 rfl ?_
                            refine ww_bipush (v := 15) C dX5_readTest_141 (by decide) 143 rfl ?_
                            by_cases hg_143 : gN (kp T A) (nv T A) (nx + 2) 0 15 = 0
                            · skip
                              have hl2 := kp_lt2 (gN_k hg_143).1 (by decide)
                              refine ww_callV2 C (c_X5_tn_ok l Γ hT (by omega) hg_143) mi_X5_takeNumber im_X5_takeNumber se_X5_takeNumber ml_X5_67 dX5_readTest_143 0 rfl rfl rfl (Nat.le_of_ble_eq_true rfl) (Nat.le_of_ble_eq_true rfl) (Nat.le_of_ble_eq_true rfl) ⟨Nat.zero_le _, Nat.zero_le _⟩ [0, 1, 2, 3, 4, 5, 6] rfl (by decide) rfl 146 rfl ?_
                              refine ww_eq (ws' := wRd Γ hd0 ht (nx + 3) (i3 (nv T A (nx + 2)) (I 1) (I 2)) :: (wTok Γ ht t0 t1 t2 t3 t4 T u A ++ wRS Γ hr0 qw qf qs qt qn n (B))) rfl rfl rfl ?_
                              refine ww_if_ne C 151 dX5_readTest_146 (by decide) 149 rfl (fun h_146 => ?_) (fun h_146 => ?_)
                              · skip
                                refine ww_aload_n (i := 1) C dX5_readTest_151 rfl rfl 152 rfl ?_
                                refine ww_iload_n (i := 2) C dX5_readTest_152 rfl rfl 153 rfl ?_
                                refine ww_iload C dX5_readTest_153 rfl 155 rfl ?_
                                refine ww_aload_n (i := 0) C dX5_readTest_155 rfl rfl 156 rfl ?_
                                refine ww_get C fe_X5_22 dX5_readTest_156 0 rfl rfl 159 rfl ?_
                                refine ww_callV3v C (c_X6_addTest l Γ hn h3 h4) mi_X6_addTest im_X6_addTest se_X6_addTest ml_X5_79 dX5_readTest_159 7 rfl rfl rfl (Nat.le_of_ble_eq_true rfl) (Nat.le_of_ble_eq_true rfl) (Nat.le_of_ble_eq_true rfl) ⟨Nat.zero_le _, Nat.zero_le _⟩ [7, 8, 9, 10, 11] rfl (by decide) rfl 162 rfl ?_
                                refine ww_iconst (v := 1) C dX5_readTest_162 (by decide) 163 rfl ?_
                                exact ww_zreE C hr rfl dX5_readTest_163 ((1, nx + 3, i3 (nv T A (nx + 2)) (I 1) (I 2), a5 (upd (B 0) (4 * n + t) (kp T A nx)) (upd (B 1) (4 * n + t) (nv T A (nx + 1))) (upd (B 2) (4 * n + t) (nv T A (nx + 2))) (upd (B 3) n (nI (t + 1))) (B 4))) (RtQ_ok (by rw [gT, if_neg (fun q => absurd (hw.symm.trans q) (by decide)), if_pos hw, if_neg (fun q => q hg_83), if_neg (fun q => q hg_143)]) (by omega) (fun q => absurd (hw.symm.trans q) (by decide)) (fun _ => rfl)) rfl (by rw [hw]; rfl)
                              · exact absurd h_146 (by decide)
                            · skip
                              refine ww_callV2 C (c_X5_tn_no l Γ hT (by omega) hg_143) mi_X5_takeNumber im_X5_takeNumber se_X5_takeNumber ml_X5_67 dX5_readTest_143 0 rfl rfl rfl (Nat.le_of_ble_eq_true rfl) (Nat.le_of_ble_eq_true rfl) (Nat.le_of_ble_eq_true rfl) ⟨Nat.zero_le _, Nat.zero_le _⟩ [0, 1, 2, 3, 4, 5, 6] rfl (by decide) rfl 146 rfl ?_
                              refine ww_eq (ws' := wRd Γ hd0 ht (nx + 2) (i3 (if kp T A (nx + 2) = 1 then nv T A (nx + 2) else nv T A (nx + 1)) (gN (kp T A) (nv T A) (nx + 2) 0 15) (ps T u A (nx + 2))) :: (wTok Γ ht t0 t1 t2 t3 t4 T u A ++ wRS Γ hr0 qw qf qs qt qn n (B))) rfl rfl rfl ?_
                              refine ww_if_ne C 151 dX5_readTest_146 (by decide) 149 rfl (fun h_146 => ?_) (fun h_146 => ?_)
                              · exact absurd h_146 (by decide)
                              · skip
                                refine ww_iconst (v := 0) C dX5_readTest_149 (by decide) 150 rfl ?_
                                exact ww_zreE C hr rfl dX5_readTest_150 ((0, nx + 2, i3 (if kp T A (nx + 2) = 1 then nv T A (nx + 2) else nv T A (nx + 1)) (gN (kp T A) (nv T A) (nx + 2) 0 15) (ps T u A (nx + 2)), B)) (RtQ_no (by rw [gT, if_neg (fun q => absurd (hw.symm.trans q) (by decide)), if_pos hw, if_neg (fun q => q hg_83), if_pos hg_143]) hg_143) rfl rfl
                    · exact absurd h_100 (by decide)
                  · exact absurd h_86 (by decide)
                · skip
                  refine ww_callV2 C (c_X5_tn_no l Γ hT (by omega) hg_83) mi_X5_takeNumber im_X5_takeNumber se_X5_takeNumber ml_X5_67 dX5_readTest_83 0 rfl rfl rfl (Nat.le_of_ble_eq_true rfl) (Nat.le_of_ble_eq_true rfl) (Nat.le_of_ble_eq_true rfl) ⟨Nat.zero_le _, Nat.zero_le _⟩ [0, 1, 2, 3, 4, 5, 6] rfl (by decide) rfl 86 rfl ?_
                  refine ww_eq (ws' := wRd Γ hd0 ht (nx + 1) (i3 (if kp T A (nx + 1) = 1 then nv T A (nx + 1) else I 0) (gN (kp T A) (nv T A) (nx + 1) 0 15) (ps T u A (nx + 1))) :: (wTok Γ ht t0 t1 t2 t3 t4 T u A ++ wRS Γ hr0 qw qf qs qt qn n (B))) rfl rfl rfl ?_
                  refine ww_if_ne C 91 dX5_readTest_86 (by decide) 89 rfl (fun h_86 => ?_) (fun h_86 => ?_)
                  · exact absurd h_86 (by decide)
                  · skip
                    refine ww_iconst (v := 0) C dX5_readTest_89 (by decide) 90 rfl ?_
                    exact ww_zreE C hr rfl dX5_readTest_90 ((0, nx + 1, i3 (if kp T A (nx + 1) = 1 then nv T A (nx + 1) else I 0) (gN (kp T A) (nv T A) (nx + 1) 0 15) (ps T u A (nx + 1)), B)) (RtQ_no (by rw [gT, if_neg (fun q => absurd (hw.symm.trans q) (by decide)), if_pos hw, if_pos hg_83]) hg_83) rfl rfl
              · exact absurd h_73 (by decide)
            · exact absurd h_64 (by decide)
        · exact absurd h_45 (by decide)
      · exact absurd h_21 (by decide)
  · skip
    have hl0 := kp_lt2 hw (by decide)
    rw [hw]
    refine ww_iload_n (i := 2) C dX5_readTest_12 rfl rfl 13 rfl ?_
    refine ww_ldc C cn_X5_75 dX5_readTest_13 15 rfl ?_
    refine ww_icmp_eq C 42 dX5_readTest_15 (by decide) 18 rfl (fun h_15 => ?_) (fun h_15 => ?_)
    · exact absurd h_15 (by decide)
    · skip
      refine ww_iload_n (i := 2) C dX5_readTest_18 rfl rfl 19 rfl ?_
      refine ww_ldc C cn_X5_76 dX5_readTest_19 21 rfl ?_
      refine ww_icmp_eq C 42 dX5_readTest_21 (by decide) 24 rfl (fun h_21 => ?_) (fun h_21 => ?_)
      · exact absurd h_21 (by decide)
      · skip
        refine ww_iload_n (i := 2) C dX5_readTest_24 rfl rfl 25 rfl ?_
        refine ww_ldc C cn_X5_77 dX5_readTest_25 27 rfl ?_
        refine ww_icmp_eq C 42 dX5_readTest_27 (by decide) 30 rfl (fun h_27 => ?_) (fun h_27 => ?_)
        · skip
          refine ww_iload_n (i := 2) C dX5_readTest_42 rfl rfl 43 rfl ?_
          refine ww_ldc C cn_X5_77 dX5_readTest_43 45 rfl ?_
          refine ww_icmp_ne C 52 dX5_readTest_45 (by decide) 48 rfl (fun h_45 => ?_) (fun h_45 => ?_)
          · exact absurd h_45 (by decide)
          · skip
            refine ww_iconst (v := 1) C dX5_readTest_48 (by decide) 49 rfl ?_
            refine ww_goto C 53 dX5_readTest_49 (by decide) ?_
            refine ww_istore_n (i := 3) C dX5_readTest_53 rfl (by decide) rfl 54 rfl ?_
            refine ww_aload_n (i := 0) C dX5_readTest_54 rfl rfl 55 rfl ?_
            refine ww_iload_n (i := 2) C dX5_readTest_55 rfl rfl 56 rfl ?_
            refine ww_callV1 C (c_X5_take_ok l Γ hT hnx hw) mi_X5_take im_X5_take se_X5_take ml_X5_56 dX5_readTest_56 0 rfl rfl rfl (Nat.le_of_ble_eq_true rfl) (Nat.le_of_ble_eq_true rfl) (Nat.le_of_ble_eq_true rfl) ⟨Nat.zero_le _, Nat.zero_le _⟩ [0, 1, 2, 3, 4, 5, 6] rfl (by decide) rfl 59 rfl ?_
            refine ww_eq (ws' := wRd Γ hd0 ht (nx + 1) (I) :: (wTok Γ ht t0 t1 t2 t3 t4 T u A ++ wRS Γ hr0 qw qf qs qt qn n (B))) rfl rfl rfl ?_
            refine ww_if_eq C 89 dX5_readTest_59 (by decide) 62 rfl (fun h_59 => ?_) (fun h_59 => ?_)
            · exact absurd h_59 (by decide)
            · skip
              refine ww_aload_n (i := 0) C dX5_readTest_62 rfl rfl 63 rfl ?_
              refine ww_iload_n (i := 3) C dX5_readTest_63 rfl rfl 64 rfl ?_
              refine ww_if_eq C 71 dX5_readTest_64 (by decide) 67 rfl (fun h_64 => ?_) (fun h_64 => ?_)
              · exact absurd h_64 (by decide)
              · skip
                refine ww_iconst (v := 1) C dX5_readTest_67 (by decide) 68 rfl ?_
                refine ww_goto C 72 dX5_readTest_68 (by decide) ?_
                refine ww_iload_n (i := 3) C dX5_readTest_72 rfl rfl 73 rfl ?_
                refine ww_if_eq C 81 dX5_readTest_73 (by decide) 76 rfl (fun h_73 => ?_) (fun h_73 => ?_)
                · exact absurd h_73 (by decide)
                · skip
                  refine ww_bipush (v := 11) C dX5_readTest_76 (by decide) 78 rfl ?_
                  refine ww_goto C 83 dX5_readTest_78 (by decide) ?_
                  by_cases hg_83 : gN (kp T A) (nv T A) (nx + 1) 1 11 = 0
                  · skip
                    have g1 := (gN_k hg_83).1
                    have hl1 := kp_lt2 g1 (by decide)
                    refine ww_callV2 C (c_X5_tn_ok l Γ hT (by omega) hg_83) mi_X5_takeNumber im_X5_takeNumber se_X5_takeNumber ml_X5_67 dX5_readTest_83 0 rfl rfl rfl (Nat.le_of_ble_eq_true rfl) (Nat.le_of_ble_eq_true rfl) (Nat.le_of_ble_eq_true rfl) ⟨Nat.zero_le _, Nat.zero_le _⟩ [0, 1, 2, 3, 4, 5, 6] rfl (by decide) rfl 86 rfl ?_
                    refine ww_eq (ws' := wRd Γ hd0 ht (nx + 2) (i3 (nv T A (nx + 1)) (I 1) (I 2)) :: (wTok Γ ht t0 t1 t2 t3 t4 T u A ++ wRS Γ hr0 qw qf qs qt qn n (B))) rfl rfl rfl ?_
                    refine ww_if_ne C 91 dX5_readTest_86 (by decide) 89 rfl (fun h_86 => ?_) (fun h_86 => ?_)
                    · skip
                      refine ww_aload_n (i := 0) C dX5_readTest_91 rfl rfl 92 rfl ?_
                      refine ww_get C fe_X5_22 dX5_readTest_92 0 rfl rfl 95 rfl ?_
                      refine ww_istore C dX5_readTest_95 (by decide) rfl 97 rfl ?_
                      refine ww_iload_n (i := 2) C dX5_readTest_97 rfl rfl 98 rfl ?_
                      refine ww_ldc C cn_X5_75 dX5_readTest_98 100 rfl ?_
                      refine ww_icmp_ne C 115 dX5_readTest_100 (by decide) 103 rfl (fun h_100 => ?_) (fun h_100 => ?_)
                      · skip
                        refine ww_iload_n (i := 2) C dX5_readTest_115 rfl rfl 116 rfl ?_
                        refine ww_ldc C cn_X5_75 dX5_readTest_116 118 rfl ?_
                        refine ww_icmp_eq C 127 dX5_readTest_118 (by decide) 121 rfl (fun h_118 => ?_) (fun h_118 => ?_)
                        · exact absurd h_118 (by decide)
                        · skip
                          refine ww_iload_n (i := 2) C dX5_readTest_121 rfl rfl 122 rfl ?_
                          refine ww_ldc C cn_X5_76 dX5_readTest_122 124 rfl ?_
                          refine ww_icmp_ne C 131 dX5_readTest_124 (by decide) 127 rfl (fun h_124 => ?_) (fun h_124 => ?_)
                          · skip
                            refine ww_iconst (v := 0) C dX5_readTest_131 (by decide) 132 rfl ?_
                            refine ww_istore C dX5_readTest_132 (by decide) rfl 134 rfl ?_
                            refine ww_iload C dX5_readTest_134 rfl 136 rfl ?_
                            refine ww_if_eq C 151 dX5_readTest_136 (by decide) 139 rfl (fun h_136 => ?_) (fun h_136 => ?_)
                            · skip
                              refine ww_aload_n (i := 1) C dX5_readTest_151 rfl rfl 152 rfl ?_
                              refine ww_iload_n (i := 2) C dX5_readTest_152 rfl rfl 153 rfl ?_
                              refine ww_iload C dX5_readTest_153 rfl 155 rfl ?_
                              refine ww_aload_n (i := 0) C dX5_readTest_155 rfl rfl 156 rfl ?_
                              refine ww_get C fe_X5_22 dX5_readTest_156 0 rfl rfl 159 rfl ?_
                              refine ww_callV3v C (c_X6_addTest l Γ hn h3 h4) mi_X6_addTest im_X6_addTest se_X6_addTest ml_X5_79 dX5_readTest_159 7 rfl rfl rfl (Nat.le_of_ble_eq_true rfl) (Nat.le_of_ble_eq_true rfl) (Nat.le_of_ble_eq_true rfl) ⟨Nat.zero_le _, Nat.zero_le _⟩ [7, 8, 9, 10, 11] rfl (by decide) rfl 162 rfl ?_
                              refine ww_iconst (v := 1) C dX5_readTest_162 (by decide) 163 rfl ?_
                              exact ww_zreE C hr rfl dX5_readTest_163 ((1, nx + 2, i3 (nv T A (nx + 1)) (I 1) (I 2), a5 (upd (B 0) (4 * n + t) (kp T A nx)) (upd (B 1) (4 * n + t) (nv T A (nx + 1))) (upd (B 2) (4 * n + t) (nv T A (nx + 1))) (upd (B 3) n (nI (t + 1))) (B 4))) (RtQ_ok (by rw [gT, if_neg (fun q => absurd (hw.symm.trans q) (by decide)), if_neg (fun q => absurd (hw.symm.trans q) (by decide)), if_pos hw, if_neg (fun q => q hg_83)]) (by omega) (fun q => absurd (hw.symm.trans q) (by decide)) (fun q => absurd (hw.symm.trans q) (by decide))) rfl (by rw [hw]; rfl)
                            · exact absurd h_136 (by decide)
                          · exact absurd h_124 (by decide)
                      · exact absurd h_100 (by decide)
                    · exact absurd h_86 (by decide)
                  · skip
                    refine ww_callV2 C (c_X5_tn_no l Γ hT (by omega) hg_83) mi_X5_takeNumber im_X5_takeNumber se_X5_takeNumber ml_X5_67 dX5_readTest_83 0 rfl rfl rfl (Nat.le_of_ble_eq_true rfl) (Nat.le_of_ble_eq_true rfl) (Nat.le_of_ble_eq_true rfl) ⟨Nat.zero_le _, Nat.zero_le _⟩ [0, 1, 2, 3, 4, 5, 6] rfl (by decide) rfl 86 rfl ?_
                    refine ww_eq (ws' := wRd Γ hd0 ht (nx + 1) (i3 (if kp T A (nx + 1) = 1 then nv T A (nx + 1) else I 0) (gN (kp T A) (nv T A) (nx + 1) 1 11) (ps T u A (nx + 1))) :: (wTok Γ ht t0 t1 t2 t3 t4 T u A ++ wRS Γ hr0 qw qf qs qt qn n (B))) rfl rfl rfl ?_
                    refine ww_if_ne C 91 dX5_readTest_86 (by decide) 89 rfl (fun h_86 => ?_) (fun h_86 => ?_)
                    · exact absurd h_86 (by decide)
                    · skip
                      refine ww_iconst (v := 0) C dX5_readTest_89 (by decide) 90 rfl ?_
                      exact ww_zreE C hr rfl dX5_readTest_90 ((0, nx + 1, i3 (if kp T A (nx + 1) = 1 then nv T A (nx + 1) else I 0) (gN (kp T A) (nv T A) (nx + 1) 1 11) (ps T u A (nx + 1)), B)) (RtQ_no (by rw [gT, if_neg (fun q => absurd (hw.symm.trans q) (by decide)), if_neg (fun q => absurd (hw.symm.trans q) (by decide)), if_pos hw, if_pos hg_83]) hg_83) rfl rfl
        · exact absurd h_27 (by decide)
  · skip
    have hl0 := kp_lt2 hw (by decide)
    rw [hw]
    refine ww_iload_n (i := 2) C dX5_readTest_12 rfl rfl 13 rfl ?_
    refine ww_ldc C cn_X5_75 dX5_readTest_13 15 rfl ?_
    refine ww_icmp_eq C 42 dX5_readTest_15 (by decide) 18 rfl (fun h_15 => ?_) (fun h_15 => ?_)
    · exact absurd h_15 (by decide)
    · skip
      refine ww_iload_n (i := 2) C dX5_readTest_18 rfl rfl 19 rfl ?_
      refine ww_ldc C cn_X5_76 dX5_readTest_19 21 rfl ?_
      refine ww_icmp_eq C 42 dX5_readTest_21 (by decide) 24 rfl (fun h_21 => ?_) (fun h_21 => ?_)
      · exact absurd h_21 (by decide)
      · skip
        refine ww_iload_n (i := 2) C dX5_readTest_24 rfl rfl 25 rfl ?_
        refine ww_ldc C cn_X5_77 dX5_readTest_25 27 rfl ?_
        refine ww_icmp_eq C 42 dX5_readTest_27 (by decide) 30 rfl (fun h_27 => ?_) (fun h_27 => ?_)
        · exact absurd h_27 (by decide)
        · skip
          refine ww_iload_n (i := 2) C dX5_readTest_30 rfl rfl 31 rfl ?_
          refine ww_ldc C cn_X5_78 dX5_readTest_31 33 rfl ?_
          refine ww_icmp_eq C 42 dX5_readTest_33 (by decide) 36 rfl (fun h_33 => ?_) (fun h_33 => ?_)
          · skip
            refine ww_iload_n (i := 2) C dX5_readTest_42 rfl rfl 43 rfl ?_
            refine ww_ldc C cn_X5_77 dX5_readTest_43 45 rfl ?_
            refine ww_icmp_ne C 52 dX5_readTest_45 (by decide) 48 rfl (fun h_45 => ?_) (fun h_45 => ?_)
            · skip
              refine ww_iconst (v := 0) C dX5_readTest_52 (by decide) 53 rfl ?_
              refine ww_istore_n (i := 3) C dX5_readTest_53 rfl (by decide) rfl 54 rfl ?_
              refine ww_aload_n (i := 0) C dX5_readTest_54 rfl rfl 55 rfl ?_
              refine ww_iload_n (i := 2) C dX5_readTest_55 rfl rfl 56 rfl ?_
              refine ww_callV1 C (c_X5_take_ok l Γ hT hnx hw) mi_X5_take im_X5_take se_X5_take ml_X5_56 dX5_readTest_56 0 rfl rfl rfl (Nat.le_of_ble_eq_true rfl) (Nat.le_of_ble_eq_true rfl) (Nat.le_of_ble_eq_true rfl) ⟨Nat.zero_le _, Nat.zero_le _⟩ [0, 1, 2, 3, 4, 5, 6] rfl (by decide) rfl 59 rfl ?_
              refine ww_eq (ws' := wRd Γ hd0 ht (nx + 1) (I) :: (wTok Γ ht t0 t1 t2 t3 t4 T u A ++ wRS Γ hr0 qw qf qs qt qn n (B))) rfl rfl rfl ?_
              refine ww_if_eq C 89 dX5_readTest_59 (by decide) 62 rfl (fun h_59 => ?_) (fun h_59 => ?_)
              · exact absurd h_59 (by decide)
              · skip
                refine ww_aload_n (i := 0) C dX5_readTest_62 rfl rfl 63 rfl ?_
                refine ww_iload_n (i := 3) C dX5_readTest_63 rfl rfl 64 rfl ?_
                refine ww_if_eq C 71 dX5_readTest_64 (by decide) 67 rfl (fun h_64 => ?_) (fun h_64 => ?_)
                · skip
                  refine ww_iconst (v := 0) C dX5_readTest_71 (by decide) 72 rfl ?_
                  refine ww_iload_n (i := 3) C dX5_readTest_72 rfl rfl 73 rfl ?_
                  refine ww_if_eq C 81 dX5_readTest_73 (by decide) 76 rfl (fun h_73 => ?_) (fun h_73 => ?_)
                  · skip
                    refine ww_bipush (v := 15) C dX5_readTest_81 (by decide) 83 rfl ?_
                    by_cases hg_83 : gN (kp T A) (nv T A) (nx + 1) 0 15 = 0
                    · skip
                      have g1 := (gN_k hg_83).1
                      have hl1 := kp_lt2 g1 (by decide)
                      refine ww_callV2 C (c_X5_tn_ok l Γ hT (by omega) hg_83) mi_X5_takeNumber im_X5_takeNumber se_X5_takeNumber ml_X5_67 dX5_readTest_83 0 rfl rfl rfl (Nat.le_of_ble_eq_true rfl) (Nat.le_of_ble_eq_true rfl) (Nat.le_of_ble_eq_true rfl) ⟨Nat.zero_le _, Nat.zero_le _⟩ [0, 1, 2, 3, 4, 5, 6] rfl (by decide) rfl 86 rfl ?_
                      refine ww_eq (ws' := wRd Γ hd0 ht (nx + 2) (i3 (nv T A (nx + 1)) (I 1) (I 2)) :: (wTok Γ ht t0 t1 t2 t3 t4 T u A ++ wRS Γ hr0 qw qf qs qt qn n (B))) rfl rfl rfl ?_
                      refine ww_if_ne C 91 dX5_readTest_86 (by decide) 89 rfl (fun h_86 => ?_) (fun h_86 => ?_)
                      · skip
                        refine ww_aload_n (i := 0) C dX5_readTest_91 rfl rfl 92 rfl ?_
                        refine ww_get C fe_X5_22 dX5_readTest_92 0 rfl rfl 95 rfl ?_
                        refine ww_istore C dX5_readTest_95 (by decide) rfl 97 rfl ?_
                        refine ww_iload_n (i := 2) C dX5_readTest_97 rfl rfl 98 rfl ?_
                        refine ww_ldc C cn_X5_75 dX5_readTest_98 100 rfl ?_
                        refine ww_icmp_ne C 115 dX5_readTest_100 (by decide) 103 rfl (fun h_100 => ?_) (fun h_100 => ?_)
                        · skip
                          refine ww_iload_n (i := 2) C dX5_readTest_115 rfl rfl 116 rfl ?_
                          refine ww_ldc C cn_X5_75 dX5_readTest_116 118 rfl ?_
                          refine ww_icmp_eq C 127 dX5_readTest_118 (by decide) 121 rfl (fun h_118 => ?_) (fun h_118 => ?_)
                          · exact absurd h_118 (by decide)
                          · skip
                            refine ww_iload_n (i := 2) C dX5_readTest_121 rfl rfl 122 rfl ?_
                            refine ww_ldc C cn_X5_76 dX5_readTest_122 124 rfl ?_
                            refine ww_icmp_ne C 131 dX5_readTest_124 (by decide) 127 rfl (fun h_124 => ?_) (fun h_124 => ?_)
                            · skip
                              refine ww_iconst (v := 0) C dX5_readTest_131 (by decide) 132 rfl ?_
                              refine ww_istore C dX5_readTest_132 (by decide) rfl 134 rfl ?_
                              refine ww_iload C dX5_readTest_134 rfl 136 rfl ?_
                              refine ww_if_eq C 151 dX5_readTest_136 (by decide) 139 rfl (fun h_136 => ?_) (fun h_136 => ?_)
                              · skip
                                refine ww_aload_n (i := 1) C dX5_readTest_151 rfl rfl 152 rfl ?_
                                refine ww_iload_n (i := 2) C dX5_readTest_152 rfl rfl 153 rfl ?_
                                refine ww_iload C dX5_readTest_153 rfl 155 rfl ?_
                                refine ww_aload_n (i := 0) C dX5_readTest_155 rfl rfl 156 rfl ?_
                                refine ww_get C fe_X5_22 dX5_readTest_156 0 rfl rfl 159 rfl ?_
                                refine ww_callV3v C (c_X6_addTest l Γ hn h3 h4) mi_X6_addTest im_X6_addTest se_X6_addTest ml_X5_79 dX5_readTest_159 7 rfl rfl rfl (Nat.le_of_ble_eq_true rfl) (Nat.le_of_ble_eq_true rfl) (Nat.le_of_ble_eq_true rfl) ⟨Nat.zero_le _, Nat.zero_le _⟩ [7, 8, 9, 10, 11] rfl (by decide) rfl 162 rfl ?_
                                refine ww_iconst (v := 1) C dX5_readTest_162 (by decide) 163 rfl ?_
                                exact ww_zreE C hr rfl dX5_readTest_163 ((1, nx + 2, i3 (nv T A (nx + 1)) (I 1) (I 2), a5 (upd (B 0) (4 * n + t) (kp T A nx)) (upd (B 1) (4 * n + t) (nv T A (nx + 1))) (upd (B 2) (4 * n + t) (nv T A (nx + 1))) (upd (B 3) n (nI (t + 1))) (B 4))) (RtQ_ok (by rw [gT, if_neg (fun q => absurd (hw.symm.trans q) (by decide)), if_neg (fun q => absurd (hw.symm.trans q) (by decide)), if_neg (fun q => absurd (hw.symm.trans q) (by decide)), if_pos hw, if_neg (fun q => q hg_83)]) (by omega) (fun q => absurd (hw.symm.trans q) (by decide)) (fun q => absurd (hw.symm.trans q) (by decide))) rfl (by rw [hw]; rfl)
                              · exact absurd h_136 (by decide)
                            · exact absurd h_124 (by decide)
                        · exact absurd h_100 (by decide)
                      · exact absurd h_86 (by decide)
                    · skip
                      refine ww_callV2 C (c_X5_tn_no l Γ hT (by omega) hg_83) mi_X5_takeNumber im_X5_takeNumber se_X5_takeNumber ml_X5_67 dX5_readTest_83 0 rfl rfl rfl (Nat.le_of_ble_eq_true rfl) (Nat.le_of_ble_eq_true rfl) (Nat.le_of_ble_eq_true rfl) ⟨Nat.zero_le _, Nat.zero_le _⟩ [0, 1, 2, 3, 4, 5, 6] rfl (by decide) rfl 86 rfl ?_
                      refine ww_eq (ws' := wRd Γ hd0 ht (nx + 1) (i3 (if kp T A (nx + 1) = 1 then nv T A (nx + 1) else I 0) (gN (kp T A) (nv T A) (nx + 1) 0 15) (ps T u A (nx + 1))) :: (wTok Γ ht t0 t1 t2 t3 t4 T u A ++ wRS Γ hr0 qw qf qs qt qn n (B))) rfl rfl rfl ?_
                      refine ww_if_ne C 91 dX5_readTest_86 (by decide) 89 rfl (fun h_86 => ?_) (fun h_86 => ?_)
                      · exact absurd h_86 (by decide)
                      · skip
                        refine ww_iconst (v := 0) C dX5_readTest_89 (by decide) 90 rfl ?_
                        exact ww_zreE C hr rfl dX5_readTest_90 ((0, nx + 1, i3 (if kp T A (nx + 1) = 1 then nv T A (nx + 1) else I 0) (gN (kp T A) (nv T A) (nx + 1) 0 15) (ps T u A (nx + 1)), B)) (RtQ_no (by rw [gT, if_neg (fun q => absurd (hw.symm.trans q) (by decide)), if_neg (fun q => absurd (hw.symm.trans q) (by decide)), if_neg (fun q => absurd (hw.symm.trans q) (by decide)), if_pos hw, if_pos hg_83]) hg_83) rfl rfl
                  · exact absurd h_73 (by decide)
                · exact absurd h_64 (by decide)
            · exact absurd h_45 (by decide)
          · exact absurd h_33 (by decide)
  · skip
    refine ww_iload_n (i := 2) C dX5_readTest_12 rfl rfl 13 rfl ?_
    refine ww_ldc C cn_X5_75 dX5_readTest_13 15 rfl ?_
    refine ww_icmp_eq C 42 dX5_readTest_15 (by decide) 18 rfl (fun h_15 => ?_) (fun h_15 => ?_)
    · exact absurd h_15 hw.1
    · skip
      refine ww_iload_n (i := 2) C dX5_readTest_18 rfl rfl 19 rfl ?_
      refine ww_ldc C cn_X5_76 dX5_readTest_19 21 rfl ?_
      refine ww_icmp_eq C 42 dX5_readTest_21 (by decide) 24 rfl (fun h_21 => ?_) (fun h_21 => ?_)
      · exact absurd h_21 hw.2.1
      · skip
        refine ww_iload_n (i := 2) C dX5_readTest_24 rfl rfl 25 rfl ?_
        refine ww_ldc C cn_X5_77 dX5_readTest_25 27 rfl ?_
        refine ww_icmp_eq C 42 dX5_readTest_27 (by decide) 30 rfl (fun h_27 => ?_) (fun h_27 => ?_)
        · exact absurd h_27 hw.2.2.1
        · skip
          refine ww_iload_n (i := 2) C dX5_readTest_30 rfl rfl 31 rfl ?_
          refine ww_ldc C cn_X5_78 dX5_readTest_31 33 rfl ?_
          refine ww_icmp_eq C 42 dX5_readTest_33 (by decide) 36 rfl (fun h_33 => ?_) (fun h_33 => ?_)
          · exact absurd h_33 hw.2.2.2
          · skip
            refine ww_aload_n (i := 0) C dX5_readTest_36 rfl rfl 37 rfl ?_
            refine ww_iconst (v := 1) C dX5_readTest_37 (by decide) 38 rfl ?_
            refine ww_callV1 C (c_X5_faultHere l Γ hT hnx) mi_X5_faultHere im_X5_faultHere se_X5_faultHere ml_X5_52 dX5_readTest_38 0 rfl rfl rfl (Nat.le_of_ble_eq_true rfl) (Nat.le_of_ble_eq_true rfl) (Nat.le_of_ble_eq_true rfl) ⟨Nat.zero_le _, Nat.zero_le _⟩ [0, 1, 2, 3, 4, 5, 6] rfl (by decide) rfl 41 rfl ?_
            exact ww_zreE C hr rfl dX5_readTest_41 ((0, nx, i3 (I 0) 1 (ps T u A nx), B)) (RtQ_no (by rw [gT, if_neg hw.1, if_neg hw.2.1, if_neg hw.2.2.1, if_neg hw.2.2.2]) (by decide)) rfl rfl
