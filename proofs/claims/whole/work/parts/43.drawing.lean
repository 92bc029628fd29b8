theorem ww_cutT {p : Program} {l : Launch} {e : Env} {R : Room} {s : State} {m : MethodId} {args : Array Value} {below : List Frame} {meth : Method} {c : Code} {cells slots : Nat} {Q : State → Prop} {Γ : Gm} {A : Nat → Prop} {nL : Nat} {ws : va_W} {pc : Nat} {lv : List (Option Value)} {st : List Value} (pcJ : Nat) (stJ : List Value) (kj : WW p l e R s m args below meth c cells slots Q Γ A nL ws pcJ lv stJ) (kb : WW p l e R s m args below meth c cells slots Q Γ A nL ws pcJ lv stJ → WW p l e R s m args below meth c cells slots Q Γ A nL ws pc lv st) : WW p l e R s m args below meth c cells slots Q Γ A nL ws pc lv st := kb kj
abbrev m_ne (f : Nat → Int32) (a n k : Nat) : Prop := ¬ f (a + k) < 0 ∧ ¬ f (a + k) = nI (fg n k)
def m_st (f : Nat → Int32) (a n : Nat) : Nat → Int32
  | 0 => 0
  | m + 1 => if m_ne f a n (15 - m) then m_st f a n m + s_sg (f (a + (15 - m)) ^^^ nI (fg n (15 - m))) else m_st f a n m
def m_mt (f : Nat → Int32) (a n : Nat) : Nat → Int32
  | 0 => 16
  | m + 1 => if m_ne f a n (15 - m) then nI (15 - m) else m_mt f a n m
abbrev Md : Type := Int32 × Int32 × Int32 × Int32 × Int32
def m_dst (d : Md) (c : Nat) (S M : Int32) : Md := (d.1 + (if S = 0 then 1 else 0), if S = 0 ∧ d.2.1 = -1000000 then nI c else d.2.1, if S < d.2.2.1 then S else d.2.2.1, if S < d.2.2.1 then nI c else d.2.2.2.1, if d.2.2.2.2 < M then M else d.2.2.2.2)
def m_dr (f : Nat → Int32) (a : Nat) : Nat → Md
  | 0 => (0, -1000000, 100, -1000000, -1)
  | c + 1 => m_dst (m_dr f a c) c (m_st f a c 16) (m_mt f a c 16)
def m_dan (d : Md) (x : Int32) : Int32 := if x = 0 then d.1 else if x = 1 then d.2.1 else if x = 2 then d.2.2.1 else if x = 3 then d.2.2.2.1 else if d.2.2.2.2 = 16 then -1000000 else d.2.2.2.2
theorem c_X11_draw_bad (l : Launch) (Γ : Gm) {hm : Nat} {q : Nat → Nat} {I : Nat → Int32} {s9 a k9 : Int32} (hb : (s9 < 0 ∨ 7 < s9) ∨ k9 < 0 ∨ ¬ k9 ≤ 4) : Ct l Γ yX11_drawing cX11_drawing 14 (some .int) 4 [.ref hm, .int s9, .int a, .int k9] ([wMo hm q (I)]) (some (.int (-1000001))) ([wMo hm q (upd I 0 (0))]) := by
  refine Ct.of mi_X11_drawing [some (.ref hm), some (.int s9), some (.int a), some (.int k9), none, none, none, none, none, none, none, none, none, none] 10 rfl (Nat.le_of_ble_eq_true rfl) ?_
  intro p e s m args below meth c C hr
  refine ww_aload_n (i := 0) C dX11_drawing_0 rfl rfl 1 rfl ?_
  refine ww_iconst (v := 0) C dX11_drawing_1 (by decide) 2 rfl ?_
  refine ww_mput_0 C fe_X11_52 dX11_drawing_2 5 rfl ?_
  refine ww_iload_n (i := 1) C dX11_drawing_5 rfl rfl 6 rfl ?_
  refine ww_callS1p C (c_X11_isSheet l Γ) mi_X11_isSheet st_X11_isSheet ml_X11_66 dX11_drawing_6 (Nat.le_of_ble_eq_true rfl) (Nat.le_of_ble_eq_true rfl) (Nat.le_of_ble_eq_true rfl) ⟨Nat.zero_le _, Nat.zero_le _⟩ [] rfl (by decide) 9 rfl ?_
  refine ww_if_eq C 24 dX11_drawing_9 (by decide) 12 rfl (fun h_9 => ?_) (fun h_9 => ?_)
  · skip
    refine ww_ldc C cn_X11_72 dX11_drawing_24 26 rfl ?_
    exact ww_iret C hr dX11_drawing_26 rfl rfl
  · skip
    refine ww_iload_n (i := 3) C dX11_drawing_12 rfl rfl 13 rfl ?_
    refine ww_i2l C dX11_drawing_13 14 rfl ?_
    refine ww_lconst (v := 0) C dX11_drawing_14 (by decide) 15 rfl ?_
    refine ww_ldc2 C cn_X11_96 dX11_drawing_15 18 rfl ?_
    refine ww_callS3p C (c_X11_in l Γ) mi_X11_in st_X11_in ml_X11_62 dX11_drawing_18 (Nat.le_of_ble_eq_true rfl) (Nat.le_of_ble_eq_true rfl) (Nat.le_of_ble_eq_true rfl) ⟨Nat.zero_le _, Nat.zero_le _⟩ [] rfl (by decide) 21 rfl ?_
    refine ww_if_ne C 27 dX11_drawing_21 (by decide) 24 rfl (fun h_21 => ?_) (fun h_21 => ?_)
    · exact absurd hb (fun q => q.elim (fun z => z.elim (bI_n0 h_9).1 (bI_n0 h_9).2) (fun z => z.elim (fun y => (bI_n0 h_21).1 ((i64_lt (x := k9) (y := 0)).mpr y)) (fun y => (bI_n0 h_21).2 ((i64_lt (x := 4) (y := k9)).mpr (Int32.not_le.mp y)))))
    · skip
      refine ww_ldc C cn_X11_72 dX11_drawing_24 26 rfl ?_
      exact ww_iret C hr dX11_drawing_26 rfl rfl
theorem c_X11_draw_null (l : Launch) (Γ : Gm) {hm : Nat} {q : Nat → Nat} {I : Nat → Int32} {j : Nat} {a k9 : Int32} {ln : Nat → Int32} (hj : j < 8) (hk : ¬ k9 < 0 ∧ k9 ≤ 4) (hl : ln j < 0) : Ct l Γ yX11_drawing cX11_drawing 14 (some .int) 4 [.ref hm, .int (nI j), .int a, .int k9] ([wMo hm q (I), (q 2, .inl (Γ.2.1, 8, .inl (ln)))]) (some (.int (-1000011))) ([wMo hm q (upd (upd I 0 (0)) 1 (1)), (q 2, .inl (Γ.2.1, 8, .inl (ln)))]) := by
  refine Ct.of mi_X11_drawing [some (.ref hm), some (.int (nI j)), some (.int a), some (.int k9), none, none, none, none, none, none, none, none, none, none] 10 rfl (Nat.le_of_ble_eq_true rfl) ?_
  intro p e s m args below meth c C hr
  have ej : (nI j).toNatClampNeg = j := nI_clamp (by omega)
  refine ww_aload_n (i := 0) C dX11_drawing_0 rfl rfl 1 rfl ?_
  refine ww_iconst (v := 0) C dX11_drawing_1 (by decide) 2 rfl ?_
  refine ww_mput_0 C fe_X11_52 dX11_drawing_2 5 rfl ?_
  refine ww_iload_n (i := 1) C dX11_drawing_5 rfl rfl 6 rfl ?_
  refine ww_callS1p C (c_X11_isSheet l Γ) mi_X11_isSheet st_X11_isSheet ml_X11_66 dX11_drawing_6 (Nat.le_of_ble_eq_true rfl) (Nat.le_of_ble_eq_true rfl) (Nat.le_of_ble_eq_true rfl) ⟨Nat.zero_le _, Nat.zero_le _⟩ [] rfl (by decide) 9 rfl ?_
  refine ww_if_eq C 24 dX11_drawing_9 (by decide) 12 rfl (fun h_9 => ?_) (fun h_9 => ?_)
  · exact absurd (⟨nI_pos (by omega), nI_nlt (a := 7) (by omega) (by decide)⟩ : ¬ nI j < 0 ∧ ¬ nI 7 < nI j) (bI_e0 h_9)
  · skip
    refine ww_iload_n (i := 3) C dX11_drawing_12 rfl rfl 13 rfl ?_
    refine ww_i2l C dX11_drawing_13 14 rfl ?_
    refine ww_lconst (v := 0) C dX11_drawing_14 (by decide) 15 rfl ?_
    refine ww_ldc2 C cn_X11_96 dX11_drawing_15 18 rfl ?_
    refine ww_callS3p C (c_X11_in l Γ) mi_X11_in st_X11_in ml_X11_62 dX11_drawing_18 (Nat.le_of_ble_eq_true rfl) (Nat.le_of_ble_eq_true rfl) (Nat.le_of_ble_eq_true rfl) ⟨Nat.zero_le _, Nat.zero_le _⟩ [] rfl (by decide) 21 rfl ?_
    refine ww_if_ne C 27 dX11_drawing_21 (by decide) 24 rfl (fun h_21 => ?_) (fun h_21 => ?_)
    · skip
      refine ww_aload_n (i := 0) C dX11_drawing_27 rfl rfl 28 rfl ?_
      refine ww_get C fe_X11_7 dX11_drawing_28 0 rfl rfl 31 rfl ?_
      refine ww_iload_n (i := 1) C dX11_drawing_31 rfl rfl 32 rfl ?_
      refine ww_iald C dX11_drawing_32 1 rfl (vp_in_nI hj (by decide)) 33 rfl ?_
      rw [ej]
      refine ww_if_ge C 42 dX11_drawing_33 (by decide) 36 rfl (fun h_33 => ?_) (fun h_33 => ?_)
      · exact absurd h_33 (Int32.not_le.mpr hl)
      · skip
        refine ww_aload_n (i := 0) C dX11_drawing_36 rfl rfl 37 rfl ?_
        refine ww_iconst (v := 1) C dX11_drawing_37 (by decide) 38 rfl ?_
        refine ww_callV1 C (c_X11_found l Γ) mi_X11_found im_X11_found se_X11_found ml_X11_73 dX11_drawing_38 0 rfl rfl rfl (Nat.le_of_ble_eq_true rfl) (Nat.le_of_ble_eq_true rfl) (Nat.le_of_ble_eq_true rfl) ⟨Nat.zero_le _, Nat.zero_le _⟩ [0] rfl (by decide) rfl 41 rfl ?_
        exact ww_iret C hr dX11_drawing_41 rfl rfl
    · exact absurd (show ¬ k9.toInt64 < (0 : Int64) ∧ ¬ (4 : Int64) < k9.toInt64 from ⟨fun w => hk.1 ((i64_lt (x := k9) (y := 0)).mp w), fun w => absurd hk.2 (Int32.not_le.mpr ((i64_lt (x := 4) (y := k9)).mp w))⟩) (bI_e0 h_21)
theorem c_X11_draw_place (l : Launch) (Γ : Gm) {hm : Nat} {q : Nat → Nat} {I : Nat → Int32} {j sz : Nat} {a k9 : Int32} {ln mn : Nat → Int32} (hj : j < 8) (hk : ¬ k9 < 0 ∧ k9 ≤ 4) (hl : ¬ ln j < 0) (hm9 : mn j = nI sz) (hs : sz ≤ 60) (ha : ¬ ∃ k, k + 16 ≤ sz ∧ a = nI k) : Ct l Γ yX11_drawing cX11_drawing 14 (some .int) 4 [.ref hm, .int (nI j), .int a, .int k9] ([wMo hm q (I), (q 2, .inl (Γ.2.1, 8, .inl (ln))), (q 3, .inl (Γ.2.1, 8, .inl (mn)))]) (some (.int (-1000012))) ([wMo hm q (upd (upd I 0 (0)) 1 (2)), (q 2, .inl (Γ.2.1, 8, .inl (ln))), (q 3, .inl (Γ.2.1, 8, .inl (mn)))]) := by
  refine Ct.of mi_X11_drawing [some (.ref hm), some (.int (nI j)), some (.int a), some (.int k9), none, none, none, none, none, none, none, none, none, none] 10 rfl (Nat.le_of_ble_eq_true rfl) ?_
  intro p e s m args below meth c C hr
  have ej : (nI j).toNatClampNeg = j := nI_clamp (by omega)
  refine ww_aload_n (i := 0) C dX11_drawing_0 rfl rfl 1 rfl ?_
  refine ww_iconst (v := 0) C dX11_drawing_1 (by decide) 2 rfl ?_
  refine ww_mput_0 C fe_X11_52 dX11_drawing_2 5 rfl ?_
  refine ww_iload_n (i := 1) C dX11_drawing_5 rfl rfl 6 rfl ?_
  refine ww_callS1p C (c_X11_isSheet l Γ) mi_X11_isSheet st_X11_isSheet ml_X11_66 dX11_drawing_6 (Nat.le_of_ble_eq_true rfl) (Nat.le_of_ble_eq_true rfl) (Nat.le_of_ble_eq_true rfl) ⟨Nat.zero_le _, Nat.zero_le _⟩ [] rfl (by decide) 9 rfl ?_
  refine ww_if_eq C 24 dX11_drawing_9 (by decide) 12 rfl (fun h_9 => ?_) (fun h_9 => ?_)
  · exact absurd (⟨nI_pos (by omega), nI_nlt (a := 7) (by omega) (by decide)⟩ : ¬ nI j < 0 ∧ ¬ nI 7 < nI j) (bI_e0 h_9)
  · skip
    refine ww_iload_n (i := 3) C dX11_drawing_12 rfl rfl 13 rfl ?_
    refine ww_i2l C dX11_drawing_13 14 rfl ?_
    refine ww_lconst (v := 0) C dX11_drawing_14 (by decide) 15 rfl ?_
    refine ww_ldc2 C cn_X11_96 dX11_drawing_15 18 rfl ?_
    refine ww_callS3p C (c_X11_in l Γ) mi_X11_in st_X11_in ml_X11_62 dX11_drawing_18 (Nat.le_of_ble_eq_true rfl) (Nat.le_of_ble_eq_true rfl) (Nat.le_of_ble_eq_true rfl) ⟨Nat.zero_le _, Nat.zero_le _⟩ [] rfl (by decide) 21 rfl ?_
    refine ww_if_ne C 27 dX11_drawing_21 (by decide) 24 rfl (fun h_21 => ?_) (fun h_21 => ?_)
    · skip
      refine ww_aload_n (i := 0) C dX11_drawing_27 rfl rfl 28 rfl ?_
      refine ww_get C fe_X11_7 dX11_drawing_28 0 rfl rfl 31 rfl ?_
      refine ww_iload_n (i := 1) C dX11_drawing_31 rfl rfl 32 rfl ?_
      refine ww_iald C dX11_drawing_32 1 rfl (vp_in_nI hj (by decide)) 33 rfl ?_
      rw [ej]
      refine ww_if_ge C 42 dX11_drawing_33 (by decide) 36 rfl (fun h_33 => ?_) (fun h_33 => ?_)
      · skip
        refine ww_iload_n (i := 2) C dX11_drawing_42 rfl rfl 43 rfl ?_
        refine ww_if_lt C 63 dX11_drawing_43 (by decide) 46 rfl (fun h_43 => ?_) (fun h_43 => ?_)
        · skip
          refine ww_aload_n (i := 0) C dX11_drawing_63 rfl rfl 64 rfl ?_
          refine ww_iconst (v := 2) C dX11_drawing_64 (by decide) 65 rfl ?_
          refine ww_callV1 C (c_X11_found l Γ) mi_X11_found im_X11_found se_X11_found ml_X11_73 dX11_drawing_65 0 rfl rfl rfl (Nat.le_of_ble_eq_true rfl) (Nat.le_of_ble_eq_true rfl) (Nat.le_of_ble_eq_true rfl) ⟨Nat.zero_le _, Nat.zero_le _⟩ [0] rfl (by decide) rfl 68 rfl ?_
          exact ww_iret C hr dX11_drawing_68 rfl rfl
        · skip
          refine ww_iload_n (i := 2) C dX11_drawing_46 rfl rfl 47 rfl ?_
          refine ww_i2l C dX11_drawing_47 48 rfl ?_
          refine ww_ldc2 C cn_X11_79 dX11_drawing_48 51 rfl ?_
          refine ww_ladd C dX11_drawing_51 52 rfl ?_
          refine ww_aload_n (i := 0) C dX11_drawing_52 rfl rfl 53 rfl ?_
          refine ww_get C fe_X11_13 dX11_drawing_53 0 rfl rfl 56 rfl ?_
          refine ww_iload_n (i := 1) C dX11_drawing_56 rfl rfl 57 rfl ?_
          refine ww_iald C dX11_drawing_57 2 rfl (vp_in_nI hj (by decide)) 58 rfl ?_
          rw [ej, hm9]
          refine ww_i2l C dX11_drawing_58 59 rfl ?_
          refine ww_lcmp C dX11_drawing_59 60 rfl ?_
          refine ww_if_le C 69 dX11_drawing_60 (by decide) 63 rfl (fun h_60 => ?_) (fun h_60 => ?_)
          · exact absurd h_60 ((l16_iff hs h_43).mpr ha)
          · skip
            refine ww_aload_n (i := 0) C dX11_drawing_63 rfl rfl 64 rfl ?_
            refine ww_iconst (v := 2) C dX11_drawing_64 (by decide) 65 rfl ?_
            refine ww_callV1 C (c_X11_found l Γ) mi_X11_found im_X11_found se_X11_found ml_X11_73 dX11_drawing_65 0 rfl rfl rfl (Nat.le_of_ble_eq_true rfl) (Nat.le_of_ble_eq_true rfl) (Nat.le_of_ble_eq_true rfl) ⟨Nat.zero_le _, Nat.zero_le _⟩ [0] rfl (by decide) rfl 68 rfl ?_
            exact ww_iret C hr dX11_drawing_68 rfl rfl
      · exact absurd (Int32.not_lt.mp hl) h_33
    · exact absurd (show ¬ k9.toInt64 < (0 : Int64) ∧ ¬ (4 : Int64) < k9.toInt64 from ⟨fun w => hk.1 ((i64_lt (x := k9) (y := 0)).mp w), fun w => absurd hk.2 (Int32.not_le.mpr ((i64_lt (x := 4) (y := k9)).mp w))⟩) (bI_e0 h_21)
theorem c_X11_draw_neg (l : Launch) (Γ : Gm) {hm : Nat} {q : Nat → Nat} {I : Nat → Int32} {j sz a : Nat} {k9 : Int32} {ln mn it : Nat → Int32} (hj : j < 8) (hk : ¬ k9 < 0 ∧ k9 ≤ 4) (hl : ¬ ln j < 0) (hm9 : mn j = nI sz) (hs : sz ≤ 60) (ha : a + 16 ≤ sz) (hw : ¬ s_within (s_off it j) a (-1) 15 16) : Ct l Γ yX11_drawing cX11_drawing 14 (some .int) 4 [.ref hm, .int (nI j), .int (nI a), .int k9] ([wMo hm q (I), (q 2, .inl (Γ.2.1, 8, .inl (ln))), (q 3, .inl (Γ.2.1, 8, .inl (mn))), (q 4, .inl (Γ.2.1, 480, .inl (it)))]) (some (.int (-1000001))) ([wMo hm q (upd I 0 (0)), (q 2, .inl (Γ.2.1, 8, .inl (ln))), (q 3, .inl (Γ.2.1, 8, .inl (mn))), (q 4, .inl (Γ.2.1, 480, .inl (it)))]) := by
  refine Ct.of mi_X11_drawing [some (.ref hm), some (.int (nI j)), some (.int (nI a)), some (.int k9), none, none, none, none, none, none, none, none, none, none] 10 rfl (Nat.le_of_ble_eq_true rfl) ?_
  intro p e s m args below meth c C hr
  have ej : (nI j).toNatClampNeg = j := nI_clamp (by omega)
  have e60 : ∀ a : Nat, (60 : Int32) * nI j + nI a = nI (60 * j + a) := fun a => by rw [show (60 : Int32) = nI 60 from rfl, pk_mul, nI_add]
  refine ww_aload_n (i := 0) C dX11_drawing_0 rfl rfl 1 rfl ?_
  refine ww_iconst (v := 0) C dX11_drawing_1 (by decide) 2 rfl ?_
  refine ww_mput_0 C fe_X11_52 dX11_drawing_2 5 rfl ?_
  refine ww_iload_n (i := 1) C dX11_drawing_5 rfl rfl 6 rfl ?_
  refine ww_callS1p C (c_X11_isSheet l Γ) mi_X11_isSheet st_X11_isSheet ml_X11_66 dX11_drawing_6 (Nat.le_of_ble_eq_true rfl) (Nat.le_of_ble_eq_true rfl) (Nat.le_of_ble_eq_true rfl) ⟨Nat.zero_le _, Nat.zero_le _⟩ [] rfl (by decide) 9 rfl ?_
  refine ww_if_eq C 24 dX11_drawing_9 (by decide) 12 rfl (fun h_9 => ?_) (fun h_9 => ?_)
  · exact absurd (⟨nI_pos (by omega), nI_nlt (a := 7) (by omega) (by decide)⟩ : ¬ nI j < 0 ∧ ¬ nI 7 < nI j) (bI_e0 h_9)
  · skip
    refine ww_iload_n (i := 3) C dX11_drawing_12 rfl rfl 13 rfl ?_
    refine ww_i2l C dX11_drawing_13 14 rfl ?_
    refine ww_lconst (v := 0) C dX11_drawing_14 (by decide) 15 rfl ?_
    refine ww_ldc2 C cn_X11_96 dX11_drawing_15 18 rfl ?_
    refine ww_callS3p C (c_X11_in l Γ) mi_X11_in st_X11_in ml_X11_62 dX11_drawing_18 (Nat.le_of_ble_eq_true rfl) (Nat.le_of_ble_eq_true rfl) (Nat.le_of_ble_eq_true rfl) ⟨Nat.zero_le _, Nat.zero_le _⟩ [] rfl (by decide) 21 rfl ?_
    refine ww_if_ne C 27 dX11_drawing_21 (by decide) 24 rfl (fun h_21 => ?_) (fun h_21 => ?_)
    · skip
      refine ww_aload_n (i := 0) C dX11_drawing_27 rfl rfl 28 rfl ?_
      refine ww_get C fe_X11_7 dX11_drawing_28 0 rfl rfl 31 rfl ?_
      refine ww_iload_n (i := 1) C dX11_drawing_31 rfl rfl 32 rfl ?_
      refine ww_iald C dX11_drawing_32 1 rfl (vp_in_nI hj (by decide)) 33 rfl ?_
      rw [ej]
      refine ww_if_ge C 42 dX11_drawing_33 (by decide) 36 rfl (fun h_33 => ?_) (fun h_33 => ?_)
      · skip
        refine ww_iload_n (i := 2) C dX11_drawing_42 rfl rfl 43 rfl ?_
        refine ww_if_lt C 63 dX11_drawing_43 (by decide) 46 rfl (fun h_43 => ?_) (fun h_43 => ?_)
        · exact absurd h_43 (nI_pos (by omega))
        · skip
          refine ww_iload_n (i := 2) C dX11_drawing_46 rfl rfl 47 rfl ?_
          refine ww_i2l C dX11_drawing_47 48 rfl ?_
          refine ww_ldc2 C cn_X11_79 dX11_drawing_48 51 rfl ?_
          refine ww_ladd C dX11_drawing_51 52 rfl ?_
          refine ww_aload_n (i := 0) C dX11_drawing_52 rfl rfl 53 rfl ?_
          refine ww_get C fe_X11_13 dX11_drawing_53 0 rfl rfl 56 rfl ?_
          refine ww_iload_n (i := 1) C dX11_drawing_56 rfl rfl 57 rfl ?_
          refine ww_iald C dX11_drawing_57 2 rfl (vp_in_nI hj (by decide)) 58 rfl ?_
          rw [ej, hm9]
          refine ww_i2l C dX11_drawing_58 59 rfl ?_
          refine ww_lcmp C dX11_drawing_59 60 rfl ?_
          refine ww_if_le C 69 dX11_drawing_60 (by decide) 63 rfl (fun h_60 => ?_) (fun h_60 => ?_)
          · skip
            refine ww_iconst (v := 0) C dX11_drawing_69 (by decide) 70 rfl ?_
            refine ww_istore C dX11_drawing_70 (by decide) rfl 72 rfl ?_
            refine ww_loop (fun k : Nat => 16 - k) (fun k => k ≤ 16 ∧ s_within (s_off it j) a (-1) 15 k) (fun _ => [wMo hm q (upd I 0 (0)), (q 2, .inl (Γ.2.1, 8, .inl (ln))), (q 3, .inl (Γ.2.1, 8, .inl (mn))), (q 4, .inl (Γ.2.1, 480, .inl (it)))]) (fun k => [some (.ref hm), some (.int (nI j)), some (.int (nI a)), some (.int k9), some (.int (nI k)), none, none, none, none, none, none, none, none, none]) (0 : Nat) ⟨by omega, trivial⟩ rfl rfl (fun k hx ih => ?_)
            obtain ⟨hk16, hwi⟩ := hx
            try dsimp only at hk16 hwi ih ⊢
            refine ww_iload C dX11_drawing_72 rfl 74 rfl ?_
            refine ww_bipush (v := 16) C dX11_drawing_74 (by decide) 76 rfl ?_
            refine ww_icmp_ge C 115 dX11_drawing_76 (by decide) 79 rfl (fun h_76 => ?_) (fun h_76 => ?_)
            · skip
              obtain rfl : k = 16 := eqN (n := 16) h_76 hk16 (by decide)
              exact absurd hwi hw
            · skip
              have hlt : k < 16 := ltN (n := 16) h_76 (by decide) (by omega)
              have ec : (nI (60 * j + (a + k))).toNatClampNeg = 60 * j + (a + k) := nI_clamp (by omega)
              refine ww_aload_n (i := 0) C dX11_drawing_79 rfl rfl 80 rfl ?_
              refine ww_get C fe_X11_16 dX11_drawing_80 0 rfl rfl 83 rfl ?_
              refine ww_bipush (v := 60) C dX11_drawing_83 (by decide) 85 rfl ?_
              refine ww_iload_n (i := 1) C dX11_drawing_85 rfl rfl 86 rfl ?_
              refine ww_imul C dX11_drawing_86 87 rfl ?_
              refine ww_iload_n (i := 2) C dX11_drawing_87 rfl rfl 88 rfl ?_
              refine ww_iadd C dX11_drawing_88 89 rfl ?_
              refine ww_iload C dX11_drawing_89 rfl 91 rfl ?_
              refine ww_iadd C dX11_drawing_91 92 rfl ?_
              rw [show (60 : Int32) * nI j + nI a + nI k = nI (60 * j + (a + k)) by rw [e60 a, nI_add, Nat.add_assoc]]
              refine ww_iald C dX11_drawing_92 3 rfl (vp_in_nI (by omega) (by decide)) 93 rfl ?_
              rw [ec, show it (60 * j + (a + k)) = s_off it j (a + k) from rfl]
              refine ww_i2l C dX11_drawing_93 94 rfl ?_
              refine ww_ldc2 C cn_X11_98 dX11_drawing_94 97 rfl ?_
              refine ww_ldc2 C cn_X11_77 dX11_drawing_97 100 rfl ?_
              refine ww_callS3p C (c_X11_in l Γ) mi_X11_in st_X11_in ml_X11_62 dX11_drawing_100 (Nat.le_of_ble_eq_true rfl) (Nat.le_of_ble_eq_true rfl) (Nat.le_of_ble_eq_true rfl) ⟨Nat.zero_le _, Nat.zero_le _⟩ [] rfl (by decide) 103 rfl ?_
              refine ww_if_ne C 109 dX11_drawing_103 (by decide) 106 rfl (fun h_103 => ?_) (fun h_103 => ?_)
              · skip
                have hz1 : ¬ s_off it j (a + k) < -1 := fun w => (bI_n0 h_103).1 ((i64_lt (x := s_off it j (a + k)) (y := -1)).mpr w)
                have hz2 : s_off it j (a + k) ≤ 15 := Int32.not_lt.mp (fun w => (bI_n0 h_103).2 ((i64_lt (x := 15) (y := s_off it j (a + k))).mpr w))
                refine ww_iinc (y := 1) C dX11_drawing_109 rfl (by decide) (by decide) rfl 112 rfl ?_
                refine ww_goto C 72 dX11_drawing_112 (by decide) ?_
                exact ww_eq rfl (by rw [nI_succ k]; rfl) rfl (ih (k + 1) ⟨by omega, hwi, hz1, hz2⟩ (by omega))
              · skip
                have hz : ¬ s_within (s_off it j) a (-1) 15 16 := fun q => bI_e0 h_103 ⟨fun w => (s_within_iff.mp q k hlt).1 ((i64_lt (x := s_off it j (a + k)) (y := -1)).mp w), fun w => absurd (s_within_iff.mp q k hlt).2 (Int32.not_le.mpr ((i64_lt (x := 15) (y := s_off it j (a + k))).mp w))⟩
                refine ww_ldc C cn_X11_72 dX11_drawing_106 108 rfl ?_
                exact ww_iret C hr dX11_drawing_108 rfl rfl
          · exact absurd ⟨a, ha, rfl⟩ ((l16_iff hs (nI_pos (by omega))).mp h_60)
      · exact absurd (Int32.not_lt.mp hl) h_33
    · exact absurd (show ¬ k9.toInt64 < (0 : Int64) ∧ ¬ (4 : Int64) < k9.toInt64 from ⟨fun w => hk.1 ((i64_lt (x := k9) (y := 0)).mp w), fun w => absurd hk.2 (Int32.not_le.mpr ((i64_lt (x := 4) (y := k9)).mp w))⟩) (bI_e0 h_21)
set_option maxHeartbeats 4000000 in
theorem c_X11_draw_ok (l : Launch) (Γ : Gm) {hm : Nat} {q : Nat → Nat} {I : Nat → Int32} {j sz a : Nat} {k9 : Int32} {ln mn it pl : Nat → Int32} (hj : j < 8) (hk : ¬ k9 < 0 ∧ k9 ≤ 4) (hl : ¬ ln j < 0) (hm9 : mn j = nI sz) (hs : sz ≤ 60) (ha : a + 16 ≤ sz) (hw : s_within (s_off it j) a (-1) 15 16) : Ct l Γ yX11_drawing cX11_drawing 14 (some .int) 4 [.ref hm, .int (nI j), .int (nI a), .int k9] ([wMo hm q (I), (q 2, .inl (Γ.2.1, 8, .inl (ln))), (q 3, .inl (Γ.2.1, 8, .inl (mn))), (q 4, .inl (Γ.2.1, 480, .inl (it))), (q 6, .inl (Γ.2.1, 16, .inl (pl)))]) (some (.int (m_dan (m_dr (s_off it j) a 65536) k9))) ([wMo hm q (upd (upd I 0 (0)) 1 (0)), (q 2, .inl (Γ.2.1, 8, .inl (ln))), (q 3, .inl (Γ.2.1, 8, .inl (mn))), (q 4, .inl (Γ.2.1, 480, .inl (it))), (q 6, .inl (Γ.2.1, 16, .inl (pz pl (fun k => k) 65536)))]) := by
  refine Ct.of mi_X11_drawing [some (.ref hm), some (.int (nI j)), some (.int (nI a)), some (.int k9), none, none, none, none, none, none, none, none, none, none] 10 rfl (Nat.le_of_ble_eq_true rfl) ?_
  intro p e s m args below meth c C hr
  have ej : (nI j).toNatClampNeg = j := nI_clamp (by omega)
  have e60 : ∀ a : Nat, (60 : Int32) * nI j + nI a = nI (60 * j + a) := fun a => by rw [show (60 : Int32) = nI 60 from rfl, pk_mul, nI_add]
  refine ww_aload_n (i := 0) C dX11_drawing_0 rfl rfl 1 rfl ?_
  refine ww_iconst (v := 0) C dX11_drawing_1 (by decide) 2 rfl ?_
  refine ww_mput_0 C fe_X11_52 dX11_drawing_2 5 rfl ?_
  refine ww_iload_n (i := 1) C dX11_drawing_5 rfl rfl 6 rfl ?_
  refine ww_callS1p C (c_X11_isSheet l Γ) mi_X11_isSheet st_X11_isSheet ml_X11_66 dX11_drawing_6 (Nat.le_of_ble_eq_true rfl) (Nat.le_of_ble_eq_true rfl) (Nat.le_of_ble_eq_true rfl) ⟨Nat.zero_le _, Nat.zero_le _⟩ [] rfl (by decide) 9 rfl ?_
  refine ww_if_eq C 24 dX11_drawing_9 (by decide) 12 rfl (fun h_9 => ?_) (fun h_9 => ?_)
  · exact absurd (⟨nI_pos (by omega), nI_nlt (a := 7) (by omega) (by decide)⟩ : ¬ nI j < 0 ∧ ¬ nI 7 < nI j) (bI_e0 h_9)
  · skip
    refine ww_iload_n (i := 3) C dX11_drawing_12 rfl rfl 13 rfl ?_
    refine ww_i2l C dX11_drawing_13 14 rfl ?_
    refine ww_lconst (v := 0) C dX11_drawing_14 (by decide) 15 rfl ?_
    refine ww_ldc2 C cn_X11_96 dX11_drawing_15 18 rfl ?_
    refine ww_callS3p C (c_X11_in l Γ) mi_X11_in st_X11_in ml_X11_62 dX11_drawing_18 (Nat.le_of_ble_eq_true rfl) (Nat.le_of_ble_eq_true rfl) (Nat.le_of_ble_eq_true rfl) ⟨Nat.zero_le _, Nat.zero_le _⟩ [] rfl (by decide) 21 rfl ?_
    refine ww_if_ne C 27 dX11_drawing_21 (by decide) 24 rfl (fun h_21 => ?_) (fun h_21 => ?_)
    · skip
      refine ww_aload_n (i := 0) C dX11_drawing_27 rfl rfl 28 rfl ?_
      refine ww_get C fe_X11_7 dX11_drawing_28 0 rfl rfl 31 rfl ?_
      refine ww_iload_n (i := 1) C dX11_drawing_31 rfl rfl 32 rfl ?_
      refine ww_iald C dX11_drawing_32 1 rfl (vp_in_nI hj (by decide)) 33 rfl ?_
      rw [ej]
      refine ww_if_ge C 42 dX11_drawing_33 (by decide) 36 rfl (fun h_33 => ?_) (fun h_33 => ?_)
      · skip
        refine ww_iload_n (i := 2) C dX11_drawing_42 rfl rfl 43 rfl ?_
        refine ww_if_lt C 63 dX11_drawing_43 (by decide) 46 rfl (fun h_43 => ?_) (fun h_43 => ?_)
        · exact absurd h_43 (nI_pos (by omega))
        · skip
          refine ww_iload_n (i := 2) C dX11_drawing_46 rfl rfl 47 rfl ?_
          refine ww_i2l C dX11_drawing_47 48 rfl ?_
          refine ww_ldc2 C cn_X11_79 dX11_drawing_48 51 rfl ?_
          refine ww_ladd C dX11_drawing_51 52 rfl ?_
          refine ww_aload_n (i := 0) C dX11_drawing_52 rfl rfl 53 rfl ?_
          refine ww_get C fe_X11_13 dX11_drawing_53 0 rfl rfl 56 rfl ?_
          refine ww_iload_n (i := 1) C dX11_drawing_56 rfl rfl 57 rfl ?_
          refine ww_iald C dX11_drawing_57 2 rfl (vp_in_nI hj (by decide)) 58 rfl ?_
          rw [ej, hm9]
          refine ww_i2l C dX11_drawing_58 59 rfl ?_
          refine ww_lcmp C dX11_drawing_59 60 rfl ?_
          refine ww_if_le C 69 dX11_drawing_60 (by decide) 63 rfl (fun h_60 => ?_) (fun h_60 => ?_)
          · skip
            refine ww_iconst (v := 0) C dX11_drawing_69 (by decide) 70 rfl ?_
            refine ww_istore C dX11_drawing_70 (by decide) rfl 72 rfl ?_
            refine ww_loop (fun k : Nat => 16 - k) (fun k => k ≤ 16 ∧ s_within (s_off it j) a (-1) 15 k) (fun _ => [wMo hm q (upd I 0 (0)), (q 2, .inl (Γ.2.1, 8, .inl (ln))), (q 3, .inl (Γ.2.1, 8, .inl (mn))), (q 4, .inl (Γ.2.1, 480, .inl (it))), (q 6, .inl (Γ.2.1, 16, .inl (pl)))]) (fun k => [some (.ref hm), some (.int (nI j)), some (.int (nI a)), some (.int k9), some (.int (nI k)), none, none, none, none, none, none, none, none, none]) (0 : Nat) ⟨by omega, trivial⟩ rfl rfl (fun k hx ih => ?_)
            obtain ⟨hk16, hwi⟩ := hx
            try dsimp only at hk16 hwi ih ⊢
            refine ww_iload C dX11_drawing_72 rfl 74 rfl ?_
            refine ww_bipush (v := 16) C dX11_drawing_74 (by decide) 76 rfl ?_
            refine ww_icmp_ge C 115 dX11_drawing_76 (by decide) 79 rfl (fun h_76 => ?_) (fun h_76 => ?_)
            · skip
              obtain rfl : k = 16 := eqN (n := 16) h_76 hk16 (by decide)
              clear ih
              refine ww_aload_n (i := 0) C dX11_drawing_115 rfl rfl 116 rfl ?_
              refine ww_iconst (v := 0) C dX11_drawing_116 (by decide) 117 rfl ?_
              refine ww_mput_1 C fe_X11_56 dX11_drawing_117 120 rfl ?_
              refine ww_iconst (v := 0) C dX11_drawing_120 (by decide) 121 rfl ?_
              refine ww_istore C dX11_drawing_121 (by decide) rfl 123 rfl ?_
              refine ww_ldc C cn_X11_100 dX11_drawing_123 125 rfl ?_
              refine ww_istore C dX11_drawing_125 (by decide) rfl 127 rfl ?_
              refine ww_bipush (v := 100) C dX11_drawing_127 (by decide) 129 rfl ?_
              refine ww_istore C dX11_drawing_129 (by decide) rfl 131 rfl ?_
              refine ww_ldc C cn_X11_100 dX11_drawing_131 133 rfl ?_
              refine ww_istore C dX11_drawing_133 (by decide) rfl 135 rfl ?_
              refine ww_iconst (v := (-1)) C dX11_drawing_135 (by decide) 136 rfl ?_
              refine ww_istore C dX11_drawing_136 (by decide) rfl 138 rfl ?_
              refine ww_iconst (v := 0) C dX11_drawing_138 (by decide) 139 rfl ?_
              refine ww_istore C dX11_drawing_139 (by decide) rfl 141 rfl ?_
              refine ww_eq (ws' := [wMo hm q (upd (upd I 0 (0)) 1 (0)), (q 2, .inl (Γ.2.1, 8, .inl (ln))), (q 3, .inl (Γ.2.1, 8, .inl (mn))), (q 4, .inl (Γ.2.1, 480, .inl (it))), (q 6, .inl (Γ.2.1, 16, .inl (pz pl (fun k => k) 0)))]) rfl rfl rfl ?_
              refine ww_loop (fun c9 : Nat => 65536 - c9) (fun c9 => c9 ≤ 65536) (fun c9 => [wMo hm q (upd (upd I 0 (0)) 1 (0)), (q 2, .inl (Γ.2.1, 8, .inl (ln))), (q 3, .inl (Γ.2.1, 8, .inl (mn))), (q 4, .inl (Γ.2.1, 480, .inl (it))), (q 6, .inl (Γ.2.1, 16, .inl (pz pl (fun k => k) c9)))]) (fun c9 => [some (.ref hm), some (.int (nI j)), some (.int (nI a)), some (.int k9), some (.int ((m_dr (s_off it j) a c9).1)), some (.int ((m_dr (s_off it j) a c9).2.1)), some (.int ((m_dr (s_off it j) a c9).2.2.1)), some (.int ((m_dr (s_off it j) a c9).2.2.2.1)), some (.int ((m_dr (s_off it j) a c9).2.2.2.2)), some (.int (nI c9)), none, none, none, none]) (0 : Nat) (Nat.zero_le _) rfl rfl (fun c9 hc9 ih => ?_)
              try dsimp only at hc9 ih ⊢
              refine ww_iload C dX11_drawing_141 rfl 143 rfl ?_
              refine ww_ldc C cn_X11_101 dX11_drawing_143 145 rfl ?_
              refine ww_icmp_ge C 321 dX11_drawing_145 (by decide) 148 rfl (fun h_145 => ?_) (fun h_145 => ?_)
              · skip
                obtain rfl : c9 = 65536 := eqN (n := 65536) h_145 hc9 (by decide)
                refine ww_iload_n (i := 3) C dX11_drawing_321 rfl rfl 322 rfl ?_
                refine ww_if_ne C 330 dX11_drawing_322 (by decide) 325 rfl (fun h_322 => ?_) (fun h_322 => ?_)
                · skip
                  refine ww_iload_n (i := 3) C dX11_drawing_330 rfl rfl 331 rfl ?_
                  refine ww_iconst (v := 1) C dX11_drawing_331 (by decide) 332 rfl ?_
                  refine ww_icmp_ne C 340 dX11_drawing_332 (by decide) 335 rfl (fun h_332 => ?_) (fun h_332 => ?_)
                  · skip
                    refine ww_iload_n (i := 3) C dX11_drawing_340 rfl rfl 341 rfl ?_
                    refine ww_iconst (v := 2) C dX11_drawing_341 (by decide) 342 rfl ?_
                    refine ww_icmp_ne C 350 dX11_drawing_342 (by decide) 345 rfl (fun h_342 => ?_) (fun h_342 => ?_)
                    · skip
                      refine ww_iload_n (i := 3) C dX11_drawing_350 rfl rfl 351 rfl ?_
                      refine ww_iconst (v := 3) C dX11_drawing_351 (by decide) 352 rfl ?_
                      refine ww_icmp_ne C 360 dX11_drawing_352 (by decide) 355 rfl (fun h_352 => ?_) (fun h_352 => ?_)
                      · skip
                        refine ww_iload C dX11_drawing_360 rfl 362 rfl ?_
                        refine ww_bipush (v := 16) C dX11_drawing_362 (by decide) 364 rfl ?_
                        refine ww_icmp_ne C 372 dX11_drawing_364 (by decide) 367 rfl (fun h_364 => ?_) (fun h_364 => ?_)
                        · skip
                          refine ww_iload C dX11_drawing_372 rfl 374 rfl ?_
                          exact ww_iret C hr dX11_drawing_374 (by rw [m_dan]; first | rw [if_pos h_322] | rw [if_neg h_322, if_pos h_332] | rw [if_neg h_322, if_neg h_332, if_pos h_342] | rw [if_neg h_322, if_neg h_332, if_neg h_342, if_pos h_352] | rw [if_neg h_322, if_neg h_332, if_neg h_342, if_neg h_352, if_pos h_364] | rw [if_neg h_322, if_neg h_332, if_neg h_342, if_neg h_352, if_neg h_364]) rfl
                        · skip
                          refine ww_ldc C cn_X11_100 dX11_drawing_367 369 rfl ?_
                          refine ww_goto C 374 dX11_drawing_369 (by decide) ?_
                          exact ww_iret C hr dX11_drawing_374 (by rw [m_dan]; first | rw [if_pos h_322] | rw [if_neg h_322, if_pos h_332] | rw [if_neg h_322, if_neg h_332, if_pos h_342] | rw [if_neg h_322, if_neg h_332, if_neg h_342, if_pos h_352] | rw [if_neg h_322, if_neg h_332, if_neg h_342, if_neg h_352, if_pos h_364] | rw [if_neg h_322, if_neg h_332, if_neg h_342, if_neg h_352, if_neg h_364]) rfl
                      · skip
                        refine ww_iload C dX11_drawing_355 rfl 357 rfl ?_
                        refine ww_goto C 374 dX11_drawing_357 (by decide) ?_
                        exact ww_iret C hr dX11_drawing_374 (by rw [m_dan]; first | rw [if_pos h_322] | rw [if_neg h_322, if_pos h_332] | rw [if_neg h_322, if_neg h_332, if_pos h_342] | rw [if_neg h_322, if_neg h_332, if_neg h_342, if_pos h_352] | rw [if_neg h_322, if_neg h_332, if_neg h_342, if_neg h_352, if_pos h_364] | rw [if_neg h_322, if_neg h_332, if_neg h_342, if_neg h_352, if_neg h_364]) rfl
                    · skip
                      refine ww_iload C dX11_drawing_345 rfl 347 rfl ?_
                      refine ww_goto C 374 dX11_drawing_347 (by decide) ?_
                      exact ww_iret C hr dX11_drawing_374 (by rw [m_dan]; first | rw [if_pos h_322] | rw [if_neg h_322, if_pos h_332] | rw [if_neg h_322, if_neg h_332, if_pos h_342] | rw [if_neg h_322, if_neg h_332, if_neg h_342, if_pos h_352] | rw [if_neg h_322, if_neg h_332, if_neg h_342, if_neg h_352, if_pos h_364] | rw [if_neg h_322, if_neg h_332, if_neg h_342, if_neg h_352, if_neg h_364]) rfl
                  · skip
                    refine ww_iload C dX11_drawing_335 rfl 337 rfl ?_
                    refine ww_goto C 374 dX11_drawing_337 (by decide) ?_
                    exact ww_iret C hr dX11_drawing_374 (by rw [m_dan]; first | rw [if_pos h_322] | rw [if_neg h_322, if_pos h_332] | rw [if_neg h_322, if_neg h_332, if_pos h_342] | rw [if_neg h_322, if_neg h_332, if_neg h_342, if_pos h_352] | rw [if_neg h_322, if_neg h_332, if_neg h_342, if_neg h_352, if_pos h_364] | rw [if_neg h_322, if_neg h_332, if_neg h_342, if_neg h_352, if_neg h_364]) rfl
                · skip
                  refine ww_iload C dX11_drawing_325 rfl 327 rfl ?_
                  refine ww_goto C 374 dX11_drawing_327 (by decide) ?_
                  exact ww_iret C hr dX11_drawing_374 (by rw [m_dan]; first | rw [if_pos h_322] | rw [if_neg h_322, if_pos h_332] | rw [if_neg h_322, if_neg h_332, if_pos h_342] | rw [if_neg h_322, if_neg h_332, if_neg h_342, if_pos h_352] | rw [if_neg h_322, if_neg h_332, if_neg h_342, if_neg h_352, if_pos h_364] | rw [if_neg h_322, if_neg h_332, if_neg h_342, if_neg h_352, if_neg h_364]) rfl
              · skip
                have hc : c9 < 65536 := ltN (n := 65536) h_145 (by decide) (by omega)
                refine ww_aload_n (i := 0) C dX11_drawing_148 rfl rfl 149 rfl ?_
                refine ww_iload C dX11_drawing_149 rfl 151 rfl ?_
                refine ww_callV1v C (c_X11_lay l Γ hc) mi_X11_lay im_X11_lay se_X11_lay ml_X11_86 dX11_drawing_151 0 rfl rfl rfl (Nat.le_of_ble_eq_true rfl) (Nat.le_of_ble_eq_true rfl) (Nat.le_of_ble_eq_true rfl) ⟨Nat.zero_le _, Nat.zero_le _⟩ [0, 4] rfl (by decide) rfl 154 rfl ?_
                refine ww_eq (ws' := [wMo hm q (upd (upd I 0 (0)) 1 (0)), (q 2, .inl (Γ.2.1, 8, .inl (ln))), (q 3, .inl (Γ.2.1, 8, .inl (mn))), (q 4, .inl (Γ.2.1, 480, .inl (it))), (q 6, .inl (Γ.2.1, 16, .inl (s_lay pl c9)))]) (by rw [← pz_lay pl (fun k => k) c9 c9]; rfl) rfl rfl ?_
                refine ww_iconst (v := 0) C dX11_drawing_154 (by decide) 155 rfl ?_
                refine ww_istore C dX11_drawing_155 (by decide) rfl 157 rfl ?_
                refine ww_bipush (v := 16) C dX11_drawing_157 (by decide) 159 rfl ?_
                refine ww_istore C dX11_drawing_159 (by decide) rfl 161 rfl ?_
                refine ww_bipush (v := 15) C dX11_drawing_161 (by decide) 163 rfl ?_
                refine ww_istore C dX11_drawing_163 (by decide) rfl 165 rfl ?_
                refine ww_lv (lv' := [some (.ref hm), some (.int (nI j)), some (.int (nI a)), some (.int k9), some (.int ((m_dr (s_off it j) a c9).1)), some (.int ((m_dr (s_off it j) a c9).2.1)), some (.int ((m_dr (s_off it j) a c9).2.2.1)), some (.int ((m_dr (s_off it j) a c9).2.2.2.1)), some (.int ((m_dr (s_off it j) a c9).2.2.2.2)), some (.int (nI c9)), some (.int (0)), some (.int (16)), some (.int (nI 15 - nI 0)), none]) (lvle_same (lvle_same (lvle_same (lvle_same (lvle_same (lvle_same (lvle_same (lvle_same (lvle_same (lvle_same (lvle_same (lvle_same (lvle_same (lvle_none lvle_nil)))))))))))))) ?_
                refine ww_loop (fun m9 : Nat => 16 - m9) (fun m9 => m9 ≤ 16) (fun _ => [wMo hm q (upd (upd I 0 (0)) 1 (0)), (q 2, .inl (Γ.2.1, 8, .inl (ln))), (q 3, .inl (Γ.2.1, 8, .inl (mn))), (q 4, .inl (Γ.2.1, 480, .inl (it))), (q 6, .inl (Γ.2.1, 16, .inl (s_lay pl c9)))]) (fun m9 => [some (.ref hm), some (.int (nI j)), some (.int (nI a)), some (.int k9), some (.int ((m_dr (s_off it j) a c9).1)), some (.int ((m_dr (s_off it j) a c9).2.1)), some (.int ((m_dr (s_off it j) a c9).2.2.1)), some (.int ((m_dr (s_off it j) a c9).2.2.2.1)), some (.int ((m_dr (s_off it j) a c9).2.2.2.2)), some (.int (nI c9)), some (.int (m_st (s_off it j) a c9 m9)), some (.int (m_mt (s_off it j) a c9 m9)), some (.int (nI 15 - nI m9)), none]) (0 : Nat) (Nat.zero_le _) rfl rfl (fun m9 hm9' ih2 => ?_)
                try dsimp only at hm9' ih2 ⊢
                refine ww_iload C dX11_drawing_165 rfl 167 rfl ?_
                refine ww_if_lt C 231 dX11_drawing_167 (by decide) 170 rfl (fun h_167 => ?_) (fun h_167 => ?_)
                · skip
                  obtain rfl : m9 = 16 := by
                    rcases Nat.lt_or_ge m9 16 with z | z
                    · rw [pk_sub (show m9 ≤ 15 by omega)] at h_167; exact absurd h_167 (nI_pos (by omega))
                    · omega
                  clear ih2
                  refine ww_iload C dX11_drawing_231 rfl 233 rfl ?_
                  refine ww_cutT 243 (.int (if (m_st (s_off it j) a c9 16) = 0 then (1 : Int32) else 0) :: .int (m_dr (s_off it j) a c9).1 :: []) ?_ (fun J => ?_)
                  · skip
                    refine ww_iadd C dX11_drawing_243 244 rfl ?_
                    refine ww_istore C dX11_drawing_244 (by decide) rfl 246 rfl ?_
                    refine ww_cutT 265 (.int (if (m_st (s_off it j) a c9 16) = 0 ∧ (m_dr (s_off it j) a c9).2.1 = -1000000 then nI c9 else (m_dr (s_off it j) a c9).2.1) :: []) ?_ (fun J => ?_)
                    · skip
                      refine ww_istore C dX11_drawing_265 (by decide) rfl 267 rfl ?_
                      refine ww_cutT 281 (.int (if (m_st (s_off it j) a c9 16) < (m_dr (s_off it j) a c9).2.2.1 then nI c9 else (m_dr (s_off it j) a c9).2.2.2.1) :: []) ?_ (fun J => ?_)
                      · skip
                        refine ww_istore C dX11_drawing_281 (by decide) rfl 283 rfl ?_
                        refine ww_cutT 297 (.int (if (m_st (s_off it j) a c9 16) < (m_dr (s_off it j) a c9).2.2.1 then (m_st (s_off it j) a c9 16) else (m_dr (s_off it j) a c9).2.2.1) :: []) ?_ (fun J => ?_)
                        · skip
                          refine ww_istore C dX11_drawing_297 (by decide) rfl 299 rfl ?_
                          refine ww_cutT 313 (.int (if (m_dr (s_off it j) a c9).2.2.2.2 < (m_mt (s_off it j) a c9 16) then (m_mt (s_off it j) a c9 16) else (m_dr (s_off it j) a c9).2.2.2.2) :: []) ?_ (fun J => ?_)
                          · skip
                            refine ww_istore C dX11_drawing_313 (by decide) rfl 315 rfl ?_
                            refine ww_iinc (y := 1) C dX11_drawing_315 rfl (by decide) (by decide) rfl 318 rfl ?_
                            refine ww_goto C 141 dX11_drawing_318 (by decide) ?_
                            refine ww_lv (lv' := [some (.ref hm), some (.int (nI j)), some (.int (nI a)), some (.int k9), some (.int ((m_dr (s_off it j) a (c9 + 1)).1)), some (.int ((m_dr (s_off it j) a (c9 + 1)).2.1)), some (.int ((m_dr (s_off it j) a (c9 + 1)).2.2.1)), some (.int ((m_dr (s_off it j) a (c9 + 1)).2.2.2.1)), some (.int ((m_dr (s_off it j) a (c9 + 1)).2.2.2.2)), some (.int (nI (c9 + 1))), none, none, none, none]) ?_ (ih (c9 + 1) (by omega) (by omega))
                            rw [nI_succ c9]
                            exact (lvle_same (lvle_same (lvle_same (lvle_same (lvle_same (lvle_same (lvle_same (lvle_same (lvle_same (lvle_same (lvle_none (lvle_none (lvle_none (lvle_none lvle_nil))))))))))))))
                          · skip
                            refine ww_iload C dX11_drawing_299 rfl 301 rfl ?_
                            refine ww_iload C dX11_drawing_301 rfl 303 rfl ?_
                            refine ww_icmp_le C 311 dX11_drawing_303 (by decide) 306 rfl (fun h_303 => ?_) (fun h_303 => ?_)
                            · skip
                              refine ww_iload C dX11_drawing_311 rfl 313 rfl ?_
                              exact ww_eq rfl rfl (by first | rw [if_pos (Int32.not_le.mp h_303)] | rw [if_neg (Int32.not_lt.mpr h_303)]) J
                            · skip
                              refine ww_iload C dX11_drawing_306 rfl 308 rfl ?_
                              refine ww_goto C 313 dX11_drawing_308 (by decide) ?_
                              exact ww_eq rfl rfl (by first | rw [if_pos (Int32.not_le.mp h_303)] | rw [if_neg (Int32.not_lt.mpr h_303)]) J
                        · skip
                          refine ww_iload C dX11_drawing_283 rfl 285 rfl ?_
                          refine ww_iload C dX11_drawing_285 rfl 287 rfl ?_
                          refine ww_icmp_ge C 295 dX11_drawing_287 (by decide) 290 rfl (fun h_287 => ?_) (fun h_287 => ?_)
                          · skip
                            refine ww_iload C dX11_drawing_295 rfl 297 rfl ?_
                            exact ww_eq rfl rfl (by first | rw [if_pos (Int32.not_le.mp h_287)] | rw [if_neg (Int32.not_lt.mpr h_287)]) J
                          · skip
                            refine ww_iload C dX11_drawing_290 rfl 292 rfl ?_
                            refine ww_goto C 297 dX11_drawing_292 (by decide) ?_
                            exact ww_eq rfl rfl (by first | rw [if_pos (Int32.not_le.mp h_287)] | rw [if_neg (Int32.not_lt.mpr h_287)]) J
                      · skip
                        refine ww_iload C dX11_drawing_267 rfl 269 rfl ?_
                        refine ww_iload C dX11_drawing_269 rfl 271 rfl ?_
                        refine ww_icmp_ge C 279 dX11_drawing_271 (by decide) 274 rfl (fun h_271 => ?_) (fun h_271 => ?_)
                        · skip
                          refine ww_iload C dX11_drawing_279 rfl 281 rfl ?_
                          exact ww_eq rfl rfl (by first | rw [if_pos (Int32.not_le.mp h_271)] | rw [if_neg (Int32.not_lt.mpr h_271)]) J
                        · skip
                          refine ww_iload C dX11_drawing_274 rfl 276 rfl ?_
                          refine ww_goto C 281 dX11_drawing_276 (by decide) ?_
                          exact ww_eq rfl rfl (by first | rw [if_pos (Int32.not_le.mp h_271)] | rw [if_neg (Int32.not_lt.mpr h_271)]) J
                    · skip
                      refine ww_iload C dX11_drawing_246 rfl 248 rfl ?_
                      refine ww_if_ne C 263 dX11_drawing_248 (by decide) 251 rfl (fun h_248 => ?_) (fun h_248 => ?_)
                      · skip
                        refine ww_iload C dX11_drawing_263 rfl 265 rfl ?_
                        exact ww_eq rfl rfl (by first | rw [if_pos (c := (m_st (s_off it j) a c9 16) = 0 ∧ (m_dr (s_off it j) a c9).2.1 = -1000000) (And.intro h_248 h_255)] | rw [if_neg (c := (m_st (s_off it j) a c9 16) = 0 ∧ (m_dr (s_off it j) a c9).2.1 = -1000000) (fun z => h_255 z.2)] | rw [if_neg (c := (m_st (s_off it j) a c9 16) = 0 ∧ (m_dr (s_off it j) a c9).2.1 = -1000000) (fun z => h_248 z.1)]) J
                      · skip
                        refine ww_iload C dX11_drawing_251 rfl 253 rfl ?_
                        refine ww_ldc C cn_X11_100 dX11_drawing_253 255 rfl ?_
                        refine ww_icmp_ne C 263 dX11_drawing_255 (by decide) 258 rfl (fun h_255 => ?_) (fun h_255 => ?_)
                        · skip
                          refine ww_iload C dX11_drawing_263 rfl 265 rfl ?_
                          exact ww_eq rfl rfl (by first | rw [if_pos (c := (m_st (s_off it j) a c9 16) = 0 ∧ (m_dr (s_off it j) a c9).2.1 = -1000000) (And.intro h_248 h_255)] | rw [if_neg (c := (m_st (s_off it j) a c9 16) = 0 ∧ (m_dr (s_off it j) a c9).2.1 = -1000000) (fun z => h_255 z.2)] | rw [if_neg (c := (m_st (s_off it j) a c9 16) = 0 ∧ (m_dr (s_off it j) a c9).2.1 = -1000000) (fun z => h_248 z.1)]) J
                        · skip
                          refine ww_iload C dX11_drawing_258 rfl 260 rfl ?_
                          refine ww_goto C 265 dX11_drawing_260 (by decide) ?_
                          exact ww_eq rfl rfl (by first | rw [if_pos (c := (m_st (s_off it j) a c9 16) = 0 ∧ (m_dr (s_off it j) a c9).2.1 = -1000000) (And.intro h_248 h_255)] | rw [if_neg (c := (m_st (s_off it j) a c9 16) = 0 ∧ (m_dr (s_off it j) a c9).2.1 = -1000000) (fun z => h_255 z.2)] | rw [if_neg (c := (m_st (s_off it j) a c9 16) = 0 ∧ (m_dr (s_off it j) a c9).2.1 = -1000000) (fun z => h_248 z.1)]) J
                  · skip
                    refine ww_iload C dX11_drawing_233 rfl 235 rfl ?_
                    refine ww_if_ne C 242 dX11_drawing_235 (by decide) 238 rfl (fun h_235 => ?_) (fun h_235 => ?_)
                    · skip
                      refine ww_iconst (v := 0) C dX11_drawing_242 (by decide) 243 rfl ?_
                      exact ww_eq rfl rfl (by first | rw [if_pos h_235] | rw [if_neg h_235]) J
                    · skip
                      refine ww_iconst (v := 1) C dX11_drawing_238 (by decide) 239 rfl ?_
                      refine ww_goto C 243 dX11_drawing_239 (by decide) ?_
                      exact ww_eq rfl rfl (by first | rw [if_pos h_235] | rw [if_neg h_235]) J
                · skip
                  have hlt : m9 < 16 := Nat.lt_of_not_le fun q => h_167 (by obtain rfl : m9 = 16 := (by omega); decide)
                  rw [pk_sub (show m9 ≤ 15 by omega)]
                  have ec : (nI (60 * j + (a + (15 - m9)))).toNatClampNeg = 60 * j + (a + (15 - m9)) := nI_clamp (by omega)
                  refine ww_aload_n (i := 0) C dX11_drawing_170 rfl rfl 171 rfl ?_
                  refine ww_get C fe_X11_16 dX11_drawing_171 0 rfl rfl 174 rfl ?_
                  refine ww_bipush (v := 60) C dX11_drawing_174 (by decide) 176 rfl ?_
                  refine ww_iload_n (i := 1) C dX11_drawing_176 rfl rfl 177 rfl ?_
                  refine ww_imul C dX11_drawing_177 178 rfl ?_
                  refine ww_iload_n (i := 2) C dX11_drawing_178 rfl rfl 179 rfl ?_
                  refine ww_iadd C dX11_drawing_179 180 rfl ?_
                  refine ww_iload C dX11_drawing_180 rfl 182 rfl ?_
                  refine ww_iadd C dX11_drawing_182 183 rfl ?_
                  rw [show (60 : Int32) * nI j + nI a + nI (15 - m9) = nI (60 * j + (a + (15 - m9))) by rw [e60 a, nI_add, Nat.add_assoc]]
                  refine ww_iald C dX11_drawing_183 3 rfl (vp_in_nI (by omega) (by decide)) 184 rfl ?_
                  rw [ec, show it (60 * j + (a + (15 - m9))) = s_off it j (a + (15 - m9)) from rfl]
                  refine ww_istore C dX11_drawing_184 (by decide) rfl 186 rfl ?_
                  refine ww_iload C dX11_drawing_186 rfl 188 rfl ?_
                  refine ww_if_lt C 225 dX11_drawing_188 (by decide) 191 rfl (fun h_188 => ?_) (fun h_188 => ?_)
                  · skip
                    refine ww_iinc (y := (-1)) C dX11_drawing_225 rfl (by decide) (by decide) rfl 228 rfl ?_
                    refine ww_goto C 165 dX11_drawing_228 (by decide) ?_
                    have e9 : nI 15 - nI (m9 + 1) = nI (15 - m9) + (-1) := by rw [nI_succ m9, ← pk_sub (show m9 ≤ 15 by omega)]; exact ep_sub _ _
                    refine ww_lv (lv' := [some (.ref hm), some (.int (nI j)), some (.int (nI a)), some (.int k9), some (.int ((m_dr (s_off it j) a c9).1)), some (.int ((m_dr (s_off it j) a c9).2.1)), some (.int ((m_dr (s_off it j) a c9).2.2.1)), some (.int ((m_dr (s_off it j) a c9).2.2.2.1)), some (.int ((m_dr (s_off it j) a c9).2.2.2.2)), some (.int (nI c9)), some (.int (m_st (s_off it j) a c9 (m9 + 1))), some (.int (m_mt (s_off it j) a c9 (m9 + 1))), some (.int (nI 15 - nI (m9 + 1))), none]) ?_ (ih2 (m9 + 1) (by omega) (by omega))
                    rw [e9, m_st, m_mt]
                    first
                      | (rw [if_pos ⟨h_188, h_200⟩, if_pos ⟨h_188, h_200⟩]; exact (lvle_same (lvle_same (lvle_same (lvle_same (lvle_same (lvle_same (lvle_same (lvle_same (lvle_same (lvle_same (lvle_same (lvle_same (lvle_same (lvle_none lvle_nil)))))))))))))))
                      | (rw [if_neg (c := m_ne (s_off it j) a c9 (15 - m9)) (fun z => z.2 h_200), if_neg (c := m_ne (s_off it j) a c9 (15 - m9)) (fun z => z.2 h_200)]; exact (lvle_same (lvle_same (lvle_same (lvle_same (lvle_same (lvle_same (lvle_same (lvle_same (lvle_same (lvle_same (lvle_same (lvle_same (lvle_same (lvle_none lvle_nil)))))))))))))))
                      | (rw [if_neg (c := m_ne (s_off it j) a c9 (15 - m9)) (fun z => z.1 h_188), if_neg (c := m_ne (s_off it j) a c9 (15 - m9)) (fun z => z.1 h_188)]; exact (lvle_same (lvle_same (lvle_same (lvle_same (lvle_same (lvle_same (lvle_same (lvle_same (lvle_same (lvle_same (lvle_same (lvle_same (lvle_same (lvle_none lvle_nil)))))))))))))))
                  · skip
                    refine ww_iload C dX11_drawing_191 rfl 193 rfl ?_
                    refine ww_aload_n (i := 0) C dX11_drawing_193 rfl rfl 194 rfl ?_
                    refine ww_get C fe_X11_19 dX11_drawing_194 0 rfl rfl 197 rfl ?_
                    refine ww_iload C dX11_drawing_197 rfl 199 rfl ?_
                    refine ww_iald C dX11_drawing_199 4 rfl (vp_in_nI (by omega) (by decide)) 200 rfl ?_
                    rw [nI_clamp (show 15 - m9 < 2 ^ 31 by omega), s_lay_at (show 15 - m9 < 16 by omega)]
                    refine ww_icmp_eq C 225 dX11_drawing_200 (by decide) 203 rfl (fun h_200 => ?_) (fun h_200 => ?_)
                    · skip
                      refine ww_iinc (y := (-1)) C dX11_drawing_225 rfl (by decide) (by decide) rfl 228 rfl ?_
                      refine ww_goto C 165 dX11_drawing_228 (by decide) ?_
                      have e9 : nI 15 - nI (m9 + 1) = nI (15 - m9) + (-1) := by rw [nI_succ m9, ← pk_sub (show m9 ≤ 15 by omega)]; exact ep_sub _ _
                      refine ww_lv (lv' := [some (.ref hm), some (.int (nI j)), some (.int (nI a)), some (.int k9), some (.int ((m_dr (s_off it j) a c9).1)), some (.int ((m_dr (s_off it j) a c9).2.1)), some (.int ((m_dr (s_off it j) a c9).2.2.1)), some (.int ((m_dr (s_off it j) a c9).2.2.2.1)), some (.int ((m_dr (s_off it j) a c9).2.2.2.2)), some (.int (nI c9)), some (.int (m_st (s_off it j) a c9 (m9 + 1))), some (.int (m_mt (s_off it j) a c9 (m9 + 1))), some (.int (nI 15 - nI (m9 + 1))), none]) ?_ (ih2 (m9 + 1) (by omega) (by omega))
                      rw [e9, m_st, m_mt]
                      first
                        | (rw [if_pos ⟨h_188, h_200⟩, if_pos ⟨h_188, h_200⟩]; exact (lvle_same (lvle_same (lvle_same (lvle_same (lvle_same (lvle_same (lvle_same (lvle_same (lvle_same (lvle_same (lvle_same (lvle_same (lvle_same (lvle_none lvle_nil)))))))))))))))
                        | (rw [if_neg (c := m_ne (s_off it j) a c9 (15 - m9)) (fun z => z.2 h_200), if_neg (c := m_ne (s_off it j) a c9 (15 - m9)) (fun z => z.2 h_200)]; exact (lvle_same (lvle_same (lvle_same (lvle_same (lvle_same (lvle_same (lvle_same (lvle_same (lvle_same (lvle_same (lvle_same (lvle_same (lvle_same (lvle_none lvle_nil)))))))))))))))
                        | (rw [if_neg (c := m_ne (s_off it j) a c9 (15 - m9)) (fun z => z.1 h_188), if_neg (c := m_ne (s_off it j) a c9 (15 - m9)) (fun z => z.1 h_188)]; exact (lvle_same (lvle_same (lvle_same (lvle_same (lvle_same (lvle_same (lvle_same (lvle_same (lvle_same (lvle_same (lvle_same (lvle_same (lvle_same (lvle_none lvle_nil)))))))))))))))
                    · skip
                      refine ww_iload C dX11_drawing_203 rfl 205 rfl ?_
                      refine ww_iload C dX11_drawing_205 rfl 207 rfl ?_
                      refine ww_aload_n (i := 0) C dX11_drawing_207 rfl rfl 208 rfl ?_
                      refine ww_get C fe_X11_19 dX11_drawing_208 0 rfl rfl 211 rfl ?_
                      refine ww_iload C dX11_drawing_211 rfl 213 rfl ?_
                      refine ww_iald C dX11_drawing_213 4 rfl (vp_in_nI (by omega) (by decide)) 214 rfl ?_
                      rw [nI_clamp (show 15 - m9 < 2 ^ 31 by omega), s_lay_at (show 15 - m9 < 16 by omega)]
                      refine ww_ixor C dX11_drawing_214 215 rfl ?_
                      refine ww_callS1p C (c_X11_singles l Γ) mi_X11_singles st_X11_singles ml_X11_102 dX11_drawing_215 (Nat.le_of_ble_eq_true rfl) (Nat.le_of_ble_eq_true rfl) (Nat.le_of_ble_eq_true rfl) ⟨Nat.zero_le _, Nat.zero_le _⟩ [] rfl (by decide) 218 rfl ?_
                      refine ww_iadd C dX11_drawing_218 219 rfl ?_
                      refine ww_istore C dX11_drawing_219 (by decide) rfl 221 rfl ?_
                      refine ww_iload C dX11_drawing_221 rfl 223 rfl ?_
                      refine ww_istore C dX11_drawing_223 (by decide) rfl 225 rfl ?_
                      refine ww_iinc (y := (-1)) C dX11_drawing_225 rfl (by decide) (by decide) rfl 228 rfl ?_
                      refine ww_goto C 165 dX11_drawing_228 (by decide) ?_
                      have e9 : nI 15 - nI (m9 + 1) = nI (15 - m9) + (-1) := by rw [nI_succ m9, ← pk_sub (show m9 ≤ 15 by omega)]; exact ep_sub _ _
                      refine ww_lv (lv' := [some (.ref hm), some (.int (nI j)), some (.int (nI a)), some (.int k9), some (.int ((m_dr (s_off it j) a c9).1)), some (.int ((m_dr (s_off it j) a c9).2.1)), some (.int ((m_dr (s_off it j) a c9).2.2.1)), some (.int ((m_dr (s_off it j) a c9).2.2.2.1)), some (.int ((m_dr (s_off it j) a c9).2.2.2.2)), some (.int (nI c9)), some (.int (m_st (s_off it j) a c9 (m9 + 1))), some (.int (m_mt (s_off it j) a c9 (m9 + 1))), some (.int (nI 15 - nI (m9 + 1))), none]) ?_ (ih2 (m9 + 1) (by omega) (by omega))
                      rw [e9, m_st, m_mt]
                      first
                        | (rw [if_pos ⟨h_188, h_200⟩, if_pos ⟨h_188, h_200⟩]; exact (lvle_same (lvle_same (lvle_same (lvle_same (lvle_same (lvle_same (lvle_same (lvle_same (lvle_same (lvle_same (lvle_same (lvle_same (lvle_same (lvle_none lvle_nil)))))))))))))))
                        | (rw [if_neg (c := m_ne (s_off it j) a c9 (15 - m9)) (fun z => z.2 h_200), if_neg (c := m_ne (s_off it j) a c9 (15 - m9)) (fun z => z.2 h_200)]; exact (lvle_same (lvle_same (lvle_same (lvle_same (lvle_same (lvle_same (lvle_same (lvle_same (lvle_same (lvle_same (lvle_same (lvle_same (lvle_same (lvle_none lvle_nil)))))))))))))))
                        | (rw [if_neg (c := m_ne (s_off it j) a c9 (15 - m9)) (fun z => z.1 h_188), if_neg (c := m_ne (s_off it j) a c9 (15 - m9)) (fun z => z.1 h_188)]; exact (lvle_same (lvle_same (lvle_same (lvle_same (lvle_same (lvle_same (lvle_same (lvle_same (lvle_same (lvle_same (lvle_same (lvle_same (lvle_same (lvle_none lvle_nil)))))))))))))))
            · skip
              have hlt : k < 16 := ltN (n := 16) h_76 (by decide) (by omega)
              have ec : (nI (60 * j + (a + k))).toNatClampNeg = 60 * j + (a + k) := nI_clamp (by omega)
              refine ww_aload_n (i := 0) C dX11_drawing_79 rfl rfl 80 rfl ?_
              refine ww_get C fe_X11_16 dX11_drawing_80 0 rfl rfl 83 rfl ?_
              refine ww_bipush (v := 60) C dX11_drawing_83 (by decide) 85 rfl ?_
              refine ww_iload_n (i := 1) C dX11_drawing_85 rfl rfl 86 rfl ?_
              refine ww_imul C dX11_drawing_86 87 rfl ?_
              refine ww_iload_n (i := 2) C dX11_drawing_87 rfl rfl 88 rfl ?_
              refine ww_iadd C dX11_drawing_88 89 rfl ?_
              refine ww_iload C dX11_drawing_89 rfl 91 rfl ?_
              refine ww_iadd C dX11_drawing_91 92 rfl ?_
              rw [show (60 : Int32) * nI j + nI a + nI k = nI (60 * j + (a + k)) by rw [e60 a, nI_add, Nat.add_assoc]]
              refine ww_iald C dX11_drawing_92 3 rfl (vp_in_nI (by omega) (by decide)) 93 rfl ?_
              rw [ec, show it (60 * j + (a + k)) = s_off it j (a + k) from rfl]
              refine ww_i2l C dX11_drawing_93 94 rfl ?_
              refine ww_ldc2 C cn_X11_98 dX11_drawing_94 97 rfl ?_
              refine ww_ldc2 C cn_X11_77 dX11_drawing_97 100 rfl ?_
              refine ww_callS3p C (c_X11_in l Γ) mi_X11_in st_X11_in ml_X11_62 dX11_drawing_100 (Nat.le_of_ble_eq_true rfl) (Nat.le_of_ble_eq_true rfl) (Nat.le_of_ble_eq_true rfl) ⟨Nat.zero_le _, Nat.zero_le _⟩ [] rfl (by decide) 103 rfl ?_
              refine ww_if_ne C 109 dX11_drawing_103 (by decide) 106 rfl (fun h_103 => ?_) (fun h_103 => ?_)
              · skip
                have hz1 : ¬ s_off it j (a + k) < -1 := fun w => (bI_n0 h_103).1 ((i64_lt (x := s_off it j (a + k)) (y := -1)).mpr w)
                have hz2 : s_off it j (a + k) ≤ 15 := Int32.not_lt.mp (fun w => (bI_n0 h_103).2 ((i64_lt (x := 15) (y := s_off it j (a + k))).mpr w))
                refine ww_iinc (y := 1) C dX11_drawing_109 rfl (by decide) (by decide) rfl 112 rfl ?_
                refine ww_goto C 72 dX11_drawing_112 (by decide) ?_
                exact ww_eq rfl (by rw [nI_succ k]; rfl) rfl (ih (k + 1) ⟨by omega, hwi, hz1, hz2⟩ (by omega))
              · skip
                exact absurd (⟨fun w => (s_within_iff.mp hw k hlt).1 ((i64_lt (x := s_off it j (a + k)) (y := -1)).mp w), fun w => absurd (s_within_iff.mp hw k hlt).2 (Int32.not_le.mpr ((i64_lt (x := 15) (y := s_off it j (a + k))).mp w))⟩ : ¬ (s_off it j (a + k)).toInt64 < (-1 : Int64) ∧ ¬ (15 : Int64) < (s_off it j (a + k)).toInt64) (bI_e0 h_103)
          · exact absurd ⟨a, ha, rfl⟩ ((l16_iff hs (nI_pos (by omega))).mp h_60)
      · exact absurd (Int32.not_lt.mp hl) h_33
    · exact absurd (show ¬ k9.toInt64 < (0 : Int64) ∧ ¬ (4 : Int64) < k9.toInt64 from ⟨fun w => hk.1 ((i64_lt (x := k9) (y := 0)).mp w), fun w => absurd hk.2 (Int32.not_le.mpr ((i64_lt (x := 4) (y := k9)).mp w))⟩) (bI_e0 h_21)
