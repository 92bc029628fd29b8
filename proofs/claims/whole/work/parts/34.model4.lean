theorem upd_same {f : Nat → Int32} {k : Nat} {x : Int32} (h : f k = x) : upd f k x = f := by
  funext j
  simp only [upd]
  split
  · next e => rw [e, h]
  · rfl
theorem c_X11_kindOf (l : Launch) (Γ : Gm) {f : Int32}  : Ct l Γ yX11_kindOf cX11_kindOf 2 (some .int) 1 [.int f] [] (some (.int (s_kO f))) [] := by
  refine Ct.of mi_X11_kindOf [some (.int f), none] 1 rfl (Nat.le_of_ble_eq_true rfl) ?_
  intro p e s m args below meth c C hr
  refine ww_iload_n (i := 0) C dX11_kindOf_0 rfl rfl 1 rfl ?_
  refine ww_iconst (v := 1) C dX11_kindOf_1 (by decide) 2 rfl ?_
  refine ww_iand C dX11_kindOf_2 3 rfl ?_
  refine ww_iload_n (i := 0) C dX11_kindOf_3 rfl rfl 4 rfl ?_
  refine ww_iconst (v := 3) C dX11_kindOf_4 (by decide) 5 rfl ?_
  refine ww_ishr C dX11_kindOf_5 6 rfl ?_
  refine ww_iconst (v := 1) C dX11_kindOf_6 (by decide) 7 rfl ?_
  refine ww_iand C dX11_kindOf_7 8 rfl ?_
  refine ww_icmp_ne C 28 dX11_kindOf_8 (by decide) 11 rfl (fun h_8 => ?_) (fun h_8 => ?_)
  · skip
    refine ww_iconst (v := 0) C dX11_kindOf_28 (by decide) 29 rfl ?_
    refine ww_istore_n (i := 1) C dX11_kindOf_29 rfl (by decide) rfl 30 rfl ?_
    refine ww_iload_n (i := 1) C dX11_kindOf_30 rfl rfl 31 rfl ?_
    refine ww_if_eq C 38 dX11_kindOf_31 (by decide) 34 rfl (fun h_31 => ?_) (fun h_31 => ?_)
    · skip
      have hz : ¬ ((f &&& 1 = (f >>> ((3 : Int32) &&& 31)) &&& 1) ∧ ((f >>> ((1 : Int32) &&& 31)) &&& 1 = (f >>> ((2 : Int32) &&& 31)) &&& 1)) := by
        intro q
        first
          | exact h_8 q.1
          | exact h_21 q.2
      refine ww_iload_n (i := 0) C dX11_kindOf_38 rfl rfl 39 rfl ?_
      refine ww_callS1p C (c_X11_singles l Γ) mi_X11_singles st_X11_singles ml_X11_102 dX11_kindOf_39 (Nat.le_of_ble_eq_true rfl) (Nat.le_of_ble_eq_true rfl) (Nat.le_of_ble_eq_true rfl) ⟨Nat.zero_le _, Nat.zero_le _⟩ [] rfl (by decide) 42 rfl ?_
      refine ww_iconst (v := 2) C dX11_kindOf_42 (by decide) 43 rfl ?_
      refine ww_irem C dX11_kindOf_43 (by decide) 44 rfl ?_
      refine ww_if_ne C 51 dX11_kindOf_44 (by decide) 47 rfl (fun h_44 => ?_) (fun h_44 => ?_)
      · skip
        refine ww_iconst (v := 3) C dX11_kindOf_51 (by decide) 52 rfl ?_
        exact ww_iret C hr dX11_kindOf_52 (by first | rw [s_kO, if_pos hz] | rw [s_kO, if_neg hz, if_pos h_44] | rw [s_kO, if_neg hz, if_neg h_44]) rfl
      · skip
        refine ww_iconst (v := 1) C dX11_kindOf_47 (by decide) 48 rfl ?_
        refine ww_goto C 52 dX11_kindOf_48 (by decide) ?_
        exact ww_iret C hr dX11_kindOf_52 (by first | rw [s_kO, if_pos hz] | rw [s_kO, if_neg hz, if_pos h_44] | rw [s_kO, if_neg hz, if_neg h_44]) rfl
    · exact absurd h_31 (by decide)
  · skip
    refine ww_iload_n (i := 0) C dX11_kindOf_11 rfl rfl 12 rfl ?_
    refine ww_iconst (v := 1) C dX11_kindOf_12 (by decide) 13 rfl ?_
    refine ww_ishr C dX11_kindOf_13 14 rfl ?_
    refine ww_iconst (v := 1) C dX11_kindOf_14 (by decide) 15 rfl ?_
    refine ww_iand C dX11_kindOf_15 16 rfl ?_
    refine ww_iload_n (i := 0) C dX11_kindOf_16 rfl rfl 17 rfl ?_
    refine ww_iconst (v := 2) C dX11_kindOf_17 (by decide) 18 rfl ?_
    refine ww_ishr C dX11_kindOf_18 19 rfl ?_
    refine ww_iconst (v := 1) C dX11_kindOf_19 (by decide) 20 rfl ?_
    refine ww_iand C dX11_kindOf_20 21 rfl ?_
    refine ww_icmp_ne C 28 dX11_kindOf_21 (by decide) 24 rfl (fun h_21 => ?_) (fun h_21 => ?_)
    · skip
      refine ww_iconst (v := 0) C dX11_kindOf_28 (by decide) 29 rfl ?_
      refine ww_istore_n (i := 1) C dX11_kindOf_29 rfl (by decide) rfl 30 rfl ?_
      refine ww_iload_n (i := 1) C dX11_kindOf_30 rfl rfl 31 rfl ?_
      refine ww_if_eq C 38 dX11_kindOf_31 (by decide) 34 rfl (fun h_31 => ?_) (fun h_31 => ?_)
      · skip
        have hz : ¬ ((f &&& 1 = (f >>> ((3 : Int32) &&& 31)) &&& 1) ∧ ((f >>> ((1 : Int32) &&& 31)) &&& 1 = (f >>> ((2 : Int32) &&& 31)) &&& 1)) := by
          intro q
          first
            | exact h_8 q.1
            | exact h_21 q.2
        refine ww_iload_n (i := 0) C dX11_kindOf_38 rfl rfl 39 rfl ?_
        refine ww_callS1p C (c_X11_singles l Γ) mi_X11_singles st_X11_singles ml_X11_102 dX11_kindOf_39 (Nat.le_of_ble_eq_true rfl) (Nat.le_of_ble_eq_true rfl) (Nat.le_of_ble_eq_true rfl) ⟨Nat.zero_le _, Nat.zero_le _⟩ [] rfl (by decide) 42 rfl ?_
        refine ww_iconst (v := 2) C dX11_kindOf_42 (by decide) 43 rfl ?_
        refine ww_irem C dX11_kindOf_43 (by decide) 44 rfl ?_
        refine ww_if_ne C 51 dX11_kindOf_44 (by decide) 47 rfl (fun h_44 => ?_) (fun h_44 => ?_)
        · skip
          refine ww_iconst (v := 3) C dX11_kindOf_51 (by decide) 52 rfl ?_
          exact ww_iret C hr dX11_kindOf_52 (by first | rw [s_kO, if_pos hz] | rw [s_kO, if_neg hz, if_pos h_44] | rw [s_kO, if_neg hz, if_neg h_44]) rfl
        · skip
          refine ww_iconst (v := 1) C dX11_kindOf_47 (by decide) 48 rfl ?_
          refine ww_goto C 52 dX11_kindOf_48 (by decide) ?_
          exact ww_iret C hr dX11_kindOf_52 (by first | rw [s_kO, if_pos hz] | rw [s_kO, if_neg hz, if_pos h_44] | rw [s_kO, if_neg hz, if_neg h_44]) rfl
      · exact absurd h_31 (by decide)
    · skip
      refine ww_iconst (v := 1) C dX11_kindOf_24 (by decide) 25 rfl ?_
      refine ww_goto C 29 dX11_kindOf_25 (by decide) ?_
      refine ww_istore_n (i := 1) C dX11_kindOf_29 rfl (by decide) rfl 30 rfl ?_
      refine ww_iload_n (i := 1) C dX11_kindOf_30 rfl rfl 31 rfl ?_
      refine ww_if_eq C 38 dX11_kindOf_31 (by decide) 34 rfl (fun h_31 => ?_) (fun h_31 => ?_)
      · exact absurd h_31 (by decide)
      · skip
        have hz : (f &&& 1 = (f >>> ((3 : Int32) &&& 31)) &&& 1) ∧ ((f >>> ((1 : Int32) &&& 31)) &&& 1 = (f >>> ((2 : Int32) &&& 31)) &&& 1) := ⟨h_8, h_21⟩
        refine ww_iconst (v := 2) C dX11_kindOf_34 (by decide) 35 rfl ?_
        refine ww_goto C 52 dX11_kindOf_35 (by decide) ?_
        exact ww_iret C hr dX11_kindOf_52 (by first | rw [s_kO, if_pos hz] | rw [s_kO, if_neg hz, if_pos h_44] | rw [s_kO, if_neg hz, if_neg h_44]) rfl
theorem c_X11_kind (l : Launch) (Γ : Gm) {hm : Nat} {q : Nat → Nat} {I : Nat → Int32} {a : Int32}  : Ct l Γ yX11_kind cX11_kind 2 (some .int) 4 [.ref hm, .int a] ([wMo hm q (I)]) (some (.int (if (¬ a < 0 ∧ ¬ 15 < a) then s_kO a else -1000001))) ([wMo hm q (upd I 0 (0))]) := by
  refine Ct.of mi_X11_kind [some (.ref hm), some (.int a)] 0 rfl (Nat.le_of_ble_eq_true rfl) ?_
  intro p e s m args below meth c C hr
  refine ww_aload_n (i := 0) C dX11_kind_0 rfl rfl 1 rfl ?_
  refine ww_iconst (v := 0) C dX11_kind_1 (by decide) 2 rfl ?_
  refine ww_mput_0 C fe_X11_52 dX11_kind_2 5 rfl ?_
  refine ww_iload_n (i := 1) C dX11_kind_5 rfl rfl 6 rfl ?_
  refine ww_callS1p C (c_X11_isFigure16 l Γ) mi_X11_isFigure16 st_X11_isFigure16 ml_X11_90 dX11_kind_6 (Nat.le_of_ble_eq_true rfl) (Nat.le_of_ble_eq_true rfl) (Nat.le_of_ble_eq_true rfl) ⟨Nat.zero_le _, Nat.zero_le _⟩ [] rfl (by decide) 9 rfl ?_
  refine ww_if_eq C 19 dX11_kind_9 (by decide) 12 rfl (fun h_9 => ?_) (fun h_9 => ?_)
  · skip
    refine ww_ldc C cn_X11_72 dX11_kind_19 21 rfl ?_
    exact ww_iret C hr dX11_kind_21 (by first | rw [if_neg (bI_e0 h_9)] | rw [if_pos (bI_n0 h_9)]) rfl
  · skip
    refine ww_iload_n (i := 1) C dX11_kind_12 rfl rfl 13 rfl ?_
    refine ww_callS1p C (c_X11_kindOf l Γ) mi_X11_kindOf st_X11_kindOf ml_X11_212 dX11_kind_13 (Nat.le_of_ble_eq_true rfl) (Nat.le_of_ble_eq_true rfl) (Nat.le_of_ble_eq_true rfl) ⟨Nat.zero_le _, Nat.zero_le _⟩ [] rfl (by decide) 16 rfl ?_
    refine ww_goto C 21 dX11_kind_16 (by decide) ?_
    exact ww_iret C hr dX11_kind_21 (by first | rw [if_neg (bI_e0 h_9)] | rw [if_pos (bI_n0 h_9)]) rfl
theorem c_X11_as_bad (l : Launch) (Γ : Gm) {hm : Nat} {q : Nat → Nat} {I : Nat → Int32} {a k : Int32} (hb : ¬ (¬ a < 0 ∧ ¬ 15 < a) ∨ k < 0 ∨ ¬ k ≤ 3) : Ct l Γ yX11_as cX11_as 4 (some .int) 4 [.ref hm, .int a, .int k] ([wMo hm q (I)]) (some (.int (-1000001))) ([wMo hm q (upd I 0 (0))]) := by
  refine Ct.of mi_X11_as [some (.ref hm), some (.int a), some (.int k), none] 1 rfl (Nat.le_of_ble_eq_true rfl) ?_
  intro p e s m args below meth c C hr
  refine ww_aload_n (i := 0) C dX11_as_0 rfl rfl 1 rfl ?_
  refine ww_iconst (v := 0) C dX11_as_1 (by decide) 2 rfl ?_
  refine ww_mput_0 C fe_X11_52 dX11_as_2 5 rfl ?_
  refine ww_iload_n (i := 1) C dX11_as_5 rfl rfl 6 rfl ?_
  refine ww_callS1p C (c_X11_isFigure16 l Γ) mi_X11_isFigure16 st_X11_isFigure16 ml_X11_90 dX11_as_6 (Nat.le_of_ble_eq_true rfl) (Nat.le_of_ble_eq_true rfl) (Nat.le_of_ble_eq_true rfl) ⟨Nat.zero_le _, Nat.zero_le _⟩ [] rfl (by decide) 9 rfl ?_
  refine ww_if_eq C 24 dX11_as_9 (by decide) 12 rfl (fun h_9 => ?_) (fun h_9 => ?_)
  · skip
    refine ww_ldc C cn_X11_72 dX11_as_24 26 rfl ?_
    exact ww_iret C hr dX11_as_26 rfl rfl
  · skip
    refine ww_iload_n (i := 2) C dX11_as_12 rfl rfl 13 rfl ?_
    refine ww_i2l C dX11_as_13 14 rfl ?_
    refine ww_lconst (v := 0) C dX11_as_14 (by decide) 15 rfl ?_
    refine ww_ldc2 C cn_X11_207 dX11_as_15 18 rfl ?_
    refine ww_callS3p C (c_X11_in l Γ) mi_X11_in st_X11_in ml_X11_62 dX11_as_18 (Nat.le_of_ble_eq_true rfl) (Nat.le_of_ble_eq_true rfl) (Nat.le_of_ble_eq_true rfl) ⟨Nat.zero_le _, Nat.zero_le _⟩ [] rfl (by decide) 21 rfl ?_
    refine ww_if_ne C 27 dX11_as_21 (by decide) 24 rfl (fun h_21 => ?_) (fun h_21 => ?_)
    · exact absurd hb (fun q => q.elim (fun z => z (bI_n0 h_9)) (fun z => z.elim (fun y => (bI_n0 h_21).1 ((i64_lt (x := k) (y := 0)).mpr y)) (fun y => (bI_n0 h_21).2 ((i64_lt (x := 3) (y := k)).mpr (Int32.not_le.mp y)))))
    · skip
      refine ww_ldc C cn_X11_72 dX11_as_24 26 rfl ?_
      exact ww_iret C hr dX11_as_26 rfl rfl
theorem c_X11_as_ok (l : Launch) (Γ : Gm) {hm : Nat} {q : Nat → Nat} {I : Nat → Int32} {a k : Int32} (h1 : (¬ a < 0 ∧ ¬ 15 < a)) (h2 : ¬ k < 0) (h3 : k ≤ 3) (hq : s_kO a = s_told a) (hs : s_sg a = s_bc32 a) (hk : ¬ s_isk a k = 0) : Ct l Γ yX11_as cX11_as 4 (some .int) 4 [.ref hm, .int a, .int k] ([wMo hm q (I)]) (some (.int (8 - s_bc32 a))) ([wMo hm q (upd (upd I 0 (0)) 1 (0))]) := by
  refine Ct.of mi_X11_as [some (.ref hm), some (.int a), some (.int k), none] 1 rfl (Nat.le_of_ble_eq_true rfl) ?_
  intro p e s m args below meth c C hr
  refine ww_aload_n (i := 0) C dX11_as_0 rfl rfl 1 rfl ?_
  refine ww_iconst (v := 0) C dX11_as_1 (by decide) 2 rfl ?_
  refine ww_mput_0 C fe_X11_52 dX11_as_2 5 rfl ?_
  refine ww_iload_n (i := 1) C dX11_as_5 rfl rfl 6 rfl ?_
  refine ww_callS1p C (c_X11_isFigure16 l Γ) mi_X11_isFigure16 st_X11_isFigure16 ml_X11_90 dX11_as_6 (Nat.le_of_ble_eq_true rfl) (Nat.le_of_ble_eq_true rfl) (Nat.le_of_ble_eq_true rfl) ⟨Nat.zero_le _, Nat.zero_le _⟩ [] rfl (by decide) 9 rfl ?_
  refine ww_if_eq C 24 dX11_as_9 (by decide) 12 rfl (fun h_9 => ?_) (fun h_9 => ?_)
  · exact absurd h1 (bI_e0 h_9)
  · skip
    refine ww_iload_n (i := 2) C dX11_as_12 rfl rfl 13 rfl ?_
    refine ww_i2l C dX11_as_13 14 rfl ?_
    refine ww_lconst (v := 0) C dX11_as_14 (by decide) 15 rfl ?_
    refine ww_ldc2 C cn_X11_207 dX11_as_15 18 rfl ?_
    refine ww_callS3p C (c_X11_in l Γ) mi_X11_in st_X11_in ml_X11_62 dX11_as_18 (Nat.le_of_ble_eq_true rfl) (Nat.le_of_ble_eq_true rfl) (Nat.le_of_ble_eq_true rfl) ⟨Nat.zero_le _, Nat.zero_le _⟩ [] rfl (by decide) 21 rfl ?_
    refine ww_if_ne C 27 dX11_as_21 (by decide) 24 rfl (fun h_21 => ?_) (fun h_21 => ?_)
    · skip
      refine ww_aload_n (i := 0) C dX11_as_27 rfl rfl 28 rfl ?_
      refine ww_iconst (v := 0) C dX11_as_28 (by decide) 29 rfl ?_
      refine ww_mput_1 C fe_X11_56 dX11_as_29 32 rfl ?_
      refine ww_iload_n (i := 1) C dX11_as_32 rfl rfl 33 rfl ?_
      refine ww_callS1p C (c_X11_kindOf l Γ) mi_X11_kindOf st_X11_kindOf ml_X11_212 dX11_as_33 (Nat.le_of_ble_eq_true rfl) (Nat.le_of_ble_eq_true rfl) (Nat.le_of_ble_eq_true rfl) ⟨Nat.zero_le _, Nat.zero_le _⟩ [] rfl (by decide) 36 rfl ?_
      refine ww_istore_n (i := 3) C dX11_as_36 rfl (by decide) rfl 37 rfl ?_
      rw [hq]
      refine ww_iload_n (i := 2) C dX11_as_37 rfl rfl 38 rfl ?_
      refine ww_if_eq C 56 dX11_as_38 (by decide) 41 rfl (fun h_38 => ?_) (fun h_38 => ?_)
      · skip
        refine ww_bipush (v := 8) C dX11_as_56 (by decide) 58 rfl ?_
        refine ww_iload_n (i := 1) C dX11_as_58 rfl rfl 59 rfl ?_
        refine ww_callS1p C (c_X11_singles l Γ) mi_X11_singles st_X11_singles ml_X11_102 dX11_as_59 (Nat.le_of_ble_eq_true rfl) (Nat.le_of_ble_eq_true rfl) (Nat.le_of_ble_eq_true rfl) ⟨Nat.zero_le _, Nat.zero_le _⟩ [] rfl (by decide) 62 rfl ?_
        refine ww_isub C dX11_as_62 63 rfl ?_
        refine ww_goto C 71 dX11_as_63 (by decide) ?_
        exact ww_iret C hr dX11_as_71 (by rw [hs]) rfl
      · skip
        refine ww_iload_n (i := 3) C dX11_as_41 rfl rfl 42 rfl ?_
        refine ww_iload_n (i := 2) C dX11_as_42 rfl rfl 43 rfl ?_
        refine ww_icmp_eq C 56 dX11_as_43 (by decide) 46 rfl (fun h_43 => ?_) (fun h_43 => ?_)
        · skip
          refine ww_bipush (v := 8) C dX11_as_56 (by decide) 58 rfl ?_
          refine ww_iload_n (i := 1) C dX11_as_58 rfl rfl 59 rfl ?_
          refine ww_callS1p C (c_X11_singles l Γ) mi_X11_singles st_X11_singles ml_X11_102 dX11_as_59 (Nat.le_of_ble_eq_true rfl) (Nat.le_of_ble_eq_true rfl) (Nat.le_of_ble_eq_true rfl) ⟨Nat.zero_le _, Nat.zero_le _⟩ [] rfl (by decide) 62 rfl ?_
          refine ww_isub C dX11_as_62 63 rfl ?_
          refine ww_goto C 71 dX11_as_63 (by decide) ?_
          exact ww_iret C hr dX11_as_71 (by rw [hs]) rfl
        · skip
          refine ww_iload_n (i := 2) C dX11_as_46 rfl rfl 47 rfl ?_
          refine ww_iconst (v := 1) C dX11_as_47 (by decide) 48 rfl ?_
          refine ww_icmp_ne C 66 dX11_as_48 (by decide) 51 rfl (fun h_48 => ?_) (fun h_48 => ?_)
          · skip
            exact absurd (by
              first
                | rw [s_isk, if_neg h_38, if_neg (fun z => h_43 z.symm), if_neg h_48]
                | rw [s_isk, if_neg h_38, if_neg (fun z => h_43 z.symm), if_pos h_48, if_neg h_53]) hk
          · skip
            refine ww_iload_n (i := 3) C dX11_as_51 rfl rfl 52 rfl ?_
            refine ww_iconst (v := 2) C dX11_as_52 (by decide) 53 rfl ?_
            refine ww_icmp_ne C 66 dX11_as_53 (by decide) 56 rfl (fun h_53 => ?_) (fun h_53 => ?_)
            · skip
              exact absurd (by
                first
                  | rw [s_isk, if_neg h_38, if_neg (fun z => h_43 z.symm), if_neg h_48]
                  | rw [s_isk, if_neg h_38, if_neg (fun z => h_43 z.symm), if_pos h_48, if_neg h_53]) hk
            · skip
              refine ww_bipush (v := 8) C dX11_as_56 (by decide) 58 rfl ?_
              refine ww_iload_n (i := 1) C dX11_as_58 rfl rfl 59 rfl ?_
              refine ww_callS1p C (c_X11_singles l Γ) mi_X11_singles st_X11_singles ml_X11_102 dX11_as_59 (Nat.le_of_ble_eq_true rfl) (Nat.le_of_ble_eq_true rfl) (Nat.le_of_ble_eq_true rfl) ⟨Nat.zero_le _, Nat.zero_le _⟩ [] rfl (by decide) 62 rfl ?_
              refine ww_isub C dX11_as_62 63 rfl ?_
              refine ww_goto C 71 dX11_as_63 (by decide) ?_
              exact ww_iret C hr dX11_as_71 (by rw [hs]) rfl
    · exact absurd (⟨fun z => h2 ((i64_lt (x := k) (y := 0)).mp z), fun z => Int32.not_lt.mpr h3 ((i64_lt (x := 3) (y := k)).mp z)⟩ : (¬ k.toInt64 < Int32.toInt64 0 ∧ ¬ Int32.toInt64 3 < k.toInt64)) (bI_e0 h_21)
theorem c_X11_as_no (l : Launch) (Γ : Gm) {hm : Nat} {q : Nat → Nat} {I : Nat → Int32} {a k : Int32} (h1 : (¬ a < 0 ∧ ¬ 15 < a)) (h2 : ¬ k < 0) (h3 : k ≤ 3) (hq : s_kO a = s_told a) (hs : s_sg a = s_bc32 a) (hk : s_isk a k = 0) : Ct l Γ yX11_as cX11_as 4 (some .int) 4 [.ref hm, .int a, .int k] ([wMo hm q (I)]) (some (.int (-1000013))) ([wMo hm q (upd (upd (upd I 0 (0)) 1 (0)) 1 (3))]) := by
  refine Ct.of mi_X11_as [some (.ref hm), some (.int a), some (.int k), none] 1 rfl (Nat.le_of_ble_eq_true rfl) ?_
  intro p e s m args below meth c C hr
  refine ww_aload_n (i := 0) C dX11_as_0 rfl rfl 1 rfl ?_
  refine ww_iconst (v := 0) C dX11_as_1 (by decide) 2 rfl ?_
  refine ww_mput_0 C fe_X11_52 dX11_as_2 5 rfl ?_
  refine ww_iload_n (i := 1) C dX11_as_5 rfl rfl 6 rfl ?_
  refine ww_callS1p C (c_X11_isFigure16 l Γ) mi_X11_isFigure16 st_X11_isFigure16 ml_X11_90 dX11_as_6 (Nat.le_of_ble_eq_true rfl) (Nat.le_of_ble_eq_true rfl) (Nat.le_of_ble_eq_true rfl) ⟨Nat.zero_le _, Nat.zero_le _⟩ [] rfl (by decide) 9 rfl ?_
  refine ww_if_eq C 24 dX11_as_9 (by decide) 12 rfl (fun h_9 => ?_) (fun h_9 => ?_)
  · exact absurd h1 (bI_e0 h_9)
  · skip
    refine ww_iload_n (i := 2) C dX11_as_12 rfl rfl 13 rfl ?_
    refine ww_i2l C dX11_as_13 14 rfl ?_
    refine ww_lconst (v := 0) C dX11_as_14 (by decide) 15 rfl ?_
    refine ww_ldc2 C cn_X11_207 dX11_as_15 18 rfl ?_
    refine ww_callS3p C (c_X11_in l Γ) mi_X11_in st_X11_in ml_X11_62 dX11_as_18 (Nat.le_of_ble_eq_true rfl) (Nat.le_of_ble_eq_true rfl) (Nat.le_of_ble_eq_true rfl) ⟨Nat.zero_le _, Nat.zero_le _⟩ [] rfl (by decide) 21 rfl ?_
    refine ww_if_ne C 27 dX11_as_21 (by decide) 24 rfl (fun h_21 => ?_) (fun h_21 => ?_)
    · skip
      refine ww_aload_n (i := 0) C dX11_as_27 rfl rfl 28 rfl ?_
      refine ww_iconst (v := 0) C dX11_as_28 (by decide) 29 rfl ?_
      refine ww_mput_1 C fe_X11_56 dX11_as_29 32 rfl ?_
      refine ww_iload_n (i := 1) C dX11_as_32 rfl rfl 33 rfl ?_
      refine ww_callS1p C (c_X11_kindOf l Γ) mi_X11_kindOf st_X11_kindOf ml_X11_212 dX11_as_33 (Nat.le_of_ble_eq_true rfl) (Nat.le_of_ble_eq_true rfl) (Nat.le_of_ble_eq_true rfl) ⟨Nat.zero_le _, Nat.zero_le _⟩ [] rfl (by decide) 36 rfl ?_
      refine ww_istore_n (i := 3) C dX11_as_36 rfl (by decide) rfl 37 rfl ?_
      rw [hq]
      refine ww_iload_n (i := 2) C dX11_as_37 rfl rfl 38 rfl ?_
      refine ww_if_eq C 56 dX11_as_38 (by decide) 41 rfl (fun h_38 => ?_) (fun h_38 => ?_)
      · skip
        exact absurd hk (by
          first
            | (rw [s_isk, if_pos h_38]; decide)
            | (rw [s_isk, if_neg h_38, if_pos h_43.symm]; decide)
            | (rw [s_isk, if_neg h_38, if_neg (fun z => h_43 z.symm), if_pos h_48, if_pos h_53]; decide))
      · skip
        refine ww_iload_n (i := 3) C dX11_as_41 rfl rfl 42 rfl ?_
        refine ww_iload_n (i := 2) C dX11_as_42 rfl rfl 43 rfl ?_
        refine ww_icmp_eq C 56 dX11_as_43 (by decide) 46 rfl (fun h_43 => ?_) (fun h_43 => ?_)
        · skip
          exact absurd hk (by
            first
              | (rw [s_isk, if_pos h_38]; decide)
              | (rw [s_isk, if_neg h_38, if_pos h_43.symm]; decide)
              | (rw [s_isk, if_neg h_38, if_neg (fun z => h_43 z.symm), if_pos h_48, if_pos h_53]; decide))
        · skip
          refine ww_iload_n (i := 2) C dX11_as_46 rfl rfl 47 rfl ?_
          refine ww_iconst (v := 1) C dX11_as_47 (by decide) 48 rfl ?_
          refine ww_icmp_ne C 66 dX11_as_48 (by decide) 51 rfl (fun h_48 => ?_) (fun h_48 => ?_)
          · skip
            refine ww_aload_n (i := 0) C dX11_as_66 rfl rfl 67 rfl ?_
            refine ww_iconst (v := 3) C dX11_as_67 (by decide) 68 rfl ?_
            refine ww_callV1 C (c_X11_found l Γ) mi_X11_found im_X11_found se_X11_found ml_X11_73 dX11_as_68 0 rfl rfl rfl (Nat.le_of_ble_eq_true rfl) (Nat.le_of_ble_eq_true rfl) (Nat.le_of_ble_eq_true rfl) ⟨Nat.zero_le _, Nat.zero_le _⟩ [0] rfl (by decide) rfl 71 rfl ?_
            exact ww_iret C hr dX11_as_71 rfl rfl
          · skip
            refine ww_iload_n (i := 3) C dX11_as_51 rfl rfl 52 rfl ?_
            refine ww_iconst (v := 2) C dX11_as_52 (by decide) 53 rfl ?_
            refine ww_icmp_ne C 66 dX11_as_53 (by decide) 56 rfl (fun h_53 => ?_) (fun h_53 => ?_)
            · skip
              refine ww_aload_n (i := 0) C dX11_as_66 rfl rfl 67 rfl ?_
              refine ww_iconst (v := 3) C dX11_as_67 (by decide) 68 rfl ?_
              refine ww_callV1 C (c_X11_found l Γ) mi_X11_found im_X11_found se_X11_found ml_X11_73 dX11_as_68 0 rfl rfl rfl (Nat.le_of_ble_eq_true rfl) (Nat.le_of_ble_eq_true rfl) (Nat.le_of_ble_eq_true rfl) ⟨Nat.zero_le _, Nat.zero_le _⟩ [0] rfl (by decide) rfl 71 rfl ?_
              exact ww_iret C hr dX11_as_71 rfl rfl
            · skip
              exact absurd hk (by
                first
                  | (rw [s_isk, if_pos h_38]; decide)
                  | (rw [s_isk, if_neg h_38, if_pos h_43.symm]; decide)
                  | (rw [s_isk, if_neg h_38, if_neg (fun z => h_43 z.symm), if_pos h_48, if_pos h_53]; decide))
    · exact absurd (⟨fun z => h2 ((i64_lt (x := k) (y := 0)).mp z), fun z => Int32.not_lt.mpr h3 ((i64_lt (x := 3) (y := k)).mp z)⟩ : (¬ k.toInt64 < Int32.toInt64 0 ∧ ¬ Int32.toInt64 3 < k.toInt64)) (bI_e0 h_21)
abbrev wMT (Γ : Gm) (hm : Nat) (q : Nat → Nat) (I : Nat → Int32) (σ : TrS) : va_W := [wMo hm q (upd I 29 (nI σ.2)), (q 28, .inl (Γ.2.1, 16, .inl σ.1))]
theorem c_X11_began (l : Launch) (Γ : Gm) {hm : Nat} {q : Nat → Nat} {I : Nat → Int32} {σ : TrS} {b : Int32} (ht : σ.2 ≤ 16) : Ct l Γ yX11_began cX11_began 2 none 0 [.ref hm, .int b] (wMT Γ hm q I σ) (none) (wMT Γ hm q I (s_beg σ b)) := by
  refine Ct.of mi_X11_began [some (.ref hm), some (.int b)] 0 rfl (Nat.le_of_ble_eq_true rfl) ?_
  intro p e s m args below meth c C hr
  refine ww_aload_n (i := 0) C dX11_began_0 rfl rfl 1 rfl ?_
  refine ww_get C fe_X11_215 dX11_began_1 0 rfl rfl 4 rfl ?_
  refine ww_bipush (v := 16) C dX11_began_4 (by decide) 6 rfl ?_
  rw [show upd I 29 (nI σ.2) 29 = nI σ.2 from rfl]
  refine ww_icmp_ge C 29 dX11_began_6 (by decide) 9 rfl (fun h_6 => ?_) (fun h_6 => ?_)
  · skip
    first
      | (have hlt : ¬ σ.2 < 16 := fun q => absurd h_6 (nI_ge q (by decide)); have e : s_beg σ b = σ := if_neg hlt; rw [e]; exact ww_vret C hr dX11_began_29 rfl rfl)
      | (have e : s_beg σ b = (upd σ.1 σ.2 b, σ.2 + 1) := if_pos hlt; rw [e]; exact ww_vret C hr dX11_began_29 rfl (by rw [nI_clamp (show σ.2 < 2 ^ 31 by omega)]; show wMT Γ hm q I (upd σ.1 σ.2 b, σ.2 + 1) = _; simp only [wMT, nI_succ]; rfl))
  · skip
    have hlt : σ.2 < 16 := ltN (n := 16) h_6 (by decide) (by omega)
    refine ww_aload_n (i := 0) C dX11_began_9 rfl rfl 10 rfl ?_
    refine ww_get C fe_X11_49 dX11_began_10 0 rfl rfl 13 rfl ?_
    refine ww_aload_n (i := 0) C dX11_began_13 rfl rfl 14 rfl ?_
    refine ww_get C fe_X11_215 dX11_began_14 0 rfl rfl 17 rfl ?_
    rw [show upd I 29 (nI σ.2) 29 = nI σ.2 from rfl]
    refine ww_iload_n (i := 1) C dX11_began_17 rfl rfl 18 rfl ?_
    refine ww_iast C dX11_began_18 1 rfl (vp_in_nI hlt (by decide)) 19 rfl ?_
    refine ww_aload_n (i := 0) C dX11_began_19 rfl rfl 20 rfl ?_
    refine ww_dup C dX11_began_20 rfl 21 rfl ?_
    refine ww_get C fe_X11_215 dX11_began_21 0 rfl rfl 24 rfl ?_
    rw [show upd I 29 (nI σ.2) 29 = nI σ.2 from rfl]
    refine ww_iconst (v := 1) C dX11_began_24 (by decide) 25 rfl ?_
    refine ww_iadd C dX11_began_25 26 rfl ?_
    refine ww_mput_29 C fe_X11_215 dX11_began_26 29 rfl ?_
    first
      | (have hlt : ¬ σ.2 < 16 := fun q => absurd h_6 (nI_ge q (by decide)); have e : s_beg σ b = σ := if_neg hlt; rw [e]; exact ww_vret C hr dX11_began_29 rfl rfl)
      | (have e : s_beg σ b = (upd σ.1 σ.2 b, σ.2 + 1) := if_pos hlt; rw [e]; exact ww_vret C hr dX11_began_29 rfl (by rw [nI_clamp (show σ.2 < 2 ^ 31 by omega)]; show wMT Γ hm q I (upd σ.1 σ.2 b, σ.2 + 1) = _; simp only [wMT, nI_succ]; rfl))
theorem c_X11_oddSize (l : Launch) (Γ : Gm) {hm : Nat} {q : Nat → Nat} {I : Nat → Int32} {σ : TrS} {f : Int32} (ht : σ.2 ≤ 16) (hs : s_sg f = s_bc32 f) : Ct l Γ yX11_oddSize cX11_oddSize 2 (some .int) 1 [.ref hm, .int f] (wMT Γ hm q I σ) (some (.int (v_oS f))) (wMT Γ hm q I (s_oS σ)) := by
  refine Ct.of mi_X11_oddSize [some (.ref hm), some (.int f)] 0 rfl (Nat.le_of_ble_eq_true rfl) ?_
  intro p e s m args below meth c C hr
  refine ww_aload_n (i := 0) C dX11_oddSize_0 rfl rfl 1 rfl ?_
  refine ww_bipush (v := 13) C dX11_oddSize_1 (by decide) 3 rfl ?_
  refine ww_callV1v C (c_X11_began l Γ ht) mi_X11_began im_X11_began se_X11_began ml_X11_218 dX11_oddSize_3 0 rfl rfl rfl (Nat.le_of_ble_eq_true rfl) (Nat.le_of_ble_eq_true rfl) (Nat.le_of_ble_eq_true rfl) ⟨Nat.zero_le _, Nat.zero_le _⟩ [0, 1] rfl (by decide) rfl 6 rfl ?_
  refine ww_eq (ws' := wMT Γ hm q I (s_beg σ 13)) rfl rfl rfl ?_
  refine ww_aload_n (i := 0) C dX11_oddSize_6 rfl rfl 7 rfl ?_
  refine ww_bipush (v := 10) C dX11_oddSize_7 (by decide) 9 rfl ?_
  refine ww_callV1v C (c_X11_began l Γ (s_beg_le ht)) mi_X11_began im_X11_began se_X11_began ml_X11_218 dX11_oddSize_9 0 rfl rfl rfl (Nat.le_of_ble_eq_true rfl) (Nat.le_of_ble_eq_true rfl) (Nat.le_of_ble_eq_true rfl) ⟨Nat.zero_le _, Nat.zero_le _⟩ [0, 1] rfl (by decide) rfl 12 rfl ?_
  refine ww_eq (ws' := wMT Γ hm q I (s_oS σ)) rfl rfl rfl ?_
  refine ww_iconst (v := 2) C dX11_oddSize_12 (by decide) 13 rfl ?_
  refine ww_bipush (v := 8) C dX11_oddSize_13 (by decide) 15 rfl ?_
  refine ww_iload_n (i := 1) C dX11_oddSize_15 rfl rfl 16 rfl ?_
  refine ww_callS1p C (c_X11_singles l Γ) mi_X11_singles st_X11_singles ml_X11_102 dX11_oddSize_16 (Nat.le_of_ble_eq_true rfl) (Nat.le_of_ble_eq_true rfl) (Nat.le_of_ble_eq_true rfl) ⟨Nat.zero_le _, Nat.zero_le _⟩ [] rfl (by decide) 19 rfl ?_
  refine ww_isub C dX11_oddSize_19 20 rfl ?_
  refine ww_imul C dX11_oddSize_20 21 rfl ?_
  exact ww_iret C hr dX11_oddSize_21 (by rw [hs]; rfl) rfl
theorem c_X11_marked (l : Launch) (Γ : Gm) {hm : Nat} {q : Nat → Nat} {I : Nat → Int32} {σ : TrS} {f : Int32} (ht : σ.2 ≤ 16) (hk : s_kO f = s_told f) (hs : s_sg f = s_bc32 f) (h3 : s_told f = 1 ∨ s_told f = 2 ∨ s_told f = 3) : Ct l Γ yX11_marked cX11_marked 3 (some .int) 2 [.ref hm, .int f] (wMT Γ hm q I σ) (some (.int (s_mkV f))) (wMT Γ hm q I (s_mkT f σ)) := by
  refine Ct.of mi_X11_marked [some (.ref hm), some (.int f), none] 1 rfl (Nat.le_of_ble_eq_true rfl) ?_
  intro p e s m args below meth c C hr
  refine ww_iload_n (i := 1) C dX11_marked_0 rfl rfl 1 rfl ?_
  refine ww_callS1p C (c_X11_kindOf l Γ) mi_X11_kindOf st_X11_kindOf ml_X11_212 dX11_marked_1 (Nat.le_of_ble_eq_true rfl) (Nat.le_of_ble_eq_true rfl) (Nat.le_of_ble_eq_true rfl) ⟨Nat.zero_le _, Nat.zero_le _⟩ [] rfl (by decide) 4 rfl ?_
  rw [hk]
  rcases h3 with h3 | h3 | h3
  · skip
    rw [h3]
    refine ww_istore_n (i := 2) C dX11_marked_4 rfl (by decide) rfl 5 rfl ?_
    refine ww_iload_n (i := 2) C dX11_marked_5 rfl rfl 6 rfl ?_
    refine ww_iconst (v := 2) C dX11_marked_6 (by decide) 7 rfl ?_
    refine ww_icmp_ne C 16 dX11_marked_7 (by decide) 10 rfl (fun h_7 => ?_) (fun h_7 => ?_)
    · skip
      refine ww_iload_n (i := 2) C dX11_marked_16 rfl rfl 17 rfl ?_
      refine ww_iconst (v := 3) C dX11_marked_17 (by decide) 18 rfl ?_
      refine ww_icmp_ne C 27 dX11_marked_18 (by decide) 21 rfl (fun h_18 => ?_) (fun h_18 => ?_)
      · skip
        refine ww_aload_n (i := 0) C dX11_marked_27 rfl rfl 28 rfl ?_
        refine ww_bipush (v := 20) C dX11_marked_28 (by decide) 30 rfl ?_
        refine ww_callV1v C (c_X11_began l Γ ht) mi_X11_began im_X11_began se_X11_began ml_X11_218 dX11_marked_30 0 rfl rfl rfl (Nat.le_of_ble_eq_true rfl) (Nat.le_of_ble_eq_true rfl) (Nat.le_of_ble_eq_true rfl) ⟨Nat.zero_le _, Nat.zero_le _⟩ [0, 1] rfl (by decide) rfl 33 rfl ?_
        refine ww_eq (ws' := wMT Γ hm q I (s_lM σ)) rfl rfl rfl ?_
        refine ww_iload_n (i := 1) C dX11_marked_33 rfl rfl 34 rfl ?_
        refine ww_iload_n (i := 2) C dX11_marked_34 rfl rfl 35 rfl ?_
        refine ww_iconst (v := 2) C dX11_marked_35 (by decide) 36 rfl ?_
        refine ww_icmp_ne C 44 dX11_marked_36 (by decide) 39 rfl (fun h_36 => ?_) (fun h_36 => ?_)
        · skip
          refine ww_iload_n (i := 2) C dX11_marked_44 rfl rfl 45 rfl ?_
          refine ww_iconst (v := 3) C dX11_marked_45 (by decide) 46 rfl ?_
          refine ww_icmp_ne C 57 dX11_marked_46 (by decide) 49 rfl (fun h_46 => ?_) (fun h_46 => ?_)
          · skip
            refine ww_iconst (v := 0) C dX11_marked_57 (by decide) 58 rfl ?_
            refine ww_iadd C dX11_marked_58 59 rfl ?_
            exact ww_iret C hr dX11_marked_59 (by rw [s_mkV, if_pos h3, Int32.add_zero]) (by rw [s_mkT, if_pos h3])
          · exact absurd h_46 (by decide)
        · exact absurd h_36 (by decide)
      · exact absurd h_18 (by decide)
    · exact absurd h_7 (by decide)
  · skip
    rw [h3]
    refine ww_istore_n (i := 2) C dX11_marked_4 rfl (by decide) rfl 5 rfl ?_
    refine ww_iload_n (i := 2) C dX11_marked_5 rfl rfl 6 rfl ?_
    refine ww_iconst (v := 2) C dX11_marked_6 (by decide) 7 rfl ?_
    refine ww_icmp_ne C 16 dX11_marked_7 (by decide) 10 rfl (fun h_7 => ?_) (fun h_7 => ?_)
    · exact absurd h_7 (by decide)
    · skip
      refine ww_aload_n (i := 0) C dX11_marked_10 rfl rfl 11 rfl ?_
      refine ww_bipush (v := 21) C dX11_marked_11 (by decide) 13 rfl ?_
      refine ww_callV1v C (c_X11_began l Γ ht) mi_X11_began im_X11_began se_X11_began ml_X11_218 dX11_marked_13 0 rfl rfl rfl (Nat.le_of_ble_eq_true rfl) (Nat.le_of_ble_eq_true rfl) (Nat.le_of_ble_eq_true rfl) ⟨Nat.zero_le _, Nat.zero_le _⟩ [0, 1] rfl (by decide) rfl 16 rfl ?_
      refine ww_eq (ws' := wMT Γ hm q I (s_beg σ 21)) rfl rfl rfl ?_
      refine ww_iload_n (i := 2) C dX11_marked_16 rfl rfl 17 rfl ?_
      refine ww_iconst (v := 3) C dX11_marked_17 (by decide) 18 rfl ?_
      refine ww_icmp_ne C 27 dX11_marked_18 (by decide) 21 rfl (fun h_18 => ?_) (fun h_18 => ?_)
      · skip
        refine ww_aload_n (i := 0) C dX11_marked_27 rfl rfl 28 rfl ?_
        refine ww_bipush (v := 20) C dX11_marked_28 (by decide) 30 rfl ?_
        refine ww_callV1v C (c_X11_began l Γ (s_beg_le ht)) mi_X11_began im_X11_began se_X11_began ml_X11_218 dX11_marked_30 0 rfl rfl rfl (Nat.le_of_ble_eq_true rfl) (Nat.le_of_ble_eq_true rfl) (Nat.le_of_ble_eq_true rfl) ⟨Nat.zero_le _, Nat.zero_le _⟩ [0, 1] rfl (by decide) rfl 33 rfl ?_
        refine ww_eq (ws' := wMT Γ hm q I (s_fM σ)) rfl rfl rfl ?_
        refine ww_iload_n (i := 1) C dX11_marked_33 rfl rfl 34 rfl ?_
        refine ww_iload_n (i := 2) C dX11_marked_34 rfl rfl 35 rfl ?_
        refine ww_iconst (v := 2) C dX11_marked_35 (by decide) 36 rfl ?_
        refine ww_icmp_ne C 44 dX11_marked_36 (by decide) 39 rfl (fun h_36 => ?_) (fun h_36 => ?_)
        · exact absurd h_36 (by decide)
        · skip
          refine ww_bipush (v := 100) C dX11_marked_39 (by decide) 41 rfl ?_
          refine ww_goto C 58 dX11_marked_41 (by decide) ?_
          refine ww_iadd C dX11_marked_58 59 rfl ?_
          exact ww_iret C hr dX11_marked_59 (by rw [s_mkV, h3]; rfl) (by rw [s_mkT, h3]; rfl)
      · exact absurd h_18 (by decide)
  · skip
    rw [h3]
    refine ww_istore_n (i := 2) C dX11_marked_4 rfl (by decide) rfl 5 rfl ?_
    refine ww_iload_n (i := 2) C dX11_marked_5 rfl rfl 6 rfl ?_
    refine ww_iconst (v := 2) C dX11_marked_6 (by decide) 7 rfl ?_
    refine ww_icmp_ne C 16 dX11_marked_7 (by decide) 10 rfl (fun h_7 => ?_) (fun h_7 => ?_)
    · skip
      refine ww_iload_n (i := 2) C dX11_marked_16 rfl rfl 17 rfl ?_
      refine ww_iconst (v := 3) C dX11_marked_17 (by decide) 18 rfl ?_
      refine ww_icmp_ne C 27 dX11_marked_18 (by decide) 21 rfl (fun h_18 => ?_) (fun h_18 => ?_)
      · exact absurd h_18 (by decide)
      · skip
        refine ww_aload_n (i := 0) C dX11_marked_21 rfl rfl 22 rfl ?_
        refine ww_bipush (v := 22) C dX11_marked_22 (by decide) 24 rfl ?_
        refine ww_callV1v C (c_X11_began l Γ ht) mi_X11_began im_X11_began se_X11_began ml_X11_218 dX11_marked_24 0 rfl rfl rfl (Nat.le_of_ble_eq_true rfl) (Nat.le_of_ble_eq_true rfl) (Nat.le_of_ble_eq_true rfl) ⟨Nat.zero_le _, Nat.zero_le _⟩ [0, 1] rfl (by decide) rfl 27 rfl ?_
        refine ww_eq (ws' := wMT Γ hm q I (s_beg σ 22)) rfl rfl rfl ?_
        refine ww_aload_n (i := 0) C dX11_marked_27 rfl rfl 28 rfl ?_
        refine ww_bipush (v := 20) C dX11_marked_28 (by decide) 30 rfl ?_
        refine ww_callV1v C (c_X11_began l Γ (s_beg_le ht)) mi_X11_began im_X11_began se_X11_began ml_X11_218 dX11_marked_30 0 rfl rfl rfl (Nat.le_of_ble_eq_true rfl) (Nat.le_of_ble_eq_true rfl) (Nat.le_of_ble_eq_true rfl) ⟨Nat.zero_le _, Nat.zero_le _⟩ [0, 1] rfl (by decide) rfl 33 rfl ?_
        refine ww_eq (ws' := wMT Γ hm q I (s_lM (s_beg σ 22))) rfl rfl rfl ?_
        refine ww_iload_n (i := 1) C dX11_marked_33 rfl rfl 34 rfl ?_
        refine ww_iload_n (i := 2) C dX11_marked_34 rfl rfl 35 rfl ?_
        refine ww_iconst (v := 2) C dX11_marked_35 (by decide) 36 rfl ?_
        refine ww_icmp_ne C 44 dX11_marked_36 (by decide) 39 rfl (fun h_36 => ?_) (fun h_36 => ?_)
        · skip
          refine ww_iload_n (i := 2) C dX11_marked_44 rfl rfl 45 rfl ?_
          refine ww_iconst (v := 3) C dX11_marked_45 (by decide) 46 rfl ?_
          refine ww_icmp_ne C 57 dX11_marked_46 (by decide) 49 rfl (fun h_46 => ?_) (fun h_46 => ?_)
          · exact absurd h_46 (by decide)
          · skip
            refine ww_aload_n (i := 0) C dX11_marked_49 rfl rfl 50 rfl ?_
            refine ww_iload_n (i := 1) C dX11_marked_50 rfl rfl 51 rfl ?_
            refine ww_callV1 C (c_X11_oddSize l Γ (s_lM_le (s_beg_le ht)) hs) mi_X11_oddSize im_X11_oddSize se_X11_oddSize ml_X11_221 dX11_marked_51 0 rfl rfl rfl (Nat.le_of_ble_eq_true rfl) (Nat.le_of_ble_eq_true rfl) (Nat.le_of_ble_eq_true rfl) ⟨Nat.zero_le _, Nat.zero_le _⟩ [0, 1] rfl (by decide) rfl 54 rfl ?_
            refine ww_eq (ws' := wMT Γ hm q I (s_oM σ)) rfl rfl rfl ?_
            refine ww_goto C 58 dX11_marked_54 (by decide) ?_
            refine ww_iadd C dX11_marked_58 59 rfl ?_
            exact ww_iret C hr dX11_marked_59 (by rw [s_mkV, h3]; rfl) (by rw [s_mkT, h3]; rfl)
        · exact absurd h_36 (by decide)
    · exact absurd h_7 (by decide)
theorem c_X11_sized (l : Launch) (Γ : Gm) {hm : Nat} {q : Nat → Nat} {I : Nat → Int32} {σ : TrS} {f : Int32} (ht : σ.2 ≤ 16) (hk : s_kO f = s_told f) (hs : s_sg f = s_bc32 f) (h3 : s_told f = 1 ∨ s_told f = 2 ∨ s_told f = 3) : Ct l Γ yX11_sized cX11_sized 4 (some .int) 3 [.ref hm, .int f] (wMT Γ hm q I σ) (some (.int (s_szV f))) (wMT Γ hm q I (s_szT f σ)) := by
  refine Ct.of mi_X11_sized [some (.ref hm), some (.int f), none, none] 2 rfl (Nat.le_of_ble_eq_true rfl) ?_
  intro p e s m args below meth c C hr
  refine ww_iload_n (i := 1) C dX11_sized_0 rfl rfl 1 rfl ?_
  refine ww_callS1p C (c_X11_kindOf l Γ) mi_X11_kindOf st_X11_kindOf ml_X11_212 dX11_sized_1 (Nat.le_of_ble_eq_true rfl) (Nat.le_of_ble_eq_true rfl) (Nat.le_of_ble_eq_true rfl) ⟨Nat.zero_le _, Nat.zero_le _⟩ [] rfl (by decide) 4 rfl ?_
  rw [hk]
  have h39 := h3
  rcases h3 with h3 | h3 | h3
  · skip
    rw [h3]
    refine ww_istore_n (i := 2) C dX11_sized_4 rfl (by decide) rfl 5 rfl ?_
    refine ww_iload_n (i := 2) C dX11_sized_5 rfl rfl 6 rfl ?_
    refine ww_iconst (v := 3) C dX11_sized_6 (by decide) 7 rfl ?_
    refine ww_icmp_ne C 16 dX11_sized_7 (by decide) 10 rfl (fun h_7 => ?_) (fun h_7 => ?_)
    · skip
      refine ww_iload_n (i := 2) C dX11_sized_16 rfl rfl 17 rfl ?_
      refine ww_iconst (v := 2) C dX11_sized_17 (by decide) 18 rfl ?_
      refine ww_icmp_ne C 27 dX11_sized_18 (by decide) 21 rfl (fun h_18 => ?_) (fun h_18 => ?_)
      · skip
        refine ww_aload_n (i := 0) C dX11_sized_27 rfl rfl 28 rfl ?_
        refine ww_bipush (v := 11) C dX11_sized_28 (by decide) 30 rfl ?_
        refine ww_callV1v C (c_X11_began l Γ ht) mi_X11_began im_X11_began se_X11_began ml_X11_218 dX11_sized_30 0 rfl rfl rfl (Nat.le_of_ble_eq_true rfl) (Nat.le_of_ble_eq_true rfl) (Nat.le_of_ble_eq_true rfl) ⟨Nat.zero_le _, Nat.zero_le _⟩ [0, 1] rfl (by decide) rfl 33 rfl ?_
        refine ww_eq (ws' := wMT Γ hm q I (s_beg σ 11)) rfl rfl rfl ?_
        refine ww_aload_n (i := 0) C dX11_sized_33 rfl rfl 34 rfl ?_
        refine ww_bipush (v := 10) C dX11_sized_34 (by decide) 36 rfl ?_
        refine ww_callV1v C (c_X11_began l Γ (s_beg_le ht)) mi_X11_began im_X11_began se_X11_began ml_X11_218 dX11_sized_36 0 rfl rfl rfl (Nat.le_of_ble_eq_true rfl) (Nat.le_of_ble_eq_true rfl) (Nat.le_of_ble_eq_true rfl) ⟨Nat.zero_le _, Nat.zero_le _⟩ [0, 1] rfl (by decide) rfl 39 rfl ?_
        refine ww_eq (ws' := wMT Γ hm q I (s_eS σ)) rfl rfl rfl ?_
        refine ww_bipush (v := 8) C dX11_sized_39 (by decide) 41 rfl ?_
        refine ww_iload_n (i := 1) C dX11_sized_41 rfl rfl 42 rfl ?_
        refine ww_callS1p C (c_X11_singles l Γ) mi_X11_singles st_X11_singles ml_X11_102 dX11_sized_42 (Nat.le_of_ble_eq_true rfl) (Nat.le_of_ble_eq_true rfl) (Nat.le_of_ble_eq_true rfl) ⟨Nat.zero_le _, Nat.zero_le _⟩ [] rfl (by decide) 45 rfl ?_
        refine ww_isub C dX11_sized_45 46 rfl ?_
        refine ww_iload_n (i := 1) C dX11_sized_46 rfl rfl 47 rfl ?_
        refine ww_iadd C dX11_sized_47 48 rfl ?_
        refine ww_istore_n (i := 3) C dX11_sized_48 rfl (by decide) rfl 49 rfl ?_
        refine ww_iload_n (i := 2) C dX11_sized_49 rfl rfl 50 rfl ?_
        refine ww_iconst (v := 2) C dX11_sized_50 (by decide) 51 rfl ?_
        refine ww_icmp_ne C 64 dX11_sized_51 (by decide) 54 rfl (fun h_51 => ?_) (fun h_51 => ?_)
        · skip
          refine ww_iload_n (i := 3) C dX11_sized_64 rfl rfl 65 rfl ?_
          exact ww_iret C hr dX11_sized_65 (by rw [s_szV, if_pos h3, hs]; rfl) (by rw [s_szT, if_pos h3])
        · exact absurd h_51 (by decide)
      · exact absurd h_18 (by decide)
    · exact absurd h_7 (by decide)
  · skip
    rw [h3]
    refine ww_istore_n (i := 2) C dX11_sized_4 rfl (by decide) rfl 5 rfl ?_
    refine ww_iload_n (i := 2) C dX11_sized_5 rfl rfl 6 rfl ?_
    refine ww_iconst (v := 3) C dX11_sized_6 (by decide) 7 rfl ?_
    refine ww_icmp_ne C 16 dX11_sized_7 (by decide) 10 rfl (fun h_7 => ?_) (fun h_7 => ?_)
    · skip
      refine ww_iload_n (i := 2) C dX11_sized_16 rfl rfl 17 rfl ?_
      refine ww_iconst (v := 2) C dX11_sized_17 (by decide) 18 rfl ?_
      refine ww_icmp_ne C 27 dX11_sized_18 (by decide) 21 rfl (fun h_18 => ?_) (fun h_18 => ?_)
      · exact absurd h_18 (by decide)
      · skip
        refine ww_aload_n (i := 0) C dX11_sized_21 rfl rfl 22 rfl ?_
        refine ww_bipush (v := 12) C dX11_sized_22 (by decide) 24 rfl ?_
        refine ww_callV1v C (c_X11_began l Γ ht) mi_X11_began im_X11_began se_X11_began ml_X11_218 dX11_sized_24 0 rfl rfl rfl (Nat.le_of_ble_eq_true rfl) (Nat.le_of_ble_eq_true rfl) (Nat.le_of_ble_eq_true rfl) ⟨Nat.zero_le _, Nat.zero_le _⟩ [0, 1] rfl (by decide) rfl 27 rfl ?_
        refine ww_eq (ws' := wMT Γ hm q I (s_beg σ 12)) rfl rfl rfl ?_
        refine ww_aload_n (i := 0) C dX11_sized_27 rfl rfl 28 rfl ?_
        refine ww_bipush (v := 11) C dX11_sized_28 (by decide) 30 rfl ?_
        refine ww_callV1v C (c_X11_began l Γ (s_beg_le ht)) mi_X11_began im_X11_began se_X11_began ml_X11_218 dX11_sized_30 0 rfl rfl rfl (Nat.le_of_ble_eq_true rfl) (Nat.le_of_ble_eq_true rfl) (Nat.le_of_ble_eq_true rfl) ⟨Nat.zero_le _, Nat.zero_le _⟩ [0, 1] rfl (by decide) rfl 33 rfl ?_
        refine ww_eq (ws' := wMT Γ hm q I (s_beg (s_beg σ 12) 11)) rfl rfl rfl ?_
        refine ww_aload_n (i := 0) C dX11_sized_33 rfl rfl 34 rfl ?_
        refine ww_bipush (v := 10) C dX11_sized_34 (by decide) 36 rfl ?_
        refine ww_callV1v C (c_X11_began l Γ (s_beg_le (s_beg_le ht))) mi_X11_began im_X11_began se_X11_began ml_X11_218 dX11_sized_36 0 rfl rfl rfl (Nat.le_of_ble_eq_true rfl) (Nat.le_of_ble_eq_true rfl) (Nat.le_of_ble_eq_true rfl) ⟨Nat.zero_le _, Nat.zero_le _⟩ [0, 1] rfl (by decide) rfl 39 rfl ?_
        refine ww_eq (ws' := wMT Γ hm q I (s_eS (s_beg σ 12))) rfl rfl rfl ?_
        refine ww_bipush (v := 8) C dX11_sized_39 (by decide) 41 rfl ?_
        refine ww_iload_n (i := 1) C dX11_sized_41 rfl rfl 42 rfl ?_
        refine ww_callS1p C (c_X11_singles l Γ) mi_X11_singles st_X11_singles ml_X11_102 dX11_sized_42 (Nat.le_of_ble_eq_true rfl) (Nat.le_of_ble_eq_true rfl) (Nat.le_of_ble_eq_true rfl) ⟨Nat.zero_le _, Nat.zero_le _⟩ [] rfl (by decide) 45 rfl ?_
        refine ww_isub C dX11_sized_45 46 rfl ?_
        refine ww_iload_n (i := 1) C dX11_sized_46 rfl rfl 47 rfl ?_
        refine ww_iadd C dX11_sized_47 48 rfl ?_
        refine ww_istore_n (i := 3) C dX11_sized_48 rfl (by decide) rfl 49 rfl ?_
        refine ww_iload_n (i := 2) C dX11_sized_49 rfl rfl 50 rfl ?_
        refine ww_iconst (v := 2) C dX11_sized_50 (by decide) 51 rfl ?_
        refine ww_icmp_ne C 64 dX11_sized_51 (by decide) 54 rfl (fun h_51 => ?_) (fun h_51 => ?_)
        · exact absurd h_51 (by decide)
        · skip
          refine ww_iload_n (i := 3) C dX11_sized_54 rfl rfl 55 rfl ?_
          refine ww_aload_n (i := 0) C dX11_sized_55 rfl rfl 56 rfl ?_
          refine ww_iload_n (i := 1) C dX11_sized_56 rfl rfl 57 rfl ?_
          refine ww_callV1 C (c_X11_marked l Γ (s_eS_le (s_beg_le ht)) hk hs h39) mi_X11_marked im_X11_marked se_X11_marked ml_X11_224 dX11_sized_57 0 rfl rfl rfl (Nat.le_of_ble_eq_true rfl) (Nat.le_of_ble_eq_true rfl) (Nat.le_of_ble_eq_true rfl) ⟨Nat.zero_le _, Nat.zero_le _⟩ [0, 1] rfl (by decide) rfl 60 rfl ?_
          refine ww_eq (ws' := wMT Γ hm q I (s_mkT f (s_eS (s_beg σ 12)))) rfl rfl rfl ?_
          refine ww_iadd C dX11_sized_60 61 rfl ?_
          refine ww_goto C 65 dX11_sized_61 (by decide) ?_
          exact ww_iret C hr dX11_sized_65 (by rw [s_szV, h3, hs, s_mkV, h3]; rfl) (by rw [s_szT, h3, s_mkT, h3]; rfl)
    · exact absurd h_7 (by decide)
  · skip
    rw [h3]
    refine ww_istore_n (i := 2) C dX11_sized_4 rfl (by decide) rfl 5 rfl ?_
    refine ww_iload_n (i := 2) C dX11_sized_5 rfl rfl 6 rfl ?_
    refine ww_iconst (v := 3) C dX11_sized_6 (by decide) 7 rfl ?_
    refine ww_icmp_ne C 16 dX11_sized_7 (by decide) 10 rfl (fun h_7 => ?_) (fun h_7 => ?_)
    · exact absurd h_7 (by decide)
    · skip
      refine ww_aload_n (i := 0) C dX11_sized_10 rfl rfl 11 rfl ?_
      refine ww_iload_n (i := 1) C dX11_sized_11 rfl rfl 12 rfl ?_
      refine ww_callV1 C (c_X11_oddSize l Γ ht hs) mi_X11_oddSize im_X11_oddSize se_X11_oddSize ml_X11_221 dX11_sized_12 0 rfl rfl rfl (Nat.le_of_ble_eq_true rfl) (Nat.le_of_ble_eq_true rfl) (Nat.le_of_ble_eq_true rfl) ⟨Nat.zero_le _, Nat.zero_le _⟩ [0, 1] rfl (by decide) rfl 15 rfl ?_
      refine ww_eq (ws' := wMT Γ hm q I (s_oS σ)) rfl rfl rfl ?_
      exact ww_iret C hr dX11_sized_15 (by rw [s_szV, h3]; rfl) (by rw [s_szT, h3]; rfl)
theorem i01 {k : Int32} (h0 : ¬ k < 0) (h1 : ¬ 1 < k) : k = 0 ∨ k = 1 := by
  obtain ⟨j, hj, rfl⟩ := nI_of h0
  have := (not_congr (nI_ltI (a := 1) (b := j) (by decide) hj)).mp h1
  rcases (show j = 0 ∨ j = 1 by omega) with q | q
  · left; rw [q]; rfl
  · right; rw [q]; rfl
theorem c_X11_ask_bad (l : Launch) (Γ : Gm) {hm : Nat} {q : Nat → Nat} {I : Nat → Int32} {a k : Int32} (hb : ¬ (¬ a < 0 ∧ ¬ 15 < a) ∨ (¬ k = 0 ∧ ¬ k = 1)) : Ct l Γ yX11_ask cX11_ask 3 (some .int) 5 [.ref hm, .int a, .int k] ([wMo hm q (I)]) (some (.int (-1000001))) ([wMo hm q (upd I 0 (0))]) := by
  refine Ct.of mi_X11_ask [some (.ref hm), some (.int a), some (.int k)] 0 rfl (Nat.le_of_ble_eq_true rfl) ?_
  intro p e s m args below meth c C hr
  refine ww_aload_n (i := 0) C dX11_ask_0 rfl rfl 1 rfl ?_
  refine ww_iconst (v := 0) C dX11_ask_1 (by decide) 2 rfl ?_
  refine ww_mput_0 C fe_X11_52 dX11_ask_2 5 rfl ?_
  refine ww_iload_n (i := 1) C dX11_ask_5 rfl rfl 6 rfl ?_
  refine ww_callS1p C (c_X11_isFigure16 l Γ) mi_X11_isFigure16 st_X11_isFigure16 ml_X11_90 dX11_ask_6 (Nat.le_of_ble_eq_true rfl) (Nat.le_of_ble_eq_true rfl) (Nat.le_of_ble_eq_true rfl) ⟨Nat.zero_le _, Nat.zero_le _⟩ [] rfl (by decide) 9 rfl ?_
  refine ww_if_eq C 22 dX11_ask_9 (by decide) 12 rfl (fun h_9 => ?_) (fun h_9 => ?_)
  · skip
    refine ww_ldc C cn_X11_72 dX11_ask_22 24 rfl ?_
    exact ww_iret C hr dX11_ask_24 rfl rfl
  · skip
    refine ww_iload_n (i := 2) C dX11_ask_12 rfl rfl 13 rfl ?_
    refine ww_i2l C dX11_ask_13 14 rfl ?_
    refine ww_lconst (v := 0) C dX11_ask_14 (by decide) 15 rfl ?_
    refine ww_lconst (v := 1) C dX11_ask_15 (by decide) 16 rfl ?_
    refine ww_callS3p C (c_X11_in l Γ) mi_X11_in st_X11_in ml_X11_62 dX11_ask_16 (Nat.le_of_ble_eq_true rfl) (Nat.le_of_ble_eq_true rfl) (Nat.le_of_ble_eq_true rfl) ⟨Nat.zero_le _, Nat.zero_le _⟩ [] rfl (by decide) 19 rfl ?_
    refine ww_if_ne C 25 dX11_ask_19 (by decide) 22 rfl (fun h_19 => ?_) (fun h_19 => ?_)
    · exact absurd hb (fun q => q.elim (fun z => z (bI_n0 h_9)) (fun z => absurd (i01 (fun w => (bI_n0 h_19).1 ((i64_lt (x := k) (y := 0)).mpr w)) (fun w => (bI_n0 h_19).2 ((i64_lt (x := 1) (y := k)).mpr w))) (fun y => y.elim z.1 z.2)))
    · skip
      refine ww_ldc C cn_X11_72 dX11_ask_22 24 rfl ?_
      exact ww_iret C hr dX11_ask_24 rfl rfl
theorem c_X11_ask_0 (l : Launch) (Γ : Gm) {hm : Nat} {q : Nat → Nat} {I : Nat → Int32} {a : Int32} {σ : TrS} (h1 : (¬ a < 0 ∧ ¬ 15 < a)) (hk : s_kO a = s_told a) (hs : s_sg a = s_bc32 a) (h3 : s_told a = 1 ∨ s_told a = 2 ∨ s_told a = 3) : Ct l Γ yX11_ask cX11_ask 3 (some .int) 5 [.ref hm, .int a, .int 0] ([wMo hm q I, (q 28, .inl (Γ.2.1, 16, .inl σ.1))]) (some (.int (s_szV a))) ([wMo hm q (upd (upd I 0 0) 29 (nI (s_szT a (σ.1, 0)).2)), (q 28, .inl (Γ.2.1, 16, .inl (s_szT a (σ.1, 0)).1))]) := by
  refine Ct.of mi_X11_ask [some (.ref hm), some (.int a), some (.int 0)] 0 rfl (Nat.le_of_ble_eq_true rfl) ?_
  intro p e s m args below meth c C hr
  refine ww_aload_n (i := 0) C dX11_ask_0 rfl rfl 1 rfl ?_
  refine ww_iconst (v := 0) C dX11_ask_1 (by decide) 2 rfl ?_
  refine ww_mput_0 C fe_X11_52 dX11_ask_2 5 rfl ?_
  refine ww_iload_n (i := 1) C dX11_ask_5 rfl rfl 6 rfl ?_
  refine ww_callS1p C (c_X11_isFigure16 l Γ) mi_X11_isFigure16 st_X11_isFigure16 ml_X11_90 dX11_ask_6 (Nat.le_of_ble_eq_true rfl) (Nat.le_of_ble_eq_true rfl) (Nat.le_of_ble_eq_true rfl) ⟨Nat.zero_le _, Nat.zero_le _⟩ [] rfl (by decide) 9 rfl ?_
  refine ww_if_eq C 22 dX11_ask_9 (by decide) 12 rfl (fun h_9 => ?_) (fun h_9 => ?_)
  · exact absurd h1 (bI_e0 h_9)
  · skip
    refine ww_iload_n (i := 2) C dX11_ask_12 rfl rfl 13 rfl ?_
    refine ww_i2l C dX11_ask_13 14 rfl ?_
    refine ww_lconst (v := 0) C dX11_ask_14 (by decide) 15 rfl ?_
    refine ww_lconst (v := 1) C dX11_ask_15 (by decide) 16 rfl ?_
    refine ww_callS3p C (c_X11_in l Γ) mi_X11_in st_X11_in ml_X11_62 dX11_ask_16 (Nat.le_of_ble_eq_true rfl) (Nat.le_of_ble_eq_true rfl) (Nat.le_of_ble_eq_true rfl) ⟨Nat.zero_le _, Nat.zero_le _⟩ [] rfl (by decide) 19 rfl ?_
    refine ww_if_ne C 25 dX11_ask_19 (by decide) 22 rfl (fun h_19 => ?_) (fun h_19 => ?_)
    · skip
      refine ww_aload_n (i := 0) C dX11_ask_25 rfl rfl 26 rfl ?_
      refine ww_iconst (v := 0) C dX11_ask_26 (by decide) 27 rfl ?_
      refine ww_mput_29 C fe_X11_215 dX11_ask_27 30 rfl ?_
      refine ww_eq (ws' := [wMo hm q (upd (upd I 0 0) 29 (nI ((σ.1, 0) : TrS).2)), (q 28, .inl (Γ.2.1, 16, .inl ((σ.1, 0) : TrS).1))]) rfl rfl rfl ?_
      refine ww_iload_n (i := 2) C dX11_ask_30 rfl rfl 31 rfl ?_
      refine ww_if_ne C 42 dX11_ask_31 (by decide) 34 rfl (fun h_31 => ?_) (fun h_31 => ?_)
      · exact absurd h_31 (by decide)
      · skip
        refine ww_aload_n (i := 0) C dX11_ask_34 rfl rfl 35 rfl ?_
        refine ww_iload_n (i := 1) C dX11_ask_35 rfl rfl 36 rfl ?_
        refine ww_callV1 C (c_X11_sized l Γ (σ := (σ.1, 0)) (I := upd I 0 0) (Nat.zero_le _) hk hs h3) mi_X11_sized im_X11_sized se_X11_sized ml_X11_227 dX11_ask_36 0 rfl rfl rfl (Nat.le_of_ble_eq_true rfl) (Nat.le_of_ble_eq_true rfl) (Nat.le_of_ble_eq_true rfl) ⟨Nat.zero_le _, Nat.zero_le _⟩ [0, 1] rfl (by decide) rfl 39 rfl ?_
        refine ww_goto C 47 dX11_ask_39 (by decide) ?_
        exact ww_iret C hr dX11_ask_47 rfl rfl
    · exact absurd (show ¬ Int32.toInt64 0 < Int32.toInt64 0 ∧ ¬ Int32.toInt64 1 < Int32.toInt64 0 by decide) (bI_e0 h_19)
theorem c_X11_ask_1 (l : Launch) (Γ : Gm) {hm : Nat} {q : Nat → Nat} {I : Nat → Int32} {a : Int32} {σ : TrS} (h1 : (¬ a < 0 ∧ ¬ 15 < a)) (hk : s_kO a = s_told a) (hs : s_sg a = s_bc32 a) (h3 : s_told a = 1 ∨ s_told a = 2 ∨ s_told a = 3) : Ct l Γ yX11_ask cX11_ask 3 (some .int) 5 [.ref hm, .int a, .int 1] ([wMo hm q I, (q 28, .inl (Γ.2.1, 16, .inl σ.1))]) (some (.int (s_mkV a))) ([wMo hm q (upd (upd I 0 0) 29 (nI (s_mkT a (σ.1, 0)).2)), (q 28, .inl (Γ.2.1, 16, .inl (s_mkT a (σ.1, 0)).1))]) := by
  refine Ct.of mi_X11_ask [some (.ref hm), some (.int a), some (.int 1)] 0 rfl (Nat.le_of_ble_eq_true rfl) ?_
  intro p e s m args below meth c C hr
  refine ww_aload_n (i := 0) C dX11_ask_0 rfl rfl 1 rfl ?_
  refine ww_iconst (v := 0) C dX11_ask_1 (by decide) 2 rfl ?_
  refine ww_mput_0 C fe_X11_52 dX11_ask_2 5 rfl ?_
  refine ww_iload_n (i := 1) C dX11_ask_5 rfl rfl 6 rfl ?_
  refine ww_callS1p C (c_X11_isFigure16 l Γ) mi_X11_isFigure16 st_X11_isFigure16 ml_X11_90 dX11_ask_6 (Nat.le_of_ble_eq_true rfl) (Nat.le_of_ble_eq_true rfl) (Nat.le_of_ble_eq_true rfl) ⟨Nat.zero_le _, Nat.zero_le _⟩ [] rfl (by decide) 9 rfl ?_
  refine ww_if_eq C 22 dX11_ask_9 (by decide) 12 rfl (fun h_9 => ?_) (fun h_9 => ?_)
  · exact absurd h1 (bI_e0 h_9)
  · skip
    refine ww_iload_n (i := 2) C dX11_ask_12 rfl rfl 13 rfl ?_
    refine ww_i2l C dX11_ask_13 14 rfl ?_
    refine ww_lconst (v := 0) C dX11_ask_14 (by decide) 15 rfl ?_
    refine ww_lconst (v := 1) C dX11_ask_15 (by decide) 16 rfl ?_
    refine ww_callS3p C (c_X11_in l Γ) mi_X11_in st_X11_in ml_X11_62 dX11_ask_16 (Nat.le_of_ble_eq_true rfl) (Nat.le_of_ble_eq_true rfl) (Nat.le_of_ble_eq_true rfl) ⟨Nat.zero_le _, Nat.zero_le _⟩ [] rfl (by decide) 19 rfl ?_
    refine ww_if_ne C 25 dX11_ask_19 (by decide) 22 rfl (fun h_19 => ?_) (fun h_19 => ?_)
    · skip
      refine ww_aload_n (i := 0) C dX11_ask_25 rfl rfl 26 rfl ?_
      refine ww_iconst (v := 0) C dX11_ask_26 (by decide) 27 rfl ?_
      refine ww_mput_29 C fe_X11_215 dX11_ask_27 30 rfl ?_
      refine ww_eq (ws' := [wMo hm q (upd (upd I 0 0) 29 (nI ((σ.1, 0) : TrS).2)), (q 28, .inl (Γ.2.1, 16, .inl ((σ.1, 0) : TrS).1))]) rfl rfl rfl ?_
      refine ww_iload_n (i := 2) C dX11_ask_30 rfl rfl 31 rfl ?_
      refine ww_if_ne C 42 dX11_ask_31 (by decide) 34 rfl (fun h_31 => ?_) (fun h_31 => ?_)
      · skip
        refine ww_aload_n (i := 0) C dX11_ask_42 rfl rfl 43 rfl ?_
        refine ww_iload_n (i := 1) C dX11_ask_43 rfl rfl 44 rfl ?_
        refine ww_callV1 C (c_X11_marked l Γ (σ := (σ.1, 0)) (I := upd I 0 0) (Nat.zero_le _) hk hs h3) mi_X11_marked im_X11_marked se_X11_marked ml_X11_224 dX11_ask_44 0 rfl rfl rfl (Nat.le_of_ble_eq_true rfl) (Nat.le_of_ble_eq_true rfl) (Nat.le_of_ble_eq_true rfl) ⟨Nat.zero_le _, Nat.zero_le _⟩ [0, 1] rfl (by decide) rfl 47 rfl ?_
        exact ww_iret C hr dX11_ask_47 rfl rfl
      · exact absurd h_31 (by decide)
    · exact absurd (show ¬ Int32.toInt64 1 < Int32.toInt64 0 ∧ ¬ Int32.toInt64 1 < Int32.toInt64 1 by decide) (bI_e0 h_19)
theorem rg_iff {t : Nat} {a : Int32} (hs : t ≤ 100) : (¬ a.toInt64 < Int32.toInt64 0 ∧ ¬ (nI t - 1).toInt64 < a.toInt64) ↔ (¬ a < 0 ∧ ¬ nI t ≤ a) := by
  rw [i64_lt, i64_lt]
  refine and_congr Iff.rfl (not_congr ?_)
  rw [Int32.lt_iff_toInt_lt, Int32.le_iff_toInt_le, nI_toInt (by omega), show (1 : Int32) = nI 1 from rfl, pk_sub_toInt (by omega) (by decide)]
  omega
theorem c_X11_trace (l : Launch) (Γ : Gm) {hm : Nat} {q : Nat → Nat} {I : Nat → Int32} {a : Int32} {σ : TrS} (ht : σ.2 ≤ 16) (h29 : I 29 = nI σ.2) : Ct l Γ yX11_trace cX11_trace 2 (some .int) 4 [.ref hm, .int a] ([wMo hm q I, (q 28, .inl (Γ.2.1, 16, .inl σ.1))]) (some (.int (if a < 0 then -1000000 else if nI σ.2 ≤ a then -1000000 else σ.1 a.toNatClampNeg))) ([wMo hm q (upd I 0 0), (q 28, .inl (Γ.2.1, 16, .inl σ.1))]) := by
  refine Ct.of mi_X11_trace [some (.ref hm), some (.int a)] 0 rfl (Nat.le_of_ble_eq_true rfl) ?_
  intro p e s m args below meth c C hr
  refine ww_aload_n (i := 0) C dX11_trace_0 rfl rfl 1 rfl ?_
  refine ww_iconst (v := 0) C dX11_trace_1 (by decide) 2 rfl ?_
  refine ww_mput_0 C fe_X11_52 dX11_trace_2 5 rfl ?_
  refine ww_iload_n (i := 1) C dX11_trace_5 rfl rfl 6 rfl ?_
  refine ww_i2l C dX11_trace_6 7 rfl ?_
  refine ww_lconst (v := 0) C dX11_trace_7 (by decide) 8 rfl ?_
  refine ww_aload_n (i := 0) C dX11_trace_8 rfl rfl 9 rfl ?_
  refine ww_get C fe_X11_215 dX11_trace_9 0 rfl rfl 12 rfl ?_
  rw [show upd I 0 0 29 = nI σ.2 from h29]
  refine ww_iconst (v := 1) C dX11_trace_12 (by decide) 13 rfl ?_
  refine ww_isub C dX11_trace_13 14 rfl ?_
  refine ww_i2l C dX11_trace_14 15 rfl ?_
  refine ww_callS3p C (c_X11_in l Γ) mi_X11_in st_X11_in ml_X11_62 dX11_trace_15 (Nat.le_of_ble_eq_true rfl) (Nat.le_of_ble_eq_true rfl) (Nat.le_of_ble_eq_true rfl) ⟨Nat.zero_le _, Nat.zero_le _⟩ [] rfl (by decide) 18 rfl ?_
  refine ww_if_eq C 30 dX11_trace_18 (by decide) 21 rfl (fun h_18 => ?_) (fun h_18 => ?_)
  · skip
    have hz := (not_congr (rg_iff (by omega))).mp (bI_e0 h_18)
    refine ww_ldc C cn_X11_100 dX11_trace_30 32 rfl ?_
    exact ww_iret C hr dX11_trace_32 (by first | rw [if_neg hz.1, if_neg hz.2] | (by_cases q : a < 0; rw [if_pos q]; rw [if_neg q, if_pos (Decidable.byContradiction fun z => hz ⟨q, z⟩)])) rfl
  · skip
    have hz := (rg_iff (by omega)).mp (bI_n0 h_18)
    refine ww_aload_n (i := 0) C dX11_trace_21 rfl rfl 22 rfl ?_
    refine ww_get C fe_X11_49 dX11_trace_22 0 rfl rfl 25 rfl ?_
    refine ww_iload_n (i := 1) C dX11_trace_25 rfl rfl 26 rfl ?_
    refine ww_iald C dX11_trace_26 1 rfl (in_of_lt hz.1 hz.2 ht (by decide)) 27 rfl ?_
    refine ww_goto C 32 dX11_trace_27 (by decide) ?_
    exact ww_iret C hr dX11_trace_32 (by first | rw [if_neg hz.1, if_neg hz.2] | (by_cases q : a < 0; rw [if_pos q]; rw [if_neg q, if_pos (Decidable.byContradiction fun z => hz ⟨q, z⟩)])) rfl
theorem c_X11_cameSo (l : Launch) (Γ : Gm) {hm : Nat} {q : Nat → Nat} {I : Nat → Int32} {z : Nat} {en : Nat → Int32} {k9 : Int32} (h25 : I 25 = nI z) (hz : z ≤ 100) : Ct l Γ yX11_cameSo cX11_cameSo 4 (some .int) 0 [.ref hm, .int k9] ([wMo hm q (I), (q 27, .inl (Γ.2.1, 100, .inl (en)))]) (some (.int (s_cnt en (fun _ => true) k9 z))) ([wMo hm q (I), (q 27, .inl (Γ.2.1, 100, .inl (en)))]) := by
  refine Ct.of mi_X11_cameSo [some (.ref hm), some (.int k9), none, none] 2 rfl (Nat.le_of_ble_eq_true rfl) ?_
  intro p e s m args below meth c C hr
  refine ww_iconst (v := 0) C dX11_cameSo_0 (by decide) 1 rfl ?_
  refine ww_istore_n (i := 2) C dX11_cameSo_1 rfl (by decide) rfl 2 rfl ?_
  refine ww_iconst (v := 0) C dX11_cameSo_2 (by decide) 3 rfl ?_
  refine ww_istore_n (i := 3) C dX11_cameSo_3 rfl (by decide) rfl 4 rfl ?_
  refine ww_loop (fun k : Nat => z - k) (fun k => k ≤ z) (fun _ => [wMo hm q (I), (q 27, .inl (Γ.2.1, 100, .inl (en)))]) (fun k => [some (.ref hm), some (.int k9), some (.int (s_cnt en (fun _ => true) k9 k)), some (.int (nI k))]) (0 : Nat) (by omega) rfl rfl (fun k hk ih => ?_)
  try dsimp only at hk ih ⊢
  refine ww_iload_n (i := 3) C dX11_cameSo_4 rfl rfl 5 rfl ?_
  refine ww_aload_n (i := 0) C dX11_cameSo_5 rfl rfl 6 rfl ?_
  refine ww_get C fe_X11_198 dX11_cameSo_6 0 rfl rfl 9 rfl ?_
  rw [h25]
  refine ww_icmp_ge C 36 dX11_cameSo_9 (by decide) 12 rfl (fun h_9 => ?_) (fun h_9 => ?_)
  · skip
    obtain rfl : k = z := eqN h_9 hk (by omega)
    refine ww_iload_n (i := 2) C dX11_cameSo_36 rfl rfl 37 rfl ?_
    exact ww_iret C hr dX11_cameSo_37 rfl rfl
  · skip
    have hlt : k < z := ltN h_9 (by omega) (by omega)
    refine ww_iload_n (i := 2) C dX11_cameSo_12 rfl rfl 13 rfl ?_
    refine ww_aload_n (i := 0) C dX11_cameSo_13 rfl rfl 14 rfl ?_
    refine ww_get C fe_X11_46 dX11_cameSo_14 0 rfl rfl 17 rfl ?_
    refine ww_iload_n (i := 3) C dX11_cameSo_17 rfl rfl 18 rfl ?_
    refine ww_iald C dX11_cameSo_18 1 rfl (vp_in_nI (by omega) (by decide)) 19 rfl ?_
    rw [nI_clamp (show k < 2 ^ 31 by omega)]
    refine ww_iload_n (i := 1) C dX11_cameSo_19 rfl rfl 20 rfl ?_
    refine ww_icmp_ne C 27 dX11_cameSo_20 (by decide) 23 rfl (fun h_20 => ?_) (fun h_20 => ?_)
    · skip
      refine ww_iconst (v := 0) C dX11_cameSo_27 (by decide) 28 rfl ?_
      refine ww_iadd C dX11_cameSo_28 29 rfl ?_
      refine ww_istore_n (i := 2) C dX11_cameSo_29 rfl (by decide) rfl 30 rfl ?_
      refine ww_iinc (y := 1) C dX11_cameSo_30 rfl (by decide) (by decide) rfl 33 rfl ?_
      refine ww_goto C 4 dX11_cameSo_33 (by decide) ?_
      refine ww_eq rfl ?_ rfl (ih (k + 1) (by omega) (by omega))
      rw [s_cnt, nI_succ k]
      first
        | (rw [if_pos ⟨h_20, rfl⟩]; rfl)
        | (rw [if_neg (fun q => h_20 q.1), Int32.add_zero]; rfl)
    · skip
      refine ww_iconst (v := 1) C dX11_cameSo_23 (by decide) 24 rfl ?_
      refine ww_goto C 28 dX11_cameSo_24 (by decide) ?_
      refine ww_iadd C dX11_cameSo_28 29 rfl ?_
      refine ww_istore_n (i := 2) C dX11_cameSo_29 rfl (by decide) rfl 30 rfl ?_
      refine ww_iinc (y := 1) C dX11_cameSo_30 rfl (by decide) (by decide) rfl 33 rfl ?_
      refine ww_goto C 4 dX11_cameSo_33 (by decide) ?_
      refine ww_eq rfl ?_ rfl (ih (k + 1) (by omega) (by omega))
      rw [s_cnt, nI_succ k]
      first
        | (rw [if_pos ⟨h_20, rfl⟩]; rfl)
        | (rw [if_neg (fun q => h_20 q.1), Int32.add_zero]; rfl)
theorem c_X11_rec_bad (l : Launch) (Γ : Gm) {hm : Nat} {q : Nat → Nat} {I : Nat → Int32} {c9 : Int32} (hb : ¬ (¬ c9 < 0 ∧ ¬ 2 < c9)) : Ct l Γ yX11_record cX11_record 2 (some .int) 4 [.ref hm, .int c9] ([wMo hm q (I)]) (some (.int (-1000001))) ([wMo hm q (upd I 0 (0))]) := by
  refine Ct.of mi_X11_record [some (.ref hm), some (.int c9)] 0 rfl (Nat.le_of_ble_eq_true rfl) ?_
  intro p e s m args below meth c C hr
  refine ww_aload_n (i := 0) C dX11_record_0 rfl rfl 1 rfl ?_
  refine ww_iconst (v := 0) C dX11_record_1 (by decide) 2 rfl ?_
  refine ww_mput_0 C fe_X11_52 dX11_record_2 5 rfl ?_
  refine ww_iload_n (i := 1) C dX11_record_5 rfl rfl 6 rfl ?_
  refine ww_i2l C dX11_record_6 7 rfl ?_
  refine ww_lconst (v := 0) C dX11_record_7 (by decide) 8 rfl ?_
  refine ww_ldc2 C cn_X11_70 dX11_record_8 11 rfl ?_
  refine ww_callS3p C (c_X11_in l Γ) mi_X11_in st_X11_in ml_X11_62 dX11_record_11 (Nat.le_of_ble_eq_true rfl) (Nat.le_of_ble_eq_true rfl) (Nat.le_of_ble_eq_true rfl) ⟨Nat.zero_le _, Nat.zero_le _⟩ [] rfl (by decide) 14 rfl ?_
  refine ww_if_ne C 20 dX11_record_14 (by decide) 17 rfl (fun h_14 => ?_) (fun h_14 => ?_)
  · exact absurd hb (fun q => q ⟨fun w => (bI_n0 h_14).1 ((i64_lt (x := c9) (y := 0)).mpr w), fun w => (bI_n0 h_14).2 ((i64_lt (x := 2) (y := c9)).mpr w)⟩)
  · skip
    refine ww_ldc C cn_X11_72 dX11_record_17 19 rfl ?_
    exact ww_iret C hr dX11_record_19 rfl rfl
theorem c_X11_rec_full (l : Launch) (Γ : Gm) {hm : Nat} {q : Nat → Nat} {I : Nat → Int32} {z k : Nat} (hk : k < 3) (h25 : I 25 = nI z) (hz : z = 100) : Ct l Γ yX11_record cX11_record 2 (some .int) 4 [.ref hm, .int (nI k)] ([wMo hm q (I)]) (some (.int (-1000003))) ([wMo hm q (upd I 0 (0))]) := by
  refine Ct.of mi_X11_record [some (.ref hm), some (.int (nI k))] 0 rfl (Nat.le_of_ble_eq_true rfl) ?_
  intro p e s m args below meth c C hr
  refine ww_aload_n (i := 0) C dX11_record_0 rfl rfl 1 rfl ?_
  refine ww_iconst (v := 0) C dX11_record_1 (by decide) 2 rfl ?_
  refine ww_mput_0 C fe_X11_52 dX11_record_2 5 rfl ?_
  refine ww_iload_n (i := 1) C dX11_record_5 rfl rfl 6 rfl ?_
  refine ww_i2l C dX11_record_6 7 rfl ?_
  refine ww_lconst (v := 0) C dX11_record_7 (by decide) 8 rfl ?_
  refine ww_ldc2 C cn_X11_70 dX11_record_8 11 rfl ?_
  refine ww_callS3p C (c_X11_in l Γ) mi_X11_in st_X11_in ml_X11_62 dX11_record_11 (Nat.le_of_ble_eq_true rfl) (Nat.le_of_ble_eq_true rfl) (Nat.le_of_ble_eq_true rfl) ⟨Nat.zero_le _, Nat.zero_le _⟩ [] rfl (by decide) 14 rfl ?_
  refine ww_if_ne C 20 dX11_record_14 (by decide) 17 rfl (fun h_14 => ?_) (fun h_14 => ?_)
  · skip
    refine ww_aload_n (i := 0) C dX11_record_20 rfl rfl 21 rfl ?_
    refine ww_get C fe_X11_198 dX11_record_21 0 rfl rfl 24 rfl ?_
    rw [show upd I 0 0 25 = nI z from h25]
    refine ww_bipush (v := 100) C dX11_record_24 (by decide) 26 rfl ?_
    refine ww_icmp_ne C 32 dX11_record_26 (by decide) 29 rfl (fun h_26 => ?_) (fun h_26 => ?_)
    · exact absurd h_26 (fun q => q (by rw [hz]; rfl))
    · skip
      refine ww_ldc C cn_X11_110 dX11_record_29 31 rfl ?_
      exact ww_iret C hr dX11_record_31 rfl rfl
  · exact absurd (⟨fun w => nI_pos (by omega) ((i64_lt (x := nI k) (y := 0)).mp w), fun w => nI_nlt (a := 2) (by omega) (by decide) ((i64_lt (x := 2) (y := nI k)).mp w)⟩ : ¬ (nI k).toInt64 < Int32.toInt64 0 ∧ ¬ Int32.toInt64 2 < (nI k).toInt64) (bI_e0 h_14)
theorem c_X11_rec_ok (l : Launch) (Γ : Gm) {hm : Nat} {q : Nat → Nat} {I : Nat → Int32} {z k : Nat} {cc0 en : Nat → Int32} (hk : k < 3) (h25 : I 25 = nI z) (hz : z < 100) : Ct l Γ yX11_record cX11_record 2 (some .int) 4 [.ref hm, .int (nI k)] ([wMo hm q (I), (q 26, .inl (Γ.2.1, 100, .inl (cc0))), (q 27, .inl (Γ.2.1, 100, .inl (en)))]) (some (.int (nI (z + 1)))) ([wMo hm q (upd (upd I 0 (0)) 25 (nI (z + 1))), (q 26, .inl (Γ.2.1, 100, .inl (upd cc0 z (I 5)))), (q 27, .inl (Γ.2.1, 100, .inl (upd en z (nI k))))]) := by
  refine Ct.of mi_X11_record [some (.ref hm), some (.int (nI k))] 0 rfl (Nat.le_of_ble_eq_true rfl) ?_
  intro p e s m args below meth c C hr
  refine ww_aload_n (i := 0) C dX11_record_0 rfl rfl 1 rfl ?_
  refine ww_iconst (v := 0) C dX11_record_1 (by decide) 2 rfl ?_
  refine ww_mput_0 C fe_X11_52 dX11_record_2 5 rfl ?_
  refine ww_iload_n (i := 1) C dX11_record_5 rfl rfl 6 rfl ?_
  refine ww_i2l C dX11_record_6 7 rfl ?_
  refine ww_lconst (v := 0) C dX11_record_7 (by decide) 8 rfl ?_
  refine ww_ldc2 C cn_X11_70 dX11_record_8 11 rfl ?_
  refine ww_callS3p C (c_X11_in l Γ) mi_X11_in st_X11_in ml_X11_62 dX11_record_11 (Nat.le_of_ble_eq_true rfl) (Nat.le_of_ble_eq_true rfl) (Nat.le_of_ble_eq_true rfl) ⟨Nat.zero_le _, Nat.zero_le _⟩ [] rfl (by decide) 14 rfl ?_
  refine ww_if_ne C 20 dX11_record_14 (by decide) 17 rfl (fun h_14 => ?_) (fun h_14 => ?_)
  · skip
    refine ww_aload_n (i := 0) C dX11_record_20 rfl rfl 21 rfl ?_
    refine ww_get C fe_X11_198 dX11_record_21 0 rfl rfl 24 rfl ?_
    rw [show upd I 0 0 25 = nI z from h25]
    refine ww_bipush (v := 100) C dX11_record_24 (by decide) 26 rfl ?_
    refine ww_icmp_ne C 32 dX11_record_26 (by decide) 29 rfl (fun h_26 => ?_) (fun h_26 => ?_)
    · skip
      refine ww_aload_n (i := 0) C dX11_record_32 rfl rfl 33 rfl ?_
      refine ww_get C fe_X11_43 dX11_record_33 0 rfl rfl 36 rfl ?_
      refine ww_aload_n (i := 0) C dX11_record_36 rfl rfl 37 rfl ?_
      refine ww_get C fe_X11_198 dX11_record_37 0 rfl rfl 40 rfl ?_
      rw [show upd I 0 0 25 = nI z from h25]
      refine ww_aload_n (i := 0) C dX11_record_40 rfl rfl 41 rfl ?_
      refine ww_get C fe_X11_81 dX11_record_41 0 rfl rfl 44 rfl ?_
      refine ww_iast C dX11_record_44 1 rfl (vp_in_nI hz (by decide)) 45 rfl ?_
      refine ww_aload_n (i := 0) C dX11_record_45 rfl rfl 46 rfl ?_
      refine ww_get C fe_X11_46 dX11_record_46 0 rfl rfl 49 rfl ?_
      refine ww_aload_n (i := 0) C dX11_record_49 rfl rfl 50 rfl ?_
      refine ww_get C fe_X11_198 dX11_record_50 0 rfl rfl 53 rfl ?_
      rw [show upd I 0 0 25 = nI z from h25]
      refine ww_iload_n (i := 1) C dX11_record_53 rfl rfl 54 rfl ?_
      refine ww_iast C dX11_record_54 2 rfl (vp_in_nI hz (by decide)) 55 rfl ?_
      refine ww_aload_n (i := 0) C dX11_record_55 rfl rfl 56 rfl ?_
      refine ww_dup C dX11_record_56 rfl 57 rfl ?_
      refine ww_get C fe_X11_198 dX11_record_57 0 rfl rfl 60 rfl ?_
      rw [show upd I 0 0 25 = nI z from h25]
      refine ww_iconst (v := 1) C dX11_record_60 (by decide) 61 rfl ?_
      refine ww_iadd C dX11_record_61 62 rfl ?_
      rw [← nI_succ z]
      refine ww_mput_25 C fe_X11_198 dX11_record_62 65 rfl ?_
      refine ww_aload_n (i := 0) C dX11_record_65 rfl rfl 66 rfl ?_
      refine ww_get C fe_X11_198 dX11_record_66 0 rfl rfl 69 rfl ?_
      exact ww_iret C hr dX11_record_69 rfl (by rw [nI_clamp (show z < 2 ^ 31 by omega)]; rfl)
    · exact absurd h_26 (fun q => absurd ((nI_eq (b := 100) (by omega) (by decide)).mp q) (by omega))
  · exact absurd (⟨fun w => nI_pos (by omega) ((i64_lt (x := nI k) (y := 0)).mp w), fun w => nI_nlt (a := 2) (by omega) (by decide) ((i64_lt (x := 2) (y := nI k)).mp w)⟩ : ¬ (nI k).toInt64 < Int32.toInt64 0 ∧ ¬ Int32.toInt64 2 < (nI k).toInt64) (bI_e0 h_14)
def m_apb (tp : Nat → Int32) (u : Nat) (w : Int64) (k : Nat) : Nat → (Nat → Int32)
  | 0 => tp
  | j + 1 => upd (m_apb tp u w k j) (u + j) ((w >>> ((8 * nI (k - 1 - j)).toInt64 &&& 63)) &&& 255).toInt32
theorem c_X11_feed_bad (l : Launch) (Γ : Gm) {hm : Nat} {q : Nat → Nat} {I : Nat → Int32} {w : Int64} {n9 : Int32} (hb : n9 < 1 ∨ ¬ n9 ≤ 8) : Ct l Γ yX11_feed cX11_feed 5 (some .int) 4 [.ref hm, .long w, .int n9] ([wMo hm q (I)]) (some (.int (-1000001))) ([wMo hm q (upd I 0 (0))]) := by
  refine Ct.of mi_X11_feed [some (.ref hm), some (.long w), none, some (.int n9), none] 1 rfl (Nat.le_of_ble_eq_true rfl) ?_
  intro p e s m args below meth c C hr
  refine ww_aload_n (i := 0) C dX11_feed_0 rfl rfl 1 rfl ?_
  refine ww_iconst (v := 0) C dX11_feed_1 (by decide) 2 rfl ?_
  refine ww_mput_0 C fe_X11_52 dX11_feed_2 5 rfl ?_
  refine ww_iload_n (i := 3) C dX11_feed_5 rfl rfl 6 rfl ?_
  refine ww_i2l C dX11_feed_6 7 rfl ?_
  refine ww_lconst (v := 1) C dX11_feed_7 (by decide) 8 rfl ?_
  refine ww_ldc2 C cn_X11_105 dX11_feed_8 11 rfl ?_
  refine ww_callS3p C (c_X11_in l Γ) mi_X11_in st_X11_in ml_X11_62 dX11_feed_11 (Nat.le_of_ble_eq_true rfl) (Nat.le_of_ble_eq_true rfl) (Nat.le_of_ble_eq_true rfl) ⟨Nat.zero_le _, Nat.zero_le _⟩ [] rfl (by decide) 14 rfl ?_
  refine ww_if_ne C 20 dX11_feed_14 (by decide) 17 rfl (fun h_14 => ?_) (fun h_14 => ?_)
  · exact absurd hb (fun q => q.elim (fun y => (bI_n0 h_14).1 ((i64_lt (x := n9) (y := 1)).mpr y)) (fun y => (bI_n0 h_14).2 ((i64_lt (x := 8) (y := n9)).mpr (Int32.not_le.mp y))))
  · skip
    refine ww_ldc C cn_X11_72 dX11_feed_17 19 rfl ?_
    exact ww_iret C hr dX11_feed_19 rfl rfl
theorem c_X11_feed_full (l : Launch) (Γ : Gm) {hm : Nat} {q : Nat → Nat} {I : Nat → Int32} {u n : Nat} {w : Int64} (h16 : I 16 = nI u) (h1 : 1 ≤ n) (h8 : n ≤ 8) (hu : u ≤ 400) (hfu : ¬ u + n ≤ 400) : Ct l Γ yX11_feed cX11_feed 5 (some .int) 4 [.ref hm, .long w, .int (nI n)] ([wMo hm q (I)]) (some (.int (-1000003))) ([wMo hm q (upd I 0 (0))]) := by
  refine Ct.of mi_X11_feed [some (.ref hm), some (.long w), none, some (.int (nI n)), none] 1 rfl (Nat.le_of_ble_eq_true rfl) ?_
  intro p e s m args below meth c C hr
  refine ww_aload_n (i := 0) C dX11_feed_0 rfl rfl 1 rfl ?_
  refine ww_iconst (v := 0) C dX11_feed_1 (by decide) 2 rfl ?_
  refine ww_mput_0 C fe_X11_52 dX11_feed_2 5 rfl ?_
  refine ww_iload_n (i := 3) C dX11_feed_5 rfl rfl 6 rfl ?_
  refine ww_i2l C dX11_feed_6 7 rfl ?_
  refine ww_lconst (v := 1) C dX11_feed_7 (by decide) 8 rfl ?_
  refine ww_ldc2 C cn_X11_105 dX11_feed_8 11 rfl ?_
  refine ww_callS3p C (c_X11_in l Γ) mi_X11_in st_X11_in ml_X11_62 dX11_feed_11 (Nat.le_of_ble_eq_true rfl) (Nat.le_of_ble_eq_true rfl) (Nat.le_of_ble_eq_true rfl) ⟨Nat.zero_le _, Nat.zero_le _⟩ [] rfl (by decide) 14 rfl ?_
  refine ww_if_ne C 20 dX11_feed_14 (by decide) 17 rfl (fun h_14 => ?_) (fun h_14 => ?_)
  · skip
    refine ww_aload_n (i := 0) C dX11_feed_20 rfl rfl 21 rfl ?_
    refine ww_get C fe_X11_107 dX11_feed_21 0 rfl rfl 24 rfl ?_
    rw [show upd I 0 0 16 = nI u from h16]
    refine ww_iload_n (i := 3) C dX11_feed_24 rfl rfl 25 rfl ?_
    refine ww_iadd C dX11_feed_25 26 rfl ?_
    rw [nI_add]
    refine ww_sipush (v := 400) C dX11_feed_26 (by decide) 29 rfl ?_
    refine ww_icmp_le C 35 dX11_feed_29 (by decide) 32 rfl (fun h_29 => ?_) (fun h_29 => ?_)
    · exact absurd h_29 (fun q => hfu ((nI_leI (b := 400) (by omega) (by decide)).mp q))
    · skip
      refine ww_ldc C cn_X11_110 dX11_feed_32 34 rfl ?_
      exact ww_iret C hr dX11_feed_34 rfl rfl
  · exact absurd (⟨fun z => nI_nlt (b := 1) h1 (by omega) ((i64_lt (x := nI n) (y := 1)).mp z), fun z => nI_nlt (a := 8) h8 (by decide) ((i64_lt (x := 8) (y := nI n)).mp z)⟩ : ¬ (nI n).toInt64 < Int32.toInt64 1 ∧ ¬ Int32.toInt64 8 < (nI n).toInt64) (bI_e0 h_14)
set_option maxHeartbeats 1000000 in
theorem c_X11_feed_ok (l : Launch) (Γ : Gm) {hm : Nat} {q : Nat → Nat} {I : Nat → Int32} {u n : Nat} {w : Int64} {tp : Nat → Int32} (h16 : I 16 = nI u) (h1 : 1 ≤ n) (h8 : n ≤ 8) (hfu : u + n ≤ 400) : Ct l Γ yX11_feed cX11_feed 5 (some .int) 4 [.ref hm, .long w, .int (nI n)] ([wMo hm q (I), (q 15, .inl (Γ.2.1, 400, .inl (tp)))]) (some (.int (nI (u + n)))) ([wMo hm q (upd (upd I 0 (0)) 16 (nI (u + n))), (q 15, .inl (Γ.2.1, 400, .inl (m_apb tp u w n n)))]) := by
  refine Ct.of mi_X11_feed [some (.ref hm), some (.long w), none, some (.int (nI n)), none] 1 rfl (Nat.le_of_ble_eq_true rfl) ?_
  intro p e s m args below meth c C hr
  refine ww_aload_n (i := 0) C dX11_feed_0 rfl rfl 1 rfl ?_
  refine ww_iconst (v := 0) C dX11_feed_1 (by decide) 2 rfl ?_
  refine ww_mput_0 C fe_X11_52 dX11_feed_2 5 rfl ?_
  refine ww_iload_n (i := 3) C dX11_feed_5 rfl rfl 6 rfl ?_
  refine ww_i2l C dX11_feed_6 7 rfl ?_
  refine ww_lconst (v := 1) C dX11_feed_7 (by decide) 8 rfl ?_
  refine ww_ldc2 C cn_X11_105 dX11_feed_8 11 rfl ?_
  refine ww_callS3p C (c_X11_in l Γ) mi_X11_in st_X11_in ml_X11_62 dX11_feed_11 (Nat.le_of_ble_eq_true rfl) (Nat.le_of_ble_eq_true rfl) (Nat.le_of_ble_eq_true rfl) ⟨Nat.zero_le _, Nat.zero_le _⟩ [] rfl (by decide) 14 rfl ?_
  refine ww_if_ne C 20 dX11_feed_14 (by decide) 17 rfl (fun h_14 => ?_) (fun h_14 => ?_)
  · skip
    refine ww_aload_n (i := 0) C dX11_feed_20 rfl rfl 21 rfl ?_
    refine ww_get C fe_X11_107 dX11_feed_21 0 rfl rfl 24 rfl ?_
    rw [show upd I 0 0 16 = nI u from h16]
    refine ww_iload_n (i := 3) C dX11_feed_24 rfl rfl 25 rfl ?_
    refine ww_iadd C dX11_feed_25 26 rfl ?_
    rw [nI_add]
    refine ww_sipush (v := 400) C dX11_feed_26 (by decide) 29 rfl ?_
    refine ww_icmp_le C 35 dX11_feed_29 (by decide) 32 rfl (fun h_29 => ?_) (fun h_29 => ?_)
    · skip
      refine ww_iload_n (i := 3) C dX11_feed_35 rfl rfl 36 rfl ?_
      refine ww_iconst (v := 1) C dX11_feed_36 (by decide) 37 rfl ?_
      refine ww_isub C dX11_feed_37 38 rfl ?_
      refine ww_istore C dX11_feed_38 (by decide) rfl 40 rfl ?_
      have e1 : nI n - 1 = nI (n - 1) - nI 0 := by rw [show (1 : Int32) = nI 1 from rfl, pk_sub h1, pk_sub (Nat.zero_le _)]; rfl
      rw [e1]
      refine ww_eq (ws' := [wMo hm q (upd (upd I 0 (0)) 16 (nI (u + 0))), (q 15, .inl (Γ.2.1, 400, .inl (m_apb tp u w n 0)))]) (by rw [show upd (upd I 0 0) 16 (nI (u + 0)) = upd I 0 0 from upd_same (show upd I 0 0 16 = nI u from h16)]; rfl) rfl rfl ?_
      refine ww_loop (fun j : Nat => n - j) (fun j => j ≤ n) (fun j => [wMo hm q (upd (upd I 0 (0)) 16 (nI (u + j))), (q 15, .inl (Γ.2.1, 400, .inl (m_apb tp u w n j)))]) (fun j => [some (.ref hm), some (.long w), none, some (.int (nI n)), some (.int (nI (n - 1) - nI j))]) (0 : Nat) (by omega) rfl rfl (fun j hj ih => ?_)
      try dsimp only at hj ih ⊢
      refine ww_iload C dX11_feed_40 rfl 42 rfl ?_
      refine ww_if_lt C 82 dX11_feed_42 (by decide) 45 rfl (fun h_42 => ?_) (fun h_42 => ?_)
      · skip
        obtain rfl : j = n := by
          rcases Nat.lt_or_ge j n with q | q
          · rw [pk_sub (show j ≤ n - 1 by omega)] at h_42; exact absurd h_42 (nI_pos (by omega))
          · omega
        refine ww_aload_n (i := 0) C dX11_feed_82 rfl rfl 83 rfl ?_
        refine ww_get C fe_X11_107 dX11_feed_83 0 rfl rfl 86 rfl ?_
        exact ww_iret C hr dX11_feed_86 rfl rfl
      · skip
        have hlt : j < n := Nat.lt_of_not_le fun q => h_42 (by rw [show j = n by omega]; have : nI (n - 1) - nI n < 0 := pk_sneg (by omega) (by omega); exact this)
        rw [pk_sub (show j ≤ n - 1 by omega)]
        refine ww_aload_n (i := 0) C dX11_feed_45 rfl rfl 46 rfl ?_
        refine ww_get C fe_X11_40 dX11_feed_46 0 rfl rfl 49 rfl ?_
        refine ww_aload_n (i := 0) C dX11_feed_49 rfl rfl 50 rfl ?_
        refine ww_get C fe_X11_107 dX11_feed_50 0 rfl rfl 53 rfl ?_
        rw [show upd (upd I 0 0) 16 (nI (u + j)) 16 = nI (u + j) from rfl]
        refine ww_lload_n (i := 1) C dX11_feed_53 rfl rfl 54 rfl ?_
        refine ww_bipush (v := 8) C dX11_feed_54 (by decide) 56 rfl ?_
        refine ww_iload C dX11_feed_56 rfl 58 rfl ?_
        refine ww_imul C dX11_feed_58 59 rfl ?_
        refine ww_lshr C dX11_feed_59 60 rfl ?_
        refine ww_ldc2 C cn_X11_111 dX11_feed_60 63 rfl ?_
        refine ww_land C dX11_feed_63 64 rfl ?_
        refine ww_l2i C dX11_feed_64 65 rfl ?_
        refine ww_iast C dX11_feed_65 1 rfl (vp_in_nI (by omega) (by decide)) 66 rfl ?_
        refine ww_aload_n (i := 0) C dX11_feed_66 rfl rfl 67 rfl ?_
        refine ww_dup C dX11_feed_67 rfl 68 rfl ?_
        refine ww_get C fe_X11_107 dX11_feed_68 0 rfl rfl 71 rfl ?_
        rw [show upd (upd I 0 0) 16 (nI (u + j)) 16 = nI (u + j) from rfl]
        refine ww_iconst (v := 1) C dX11_feed_71 (by decide) 72 rfl ?_
        refine ww_iadd C dX11_feed_72 73 rfl ?_
        rw [← nI_succ (u + j)]
        refine ww_mput_16 C fe_X11_107 dX11_feed_73 76 rfl ?_
        refine ww_iinc (y := (-1)) C dX11_feed_76 rfl (by decide) (by decide) rfl 79 rfl ?_
        refine ww_goto C 40 dX11_feed_79 (by decide) ?_
        have e9 : nI (n - 1) - nI (j + 1) = nI (n - 1 - j) + (-1) := by rw [nI_succ j, ← pk_sub (show j ≤ n - 1 by omega)]; exact ep_sub _ _
        refine ww_eq ?_ ?_ rfl (ih (j + 1) (by omega) (by omega))
        · rw [show u + (j + 1) = u + j + 1 from rfl, m_apb]
          have e8 : (nI (u + j)).toNatClampNeg = u + j := nI_clamp (by omega)
          simp only [e8]
          rfl
        · rw [e9]; rfl
    · exact absurd (nI_le (b := 400) hfu (by decide)) h_29
  · exact absurd (⟨fun z => nI_nlt (b := 1) h1 (by omega) ((i64_lt (x := nI n) (y := 1)).mp z), fun z => nI_nlt (a := 8) h8 (by decide) ((i64_lt (x := 8) (y := nI n)).mp z)⟩ : ¬ (nI n).toInt64 < Int32.toInt64 1 ∧ ¬ Int32.toInt64 8 < (nI n).toInt64) (bI_e0 h_14)
