theorem ep_sub (a b : Int32) : a - (b + 1) = a - b + (-1) := by
  simp only [← Int32.toBitVec_inj, Int32.toBitVec_sub, Int32.toBitVec_add]
  rw [show (-1 : Int32).toBitVec = -(1 : Int32).toBitVec from rfl]
  generalize a.toBitVec = x
  generalize b.toBitVec = y
  generalize (1 : Int32).toBitVec = z
  rw [BitVec.sub_eq_add_neg, BitVec.sub_eq_add_neg, BitVec.neg_add, BitVec.sub_eq_add_neg, BitVec.add_assoc]
/-- a truth as an int -/
def bI (p : Prop) [Decidable p] : Int32 := if p then 1 else 0
theorem bI_1 {p : Prop} [Decidable p] (h : p) : bI p = 1 := if_pos h
theorem bI_0 {p : Prop} [Decidable p] (h : ¬ p) : bI p = 0 := if_neg h
theorem bI_e0 {p : Prop} [Decidable p] (h : bI p = 0) : ¬ p := fun q => by rw [bI_1 q] at h; exact absurd h (by decide)
theorem bI_n0 {p : Prop} [Decidable p] (h : ¬ bI p = 0) : p := Decidable.byContradiction fun q => h (bI_0 q)
theorem bI_z {p : Prop} [Decidable p] : narrow .boolean (.int (bI p)) = .int (bI p) := by
  by_cases h : p
  · rw [bI_1 h]; rfl
  · rw [bI_0 h]; rfl
theorem ltN {k n : Nat} (h : ¬ (nI n ≤ nI k)) (hn : n < 2 ^ 31) (hk : k < 2 ^ 31) : k < n := Nat.lt_of_not_le fun q => h ((nI_leI hn hk).mpr q)
theorem eqN {k n : Nat} (h : nI n ≤ nI k) (hk : k ≤ n) (hn : n < 2 ^ 31) : k = n := Nat.le_antisymm hk ((nI_leI hn (Nat.lt_of_le_of_lt hk hn)).mp h)
def s_bc32 (x : Int32) : Int32 :=
  let x1 := x - (iushrI x 1 &&& 1431655765)
  let x2 := (x1 &&& 858993459) + (iushrI x1 2 &&& 858993459)
  let x3 := (x2 + iushrI x2 4) &&& 252645135
  let x4 := x3 + iushrI x3 8
  let x5 := x4 + iushrI x4 16
  x5 &&& 63
def s_bc64 (x : Int64) : Int32 :=
  let x1 := x - (lushrI x 1 &&& 6148914691236517205)
  let x2 := (x1 &&& 3689348814741910323) + (lushrI x1 2 &&& 3689348814741910323)
  let x3 := (x2 + lushrI x2 4) &&& 1085102592571150095
  let x4 := x3 + lushrI x3 8
  let x5 := x4 + lushrI x4 16
  let x6 := x5 + lushrI x5 32
  x6.toInt32 &&& 127
theorem c_J6_bitCount_0f7a4 (l : Launch) (Γ : Gm) {x : Int32}  : Ct l Γ yJ6_bitCount_0f7a4 cJ6_bitCount_0f7a4 1 (some .int) 0 [.int x] [] (some (.int (s_bc32 x))) [] := by
  refine Ct.of mi_J6_bitCount_0f7a4 [some (.int x)] 0 rfl (Nat.le_of_ble_eq_true rfl) ?_
  intro p e s m args below meth c C hr
  refine ww_iload_n (i := 0) C dJ6_bitCount_0f7a4_0 rfl rfl 1 rfl ?_
  refine ww_iload_n (i := 0) C dJ6_bitCount_0f7a4_1 rfl rfl 2 rfl ?_
  refine ww_iconst (v := 1) C dJ6_bitCount_0f7a4_2 (by decide) 3 rfl ?_
  refine ww_iushr C dJ6_bitCount_0f7a4_3 4 rfl ?_
  refine ww_ldcw C cn_J6_265 dJ6_bitCount_0f7a4_4 7 rfl ?_
  refine ww_iand C dJ6_bitCount_0f7a4_7 8 rfl ?_
  refine ww_isub C dJ6_bitCount_0f7a4_8 9 rfl ?_
  refine ww_istore_n (i := 0) C dJ6_bitCount_0f7a4_9 rfl (by decide) rfl 10 rfl ?_
  refine ww_iload_n (i := 0) C dJ6_bitCount_0f7a4_10 rfl rfl 11 rfl ?_
  refine ww_ldcw C cn_J6_266 dJ6_bitCount_0f7a4_11 14 rfl ?_
  refine ww_iand C dJ6_bitCount_0f7a4_14 15 rfl ?_
  refine ww_iload_n (i := 0) C dJ6_bitCount_0f7a4_15 rfl rfl 16 rfl ?_
  refine ww_iconst (v := 2) C dJ6_bitCount_0f7a4_16 (by decide) 17 rfl ?_
  refine ww_iushr C dJ6_bitCount_0f7a4_17 18 rfl ?_
  refine ww_ldcw C cn_J6_266 dJ6_bitCount_0f7a4_18 21 rfl ?_
  refine ww_iand C dJ6_bitCount_0f7a4_21 22 rfl ?_
  refine ww_iadd C dJ6_bitCount_0f7a4_22 23 rfl ?_
  refine ww_istore_n (i := 0) C dJ6_bitCount_0f7a4_23 rfl (by decide) rfl 24 rfl ?_
  refine ww_iload_n (i := 0) C dJ6_bitCount_0f7a4_24 rfl rfl 25 rfl ?_
  refine ww_iload_n (i := 0) C dJ6_bitCount_0f7a4_25 rfl rfl 26 rfl ?_
  refine ww_iconst (v := 4) C dJ6_bitCount_0f7a4_26 (by decide) 27 rfl ?_
  refine ww_iushr C dJ6_bitCount_0f7a4_27 28 rfl ?_
  refine ww_iadd C dJ6_bitCount_0f7a4_28 29 rfl ?_
  refine ww_ldcw C cn_J6_267 dJ6_bitCount_0f7a4_29 32 rfl ?_
  refine ww_iand C dJ6_bitCount_0f7a4_32 33 rfl ?_
  refine ww_istore_n (i := 0) C dJ6_bitCount_0f7a4_33 rfl (by decide) rfl 34 rfl ?_
  refine ww_iload_n (i := 0) C dJ6_bitCount_0f7a4_34 rfl rfl 35 rfl ?_
  refine ww_iload_n (i := 0) C dJ6_bitCount_0f7a4_35 rfl rfl 36 rfl ?_
  refine ww_bipush (v := 8) C dJ6_bitCount_0f7a4_36 (by decide) 38 rfl ?_
  refine ww_iushr C dJ6_bitCount_0f7a4_38 39 rfl ?_
  refine ww_iadd C dJ6_bitCount_0f7a4_39 40 rfl ?_
  refine ww_istore_n (i := 0) C dJ6_bitCount_0f7a4_40 rfl (by decide) rfl 41 rfl ?_
  refine ww_iload_n (i := 0) C dJ6_bitCount_0f7a4_41 rfl rfl 42 rfl ?_
  refine ww_iload_n (i := 0) C dJ6_bitCount_0f7a4_42 rfl rfl 43 rfl ?_
  refine ww_bipush (v := 16) C dJ6_bitCount_0f7a4_43 (by decide) 45 rfl ?_
  refine ww_iushr C dJ6_bitCount_0f7a4_45 46 rfl ?_
  refine ww_iadd C dJ6_bitCount_0f7a4_46 47 rfl ?_
  refine ww_istore_n (i := 0) C dJ6_bitCount_0f7a4_47 rfl (by decide) rfl 48 rfl ?_
  refine ww_iload_n (i := 0) C dJ6_bitCount_0f7a4_48 rfl rfl 49 rfl ?_
  refine ww_bipush (v := 63) C dJ6_bitCount_0f7a4_49 (by decide) 51 rfl ?_
  refine ww_iand C dJ6_bitCount_0f7a4_51 52 rfl ?_
  exact ww_iret C hr dJ6_bitCount_0f7a4_52 rfl rfl
theorem c_J13_bitCount_95d88 (l : Launch) (Γ : Gm) {x : Int64}  : Ct l Γ yJ13_bitCount_95d88 cJ13_bitCount_95d88 2 (some .int) 0 [.long x] [] (some (.int (s_bc64 x))) [] := by
  refine Ct.of mi_J13_bitCount_95d88 [some (.long x), none] 0 rfl (Nat.le_of_ble_eq_true rfl) ?_
  intro p e s m args below meth c C hr
  refine ww_lload_n (i := 0) C dJ13_bitCount_95d88_0 rfl rfl 1 rfl ?_
  refine ww_lload_n (i := 0) C dJ13_bitCount_95d88_1 rfl rfl 2 rfl ?_
  refine ww_iconst (v := 1) C dJ13_bitCount_95d88_2 (by decide) 3 rfl ?_
  refine ww_lushr C dJ13_bitCount_95d88_3 4 rfl ?_
  refine ww_ldc2 C cn_J13_314 dJ13_bitCount_95d88_4 7 rfl ?_
  refine ww_land C dJ13_bitCount_95d88_7 8 rfl ?_
  refine ww_lsub C dJ13_bitCount_95d88_8 9 rfl ?_
  refine ww_lstore_n (i := 0) C dJ13_bitCount_95d88_9 rfl (by decide) rfl 10 rfl ?_
  refine ww_lload_n (i := 0) C dJ13_bitCount_95d88_10 rfl rfl 11 rfl ?_
  refine ww_ldc2 C cn_J13_316 dJ13_bitCount_95d88_11 14 rfl ?_
  refine ww_land C dJ13_bitCount_95d88_14 15 rfl ?_
  refine ww_lload_n (i := 0) C dJ13_bitCount_95d88_15 rfl rfl 16 rfl ?_
  refine ww_iconst (v := 2) C dJ13_bitCount_95d88_16 (by decide) 17 rfl ?_
  refine ww_lushr C dJ13_bitCount_95d88_17 18 rfl ?_
  refine ww_ldc2 C cn_J13_316 dJ13_bitCount_95d88_18 21 rfl ?_
  refine ww_land C dJ13_bitCount_95d88_21 22 rfl ?_
  refine ww_ladd C dJ13_bitCount_95d88_22 23 rfl ?_
  refine ww_lstore_n (i := 0) C dJ13_bitCount_95d88_23 rfl (by decide) rfl 24 rfl ?_
  refine ww_lload_n (i := 0) C dJ13_bitCount_95d88_24 rfl rfl 25 rfl ?_
  refine ww_lload_n (i := 0) C dJ13_bitCount_95d88_25 rfl rfl 26 rfl ?_
  refine ww_iconst (v := 4) C dJ13_bitCount_95d88_26 (by decide) 27 rfl ?_
  refine ww_lushr C dJ13_bitCount_95d88_27 28 rfl ?_
  refine ww_ladd C dJ13_bitCount_95d88_28 29 rfl ?_
  refine ww_ldc2 C cn_J13_318 dJ13_bitCount_95d88_29 32 rfl ?_
  refine ww_land C dJ13_bitCount_95d88_32 33 rfl ?_
  refine ww_lstore_n (i := 0) C dJ13_bitCount_95d88_33 rfl (by decide) rfl 34 rfl ?_
  refine ww_lload_n (i := 0) C dJ13_bitCount_95d88_34 rfl rfl 35 rfl ?_
  refine ww_lload_n (i := 0) C dJ13_bitCount_95d88_35 rfl rfl 36 rfl ?_
  refine ww_bipush (v := 8) C dJ13_bitCount_95d88_36 (by decide) 38 rfl ?_
  refine ww_lushr C dJ13_bitCount_95d88_38 39 rfl ?_
  refine ww_ladd C dJ13_bitCount_95d88_39 40 rfl ?_
  refine ww_lstore_n (i := 0) C dJ13_bitCount_95d88_40 rfl (by decide) rfl 41 rfl ?_
  refine ww_lload_n (i := 0) C dJ13_bitCount_95d88_41 rfl rfl 42 rfl ?_
  refine ww_lload_n (i := 0) C dJ13_bitCount_95d88_42 rfl rfl 43 rfl ?_
  refine ww_bipush (v := 16) C dJ13_bitCount_95d88_43 (by decide) 45 rfl ?_
  refine ww_lushr C dJ13_bitCount_95d88_45 46 rfl ?_
  refine ww_ladd C dJ13_bitCount_95d88_46 47 rfl ?_
  refine ww_lstore_n (i := 0) C dJ13_bitCount_95d88_47 rfl (by decide) rfl 48 rfl ?_
  refine ww_lload_n (i := 0) C dJ13_bitCount_95d88_48 rfl rfl 49 rfl ?_
  refine ww_lload_n (i := 0) C dJ13_bitCount_95d88_49 rfl rfl 50 rfl ?_
  refine ww_bipush (v := 32) C dJ13_bitCount_95d88_50 (by decide) 52 rfl ?_
  refine ww_lushr C dJ13_bitCount_95d88_52 53 rfl ?_
  refine ww_ladd C dJ13_bitCount_95d88_53 54 rfl ?_
  refine ww_lstore_n (i := 0) C dJ13_bitCount_95d88_54 rfl (by decide) rfl 55 rfl ?_
  refine ww_lload_n (i := 0) C dJ13_bitCount_95d88_55 rfl rfl 56 rfl ?_
  refine ww_l2i C dJ13_bitCount_95d88_56 57 rfl ?_
  refine ww_bipush (v := 127) C dJ13_bitCount_95d88_57 (by decide) 59 rfl ?_
  refine ww_iand C dJ13_bitCount_95d88_59 60 rfl ?_
  exact ww_iret C hr dJ13_bitCount_95d88_60 rfl rfl
def s_row (f r : Int32) : Int32 := (f >>> (r &&& 31)) &&& 1
def s_told (f : Int32) : Int32 := if s_bc32 f - s_bc32 f / 2 * 2 = 0 then (if s_row f 0 = s_row f 3 ∧ s_row f 1 = s_row f 2 then 2 else 1) else 3
def s_isk (f k : Int32) : Int32 := if k = 0 then 1 else if k = s_told f then 1 else if k = 1 then (if s_told f = 2 then 1 else 0) else 0
theorem c_X3_isFigure (l : Launch) (Γ : Gm) {x : Int32}  : Ct l Γ yX3_isFigure cX3_isFigure 1 (some .boolean) 0 [.int x] [] (some (.int (bI (¬ x < 0 ∧ ¬ 15 < x)))) [] := by
  refine Ct.of mi_X3_isFigure [some (.int x)] 0 rfl (Nat.le_of_ble_eq_true rfl) ?_
  intro p e s m args below meth c C hr
  refine ww_iload_n (i := 0) C dX3_isFigure_0 rfl rfl 1 rfl ?_
  refine ww_if_lt C 14 dX3_isFigure_1 (by decide) 4 rfl (fun h_1 => ?_) (fun h_1 => ?_)
  · skip
    refine ww_iconst (v := 0) C dX3_isFigure_14 (by decide) 15 rfl ?_
    exact ww_zret C hr rfl dX3_isFigure_15 (by simp [bI, *]) rfl
  · skip
    refine ww_iload_n (i := 0) C dX3_isFigure_4 rfl rfl 5 rfl ?_
    refine ww_bipush (v := 15) C dX3_isFigure_5 (by decide) 7 rfl ?_
    refine ww_icmp_gt C 14 dX3_isFigure_7 (by decide) 10 rfl (fun h_7 => ?_) (fun h_7 => ?_)
    · skip
      refine ww_iconst (v := 0) C dX3_isFigure_14 (by decide) 15 rfl ?_
      exact ww_zret C hr rfl dX3_isFigure_15 (by simp [bI, *]) rfl
    · skip
      refine ww_iconst (v := 1) C dX3_isFigure_10 (by decide) 11 rfl ?_
      refine ww_goto C 15 dX3_isFigure_11 (by decide) ?_
      exact ww_zret C hr rfl dX3_isFigure_15 (by simp [bI, *]) rfl
theorem c_X3_dots (l : Launch) (Γ : Gm) {f : Int32}  : Ct l Γ yX3_dots cX3_dots 1 (some .int) 1 [.int f] [] (some (.int (8 - s_bc32 f))) [] := by
  refine Ct.of mi_X3_dots [some (.int f)] 0 rfl (Nat.le_of_ble_eq_true rfl) ?_
  intro p e s m args below meth c C hr
  refine ww_bipush (v := 8) C dX3_dots_0 (by decide) 2 rfl ?_
  refine ww_iload_n (i := 0) C dX3_dots_2 rfl rfl 3 rfl ?_
  refine ww_callS1p C (c_J6_bitCount_0f7a4 l Γ) mi_J6_bitCount_0f7a4 st_J6_bitCount_0f7a4 ml_X3_9 dX3_dots_3 (Nat.le_of_ble_eq_true rfl) (Nat.le_of_ble_eq_true rfl) (Nat.le_of_ble_eq_true rfl) ⟨Nat.zero_le _, Nat.zero_le _⟩ [] rfl (by decide) 6 rfl ?_
  refine ww_isub C dX3_dots_6 7 rfl ?_
  exact ww_iret C hr dX3_dots_7 rfl rfl
theorem c_X3_isEven (l : Launch) (Γ : Gm) {f : Int32}  : Ct l Γ yX3_isEven cX3_isEven 1 (some .boolean) 1 [.int f] [] (some (.int (bI (s_bc32 f - s_bc32 f / 2 * 2 = 0)))) [] := by
  refine Ct.of mi_X3_isEven [some (.int f)] 0 rfl (Nat.le_of_ble_eq_true rfl) ?_
  intro p e s m args below meth c C hr
  refine ww_iload_n (i := 0) C dX3_isEven_0 rfl rfl 1 rfl ?_
  refine ww_callS1p C (c_J6_bitCount_0f7a4 l Γ) mi_J6_bitCount_0f7a4 st_J6_bitCount_0f7a4 ml_X3_9 dX3_isEven_1 (Nat.le_of_ble_eq_true rfl) (Nat.le_of_ble_eq_true rfl) (Nat.le_of_ble_eq_true rfl) ⟨Nat.zero_le _, Nat.zero_le _⟩ [] rfl (by decide) 4 rfl ?_
  refine ww_iconst (v := 2) C dX3_isEven_4 (by decide) 5 rfl ?_
  refine ww_irem C dX3_isEven_5 (by decide) 6 rfl ?_
  refine ww_if_ne C 13 dX3_isEven_6 (by decide) 9 rfl (fun h_6 => ?_) (fun h_6 => ?_)
  · skip
    refine ww_iconst (v := 0) C dX3_isEven_13 (by decide) 14 rfl ?_
    exact ww_zret C hr rfl dX3_isEven_14 (by simp [bI, *]) rfl
  · skip
    refine ww_iconst (v := 1) C dX3_isEven_9 (by decide) 10 rfl ?_
    refine ww_goto C 14 dX3_isEven_10 (by decide) ?_
    exact ww_zret C hr rfl dX3_isEven_14 (by simp [bI, *]) rfl
theorem c_X3_row (l : Launch) (Γ : Gm) {f r : Int32}  : Ct l Γ yX3_row cX3_row 2 (some .int) 0 [.int f, .int r] [] (some (.int (s_row f r))) [] := by
  refine Ct.of mi_X3_row [some (.int f), some (.int r)] 0 rfl (Nat.le_of_ble_eq_true rfl) ?_
  intro p e s m args below meth c C hr
  refine ww_iload_n (i := 0) C dX3_row_0 rfl rfl 1 rfl ?_
  refine ww_iload_n (i := 1) C dX3_row_1 rfl rfl 2 rfl ?_
  refine ww_ishr C dX3_row_2 3 rfl ?_
  refine ww_iconst (v := 1) C dX3_row_3 (by decide) 4 rfl ?_
  refine ww_iand C dX3_row_4 5 rfl ?_
  exact ww_iret C hr dX3_row_5 rfl rfl
theorem c_X3_toldKind (l : Launch) (Γ : Gm) {f : Int32}  : Ct l Γ yX3_toldKind cX3_toldKind 1 (some .int) 2 [.int f] [] (some (.int (s_told f))) [] := by
  refine Ct.of mi_X3_toldKind [some (.int f)] 0 rfl (Nat.le_of_ble_eq_true rfl) ?_
  intro p e s m args below meth c C hr
  refine ww_iload_n (i := 0) C dX3_toldKind_0 rfl rfl 1 rfl ?_
  refine ww_callS1p C (c_X3_isEven l Γ) mi_X3_isEven st_X3_isEven ml_X3_15 dX3_toldKind_1 (Nat.le_of_ble_eq_true rfl) (Nat.le_of_ble_eq_true rfl) (Nat.le_of_ble_eq_true rfl) ⟨Nat.zero_le _, Nat.zero_le _⟩ [] rfl (by decide) 4 rfl ?_
  refine ww_if_ne C 9 dX3_toldKind_4 (by decide) 7 rfl (fun h_4 => ?_) (fun h_4 => ?_)
  · skip
    refine ww_iload_n (i := 0) C dX3_toldKind_9 rfl rfl 10 rfl ?_
    refine ww_iconst (v := 0) C dX3_toldKind_10 (by decide) 11 rfl ?_
    refine ww_callS2p C (c_X3_row l Γ) mi_X3_row st_X3_row ml_X3_19 dX3_toldKind_11 (Nat.le_of_ble_eq_true rfl) (Nat.le_of_ble_eq_true rfl) (Nat.le_of_ble_eq_true rfl) ⟨Nat.zero_le _, Nat.zero_le _⟩ [] rfl (by decide) 14 rfl ?_
    refine ww_iload_n (i := 0) C dX3_toldKind_14 rfl rfl 15 rfl ?_
    refine ww_iconst (v := 3) C dX3_toldKind_15 (by decide) 16 rfl ?_
    refine ww_callS2p C (c_X3_row l Γ) mi_X3_row st_X3_row ml_X3_19 dX3_toldKind_16 (Nat.le_of_ble_eq_true rfl) (Nat.le_of_ble_eq_true rfl) (Nat.le_of_ble_eq_true rfl) ⟨Nat.zero_le _, Nat.zero_le _⟩ [] rfl (by decide) 19 rfl ?_
    refine ww_icmp_ne C 39 dX3_toldKind_19 (by decide) 22 rfl (fun h_19 => ?_) (fun h_19 => ?_)
    · skip
      refine ww_iconst (v := 1) C dX3_toldKind_39 (by decide) 40 rfl ?_
      exact ww_iret C hr dX3_toldKind_40 (by simp [s_told, bI_n0 h_4, *]) rfl
    · skip
      refine ww_iload_n (i := 0) C dX3_toldKind_22 rfl rfl 23 rfl ?_
      refine ww_iconst (v := 1) C dX3_toldKind_23 (by decide) 24 rfl ?_
      refine ww_callS2p C (c_X3_row l Γ) mi_X3_row st_X3_row ml_X3_19 dX3_toldKind_24 (Nat.le_of_ble_eq_true rfl) (Nat.le_of_ble_eq_true rfl) (Nat.le_of_ble_eq_true rfl) ⟨Nat.zero_le _, Nat.zero_le _⟩ [] rfl (by decide) 27 rfl ?_
      refine ww_iload_n (i := 0) C dX3_toldKind_27 rfl rfl 28 rfl ?_
      refine ww_iconst (v := 2) C dX3_toldKind_28 (by decide) 29 rfl ?_
      refine ww_callS2p C (c_X3_row l Γ) mi_X3_row st_X3_row ml_X3_19 dX3_toldKind_29 (Nat.le_of_ble_eq_true rfl) (Nat.le_of_ble_eq_true rfl) (Nat.le_of_ble_eq_true rfl) ⟨Nat.zero_le _, Nat.zero_le _⟩ [] rfl (by decide) 32 rfl ?_
      refine ww_icmp_ne C 39 dX3_toldKind_32 (by decide) 35 rfl (fun h_32 => ?_) (fun h_32 => ?_)
      · skip
        refine ww_iconst (v := 1) C dX3_toldKind_39 (by decide) 40 rfl ?_
        exact ww_iret C hr dX3_toldKind_40 (by simp [s_told, bI_n0 h_4, *]) rfl
      · skip
        refine ww_iconst (v := 2) C dX3_toldKind_35 (by decide) 36 rfl ?_
        refine ww_goto C 40 dX3_toldKind_36 (by decide) ?_
        exact ww_iret C hr dX3_toldKind_40 (by simp [s_told, bI_n0 h_4, *]) rfl
  · skip
    refine ww_iconst (v := 3) C dX3_toldKind_7 (by decide) 8 rfl ?_
    exact ww_iret C hr dX3_toldKind_8 (by rw [s_told, if_neg (bI_e0 h_4)]) rfl
theorem c_X3_isOfKind (l : Launch) (Γ : Gm) {f k : Int32}  : Ct l Γ yX3_isOfKind cX3_isOfKind 3 (some .boolean) 3 [.int f, .int k] [] (some (.int (s_isk f k))) [] := by
  refine Ct.of mi_X3_isOfKind [some (.int f), some (.int k), none] 1 rfl (Nat.le_of_ble_eq_true rfl) ?_
  intro p e s m args below meth c C hr
  refine ww_iload_n (i := 0) C dX3_isOfKind_0 rfl rfl 1 rfl ?_
  refine ww_callS1p C (c_X3_toldKind l Γ) mi_X3_toldKind st_X3_toldKind ml_X3_23 dX3_isOfKind_1 (Nat.le_of_ble_eq_true rfl) (Nat.le_of_ble_eq_true rfl) (Nat.le_of_ble_eq_true rfl) ⟨Nat.zero_le _, Nat.zero_le _⟩ [] rfl (by decide) 4 rfl ?_
  refine ww_istore_n (i := 2) C dX3_isOfKind_4 rfl (by decide) rfl 5 rfl ?_
  refine ww_iload_n (i := 1) C dX3_isOfKind_5 rfl rfl 6 rfl ?_
  refine ww_if_eq C 24 dX3_isOfKind_6 (by decide) 9 rfl (fun h_6 => ?_) (fun h_6 => ?_)
  · skip
    refine ww_iconst (v := 1) C dX3_isOfKind_24 (by decide) 25 rfl ?_
    refine ww_goto C 29 dX3_isOfKind_25 (by decide) ?_
    exact ww_zret C hr rfl dX3_isOfKind_29 (by first | rw [s_isk, if_pos h_6] | rw [s_isk, if_neg h_6, if_pos h_11] | rw [s_isk, if_neg h_6, if_neg h_11, if_neg h_16] | rw [s_isk, if_neg h_6, if_neg h_11, if_pos h_16, if_pos h_21] | rw [s_isk, if_neg h_6, if_neg h_11, if_pos h_16, if_neg h_21]) rfl
  · skip
    refine ww_iload_n (i := 1) C dX3_isOfKind_9 rfl rfl 10 rfl ?_
    refine ww_iload_n (i := 2) C dX3_isOfKind_10 rfl rfl 11 rfl ?_
    refine ww_icmp_eq C 24 dX3_isOfKind_11 (by decide) 14 rfl (fun h_11 => ?_) (fun h_11 => ?_)
    · skip
      refine ww_iconst (v := 1) C dX3_isOfKind_24 (by decide) 25 rfl ?_
      refine ww_goto C 29 dX3_isOfKind_25 (by decide) ?_
      exact ww_zret C hr rfl dX3_isOfKind_29 (by first | rw [s_isk, if_pos h_6] | rw [s_isk, if_neg h_6, if_pos h_11] | rw [s_isk, if_neg h_6, if_neg h_11, if_neg h_16] | rw [s_isk, if_neg h_6, if_neg h_11, if_pos h_16, if_pos h_21] | rw [s_isk, if_neg h_6, if_neg h_11, if_pos h_16, if_neg h_21]) rfl
    · skip
      refine ww_iload_n (i := 1) C dX3_isOfKind_14 rfl rfl 15 rfl ?_
      refine ww_iconst (v := 1) C dX3_isOfKind_15 (by decide) 16 rfl ?_
      refine ww_icmp_ne C 28 dX3_isOfKind_16 (by decide) 19 rfl (fun h_16 => ?_) (fun h_16 => ?_)
      · skip
        refine ww_iconst (v := 0) C dX3_isOfKind_28 (by decide) 29 rfl ?_
        exact ww_zret C hr rfl dX3_isOfKind_29 (by first | rw [s_isk, if_pos h_6] | rw [s_isk, if_neg h_6, if_pos h_11] | rw [s_isk, if_neg h_6, if_neg h_11, if_neg h_16] | rw [s_isk, if_neg h_6, if_neg h_11, if_pos h_16, if_pos h_21] | rw [s_isk, if_neg h_6, if_neg h_11, if_pos h_16, if_neg h_21]) rfl
      · skip
        refine ww_iload_n (i := 2) C dX3_isOfKind_19 rfl rfl 20 rfl ?_
        refine ww_iconst (v := 2) C dX3_isOfKind_20 (by decide) 21 rfl ?_
        refine ww_icmp_ne C 28 dX3_isOfKind_21 (by decide) 24 rfl (fun h_21 => ?_) (fun h_21 => ?_)
        · skip
          refine ww_iconst (v := 0) C dX3_isOfKind_28 (by decide) 29 rfl ?_
          exact ww_zret C hr rfl dX3_isOfKind_29 (by first | rw [s_isk, if_pos h_6] | rw [s_isk, if_neg h_6, if_pos h_11] | rw [s_isk, if_neg h_6, if_neg h_11, if_neg h_16] | rw [s_isk, if_neg h_6, if_neg h_11, if_pos h_16, if_pos h_21] | rw [s_isk, if_neg h_6, if_neg h_11, if_pos h_16, if_neg h_21]) rfl
        · skip
          refine ww_iconst (v := 1) C dX3_isOfKind_24 (by decide) 25 rfl ?_
          refine ww_goto C 29 dX3_isOfKind_25 (by decide) ?_
          exact ww_zret C hr rfl dX3_isOfKind_29 (by first | rw [s_isk, if_pos h_6] | rw [s_isk, if_neg h_6, if_pos h_11] | rw [s_isk, if_neg h_6, if_neg h_11, if_neg h_16] | rw [s_isk, if_neg h_6, if_neg h_11, if_pos h_16, if_pos h_21] | rw [s_isk, if_neg h_6, if_neg h_11, if_pos h_16, if_neg h_21]) rfl
def s_fa (ch : Int64) (p : Int32) : Int32 := (lushrI ch (4 * p)).toInt32 &&& 15
def s_wf (ch : Int64) (p f : Int32) : Int64 := ch ||| (f.toInt64 <<< ((4 * p).toInt64 &&& 63))
def s_daug (code d : Int32) : Nat → Int32
  | 0 => 0
  | k + 1 => s_daug code d k ||| (((code >>> ((4 * nI k + d) &&& 31)) &&& 1) <<< (nI k &&& 31))
def s_ofc1 (code : Int32) : Nat → Int64
  | 0 => (code &&& 65535).toInt64
  | k + 1 => s_wf (s_ofc1 code k) (4 + nI k) (s_daug code (nI k) 4)
def s_ofc2 (code : Int32) : Nat → Int64
  | 0 => s_ofc1 code 4
  | k + 1 => s_wf (s_ofc2 code k) (nI (8 + k)) (s_fa (s_ofc2 code k) (2 * (nI (8 + k) - 8)) ^^^ s_fa (s_ofc2 code k) (2 * (nI (8 + k) - 8) + 1))
def s_ofc (code : Int32) : Int64 := s_wf (s_ofc2 code 7) 15 (s_fa (s_ofc2 code 7) 14 ^^^ s_fa (s_ofc2 code 7) 0)
/-- how many of n places from a on have the figure -/
def s_seen (ch : Int64) (f : Int32) (a : Nat) : Nat → Int32
  | 0 => 0
  | k + 1 => if s_fa ch (nI (a + k)) = f then s_seen ch f a k + 1 else s_seen ch f a k
def s_wu1 (ch : Int64) (p : Int32) (b : Nat) : Nat → Int32
  | 0 => 0
  | j + 1 => if (s_fa ch (nI (b + j)) ^^^ s_fa ch p) &&& 1 = 0 then s_wu1 ch p b j ||| ((1 : Int32) <<< (nI (b + j) &&& 31)) else s_wu1 ch p b j
def s_wu (ch : Int64) (k : Nat) : Int32 := if k < 8 then 0 else s_wu1 ch (nI k) (2 * (k - 8)) 2
/-- THE POINT, places 14 down to 15 - k: met, and ends -/
def s_ep (ch : Int64) : Nat → Int32 × Int32
  | 0 => (16384, 0)
  | k + 1 => if ((s_ep ch k).1 >>> (nI (14 - k) &&& 31)) &&& 1 = 0 then s_ep ch k else ((s_ep ch k).1 ||| s_wu ch (14 - k), if s_wu ch (14 - k) = 0 then (s_ep ch k).2 ||| ((1 : Int32) <<< (nI (14 - k) &&& 31)) else (s_ep ch k).2)
theorem c_X2_figureAt (l : Launch) (Γ : Gm) {ch : Int64} {p0 : Int32}  : Ct l Γ yX2_figureAt cX2_figureAt 3 (some .int) 0 [.long ch, .int p0] [] (some (.int (s_fa ch p0))) [] := by
  refine Ct.of mi_X2_figureAt [some (.long ch), none, some (.int p0)] 0 rfl (Nat.le_of_ble_eq_true rfl) ?_
  intro p e s m args below meth c C hr
  refine ww_lload_n (i := 0) C dX2_figureAt_0 rfl rfl 1 rfl ?_
  refine ww_iconst (v := 4) C dX2_figureAt_1 (by decide) 2 rfl ?_
  refine ww_iload_n (i := 2) C dX2_figureAt_2 rfl rfl 3 rfl ?_
  refine ww_imul C dX2_figureAt_3 4 rfl ?_
  refine ww_lushr C dX2_figureAt_4 5 rfl ?_
  refine ww_l2i C dX2_figureAt_5 6 rfl ?_
  refine ww_bipush (v := 15) C dX2_figureAt_6 (by decide) 8 rfl ?_
  refine ww_iand C dX2_figureAt_8 9 rfl ?_
  exact ww_iret C hr dX2_figureAt_9 rfl rfl
theorem c_X2_withFigure (l : Launch) (Γ : Gm) {ch : Int64} {p0 f : Int32}  : Ct l Γ yX2_withFigure cX2_withFigure 4 (some .long) 0 [.long ch, .int p0, .int f] [] (some (.long (s_wf ch p0 f))) [] := by
  refine Ct.of mi_X2_withFigure [some (.long ch), none, some (.int p0), some (.int f)] 0 rfl (Nat.le_of_ble_eq_true rfl) ?_
  intro p e s m args below meth c C hr
  refine ww_lload_n (i := 0) C dX2_withFigure_0 rfl rfl 1 rfl ?_
  refine ww_iload_n (i := 3) C dX2_withFigure_1 rfl rfl 2 rfl ?_
  refine ww_i2l C dX2_withFigure_2 3 rfl ?_
  refine ww_iconst (v := 4) C dX2_withFigure_3 (by decide) 4 rfl ?_
  refine ww_iload_n (i := 2) C dX2_withFigure_4 rfl rfl 5 rfl ?_
  refine ww_imul C dX2_withFigure_5 6 rfl ?_
  refine ww_lshl C dX2_withFigure_6 7 rfl ?_
  refine ww_lor C dX2_withFigure_7 8 rfl ?_
  exact ww_lret C hr dX2_withFigure_8 rfl rfl
theorem c_X2_firstAbove (l : Launch) (Γ : Gm) {p0 : Int32}  : Ct l Γ yX2_firstAbove cX2_firstAbove 1 (some .int) 0 [.int p0] [] (some (.int (2 * (p0 - 8)))) [] := by
  refine Ct.of mi_X2_firstAbove [some (.int p0)] 0 rfl (Nat.le_of_ble_eq_true rfl) ?_
  intro p e s m args below meth c C hr
  refine ww_iconst (v := 2) C dX2_firstAbove_0 (by decide) 1 rfl ?_
  refine ww_iload_n (i := 0) C dX2_firstAbove_1 rfl rfl 2 rfl ?_
  refine ww_bipush (v := 8) C dX2_firstAbove_2 (by decide) 4 rfl ?_
  refine ww_isub C dX2_firstAbove_4 5 rfl ?_
  refine ww_imul C dX2_firstAbove_5 6 rfl ?_
  exact ww_iret C hr dX2_firstAbove_6 rfl rfl
theorem c_X2_daughterOf (l : Launch) (Γ : Gm) {code d : Int32}  : Ct l Γ yX2_daughterOf cX2_daughterOf 4 (some .int) 0 [.int code, .int d] [] (some (.int (s_daug code d 4))) [] := by
  refine Ct.of mi_X2_daughterOf [some (.int code), some (.int d), none, none] 2 rfl (Nat.le_of_ble_eq_true rfl) ?_
  intro p e s m args below meth c C hr
  refine ww_iconst (v := 0) C dX2_daughterOf_0 (by decide) 1 rfl ?_
  refine ww_istore_n (i := 2) C dX2_daughterOf_1 rfl (by decide) rfl 2 rfl ?_
  refine ww_iconst (v := 0) C dX2_daughterOf_2 (by decide) 3 rfl ?_
  refine ww_istore_n (i := 3) C dX2_daughterOf_3 rfl (by decide) rfl 4 rfl ?_
  refine ww_loop (fun k : Nat => 4 - k) (fun k => k ≤ 4) (fun _ => []) (fun k => [some (.int code), some (.int d), some (.int (s_daug code d k)), some (.int (nI k))]) (0 : Nat) (by decide) rfl rfl (fun k hk ih => ?_)
  try dsimp only at hk ih ⊢
  refine ww_iload_n (i := 3) C dX2_daughterOf_4 rfl rfl 5 rfl ?_
  refine ww_iconst (v := 4) C dX2_daughterOf_5 (by decide) 6 rfl ?_
  refine ww_icmp_ge C 29 dX2_daughterOf_6 (by decide) 9 rfl (fun h_6 => ?_) (fun h_6 => ?_)
  · skip
    obtain rfl : k = 4 := eqN (n := 4) h_6 hk (by decide)
    refine ww_iload_n (i := 2) C dX2_daughterOf_29 rfl rfl 30 rfl ?_
    exact ww_iret C hr dX2_daughterOf_30 rfl rfl
  · skip
    have hlt : k < 4 := ltN (n := 4) h_6 (by decide) (by omega)
    refine ww_iload_n (i := 2) C dX2_daughterOf_9 rfl rfl 10 rfl ?_
    refine ww_iload_n (i := 0) C dX2_daughterOf_10 rfl rfl 11 rfl ?_
    refine ww_iconst (v := 4) C dX2_daughterOf_11 (by decide) 12 rfl ?_
    refine ww_iload_n (i := 3) C dX2_daughterOf_12 rfl rfl 13 rfl ?_
    refine ww_imul C dX2_daughterOf_13 14 rfl ?_
    refine ww_iload_n (i := 1) C dX2_daughterOf_14 rfl rfl 15 rfl ?_
    refine ww_iadd C dX2_daughterOf_15 16 rfl ?_
    refine ww_ishr C dX2_daughterOf_16 17 rfl ?_
    refine ww_iconst (v := 1) C dX2_daughterOf_17 (by decide) 18 rfl ?_
    refine ww_iand C dX2_daughterOf_18 19 rfl ?_
    refine ww_iload_n (i := 3) C dX2_daughterOf_19 rfl rfl 20 rfl ?_
    refine ww_ishl C dX2_daughterOf_20 21 rfl ?_
    refine ww_ior C dX2_daughterOf_21 22 rfl ?_
    refine ww_istore_n (i := 2) C dX2_daughterOf_22 rfl (by decide) rfl 23 rfl ?_
    refine ww_iinc (y := 1) C dX2_daughterOf_23 rfl (by decide) (by decide) rfl 26 rfl ?_
    refine ww_goto C 4 dX2_daughterOf_26 (by decide) ?_
    exact ww_eq rfl (by rw [nI_succ]; rfl) rfl (ih (k + 1) (by omega) (by omega))
theorem c_X2_ofCode (l : Launch) (Γ : Gm) {code : Int32}  : Ct l Γ yX2_ofCode cX2_ofCode 5 (some .long) 1 [.int code] [] (some (.long (s_ofc code))) [] := by
  refine Ct.of mi_X2_ofCode [some (.int code), none, none, none, none] 4 rfl (Nat.le_of_ble_eq_true rfl) ?_
  intro p e s m args below meth c C hr
  refine ww_iload_n (i := 0) C dX2_ofCode_0 rfl rfl 1 rfl ?_
  refine ww_ldc C cn_X2_9 dX2_ofCode_1 3 rfl ?_
  refine ww_iand C dX2_ofCode_3 4 rfl ?_
  refine ww_i2l C dX2_ofCode_4 5 rfl ?_
  refine ww_lstore_n (i := 1) C dX2_ofCode_5 rfl (by decide) rfl 6 rfl ?_
  refine ww_iconst (v := 0) C dX2_ofCode_6 (by decide) 7 rfl ?_
  refine ww_istore_n (i := 3) C dX2_ofCode_7 rfl (by decide) rfl 8 rfl ?_
  refine ww_loop (fun k : Nat => 4 - k) (fun k => k ≤ 4) (fun _ => []) (fun k => [some (.int code), some (.long (s_ofc1 code k)), none, some (.int (nI k)), none]) (0 : Nat) (by decide) rfl rfl (fun k hk ih => ?_)
  try dsimp only at hk ih ⊢
  refine ww_iload_n (i := 3) C dX2_ofCode_8 rfl rfl 9 rfl ?_
  refine ww_iconst (v := 4) C dX2_ofCode_9 (by decide) 10 rfl ?_
  refine ww_icmp_ge C 32 dX2_ofCode_10 (by decide) 13 rfl (fun h_10 => ?_) (fun h_10 => ?_)
  · skip
    obtain rfl : k = 4 := eqN (n := 4) h_10 hk (by decide)
    refine ww_bipush (v := 8) C dX2_ofCode_32 (by decide) 34 rfl ?_
    refine ww_istore_n (i := 3) C dX2_ofCode_34 rfl (by decide) rfl 35 rfl ?_
    refine ww_lv (lv' := [some (.int code), some (.long (s_ofc1 code 4)), none, some (.int 8), none]) (lvle_same (lvle_same (lvle_same (lvle_same (lvle_none lvle_nil))))) ?_
    refine ww_loop (fun k : Nat => 7 - k) (fun k => k ≤ 7) (fun _ => []) (fun k => [some (.int code), some (.long (s_ofc2 code k)), none, some (.int (nI (8 + k))), none]) (0 : Nat) (by decide) rfl rfl (fun k hk ih => ?_)
    try dsimp only at hk ih ⊢
    refine ww_iload_n (i := 3) C dX2_ofCode_35 rfl rfl 36 rfl ?_
    refine ww_bipush (v := 14) C dX2_ofCode_36 (by decide) 38 rfl ?_
    refine ww_icmp_gt C 74 dX2_ofCode_38 (by decide) 41 rfl (fun h_38 => ?_) (fun h_38 => ?_)
    · skip
      obtain rfl : k = 7 := by have := (nI_ltI (a := 14) (by decide) (by omega)).mp h_38; omega
      refine ww_lload_n (i := 1) C dX2_ofCode_74 rfl rfl 75 rfl ?_
      refine ww_bipush (v := 15) C dX2_ofCode_75 (by decide) 77 rfl ?_
      refine ww_lload_n (i := 1) C dX2_ofCode_77 rfl rfl 78 rfl ?_
      refine ww_bipush (v := 14) C dX2_ofCode_78 (by decide) 80 rfl ?_
      refine ww_callS2p C (c_X2_figureAt l Γ) mi_X2_figureAt st_X2_figureAt ml_X2_24 dX2_ofCode_80 (Nat.le_of_ble_eq_true rfl) (Nat.le_of_ble_eq_true rfl) (Nat.le_of_ble_eq_true rfl) ⟨Nat.zero_le _, Nat.zero_le _⟩ [] rfl (by decide) 83 rfl ?_
      refine ww_lload_n (i := 1) C dX2_ofCode_83 rfl rfl 84 rfl ?_
      refine ww_iconst (v := 0) C dX2_ofCode_84 (by decide) 85 rfl ?_
      refine ww_callS2p C (c_X2_figureAt l Γ) mi_X2_figureAt st_X2_figureAt ml_X2_24 dX2_ofCode_85 (Nat.le_of_ble_eq_true rfl) (Nat.le_of_ble_eq_true rfl) (Nat.le_of_ble_eq_true rfl) ⟨Nat.zero_le _, Nat.zero_le _⟩ [] rfl (by decide) 88 rfl ?_
      refine ww_ixor C dX2_ofCode_88 89 rfl ?_
      refine ww_callS3p C (c_X2_withFigure l Γ) mi_X2_withFigure st_X2_withFigure ml_X2_16 dX2_ofCode_89 (Nat.le_of_ble_eq_true rfl) (Nat.le_of_ble_eq_true rfl) (Nat.le_of_ble_eq_true rfl) ⟨Nat.zero_le _, Nat.zero_le _⟩ [] rfl (by decide) 92 rfl ?_
      exact ww_lret C hr dX2_ofCode_92 rfl rfl
    · skip
      have hlt : k < 7 := Nat.lt_of_not_le fun q => h_38 ((nI_ltI (a := 14) (by decide) (by omega)).mpr (by omega))
      refine ww_iload_n (i := 3) C dX2_ofCode_41 rfl rfl 42 rfl ?_
      refine ww_callS1p C (c_X2_firstAbove l Γ) mi_X2_firstAbove st_X2_firstAbove ml_X2_20 dX2_ofCode_42 (Nat.le_of_ble_eq_true rfl) (Nat.le_of_ble_eq_true rfl) (Nat.le_of_ble_eq_true rfl) ⟨Nat.zero_le _, Nat.zero_le _⟩ [] rfl (by decide) 45 rfl ?_
      refine ww_istore C dX2_ofCode_45 (by decide) rfl 47 rfl ?_
      refine ww_lload_n (i := 1) C dX2_ofCode_47 rfl rfl 48 rfl ?_
      refine ww_iload_n (i := 3) C dX2_ofCode_48 rfl rfl 49 rfl ?_
      refine ww_lload_n (i := 1) C dX2_ofCode_49 rfl rfl 50 rfl ?_
      refine ww_iload C dX2_ofCode_50 rfl 52 rfl ?_
      refine ww_callS2p C (c_X2_figureAt l Γ) mi_X2_figureAt st_X2_figureAt ml_X2_24 dX2_ofCode_52 (Nat.le_of_ble_eq_true rfl) (Nat.le_of_ble_eq_true rfl) (Nat.le_of_ble_eq_true rfl) ⟨Nat.zero_le _, Nat.zero_le _⟩ [] rfl (by decide) 55 rfl ?_
      refine ww_lload_n (i := 1) C dX2_ofCode_55 rfl rfl 56 rfl ?_
      refine ww_iload C dX2_ofCode_56 rfl 58 rfl ?_
      refine ww_iconst (v := 1) C dX2_ofCode_58 (by decide) 59 rfl ?_
      refine ww_iadd C dX2_ofCode_59 60 rfl ?_
      refine ww_callS2p C (c_X2_figureAt l Γ) mi_X2_figureAt st_X2_figureAt ml_X2_24 dX2_ofCode_60 (Nat.le_of_ble_eq_true rfl) (Nat.le_of_ble_eq_true rfl) (Nat.le_of_ble_eq_true rfl) ⟨Nat.zero_le _, Nat.zero_le _⟩ [] rfl (by decide) 63 rfl ?_
      refine ww_ixor C dX2_ofCode_63 64 rfl ?_
      refine ww_callS3p C (c_X2_withFigure l Γ) mi_X2_withFigure st_X2_withFigure ml_X2_16 dX2_ofCode_64 (Nat.le_of_ble_eq_true rfl) (Nat.le_of_ble_eq_true rfl) (Nat.le_of_ble_eq_true rfl) ⟨Nat.zero_le _, Nat.zero_le _⟩ [] rfl (by decide) 67 rfl ?_
      refine ww_lstore_n (i := 1) C dX2_ofCode_67 rfl (by decide) rfl 68 rfl ?_
      refine ww_iinc (y := 1) C dX2_ofCode_68 rfl (by decide) (by decide) rfl 71 rfl ?_
      refine ww_goto C 35 dX2_ofCode_71 (by decide) ?_
      refine ww_lv (lv' := [some (.int code), some (.long (s_ofc2 code (k + 1))), none, some (.int (nI (8 + (k + 1)))), none]) ?_ (ih (k + 1) (by omega) (by omega))
      rw [show 8 + (k + 1) = 8 + k + 1 from rfl, nI_succ]
      exact (lvle_same (lvle_same (lvle_same (lvle_same (lvle_none lvle_nil)))))
  · skip
    have hlt : k < 4 := ltN (n := 4) h_10 (by decide) (by omega)
    refine ww_lload_n (i := 1) C dX2_ofCode_13 rfl rfl 14 rfl ?_
    refine ww_iconst (v := 4) C dX2_ofCode_14 (by decide) 15 rfl ?_
    refine ww_iload_n (i := 3) C dX2_ofCode_15 rfl rfl 16 rfl ?_
    refine ww_iadd C dX2_ofCode_16 17 rfl ?_
    refine ww_iload_n (i := 0) C dX2_ofCode_17 rfl rfl 18 rfl ?_
    refine ww_iload_n (i := 3) C dX2_ofCode_18 rfl rfl 19 rfl ?_
    refine ww_callS2p C (c_X2_daughterOf l Γ) mi_X2_daughterOf st_X2_daughterOf ml_X2_12 dX2_ofCode_19 (Nat.le_of_ble_eq_true rfl) (Nat.le_of_ble_eq_true rfl) (Nat.le_of_ble_eq_true rfl) ⟨Nat.zero_le _, Nat.zero_le _⟩ [] rfl (by decide) 22 rfl ?_
    refine ww_callS3p C (c_X2_withFigure l Γ) mi_X2_withFigure st_X2_withFigure ml_X2_16 dX2_ofCode_22 (Nat.le_of_ble_eq_true rfl) (Nat.le_of_ble_eq_true rfl) (Nat.le_of_ble_eq_true rfl) ⟨Nat.zero_le _, Nat.zero_le _⟩ [] rfl (by decide) 25 rfl ?_
    refine ww_lstore_n (i := 1) C dX2_ofCode_25 rfl (by decide) rfl 26 rfl ?_
    refine ww_iinc (y := 1) C dX2_ofCode_26 rfl (by decide) (by decide) rfl 29 rfl ?_
    refine ww_goto C 8 dX2_ofCode_29 (by decide) ?_
    exact ww_eq rfl (by rw [nI_succ]; rfl) rfl (ih (k + 1) (by omega) (by omega))
theorem c_X2_timesSeen (l : Launch) (Γ : Gm) {ch : Int64} {f : Int32} {a n : Nat} {b : Nat} (hb : b + 1 = a + n) (hn : b < 1000) : Ct l Γ yX2_timesSeen cX2_timesSeen 7 (some .int) 1 [.long ch, .int f, .int (nI a), .int (nI b)] [] (some (.int (s_seen ch f a n))) [] := by
  refine Ct.of mi_X2_timesSeen [some (.long ch), none, some (.int f), some (.int (nI a)), some (.int (nI b)), none, none] 2 rfl (Nat.le_of_ble_eq_true rfl) ?_
  intro p e s m args below meth c C hr
  refine ww_iconst (v := 0) C dX2_timesSeen_0 (by decide) 1 rfl ?_
  refine ww_istore C dX2_timesSeen_1 (by decide) rfl 3 rfl ?_
  refine ww_iload_n (i := 3) C dX2_timesSeen_3 rfl rfl 4 rfl ?_
  refine ww_istore C dX2_timesSeen_4 (by decide) rfl 6 rfl ?_
  refine ww_loop (fun k : Nat => n - k) (fun k => k ≤ n) (fun _ => []) (fun k => [some (.long ch), none, some (.int f), some (.int (nI a)), some (.int (nI b)), some (.int (s_seen ch f a k)), some (.int (nI (a + k)))]) (0 : Nat) (by omega) rfl rfl (fun k hk ih => ?_)
  try dsimp only at hk ih ⊢
  refine ww_iload C dX2_timesSeen_6 rfl 8 rfl ?_
  refine ww_iload C dX2_timesSeen_8 rfl 10 rfl ?_
  refine ww_icmp_gt C 32 dX2_timesSeen_10 (by decide) 13 rfl (fun h_10 => ?_) (fun h_10 => ?_)
  · skip
    obtain rfl : k = n := by have := (nI_ltI (by omega) (by omega)).mp h_10; omega
    refine ww_iload C dX2_timesSeen_32 rfl 34 rfl ?_
    exact ww_iret C hr dX2_timesSeen_34 rfl rfl
  · skip
    have hlt : k < n := Nat.lt_of_not_le fun q => h_10 ((nI_ltI (by omega) (by omega)).mpr (by omega))
    refine ww_lload_n (i := 0) C dX2_timesSeen_13 rfl rfl 14 rfl ?_
    refine ww_iload C dX2_timesSeen_14 rfl 16 rfl ?_
    refine ww_callS2p C (c_X2_figureAt l Γ) mi_X2_figureAt st_X2_figureAt ml_X2_24 dX2_timesSeen_16 (Nat.le_of_ble_eq_true rfl) (Nat.le_of_ble_eq_true rfl) (Nat.le_of_ble_eq_true rfl) ⟨Nat.zero_le _, Nat.zero_le _⟩ [] rfl (by decide) 19 rfl ?_
    refine ww_iload_n (i := 2) C dX2_timesSeen_19 rfl rfl 20 rfl ?_
    refine ww_icmp_ne C 26 dX2_timesSeen_20 (by decide) 23 rfl (fun h_20 => ?_) (fun h_20 => ?_)
    · skip
      refine ww_iinc (y := 1) C dX2_timesSeen_26 rfl (by decide) (by decide) rfl 29 rfl ?_
      refine ww_goto C 6 dX2_timesSeen_29 (by decide) ?_
      exact ww_eq rfl (by rw [show a + (k + 1) = a + k + 1 from rfl, nI_succ, s_seen]; simp [h_20]) rfl (ih (k + 1) (by omega) (by omega))
    · skip
      refine ww_iinc (y := 1) C dX2_timesSeen_23 rfl (by decide) (by decide) rfl 26 rfl ?_
      refine ww_iinc (y := 1) C dX2_timesSeen_26 rfl (by decide) (by decide) rfl 29 rfl ?_
      refine ww_goto C 6 dX2_timesSeen_29 (by decide) ?_
      exact ww_eq rfl (by rw [show a + (k + 1) = a + k + 1 from rfl, nI_succ, s_seen]; simp [h_20]) rfl (ih (k + 1) (by omega) (by omega))
theorem c_X2_wayUp (l : Launch) (Γ : Gm) {ch : Int64} {k : Nat} (hk : k < 15) : Ct l Γ yX2_wayUp cX2_wayUp 5 (some .int) 1 [.long ch, .int (nI k)] [] (some (.int (s_wu ch k))) [] := by
  refine Ct.of mi_X2_wayUp [some (.long ch), none, some (.int (nI k)), none, none] 2 rfl (Nat.le_of_ble_eq_true rfl) ?_
  intro p e s m args below meth c C hr
  refine ww_iconst (v := 0) C dX2_wayUp_0 (by decide) 1 rfl ?_
  refine ww_istore_n (i := 3) C dX2_wayUp_1 rfl (by decide) rfl 2 rfl ?_
  refine ww_iload_n (i := 2) C dX2_wayUp_2 rfl rfl 3 rfl ?_
  refine ww_bipush (v := 8) C dX2_wayUp_3 (by decide) 5 rfl ?_
  refine ww_icmp_lt C 55 dX2_wayUp_5 (by decide) 8 rfl (fun h_5 => ?_) (fun h_5 => ?_)
  · skip
    first
      | (have h8 : k < 8 := (nI_ltI (b := 8) (by omega) (by decide)).mp h_5)
      | (rw [eF, nI_1] at h_22; obtain rfl : j = 2 := by have := (nI_ltI (by omega) (by omega)).mp h_22; omega)
    refine ww_iload_n (i := 3) C dX2_wayUp_55 rfl rfl 56 rfl ?_
    exact ww_iret C hr dX2_wayUp_56 (by simp [s_wu, *]) rfl
  · skip
    have h8 : ¬ k < 8 := fun q => h_5 ((nI_ltI (b := 8) (by omega) (by decide)).mpr q)
    have eF : (2 : Int32) * (nI k - 8) = nI (2 * (k - 8)) := by
      rw [show (8 : Int32) = nI 8 from rfl, pk_sub (by omega), show (2 : Int32) = nI 2 from rfl, pk_mul]
    refine ww_iload_n (i := 2) C dX2_wayUp_8 rfl rfl 9 rfl ?_
    refine ww_callS1p C (c_X2_firstAbove l Γ) mi_X2_firstAbove st_X2_firstAbove ml_X2_20 dX2_wayUp_9 (Nat.le_of_ble_eq_true rfl) (Nat.le_of_ble_eq_true rfl) (Nat.le_of_ble_eq_true rfl) ⟨Nat.zero_le _, Nat.zero_le _⟩ [] rfl (by decide) 12 rfl ?_
    refine ww_istore C dX2_wayUp_12 (by decide) rfl 14 rfl ?_
    rw [eF]
    refine ww_loop (fun j : Nat => 2 - j) (fun j => j ≤ 2) (fun _ => []) (fun j => [some (.long ch), none, some (.int (nI k)), some (.int (s_wu1 ch (nI k) (2 * (k - 8)) j)), some (.int (nI (2 * (k - 8) + j)))]) (0 : Nat) (by omega) rfl rfl (fun j hj ih => ?_)
    try dsimp only at hj ih ⊢
    refine ww_iload C dX2_wayUp_14 rfl 16 rfl ?_
    refine ww_iload_n (i := 2) C dX2_wayUp_16 rfl rfl 17 rfl ?_
    refine ww_callS1p C (c_X2_firstAbove l Γ) mi_X2_firstAbove st_X2_firstAbove ml_X2_20 dX2_wayUp_17 (Nat.le_of_ble_eq_true rfl) (Nat.le_of_ble_eq_true rfl) (Nat.le_of_ble_eq_true rfl) ⟨Nat.zero_le _, Nat.zero_le _⟩ [] rfl (by decide) 20 rfl ?_
    refine ww_iconst (v := 1) C dX2_wayUp_20 (by decide) 21 rfl ?_
    refine ww_iadd C dX2_wayUp_21 22 rfl ?_
    refine ww_icmp_gt C 55 dX2_wayUp_22 (by decide) 25 rfl (fun h_22 => ?_) (fun h_22 => ?_)
    · skip
      first
        | (have h8 : k < 8 := (nI_ltI (b := 8) (by omega) (by decide)).mp h_5)
        | (rw [eF, nI_1] at h_22; obtain rfl : j = 2 := by have := (nI_ltI (by omega) (by omega)).mp h_22; omega)
      refine ww_iload_n (i := 3) C dX2_wayUp_55 rfl rfl 56 rfl ?_
      exact ww_iret C hr dX2_wayUp_56 (by simp [s_wu, *]) rfl
    · skip
      rw [eF, nI_1] at h_22
      have hlt : j < 2 := Nat.lt_of_not_le fun q => h_22 ((nI_ltI (by omega) (by omega)).mpr (by omega))
      refine ww_lload_n (i := 0) C dX2_wayUp_25 rfl rfl 26 rfl ?_
      refine ww_iload C dX2_wayUp_26 rfl 28 rfl ?_
      refine ww_callS2p C (c_X2_figureAt l Γ) mi_X2_figureAt st_X2_figureAt ml_X2_24 dX2_wayUp_28 (Nat.le_of_ble_eq_true rfl) (Nat.le_of_ble_eq_true rfl) (Nat.le_of_ble_eq_true rfl) ⟨Nat.zero_le _, Nat.zero_le _⟩ [] rfl (by decide) 31 rfl ?_
      refine ww_lload_n (i := 0) C dX2_wayUp_31 rfl rfl 32 rfl ?_
      refine ww_iload_n (i := 2) C dX2_wayUp_32 rfl rfl 33 rfl ?_
      refine ww_callS2p C (c_X2_figureAt l Γ) mi_X2_figureAt st_X2_figureAt ml_X2_24 dX2_wayUp_33 (Nat.le_of_ble_eq_true rfl) (Nat.le_of_ble_eq_true rfl) (Nat.le_of_ble_eq_true rfl) ⟨Nat.zero_le _, Nat.zero_le _⟩ [] rfl (by decide) 36 rfl ?_
      refine ww_ixor C dX2_wayUp_36 37 rfl ?_
      refine ww_iconst (v := 1) C dX2_wayUp_37 (by decide) 38 rfl ?_
      refine ww_iand C dX2_wayUp_38 39 rfl ?_
      refine ww_if_ne C 49 dX2_wayUp_39 (by decide) 42 rfl (fun h_39 => ?_) (fun h_39 => ?_)
      · skip
        refine ww_iinc (y := 1) C dX2_wayUp_49 rfl (by decide) (by decide) rfl 52 rfl ?_
        refine ww_goto C 14 dX2_wayUp_52 (by decide) ?_
        exact ww_eq rfl (by rw [show 2 * (k - 8) + (j + 1) = 2 * (k - 8) + j + 1 from rfl, nI_succ, s_wu1]; simp [h_39]) rfl (ih (j + 1) (by omega) (by omega))
      · skip
        refine ww_iload_n (i := 3) C dX2_wayUp_42 rfl rfl 43 rfl ?_
        refine ww_iconst (v := 1) C dX2_wayUp_43 (by decide) 44 rfl ?_
        refine ww_iload C dX2_wayUp_44 rfl 46 rfl ?_
        refine ww_ishl C dX2_wayUp_46 47 rfl ?_
        refine ww_ior C dX2_wayUp_47 48 rfl ?_
        refine ww_istore_n (i := 3) C dX2_wayUp_48 rfl (by decide) rfl 49 rfl ?_
        refine ww_iinc (y := 1) C dX2_wayUp_49 rfl (by decide) (by decide) rfl 52 rfl ?_
        refine ww_goto C 14 dX2_wayUp_52 (by decide) ?_
        exact ww_eq rfl (by rw [show 2 * (k - 8) + (j + 1) = 2 * (k - 8) + j + 1 from rfl, nI_succ, s_wu1]; simp [h_39]) rfl (ih (j + 1) (by omega) (by omega))
theorem c_X2_endsOfPoint (l : Launch) (Γ : Gm) {ch : Int64}  : Ct l Γ yX2_endsOfPoint cX2_endsOfPoint 6 (some .int) 2 [.long ch] [] (some (.int (s_ep ch 15).2)) [] := by
  refine Ct.of mi_X2_endsOfPoint [some (.long ch), none, none, none, none, none] 4 rfl (Nat.le_of_ble_eq_true rfl) ?_
  intro p e s m args below meth c C hr
  refine ww_sipush (v := 16384) C dX2_endsOfPoint_0 (by decide) 3 rfl ?_
  refine ww_istore_n (i := 2) C dX2_endsOfPoint_3 rfl (by decide) rfl 4 rfl ?_
  refine ww_iconst (v := 0) C dX2_endsOfPoint_4 (by decide) 5 rfl ?_
  refine ww_istore_n (i := 3) C dX2_endsOfPoint_5 rfl (by decide) rfl 6 rfl ?_
  refine ww_bipush (v := 14) C dX2_endsOfPoint_6 (by decide) 8 rfl ?_
  refine ww_istore C dX2_endsOfPoint_8 (by decide) rfl 10 rfl ?_
  refine ww_loop (fun k : Nat => 15 - k) (fun k => k ≤ 15) (fun _ => []) (fun k => [some (.long ch), none, some (.int (s_ep ch k).1), some (.int (s_ep ch k).2), some (.int (nI 14 - nI k)), none]) (0 : Nat) (by omega) rfl rfl (fun k hk ih => ?_)
  try dsimp only at hk ih ⊢
  refine ww_iload C dX2_endsOfPoint_10 rfl 12 rfl ?_
  refine ww_if_lt C 58 dX2_endsOfPoint_12 (by decide) 15 rfl (fun h_12 => ?_) (fun h_12 => ?_)
  · skip
    obtain rfl : k = 15 := by
      rcases Nat.lt_or_ge k 15 with q | q
      · rw [pk_sub (show k ≤ 14 by omega)] at h_12; exact absurd h_12 (nI_pos (by omega))
      · omega
    refine ww_iload_n (i := 3) C dX2_endsOfPoint_58 rfl rfl 59 rfl ?_
    exact ww_iret C hr dX2_endsOfPoint_59 rfl rfl
  · skip
    have hlt : k < 15 := Nat.lt_of_not_le fun q => h_12 (by obtain rfl : k = 15 := (by omega); decide)
    rw [pk_sub (show k ≤ 14 by omega)]
    refine ww_iload_n (i := 2) C dX2_endsOfPoint_15 rfl rfl 16 rfl ?_
    refine ww_iload C dX2_endsOfPoint_16 rfl 18 rfl ?_
    refine ww_ishr C dX2_endsOfPoint_18 19 rfl ?_
    refine ww_iconst (v := 1) C dX2_endsOfPoint_19 (by decide) 20 rfl ?_
    refine ww_iand C dX2_endsOfPoint_20 21 rfl ?_
    refine ww_if_ne C 27 dX2_endsOfPoint_21 (by decide) 24 rfl (fun h_21 => ?_) (fun h_21 => ?_)
    · skip
      refine ww_lload_n (i := 0) C dX2_endsOfPoint_27 rfl rfl 28 rfl ?_
      refine ww_iload C dX2_endsOfPoint_28 rfl 30 rfl ?_
      refine ww_callS2p C (c_X2_wayUp l Γ (by omega)) mi_X2_wayUp st_X2_wayUp ml_X2_30 dX2_endsOfPoint_30 (Nat.le_of_ble_eq_true rfl) (Nat.le_of_ble_eq_true rfl) (Nat.le_of_ble_eq_true rfl) ⟨Nat.zero_le _, Nat.zero_le _⟩ [] rfl (by decide) 33 rfl ?_
      refine ww_istore C dX2_endsOfPoint_33 (by decide) rfl 35 rfl ?_
      refine ww_iload_n (i := 2) C dX2_endsOfPoint_35 rfl rfl 36 rfl ?_
      refine ww_iload C dX2_endsOfPoint_36 rfl 38 rfl ?_
      refine ww_ior C dX2_endsOfPoint_38 39 rfl ?_
      refine ww_istore_n (i := 2) C dX2_endsOfPoint_39 rfl (by decide) rfl 40 rfl ?_
      refine ww_iload C dX2_endsOfPoint_40 rfl 42 rfl ?_
      refine ww_if_ne C 52 dX2_endsOfPoint_42 (by decide) 45 rfl (fun h_42 => ?_) (fun h_42 => ?_)
      · skip
        refine ww_iinc (y := (-1)) C dX2_endsOfPoint_52 rfl (by decide) (by decide) rfl 55 rfl ?_
        refine ww_goto C 10 dX2_endsOfPoint_55 (by decide) ?_
        refine ww_lv (lv' := [some (.long ch), none, some (.int (s_ep ch (k + 1)).1), some (.int (s_ep ch (k + 1)).2), some (.int (nI 14 - nI (k + 1))), none]) ?_ (ih (k + 1) (by omega) (by omega))
        have e9 : nI 14 - nI (k + 1) = nI (14 - k) + (-1) := by rw [nI_succ k, ← pk_sub (show k ≤ 14 by omega)]; exact ep_sub _ _
        rw [e9, s_ep]
        first
          | (rw [if_pos h_21]; exact (lvle_same (lvle_same (lvle_same (lvle_same (lvle_same (lvle_none lvle_nil)))))))
          | (rw [if_neg h_21, if_pos h_42]; exact (lvle_same (lvle_same (lvle_same (lvle_same (lvle_same (lvle_none lvle_nil)))))))
          | (rw [if_neg h_21, if_neg h_42]; exact (lvle_same (lvle_same (lvle_same (lvle_same (lvle_same (lvle_none lvle_nil)))))))
      · skip
        refine ww_iload_n (i := 3) C dX2_endsOfPoint_45 rfl rfl 46 rfl ?_
        refine ww_iconst (v := 1) C dX2_endsOfPoint_46 (by decide) 47 rfl ?_
        refine ww_iload C dX2_endsOfPoint_47 rfl 49 rfl ?_
        refine ww_ishl C dX2_endsOfPoint_49 50 rfl ?_
        refine ww_ior C dX2_endsOfPoint_50 51 rfl ?_
        refine ww_istore_n (i := 3) C dX2_endsOfPoint_51 rfl (by decide) rfl 52 rfl ?_
        refine ww_iinc (y := (-1)) C dX2_endsOfPoint_52 rfl (by decide) (by decide) rfl 55 rfl ?_
        refine ww_goto C 10 dX2_endsOfPoint_55 (by decide) ?_
        refine ww_lv (lv' := [some (.long ch), none, some (.int (s_ep ch (k + 1)).1), some (.int (s_ep ch (k + 1)).2), some (.int (nI 14 - nI (k + 1))), none]) ?_ (ih (k + 1) (by omega) (by omega))
        have e9 : nI 14 - nI (k + 1) = nI (14 - k) + (-1) := by rw [nI_succ k, ← pk_sub (show k ≤ 14 by omega)]; exact ep_sub _ _
        rw [e9, s_ep]
        first
          | (rw [if_pos h_21]; exact (lvle_same (lvle_same (lvle_same (lvle_same (lvle_same (lvle_none lvle_nil)))))))
          | (rw [if_neg h_21, if_pos h_42]; exact (lvle_same (lvle_same (lvle_same (lvle_same (lvle_same (lvle_none lvle_nil)))))))
          | (rw [if_neg h_21, if_neg h_42]; exact (lvle_same (lvle_same (lvle_same (lvle_same (lvle_same (lvle_none lvle_nil)))))))
    · skip
      refine ww_goto C 52 dX2_endsOfPoint_24 (by decide) ?_
      refine ww_iinc (y := (-1)) C dX2_endsOfPoint_52 rfl (by decide) (by decide) rfl 55 rfl ?_
      refine ww_goto C 10 dX2_endsOfPoint_55 (by decide) ?_
      refine ww_lv (lv' := [some (.long ch), none, some (.int (s_ep ch (k + 1)).1), some (.int (s_ep ch (k + 1)).2), some (.int (nI 14 - nI (k + 1))), none]) ?_ (ih (k + 1) (by omega) (by omega))
      have e9 : nI 14 - nI (k + 1) = nI (14 - k) + (-1) := by rw [nI_succ k, ← pk_sub (show k ≤ 14 by omega)]; exact ep_sub _ _
      rw [e9, s_ep]
      first
        | (rw [if_pos h_21]; exact (lvle_same (lvle_same (lvle_same (lvle_same (lvle_same (lvle_none lvle_nil)))))))
        | (rw [if_neg h_21, if_pos h_42]; exact (lvle_same (lvle_same (lvle_same (lvle_same (lvle_same (lvle_none lvle_nil)))))))
        | (rw [if_neg h_21, if_neg h_42]; exact (lvle_same (lvle_same (lvle_same (lvle_same (lvle_same (lvle_none lvle_nil)))))))
