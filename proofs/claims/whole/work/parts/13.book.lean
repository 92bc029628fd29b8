/-- how many of the first cases came so, and are such -/
def s_cnt (en : Nat → Int32) (P : Nat → Bool) (c : Int32) : Nat → Int32
  | 0 => 0
  | k + 1 => if en k = c ∧ P k = true then s_cnt en P c k + 1 else s_cnt en P c k
/-- held, when k cases have been looked at -/
def s_hf (he : Nat → Int32) (en : Nat → Int32) (P : Nat → Bool) (k : Nat) : Nat → Int32 := fun c => if c < 3 then s_cnt en P (nI c) k else he c
theorem s_hf_0 (he en : Nat → Int32) (P : Nat → Bool) : s_hf he en P 0 = s_zf he 3 := by
  funext c
  simp only [s_hf, s_zf, s_cnt]
theorem s_hf_no {he en : Nat → Int32} {P : Nat → Bool} {k : Nat} (h : P k = false) : s_hf he en P (k + 1) = s_hf he en P k := by
  funext c
  simp [s_hf, s_cnt, h]
theorem s_hf_yes {he en : Nat → Int32} {P : Nat → Bool} {k c : Nat} (hc : c < 3) (he1 : en k = nI c) (h : P k = true) : s_hf he en P (k + 1) = upd (s_hf he en P k) c (s_hf he en P k c + 1) := by
  funext d
  simp only [upd]
  by_cases hd : d = c
  · subst hd
    simp [s_hf, hc, s_cnt, he1, h]
  · rw [if_neg hd]
    simp only [s_hf]
    split
    · next h3 =>
      rw [s_cnt, if_neg]
      rintro ⟨e1, -⟩
      rw [he1] at e1
      exact hd ((nI_eq (by omega) (by omega)).mp e1).symm
    · rfl
theorem c_X1_isEnd (l : Launch) (Γ : Gm) {x : Int32}  : Ct l Γ yX1_isEnd cX1_isEnd 1 (some .boolean) 0 [.int x] [] (some (.int (bI (¬ x < 0 ∧ ¬ 2 < x)))) [] := by
  refine Ct.of mi_X1_isEnd [some (.int x)] 0 rfl (Nat.le_of_ble_eq_true rfl) ?_
  intro p e s m args below meth c C hr
  refine ww_iload_n (i := 0) C dX1_isEnd_0 rfl rfl 1 rfl ?_
  refine ww_if_lt C 13 dX1_isEnd_1 (by decide) 4 rfl (fun h_1 => ?_) (fun h_1 => ?_)
  · skip
    refine ww_iconst (v := 0) C dX1_isEnd_13 (by decide) 14 rfl ?_
    exact ww_zret C hr rfl dX1_isEnd_14 (by simp [bI, *]) rfl
  · skip
    refine ww_iload_n (i := 0) C dX1_isEnd_4 rfl rfl 5 rfl ?_
    refine ww_iconst (v := 2) C dX1_isEnd_5 (by decide) 6 rfl ?_
    refine ww_icmp_gt C 13 dX1_isEnd_6 (by decide) 9 rfl (fun h_6 => ?_) (fun h_6 => ?_)
    · skip
      refine ww_iconst (v := 0) C dX1_isEnd_13 (by decide) 14 rfl ?_
      exact ww_zret C hr rfl dX1_isEnd_14 (by simp [bI, *]) rfl
    · skip
      refine ww_iconst (v := 1) C dX1_isEnd_9 (by decide) 10 rfl ?_
      refine ww_goto C 14 dX1_isEnd_10 (by decide) ?_
      exact ww_zret C hr rfl dX1_isEnd_14 (by simp [bI, *]) rfl
theorem c_X1_isFull (l : Launch) (Γ : Gm) {hk kc ke ka kh z : Nat}  : Ct l Γ yX1_isFull cX1_isFull 1 (some .boolean) 0 [.ref hk] [(hk, .inr (1, [.ref kc, .ref ke, .ref ka, .ref kh, .int (nI z)]))] (some (.int (bI (¬ nI z < 100)))) [(hk, .inr (1, [.ref kc, .ref ke, .ref ka, .ref kh, .int (nI z)]))] := by
  refine Ct.of mi_X1_isFull [some (.ref hk)] 0 rfl (Nat.le_of_ble_eq_true rfl) ?_
  intro p e s m args below meth c C hr
  refine ww_aload_n (i := 0) C dX1_isFull_0 rfl rfl 1 rfl ?_
  refine ww_get C fe_X1_25 dX1_isFull_1 0 rfl rfl 4 rfl ?_
  refine ww_bipush (v := 100) C dX1_isFull_4 (by decide) 6 rfl ?_
  refine ww_icmp_lt C 13 dX1_isFull_6 (by decide) 9 rfl (fun h_6 => ?_) (fun h_6 => ?_)
  · skip
    refine ww_iconst (v := 0) C dX1_isFull_13 (by decide) 14 rfl ?_
    exact ww_zret C hr rfl dX1_isFull_14 (by simp [bI, *]) rfl
  · skip
    refine ww_iconst (v := 1) C dX1_isFull_9 (by decide) 10 rfl ?_
    refine ww_goto C 14 dX1_isFull_10 (by decide) ?_
    exact ww_zret C hr rfl dX1_isFull_14 (by simp [bI, *]) rfl
theorem c_X1_casesKnown (l : Launch) (Γ : Gm) {hk kc ke ka kh z : Nat} {al : Nat → Int32}  : Ct l Γ yX1_casesKnown cX1_casesKnown 1 (some .int) 0 [.ref hk] [(hk, .inr (1, [.ref kc, .ref ke, .ref ka, .ref kh, .int (nI z)])), (ka, .inl (Γ.2.1, 3, .inl al))] (some (.int (al 0 + al 1))) [(hk, .inr (1, [.ref kc, .ref ke, .ref ka, .ref kh, .int (nI z)])), (ka, .inl (Γ.2.1, 3, .inl al))] := by
  refine Ct.of mi_X1_casesKnown [some (.ref hk)] 0 rfl (Nat.le_of_ble_eq_true rfl) ?_
  intro p e s m args below meth c C hr
  refine ww_aload_n (i := 0) C dX1_casesKnown_0 rfl rfl 1 rfl ?_
  refine ww_get C fe_X1_19 dX1_casesKnown_1 0 rfl rfl 4 rfl ?_
  refine ww_iconst (v := 0) C dX1_casesKnown_4 (by decide) 5 rfl ?_
  refine ww_iald C dX1_casesKnown_5 1 rfl (vp_in_nI (n := 0) (by decide) (by decide)) 6 rfl ?_
  refine ww_aload_n (i := 0) C dX1_casesKnown_6 rfl rfl 7 rfl ?_
  refine ww_get C fe_X1_19 dX1_casesKnown_7 0 rfl rfl 10 rfl ?_
  refine ww_iconst (v := 1) C dX1_casesKnown_10 (by decide) 11 rfl ?_
  refine ww_iald C dX1_casesKnown_11 1 rfl (vp_in_nI (n := 1) (by decide) (by decide)) 12 rfl ?_
  refine ww_iadd C dX1_casesKnown_12 13 rfl ?_
  exact ww_iret C hr dX1_casesKnown_13 rfl rfl
theorem c_X1_casesYes (l : Launch) (Γ : Gm) {hk kc ke ka kh z : Nat} {al : Nat → Int32}  : Ct l Γ yX1_casesYes cX1_casesYes 1 (some .int) 0 [.ref hk] [(hk, .inr (1, [.ref kc, .ref ke, .ref ka, .ref kh, .int (nI z)])), (ka, .inl (Γ.2.1, 3, .inl al))] (some (.int (al 1))) [(hk, .inr (1, [.ref kc, .ref ke, .ref ka, .ref kh, .int (nI z)])), (ka, .inl (Γ.2.1, 3, .inl al))] := by
  refine Ct.of mi_X1_casesYes [some (.ref hk)] 0 rfl (Nat.le_of_ble_eq_true rfl) ?_
  intro p e s m args below meth c C hr
  refine ww_aload_n (i := 0) C dX1_casesYes_0 rfl rfl 1 rfl ?_
  refine ww_get C fe_X1_19 dX1_casesYes_1 0 rfl rfl 4 rfl ?_
  refine ww_iconst (v := 1) C dX1_casesYes_4 (by decide) 5 rfl ?_
  refine ww_iald C dX1_casesYes_5 1 rfl (vp_in_nI (n := 1) (by decide) (by decide)) 6 rfl ?_
  exact ww_iret C hr dX1_casesYes_6 rfl rfl
def s_wh (al he : Nat → Int32) : Int32 := he 1 * (al 0 + al 1) - (he 1 + he 0) * al 1
theorem c_X1_worthHeld (l : Launch) (Γ : Gm) {hk kc ke ka kh z : Nat} {al he : Nat → Int32}  : Ct l Γ yX1_worthHeld cX1_worthHeld 1 (some .int) 1 [.ref hk] [(hk, .inr (1, [.ref kc, .ref ke, .ref ka, .ref kh, .int (nI z)])), (ka, .inl (Γ.2.1, 3, .inl al)), (kh, .inl (Γ.2.1, 3, .inl he))] (some (.int (s_wh al he))) [(hk, .inr (1, [.ref kc, .ref ke, .ref ka, .ref kh, .int (nI z)])), (ka, .inl (Γ.2.1, 3, .inl al)), (kh, .inl (Γ.2.1, 3, .inl he))] := by
  refine Ct.of mi_X1_worthHeld [some (.ref hk)] 0 rfl (Nat.le_of_ble_eq_true rfl) ?_
  intro p e s m args below meth c C hr
  refine ww_aload_n (i := 0) C dX1_worthHeld_0 rfl rfl 1 rfl ?_
  refine ww_get C fe_X1_22 dX1_worthHeld_1 0 rfl rfl 4 rfl ?_
  refine ww_iconst (v := 1) C dX1_worthHeld_4 (by decide) 5 rfl ?_
  refine ww_iald C dX1_worthHeld_5 2 rfl (vp_in_nI (n := 1) (by decide) (by decide)) 6 rfl ?_
  refine ww_aload_n (i := 0) C dX1_worthHeld_6 rfl rfl 7 rfl ?_
  refine ww_callV0p C (c_X1_casesKnown l Γ) mi_X1_casesKnown im_X1_casesKnown se_X1_casesKnown ml_X1_48 dX1_worthHeld_7 0 rfl rfl rfl (Nat.le_of_ble_eq_true rfl) (Nat.le_of_ble_eq_true rfl) (Nat.le_of_ble_eq_true rfl) ⟨Nat.zero_le _, Nat.zero_le _⟩ [0, 1] rfl (by decide) 10 rfl ?_
  refine ww_imul C dX1_worthHeld_10 11 rfl ?_
  refine ww_aload_n (i := 0) C dX1_worthHeld_11 rfl rfl 12 rfl ?_
  refine ww_get C fe_X1_22 dX1_worthHeld_12 0 rfl rfl 15 rfl ?_
  refine ww_iconst (v := 1) C dX1_worthHeld_15 (by decide) 16 rfl ?_
  refine ww_iald C dX1_worthHeld_16 2 rfl (vp_in_nI (n := 1) (by decide) (by decide)) 17 rfl ?_
  refine ww_aload_n (i := 0) C dX1_worthHeld_17 rfl rfl 18 rfl ?_
  refine ww_get C fe_X1_22 dX1_worthHeld_18 0 rfl rfl 21 rfl ?_
  refine ww_iconst (v := 0) C dX1_worthHeld_21 (by decide) 22 rfl ?_
  refine ww_iald C dX1_worthHeld_22 2 rfl (vp_in_nI (n := 0) (by decide) (by decide)) 23 rfl ?_
  refine ww_iadd C dX1_worthHeld_23 24 rfl ?_
  refine ww_aload_n (i := 0) C dX1_worthHeld_24 rfl rfl 25 rfl ?_
  refine ww_callV0p C (c_X1_casesYes l Γ) mi_X1_casesYes im_X1_casesYes se_X1_casesYes ml_X1_51 dX1_worthHeld_25 0 rfl rfl rfl (Nat.le_of_ble_eq_true rfl) (Nat.le_of_ble_eq_true rfl) (Nat.le_of_ble_eq_true rfl) ⟨Nat.zero_le _, Nat.zero_le _⟩ [0, 1] rfl (by decide) 28 rfl ?_
  refine ww_imul C dX1_worthHeld_28 29 rfl ?_
  refine ww_isub C dX1_worthHeld_29 30 rfl ?_
  exact ww_iret C hr dX1_worthHeld_30 rfl rfl
def s_bans (al he : Nat → Int32) (x : Int32) : Int32 := if x = 0 then he 0 + he 1 + he 2 else if x = 1 then he 1 else if x = 2 then he 0 else if x = 3 then s_wh al he else -1000001
theorem c_X1_answerTo (l : Launch) (Γ : Gm) {hk kc ke ka kh z : Nat} {al he : Nat → Int32} {x : Int32}  : Ct l Γ yX1_answerTo cX1_answerTo 2 (some .int) 2 [.ref hk, .int x] [(hk, .inr (1, [.ref kc, .ref ke, .ref ka, .ref kh, .int (nI z)])), (ka, .inl (Γ.2.1, 3, .inl al)), (kh, .inl (Γ.2.1, 3, .inl he))] (some (.int (s_bans al he x))) [(hk, .inr (1, [.ref kc, .ref ke, .ref ka, .ref kh, .int (nI z)])), (ka, .inl (Γ.2.1, 3, .inl al)), (kh, .inl (Γ.2.1, 3, .inl he))] := by
  refine Ct.of mi_X1_answerTo [some (.ref hk), some (.int x)] 0 rfl (Nat.le_of_ble_eq_true rfl) ?_
  intro p e s m args below meth c C hr
  refine ww_iload_n (i := 1) C dX1_answerTo_0 rfl rfl 1 rfl ?_
  refine ww_ts4 C 72 32 53 60 67 dX1_answerTo_1 (by decide) (by decide) (by decide) (by decide) (by decide) (fun s0_1 => ?_) (fun s1_1 => ?_) (fun s2_1 => ?_) (fun s3_1 => ?_) (fun sd_1 => ?_)
  · skip
    refine ww_aload_n (i := 0) C dX1_answerTo_32 rfl rfl 33 rfl ?_
    refine ww_get C fe_X1_22 dX1_answerTo_33 0 rfl rfl 36 rfl ?_
    refine ww_iconst (v := 0) C dX1_answerTo_36 (by decide) 37 rfl ?_
    refine ww_iald C dX1_answerTo_37 2 rfl (vp_in_nI (n := 0) (by decide) (by decide)) 38 rfl ?_
    refine ww_aload_n (i := 0) C dX1_answerTo_38 rfl rfl 39 rfl ?_
    refine ww_get C fe_X1_22 dX1_answerTo_39 0 rfl rfl 42 rfl ?_
    refine ww_iconst (v := 1) C dX1_answerTo_42 (by decide) 43 rfl ?_
    refine ww_iald C dX1_answerTo_43 2 rfl (vp_in_nI (n := 1) (by decide) (by decide)) 44 rfl ?_
    refine ww_iadd C dX1_answerTo_44 45 rfl ?_
    refine ww_aload_n (i := 0) C dX1_answerTo_45 rfl rfl 46 rfl ?_
    refine ww_get C fe_X1_22 dX1_answerTo_46 0 rfl rfl 49 rfl ?_
    refine ww_iconst (v := 2) C dX1_answerTo_49 (by decide) 50 rfl ?_
    refine ww_iald C dX1_answerTo_50 2 rfl (vp_in_nI (n := 2) (by decide) (by decide)) 51 rfl ?_
    refine ww_iadd C dX1_answerTo_51 52 rfl ?_
    exact ww_iret C hr dX1_answerTo_52 (by rw [s0_1]; rfl) rfl
  · skip
    refine ww_aload_n (i := 0) C dX1_answerTo_53 rfl rfl 54 rfl ?_
    refine ww_get C fe_X1_22 dX1_answerTo_54 0 rfl rfl 57 rfl ?_
    refine ww_iconst (v := 1) C dX1_answerTo_57 (by decide) 58 rfl ?_
    refine ww_iald C dX1_answerTo_58 2 rfl (vp_in_nI (n := 1) (by decide) (by decide)) 59 rfl ?_
    exact ww_iret C hr dX1_answerTo_59 (by rw [s1_1]; rfl) rfl
  · skip
    refine ww_aload_n (i := 0) C dX1_answerTo_60 rfl rfl 61 rfl ?_
    refine ww_get C fe_X1_22 dX1_answerTo_61 0 rfl rfl 64 rfl ?_
    refine ww_iconst (v := 0) C dX1_answerTo_64 (by decide) 65 rfl ?_
    refine ww_iald C dX1_answerTo_65 2 rfl (vp_in_nI (n := 0) (by decide) (by decide)) 66 rfl ?_
    exact ww_iret C hr dX1_answerTo_66 (by rw [s2_1]; rfl) rfl
  · skip
    refine ww_aload_n (i := 0) C dX1_answerTo_67 rfl rfl 68 rfl ?_
    refine ww_callV0p C (c_X1_worthHeld l Γ) mi_X1_worthHeld im_X1_worthHeld se_X1_worthHeld ml_X1_43 dX1_answerTo_68 0 rfl rfl rfl (Nat.le_of_ble_eq_true rfl) (Nat.le_of_ble_eq_true rfl) (Nat.le_of_ble_eq_true rfl) ⟨Nat.zero_le _, Nat.zero_le _⟩ [0, 1, 2] rfl (by decide) 71 rfl ?_
    exact ww_iret C hr dX1_answerTo_71 (by rw [s3_1]; rfl) rfl
  · skip
    refine ww_ldc C cn_X1_47 dX1_answerTo_72 74 rfl ?_
    exact ww_iret C hr dX1_answerTo_74 (by rw [s_bans, if_neg (fun q => by rw [q] at sd_1; exact absurd sd_1 (by decide)), if_neg (fun q => by rw [q] at sd_1; exact absurd sd_1 (by decide)), if_neg (fun q => by rw [q] at sd_1; exact absurd sd_1 (by decide)), if_neg (fun q => by rw [q] at sd_1; exact absurd sd_1 (by decide))]) rfl
theorem c_X1_write (l : Launch) (Γ : Gm) {hk kc ke ka kh z : Nat} {k : Nat} {ch : Int64} {cs : Nat → Int64} {en al : Nat → Int32} (hz : z < 100) (hk3 : k < 3) : Ct l Γ yX1_write cX1_write 4 none 1 [.ref hk, .long ch, .int (nI k)] [(hk, .inr (1, [.ref kc, .ref ke, .ref ka, .ref kh, .int (nI z)])), (kc, .inl (Γ.2.2.1, 100, .inr (.inl cs))), (ke, .inl (Γ.2.1, 100, .inl en)), (ka, .inl (Γ.2.1, 3, .inl al))] (none) [(hk, .inr (1, [.ref kc, .ref ke, .ref ka, .ref kh, .int (nI (z + 1))])), (kc, .inl (Γ.2.2.1, 100, .inr (.inl (vp_updL cs z ch)))), (ke, .inl (Γ.2.1, 100, .inl (upd en z (nI k)))), (ka, .inl (Γ.2.1, 3, .inl (upd al k (al k + 1))))] := by
  refine Ct.of mi_X1_write [some (.ref hk), some (.long ch), none, some (.int (nI k))] 0 rfl (Nat.le_of_ble_eq_true rfl) ?_
  intro p e s m args below meth c C hr
  refine ww_aload_n (i := 0) C dX1_write_0 rfl rfl 1 rfl ?_
  refine ww_callV0p C (c_X1_isFull l Γ) mi_X1_isFull im_X1_isFull se_X1_isFull ml_X1_29 dX1_write_1 0 rfl rfl rfl (Nat.le_of_ble_eq_true rfl) (Nat.le_of_ble_eq_true rfl) (Nat.le_of_ble_eq_true rfl) ⟨Nat.zero_le _, Nat.zero_le _⟩ [0] rfl (by decide) 4 rfl ?_
  refine ww_if_ne C 54 dX1_write_4 (by decide) 7 rfl (fun h_4 => ?_) (fun h_4 => ?_)
  · exact absurd (nI_lt (b := 100) hz (by decide)) (bI_n0 h_4)
  · skip
    refine ww_iload_n (i := 3) C dX1_write_7 rfl rfl 8 rfl ?_
    refine ww_callS1p C (c_X1_isEnd l Γ) mi_X1_isEnd st_X1_isEnd ml_X1_33 dX1_write_8 (Nat.le_of_ble_eq_true rfl) (Nat.le_of_ble_eq_true rfl) (Nat.le_of_ble_eq_true rfl) ⟨Nat.zero_le _, Nat.zero_le _⟩ [] rfl (by decide) 11 rfl ?_
    refine ww_if_eq C 54 dX1_write_11 (by decide) 14 rfl (fun h_11 => ?_) (fun h_11 => ?_)
    · exact absurd (⟨nI_pos (by omega), nI_nlt (a := 2) (by omega) (by decide)⟩ : ¬ nI k < 0 ∧ ¬ nI 2 < nI k) (bI_e0 h_11)
    · skip
      refine ww_aload_n (i := 0) C dX1_write_14 rfl rfl 15 rfl ?_
      refine ww_get C fe_X1_11 dX1_write_15 0 rfl rfl 18 rfl ?_
      refine ww_aload_n (i := 0) C dX1_write_18 rfl rfl 19 rfl ?_
      refine ww_get C fe_X1_25 dX1_write_19 0 rfl rfl 22 rfl ?_
      refine ww_lload_n (i := 1) C dX1_write_22 rfl rfl 23 rfl ?_
      refine ww_last C dX1_write_23 1 rfl (vp_in_nI hz (by decide)) 24 rfl ?_
      refine ww_aload_n (i := 0) C dX1_write_24 rfl rfl 25 rfl ?_
      refine ww_get C fe_X1_15 dX1_write_25 0 rfl rfl 28 rfl ?_
      refine ww_aload_n (i := 0) C dX1_write_28 rfl rfl 29 rfl ?_
      refine ww_get C fe_X1_25 dX1_write_29 0 rfl rfl 32 rfl ?_
      refine ww_iload_n (i := 3) C dX1_write_32 rfl rfl 33 rfl ?_
      refine ww_iast C dX1_write_33 2 rfl (vp_in_nI hz (by decide)) 34 rfl ?_
      refine ww_aload_n (i := 0) C dX1_write_34 rfl rfl 35 rfl ?_
      refine ww_get C fe_X1_19 dX1_write_35 0 rfl rfl 38 rfl ?_
      refine ww_iload_n (i := 3) C dX1_write_38 rfl rfl 39 rfl ?_
      refine ww_dup2 C dX1_write_39 rfl rfl 40 rfl ?_
      refine ww_iald C dX1_write_40 3 rfl (vp_in_nI hk3 (by decide)) 41 rfl ?_
      refine ww_iconst (v := 1) C dX1_write_41 (by decide) 42 rfl ?_
      refine ww_iadd C dX1_write_42 43 rfl ?_
      refine ww_iast C dX1_write_43 3 rfl (vp_in_nI hk3 (by decide)) 44 rfl ?_
      refine ww_aload_n (i := 0) C dX1_write_44 rfl rfl 45 rfl ?_
      refine ww_dup C dX1_write_45 rfl 46 rfl ?_
      refine ww_get C fe_X1_25 dX1_write_46 0 rfl rfl 49 rfl ?_
      refine ww_iconst (v := 1) C dX1_write_49 (by decide) 50 rfl ?_
      refine ww_iadd C dX1_write_50 51 rfl ?_
      refine ww_put C fe_X1_25 rfl dX1_write_51 0 rfl rfl rfl (Nat.le_of_ble_eq_true rfl) 54 rfl ?_
      exact ww_vret C hr dX1_write_54 rfl (by rw [nI_succ z, nI_clamp (show z < 2 ^ 31 by omega), nI_clamp (show k < 2 ^ 31 by omega)]; rfl)
set_option maxHeartbeats 1000000 in
theorem c_X1_holdAgainst (l : Launch) (Γ : Gm) {hk kc ke ka kh z : Nat} {hr0 qw qf qs qt qn n : Nat} {r t : Nat} {cs : Nat → Int64} {en he wd fi se te : Nat → Int32} (hz : z ≤ 100) (hen : ∀ k, k < z → ∃ c, c < 3 ∧ en k = nI c) (hr9 : r < n) (hn : n ≤ 15) (ht : te r = nI t) (h4 : t ≤ 4) : Ct l Γ yX1_holdAgainst cX1_holdAgainst 4 none 4 [.ref hk, .ref hr0, .int (nI r)] [(hk, .inr (1, [.ref kc, .ref ke, .ref ka, .ref kh, .int (nI z)])), (kc, .inl (Γ.2.2.1, 100, .inr (.inl cs))), (ke, .inl (Γ.2.1, 100, .inl en)), (kh, .inl (Γ.2.1, 3, .inl he)), (hr0, .inr (4, [.ref qw, .ref qf, .ref qs, .ref qt, .ref qn, .int (nI n)])), (qw, .inl (Γ.2.1, 60, .inl wd)), (qf, .inl (Γ.2.1, 60, .inl fi)), (qs, .inl (Γ.2.1, 60, .inl se)), (qt, .inl (Γ.2.1, 15, .inl te))] (none) [(hk, .inr (1, [.ref kc, .ref ke, .ref ka, .ref kh, .int (nI z)])), (kc, .inl (Γ.2.2.1, 100, .inr (.inl cs))), (ke, .inl (Γ.2.1, 100, .inl en)), (kh, .inl (Γ.2.1, 3, .inl (s_hf he en (fun k => s_tr wd fi se r (cs k) t) z))), (hr0, .inr (4, [.ref qw, .ref qf, .ref qs, .ref qt, .ref qn, .int (nI n)])), (qw, .inl (Γ.2.1, 60, .inl wd)), (qf, .inl (Γ.2.1, 60, .inl fi)), (qs, .inl (Γ.2.1, 60, .inl se)), (qt, .inl (Γ.2.1, 15, .inl te))] := by
  refine Ct.of mi_X1_holdAgainst [some (.ref hk), some (.ref hr0), some (.int (nI r)), none] 1 rfl (Nat.le_of_ble_eq_true rfl) ?_
  intro p e s m args below meth c C hr
  refine ww_iconst (v := 0) C dX1_holdAgainst_0 (by decide) 1 rfl ?_
  refine ww_istore_n (i := 3) C dX1_holdAgainst_1 rfl (by decide) rfl 2 rfl ?_
  refine ww_loop (fun j : Nat => 3 - j) (fun j => j ≤ 3) (fun j => [(hk, .inr (1, [.ref kc, .ref ke, .ref ka, .ref kh, .int (nI z)])), (kc, .inl (Γ.2.2.1, 100, .inr (.inl cs))), (ke, .inl (Γ.2.1, 100, .inl en)), (kh, .inl (Γ.2.1, 3, .inl (s_zf he j))), (hr0, .inr (4, [.ref qw, .ref qf, .ref qs, .ref qt, .ref qn, .int (nI n)])), (qw, .inl (Γ.2.1, 60, .inl wd)), (qf, .inl (Γ.2.1, 60, .inl fi)), (qs, .inl (Γ.2.1, 60, .inl se)), (qt, .inl (Γ.2.1, 15, .inl te))]) (fun j => [some (.ref hk), some (.ref hr0), some (.int (nI r)), some (.int (nI j))]) (0 : Nat) (by omega) rfl rfl (fun j hj ih => ?_)
  try dsimp only at hj ih ⊢
  refine ww_iload_n (i := 3) C dX1_holdAgainst_2 rfl rfl 3 rfl ?_
  refine ww_iconst (v := 2) C dX1_holdAgainst_3 (by decide) 4 rfl ?_
  refine ww_icmp_gt C 20 dX1_holdAgainst_4 (by decide) 7 rfl (fun h_4 => ?_) (fun h_4 => ?_)
  · skip
    obtain rfl : j = 3 := by have := (nI_ltI (a := 2) (by decide) (by omega)).mp h_4; omega
    rw [← s_hf_0 he en (fun k => s_tr wd fi se r (cs k) t)]
    refine ww_iconst (v := 0) C dX1_holdAgainst_20 (by decide) 21 rfl ?_
    refine ww_istore_n (i := 3) C dX1_holdAgainst_21 rfl (by decide) rfl 22 rfl ?_
    refine ww_loop (fun j : Nat => z - j) (fun j => j ≤ z) (fun j => [(hk, .inr (1, [.ref kc, .ref ke, .ref ka, .ref kh, .int (nI z)])), (kc, .inl (Γ.2.2.1, 100, .inr (.inl cs))), (ke, .inl (Γ.2.1, 100, .inl en)), (kh, .inl (Γ.2.1, 3, .inl (s_hf he en (fun k => s_tr wd fi se r (cs k) t) j))), (hr0, .inr (4, [.ref qw, .ref qf, .ref qs, .ref qt, .ref qn, .int (nI n)])), (qw, .inl (Γ.2.1, 60, .inl wd)), (qf, .inl (Γ.2.1, 60, .inl fi)), (qs, .inl (Γ.2.1, 60, .inl se)), (qt, .inl (Γ.2.1, 15, .inl te))]) (fun j => [some (.ref hk), some (.ref hr0), some (.int (nI r)), some (.int (nI j))]) (0 : Nat) (by omega) rfl rfl (fun j hj ih => ?_)
    try dsimp only at hj ih ⊢
    refine ww_iload_n (i := 3) C dX1_holdAgainst_22 rfl rfl 23 rfl ?_
    refine ww_aload_n (i := 0) C dX1_holdAgainst_23 rfl rfl 24 rfl ?_
    refine ww_get C fe_X1_25 dX1_holdAgainst_24 0 rfl rfl 27 rfl ?_
    refine ww_icmp_ge C 77 dX1_holdAgainst_27 (by decide) 30 rfl (fun h_27 => ?_) (fun h_27 => ?_)
    · skip
      obtain rfl : j = z := eqN h_27 hj (by omega)
      exact ww_vret C hr dX1_holdAgainst_77 rfl rfl
    · skip
      have hlt : j < z := ltN h_27 (by omega) (by omega)
      obtain ⟨c3, hc3, hec⟩ := hen j hlt
      have ej : (nI j).toNatClampNeg = j := nI_clamp (by omega)
      have ec3 : (nI c3).toNatClampNeg = c3 := nI_clamp (by omega)
      refine ww_aload_n (i := 0) C dX1_holdAgainst_30 rfl rfl 31 rfl ?_
      refine ww_get C fe_X1_15 dX1_holdAgainst_31 0 rfl rfl 34 rfl ?_
      refine ww_iload_n (i := 3) C dX1_holdAgainst_34 rfl rfl 35 rfl ?_
      refine ww_iald C dX1_holdAgainst_35 2 rfl (vp_in_nI (by omega) (by decide)) 36 rfl ?_
      rw [ej, hec]
      refine ww_callS1p C (c_X1_isEnd l Γ) mi_X1_isEnd st_X1_isEnd ml_X1_33 dX1_holdAgainst_36 (Nat.le_of_ble_eq_true rfl) (Nat.le_of_ble_eq_true rfl) (Nat.le_of_ble_eq_true rfl) ⟨Nat.zero_le _, Nat.zero_le _⟩ [] rfl (by decide) 39 rfl ?_
      refine ww_if_eq C 71 dX1_holdAgainst_39 (by decide) 42 rfl (fun h_39 => ?_) (fun h_39 => ?_)
      · exact absurd (⟨nI_pos (by omega), nI_nlt (a := 2) (by omega) (by decide)⟩ : ¬ nI c3 < 0 ∧ ¬ nI 2 < nI c3) (bI_e0 h_39)
      · skip
        refine ww_aload_n (i := 1) C dX1_holdAgainst_42 rfl rfl 43 rfl ?_
        refine ww_iload_n (i := 2) C dX1_holdAgainst_43 rfl rfl 44 rfl ?_
        refine ww_aload_n (i := 0) C dX1_holdAgainst_44 rfl rfl 45 rfl ?_
        refine ww_get C fe_X1_11 dX1_holdAgainst_45 0 rfl rfl 48 rfl ?_
        refine ww_iload_n (i := 3) C dX1_holdAgainst_48 rfl rfl 49 rfl ?_
        refine ww_lald C dX1_holdAgainst_49 1 rfl (vp_in_nI (by omega) (by decide)) 50 rfl ?_
        rw [ej]
        refine ww_callV2p C (c_X6_isTrueOf l Γ hr9 hn ht h4) mi_X6_isTrueOf im_X6_isTrueOf se_X6_isTrueOf ml_X1_37 dX1_holdAgainst_50 4 rfl rfl rfl (Nat.le_of_ble_eq_true rfl) (Nat.le_of_ble_eq_true rfl) (Nat.le_of_ble_eq_true rfl) ⟨Nat.zero_le _, Nat.zero_le _⟩ [4, 5, 6, 7, 8] rfl (by decide) 53 rfl ?_
        refine ww_if_eq C 71 dX1_holdAgainst_53 (by decide) 56 rfl (fun h_53 => ?_) (fun h_53 => ?_)
        · skip
          try rw [ec3]
          refine ww_iinc (y := 1) C dX1_holdAgainst_71 rfl (by decide) (by decide) rfl 74 rfl ?_
          refine ww_goto C 22 dX1_holdAgainst_74 (by decide) ?_
          first
            | (exact ww_eq (by rw [s_hf_no (k := j) (Bool.eq_false_iff.mpr (bI_e0 h_53))]) (by rw [nI_succ j]; rfl) rfl (ih (j + 1) (by omega) (by omega)))
            | (exact ww_eq (by rw [s_hf_yes (k := j) hc3 hec (bI_n0 h_53)]; rfl) (by rw [nI_succ j]; rfl) rfl (ih (j + 1) (by omega) (by omega)))
        · skip
          refine ww_aload_n (i := 0) C dX1_holdAgainst_56 rfl rfl 57 rfl ?_
          refine ww_get C fe_X1_22 dX1_holdAgainst_57 0 rfl rfl 60 rfl ?_
          refine ww_aload_n (i := 0) C dX1_holdAgainst_60 rfl rfl 61 rfl ?_
          refine ww_get C fe_X1_15 dX1_holdAgainst_61 0 rfl rfl 64 rfl ?_
          refine ww_iload_n (i := 3) C dX1_holdAgainst_64 rfl rfl 65 rfl ?_
          refine ww_iald C dX1_holdAgainst_65 2 rfl (vp_in_nI (by omega) (by decide)) 66 rfl ?_
          rw [ej, hec]
          refine ww_dup2 C dX1_holdAgainst_66 rfl rfl 67 rfl ?_
          refine ww_iald C dX1_holdAgainst_67 3 rfl (vp_in_nI hc3 (by decide)) 68 rfl ?_
          rw [ec3]
          refine ww_iconst (v := 1) C dX1_holdAgainst_68 (by decide) 69 rfl ?_
          refine ww_iadd C dX1_holdAgainst_69 70 rfl ?_
          refine ww_iast C dX1_holdAgainst_70 3 rfl (vp_in_nI hc3 (by decide)) 71 rfl ?_
          try rw [ec3]
          refine ww_iinc (y := 1) C dX1_holdAgainst_71 rfl (by decide) (by decide) rfl 74 rfl ?_
          refine ww_goto C 22 dX1_holdAgainst_74 (by decide) ?_
          first
            | (exact ww_eq (by rw [s_hf_no (k := j) (Bool.eq_false_iff.mpr (bI_e0 h_53))]) (by rw [nI_succ j]; rfl) rfl (ih (j + 1) (by omega) (by omega)))
            | (exact ww_eq (by rw [s_hf_yes (k := j) hc3 hec (bI_n0 h_53)]; rfl) (by rw [nI_succ j]; rfl) rfl (ih (j + 1) (by omega) (by omega)))
  · skip
    have hlt : j < 3 := Nat.lt_of_not_le fun q => h_4 (nI_lt (a := 2) (by omega) (by omega))
    refine ww_aload_n (i := 0) C dX1_holdAgainst_7 rfl rfl 8 rfl ?_
    refine ww_get C fe_X1_22 dX1_holdAgainst_8 0 rfl rfl 11 rfl ?_
    refine ww_iload_n (i := 3) C dX1_holdAgainst_11 rfl rfl 12 rfl ?_
    refine ww_iconst (v := 0) C dX1_holdAgainst_12 (by decide) 13 rfl ?_
    refine ww_iast C dX1_holdAgainst_13 3 rfl (vp_in_nI hlt (by decide)) 14 rfl ?_
    refine ww_iinc (y := 1) C dX1_holdAgainst_14 rfl (by decide) (by decide) rfl 17 rfl ?_
    refine ww_goto C 2 dX1_holdAgainst_17 (by decide) ?_
    exact ww_eq (by rw [← s_zf_s]; simp only [nI_clamp (show j < 2 ^ 31 by omega)]; rfl) (by rw [nI_succ j]; rfl) rfl (ih (j + 1) (by omega) (by omega))
