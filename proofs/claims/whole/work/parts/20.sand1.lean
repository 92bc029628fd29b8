abbrev wXo (hx xs xm xt xr xb xd x6 x7 : Nat) (code : Int32) (mk : Int64) (lfa lfi : Int32) : Nat × va_E := (hx, .inr (8, [.ref xs, .ref xm, .ref xt, .ref xr, .ref xb, .ref xd, .ref x6, .ref x7, .int code, .long mk, .int lfa, .int lfi]))
theorem ok_lt {x : Int32} {j n : Nat} (e : x = nI j) (hj : j < n) (hn : n < 2 ^ 31) : ¬ x < 0 ∧ ¬ nI n ≤ x := by
  rw [e]
  exact ⟨nI_pos (by omega), nI_ge hj hn⟩
theorem bad_n {x : Int32} {n : Int32} (h : x < 0 ∨ n ≤ x) : ¬ (¬ x < 0 ∧ ¬ n ≤ x) := fun q => h.elim q.1 q.2
def s_there (ln : Nat → Int32) : Nat → Int32
  | 0 => 0
  | j + 1 => if ln j = -1 then s_there ln j else s_there ln j + 1
theorem c_X10_isSheet (l : Launch) (Γ : Gm) {x : Int32}  : Ct l Γ yX10_isSheet cX10_isSheet 1 (some .boolean) 0 [.int x] [] (some (.int (bI (¬ x < 0 ∧ ¬ 8 ≤ x)))) [] := by
  refine Ct.of mi_X10_isSheet [some (.int x)] 0 rfl (Nat.le_of_ble_eq_true rfl) ?_
  intro p e s m args below meth c C hr
  refine ww_iload_n (i := 0) C dX10_isSheet_0 rfl rfl 1 rfl ?_
  refine ww_if_lt C 14 dX10_isSheet_1 (by decide) 4 rfl (fun h_1 => ?_) (fun h_1 => ?_)
  · skip
    refine ww_iconst (v := 0) C dX10_isSheet_14 (by decide) 15 rfl ?_
    exact ww_zret C hr rfl dX10_isSheet_15 (by simp [bI, *]) rfl
  · skip
    refine ww_iload_n (i := 0) C dX10_isSheet_4 rfl rfl 5 rfl ?_
    refine ww_bipush (v := 8) C dX10_isSheet_5 (by decide) 7 rfl ?_
    refine ww_icmp_ge C 14 dX10_isSheet_7 (by decide) 10 rfl (fun h_7 => ?_) (fun h_7 => ?_)
    · skip
      refine ww_iconst (v := 0) C dX10_isSheet_14 (by decide) 15 rfl ?_
      exact ww_zret C hr rfl dX10_isSheet_15 (by simp [bI, *]) rfl
    · skip
      refine ww_iconst (v := 1) C dX10_isSheet_10 (by decide) 11 rfl ?_
      refine ww_goto C 15 dX10_isSheet_11 (by decide) ?_
      exact ww_zret C hr rfl dX10_isSheet_15 (by simp [bI, *]) rfl
theorem c_X10_isPlace (l : Launch) (Γ : Gm) {x : Int32}  : Ct l Γ yX10_isPlace cX10_isPlace 1 (some .boolean) 0 [.int x] [] (some (.int (bI (¬ x < 0 ∧ ¬ 16 ≤ x)))) [] := by
  refine Ct.of mi_X10_isPlace [some (.int x)] 0 rfl (Nat.le_of_ble_eq_true rfl) ?_
  intro p e s m args below meth c C hr
  refine ww_iload_n (i := 0) C dX10_isPlace_0 rfl rfl 1 rfl ?_
  refine ww_if_lt C 14 dX10_isPlace_1 (by decide) 4 rfl (fun h_1 => ?_) (fun h_1 => ?_)
  · skip
    refine ww_iconst (v := 0) C dX10_isPlace_14 (by decide) 15 rfl ?_
    exact ww_zret C hr rfl dX10_isPlace_15 (by simp [bI, *]) rfl
  · skip
    refine ww_iload_n (i := 0) C dX10_isPlace_4 rfl rfl 5 rfl ?_
    refine ww_bipush (v := 16) C dX10_isPlace_5 (by decide) 7 rfl ?_
    refine ww_icmp_ge C 14 dX10_isPlace_7 (by decide) 10 rfl (fun h_7 => ?_) (fun h_7 => ?_)
    · skip
      refine ww_iconst (v := 0) C dX10_isPlace_14 (by decide) 15 rfl ?_
      exact ww_zret C hr rfl dX10_isPlace_15 (by simp [bI, *]) rfl
    · skip
      refine ww_iconst (v := 1) C dX10_isPlace_10 (by decide) 11 rfl ?_
      refine ww_goto C 15 dX10_isPlace_11 (by decide) ?_
      exact ww_zret C hr rfl dX10_isPlace_15 (by simp [bI, *]) rfl
theorem c_X10_found (l : Launch) (Γ : Gm) {hx xs xm xt xr xb xd x6 x7 : Nat} {code : Int32} {mk : Int64} {lfa lfi : Int32} {f : Int32}  : Ct l Γ yX10_found cX10_found 2 (some .int) 0 [.ref hx, .int f] ([wXo hx xs xm xt xr xb xd x6 x7 (code) (mk) (lfa) (lfi)]) (some (.int (-1000010 - f))) ([wXo hx xs xm xt xr xb xd x6 x7 (code) (mk) (lfa) (f)]) := by
  refine Ct.of mi_X10_found [some (.ref hx), some (.int f)] 0 rfl (Nat.le_of_ble_eq_true rfl) ?_
  intro p e s m args below meth c C hr
  refine ww_aload_n (i := 0) C dX10_found_0 rfl rfl 1 rfl ?_
  refine ww_iload_n (i := 1) C dX10_found_1 rfl rfl 2 rfl ?_
  refine ww_put C fe_X10_77 rfl dX10_found_2 0 rfl rfl rfl (Nat.le_of_ble_eq_true rfl) 5 rfl ?_
  refine ww_ldcw C cn_X10_266 dX10_found_5 8 rfl ?_
  refine ww_iload_n (i := 1) C dX10_found_8 rfl rfl 9 rfl ?_
  refine ww_isub C dX10_found_9 10 rfl ?_
  exact ww_iret C hr dX10_found_10 rfl rfl
theorem c_X10_done (l : Launch) (Γ : Gm) {hx xs xm xt xr xb xd x6 x7 : Nat} {code : Int32} {mk : Int64} {lfa lfi : Int32} {a : Int32}  : Ct l Γ yX10_done cX10_done 2 (some .int) 0 [.ref hx, .int a] ([wXo hx xs xm xt xr xb xd x6 x7 (code) (mk) (lfa) (lfi)]) (some (.int a)) ([wXo hx xs xm xt xr xb xd x6 x7 (code) (mk) (lfa) (0)]) := by
  refine Ct.of mi_X10_done [some (.ref hx), some (.int a)] 0 rfl (Nat.le_of_ble_eq_true rfl) ?_
  intro p e s m args below meth c C hr
  refine ww_aload_n (i := 0) C dX10_done_0 rfl rfl 1 rfl ?_
  refine ww_iconst (v := 0) C dX10_done_1 (by decide) 2 rfl ?_
  refine ww_put C fe_X10_77 rfl dX10_done_2 0 rfl rfl rfl (Nat.le_of_ble_eq_true rfl) 5 rfl ?_
  refine ww_iload_n (i := 1) C dX10_done_5 rfl rfl 6 rfl ?_
  exact ww_iret C hr dX10_done_6 rfl rfl
theorem c_X10_tellChart (l : Launch) (Γ : Gm) {hx xs xm xt xr xb xd x6 x7 : Nat} {code : Int32} {mk : Int64} {lfa lfi : Int32} {k : Int32}  : Ct l Γ yX10_tellChart cX10_tellChart 2 none 2 [.ref hx, .int k] ([wXo hx xs xm xt xr xb xd x6 x7 (code) (mk) (lfa) (lfi)]) (none) ([wXo hx xs xm xt xr xb xd x6 x7 (k) (s_ofc k) (lfa) (lfi)]) := by
  refine Ct.of mi_X10_tellChart [some (.ref hx), some (.int k)] 0 rfl (Nat.le_of_ble_eq_true rfl) ?_
  intro p e s m args below meth c C hr
  refine ww_aload_n (i := 0) C dX10_tellChart_0 rfl rfl 1 rfl ?_
  refine ww_iload_n (i := 1) C dX10_tellChart_1 rfl rfl 2 rfl ?_
  refine ww_put C fe_X10_60 rfl dX10_tellChart_2 0 rfl rfl rfl (Nat.le_of_ble_eq_true rfl) 5 rfl ?_
  refine ww_aload_n (i := 0) C dX10_tellChart_5 rfl rfl 6 rfl ?_
  refine ww_iload_n (i := 1) C dX10_tellChart_6 rfl rfl 7 rfl ?_
  refine ww_callS1p C (c_X2_ofCode l Γ) mi_X2_ofCode st_X2_ofCode ml_X10_64 dX10_tellChart_7 (Nat.le_of_ble_eq_true rfl) (Nat.le_of_ble_eq_true rfl) (Nat.le_of_ble_eq_true rfl) ⟨Nat.zero_le _, Nat.zero_le _⟩ [] rfl (by decide) 10 rfl ?_
  refine ww_put C fe_X10_70 rfl dX10_tellChart_10 0 rfl rfl rfl (Nat.le_of_ble_eq_true rfl) 13 rfl ?_
  exact ww_vret C hr dX10_tellChart_13 rfl rfl
theorem c_X10_fault (l : Launch) (Γ : Gm) {hx xs xm xt xr xb xd x6 x7 : Nat} {code : Int32} {mk : Int64} {lfa lfi : Int32}  : Ct l Γ yX10_fault cX10_fault 1 (some .int) 0 [.ref hx] ([wXo hx xs xm xt xr xb xd x6 x7 (code) (mk) (lfa) (lfi)]) (some (.int lfa)) ([wXo hx xs xm xt xr xb xd x6 x7 (code) (mk) (lfa) (lfi)]) := by
  refine Ct.of mi_X10_fault [some (.ref hx)] 0 rfl (Nat.le_of_ble_eq_true rfl) ?_
  intro p e s m args below meth c C hr
  refine ww_aload_n (i := 0) C dX10_fault_0 rfl rfl 1 rfl ?_
  refine ww_get C fe_X10_74 dX10_fault_1 0 rfl rfl 4 rfl ?_
  exact ww_iret C hr dX10_fault_4 rfl rfl
theorem c_X10_status (l : Launch) (Γ : Gm) {hx xs xm xt xr xb xd x6 x7 : Nat} {code : Int32} {mk : Int64} {lfa lfi : Int32}  : Ct l Γ yX10_status cX10_status 1 (some .int) 0 [.ref hx] ([wXo hx xs xm xt xr xb xd x6 x7 (code) (mk) (lfa) (lfi)]) (some (.int lfi)) ([wXo hx xs xm xt xr xb xd x6 x7 (code) (mk) (lfa) (lfi)]) := by
  refine Ct.of mi_X10_status [some (.ref hx)] 0 rfl (Nat.le_of_ble_eq_true rfl) ?_
  intro p e s m args below meth c C hr
  refine ww_aload_n (i := 0) C dX10_status_0 rfl rfl 1 rfl ?_
  refine ww_get C fe_X10_77 dX10_status_1 0 rfl rfl 4 rfl ?_
  exact ww_iret C hr dX10_status_4 rfl rfl
theorem c_X10_add (l : Launch) (Γ : Gm) {hx xs xm xt xr xb xd x6 x7 : Nat} {code : Int32} {mk : Int64} {lfa lfi : Int32} {a b : Int32}  : Ct l Γ yX10_add cX10_add 3 (some .int) 1 [.ref hx, .int a, .int b] ([wXo hx xs xm xt xr xb xd x6 x7 (code) (mk) (lfa) (lfi)]) (some (.int (if (¬ a < 0 ∧ ¬ 15 < a) then if (¬ b < 0 ∧ ¬ 15 < b) then a ^^^ b else -1000001 else -1000001))) ([wXo hx xs xm xt xr xb xd x6 x7 (code) (mk) (lfa) (lfi)]) := by
  refine Ct.of mi_X10_add [some (.ref hx), some (.int a), some (.int b)] 0 rfl (Nat.le_of_ble_eq_true rfl) ?_
  intro p e s m args below meth c C hr
  refine ww_iload_n (i := 1) C dX10_add_0 rfl rfl 1 rfl ?_
  refine ww_callS1p C (c_X3_isFigure l Γ) mi_X3_isFigure st_X3_isFigure ml_X10_154 dX10_add_1 (Nat.le_of_ble_eq_true rfl) (Nat.le_of_ble_eq_true rfl) (Nat.le_of_ble_eq_true rfl) ⟨Nat.zero_le _, Nat.zero_le _⟩ [] rfl (by decide) 4 rfl ?_
  refine ww_if_eq C 20 dX10_add_4 (by decide) 7 rfl (fun h_4 => ?_) (fun h_4 => ?_)
  · skip
    refine ww_ldc C cn_X10_88 dX10_add_20 22 rfl ?_
    exact ww_iret C hr dX10_add_22 (by first | rw [if_neg (bI_e0 h_4)] | rw [if_pos (bI_n0 h_4), if_neg (bI_e0 h_11)] | rw [if_pos (bI_n0 h_4), if_pos (bI_n0 h_11)]) rfl
  · skip
    refine ww_iload_n (i := 2) C dX10_add_7 rfl rfl 8 rfl ?_
    refine ww_callS1p C (c_X3_isFigure l Γ) mi_X3_isFigure st_X3_isFigure ml_X10_154 dX10_add_8 (Nat.le_of_ble_eq_true rfl) (Nat.le_of_ble_eq_true rfl) (Nat.le_of_ble_eq_true rfl) ⟨Nat.zero_le _, Nat.zero_le _⟩ [] rfl (by decide) 11 rfl ?_
    refine ww_if_eq C 20 dX10_add_11 (by decide) 14 rfl (fun h_11 => ?_) (fun h_11 => ?_)
    · skip
      refine ww_ldc C cn_X10_88 dX10_add_20 22 rfl ?_
      exact ww_iret C hr dX10_add_22 (by first | rw [if_neg (bI_e0 h_4)] | rw [if_pos (bI_n0 h_4), if_neg (bI_e0 h_11)] | rw [if_pos (bI_n0 h_4), if_pos (bI_n0 h_11)]) rfl
    · skip
      refine ww_iload_n (i := 1) C dX10_add_14 rfl rfl 15 rfl ?_
      refine ww_iload_n (i := 2) C dX10_add_15 rfl rfl 16 rfl ?_
      refine ww_ixor C dX10_add_16 17 rfl ?_
      refine ww_goto C 22 dX10_add_17 (by decide) ?_
      exact ww_iret C hr dX10_add_22 (by first | rw [if_neg (bI_e0 h_4)] | rw [if_pos (bI_n0 h_4), if_neg (bI_e0 h_11)] | rw [if_pos (bI_n0 h_4), if_pos (bI_n0 h_11)]) rfl
theorem c_X10_at (l : Launch) (Γ : Gm) {hx xs xm xt xr xb xd x6 x7 : Nat} {code : Int32} {mk : Int64} {lfa lfi : Int32} {a : Int32}  : Ct l Γ yX10_at cX10_at 2 (some .int) 1 [.ref hx, .int a] ([wXo hx xs xm xt xr xb xd x6 x7 (code) (mk) (lfa) (lfi)]) (some (.int (if (¬ a < 0 ∧ ¬ 16 ≤ a) then s_fa mk a else -1000001))) ([wXo hx xs xm xt xr xb xd x6 x7 (code) (mk) (lfa) (lfi)]) := by
  refine Ct.of mi_X10_at [some (.ref hx), some (.int a)] 0 rfl (Nat.le_of_ble_eq_true rfl) ?_
  intro p e s m args below meth c C hr
  refine ww_iload_n (i := 1) C dX10_at_0 rfl rfl 1 rfl ?_
  refine ww_callS1p C (c_X10_isPlace l Γ) mi_X10_isPlace st_X10_isPlace ml_X10_147 dX10_at_1 (Nat.le_of_ble_eq_true rfl) (Nat.le_of_ble_eq_true rfl) (Nat.le_of_ble_eq_true rfl) ⟨Nat.zero_le _, Nat.zero_le _⟩ [] rfl (by decide) 4 rfl ?_
  refine ww_if_eq C 18 dX10_at_4 (by decide) 7 rfl (fun h_4 => ?_) (fun h_4 => ?_)
  · skip
    refine ww_ldc C cn_X10_88 dX10_at_18 20 rfl ?_
    exact ww_iret C hr dX10_at_20 (by first | rw [if_neg (bI_e0 h_4)] | rw [if_pos (bI_n0 h_4)]) rfl
  · skip
    refine ww_aload_n (i := 0) C dX10_at_7 rfl rfl 8 rfl ?_
    refine ww_get C fe_X10_70 dX10_at_8 0 rfl rfl 11 rfl ?_
    refine ww_iload_n (i := 1) C dX10_at_11 rfl rfl 12 rfl ?_
    refine ww_callS2p C (c_X2_figureAt l Γ) mi_X2_figureAt st_X2_figureAt ml_X10_150 dX10_at_12 (Nat.le_of_ble_eq_true rfl) (Nat.le_of_ble_eq_true rfl) (Nat.le_of_ble_eq_true rfl) ⟨Nat.zero_le _, Nat.zero_le _⟩ [] rfl (by decide) 15 rfl ?_
    refine ww_goto C 20 dX10_at_15 (by decide) ?_
    exact ww_iret C hr dX10_at_20 (by first | rw [if_neg (bI_e0 h_4)] | rw [if_pos (bI_n0 h_4)]) rfl
theorem c_X10_seen (l : Launch) (Γ : Gm) {hx xs xm xt xr xb xd x6 x7 : Nat} {code : Int32} {mk : Int64} {lfa lfi : Int32} {a : Int32}  : Ct l Γ yX10_seen cX10_seen 2 (some .int) 2 [.ref hx, .int a] ([wXo hx xs xm xt xr xb xd x6 x7 (code) (mk) (lfa) (lfi)]) (some (.int (if (¬ a < 0 ∧ ¬ 15 < a) then s_seen mk a 0 16 else -1000001))) ([wXo hx xs xm xt xr xb xd x6 x7 (code) (mk) (lfa) (lfi)]) := by
  refine Ct.of mi_X10_seen [some (.ref hx), some (.int a)] 0 rfl (Nat.le_of_ble_eq_true rfl) ?_
  intro p e s m args below meth c C hr
  refine ww_iload_n (i := 1) C dX10_seen_0 rfl rfl 1 rfl ?_
  refine ww_callS1p C (c_X3_isFigure l Γ) mi_X3_isFigure st_X3_isFigure ml_X10_154 dX10_seen_1 (Nat.le_of_ble_eq_true rfl) (Nat.le_of_ble_eq_true rfl) (Nat.le_of_ble_eq_true rfl) ⟨Nat.zero_le _, Nat.zero_le _⟩ [] rfl (by decide) 4 rfl ?_
  refine ww_if_eq C 21 dX10_seen_4 (by decide) 7 rfl (fun h_4 => ?_) (fun h_4 => ?_)
  · skip
    refine ww_ldc C cn_X10_88 dX10_seen_21 23 rfl ?_
    exact ww_iret C hr dX10_seen_23 (by first | rw [if_neg (bI_e0 h_4)] | rw [if_pos (bI_n0 h_4)]) rfl
  · skip
    refine ww_aload_n (i := 0) C dX10_seen_7 rfl rfl 8 rfl ?_
    refine ww_get C fe_X10_70 dX10_seen_8 0 rfl rfl 11 rfl ?_
    refine ww_iload_n (i := 1) C dX10_seen_11 rfl rfl 12 rfl ?_
    refine ww_iconst (v := 0) C dX10_seen_12 (by decide) 13 rfl ?_
    refine ww_bipush (v := 15) C dX10_seen_13 (by decide) 15 rfl ?_
    refine ww_callS4p C (c_X2_timesSeen l Γ (a := 0) (n := 16) (b := 15) rfl (by decide)) mi_X2_timesSeen st_X2_timesSeen ml_X10_159 dX10_seen_15 (Nat.le_of_ble_eq_true rfl) (Nat.le_of_ble_eq_true rfl) (Nat.le_of_ble_eq_true rfl) ⟨Nat.zero_le _, Nat.zero_le _⟩ [] rfl (by decide) 18 rfl ?_
    refine ww_goto C 23 dX10_seen_18 (by decide) ?_
    exact ww_iret C hr dX10_seen_23 (by first | rw [if_neg (bI_e0 h_4)] | rw [if_pos (bI_n0 h_4)]) rfl
theorem c_X10_point (l : Launch) (Γ : Gm) {hx xs xm xt xr xb xd x6 x7 : Nat} {code : Int32} {mk : Int64} {lfa lfi : Int32}  : Ct l Γ yX10_point cX10_point 1 (some .int) 3 [.ref hx] ([wXo hx xs xm xt xr xb xd x6 x7 (code) (mk) (lfa) (lfi)]) (some (.int (s_ep mk 15).2)) ([wXo hx xs xm xt xr xb xd x6 x7 (code) (mk) (lfa) (lfi)]) := by
  refine Ct.of mi_X10_point [some (.ref hx)] 0 rfl (Nat.le_of_ble_eq_true rfl) ?_
  intro p e s m args below meth c C hr
  refine ww_aload_n (i := 0) C dX10_point_0 rfl rfl 1 rfl ?_
  refine ww_get C fe_X10_70 dX10_point_1 0 rfl rfl 4 rfl ?_
  refine ww_callS1p C (c_X2_endsOfPoint l Γ) mi_X2_endsOfPoint st_X2_endsOfPoint ml_X10_163 dX10_point_4 (Nat.le_of_ble_eq_true rfl) (Nat.le_of_ble_eq_true rfl) (Nat.le_of_ble_eq_true rfl) ⟨Nat.zero_le _, Nat.zero_le _⟩ [] rfl (by decide) 7 rfl ?_
  exact ww_iret C hr dX10_point_7 rfl rfl
theorem c_X10_kind (l : Launch) (Γ : Gm) {hx xs xm xt xr xb xd x6 x7 : Nat} {code : Int32} {mk : Int64} {lfa lfi : Int32} {a : Int32}  : Ct l Γ yX10_kind cX10_kind 2 (some .int) 3 [.ref hx, .int a] ([wXo hx xs xm xt xr xb xd x6 x7 (code) (mk) (lfa) (lfi)]) (some (.int (if (¬ a < 0 ∧ ¬ 15 < a) then s_told a else -1000001))) ([wXo hx xs xm xt xr xb xd x6 x7 (code) (mk) (lfa) (lfi)]) := by
  refine Ct.of mi_X10_kind [some (.ref hx), some (.int a)] 0 rfl (Nat.le_of_ble_eq_true rfl) ?_
  intro p e s m args below meth c C hr
  refine ww_iload_n (i := 1) C dX10_kind_0 rfl rfl 1 rfl ?_
  refine ww_callS1p C (c_X3_isFigure l Γ) mi_X3_isFigure st_X3_isFigure ml_X10_154 dX10_kind_1 (Nat.le_of_ble_eq_true rfl) (Nat.le_of_ble_eq_true rfl) (Nat.le_of_ble_eq_true rfl) ⟨Nat.zero_le _, Nat.zero_le _⟩ [] rfl (by decide) 4 rfl ?_
  refine ww_if_eq C 14 dX10_kind_4 (by decide) 7 rfl (fun h_4 => ?_) (fun h_4 => ?_)
  · skip
    refine ww_ldc C cn_X10_88 dX10_kind_14 16 rfl ?_
    exact ww_iret C hr dX10_kind_16 (by first | rw [if_neg (bI_e0 h_4)] | rw [if_pos (bI_n0 h_4)]) rfl
  · skip
    refine ww_iload_n (i := 1) C dX10_kind_7 rfl rfl 8 rfl ?_
    refine ww_callS1p C (c_X3_toldKind l Γ) mi_X3_toldKind st_X3_toldKind ml_X10_236 dX10_kind_8 (Nat.le_of_ble_eq_true rfl) (Nat.le_of_ble_eq_true rfl) (Nat.le_of_ble_eq_true rfl) ⟨Nat.zero_le _, Nat.zero_le _⟩ [] rfl (by decide) 11 rfl ?_
    refine ww_goto C 16 dX10_kind_11 (by decide) ?_
    exact ww_iret C hr dX10_kind_16 (by first | rw [if_neg (bI_e0 h_4)] | rw [if_pos (bI_n0 h_4)]) rfl
theorem c_X10_chart_bad (l : Launch) (Γ : Gm) {hx xs xm xt xr xb xd x6 x7 : Nat} {code : Int32} {mk : Int64} {lfa lfi : Int32} {a : Int32} (hb : a < 0 ∨ 65536 ≤ a) : Ct l Γ yX10_chart cX10_chart 3 (some .int) 3 [.ref hx, .int a] ([wXo hx xs xm xt xr xb xd x6 x7 (code) (mk) (lfa) (lfi)]) (some (.int (-1000001))) ([wXo hx xs xm xt xr xb xd x6 x7 (code) (mk) (lfa) (lfi)]) := by
  refine Ct.of mi_X10_chart [some (.ref hx), some (.int a), none] 1 rfl (Nat.le_of_ble_eq_true rfl) ?_
  intro p e s m args below meth c C hr
  refine ww_iload_n (i := 1) C dX10_chart_0 rfl rfl 1 rfl ?_
  refine ww_if_lt C 10 dX10_chart_1 (by decide) 4 rfl (fun h_1 => ?_) (fun h_1 => ?_)
  · skip
    refine ww_ldc C cn_X10_88 dX10_chart_10 12 rfl ?_
    exact ww_iret C hr dX10_chart_12 rfl rfl
  · skip
    refine ww_iload_n (i := 1) C dX10_chart_4 rfl rfl 5 rfl ?_
    refine ww_ldc C cn_X10_146 dX10_chart_5 7 rfl ?_
    refine ww_icmp_lt C 13 dX10_chart_7 (by decide) 10 rfl (fun h_7 => ?_) (fun h_7 => ?_)
    · exact absurd h_7 (fun q => hb.elim h_1 (fun z => absurd q (Int32.not_lt.mpr z)))
    · skip
      refine ww_ldc C cn_X10_88 dX10_chart_10 12 rfl ?_
      exact ww_iret C hr dX10_chart_12 rfl rfl
theorem c_X10_chart_ok (l : Launch) (Γ : Gm) {hx xs xm xt xr xb xd x6 x7 : Nat} {code : Int32} {mk : Int64} {lfa lfi : Int32} {a : Nat} (ha : a < 65536) : Ct l Γ yX10_chart cX10_chart 3 (some .int) 3 [.ref hx, .int (nI a)] ([wXo hx xs xm xt xr xb xd x6 x7 (code) (mk) (lfa) (lfi)]) (some (.int code)) ([wXo hx xs xm xt xr xb xd x6 x7 (nI a) (s_ofc (nI a)) (lfa) (lfi)]) := by
  refine Ct.of mi_X10_chart [some (.ref hx), some (.int (nI a)), none] 1 rfl (Nat.le_of_ble_eq_true rfl) ?_
  intro p e s m args below meth c C hr
  refine ww_iload_n (i := 1) C dX10_chart_0 rfl rfl 1 rfl ?_
  refine ww_if_lt C 10 dX10_chart_1 (by decide) 4 rfl (fun h_1 => ?_) (fun h_1 => ?_)
  · exact absurd h_1 (nI_pos (by omega))
  · skip
    refine ww_iload_n (i := 1) C dX10_chart_4 rfl rfl 5 rfl ?_
    refine ww_ldc C cn_X10_146 dX10_chart_5 7 rfl ?_
    refine ww_icmp_lt C 13 dX10_chart_7 (by decide) 10 rfl (fun h_7 => ?_) (fun h_7 => ?_)
    · skip
      refine ww_aload_n (i := 0) C dX10_chart_13 rfl rfl 14 rfl ?_
      refine ww_get C fe_X10_60 dX10_chart_14 0 rfl rfl 17 rfl ?_
      refine ww_istore_n (i := 2) C dX10_chart_17 rfl (by decide) rfl 18 rfl ?_
      refine ww_aload_n (i := 0) C dX10_chart_18 rfl rfl 19 rfl ?_
      refine ww_iload_n (i := 1) C dX10_chart_19 rfl rfl 20 rfl ?_
      refine ww_callV1v C (c_X10_tellChart l Γ) mi_X10_tellChart im_X10_tellChart se_X10_tellChart ml_X10_142 dX10_chart_20 0 rfl rfl rfl (Nat.le_of_ble_eq_true rfl) (Nat.le_of_ble_eq_true rfl) (Nat.le_of_ble_eq_true rfl) ⟨Nat.zero_le _, Nat.zero_le _⟩ [0] rfl (by decide) rfl 23 rfl ?_
      refine ww_iload_n (i := 2) C dX10_chart_23 rfl rfl 24 rfl ?_
      exact ww_iret C hr dX10_chart_24 rfl rfl
    · exact absurd (nI_lt (b := 65536) ha (by decide)) h_7
theorem c_X10_as_bad (l : Launch) (Γ : Gm) {hx xs xm xt xr xb xd x6 x7 : Nat} {code : Int32} {mk : Int64} {lfa lfi : Int32} {a k : Int32} (hb : ¬ (¬ a < 0 ∧ ¬ 15 < a) ∨ k < 0 ∨ ¬ k ≤ 3) : Ct l Γ yX10_as cX10_as 3 (some .int) 4 [.ref hx, .int a, .int k] ([wXo hx xs xm xt xr xb xd x6 x7 (code) (mk) (lfa) (lfi)]) (some (.int (-1000001))) ([wXo hx xs xm xt xr xb xd x6 x7 (code) (mk) (lfa) (lfi)]) := by
  refine Ct.of mi_X10_as [some (.ref hx), some (.int a), some (.int k)] 0 rfl (Nat.le_of_ble_eq_true rfl) ?_
  intro p e s m args below meth c C hr
  refine ww_iload_n (i := 1) C dX10_as_0 rfl rfl 1 rfl ?_
  refine ww_callS1p C (c_X3_isFigure l Γ) mi_X3_isFigure st_X3_isFigure ml_X10_154 dX10_as_1 (Nat.le_of_ble_eq_true rfl) (Nat.le_of_ble_eq_true rfl) (Nat.le_of_ble_eq_true rfl) ⟨Nat.zero_le _, Nat.zero_le _⟩ [] rfl (by decide) 4 rfl ?_
  refine ww_if_eq C 16 dX10_as_4 (by decide) 7 rfl (fun h_4 => ?_) (fun h_4 => ?_)
  · skip
    refine ww_ldc C cn_X10_88 dX10_as_16 18 rfl ?_
    exact ww_iret C hr dX10_as_18 rfl rfl
  · skip
    refine ww_iload_n (i := 2) C dX10_as_7 rfl rfl 8 rfl ?_
    refine ww_if_lt C 16 dX10_as_8 (by decide) 11 rfl (fun h_8 => ?_) (fun h_8 => ?_)
    · skip
      refine ww_ldc C cn_X10_88 dX10_as_16 18 rfl ?_
      exact ww_iret C hr dX10_as_18 rfl rfl
    · skip
      refine ww_iload_n (i := 2) C dX10_as_11 rfl rfl 12 rfl ?_
      refine ww_iconst (v := 3) C dX10_as_12 (by decide) 13 rfl ?_
      refine ww_icmp_le C 19 dX10_as_13 (by decide) 16 rfl (fun h_13 => ?_) (fun h_13 => ?_)
      · exact absurd hb (fun q => q.elim (fun z => z (bI_n0 h_4)) (fun z => z.elim h_8 (fun y => y h_13)))
      · skip
        refine ww_ldc C cn_X10_88 dX10_as_16 18 rfl ?_
        exact ww_iret C hr dX10_as_18 rfl rfl
theorem c_X10_as_no (l : Launch) (Γ : Gm) {hx xs xm xt xr xb xd x6 x7 : Nat} {code : Int32} {mk : Int64} {lfa lfi : Int32} {a k : Int32} (h1 : ¬ a < 0 ∧ ¬ 15 < a) (h2 : ¬ k < 0) (h3 : k ≤ 3) (hk : s_isk a k = 0) : Ct l Γ yX10_as cX10_as 3 (some .int) 4 [.ref hx, .int a, .int k] ([wXo hx xs xm xt xr xb xd x6 x7 (code) (mk) (lfa) (lfi)]) (some (.int (-1000010 - 3))) ([wXo hx xs xm xt xr xb xd x6 x7 (code) (mk) (lfa) (3)]) := by
  refine Ct.of mi_X10_as [some (.ref hx), some (.int a), some (.int k)] 0 rfl (Nat.le_of_ble_eq_true rfl) ?_
  intro p e s m args below meth c C hr
  refine ww_iload_n (i := 1) C dX10_as_0 rfl rfl 1 rfl ?_
  refine ww_callS1p C (c_X3_isFigure l Γ) mi_X3_isFigure st_X3_isFigure ml_X10_154 dX10_as_1 (Nat.le_of_ble_eq_true rfl) (Nat.le_of_ble_eq_true rfl) (Nat.le_of_ble_eq_true rfl) ⟨Nat.zero_le _, Nat.zero_le _⟩ [] rfl (by decide) 4 rfl ?_
  refine ww_if_eq C 16 dX10_as_4 (by decide) 7 rfl (fun h_4 => ?_) (fun h_4 => ?_)
  · exact absurd h1 (bI_e0 h_4)
  · skip
    refine ww_iload_n (i := 2) C dX10_as_7 rfl rfl 8 rfl ?_
    refine ww_if_lt C 16 dX10_as_8 (by decide) 11 rfl (fun h_8 => ?_) (fun h_8 => ?_)
    · exact absurd h_8 h2
    · skip
      refine ww_iload_n (i := 2) C dX10_as_11 rfl rfl 12 rfl ?_
      refine ww_iconst (v := 3) C dX10_as_12 (by decide) 13 rfl ?_
      refine ww_icmp_le C 19 dX10_as_13 (by decide) 16 rfl (fun h_13 => ?_) (fun h_13 => ?_)
      · skip
        refine ww_iload_n (i := 1) C dX10_as_19 rfl rfl 20 rfl ?_
        refine ww_iload_n (i := 2) C dX10_as_20 rfl rfl 21 rfl ?_
        refine ww_callS2p C (c_X3_isOfKind l Γ) mi_X3_isOfKind st_X3_isOfKind ml_X10_239 dX10_as_21 (Nat.le_of_ble_eq_true rfl) (Nat.le_of_ble_eq_true rfl) (Nat.le_of_ble_eq_true rfl) ⟨Nat.zero_le _, Nat.zero_le _⟩ [] rfl (by decide) 24 rfl ?_
        refine ww_if_ne C 33 dX10_as_24 (by decide) 27 rfl (fun h_24 => ?_) (fun h_24 => ?_)
        · exact absurd h_24 (fun q => q hk)
        · skip
          refine ww_aload_n (i := 0) C dX10_as_27 rfl rfl 28 rfl ?_
          refine ww_iconst (v := 3) C dX10_as_28 (by decide) 29 rfl ?_
          refine ww_callV1 C (c_X10_found l Γ) mi_X10_found im_X10_found se_X10_found ml_X10_89 dX10_as_29 0 rfl rfl rfl (Nat.le_of_ble_eq_true rfl) (Nat.le_of_ble_eq_true rfl) (Nat.le_of_ble_eq_true rfl) ⟨Nat.zero_le _, Nat.zero_le _⟩ [0] rfl (by decide) rfl 32 rfl ?_
          exact ww_iret C hr dX10_as_32 rfl rfl
      · exact absurd h3 h_13
theorem c_X10_as_ok (l : Launch) (Γ : Gm) {hx xs xm xt xr xb xd x6 x7 : Nat} {code : Int32} {mk : Int64} {lfa lfi : Int32} {a k : Int32} (h1 : ¬ a < 0 ∧ ¬ 15 < a) (h2 : ¬ k < 0) (h3 : k ≤ 3) (hk : ¬ s_isk a k = 0) : Ct l Γ yX10_as cX10_as 3 (some .int) 4 [.ref hx, .int a, .int k] ([wXo hx xs xm xt xr xb xd x6 x7 (code) (mk) (lfa) (lfi)]) (some (.int (8 - s_bc32 a))) ([wXo hx xs xm xt xr xb xd x6 x7 (code) (mk) (lfa) (0)]) := by
  refine Ct.of mi_X10_as [some (.ref hx), some (.int a), some (.int k)] 0 rfl (Nat.le_of_ble_eq_true rfl) ?_
  intro p e s m args below meth c C hr
  refine ww_iload_n (i := 1) C dX10_as_0 rfl rfl 1 rfl ?_
  refine ww_callS1p C (c_X3_isFigure l Γ) mi_X3_isFigure st_X3_isFigure ml_X10_154 dX10_as_1 (Nat.le_of_ble_eq_true rfl) (Nat.le_of_ble_eq_true rfl) (Nat.le_of_ble_eq_true rfl) ⟨Nat.zero_le _, Nat.zero_le _⟩ [] rfl (by decide) 4 rfl ?_
  refine ww_if_eq C 16 dX10_as_4 (by decide) 7 rfl (fun h_4 => ?_) (fun h_4 => ?_)
  · exact absurd h1 (bI_e0 h_4)
  · skip
    refine ww_iload_n (i := 2) C dX10_as_7 rfl rfl 8 rfl ?_
    refine ww_if_lt C 16 dX10_as_8 (by decide) 11 rfl (fun h_8 => ?_) (fun h_8 => ?_)
    · exact absurd h_8 h2
    · skip
      refine ww_iload_n (i := 2) C dX10_as_11 rfl rfl 12 rfl ?_
      refine ww_iconst (v := 3) C dX10_as_12 (by decide) 13 rfl ?_
      refine ww_icmp_le C 19 dX10_as_13 (by decide) 16 rfl (fun h_13 => ?_) (fun h_13 => ?_)
      · skip
        refine ww_iload_n (i := 1) C dX10_as_19 rfl rfl 20 rfl ?_
        refine ww_iload_n (i := 2) C dX10_as_20 rfl rfl 21 rfl ?_
        refine ww_callS2p C (c_X3_isOfKind l Γ) mi_X3_isOfKind st_X3_isOfKind ml_X10_239 dX10_as_21 (Nat.le_of_ble_eq_true rfl) (Nat.le_of_ble_eq_true rfl) (Nat.le_of_ble_eq_true rfl) ⟨Nat.zero_le _, Nat.zero_le _⟩ [] rfl (by decide) 24 rfl ?_
        refine ww_if_ne C 33 dX10_as_24 (by decide) 27 rfl (fun h_24 => ?_) (fun h_24 => ?_)
        · skip
          refine ww_aload_n (i := 0) C dX10_as_33 rfl rfl 34 rfl ?_
          refine ww_iload_n (i := 1) C dX10_as_34 rfl rfl 35 rfl ?_
          refine ww_callS1p C (c_X3_dots l Γ) mi_X3_dots st_X3_dots ml_X10_242 dX10_as_35 (Nat.le_of_ble_eq_true rfl) (Nat.le_of_ble_eq_true rfl) (Nat.le_of_ble_eq_true rfl) ⟨Nat.zero_le _, Nat.zero_le _⟩ [] rfl (by decide) 38 rfl ?_
          refine ww_callV1 C (c_X10_done l Γ) mi_X10_done im_X10_done se_X10_done ml_X10_97 dX10_as_38 0 rfl rfl rfl (Nat.le_of_ble_eq_true rfl) (Nat.le_of_ble_eq_true rfl) (Nat.le_of_ble_eq_true rfl) ⟨Nat.zero_le _, Nat.zero_le _⟩ [0] rfl (by decide) rfl 41 rfl ?_
          exact ww_iret C hr dX10_as_41 rfl rfl
        · exact absurd h_24 hk
      · exact absurd h3 h_13
theorem c_X10_ask_bad (l : Launch) (Γ : Gm) {hx xs xm xt xr xb xd x6 x7 : Nat} {code : Int32} {mk : Int64} {lfa lfi : Int32} {a k : Int32} (hb : ¬ (¬ a < 0 ∧ ¬ 15 < a) ∨ (¬ k = 0 ∧ ¬ k = 1)) : Ct l Γ yX10_ask cX10_ask 3 (some .int) 6 [.ref hx, .int a, .int k] ([wXo hx xs xm xt xr xb xd x6 x7 (code) (mk) (lfa) (lfi)]) (some (.int (-1000001))) ([wXo hx xs xm xt xr xb xd x6 x7 (code) (mk) (lfa) (lfi)]) := by
  refine Ct.of mi_X10_ask [some (.ref hx), some (.int a), some (.int k)] 0 rfl (Nat.le_of_ble_eq_true rfl) ?_
  intro p e s m args below meth c C hr
  refine ww_iload_n (i := 1) C dX10_ask_0 rfl rfl 1 rfl ?_
  refine ww_callS1p C (c_X3_isFigure l Γ) mi_X3_isFigure st_X3_isFigure ml_X10_154 dX10_ask_1 (Nat.le_of_ble_eq_true rfl) (Nat.le_of_ble_eq_true rfl) (Nat.le_of_ble_eq_true rfl) ⟨Nat.zero_le _, Nat.zero_le _⟩ [] rfl (by decide) 4 rfl ?_
  refine ww_if_eq C 16 dX10_ask_4 (by decide) 7 rfl (fun h_4 => ?_) (fun h_4 => ?_)
  · skip
    refine ww_ldc C cn_X10_88 dX10_ask_16 18 rfl ?_
    exact ww_iret C hr dX10_ask_18 rfl rfl
  · skip
    refine ww_iload_n (i := 2) C dX10_ask_7 rfl rfl 8 rfl ?_
    refine ww_if_eq C 19 dX10_ask_8 (by decide) 11 rfl (fun h_8 => ?_) (fun h_8 => ?_)
    · exact absurd hb (fun q => q.elim (fun z => z (bI_n0 h_4)) (fun z => z.1 h_8))
    · skip
      refine ww_iload_n (i := 2) C dX10_ask_11 rfl rfl 12 rfl ?_
      refine ww_iconst (v := 1) C dX10_ask_12 (by decide) 13 rfl ?_
      refine ww_icmp_eq C 19 dX10_ask_13 (by decide) 16 rfl (fun h_13 => ?_) (fun h_13 => ?_)
      · exact absurd hb (fun q => q.elim (fun z => z (bI_n0 h_4)) (fun z => z.2 h_13))
      · skip
        refine ww_ldc C cn_X10_88 dX10_ask_16 18 rfl ?_
        exact ww_iret C hr dX10_ask_18 rfl rfl
theorem c_X10_ask_0 (l : Launch) (Γ : Gm) {hx xs xm xt xr xb xd x6 x7 : Nat} {code : Int32} {mk : Int64} {lfa lfi : Int32} {a : Int32} {hb : Nat} {σ : TrS} (h1 : ¬ a < 0 ∧ ¬ 15 < a) : Ct l Γ yX10_ask cX10_ask 3 (some .int) 6 [.ref hx, .int a, .int 0] (wXo hx xs xm xt xr xb xd x6 x7 (code) (mk) (lfa) (lfi) :: wBod Γ xd hb σ) (some (.int (s_szV a))) (wXo hx xs xm xt xr xb xd x6 x7 (code) (mk) (lfa) (lfi) :: wBod Γ xd hb (s_szT a (σ.1, 0))) := by
  refine Ct.of mi_X10_ask [some (.ref hx), some (.int a), some (.int 0)] 0 rfl (Nat.le_of_ble_eq_true rfl) ?_
  intro p e s m args below meth c C hr
  refine ww_iload_n (i := 1) C dX10_ask_0 rfl rfl 1 rfl ?_
  refine ww_callS1p C (c_X3_isFigure l Γ) mi_X3_isFigure st_X3_isFigure ml_X10_154 dX10_ask_1 (Nat.le_of_ble_eq_true rfl) (Nat.le_of_ble_eq_true rfl) (Nat.le_of_ble_eq_true rfl) ⟨Nat.zero_le _, Nat.zero_le _⟩ [] rfl (by decide) 4 rfl ?_
  refine ww_if_eq C 16 dX10_ask_4 (by decide) 7 rfl (fun h_4 => ?_) (fun h_4 => ?_)
  · exact absurd h1 (bI_e0 h_4)
  · skip
    refine ww_iload_n (i := 2) C dX10_ask_7 rfl rfl 8 rfl ?_
    refine ww_if_eq C 19 dX10_ask_8 (by decide) 11 rfl (fun h_8 => ?_) (fun h_8 => ?_)
    · skip
      refine ww_aload_n (i := 0) C dX10_ask_19 rfl rfl 20 rfl ?_
      refine ww_get C fe_X10_46 dX10_ask_20 0 rfl rfl 23 rfl ?_
      refine ww_callV0v C (c_X0_emptyTrace l Γ) mi_X0_emptyTrace im_X0_emptyTrace se_X0_emptyTrace ml_X10_245 dX10_ask_23 1 rfl rfl rfl (Nat.le_of_ble_eq_true rfl) (Nat.le_of_ble_eq_true rfl) (Nat.le_of_ble_eq_true rfl) ⟨Nat.zero_le _, Nat.zero_le _⟩ [1, 2] rfl (by decide) rfl 26 rfl ?_
      refine ww_eq (ws' := wXo hx xs xm xt xr xb xd x6 x7 (code) (mk) (lfa) (lfi) :: wBod Γ xd hb (σ.1, 0)) rfl rfl rfl ?_
      refine ww_iload_n (i := 2) C dX10_ask_26 rfl rfl 27 rfl ?_
      refine ww_if_ne C 41 dX10_ask_27 (by decide) 30 rfl (fun h_27 => ?_) (fun h_27 => ?_)
      · exact absurd h_27 (by decide)
      · skip
        refine ww_aload_n (i := 0) C dX10_ask_30 rfl rfl 31 rfl ?_
        refine ww_get C fe_X10_46 dX10_ask_31 0 rfl rfl 34 rfl ?_
        refine ww_iload_n (i := 1) C dX10_ask_34 rfl rfl 35 rfl ?_
        refine ww_callV1 C (c_X0_sizeOf l Γ (Nat.zero_le _)) mi_X0_sizeOf im_X0_sizeOf se_X0_sizeOf ml_X10_248 dX10_ask_35 1 rfl rfl rfl (Nat.le_of_ble_eq_true rfl) (Nat.le_of_ble_eq_true rfl) (Nat.le_of_ble_eq_true rfl) ⟨Nat.zero_le _, Nat.zero_le _⟩ [1, 2] rfl (by decide) rfl 38 rfl ?_
        refine ww_goto C 49 dX10_ask_38 (by decide) ?_
        exact ww_iret C hr dX10_ask_49 rfl rfl
    · exact absurd h_8 (by decide)
theorem c_X10_ask_1 (l : Launch) (Γ : Gm) {hx xs xm xt xr xb xd x6 x7 : Nat} {code : Int32} {mk : Int64} {lfa lfi : Int32} {a : Int32} {hb : Nat} {σ : TrS} (h1 : ¬ a < 0 ∧ ¬ 15 < a) : Ct l Γ yX10_ask cX10_ask 3 (some .int) 6 [.ref hx, .int a, .int 1] (wXo hx xs xm xt xr xb xd x6 x7 (code) (mk) (lfa) (lfi) :: wBod Γ xd hb σ) (some (.int (s_mkV a))) (wXo hx xs xm xt xr xb xd x6 x7 (code) (mk) (lfa) (lfi) :: wBod Γ xd hb (s_mkT a (σ.1, 0))) := by
  refine Ct.of mi_X10_ask [some (.ref hx), some (.int a), some (.int 1)] 0 rfl (Nat.le_of_ble_eq_true rfl) ?_
  intro p e s m args below meth c C hr
  refine ww_iload_n (i := 1) C dX10_ask_0 rfl rfl 1 rfl ?_
  refine ww_callS1p C (c_X3_isFigure l Γ) mi_X3_isFigure st_X3_isFigure ml_X10_154 dX10_ask_1 (Nat.le_of_ble_eq_true rfl) (Nat.le_of_ble_eq_true rfl) (Nat.le_of_ble_eq_true rfl) ⟨Nat.zero_le _, Nat.zero_le _⟩ [] rfl (by decide) 4 rfl ?_
  refine ww_if_eq C 16 dX10_ask_4 (by decide) 7 rfl (fun h_4 => ?_) (fun h_4 => ?_)
  · exact absurd h1 (bI_e0 h_4)
  · skip
    refine ww_iload_n (i := 2) C dX10_ask_7 rfl rfl 8 rfl ?_
    refine ww_if_eq C 19 dX10_ask_8 (by decide) 11 rfl (fun h_8 => ?_) (fun h_8 => ?_)
    · exact absurd h_8 (by decide)
    · skip
      refine ww_iload_n (i := 2) C dX10_ask_11 rfl rfl 12 rfl ?_
      refine ww_iconst (v := 1) C dX10_ask_12 (by decide) 13 rfl ?_
      refine ww_icmp_eq C 19 dX10_ask_13 (by decide) 16 rfl (fun h_13 => ?_) (fun h_13 => ?_)
      · skip
        refine ww_aload_n (i := 0) C dX10_ask_19 rfl rfl 20 rfl ?_
        refine ww_get C fe_X10_46 dX10_ask_20 0 rfl rfl 23 rfl ?_
        refine ww_callV0v C (c_X0_emptyTrace l Γ) mi_X0_emptyTrace im_X0_emptyTrace se_X0_emptyTrace ml_X10_245 dX10_ask_23 1 rfl rfl rfl (Nat.le_of_ble_eq_true rfl) (Nat.le_of_ble_eq_true rfl) (Nat.le_of_ble_eq_true rfl) ⟨Nat.zero_le _, Nat.zero_le _⟩ [1, 2] rfl (by decide) rfl 26 rfl ?_
        refine ww_eq (ws' := wXo hx xs xm xt xr xb xd x6 x7 (code) (mk) (lfa) (lfi) :: wBod Γ xd hb (σ.1, 0)) rfl rfl rfl ?_
        refine ww_iload_n (i := 2) C dX10_ask_26 rfl rfl 27 rfl ?_
        refine ww_if_ne C 41 dX10_ask_27 (by decide) 30 rfl (fun h_27 => ?_) (fun h_27 => ?_)
        · skip
          refine ww_aload_n (i := 0) C dX10_ask_41 rfl rfl 42 rfl ?_
          refine ww_get C fe_X10_46 dX10_ask_42 0 rfl rfl 45 rfl ?_
          refine ww_iload_n (i := 1) C dX10_ask_45 rfl rfl 46 rfl ?_
          refine ww_callV1 C (c_X0_markOf l Γ (Nat.zero_le _)) mi_X0_markOf im_X0_markOf se_X0_markOf ml_X10_251 dX10_ask_46 1 rfl rfl rfl (Nat.le_of_ble_eq_true rfl) (Nat.le_of_ble_eq_true rfl) (Nat.le_of_ble_eq_true rfl) ⟨Nat.zero_le _, Nat.zero_le _⟩ [1, 2] rfl (by decide) rfl 49 rfl ?_
          exact ww_iret C hr dX10_ask_49 rfl rfl
        · exact absurd h_27 (by decide)
      · exact absurd h_13 (by decide)
theorem c_X10_trace (l : Launch) (Γ : Gm) {hx xs xm xt xr xb xd x6 x7 : Nat} {code : Int32} {mk : Int64} {lfa lfi : Int32} {a : Int32} {hb : Nat} {σ : TrS} (ht : σ.2 ≤ 16) : Ct l Γ yX10_trace cX10_trace 2 (some .int) 1 [.ref hx, .int a] (wXo hx xs xm xt xr xb xd x6 x7 (code) (mk) (lfa) (lfi) :: wBod Γ xd hb σ) (some (.int (if a < 0 then -1000000 else if nI σ.2 ≤ a then -1000000 else σ.1 a.toNatClampNeg))) (wXo hx xs xm xt xr xb xd x6 x7 (code) (mk) (lfa) (lfi) :: wBod Γ xd hb σ) := by
  refine Ct.of mi_X10_trace [some (.ref hx), some (.int a)] 0 rfl (Nat.le_of_ble_eq_true rfl) ?_
  intro p e s m args below meth c C hr
  refine ww_aload_n (i := 0) C dX10_trace_0 rfl rfl 1 rfl ?_
  refine ww_get C fe_X10_46 dX10_trace_1 0 rfl rfl 4 rfl ?_
  refine ww_iload_n (i := 1) C dX10_trace_4 rfl rfl 5 rfl ?_
  refine ww_callV1p C (c_X0_traced l Γ ht) mi_X0_traced im_X0_traced se_X0_traced ml_X10_254 dX10_trace_5 1 rfl rfl rfl (Nat.le_of_ble_eq_true rfl) (Nat.le_of_ble_eq_true rfl) (Nat.le_of_ble_eq_true rfl) ⟨Nat.zero_le _, Nat.zero_le _⟩ [1, 2] rfl (by decide) 8 rfl ?_
  exact ww_iret C hr dX10_trace_8 rfl rfl
theorem c_X10_set_bad (l : Launch) (Γ : Gm) {hx xs xm xt xr xb xd x6 x7 : Nat} {code : Int32} {mk : Int64} {lfa lfi : Int32} {s9 a v : Int32} (hb : s9 < 0 ∨ 8 ≤ s9) : Ct l Γ yX10_set cX10_set 5 (some .int) 5 [.ref hx, .int s9, .int a, .int v] ([wXo hx xs xm xt xr xb xd x6 x7 (code) (mk) (lfa) (lfi)]) (some (.int (-1000001))) ([wXo hx xs xm xt xr xb xd x6 x7 (code) (mk) (lfa) (lfi)]) := by
  refine Ct.of mi_X10_set [some (.ref hx), some (.int s9), some (.int a), some (.int v), none] 1 rfl (Nat.le_of_ble_eq_true rfl) ?_
  intro p e s m args below meth c C hr
  refine ww_iload_n (i := 1) C dX10_set_0 rfl rfl 1 rfl ?_
  refine ww_callS1p C (c_X10_isSheet l Γ) mi_X10_isSheet st_X10_isSheet ml_X10_81 dX10_set_1 (Nat.le_of_ble_eq_true rfl) (Nat.le_of_ble_eq_true rfl) (Nat.le_of_ble_eq_true rfl) ⟨Nat.zero_le _, Nat.zero_le _⟩ [] rfl (by decide) 4 rfl ?_
  refine ww_if_ne C 10 dX10_set_4 (by decide) 7 rfl (fun h_4 => ?_) (fun h_4 => ?_)
  · exact absurd (bI_n0 h_4) (bad_n hb)
  · skip
    refine ww_ldc C cn_X10_88 dX10_set_7 9 rfl ?_
    exact ww_iret C hr dX10_set_9 rfl rfl
theorem c_X10_drop_bad (l : Launch) (Γ : Gm) {hx xs xm xt xr xb xd x6 x7 : Nat} {code : Int32} {mk : Int64} {lfa lfi : Int32} {s9  : Int32} (hb : s9 < 0 ∨ 8 ≤ s9) : Ct l Γ yX10_drop cX10_drop 3 (some .int) 5 [.ref hx, .int s9] ([wXo hx xs xm xt xr xb xd x6 x7 (code) (mk) (lfa) (lfi)]) (some (.int (-1000001))) ([wXo hx xs xm xt xr xb xd x6 x7 (code) (mk) (lfa) (lfi)]) := by
  refine Ct.of mi_X10_drop [some (.ref hx), some (.int s9), none] 1 rfl (Nat.le_of_ble_eq_true rfl) ?_
  intro p e s m args below meth c C hr
  refine ww_iload_n (i := 1) C dX10_drop_0 rfl rfl 1 rfl ?_
  refine ww_callS1p C (c_X10_isSheet l Γ) mi_X10_isSheet st_X10_isSheet ml_X10_81 dX10_drop_1 (Nat.le_of_ble_eq_true rfl) (Nat.le_of_ble_eq_true rfl) (Nat.le_of_ble_eq_true rfl) ⟨Nat.zero_le _, Nat.zero_le _⟩ [] rfl (by decide) 4 rfl ?_
  refine ww_if_ne C 10 dX10_drop_4 (by decide) 7 rfl (fun h_4 => ?_) (fun h_4 => ?_)
  · exact absurd (bI_n0 h_4) (bad_n hb)
  · skip
    refine ww_ldc C cn_X10_88 dX10_drop_7 9 rfl ?_
    exact ww_iret C hr dX10_drop_9 rfl rfl
theorem c_X10_cast_bad (l : Launch) (Γ : Gm) {hx xs xm xt xr xb xd x6 x7 : Nat} {code : Int32} {mk : Int64} {lfa lfi : Int32} {s9 a : Int32} (hb : s9 < 0 ∨ 8 ≤ s9) : Ct l Γ yX10_cast cX10_cast 4 (some .int) 5 [.ref hx, .int s9, .int a] ([wXo hx xs xm xt xr xb xd x6 x7 (code) (mk) (lfa) (lfi)]) (some (.int (-1000001))) ([wXo hx xs xm xt xr xb xd x6 x7 (code) (mk) (lfa) (lfi)]) := by
  refine Ct.of mi_X10_cast [some (.ref hx), some (.int s9), some (.int a), none] 1 rfl (Nat.le_of_ble_eq_true rfl) ?_
  intro p e s m args below meth c C hr
  refine ww_iload_n (i := 1) C dX10_cast_0 rfl rfl 1 rfl ?_
  refine ww_callS1p C (c_X10_isSheet l Γ) mi_X10_isSheet st_X10_isSheet ml_X10_81 dX10_cast_1 (Nat.le_of_ble_eq_true rfl) (Nat.le_of_ble_eq_true rfl) (Nat.le_of_ble_eq_true rfl) ⟨Nat.zero_le _, Nat.zero_le _⟩ [] rfl (by decide) 4 rfl ?_
  refine ww_if_ne C 10 dX10_cast_4 (by decide) 7 rfl (fun h_4 => ?_) (fun h_4 => ?_)
  · exact absurd (bI_n0 h_4) (bad_n hb)
  · skip
    refine ww_ldc C cn_X10_88 dX10_cast_7 9 rfl ?_
    exact ww_iret C hr dX10_cast_9 rfl rfl
theorem c_X10_sheet_bad (l : Launch) (Γ : Gm) {hx xs xm xt xr xb xd x6 x7 : Nat} {code : Int32} {mk : Int64} {lfa lfi : Int32} {s9 l9 n9 : Int32} (hb : (s9 < 0 ∨ 8 ≤ s9) ∨ ¬ (¬ l9 < 0 ∧ ¬ 2 < l9) ∨ ¬ n9 ≤ 60) : Ct l Γ yX10_sheet cX10_sheet 4 (some .int) 5 [.ref hx, .int s9, .int l9, .int n9] ([wXo hx xs xm xt xr xb xd x6 x7 (code) (mk) (lfa) (lfi)]) (some (.int (-1000001))) ([wXo hx xs xm xt xr xb xd x6 x7 (code) (mk) (lfa) (lfi)]) := by
  refine Ct.of mi_X10_sheet [some (.ref hx), some (.int s9), some (.int l9), some (.int n9)] 0 rfl (Nat.le_of_ble_eq_true rfl) ?_
  intro p e s m args below meth c C hr
  refine ww_iload_n (i := 1) C dX10_sheet_0 rfl rfl 1 rfl ?_
  refine ww_callS1p C (c_X10_isSheet l Γ) mi_X10_isSheet st_X10_isSheet ml_X10_81 dX10_sheet_1 (Nat.le_of_ble_eq_true rfl) (Nat.le_of_ble_eq_true rfl) (Nat.le_of_ble_eq_true rfl) ⟨Nat.zero_le _, Nat.zero_le _⟩ [] rfl (by decide) 4 rfl ?_
  refine ww_if_eq C 20 dX10_sheet_4 (by decide) 7 rfl (fun h_4 => ?_) (fun h_4 => ?_)
  · skip
    refine ww_ldc C cn_X10_88 dX10_sheet_20 22 rfl ?_
    exact ww_iret C hr dX10_sheet_22 rfl rfl
  · skip
    refine ww_iload_n (i := 2) C dX10_sheet_7 rfl rfl 8 rfl ?_
    refine ww_callS1p C (c_X7_isLane l Γ) mi_X7_isLane st_X7_isLane ml_X10_85 dX10_sheet_8 (Nat.le_of_ble_eq_true rfl) (Nat.le_of_ble_eq_true rfl) (Nat.le_of_ble_eq_true rfl) ⟨Nat.zero_le _, Nat.zero_le _⟩ [] rfl (by decide) 11 rfl ?_
    refine ww_if_eq C 20 dX10_sheet_11 (by decide) 14 rfl (fun h_11 => ?_) (fun h_11 => ?_)
    · skip
      refine ww_ldc C cn_X10_88 dX10_sheet_20 22 rfl ?_
      exact ww_iret C hr dX10_sheet_22 rfl rfl
    · skip
      refine ww_iload_n (i := 3) C dX10_sheet_14 rfl rfl 15 rfl ?_
      refine ww_bipush (v := 60) C dX10_sheet_15 (by decide) 17 rfl ?_
      refine ww_icmp_le C 23 dX10_sheet_17 (by decide) 20 rfl (fun h_17 => ?_) (fun h_17 => ?_)
      · exact absurd hb (fun q => q.elim (fun z => bad_n z (bI_n0 h_4)) (fun z => z.elim (fun y => y (bI_n0 h_11)) (fun y => y h_17)))
      · skip
        refine ww_ldc C cn_X10_88 dX10_sheet_20 22 rfl ?_
        exact ww_iret C hr dX10_sheet_22 rfl rfl
theorem c_X10_sheet_size (l : Launch) (Γ : Gm) {hx xs xm xt xr xb xd x6 x7 : Nat} {code : Int32} {mk : Int64} {lfa lfi : Int32} {j : Nat} {l9 n9 : Int32} (hj : j < 8) (hl : ¬ l9 < 0 ∧ ¬ 2 < l9) (hn : n9 < 0) : Ct l Γ yX10_sheet cX10_sheet 4 (some .int) 5 [.ref hx, .int (nI j), .int l9, .int n9] ([wXo hx xs xm xt xr xb xd x6 x7 (code) (mk) (lfa) (lfi)]) (some (.int (-1000014))) ([wXo hx xs xm xt xr xb xd x6 x7 (code) (mk) (lfa) (4)]) := by
  refine Ct.of mi_X10_sheet [some (.ref hx), some (.int (nI j)), some (.int l9), some (.int n9)] 0 rfl (Nat.le_of_ble_eq_true rfl) ?_
  intro p e s m args below meth c C hr
  refine ww_iload_n (i := 1) C dX10_sheet_0 rfl rfl 1 rfl ?_
  refine ww_callS1p C (c_X10_isSheet l Γ) mi_X10_isSheet st_X10_isSheet ml_X10_81 dX10_sheet_1 (Nat.le_of_ble_eq_true rfl) (Nat.le_of_ble_eq_true rfl) (Nat.le_of_ble_eq_true rfl) ⟨Nat.zero_le _, Nat.zero_le _⟩ [] rfl (by decide) 4 rfl ?_
  refine ww_if_eq C 20 dX10_sheet_4 (by decide) 7 rfl (fun h_4 => ?_) (fun h_4 => ?_)
  · exact absurd (ok_lt rfl hj (by decide)) (bI_e0 h_4)
  · skip
    refine ww_iload_n (i := 2) C dX10_sheet_7 rfl rfl 8 rfl ?_
    refine ww_callS1p C (c_X7_isLane l Γ) mi_X7_isLane st_X7_isLane ml_X10_85 dX10_sheet_8 (Nat.le_of_ble_eq_true rfl) (Nat.le_of_ble_eq_true rfl) (Nat.le_of_ble_eq_true rfl) ⟨Nat.zero_le _, Nat.zero_le _⟩ [] rfl (by decide) 11 rfl ?_
    refine ww_if_eq C 20 dX10_sheet_11 (by decide) 14 rfl (fun h_11 => ?_) (fun h_11 => ?_)
    · exact absurd hl (bI_e0 h_11)
    · skip
      refine ww_iload_n (i := 3) C dX10_sheet_14 rfl rfl 15 rfl ?_
      refine ww_bipush (v := 60) C dX10_sheet_15 (by decide) 17 rfl ?_
      refine ww_icmp_le C 23 dX10_sheet_17 (by decide) 20 rfl (fun h_17 => ?_) (fun h_17 => ?_)
      · skip
        refine ww_iload_n (i := 3) C dX10_sheet_23 rfl rfl 24 rfl ?_
        refine ww_if_ge C 33 dX10_sheet_24 (by decide) 27 rfl (fun h_24 => ?_) (fun h_24 => ?_)
        · exact absurd h_24 (Int32.not_le.mpr hn)
        · skip
          refine ww_aload_n (i := 0) C dX10_sheet_27 rfl rfl 28 rfl ?_
          refine ww_iconst (v := 4) C dX10_sheet_28 (by decide) 29 rfl ?_
          refine ww_callV1 C (c_X10_found l Γ) mi_X10_found im_X10_found se_X10_found ml_X10_89 dX10_sheet_29 0 rfl rfl rfl (Nat.le_of_ble_eq_true rfl) (Nat.le_of_ble_eq_true rfl) (Nat.le_of_ble_eq_true rfl) ⟨Nat.zero_le _, Nat.zero_le _⟩ [0] rfl (by decide) rfl 32 rfl ?_
          exact ww_iret C hr dX10_sheet_32 rfl rfl
      · exact absurd (Int32.le_of_lt (Int32.lt_trans hn (by decide))) h_17
theorem c_X10_sheet_ok (l : Launch) (Γ : Gm) {hx xs xm xt xr xb xd x6 x7 : Nat} {code : Int32} {mk : Int64} {lfa lfi : Int32} {f : Nat → Option Nat} {h0 hi sz j : Nat} {lane : Int32} {it : Nat → Int32} {l9 : Int32} {n : Nat} (hj : j < 8) (hf : f j = some h0) (hl : ¬ l9 < 0 ∧ ¬ 2 < l9) (hn : n ≤ 60) : Ct l Γ yX10_sheet cX10_sheet 4 (some .int) 5 [.ref hx, .int (nI j), .int l9, .int (nI n)] ([wXo hx xs xm xt xr xb xd x6 x7 (code) (mk) (lfa) (lfi), (xs, .inl (Γ.2.2.2, 8, .inr (.inr (.inr (.inr f))))), (h0, .inr (5, [.ref hi, .int (lane), .int (nI (sz))])), (hi, .inl (Γ.2.1, 60, .inl (it)))]) (some (.int (nI n))) ([wXo hx xs xm xt xr xb xd x6 x7 (code) (mk) (lfa) (0), (xs, .inl (Γ.2.2.2, 8, .inr (.inr (.inr (.inr f))))), (h0, .inr (5, [.ref hi, .int (l9), .int (nI (n))])), (hi, .inl (Γ.2.1, 60, .inl (s_zf it 60)))]) := by
  refine Ct.of mi_X10_sheet [some (.ref hx), some (.int (nI j)), some (.int l9), some (.int (nI n))] 0 rfl (Nat.le_of_ble_eq_true rfl) ?_
  intro p e s m args below meth c C hr
  refine ww_iload_n (i := 1) C dX10_sheet_0 rfl rfl 1 rfl ?_
  refine ww_callS1p C (c_X10_isSheet l Γ) mi_X10_isSheet st_X10_isSheet ml_X10_81 dX10_sheet_1 (Nat.le_of_ble_eq_true rfl) (Nat.le_of_ble_eq_true rfl) (Nat.le_of_ble_eq_true rfl) ⟨Nat.zero_le _, Nat.zero_le _⟩ [] rfl (by decide) 4 rfl ?_
  refine ww_if_eq C 20 dX10_sheet_4 (by decide) 7 rfl (fun h_4 => ?_) (fun h_4 => ?_)
  · exact absurd (ok_lt rfl hj (by decide)) (bI_e0 h_4)
  · skip
    refine ww_iload_n (i := 2) C dX10_sheet_7 rfl rfl 8 rfl ?_
    refine ww_callS1p C (c_X7_isLane l Γ) mi_X7_isLane st_X7_isLane ml_X10_85 dX10_sheet_8 (Nat.le_of_ble_eq_true rfl) (Nat.le_of_ble_eq_true rfl) (Nat.le_of_ble_eq_true rfl) ⟨Nat.zero_le _, Nat.zero_le _⟩ [] rfl (by decide) 11 rfl ?_
    refine ww_if_eq C 20 dX10_sheet_11 (by decide) 14 rfl (fun h_11 => ?_) (fun h_11 => ?_)
    · exact absurd hl (bI_e0 h_11)
    · skip
      refine ww_iload_n (i := 3) C dX10_sheet_14 rfl rfl 15 rfl ?_
      refine ww_bipush (v := 60) C dX10_sheet_15 (by decide) 17 rfl ?_
      refine ww_icmp_le C 23 dX10_sheet_17 (by decide) 20 rfl (fun h_17 => ?_) (fun h_17 => ?_)
      · skip
        refine ww_iload_n (i := 3) C dX10_sheet_23 rfl rfl 24 rfl ?_
        refine ww_if_ge C 33 dX10_sheet_24 (by decide) 27 rfl (fun h_24 => ?_) (fun h_24 => ?_)
        · skip
          refine ww_aload_n (i := 0) C dX10_sheet_33 rfl rfl 34 rfl ?_
          refine ww_get C fe_X10_11 dX10_sheet_34 0 rfl rfl 37 rfl ?_
          refine ww_iload_n (i := 1) C dX10_sheet_37 rfl rfl 38 rfl ?_
          refine ww_aald C dX10_sheet_38 1 rfl (vp_in_nI hj (by decide)) (by rw [nI_clamp (by omega)]; exact hf) 39 rfl ?_
          refine ww_iload_n (i := 2) C dX10_sheet_39 rfl rfl 40 rfl ?_
          refine ww_iload_n (i := 3) C dX10_sheet_40 rfl rfl 41 rfl ?_
          refine ww_callV2v C (c_X7_begin l Γ) mi_X7_begin im_X7_begin se_X7_begin ml_X10_93 dX10_sheet_41 2 rfl rfl rfl (Nat.le_of_ble_eq_true rfl) (Nat.le_of_ble_eq_true rfl) (Nat.le_of_ble_eq_true rfl) ⟨Nat.zero_le _, Nat.zero_le _⟩ [2, 3] rfl (by decide) rfl 44 rfl ?_
          refine ww_eq (ws' := [wXo hx xs xm xt xr xb xd x6 x7 (code) (mk) (lfa) (lfi), (xs, .inl (Γ.2.2.2, 8, .inr (.inr (.inr (.inr f))))), (h0, .inr (5, [.ref hi, .int (l9), .int (nI (n))])), (hi, .inl (Γ.2.1, 60, .inl (s_zf it 60)))]) rfl rfl rfl ?_
          refine ww_aload_n (i := 0) C dX10_sheet_44 rfl rfl 45 rfl ?_
          refine ww_iload_n (i := 3) C dX10_sheet_45 rfl rfl 46 rfl ?_
          refine ww_callV1 C (c_X10_done l Γ) mi_X10_done im_X10_done se_X10_done ml_X10_97 dX10_sheet_46 0 rfl rfl rfl (Nat.le_of_ble_eq_true rfl) (Nat.le_of_ble_eq_true rfl) (Nat.le_of_ble_eq_true rfl) ⟨Nat.zero_le _, Nat.zero_le _⟩ [0] rfl (by decide) rfl 49 rfl ?_
          exact ww_iret C hr dX10_sheet_49 rfl rfl
        · exact absurd (nI_pos' (by omega)) h_24
      · exact absurd (nI_le (b := 60) hn (by decide)) h_17
theorem c_X10_set_no (l : Launch) (Γ : Gm) {hx xs xm xt xr xb xd x6 x7 : Nat} {code : Int32} {mk : Int64} {lfa lfi : Int32} {f : Nat → Option Nat} {h0 hi sz j : Nat} {lane : Int32} {it : Nat → Int32} {a v g : Int32} (hj : j < 8) (hf : f j = some h0) (hg : s_find lane sz a 1 = g) (hg0 : ¬ g = 0) : Ct l Γ yX10_set cX10_set 5 (some .int) 5 [.ref hx, .int (nI j), .int a, .int v] ([wXo hx xs xm xt xr xb xd x6 x7 (code) (mk) (lfa) (lfi), (xs, .inl (Γ.2.2.2, 8, .inr (.inr (.inr (.inr f))))), (h0, .inr (5, [.ref hi, .int (lane), .int (nI (sz))])), (hi, .inl (Γ.2.1, 60, .inl (it)))]) (some (.int (-1000010 - g))) ([wXo hx xs xm xt xr xb xd x6 x7 (code) (mk) (lfa) (g), (xs, .inl (Γ.2.2.2, 8, .inr (.inr (.inr (.inr f))))), (h0, .inr (5, [.ref hi, .int (lane), .int (nI (sz))])), (hi, .inl (Γ.2.1, 60, .inl (it)))]) := by
  refine Ct.of mi_X10_set [some (.ref hx), some (.int (nI j)), some (.int a), some (.int v), none] 1 rfl (Nat.le_of_ble_eq_true rfl) ?_
  intro p e s m args below meth c C hr
  refine ww_iload_n (i := 1) C dX10_set_0 rfl rfl 1 rfl ?_
  refine ww_callS1p C (c_X10_isSheet l Γ) mi_X10_isSheet st_X10_isSheet ml_X10_81 dX10_set_1 (Nat.le_of_ble_eq_true rfl) (Nat.le_of_ble_eq_true rfl) (Nat.le_of_ble_eq_true rfl) ⟨Nat.zero_le _, Nat.zero_le _⟩ [] rfl (by decide) 4 rfl ?_
  refine ww_if_ne C 10 dX10_set_4 (by decide) 7 rfl (fun h_4 => ?_) (fun h_4 => ?_)
  · skip
    refine ww_aload_n (i := 0) C dX10_set_10 rfl rfl 11 rfl ?_
    refine ww_get C fe_X10_11 dX10_set_11 0 rfl rfl 14 rfl ?_
    refine ww_iload_n (i := 1) C dX10_set_14 rfl rfl 15 rfl ?_
    refine ww_aald C dX10_set_15 1 rfl (vp_in_nI hj (by decide)) (by rw [nI_clamp (by omega)]; exact hf) 16 rfl ?_
    refine ww_iload_n (i := 2) C dX10_set_16 rfl rfl 17 rfl ?_
    refine ww_iconst (v := 1) C dX10_set_17 (by decide) 18 rfl ?_
    refine ww_callV2p C (c_X7_findingOf l Γ) mi_X7_findingOf im_X7_findingOf se_X7_findingOf ml_X10_100 dX10_set_18 2 rfl rfl rfl (Nat.le_of_ble_eq_true rfl) (Nat.le_of_ble_eq_true rfl) (Nat.le_of_ble_eq_true rfl) ⟨Nat.zero_le _, Nat.zero_le _⟩ [2] rfl (by decide) 21 rfl ?_
    refine ww_istore C dX10_set_21 (by decide) rfl 23 rfl ?_
    refine ww_iload C dX10_set_23 rfl 25 rfl ?_
    refine ww_if_eq C 35 dX10_set_25 (by decide) 28 rfl (fun h_25 => ?_) (fun h_25 => ?_)
    · exact absurd h_25 (by rw [hg]; exact hg0)
    · skip
      refine ww_aload_n (i := 0) C dX10_set_28 rfl rfl 29 rfl ?_
      refine ww_iload C dX10_set_29 rfl 31 rfl ?_
      refine ww_callV1 C (c_X10_found l Γ) mi_X10_found im_X10_found se_X10_found ml_X10_89 dX10_set_31 0 rfl rfl rfl (Nat.le_of_ble_eq_true rfl) (Nat.le_of_ble_eq_true rfl) (Nat.le_of_ble_eq_true rfl) ⟨Nat.zero_le _, Nat.zero_le _⟩ [0] rfl (by decide) rfl 34 rfl ?_
      exact ww_iret C hr dX10_set_34 (by rw [hg]) (by rw [← hg]; rfl)
  · exact absurd (ok_lt rfl hj (by decide)) (bI_e0 h_4)
theorem c_X10_set_ok (l : Launch) (Γ : Gm) {hx xs xm xt xr xb xd x6 x7 : Nat} {code : Int32} {mk : Int64} {lfa lfi : Int32} {f : Nat → Option Nat} {h0 hi sz j : Nat} {lane : Int32} {it : Nat → Int32} {a : Nat} {v : Int32} (hj : j < 8) (hf : f j = some h0) (hl : ¬ lane = -1) (ha : a < sz) (hs : sz ≤ 60) : Ct l Γ yX10_set cX10_set 5 (some .int) 5 [.ref hx, .int (nI j), .int (nI a), .int v] ([wXo hx xs xm xt xr xb xd x6 x7 (code) (mk) (lfa) (lfi), (xs, .inl (Γ.2.2.2, 8, .inr (.inr (.inr (.inr f))))), (h0, .inr (5, [.ref hi, .int (lane), .int (nI (sz))])), (hi, .inl (Γ.2.1, 60, .inl (it)))]) (some (.int (s_nar lane v))) ([wXo hx xs xm xt xr xb xd x6 x7 (code) (mk) (lfa) (0), (xs, .inl (Γ.2.2.2, 8, .inr (.inr (.inr (.inr f))))), (h0, .inr (5, [.ref hi, .int (lane), .int (nI (sz))])), (hi, .inl (Γ.2.1, 60, .inl (upd it a (s_nar lane v))))]) := by
  refine Ct.of mi_X10_set [some (.ref hx), some (.int (nI j)), some (.int (nI a)), some (.int v), none] 1 rfl (Nat.le_of_ble_eq_true rfl) ?_
  intro p e s m args below meth c C hr
  have hfi : s_find lane sz (nI a) 1 = 0 := by rw [s_find, if_neg hl]; exact if_pos (s_has_n (k := 1) hs (by omega))
  refine ww_iload_n (i := 1) C dX10_set_0 rfl rfl 1 rfl ?_
  refine ww_callS1p C (c_X10_isSheet l Γ) mi_X10_isSheet st_X10_isSheet ml_X10_81 dX10_set_1 (Nat.le_of_ble_eq_true rfl) (Nat.le_of_ble_eq_true rfl) (Nat.le_of_ble_eq_true rfl) ⟨Nat.zero_le _, Nat.zero_le _⟩ [] rfl (by decide) 4 rfl ?_
  refine ww_if_ne C 10 dX10_set_4 (by decide) 7 rfl (fun h_4 => ?_) (fun h_4 => ?_)
  · skip
    refine ww_aload_n (i := 0) C dX10_set_10 rfl rfl 11 rfl ?_
    refine ww_get C fe_X10_11 dX10_set_11 0 rfl rfl 14 rfl ?_
    refine ww_iload_n (i := 1) C dX10_set_14 rfl rfl 15 rfl ?_
    refine ww_aald C dX10_set_15 1 rfl (vp_in_nI hj (by decide)) (by rw [nI_clamp (by omega)]; exact hf) 16 rfl ?_
    refine ww_iload_n (i := 2) C dX10_set_16 rfl rfl 17 rfl ?_
    refine ww_iconst (v := 1) C dX10_set_17 (by decide) 18 rfl ?_
    refine ww_callV2p C (c_X7_findingOf l Γ) mi_X7_findingOf im_X7_findingOf se_X7_findingOf ml_X10_100 dX10_set_18 2 rfl rfl rfl (Nat.le_of_ble_eq_true rfl) (Nat.le_of_ble_eq_true rfl) (Nat.le_of_ble_eq_true rfl) ⟨Nat.zero_le _, Nat.zero_le _⟩ [2] rfl (by decide) 21 rfl ?_
    refine ww_istore C dX10_set_21 (by decide) rfl 23 rfl ?_
    refine ww_iload C dX10_set_23 rfl 25 rfl ?_
    refine ww_if_eq C 35 dX10_set_25 (by decide) 28 rfl (fun h_25 => ?_) (fun h_25 => ?_)
    · skip
      refine ww_aload_n (i := 0) C dX10_set_35 rfl rfl 36 rfl ?_
      refine ww_aload_n (i := 0) C dX10_set_36 rfl rfl 37 rfl ?_
      refine ww_get C fe_X10_11 dX10_set_37 0 rfl rfl 40 rfl ?_
      refine ww_iload_n (i := 1) C dX10_set_40 rfl rfl 41 rfl ?_
      refine ww_aald C dX10_set_41 1 rfl (vp_in_nI hj (by decide)) (by rw [nI_clamp (by omega)]; exact hf) 42 rfl ?_
      refine ww_iload_n (i := 2) C dX10_set_42 rfl rfl 43 rfl ?_
      refine ww_iload_n (i := 3) C dX10_set_43 rfl rfl 44 rfl ?_
      refine ww_callV2 C (c_X7_put l Γ ha hs) mi_X7_put im_X7_put se_X7_put ml_X10_104 dX10_set_44 2 rfl rfl rfl (Nat.le_of_ble_eq_true rfl) (Nat.le_of_ble_eq_true rfl) (Nat.le_of_ble_eq_true rfl) ⟨Nat.zero_le _, Nat.zero_le _⟩ [2, 3] rfl (by decide) rfl 47 rfl ?_
      refine ww_eq (ws' := [wXo hx xs xm xt xr xb xd x6 x7 (code) (mk) (lfa) (lfi), (xs, .inl (Γ.2.2.2, 8, .inr (.inr (.inr (.inr f))))), (h0, .inr (5, [.ref hi, .int (lane), .int (nI (sz))])), (hi, .inl (Γ.2.1, 60, .inl (upd it a (s_nar lane v))))]) rfl rfl rfl ?_
      refine ww_callV1 C (c_X10_done l Γ) mi_X10_done im_X10_done se_X10_done ml_X10_97 dX10_set_47 0 rfl rfl rfl (Nat.le_of_ble_eq_true rfl) (Nat.le_of_ble_eq_true rfl) (Nat.le_of_ble_eq_true rfl) ⟨Nat.zero_le _, Nat.zero_le _⟩ [0] rfl (by decide) rfl 50 rfl ?_
      exact ww_iret C hr dX10_set_50 rfl rfl
    · exact absurd hfi h_25
  · exact absurd (ok_lt rfl hj (by decide)) (bI_e0 h_4)
theorem c_X10_drop_no (l : Launch) (Γ : Gm) {hx xs xm xt xr xb xd x6 x7 : Nat} {code : Int32} {mk : Int64} {lfa lfi : Int32} {f : Nat → Option Nat} {h0 hi sz j : Nat} {lane : Int32} {it : Nat → Int32} (hj : j < 8) (hf : f j = some h0) (hl : lane = -1) : Ct l Γ yX10_drop cX10_drop 3 (some .int) 5 [.ref hx, .int (nI j)] ([wXo hx xs xm xt xr xb xd x6 x7 (code) (mk) (lfa) (lfi), (xs, .inl (Γ.2.2.2, 8, .inr (.inr (.inr (.inr f))))), (h0, .inr (5, [.ref hi, .int (lane), .int (nI (sz))])), (hi, .inl (Γ.2.1, 60, .inl (it)))]) (some (.int (-1000011))) ([wXo hx xs xm xt xr xb xd x6 x7 (code) (mk) (lfa) (1), (xs, .inl (Γ.2.2.2, 8, .inr (.inr (.inr (.inr f))))), (h0, .inr (5, [.ref hi, .int (lane), .int (nI (sz))])), (hi, .inl (Γ.2.1, 60, .inl (it)))]) := by
  refine Ct.of mi_X10_drop [some (.ref hx), some (.int (nI j)), none] 1 rfl (Nat.le_of_ble_eq_true rfl) ?_
  intro p e s m args below meth c C hr
  refine ww_iload_n (i := 1) C dX10_drop_0 rfl rfl 1 rfl ?_
  refine ww_callS1p C (c_X10_isSheet l Γ) mi_X10_isSheet st_X10_isSheet ml_X10_81 dX10_drop_1 (Nat.le_of_ble_eq_true rfl) (Nat.le_of_ble_eq_true rfl) (Nat.le_of_ble_eq_true rfl) ⟨Nat.zero_le _, Nat.zero_le _⟩ [] rfl (by decide) 4 rfl ?_
  refine ww_if_ne C 10 dX10_drop_4 (by decide) 7 rfl (fun h_4 => ?_) (fun h_4 => ?_)
  · skip
    refine ww_aload_n (i := 0) C dX10_drop_10 rfl rfl 11 rfl ?_
    refine ww_get C fe_X10_11 dX10_drop_11 0 rfl rfl 14 rfl ?_
    refine ww_iload_n (i := 1) C dX10_drop_14 rfl rfl 15 rfl ?_
    refine ww_aald C dX10_drop_15 1 rfl (vp_in_nI hj (by decide)) (by rw [nI_clamp (by omega)]; exact hf) 16 rfl ?_
    refine ww_callV0p C (c_X7_isMissing l Γ) mi_X7_isMissing im_X7_isMissing se_X7_isMissing ml_X10_107 dX10_drop_16 2 rfl rfl rfl (Nat.le_of_ble_eq_true rfl) (Nat.le_of_ble_eq_true rfl) (Nat.le_of_ble_eq_true rfl) ⟨Nat.zero_le _, Nat.zero_le _⟩ [2] rfl (by decide) 19 rfl ?_
    refine ww_if_eq C 28 dX10_drop_19 (by decide) 22 rfl (fun h_19 => ?_) (fun h_19 => ?_)
    · exact absurd hl (bI_e0 h_19)
    · skip
      refine ww_aload_n (i := 0) C dX10_drop_22 rfl rfl 23 rfl ?_
      refine ww_iconst (v := 1) C dX10_drop_23 (by decide) 24 rfl ?_
      refine ww_callV1 C (c_X10_found l Γ) mi_X10_found im_X10_found se_X10_found ml_X10_89 dX10_drop_24 0 rfl rfl rfl (Nat.le_of_ble_eq_true rfl) (Nat.le_of_ble_eq_true rfl) (Nat.le_of_ble_eq_true rfl) ⟨Nat.zero_le _, Nat.zero_le _⟩ [0] rfl (by decide) rfl 27 rfl ?_
      exact ww_iret C hr dX10_drop_27 rfl rfl
  · exact absurd (ok_lt rfl hj (by decide)) (bI_e0 h_4)
theorem c_X10_drop_ok (l : Launch) (Γ : Gm) {hx xs xm xt xr xb xd x6 x7 : Nat} {code : Int32} {mk : Int64} {lfa lfi : Int32} {f : Nat → Option Nat} {h0 hi sz j : Nat} {lane : Int32} {it : Nat → Int32} (hj : j < 8) (hf : f j = some h0) (hl : ¬ lane = -1) : Ct l Γ yX10_drop cX10_drop 3 (some .int) 5 [.ref hx, .int (nI j)] ([wXo hx xs xm xt xr xb xd x6 x7 (code) (mk) (lfa) (lfi), (xs, .inl (Γ.2.2.2, 8, .inr (.inr (.inr (.inr f))))), (h0, .inr (5, [.ref hi, .int (lane), .int (nI (sz))])), (hi, .inl (Γ.2.1, 60, .inl (it)))]) (some (.int (nI sz))) ([wXo hx xs xm xt xr xb xd x6 x7 (code) (mk) (lfa) (0), (xs, .inl (Γ.2.2.2, 8, .inr (.inr (.inr (.inr f))))), (h0, .inr (5, [.ref hi, .int (-1), .int (nI (0))])), (hi, .inl (Γ.2.1, 60, .inl (it)))]) := by
  refine Ct.of mi_X10_drop [some (.ref hx), some (.int (nI j)), none] 1 rfl (Nat.le_of_ble_eq_true rfl) ?_
  intro p e s m args below meth c C hr
  refine ww_iload_n (i := 1) C dX10_drop_0 rfl rfl 1 rfl ?_
  refine ww_callS1p C (c_X10_isSheet l Γ) mi_X10_isSheet st_X10_isSheet ml_X10_81 dX10_drop_1 (Nat.le_of_ble_eq_true rfl) (Nat.le_of_ble_eq_true rfl) (Nat.le_of_ble_eq_true rfl) ⟨Nat.zero_le _, Nat.zero_le _⟩ [] rfl (by decide) 4 rfl ?_
  refine ww_if_ne C 10 dX10_drop_4 (by decide) 7 rfl (fun h_4 => ?_) (fun h_4 => ?_)
  · skip
    refine ww_aload_n (i := 0) C dX10_drop_10 rfl rfl 11 rfl ?_
    refine ww_get C fe_X10_11 dX10_drop_11 0 rfl rfl 14 rfl ?_
    refine ww_iload_n (i := 1) C dX10_drop_14 rfl rfl 15 rfl ?_
    refine ww_aald C dX10_drop_15 1 rfl (vp_in_nI hj (by decide)) (by rw [nI_clamp (by omega)]; exact hf) 16 rfl ?_
    refine ww_callV0p C (c_X7_isMissing l Γ) mi_X7_isMissing im_X7_isMissing se_X7_isMissing ml_X10_107 dX10_drop_16 2 rfl rfl rfl (Nat.le_of_ble_eq_true rfl) (Nat.le_of_ble_eq_true rfl) (Nat.le_of_ble_eq_true rfl) ⟨Nat.zero_le _, Nat.zero_le _⟩ [2] rfl (by decide) 19 rfl ?_
    refine ww_if_eq C 28 dX10_drop_19 (by decide) 22 rfl (fun h_19 => ?_) (fun h_19 => ?_)
    · skip
      refine ww_aload_n (i := 0) C dX10_drop_28 rfl rfl 29 rfl ?_
      refine ww_get C fe_X10_11 dX10_drop_29 0 rfl rfl 32 rfl ?_
      refine ww_iload_n (i := 1) C dX10_drop_32 rfl rfl 33 rfl ?_
      refine ww_aald C dX10_drop_33 1 rfl (vp_in_nI hj (by decide)) (by rw [nI_clamp (by omega)]; exact hf) 34 rfl ?_
      refine ww_get C fe_X10_128 dX10_drop_34 2 rfl rfl 37 rfl ?_
      refine ww_istore_n (i := 2) C dX10_drop_37 rfl (by decide) rfl 38 rfl ?_
      refine ww_aload_n (i := 0) C dX10_drop_38 rfl rfl 39 rfl ?_
      refine ww_get C fe_X10_11 dX10_drop_39 0 rfl rfl 42 rfl ?_
      refine ww_iload_n (i := 1) C dX10_drop_42 rfl rfl 43 rfl ?_
      refine ww_aald C dX10_drop_43 1 rfl (vp_in_nI hj (by decide)) (by rw [nI_clamp (by omega)]; exact hf) 44 rfl ?_
      refine ww_callV0v C (c_X7_forget l Γ) mi_X7_forget im_X7_forget se_X7_forget ml_X10_131 dX10_drop_44 2 rfl rfl rfl (Nat.le_of_ble_eq_true rfl) (Nat.le_of_ble_eq_true rfl) (Nat.le_of_ble_eq_true rfl) ⟨Nat.zero_le _, Nat.zero_le _⟩ [2] rfl (by decide) rfl 47 rfl ?_
      refine ww_eq (ws' := [wXo hx xs xm xt xr xb xd x6 x7 (code) (mk) (lfa) (lfi), (xs, .inl (Γ.2.2.2, 8, .inr (.inr (.inr (.inr f))))), (h0, .inr (5, [.ref hi, .int (-1), .int (nI (0))])), (hi, .inl (Γ.2.1, 60, .inl (it)))]) rfl rfl rfl ?_
      refine ww_aload_n (i := 0) C dX10_drop_47 rfl rfl 48 rfl ?_
      refine ww_iload_n (i := 2) C dX10_drop_48 rfl rfl 49 rfl ?_
      refine ww_callV1 C (c_X10_done l Γ) mi_X10_done im_X10_done se_X10_done ml_X10_97 dX10_drop_49 0 rfl rfl rfl (Nat.le_of_ble_eq_true rfl) (Nat.le_of_ble_eq_true rfl) (Nat.le_of_ble_eq_true rfl) ⟨Nat.zero_le _, Nat.zero_le _⟩ [0] rfl (by decide) rfl 52 rfl ?_
      exact ww_iret C hr dX10_drop_52 rfl rfl
    · exact absurd (bI_n0 h_19) hl
  · exact absurd (ok_lt rfl hj (by decide)) (bI_e0 h_4)
theorem c_X10_cast_no (l : Launch) (Γ : Gm) {hx xs xm xt xr xb xd x6 x7 : Nat} {code : Int32} {mk : Int64} {lfa lfi : Int32} {f : Nat → Option Nat} {h0 hi sz j : Nat} {lane : Int32} {it : Nat → Int32} {a g : Int32} (hj : j < 8) (hf : f j = some h0) (hg : s_find lane sz a 16 = g) (hg0 : ¬ g = 0) : Ct l Γ yX10_cast cX10_cast 4 (some .int) 5 [.ref hx, .int (nI j), .int a] ([wXo hx xs xm xt xr xb xd x6 x7 (code) (mk) (lfa) (lfi), (xs, .inl (Γ.2.2.2, 8, .inr (.inr (.inr (.inr f))))), (h0, .inr (5, [.ref hi, .int (lane), .int (nI (sz))])), (hi, .inl (Γ.2.1, 60, .inl (it)))]) (some (.int (-1000010 - g))) ([wXo hx xs xm xt xr xb xd x6 x7 (code) (mk) (lfa) (g), (xs, .inl (Γ.2.2.2, 8, .inr (.inr (.inr (.inr f))))), (h0, .inr (5, [.ref hi, .int (lane), .int (nI (sz))])), (hi, .inl (Γ.2.1, 60, .inl (it)))]) := by
  refine Ct.of mi_X10_cast [some (.ref hx), some (.int (nI j)), some (.int a), none] 1 rfl (Nat.le_of_ble_eq_true rfl) ?_
  intro p e s m args below meth c C hr
  refine ww_iload_n (i := 1) C dX10_cast_0 rfl rfl 1 rfl ?_
  refine ww_callS1p C (c_X10_isSheet l Γ) mi_X10_isSheet st_X10_isSheet ml_X10_81 dX10_cast_1 (Nat.le_of_ble_eq_true rfl) (Nat.le_of_ble_eq_true rfl) (Nat.le_of_ble_eq_true rfl) ⟨Nat.zero_le _, Nat.zero_le _⟩ [] rfl (by decide) 4 rfl ?_
  refine ww_if_ne C 10 dX10_cast_4 (by decide) 7 rfl (fun h_4 => ?_) (fun h_4 => ?_)
  · skip
    refine ww_aload_n (i := 0) C dX10_cast_10 rfl rfl 11 rfl ?_
    refine ww_get C fe_X10_11 dX10_cast_11 0 rfl rfl 14 rfl ?_
    refine ww_iload_n (i := 1) C dX10_cast_14 rfl rfl 15 rfl ?_
    refine ww_aald C dX10_cast_15 1 rfl (vp_in_nI hj (by decide)) (by rw [nI_clamp (by omega)]; exact hf) 16 rfl ?_
    refine ww_iload_n (i := 2) C dX10_cast_16 rfl rfl 17 rfl ?_
    refine ww_bipush (v := 16) C dX10_cast_17 (by decide) 19 rfl ?_
    refine ww_callV2p C (c_X7_findingOf l Γ) mi_X7_findingOf im_X7_findingOf se_X7_findingOf ml_X10_100 dX10_cast_19 2 rfl rfl rfl (Nat.le_of_ble_eq_true rfl) (Nat.le_of_ble_eq_true rfl) (Nat.le_of_ble_eq_true rfl) ⟨Nat.zero_le _, Nat.zero_le _⟩ [2] rfl (by decide) 22 rfl ?_
    refine ww_istore_n (i := 3) C dX10_cast_22 rfl (by decide) rfl 23 rfl ?_
    refine ww_iload_n (i := 3) C dX10_cast_23 rfl rfl 24 rfl ?_
    refine ww_if_eq C 33 dX10_cast_24 (by decide) 27 rfl (fun h_24 => ?_) (fun h_24 => ?_)
    · exact absurd h_24 (by rw [hg]; exact hg0)
    · skip
      refine ww_aload_n (i := 0) C dX10_cast_27 rfl rfl 28 rfl ?_
      refine ww_iload_n (i := 3) C dX10_cast_28 rfl rfl 29 rfl ?_
      refine ww_callV1 C (c_X10_found l Γ) mi_X10_found im_X10_found se_X10_found ml_X10_89 dX10_cast_29 0 rfl rfl rfl (Nat.le_of_ble_eq_true rfl) (Nat.le_of_ble_eq_true rfl) (Nat.le_of_ble_eq_true rfl) ⟨Nat.zero_le _, Nat.zero_le _⟩ [0] rfl (by decide) rfl 32 rfl ?_
      exact ww_iret C hr dX10_cast_32 (by rw [hg]) (by rw [← hg]; rfl)
  · exact absurd (ok_lt rfl hj (by decide)) (bI_e0 h_4)
theorem c_X10_cast_neg (l : Launch) (Γ : Gm) {hx xs xm xt xr xb xd x6 x7 : Nat} {code : Int32} {mk : Int64} {lfa lfi : Int32} {f : Nat → Option Nat} {h0 hi sz j : Nat} {lane : Int32} {it : Nat → Int32} {a : Nat} (hj : j < 8) (hf : f j = some h0) (hl : ¬ lane = -1) (ha : a + 16 ≤ sz) (hs : sz ≤ 60) (hw : ¬ s_within it a 0 2147483647 16) : Ct l Γ yX10_cast cX10_cast 4 (some .int) 5 [.ref hx, .int (nI j), .int (nI a)] ([wXo hx xs xm xt xr xb xd x6 x7 (code) (mk) (lfa) (lfi), (xs, .inl (Γ.2.2.2, 8, .inr (.inr (.inr (.inr f))))), (h0, .inr (5, [.ref hi, .int (lane), .int (nI (sz))])), (hi, .inl (Γ.2.1, 60, .inl (it)))]) (some (.int (-1000001))) ([wXo hx xs xm xt xr xb xd x6 x7 (code) (mk) (lfa) (lfi), (xs, .inl (Γ.2.2.2, 8, .inr (.inr (.inr (.inr f))))), (h0, .inr (5, [.ref hi, .int (lane), .int (nI (sz))])), (hi, .inl (Γ.2.1, 60, .inl (it)))]) := by
  refine Ct.of mi_X10_cast [some (.ref hx), some (.int (nI j)), some (.int (nI a)), none] 1 rfl (Nat.le_of_ble_eq_true rfl) ?_
  intro p e s m args below meth c C hr
  have hfi : s_find lane sz (nI a) 16 = 0 := by rw [s_find, if_neg hl]; exact if_pos (s_has_n (k := 16) hs ha)
  refine ww_iload_n (i := 1) C dX10_cast_0 rfl rfl 1 rfl ?_
  refine ww_callS1p C (c_X10_isSheet l Γ) mi_X10_isSheet st_X10_isSheet ml_X10_81 dX10_cast_1 (Nat.le_of_ble_eq_true rfl) (Nat.le_of_ble_eq_true rfl) (Nat.le_of_ble_eq_true rfl) ⟨Nat.zero_le _, Nat.zero_le _⟩ [] rfl (by decide) 4 rfl ?_
  refine ww_if_ne C 10 dX10_cast_4 (by decide) 7 rfl (fun h_4 => ?_) (fun h_4 => ?_)
  · skip
    refine ww_aload_n (i := 0) C dX10_cast_10 rfl rfl 11 rfl ?_
    refine ww_get C fe_X10_11 dX10_cast_11 0 rfl rfl 14 rfl ?_
    refine ww_iload_n (i := 1) C dX10_cast_14 rfl rfl 15 rfl ?_
    refine ww_aald C dX10_cast_15 1 rfl (vp_in_nI hj (by decide)) (by rw [nI_clamp (by omega)]; exact hf) 16 rfl ?_
    refine ww_iload_n (i := 2) C dX10_cast_16 rfl rfl 17 rfl ?_
    refine ww_bipush (v := 16) C dX10_cast_17 (by decide) 19 rfl ?_
    refine ww_callV2p C (c_X7_findingOf l Γ) mi_X7_findingOf im_X7_findingOf se_X7_findingOf ml_X10_100 dX10_cast_19 2 rfl rfl rfl (Nat.le_of_ble_eq_true rfl) (Nat.le_of_ble_eq_true rfl) (Nat.le_of_ble_eq_true rfl) ⟨Nat.zero_le _, Nat.zero_le _⟩ [2] rfl (by decide) 22 rfl ?_
    refine ww_istore_n (i := 3) C dX10_cast_22 rfl (by decide) rfl 23 rfl ?_
    refine ww_iload_n (i := 3) C dX10_cast_23 rfl rfl 24 rfl ?_
    refine ww_if_eq C 33 dX10_cast_24 (by decide) 27 rfl (fun h_24 => ?_) (fun h_24 => ?_)
    · skip
      refine ww_aload_n (i := 0) C dX10_cast_33 rfl rfl 34 rfl ?_
      refine ww_get C fe_X10_11 dX10_cast_34 0 rfl rfl 37 rfl ?_
      refine ww_iload_n (i := 1) C dX10_cast_37 rfl rfl 38 rfl ?_
      refine ww_aald C dX10_cast_38 1 rfl (vp_in_nI hj (by decide)) (by rw [nI_clamp (by omega)]; exact hf) 39 rfl ?_
      refine ww_iload_n (i := 2) C dX10_cast_39 rfl rfl 40 rfl ?_
      refine ww_bipush (v := 16) C dX10_cast_40 (by decide) 42 rfl ?_
      refine ww_iconst (v := 0) C dX10_cast_42 (by decide) 43 rfl ?_
      refine ww_ldc C cn_X10_134 dX10_cast_43 45 rfl ?_
      refine ww_callV4p C (c_X7_areWithin l Γ (k := 16) (r := 0) ha hs (fun q => absurd q hw) (fun _ => rfl)) mi_X7_areWithin im_X7_areWithin se_X7_areWithin ml_X10_135 dX10_cast_45 2 rfl rfl rfl (Nat.le_of_ble_eq_true rfl) (Nat.le_of_ble_eq_true rfl) (Nat.le_of_ble_eq_true rfl) ⟨Nat.zero_le _, Nat.zero_le _⟩ [2, 3] rfl (by decide) 48 rfl ?_
      refine ww_if_ne C 54 dX10_cast_48 (by decide) 51 rfl (fun h_48 => ?_) (fun h_48 => ?_)
      · exact absurd h_48 (by decide)
      · skip
        refine ww_ldc C cn_X10_88 dX10_cast_51 53 rfl ?_
        exact ww_iret C hr dX10_cast_53 rfl rfl
    · exact absurd hfi h_24
  · exact absurd (ok_lt rfl hj (by decide)) (bI_e0 h_4)
theorem c_X10_cast_ok (l : Launch) (Γ : Gm) {hx xs xm xt xr xb xd x6 x7 : Nat} {code : Int32} {mk : Int64} {lfa lfi : Int32} {f : Nat → Option Nat} {h0 hi sz j : Nat} {lane : Int32} {it : Nat → Int32} {a : Nat} (hj : j < 8) (hf : f j = some h0) (hl : ¬ lane = -1) (ha : a + 16 ≤ sz) (hs : sz ≤ 60) (hw : s_within it a 0 2147483647 16) : Ct l Γ yX10_cast cX10_cast 4 (some .int) 5 [.ref hx, .int (nI j), .int (nI a)] ([wXo hx xs xm xt xr xb xd x6 x7 (code) (mk) (lfa) (lfi), (xs, .inl (Γ.2.2.2, 8, .inr (.inr (.inr (.inr f))))), (h0, .inr (5, [.ref hi, .int (lane), .int (nI (sz))])), (hi, .inl (Γ.2.1, 60, .inl (it)))]) (some (.int (s_odd it a 16))) ([wXo hx xs xm xt xr xb xd x6 x7 (s_odd it a 16) (s_ofc (s_odd it a 16)) (lfa) (0), (xs, .inl (Γ.2.2.2, 8, .inr (.inr (.inr (.inr f))))), (h0, .inr (5, [.ref hi, .int (lane), .int (nI (sz))])), (hi, .inl (Γ.2.1, 60, .inl (it)))]) := by
  refine Ct.of mi_X10_cast [some (.ref hx), some (.int (nI j)), some (.int (nI a)), none] 1 rfl (Nat.le_of_ble_eq_true rfl) ?_
  intro p e s m args below meth c C hr
  have hfi : s_find lane sz (nI a) 16 = 0 := by rw [s_find, if_neg hl]; exact if_pos (s_has_n (k := 16) hs ha)
  refine ww_iload_n (i := 1) C dX10_cast_0 rfl rfl 1 rfl ?_
  refine ww_callS1p C (c_X10_isSheet l Γ) mi_X10_isSheet st_X10_isSheet ml_X10_81 dX10_cast_1 (Nat.le_of_ble_eq_true rfl) (Nat.le_of_ble_eq_true rfl) (Nat.le_of_ble_eq_true rfl) ⟨Nat.zero_le _, Nat.zero_le _⟩ [] rfl (by decide) 4 rfl ?_
  refine ww_if_ne C 10 dX10_cast_4 (by decide) 7 rfl (fun h_4 => ?_) (fun h_4 => ?_)
  · skip
    refine ww_aload_n (i := 0) C dX10_cast_10 rfl rfl 11 rfl ?_
    refine ww_get C fe_X10_11 dX10_cast_11 0 rfl rfl 14 rfl ?_
    refine ww_iload_n (i := 1) C dX10_cast_14 rfl rfl 15 rfl ?_
    refine ww_aald C dX10_cast_15 1 rfl (vp_in_nI hj (by decide)) (by rw [nI_clamp (by omega)]; exact hf) 16 rfl ?_
    refine ww_iload_n (i := 2) C dX10_cast_16 rfl rfl 17 rfl ?_
    refine ww_bipush (v := 16) C dX10_cast_17 (by decide) 19 rfl ?_
    refine ww_callV2p C (c_X7_findingOf l Γ) mi_X7_findingOf im_X7_findingOf se_X7_findingOf ml_X10_100 dX10_cast_19 2 rfl rfl rfl (Nat.le_of_ble_eq_true rfl) (Nat.le_of_ble_eq_true rfl) (Nat.le_of_ble_eq_true rfl) ⟨Nat.zero_le _, Nat.zero_le _⟩ [2] rfl (by decide) 22 rfl ?_
    refine ww_istore_n (i := 3) C dX10_cast_22 rfl (by decide) rfl 23 rfl ?_
    refine ww_iload_n (i := 3) C dX10_cast_23 rfl rfl 24 rfl ?_
    refine ww_if_eq C 33 dX10_cast_24 (by decide) 27 rfl (fun h_24 => ?_) (fun h_24 => ?_)
    · skip
      refine ww_aload_n (i := 0) C dX10_cast_33 rfl rfl 34 rfl ?_
      refine ww_get C fe_X10_11 dX10_cast_34 0 rfl rfl 37 rfl ?_
      refine ww_iload_n (i := 1) C dX10_cast_37 rfl rfl 38 rfl ?_
      refine ww_aald C dX10_cast_38 1 rfl (vp_in_nI hj (by decide)) (by rw [nI_clamp (by omega)]; exact hf) 39 rfl ?_
      refine ww_iload_n (i := 2) C dX10_cast_39 rfl rfl 40 rfl ?_
      refine ww_bipush (v := 16) C dX10_cast_40 (by decide) 42 rfl ?_
      refine ww_iconst (v := 0) C dX10_cast_42 (by decide) 43 rfl ?_
      refine ww_ldc C cn_X10_134 dX10_cast_43 45 rfl ?_
      refine ww_callV4p C (c_X7_areWithin l Γ (k := 16) (r := 1) ha hs (fun _ => rfl) (fun q => absurd hw q)) mi_X7_areWithin im_X7_areWithin se_X7_areWithin ml_X10_135 dX10_cast_45 2 rfl rfl rfl (Nat.le_of_ble_eq_true rfl) (Nat.le_of_ble_eq_true rfl) (Nat.le_of_ble_eq_true rfl) ⟨Nat.zero_le _, Nat.zero_le _⟩ [2, 3] rfl (by decide) 48 rfl ?_
      refine ww_if_ne C 54 dX10_cast_48 (by decide) 51 rfl (fun h_48 => ?_) (fun h_48 => ?_)
      · skip
        refine ww_aload_n (i := 0) C dX10_cast_54 rfl rfl 55 rfl ?_
        refine ww_aload_n (i := 0) C dX10_cast_55 rfl rfl 56 rfl ?_
        refine ww_get C fe_X10_11 dX10_cast_56 0 rfl rfl 59 rfl ?_
        refine ww_iload_n (i := 1) C dX10_cast_59 rfl rfl 60 rfl ?_
        refine ww_aald C dX10_cast_60 1 rfl (vp_in_nI hj (by decide)) (by rw [nI_clamp (by omega)]; exact hf) 61 rfl ?_
        refine ww_iload_n (i := 2) C dX10_cast_61 rfl rfl 62 rfl ?_
        refine ww_callV1p C (c_X7_oddOnes l Γ ha hs) mi_X7_oddOnes im_X7_oddOnes se_X7_oddOnes ml_X10_139 dX10_cast_62 2 rfl rfl rfl (Nat.le_of_ble_eq_true rfl) (Nat.le_of_ble_eq_true rfl) (Nat.le_of_ble_eq_true rfl) ⟨Nat.zero_le _, Nat.zero_le _⟩ [2, 3] rfl (by decide) 65 rfl ?_
        refine ww_callV1v C (c_X10_tellChart l Γ) mi_X10_tellChart im_X10_tellChart se_X10_tellChart ml_X10_142 dX10_cast_65 0 rfl rfl rfl (Nat.le_of_ble_eq_true rfl) (Nat.le_of_ble_eq_true rfl) (Nat.le_of_ble_eq_true rfl) ⟨Nat.zero_le _, Nat.zero_le _⟩ [0] rfl (by decide) rfl 68 rfl ?_
        refine ww_eq (ws' := [wXo hx xs xm xt xr xb xd x6 x7 (s_odd it a 16) (s_ofc (s_odd it a 16)) (lfa) (lfi), (xs, .inl (Γ.2.2.2, 8, .inr (.inr (.inr (.inr f))))), (h0, .inr (5, [.ref hi, .int (lane), .int (nI (sz))])), (hi, .inl (Γ.2.1, 60, .inl (it)))]) rfl rfl rfl ?_
        refine ww_aload_n (i := 0) C dX10_cast_68 rfl rfl 69 rfl ?_
        refine ww_aload_n (i := 0) C dX10_cast_69 rfl rfl 70 rfl ?_
        refine ww_get C fe_X10_60 dX10_cast_70 0 rfl rfl 73 rfl ?_
        refine ww_callV1 C (c_X10_done l Γ) mi_X10_done im_X10_done se_X10_done ml_X10_97 dX10_cast_73 0 rfl rfl rfl (Nat.le_of_ble_eq_true rfl) (Nat.le_of_ble_eq_true rfl) (Nat.le_of_ble_eq_true rfl) ⟨Nat.zero_le _, Nat.zero_le _⟩ [0] rfl (by decide) rfl 76 rfl ?_
        exact ww_iret C hr dX10_cast_76 rfl rfl
      · exact absurd h_48 (by decide)
    · exact absurd hfi h_24
  · exact absurd (ok_lt rfl hj (by decide)) (bI_e0 h_4)
