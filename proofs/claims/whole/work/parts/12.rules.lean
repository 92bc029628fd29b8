/-- THE TRACE: its row and how many stand there -/
abbrev TrS : Type := (Nat → Int32) × Nat
def s_beg (σ : TrS) (b : Int32) : TrS := if σ.2 < 16 then (upd σ.1 σ.2 b, σ.2 + 1) else σ
theorem s_beg_le {σ : TrS} {b : Int32} (h : σ.2 ≤ 16) : (s_beg σ b).2 ≤ 16 := by
  unfold s_beg
  split
  · show σ.2 + 1 ≤ 16
    omega
  · exact h
abbrev wBod (Γ : Gm) (h0 hb : Nat) (σ : TrS) : va_W := [(h0, .inr (0, [.ref hb, .int (nI σ.2)])), (hb, .inl (Γ.2.1, 16, .inl σ.1))]
def s_lS (σ : TrS) : TrS := s_beg σ 10
def s_eS (σ : TrS) : TrS := s_lS (s_beg σ 11)
def s_lM (σ : TrS) : TrS := s_beg σ 20
def s_fM (σ : TrS) : TrS := s_lM (s_beg σ 21)
def s_fS (σ : TrS) : TrS := s_fM (s_eS (s_beg σ 12))
def s_oS (σ : TrS) : TrS := s_lS (s_beg σ 13)
def s_oM (σ : TrS) : TrS := s_oS (s_lM (s_beg σ 22))
theorem s_lS_le {σ : TrS} (h : σ.2 ≤ 16) : (s_lS σ).2 ≤ 16 := s_beg_le h
theorem s_eS_le {σ : TrS} (h : σ.2 ≤ 16) : (s_eS σ).2 ≤ 16 := s_lS_le (s_beg_le h)
theorem s_lM_le {σ : TrS} (h : σ.2 ≤ 16) : (s_lM σ).2 ≤ 16 := s_beg_le h
theorem s_fM_le {σ : TrS} (h : σ.2 ≤ 16) : (s_fM σ).2 ≤ 16 := s_lM_le (s_beg_le h)
theorem s_fS_le {σ : TrS} (h : σ.2 ≤ 16) : (s_fS σ).2 ≤ 16 := s_fM_le (s_eS_le (s_beg_le h))
theorem s_oS_le {σ : TrS} (h : σ.2 ≤ 16) : (s_oS σ).2 ≤ 16 := s_lS_le (s_beg_le h)
theorem s_oM_le {σ : TrS} (h : σ.2 ≤ 16) : (s_oM σ).2 ≤ 16 := s_oS_le (s_lM_le (s_beg_le h))
def v_eS (f : Int32) : Int32 := 8 - s_bc32 f + f
def v_fM (f : Int32) : Int32 := f + 100
def v_fS (f : Int32) : Int32 := v_eS f + v_fM f
def v_oS (f : Int32) : Int32 := 2 * (8 - s_bc32 f)
def v_oM (f : Int32) : Int32 := f + v_oS f
def s_szT (f : Int32) (σ : TrS) : TrS := if s_told f = 1 then s_eS σ else if s_told f = 2 then s_fS σ else s_oS σ
def s_szV (f : Int32) : Int32 := if s_told f = 1 then v_eS f else if s_told f = 2 then v_fS f else v_oS f
def s_mkT (f : Int32) (σ : TrS) : TrS := if s_told f = 1 then s_lM σ else if s_told f = 2 then s_fM σ else s_oM σ
def s_mkV (f : Int32) : Int32 := if s_told f = 1 then f else if s_told f = 2 then v_fM f else v_oM f
theorem s_szT_le {f : Int32} {σ : TrS} (h : σ.2 ≤ 16) : (s_szT f σ).2 ≤ 16 := by
  unfold s_szT
  repeat' split
  · exact s_eS_le h
  · exact s_fS_le h
  · exact s_oS_le h
theorem s_mkT_le {f : Int32} {σ : TrS} (h : σ.2 ≤ 16) : (s_mkT f σ).2 ≤ 16 := by
  unfold s_mkT
  repeat' split
  · exact s_lM_le h
  · exact s_fM_le h
  · exact s_oM_le h
theorem c_X0_emptyTrace (l : Launch) (Γ : Gm) {h0 hb : Nat} {σ : TrS}  : Ct l Γ yX0_emptyTrace cX0_emptyTrace 1 none 0 [.ref h0] (wBod Γ h0 hb σ) (none) (wBod Γ h0 hb (σ.1, 0)) := by
  refine Ct.of mi_X0_emptyTrace [some (.ref h0)] 0 rfl (Nat.le_of_ble_eq_true rfl) ?_
  intro p e s m args below meth c C hr
  refine ww_aload_n (i := 0) C dX0_emptyTrace_0 rfl rfl 1 rfl ?_
  refine ww_iconst (v := 0) C dX0_emptyTrace_1 (by decide) 2 rfl ?_
  refine ww_put C fe_X0_15 rfl dX0_emptyTrace_2 0 rfl rfl rfl (Nat.le_of_ble_eq_true rfl) 5 rfl ?_
  exact ww_vret C hr dX0_emptyTrace_5 rfl rfl
theorem c_X0_traced (l : Launch) (Γ : Gm) {h0 hb : Nat} {σ : TrS} {x : Int32} (ht : σ.2 ≤ 16) : Ct l Γ yX0_traced cX0_traced 2 (some .int) 0 [.ref h0, .int x] (wBod Γ h0 hb σ) (some (.int (if x < 0 then -1000000 else if nI σ.2 ≤ x then -1000000 else σ.1 x.toNatClampNeg))) (wBod Γ h0 hb σ) := by
  refine Ct.of mi_X0_traced [some (.ref h0), some (.int x)] 0 rfl (Nat.le_of_ble_eq_true rfl) ?_
  intro p e s m args below meth c C hr
  refine ww_iload_n (i := 1) C dX0_traced_0 rfl rfl 1 rfl ?_
  refine ww_if_lt C 21 dX0_traced_1 (by decide) 4 rfl (fun h_1 => ?_) (fun h_1 => ?_)
  · skip
    refine ww_ldc C cn_X0_19 dX0_traced_21 23 rfl ?_
    exact ww_iret C hr dX0_traced_23 (by simp [*]) rfl
  · skip
    refine ww_iload_n (i := 1) C dX0_traced_4 rfl rfl 5 rfl ?_
    refine ww_aload_n (i := 0) C dX0_traced_5 rfl rfl 6 rfl ?_
    refine ww_get C fe_X0_15 dX0_traced_6 0 rfl rfl 9 rfl ?_
    refine ww_icmp_ge C 21 dX0_traced_9 (by decide) 12 rfl (fun h_9 => ?_) (fun h_9 => ?_)
    · skip
      refine ww_ldc C cn_X0_19 dX0_traced_21 23 rfl ?_
      exact ww_iret C hr dX0_traced_23 (by simp [*]) rfl
    · skip
      refine ww_aload_n (i := 0) C dX0_traced_12 rfl rfl 13 rfl ?_
      refine ww_get C fe_X0_11 dX0_traced_13 0 rfl rfl 16 rfl ?_
      refine ww_iload_n (i := 1) C dX0_traced_16 rfl rfl 17 rfl ?_
      refine ww_iald C dX0_traced_17 1 rfl (in_of_lt h_1 h_9 ht (by decide)) 18 rfl ?_
      refine ww_goto C 23 dX0_traced_18 (by decide) ?_
      exact ww_iret C hr dX0_traced_23 (by simp [*]) rfl
theorem c_X0_begin (l : Launch) (Γ : Gm) {h0 hb : Nat} {σ : TrS} {b : Int32} (ht : σ.2 ≤ 16) : Ct l Γ yX0_begin cX0_begin 2 none 0 [.ref h0, .int b] (wBod Γ h0 hb σ) (none) (wBod Γ h0 hb (s_beg σ b)) := by
  refine Ct.of mi_X0_begin [some (.ref h0), some (.int b)] 0 rfl (Nat.le_of_ble_eq_true rfl) ?_
  intro p e s m args below meth c C hr
  refine ww_aload_n (i := 0) C dX0_begin_0 rfl rfl 1 rfl ?_
  refine ww_get C fe_X0_15 dX0_begin_1 0 rfl rfl 4 rfl ?_
  refine ww_bipush (v := 16) C dX0_begin_4 (by decide) 6 rfl ?_
  refine ww_icmp_ge C 29 dX0_begin_6 (by decide) 9 rfl (fun h_6 => ?_) (fun h_6 => ?_)
  · skip
    first
      | (have hlt : ¬ σ.2 < 16 := fun q => absurd h_6 (nI_ge q (by decide)); have e : s_beg σ b = σ := if_neg hlt; rw [e]; exact ww_vret C hr dX0_begin_29 rfl rfl)
      | (have e : s_beg σ b = (upd σ.1 σ.2 b, σ.2 + 1) := if_pos hlt; rw [e]; exact ww_vret C hr dX0_begin_29 rfl (by show wBod Γ h0 hb (upd σ.1 σ.2 b, σ.2 + 1) = _; simp only [wBod, nI_succ, nI_clamp (show σ.2 < 2 ^ 31 by omega)]; rfl))
  · skip
    have hlt : σ.2 < 16 := ltN (n := 16) h_6 (by decide) (by omega)
    refine ww_aload_n (i := 0) C dX0_begin_9 rfl rfl 10 rfl ?_
    refine ww_get C fe_X0_11 dX0_begin_10 0 rfl rfl 13 rfl ?_
    refine ww_aload_n (i := 0) C dX0_begin_13 rfl rfl 14 rfl ?_
    refine ww_get C fe_X0_15 dX0_begin_14 0 rfl rfl 17 rfl ?_
    refine ww_iload_n (i := 1) C dX0_begin_17 rfl rfl 18 rfl ?_
    refine ww_iast C dX0_begin_18 1 rfl (vp_in_nI hlt (by decide)) 19 rfl ?_
    refine ww_aload_n (i := 0) C dX0_begin_19 rfl rfl 20 rfl ?_
    refine ww_dup C dX0_begin_20 rfl 21 rfl ?_
    refine ww_get C fe_X0_15 dX0_begin_21 0 rfl rfl 24 rfl ?_
    refine ww_iconst (v := 1) C dX0_begin_24 (by decide) 25 rfl ?_
    refine ww_iadd C dX0_begin_25 26 rfl ?_
    refine ww_put C fe_X0_15 rfl dX0_begin_26 0 rfl rfl rfl (Nat.le_of_ble_eq_true rfl) 29 rfl ?_
    first
      | (have hlt : ¬ σ.2 < 16 := fun q => absurd h_6 (nI_ge q (by decide)); have e : s_beg σ b = σ := if_neg hlt; rw [e]; exact ww_vret C hr dX0_begin_29 rfl rfl)
      | (have e : s_beg σ b = (upd σ.1 σ.2 b, σ.2 + 1) := if_pos hlt; rw [e]; exact ww_vret C hr dX0_begin_29 rfl (by show wBod Γ h0 hb (upd σ.1 σ.2 b, σ.2 + 1) = _; simp only [wBod, nI_succ, nI_clamp (show σ.2 < 2 ^ 31 by omega)]; rfl))
theorem c_X0_lentSize (l : Launch) (Γ : Gm) {h0 hb : Nat} {σ : TrS} {f : Int32} (ht : σ.2 ≤ 16) : Ct l Γ yX0_lentSize cX0_lentSize 2 (some .int) 2 [.ref h0, .int f] (wBod Γ h0 hb σ) (some (.int (8 - s_bc32 f))) (wBod Γ h0 hb (s_lS σ)) := by
  refine Ct.of mi_X0_lentSize [some (.ref h0), some (.int f)] 0 rfl (Nat.le_of_ble_eq_true rfl) ?_
  intro p e s m args below meth c C hr
  refine ww_aload_n (i := 0) C dX0_lentSize_0 rfl rfl 1 rfl ?_
  refine ww_bipush (v := 10) C dX0_lentSize_1 (by decide) 3 rfl ?_
  refine ww_callV1v C (c_X0_begin l Γ ht) mi_X0_begin im_X0_begin se_X0_begin ml_X0_44 dX0_lentSize_3 0 rfl rfl rfl (Nat.le_of_ble_eq_true rfl) (Nat.le_of_ble_eq_true rfl) (Nat.le_of_ble_eq_true rfl) ⟨Nat.zero_le _, Nat.zero_le _⟩ [0, 1] rfl (by decide) rfl 6 rfl ?_
  refine ww_iload_n (i := 1) C dX0_lentSize_6 rfl rfl 7 rfl ?_
  refine ww_callS1p C (c_X3_dots l Γ) mi_X3_dots st_X3_dots ml_X0_48 dX0_lentSize_7 (Nat.le_of_ble_eq_true rfl) (Nat.le_of_ble_eq_true rfl) (Nat.le_of_ble_eq_true rfl) ⟨Nat.zero_le _, Nat.zero_le _⟩ [] rfl (by decide) 10 rfl ?_
  exact ww_iret C hr dX0_lentSize_10 rfl rfl
theorem c_X0_lentMark (l : Launch) (Γ : Gm) {h0 hb : Nat} {σ : TrS} {f : Int32} (ht : σ.2 ≤ 16) : Ct l Γ yX0_lentMark cX0_lentMark 2 (some .int) 1 [.ref h0, .int f] (wBod Γ h0 hb σ) (some (.int (f))) (wBod Γ h0 hb (s_lM σ)) := by
  refine Ct.of mi_X0_lentMark [some (.ref h0), some (.int f)] 0 rfl (Nat.le_of_ble_eq_true rfl) ?_
  intro p e s m args below meth c C hr
  refine ww_aload_n (i := 0) C dX0_lentMark_0 rfl rfl 1 rfl ?_
  refine ww_bipush (v := 20) C dX0_lentMark_1 (by decide) 3 rfl ?_
  refine ww_callV1v C (c_X0_begin l Γ ht) mi_X0_begin im_X0_begin se_X0_begin ml_X0_44 dX0_lentMark_3 0 rfl rfl rfl (Nat.le_of_ble_eq_true rfl) (Nat.le_of_ble_eq_true rfl) (Nat.le_of_ble_eq_true rfl) ⟨Nat.zero_le _, Nat.zero_le _⟩ [0, 1] rfl (by decide) rfl 6 rfl ?_
  refine ww_iload_n (i := 1) C dX0_lentMark_6 rfl rfl 7 rfl ?_
  exact ww_iret C hr dX0_lentMark_7 rfl rfl
theorem c_X0_evenSize (l : Launch) (Γ : Gm) {h0 hb : Nat} {σ : TrS} {f : Int32} (ht : σ.2 ≤ 16) : Ct l Γ yX0_evenSize cX0_evenSize 2 (some .int) 3 [.ref h0, .int f] (wBod Γ h0 hb σ) (some (.int (v_eS f))) (wBod Γ h0 hb (s_eS σ)) := by
  refine Ct.of mi_X0_evenSize [some (.ref h0), some (.int f)] 0 rfl (Nat.le_of_ble_eq_true rfl) ?_
  intro p e s m args below meth c C hr
  refine ww_aload_n (i := 0) C dX0_evenSize_0 rfl rfl 1 rfl ?_
  refine ww_bipush (v := 11) C dX0_evenSize_1 (by decide) 3 rfl ?_
  refine ww_callV1v C (c_X0_begin l Γ ht) mi_X0_begin im_X0_begin se_X0_begin ml_X0_44 dX0_evenSize_3 0 rfl rfl rfl (Nat.le_of_ble_eq_true rfl) (Nat.le_of_ble_eq_true rfl) (Nat.le_of_ble_eq_true rfl) ⟨Nat.zero_le _, Nat.zero_le _⟩ [0, 1] rfl (by decide) rfl 6 rfl ?_
  refine ww_aload_n (i := 0) C dX0_evenSize_6 rfl rfl 7 rfl ?_
  refine ww_iload_n (i := 1) C dX0_evenSize_7 rfl rfl 8 rfl ?_
  refine ww_callV1 C (c_X0_lentSize l Γ (s_beg_le ht)) mi_X0_lentSize im_X0_lentSize se_X0_lentSize ml_X0_51 dX0_evenSize_8 0 rfl rfl rfl (Nat.le_of_ble_eq_true rfl) (Nat.le_of_ble_eq_true rfl) (Nat.le_of_ble_eq_true rfl) ⟨Nat.zero_le _, Nat.zero_le _⟩ [0, 1] rfl (by decide) rfl 11 rfl ?_
  refine ww_iload_n (i := 1) C dX0_evenSize_11 rfl rfl 12 rfl ?_
  refine ww_iadd C dX0_evenSize_12 13 rfl ?_
  exact ww_iret C hr dX0_evenSize_13 rfl rfl
theorem c_X0_fastMark (l : Launch) (Γ : Gm) {h0 hb : Nat} {σ : TrS} {f : Int32} (ht : σ.2 ≤ 16) : Ct l Γ yX0_fastMark cX0_fastMark 2 (some .int) 2 [.ref h0, .int f] (wBod Γ h0 hb σ) (some (.int (v_fM f))) (wBod Γ h0 hb (s_fM σ)) := by
  refine Ct.of mi_X0_fastMark [some (.ref h0), some (.int f)] 0 rfl (Nat.le_of_ble_eq_true rfl) ?_
  intro p e s m args below meth c C hr
  refine ww_aload_n (i := 0) C dX0_fastMark_0 rfl rfl 1 rfl ?_
  refine ww_bipush (v := 21) C dX0_fastMark_1 (by decide) 3 rfl ?_
  refine ww_callV1v C (c_X0_begin l Γ ht) mi_X0_begin im_X0_begin se_X0_begin ml_X0_44 dX0_fastMark_3 0 rfl rfl rfl (Nat.le_of_ble_eq_true rfl) (Nat.le_of_ble_eq_true rfl) (Nat.le_of_ble_eq_true rfl) ⟨Nat.zero_le _, Nat.zero_le _⟩ [0, 1] rfl (by decide) rfl 6 rfl ?_
  refine ww_aload_n (i := 0) C dX0_fastMark_6 rfl rfl 7 rfl ?_
  refine ww_iload_n (i := 1) C dX0_fastMark_7 rfl rfl 8 rfl ?_
  refine ww_callV1 C (c_X0_lentMark l Γ (s_beg_le ht)) mi_X0_lentMark im_X0_lentMark se_X0_lentMark ml_X0_38 dX0_fastMark_8 0 rfl rfl rfl (Nat.le_of_ble_eq_true rfl) (Nat.le_of_ble_eq_true rfl) (Nat.le_of_ble_eq_true rfl) ⟨Nat.zero_le _, Nat.zero_le _⟩ [0, 1] rfl (by decide) rfl 11 rfl ?_
  refine ww_bipush (v := 100) C dX0_fastMark_11 (by decide) 13 rfl ?_
  refine ww_iadd C dX0_fastMark_13 14 rfl ?_
  exact ww_iret C hr dX0_fastMark_14 rfl rfl
theorem c_X0_fastSize (l : Launch) (Γ : Gm) {h0 hb : Nat} {σ : TrS} {f : Int32} (ht : σ.2 ≤ 16) : Ct l Γ yX0_fastSize cX0_fastSize 2 (some .int) 4 [.ref h0, .int f] (wBod Γ h0 hb σ) (some (.int (v_fS f))) (wBod Γ h0 hb (s_fS σ)) := by
  refine Ct.of mi_X0_fastSize [some (.ref h0), some (.int f)] 0 rfl (Nat.le_of_ble_eq_true rfl) ?_
  intro p e s m args below meth c C hr
  refine ww_aload_n (i := 0) C dX0_fastSize_0 rfl rfl 1 rfl ?_
  refine ww_bipush (v := 12) C dX0_fastSize_1 (by decide) 3 rfl ?_
  refine ww_callV1v C (c_X0_begin l Γ ht) mi_X0_begin im_X0_begin se_X0_begin ml_X0_44 dX0_fastSize_3 0 rfl rfl rfl (Nat.le_of_ble_eq_true rfl) (Nat.le_of_ble_eq_true rfl) (Nat.le_of_ble_eq_true rfl) ⟨Nat.zero_le _, Nat.zero_le _⟩ [0, 1] rfl (by decide) rfl 6 rfl ?_
  refine ww_aload_n (i := 0) C dX0_fastSize_6 rfl rfl 7 rfl ?_
  refine ww_iload_n (i := 1) C dX0_fastSize_7 rfl rfl 8 rfl ?_
  refine ww_callV1 C (c_X0_evenSize l Γ (s_beg_le ht)) mi_X0_evenSize im_X0_evenSize se_X0_evenSize ml_X0_29 dX0_fastSize_8 0 rfl rfl rfl (Nat.le_of_ble_eq_true rfl) (Nat.le_of_ble_eq_true rfl) (Nat.le_of_ble_eq_true rfl) ⟨Nat.zero_le _, Nat.zero_le _⟩ [0, 1] rfl (by decide) rfl 11 rfl ?_
  refine ww_aload_n (i := 0) C dX0_fastSize_11 rfl rfl 12 rfl ?_
  refine ww_iload_n (i := 1) C dX0_fastSize_12 rfl rfl 13 rfl ?_
  refine ww_callV1 C (c_X0_fastMark l Γ (s_eS_le (s_beg_le ht))) mi_X0_fastMark im_X0_fastMark se_X0_fastMark ml_X0_35 dX0_fastSize_13 0 rfl rfl rfl (Nat.le_of_ble_eq_true rfl) (Nat.le_of_ble_eq_true rfl) (Nat.le_of_ble_eq_true rfl) ⟨Nat.zero_le _, Nat.zero_le _⟩ [0, 1] rfl (by decide) rfl 16 rfl ?_
  refine ww_iadd C dX0_fastSize_16 17 rfl ?_
  exact ww_iret C hr dX0_fastSize_17 rfl rfl
theorem c_X0_oddSize (l : Launch) (Γ : Gm) {h0 hb : Nat} {σ : TrS} {f : Int32} (ht : σ.2 ≤ 16) : Ct l Γ yX0_oddSize cX0_oddSize 2 (some .int) 3 [.ref h0, .int f] (wBod Γ h0 hb σ) (some (.int (v_oS f))) (wBod Γ h0 hb (s_oS σ)) := by
  refine Ct.of mi_X0_oddSize [some (.ref h0), some (.int f)] 0 rfl (Nat.le_of_ble_eq_true rfl) ?_
  intro p e s m args below meth c C hr
  refine ww_aload_n (i := 0) C dX0_oddSize_0 rfl rfl 1 rfl ?_
  refine ww_bipush (v := 13) C dX0_oddSize_1 (by decide) 3 rfl ?_
  refine ww_callV1v C (c_X0_begin l Γ ht) mi_X0_begin im_X0_begin se_X0_begin ml_X0_44 dX0_oddSize_3 0 rfl rfl rfl (Nat.le_of_ble_eq_true rfl) (Nat.le_of_ble_eq_true rfl) (Nat.le_of_ble_eq_true rfl) ⟨Nat.zero_le _, Nat.zero_le _⟩ [0, 1] rfl (by decide) rfl 6 rfl ?_
  refine ww_iconst (v := 2) C dX0_oddSize_6 (by decide) 7 rfl ?_
  refine ww_aload_n (i := 0) C dX0_oddSize_7 rfl rfl 8 rfl ?_
  refine ww_iload_n (i := 1) C dX0_oddSize_8 rfl rfl 9 rfl ?_
  refine ww_callV1 C (c_X0_lentSize l Γ (s_beg_le ht)) mi_X0_lentSize im_X0_lentSize se_X0_lentSize ml_X0_51 dX0_oddSize_9 0 rfl rfl rfl (Nat.le_of_ble_eq_true rfl) (Nat.le_of_ble_eq_true rfl) (Nat.le_of_ble_eq_true rfl) ⟨Nat.zero_le _, Nat.zero_le _⟩ [0, 1] rfl (by decide) rfl 12 rfl ?_
  refine ww_imul C dX0_oddSize_12 13 rfl ?_
  exact ww_iret C hr dX0_oddSize_13 rfl rfl
theorem c_X0_oddMark (l : Launch) (Γ : Gm) {h0 hb : Nat} {σ : TrS} {f : Int32} (ht : σ.2 ≤ 16) : Ct l Γ yX0_oddMark cX0_oddMark 2 (some .int) 4 [.ref h0, .int f] (wBod Γ h0 hb σ) (some (.int (v_oM f))) (wBod Γ h0 hb (s_oM σ)) := by
  refine Ct.of mi_X0_oddMark [some (.ref h0), some (.int f)] 0 rfl (Nat.le_of_ble_eq_true rfl) ?_
  intro p e s m args below meth c C hr
  refine ww_aload_n (i := 0) C dX0_oddMark_0 rfl rfl 1 rfl ?_
  refine ww_bipush (v := 22) C dX0_oddMark_1 (by decide) 3 rfl ?_
  refine ww_callV1v C (c_X0_begin l Γ ht) mi_X0_begin im_X0_begin se_X0_begin ml_X0_44 dX0_oddMark_3 0 rfl rfl rfl (Nat.le_of_ble_eq_true rfl) (Nat.le_of_ble_eq_true rfl) (Nat.le_of_ble_eq_true rfl) ⟨Nat.zero_le _, Nat.zero_le _⟩ [0, 1] rfl (by decide) rfl 6 rfl ?_
  refine ww_aload_n (i := 0) C dX0_oddMark_6 rfl rfl 7 rfl ?_
  refine ww_iload_n (i := 1) C dX0_oddMark_7 rfl rfl 8 rfl ?_
  refine ww_callV1 C (c_X0_lentMark l Γ (s_beg_le ht)) mi_X0_lentMark im_X0_lentMark se_X0_lentMark ml_X0_38 dX0_oddMark_8 0 rfl rfl rfl (Nat.le_of_ble_eq_true rfl) (Nat.le_of_ble_eq_true rfl) (Nat.le_of_ble_eq_true rfl) ⟨Nat.zero_le _, Nat.zero_le _⟩ [0, 1] rfl (by decide) rfl 11 rfl ?_
  refine ww_aload_n (i := 0) C dX0_oddMark_11 rfl rfl 12 rfl ?_
  refine ww_iload_n (i := 1) C dX0_oddMark_12 rfl rfl 13 rfl ?_
  refine ww_callV1 C (c_X0_oddSize l Γ (s_lM_le (s_beg_le ht))) mi_X0_oddSize im_X0_oddSize se_X0_oddSize ml_X0_32 dX0_oddMark_13 0 rfl rfl rfl (Nat.le_of_ble_eq_true rfl) (Nat.le_of_ble_eq_true rfl) (Nat.le_of_ble_eq_true rfl) ⟨Nat.zero_le _, Nat.zero_le _⟩ [0, 1] rfl (by decide) rfl 16 rfl ?_
  refine ww_iadd C dX0_oddMark_16 17 rfl ?_
  exact ww_iret C hr dX0_oddMark_17 rfl rfl
theorem c_X0_sizeOf (l : Launch) (Γ : Gm) {h0 hb : Nat} {σ : TrS} {f : Int32} (ht : σ.2 ≤ 16) : Ct l Γ yX0_sizeOf cX0_sizeOf 2 (some .int) 5 [.ref h0, .int f] (wBod Γ h0 hb σ) (some (.int (s_szV f))) (wBod Γ h0 hb (s_szT f σ)) := by
  refine Ct.of mi_X0_sizeOf [some (.ref h0), some (.int f)] 0 rfl (Nat.le_of_ble_eq_true rfl) ?_
  intro p e s m args below meth c C hr
  refine ww_iload_n (i := 1) C dX0_sizeOf_0 rfl rfl 1 rfl ?_
  refine ww_callS1p C (c_X3_toldKind l Γ) mi_X3_toldKind st_X3_toldKind ml_X0_20 dX0_sizeOf_1 (Nat.le_of_ble_eq_true rfl) (Nat.le_of_ble_eq_true rfl) (Nat.le_of_ble_eq_true rfl) ⟨Nat.zero_le _, Nat.zero_le _⟩ [] rfl (by decide) 4 rfl ?_
  refine ww_lk2 (k1 := 1) (k2 := 2) C 44 38 32 dX0_sizeOf_4 (by decide) (by decide) (by decide) (by decide) (by decide) (by decide) (fun q1_4 => ?_) (fun q1_4 q2_4 => ?_) (fun q1_4 q2_4 => ?_)
  · skip
    refine ww_aload_n (i := 0) C dX0_sizeOf_38 rfl rfl 39 rfl ?_
    refine ww_iload_n (i := 1) C dX0_sizeOf_39 rfl rfl 40 rfl ?_
    refine ww_callV1 C (c_X0_evenSize l Γ ht) mi_X0_evenSize im_X0_evenSize se_X0_evenSize ml_X0_29 dX0_sizeOf_40 0 rfl rfl rfl (Nat.le_of_ble_eq_true rfl) (Nat.le_of_ble_eq_true rfl) (Nat.le_of_ble_eq_true rfl) ⟨Nat.zero_le _, Nat.zero_le _⟩ [0, 1] rfl (by decide) rfl 43 rfl ?_
    exact ww_iret C hr dX0_sizeOf_43 (by rw [s_szV, if_pos q1_4]) (by rw [s_szT, if_pos q1_4]; rfl)
  · skip
    refine ww_aload_n (i := 0) C dX0_sizeOf_32 rfl rfl 33 rfl ?_
    refine ww_iload_n (i := 1) C dX0_sizeOf_33 rfl rfl 34 rfl ?_
    refine ww_callV1 C (c_X0_fastSize l Γ ht) mi_X0_fastSize im_X0_fastSize se_X0_fastSize ml_X0_26 dX0_sizeOf_34 0 rfl rfl rfl (Nat.le_of_ble_eq_true rfl) (Nat.le_of_ble_eq_true rfl) (Nat.le_of_ble_eq_true rfl) ⟨Nat.zero_le _, Nat.zero_le _⟩ [0, 1] rfl (by decide) rfl 37 rfl ?_
    exact ww_iret C hr dX0_sizeOf_37 (by rw [s_szV, if_neg q1_4, if_pos q2_4]) (by rw [s_szT, if_neg q1_4, if_pos q2_4]; rfl)
  · skip
    refine ww_aload_n (i := 0) C dX0_sizeOf_44 rfl rfl 45 rfl ?_
    refine ww_iload_n (i := 1) C dX0_sizeOf_45 rfl rfl 46 rfl ?_
    refine ww_callV1 C (c_X0_oddSize l Γ ht) mi_X0_oddSize im_X0_oddSize se_X0_oddSize ml_X0_32 dX0_sizeOf_46 0 rfl rfl rfl (Nat.le_of_ble_eq_true rfl) (Nat.le_of_ble_eq_true rfl) (Nat.le_of_ble_eq_true rfl) ⟨Nat.zero_le _, Nat.zero_le _⟩ [0, 1] rfl (by decide) rfl 49 rfl ?_
    exact ww_iret C hr dX0_sizeOf_49 (by rw [s_szV, if_neg q1_4, if_neg q2_4]) (by rw [s_szT, if_neg q1_4, if_neg q2_4]; rfl)
theorem c_X0_markOf (l : Launch) (Γ : Gm) {h0 hb : Nat} {σ : TrS} {f : Int32} (ht : σ.2 ≤ 16) : Ct l Γ yX0_markOf cX0_markOf 2 (some .int) 5 [.ref h0, .int f] (wBod Γ h0 hb σ) (some (.int (s_mkV f))) (wBod Γ h0 hb (s_mkT f σ)) := by
  refine Ct.of mi_X0_markOf [some (.ref h0), some (.int f)] 0 rfl (Nat.le_of_ble_eq_true rfl) ?_
  intro p e s m args below meth c C hr
  refine ww_iload_n (i := 1) C dX0_markOf_0 rfl rfl 1 rfl ?_
  refine ww_callS1p C (c_X3_toldKind l Γ) mi_X3_toldKind st_X3_toldKind ml_X0_20 dX0_markOf_1 (Nat.le_of_ble_eq_true rfl) (Nat.le_of_ble_eq_true rfl) (Nat.le_of_ble_eq_true rfl) ⟨Nat.zero_le _, Nat.zero_le _⟩ [] rfl (by decide) 4 rfl ?_
  refine ww_lk2 (k1 := 1) (k2 := 2) C 44 38 32 dX0_markOf_4 (by decide) (by decide) (by decide) (by decide) (by decide) (by decide) (fun q1_4 => ?_) (fun q1_4 q2_4 => ?_) (fun q1_4 q2_4 => ?_)
  · skip
    refine ww_aload_n (i := 0) C dX0_markOf_38 rfl rfl 39 rfl ?_
    refine ww_iload_n (i := 1) C dX0_markOf_39 rfl rfl 40 rfl ?_
    refine ww_callV1 C (c_X0_lentMark l Γ ht) mi_X0_lentMark im_X0_lentMark se_X0_lentMark ml_X0_38 dX0_markOf_40 0 rfl rfl rfl (Nat.le_of_ble_eq_true rfl) (Nat.le_of_ble_eq_true rfl) (Nat.le_of_ble_eq_true rfl) ⟨Nat.zero_le _, Nat.zero_le _⟩ [0, 1] rfl (by decide) rfl 43 rfl ?_
    exact ww_iret C hr dX0_markOf_43 (by rw [s_mkV, if_pos q1_4]) (by rw [s_mkT, if_pos q1_4]; rfl)
  · skip
    refine ww_aload_n (i := 0) C dX0_markOf_32 rfl rfl 33 rfl ?_
    refine ww_iload_n (i := 1) C dX0_markOf_33 rfl rfl 34 rfl ?_
    refine ww_callV1 C (c_X0_fastMark l Γ ht) mi_X0_fastMark im_X0_fastMark se_X0_fastMark ml_X0_35 dX0_markOf_34 0 rfl rfl rfl (Nat.le_of_ble_eq_true rfl) (Nat.le_of_ble_eq_true rfl) (Nat.le_of_ble_eq_true rfl) ⟨Nat.zero_le _, Nat.zero_le _⟩ [0, 1] rfl (by decide) rfl 37 rfl ?_
    exact ww_iret C hr dX0_markOf_37 (by rw [s_mkV, if_neg q1_4, if_pos q2_4]) (by rw [s_mkT, if_neg q1_4, if_pos q2_4]; rfl)
  · skip
    refine ww_aload_n (i := 0) C dX0_markOf_44 rfl rfl 45 rfl ?_
    refine ww_iload_n (i := 1) C dX0_markOf_45 rfl rfl 46 rfl ?_
    refine ww_callV1 C (c_X0_oddMark l Γ ht) mi_X0_oddMark im_X0_oddMark se_X0_oddMark ml_X0_41 dX0_markOf_46 0 rfl rfl rfl (Nat.le_of_ble_eq_true rfl) (Nat.le_of_ble_eq_true rfl) (Nat.le_of_ble_eq_true rfl) ⟨Nat.zero_le _, Nat.zero_le _⟩ [0, 1] rfl (by decide) rfl 49 rfl ?_
    exact ww_iret C hr dX0_markOf_49 (by rw [s_mkV, if_neg q1_4, if_neg q2_4]) (by rw [s_mkT, if_neg q1_4, if_neg q2_4]; rfl)
def s_tst (w a b : Int32) (ch : Int64) : Int32 :=
  if w = 6711655 then bI (s_fa ch b = a) else if w = 1702258030 then bI (s_bc32 (s_fa ch a) - s_bc32 (s_fa ch a) / 2 * 2 = 0) else if w = 1885434739 then bI (¬ s_seen ch (s_fa ch 0) 1 11 < a) else if w = 1935764837 then bI (s_fa ch a = s_fa ch b) else 0
theorem s_tst_z (w a b : Int32) (ch : Int64) : narrow .boolean (.int (s_tst w a b ch)) = .int (s_tst w a b ch) := by
  unfold s_tst
  repeat' split
  all_goals first | exact bI_z | rfl
/-- the first t tests of rule r are true of the chart -/
def s_tr (wd fi se : Nat → Int32) (r : Nat) (ch : Int64) : Nat → Bool
  | 0 => true
  | j + 1 => s_tr wd fi se r ch j && !(s_tst (wd (4 * r + j)) (fi (4 * r + j)) (se (4 * r + j)) ch == 0)
theorem s_tr_lt {wd fi se : Nat → Int32} {r : Nat} {ch : Int64} {t j : Nat} (hj : j < t) (h : s_tst (wd (4 * r + j)) (fi (4 * r + j)) (se (4 * r + j)) ch = 0) : s_tr wd fi se r ch t = false := by
  induction t with
  | zero => omega
  | succ t ih =>
    rw [s_tr]
    rcases Nat.lt_or_ge j t with q | q
    · rw [ih q, Bool.false_and]
    · obtain rfl : j = t := by omega
      simp [h]
theorem c_X6_testIsTrue (l : Launch) (Γ : Gm) {w a b : Int32} {ch : Int64}  : Ct l Γ yX6_testIsTrue cX6_testIsTrue 5 (some .boolean) 2 [.int w, .int a, .int b, .long ch] [] (some (.int (s_tst w a b ch))) [] := by
  refine Ct.of mi_X6_testIsTrue [some (.int w), some (.int a), some (.int b), some (.long ch), none] 0 rfl (Nat.le_of_ble_eq_true rfl) ?_
  intro p e s m args below meth c C hr
  refine ww_iload_n (i := 0) C dX6_testIsTrue_0 rfl rfl 1 rfl ?_
  refine ww_lk4 (k1 := 6711655) (k2 := 1702258030) (k3 := 1885434739) (k4 := 1935764837) C 109 44 100 78 59 dX6_testIsTrue_1 (by decide) (by decide) (by decide) (by decide) (by decide) (by decide) (by decide) (by decide) (by decide) (by decide) (fun q1_1 => ?_) (fun q1_1 q2_1 => ?_) (fun q1_1 q2_1 q3_1 => ?_) (fun q1_1 q2_1 q3_1 q4_1 => ?_) (fun q1_1 q2_1 q3_1 q4_1 => ?_)
  · skip
    refine ww_lload_n (i := 3) C dX6_testIsTrue_44 rfl rfl 45 rfl ?_
    refine ww_iload_n (i := 2) C dX6_testIsTrue_45 rfl rfl 46 rfl ?_
    refine ww_callS2p C (c_X2_figureAt l Γ) mi_X2_figureAt st_X2_figureAt ml_X6_48 dX6_testIsTrue_46 (Nat.le_of_ble_eq_true rfl) (Nat.le_of_ble_eq_true rfl) (Nat.le_of_ble_eq_true rfl) ⟨Nat.zero_le _, Nat.zero_le _⟩ [] rfl (by decide) 49 rfl ?_
    refine ww_iload_n (i := 1) C dX6_testIsTrue_49 rfl rfl 50 rfl ?_
    refine ww_icmp_ne C 57 dX6_testIsTrue_50 (by decide) 53 rfl (fun h_50 => ?_) (fun h_50 => ?_)
    · skip
      refine ww_iconst (v := 0) C dX6_testIsTrue_57 (by decide) 58 rfl ?_
      exact ww_zret C hr rfl dX6_testIsTrue_58 (by rw [s_tst, if_pos q1_1]; first | rw [bI_1 h_50] | rw [bI_0 h_50]) rfl
    · skip
      refine ww_iconst (v := 1) C dX6_testIsTrue_53 (by decide) 54 rfl ?_
      refine ww_goto C 58 dX6_testIsTrue_54 (by decide) ?_
      exact ww_zret C hr rfl dX6_testIsTrue_58 (by rw [s_tst, if_pos q1_1]; first | rw [bI_1 h_50] | rw [bI_0 h_50]) rfl
  · skip
    refine ww_lload_n (i := 3) C dX6_testIsTrue_100 rfl rfl 101 rfl ?_
    refine ww_iload_n (i := 1) C dX6_testIsTrue_101 rfl rfl 102 rfl ?_
    refine ww_callS2p C (c_X2_figureAt l Γ) mi_X2_figureAt st_X2_figureAt ml_X6_48 dX6_testIsTrue_102 (Nat.le_of_ble_eq_true rfl) (Nat.le_of_ble_eq_true rfl) (Nat.le_of_ble_eq_true rfl) ⟨Nat.zero_le _, Nat.zero_le _⟩ [] rfl (by decide) 105 rfl ?_
    refine ww_callS1p C (c_X3_isEven l Γ) mi_X3_isEven st_X3_isEven ml_X6_58 dX6_testIsTrue_105 (Nat.le_of_ble_eq_true rfl) (Nat.le_of_ble_eq_true rfl) (Nat.le_of_ble_eq_true rfl) ⟨Nat.zero_le _, Nat.zero_le _⟩ [] rfl (by decide) 108 rfl ?_
    exact ww_zret C hr bI_z dX6_testIsTrue_108 (by rw [s_tst, if_neg q1_1, if_pos q2_1]) rfl
  · skip
    refine ww_lload_n (i := 3) C dX6_testIsTrue_78 rfl rfl 79 rfl ?_
    refine ww_lload_n (i := 3) C dX6_testIsTrue_79 rfl rfl 80 rfl ?_
    refine ww_iconst (v := 0) C dX6_testIsTrue_80 (by decide) 81 rfl ?_
    refine ww_callS2p C (c_X2_figureAt l Γ) mi_X2_figureAt st_X2_figureAt ml_X6_48 dX6_testIsTrue_81 (Nat.le_of_ble_eq_true rfl) (Nat.le_of_ble_eq_true rfl) (Nat.le_of_ble_eq_true rfl) ⟨Nat.zero_le _, Nat.zero_le _⟩ [] rfl (by decide) 84 rfl ?_
    refine ww_iconst (v := 1) C dX6_testIsTrue_84 (by decide) 85 rfl ?_
    refine ww_bipush (v := 11) C dX6_testIsTrue_85 (by decide) 87 rfl ?_
    refine ww_callS4p C (c_X2_timesSeen l Γ (a := 1) (n := 11) (b := 11) rfl (by decide)) mi_X2_timesSeen st_X2_timesSeen ml_X6_54 dX6_testIsTrue_87 (Nat.le_of_ble_eq_true rfl) (Nat.le_of_ble_eq_true rfl) (Nat.le_of_ble_eq_true rfl) ⟨Nat.zero_le _, Nat.zero_le _⟩ [] rfl (by decide) 90 rfl ?_
    refine ww_iload_n (i := 1) C dX6_testIsTrue_90 rfl rfl 91 rfl ?_
    refine ww_icmp_lt C 98 dX6_testIsTrue_91 (by decide) 94 rfl (fun h_91 => ?_) (fun h_91 => ?_)
    · skip
      refine ww_iconst (v := 0) C dX6_testIsTrue_98 (by decide) 99 rfl ?_
      exact ww_zret C hr rfl dX6_testIsTrue_99 (by rw [s_tst, if_neg q1_1, if_neg q2_1, if_pos q3_1]; first | rw [bI_1 h_91] | rw [bI_0 (fun z => z h_91)]) rfl
    · skip
      refine ww_iconst (v := 1) C dX6_testIsTrue_94 (by decide) 95 rfl ?_
      refine ww_goto C 99 dX6_testIsTrue_95 (by decide) ?_
      exact ww_zret C hr rfl dX6_testIsTrue_99 (by rw [s_tst, if_neg q1_1, if_neg q2_1, if_pos q3_1]; first | rw [bI_1 h_91] | rw [bI_0 (fun z => z h_91)]) rfl
  · skip
    refine ww_lload_n (i := 3) C dX6_testIsTrue_59 rfl rfl 60 rfl ?_
    refine ww_iload_n (i := 1) C dX6_testIsTrue_60 rfl rfl 61 rfl ?_
    refine ww_callS2p C (c_X2_figureAt l Γ) mi_X2_figureAt st_X2_figureAt ml_X6_48 dX6_testIsTrue_61 (Nat.le_of_ble_eq_true rfl) (Nat.le_of_ble_eq_true rfl) (Nat.le_of_ble_eq_true rfl) ⟨Nat.zero_le _, Nat.zero_le _⟩ [] rfl (by decide) 64 rfl ?_
    refine ww_lload_n (i := 3) C dX6_testIsTrue_64 rfl rfl 65 rfl ?_
    refine ww_iload_n (i := 2) C dX6_testIsTrue_65 rfl rfl 66 rfl ?_
    refine ww_callS2p C (c_X2_figureAt l Γ) mi_X2_figureAt st_X2_figureAt ml_X6_48 dX6_testIsTrue_66 (Nat.le_of_ble_eq_true rfl) (Nat.le_of_ble_eq_true rfl) (Nat.le_of_ble_eq_true rfl) ⟨Nat.zero_le _, Nat.zero_le _⟩ [] rfl (by decide) 69 rfl ?_
    refine ww_icmp_ne C 76 dX6_testIsTrue_69 (by decide) 72 rfl (fun h_69 => ?_) (fun h_69 => ?_)
    · skip
      refine ww_iconst (v := 0) C dX6_testIsTrue_76 (by decide) 77 rfl ?_
      exact ww_zret C hr rfl dX6_testIsTrue_77 (by rw [s_tst, if_neg q1_1, if_neg q2_1, if_neg q3_1, if_pos q4_1]; first | rw [bI_1 h_69] | rw [bI_0 h_69]) rfl
    · skip
      refine ww_iconst (v := 1) C dX6_testIsTrue_72 (by decide) 73 rfl ?_
      refine ww_goto C 77 dX6_testIsTrue_73 (by decide) ?_
      exact ww_zret C hr rfl dX6_testIsTrue_77 (by rw [s_tst, if_neg q1_1, if_neg q2_1, if_neg q3_1, if_pos q4_1]; first | rw [bI_1 h_69] | rw [bI_0 h_69]) rfl
  · skip
    refine ww_iconst (v := 0) C dX6_testIsTrue_109 (by decide) 110 rfl ?_
    exact ww_zret C hr rfl dX6_testIsTrue_110 (by rw [s_tst, if_neg q1_1, if_neg q2_1, if_neg q3_1, if_neg q4_1]) rfl
theorem c_X6_isFull (l : Launch) (Γ : Gm) {hr0 qw qf qs qt qn n : Nat}  : Ct l Γ yX6_isFull cX6_isFull 1 (some .boolean) 0 [.ref hr0] [(hr0, .inr (4, [.ref qw, .ref qf, .ref qs, .ref qt, .ref qn, .int (nI n)]))] (some (.int (bI (¬ nI n < 15)))) [(hr0, .inr (4, [.ref qw, .ref qf, .ref qs, .ref qt, .ref qn, .int (nI n)]))] := by
  refine Ct.of mi_X6_isFull [some (.ref hr0)] 0 rfl (Nat.le_of_ble_eq_true rfl) ?_
  intro p e s m args below meth c C hr
  refine ww_aload_n (i := 0) C dX6_isFull_0 rfl rfl 1 rfl ?_
  refine ww_get C fe_X6_27 dX6_isFull_1 0 rfl rfl 4 rfl ?_
  refine ww_bipush (v := 15) C dX6_isFull_4 (by decide) 6 rfl ?_
  refine ww_icmp_lt C 13 dX6_isFull_6 (by decide) 9 rfl (fun h_6 => ?_) (fun h_6 => ?_)
  · skip
    refine ww_iconst (v := 0) C dX6_isFull_13 (by decide) 14 rfl ?_
    exact ww_zret C hr rfl dX6_isFull_14 (by simp [bI, *]) rfl
  · skip
    refine ww_iconst (v := 1) C dX6_isFull_9 (by decide) 10 rfl ?_
    refine ww_goto C 14 dX6_isFull_10 (by decide) ?_
    exact ww_zret C hr rfl dX6_isFull_14 (by simp [bI, *]) rfl
theorem c_X6_hasRule (l : Launch) (Γ : Gm) {hr0 qw qf qs qt qn n : Nat} {x : Int32}  : Ct l Γ yX6_hasRule cX6_hasRule 2 (some .boolean) 0 [.ref hr0, .int x] [(hr0, .inr (4, [.ref qw, .ref qf, .ref qs, .ref qt, .ref qn, .int (nI n)]))] (some (.int (bI (¬ x < 0 ∧ ¬ nI n ≤ x)))) [(hr0, .inr (4, [.ref qw, .ref qf, .ref qs, .ref qt, .ref qn, .int (nI n)]))] := by
  refine Ct.of mi_X6_hasRule [some (.ref hr0), some (.int x)] 0 rfl (Nat.le_of_ble_eq_true rfl) ?_
  intro p e s m args below meth c C hr
  refine ww_iload_n (i := 1) C dX6_hasRule_0 rfl rfl 1 rfl ?_
  refine ww_if_lt C 16 dX6_hasRule_1 (by decide) 4 rfl (fun h_1 => ?_) (fun h_1 => ?_)
  · skip
    refine ww_iconst (v := 0) C dX6_hasRule_16 (by decide) 17 rfl ?_
    exact ww_zret C hr rfl dX6_hasRule_17 (by simp [bI, *]) rfl
  · skip
    refine ww_iload_n (i := 1) C dX6_hasRule_4 rfl rfl 5 rfl ?_
    refine ww_aload_n (i := 0) C dX6_hasRule_5 rfl rfl 6 rfl ?_
    refine ww_get C fe_X6_27 dX6_hasRule_6 0 rfl rfl 9 rfl ?_
    refine ww_icmp_ge C 16 dX6_hasRule_9 (by decide) 12 rfl (fun h_9 => ?_) (fun h_9 => ?_)
    · skip
      refine ww_iconst (v := 0) C dX6_hasRule_16 (by decide) 17 rfl ?_
      exact ww_zret C hr rfl dX6_hasRule_17 (by simp [bI, *]) rfl
    · skip
      refine ww_iconst (v := 1) C dX6_hasRule_12 (by decide) 13 rfl ?_
      refine ww_goto C 17 dX6_hasRule_13 (by decide) ?_
      exact ww_zret C hr rfl dX6_hasRule_17 (by simp [bI, *]) rfl
theorem c_X6_numberSaid (l : Launch) (Γ : Gm) {hr0 qw qf qs qt qn n : Nat} {r : Nat} {nu : Nat → Int32} (hr9 : r < n) (hn : n ≤ 15) : Ct l Γ yX6_numberSaid cX6_numberSaid 2 (some .int) 1 [.ref hr0, .int (nI r)] [(hr0, .inr (4, [.ref qw, .ref qf, .ref qs, .ref qt, .ref qn, .int (nI n)])), (qn, .inl (Γ.2.1, 15, .inl nu))] (some (.int (nu r))) [(hr0, .inr (4, [.ref qw, .ref qf, .ref qs, .ref qt, .ref qn, .int (nI n)])), (qn, .inl (Γ.2.1, 15, .inl nu))] := by
  refine Ct.of mi_X6_numberSaid [some (.ref hr0), some (.int (nI r))] 0 rfl (Nat.le_of_ble_eq_true rfl) ?_
  intro p e s m args below meth c C hr
  refine ww_aload_n (i := 0) C dX6_numberSaid_0 rfl rfl 1 rfl ?_
  refine ww_iload_n (i := 1) C dX6_numberSaid_1 rfl rfl 2 rfl ?_
  refine ww_callV1p C (c_X6_hasRule l Γ) mi_X6_hasRule im_X6_hasRule se_X6_hasRule ml_X6_35 dX6_numberSaid_2 0 rfl rfl rfl (Nat.le_of_ble_eq_true rfl) (Nat.le_of_ble_eq_true rfl) (Nat.le_of_ble_eq_true rfl) ⟨Nat.zero_le _, Nat.zero_le _⟩ [0] rfl (by decide) 5 rfl ?_
  refine ww_if_eq C 17 dX6_numberSaid_5 (by decide) 8 rfl (fun h_5 => ?_) (fun h_5 => ?_)
  · exact absurd (⟨nI_pos (by omega), nI_ge hr9 (by omega)⟩ : ¬ nI r < 0 ∧ ¬ nI n ≤ nI r) (bI_e0 h_5)
  · skip
    refine ww_aload_n (i := 0) C dX6_numberSaid_8 rfl rfl 9 rfl ?_
    refine ww_get C fe_X6_24 dX6_numberSaid_9 0 rfl rfl 12 rfl ?_
    refine ww_iload_n (i := 1) C dX6_numberSaid_12 rfl rfl 13 rfl ?_
    refine ww_iald C dX6_numberSaid_13 1 rfl (vp_in_nI (by omega) (by decide)) 14 rfl ?_
    refine ww_goto C 19 dX6_numberSaid_14 (by decide) ?_
    exact ww_iret C hr dX6_numberSaid_19 (by rw [nI_clamp (by omega)]) rfl
theorem c_X6_isTrueOf (l : Launch) (Γ : Gm) {hr0 qw qf qs qt qn n : Nat} {r t : Nat} {ch : Int64} {wd fi se te : Nat → Int32} (hr9 : r < n) (hn : n ≤ 15) (ht : te r = nI t) (h4 : t ≤ 4) : Ct l Γ yX6_isTrueOf cX6_isTrueOf 6 (some .boolean) 3 [.ref hr0, .int (nI r), .long ch] [(hr0, .inr (4, [.ref qw, .ref qf, .ref qs, .ref qt, .ref qn, .int (nI n)])), (qw, .inl (Γ.2.1, 60, .inl wd)), (qf, .inl (Γ.2.1, 60, .inl fi)), (qs, .inl (Γ.2.1, 60, .inl se)), (qt, .inl (Γ.2.1, 15, .inl te))] (some (.int (bI (s_tr wd fi se r ch t = true)))) [(hr0, .inr (4, [.ref qw, .ref qf, .ref qs, .ref qt, .ref qn, .int (nI n)])), (qw, .inl (Γ.2.1, 60, .inl wd)), (qf, .inl (Γ.2.1, 60, .inl fi)), (qs, .inl (Γ.2.1, 60, .inl se)), (qt, .inl (Γ.2.1, 15, .inl te))] := by
  refine Ct.of mi_X6_isTrueOf [some (.ref hr0), some (.int (nI r)), some (.long ch), none, none, none] 2 rfl (Nat.le_of_ble_eq_true rfl) ?_
  intro p e s m args below meth c C hr
  refine ww_aload_n (i := 0) C dX6_isTrueOf_0 rfl rfl 1 rfl ?_
  refine ww_iload_n (i := 1) C dX6_isTrueOf_1 rfl rfl 2 rfl ?_
  refine ww_callV1p C (c_X6_hasRule l Γ) mi_X6_hasRule im_X6_hasRule se_X6_hasRule ml_X6_35 dX6_isTrueOf_2 0 rfl rfl rfl (Nat.le_of_ble_eq_true rfl) (Nat.le_of_ble_eq_true rfl) (Nat.le_of_ble_eq_true rfl) ⟨Nat.zero_le _, Nat.zero_le _⟩ [0] rfl (by decide) 5 rfl ?_
  refine ww_if_ne C 10 dX6_isTrueOf_5 (by decide) 8 rfl (fun h_5 => ?_) (fun h_5 => ?_)
  · skip
    refine ww_iconst (v := 0) C dX6_isTrueOf_10 (by decide) 11 rfl ?_
    refine ww_istore C dX6_isTrueOf_11 (by decide) rfl 13 rfl ?_
    refine ww_lv (lv' := [some (.ref hr0), some (.int (nI r)), some (.long ch), none, some (.int (nI 0)), none]) (lvle_same (lvle_same (lvle_same (lvle_same (lvle_same (lvle_none lvle_nil)))))) ?_
    refine ww_loop (fun j : Nat => t - j) (fun j => j ≤ t ∧ s_tr wd fi se r ch j = true) (fun _ => [(hr0, .inr (4, [.ref qw, .ref qf, .ref qs, .ref qt, .ref qn, .int (nI n)])), (qw, .inl (Γ.2.1, 60, .inl wd)), (qf, .inl (Γ.2.1, 60, .inl fi)), (qs, .inl (Γ.2.1, 60, .inl se)), (qt, .inl (Γ.2.1, 15, .inl te))]) (fun j => [some (.ref hr0), some (.int (nI r)), some (.long ch), none, some (.int (nI j)), none]) (0 : Nat) ⟨Nat.zero_le _, rfl⟩ rfl rfl (fun j hj ih => ?_)
    obtain ⟨hj, hw⟩ := hj
    try dsimp only at hj ih ⊢
    refine ww_iload C dX6_isTrueOf_13 rfl 15 rfl ?_
    refine ww_aload_n (i := 0) C dX6_isTrueOf_15 rfl rfl 16 rfl ?_
    refine ww_get C fe_X6_21 dX6_isTrueOf_16 0 rfl rfl 19 rfl ?_
    refine ww_iload_n (i := 1) C dX6_isTrueOf_19 rfl rfl 20 rfl ?_
    refine ww_iald C dX6_isTrueOf_20 4 rfl (vp_in_nI (by omega) (by decide)) 21 rfl ?_
    rw [nI_clamp (show r < 2 ^ 31 by omega), ht]
    refine ww_icmp_ge C 68 dX6_isTrueOf_21 (by decide) 24 rfl (fun h_21 => ?_) (fun h_21 => ?_)
    · skip
      obtain rfl : j = t := eqN h_21 hj (by omega)
      refine ww_iconst (v := 1) C dX6_isTrueOf_68 (by decide) 69 rfl ?_
      exact ww_zret C hr rfl dX6_isTrueOf_69 (by rw [bI_1 hw]) rfl
    · skip
      have hlt : j < t := ltN h_21 (by omega) (by omega)
      have ei : nI r * 4 + nI j = nI (4 * r + j) := by rw [show (4 : Int32) = nI 4 from rfl, pk_mul, nI_add, Nat.mul_comm]
      have ec : (nI r * 4 + nI j).toNatClampNeg = 4 * r + j := by rw [ei]; exact nI_clamp (by omega)
      refine ww_iload_n (i := 1) C dX6_isTrueOf_24 rfl rfl 25 rfl ?_
      refine ww_iconst (v := 4) C dX6_isTrueOf_25 (by decide) 26 rfl ?_
      refine ww_imul C dX6_isTrueOf_26 27 rfl ?_
      refine ww_iload C dX6_isTrueOf_27 rfl 29 rfl ?_
      refine ww_iadd C dX6_isTrueOf_29 30 rfl ?_
      refine ww_istore C dX6_isTrueOf_30 (by decide) rfl 32 rfl ?_
      refine ww_aload_n (i := 0) C dX6_isTrueOf_32 rfl rfl 33 rfl ?_
      refine ww_get C fe_X6_11 dX6_isTrueOf_33 0 rfl rfl 36 rfl ?_
      refine ww_iload C dX6_isTrueOf_36 rfl 38 rfl ?_
      refine ww_iald C dX6_isTrueOf_38 1 rfl (by rw [ei]; exact vp_in_nI (by omega) (by decide)) 39 rfl ?_
      refine ww_aload_n (i := 0) C dX6_isTrueOf_39 rfl rfl 40 rfl ?_
      refine ww_get C fe_X6_15 dX6_isTrueOf_40 0 rfl rfl 43 rfl ?_
      refine ww_iload C dX6_isTrueOf_43 rfl 45 rfl ?_
      refine ww_iald C dX6_isTrueOf_45 2 rfl (by rw [ei]; exact vp_in_nI (by omega) (by decide)) 46 rfl ?_
      refine ww_aload_n (i := 0) C dX6_isTrueOf_46 rfl rfl 47 rfl ?_
      refine ww_get C fe_X6_18 dX6_isTrueOf_47 0 rfl rfl 50 rfl ?_
      refine ww_iload C dX6_isTrueOf_50 rfl 52 rfl ?_
      refine ww_iald C dX6_isTrueOf_52 3 rfl (by rw [ei]; exact vp_in_nI (by omega) (by decide)) 53 rfl ?_
      rw [ec]
      refine ww_lload_n (i := 2) C dX6_isTrueOf_53 rfl rfl 54 rfl ?_
      refine ww_callS4p C (c_X6_testIsTrue l Γ) mi_X6_testIsTrue st_X6_testIsTrue ml_X6_44 dX6_isTrueOf_54 (Nat.le_of_ble_eq_true rfl) (Nat.le_of_ble_eq_true rfl) (Nat.le_of_ble_eq_true rfl) ⟨Nat.zero_le _, Nat.zero_le _⟩ [] rfl (by decide) 57 rfl ?_
      refine ww_if_ne C 62 dX6_isTrueOf_57 (by decide) 60 rfl (fun h_57 => ?_) (fun h_57 => ?_)
      · skip
        refine ww_iinc (y := 1) C dX6_isTrueOf_62 rfl (by decide) (by decide) rfl 65 rfl ?_
        refine ww_goto C 13 dX6_isTrueOf_65 (by decide) ?_
        refine ww_lv (lv' := [some (.ref hr0), some (.int (nI r)), some (.long ch), none, some (.int (nI (j + 1))), none]) (by rw [nI_succ j]; exact (lvle_same (lvle_same (lvle_same (lvle_same (lvle_same (lvle_none lvle_nil))))))) (ih (j + 1) ⟨by omega, by rw [s_tr, hw, Bool.true_and]; simpa using h_57⟩ (by omega))
      · skip
        have hz := s_tr_lt hlt h_57
        refine ww_iconst (v := 0) C dX6_isTrueOf_60 (by decide) 61 rfl ?_
        exact ww_zret C hr rfl dX6_isTrueOf_61 (by rw [bI_0 (by rw [hz]; decide)]) rfl
  · exact absurd (⟨nI_pos (by omega), nI_ge hr9 (by omega)⟩ : ¬ nI r < 0 ∧ ¬ nI n ≤ nI r) (bI_e0 h_5)
theorem c_X6_firstThatHolds (l : Launch) (Γ : Gm) {hr0 qw qf qs qt qn n : Nat} {ch : Int64} {wd fi se te : Nat → Int32} {tn : Nat → Nat} {r9 : Int32} (hn : n ≤ 15) (ht : ∀ r, r < n → te r = nI (tn r) ∧ tn r ≤ 4) (h1 : ∀ r, r < n → s_tr wd fi se r ch (tn r) = true → (∀ j, j < r → s_tr wd fi se j ch (tn j) = false) → r9 = nI r) (h0 : (∀ j, j < n → s_tr wd fi se j ch (tn j) = false) → r9 = -1000000) : Ct l Γ yX6_firstThatHolds cX6_firstThatHolds 4 (some .int) 4 [.ref hr0, .long ch] [(hr0, .inr (4, [.ref qw, .ref qf, .ref qs, .ref qt, .ref qn, .int (nI n)])), (qw, .inl (Γ.2.1, 60, .inl wd)), (qf, .inl (Γ.2.1, 60, .inl fi)), (qs, .inl (Γ.2.1, 60, .inl se)), (qt, .inl (Γ.2.1, 15, .inl te))] (some (.int r9)) [(hr0, .inr (4, [.ref qw, .ref qf, .ref qs, .ref qt, .ref qn, .int (nI n)])), (qw, .inl (Γ.2.1, 60, .inl wd)), (qf, .inl (Γ.2.1, 60, .inl fi)), (qs, .inl (Γ.2.1, 60, .inl se)), (qt, .inl (Γ.2.1, 15, .inl te))] := by
  refine Ct.of mi_X6_firstThatHolds [some (.ref hr0), some (.long ch), none, none] 1 rfl (Nat.le_of_ble_eq_true rfl) ?_
  intro p e s m args below meth c C hr
  refine ww_iconst (v := 0) C dX6_firstThatHolds_0 (by decide) 1 rfl ?_
  refine ww_istore_n (i := 3) C dX6_firstThatHolds_1 rfl (by decide) rfl 2 rfl ?_
  refine ww_loop (fun j : Nat => n - j) (fun j => j ≤ n ∧ ∀ i, i < j → s_tr wd fi se i ch (tn i) = false) (fun _ => [(hr0, .inr (4, [.ref qw, .ref qf, .ref qs, .ref qt, .ref qn, .int (nI n)])), (qw, .inl (Γ.2.1, 60, .inl wd)), (qf, .inl (Γ.2.1, 60, .inl fi)), (qs, .inl (Γ.2.1, 60, .inl se)), (qt, .inl (Γ.2.1, 15, .inl te))]) (fun j => [some (.ref hr0), some (.long ch), none, some (.int (nI j))]) (0 : Nat) ⟨Nat.zero_le _, fun i hi => absurd hi (Nat.not_lt_zero i)⟩ rfl rfl (fun j hj ih => ?_)
  obtain ⟨hj, hw⟩ := hj
  try dsimp only at hj ih ⊢
  refine ww_iload_n (i := 3) C dX6_firstThatHolds_2 rfl rfl 3 rfl ?_
  refine ww_aload_n (i := 0) C dX6_firstThatHolds_3 rfl rfl 4 rfl ?_
  refine ww_get C fe_X6_27 dX6_firstThatHolds_4 0 rfl rfl 7 rfl ?_
  refine ww_icmp_ge C 27 dX6_firstThatHolds_7 (by decide) 10 rfl (fun h_7 => ?_) (fun h_7 => ?_)
  · skip
    obtain rfl : j = n := eqN h_7 hj (by omega)
    obtain rfl := h0 hw
    refine ww_ldc C cn_X6_39 dX6_firstThatHolds_27 29 rfl ?_
    exact ww_iret C hr dX6_firstThatHolds_29 rfl rfl
  · skip
    have hlt : j < n := ltN h_7 (by omega) (by omega)
    refine ww_aload_n (i := 0) C dX6_firstThatHolds_10 rfl rfl 11 rfl ?_
    refine ww_iload_n (i := 3) C dX6_firstThatHolds_11 rfl rfl 12 rfl ?_
    refine ww_lload_n (i := 1) C dX6_firstThatHolds_12 rfl rfl 13 rfl ?_
    refine ww_callV2p C (c_X6_isTrueOf l Γ hlt hn (ht j hlt).1 (ht j hlt).2) mi_X6_isTrueOf im_X6_isTrueOf se_X6_isTrueOf ml_X6_40 dX6_firstThatHolds_13 0 rfl rfl rfl (Nat.le_of_ble_eq_true rfl) (Nat.le_of_ble_eq_true rfl) (Nat.le_of_ble_eq_true rfl) ⟨Nat.zero_le _, Nat.zero_le _⟩ [0, 1, 2, 3, 4] rfl (by decide) 16 rfl ?_
    refine ww_if_eq C 21 dX6_firstThatHolds_16 (by decide) 19 rfl (fun h_16 => ?_) (fun h_16 => ?_)
    · skip
      refine ww_iinc (y := 1) C dX6_firstThatHolds_21 rfl (by decide) (by decide) rfl 24 rfl ?_
      refine ww_goto C 2 dX6_firstThatHolds_24 (by decide) ?_
      refine ww_eq rfl (by rw [nI_succ j]; rfl) rfl (ih (j + 1) ⟨by omega, fun i hi => ?_⟩ (by omega))
      rcases Nat.lt_or_ge i j with q | q
      · exact hw i q
      · obtain rfl : i = j := by omega
        exact Bool.eq_false_iff.mpr (bI_e0 h_16)
    · skip
      obtain rfl := h1 j hlt (bI_n0 h_16) hw
      refine ww_iload_n (i := 3) C dX6_firstThatHolds_19 rfl rfl 20 rfl ?_
      exact ww_iret C hr dX6_firstThatHolds_20 rfl rfl
theorem c_X6_beginRule (l : Launch) (Γ : Gm) {hr0 qw qf qs qt qn n : Nat} {te : Nat → Int32} (hn : n < 15) : Ct l Γ yX6_beginRule cX6_beginRule 1 none 1 [.ref hr0] [(hr0, .inr (4, [.ref qw, .ref qf, .ref qs, .ref qt, .ref qn, .int (nI n)])), (qt, .inl (Γ.2.1, 15, .inl te))] (none) [(hr0, .inr (4, [.ref qw, .ref qf, .ref qs, .ref qt, .ref qn, .int (nI n)])), (qt, .inl (Γ.2.1, 15, .inl (upd te n 0)))] := by
  refine Ct.of mi_X6_beginRule [some (.ref hr0)] 0 rfl (Nat.le_of_ble_eq_true rfl) ?_
  intro p e s m args below meth c C hr
  refine ww_aload_n (i := 0) C dX6_beginRule_0 rfl rfl 1 rfl ?_
  refine ww_callV0p C (c_X6_isFull l Γ) mi_X6_isFull im_X6_isFull se_X6_isFull ml_X6_31 dX6_beginRule_1 0 rfl rfl rfl (Nat.le_of_ble_eq_true rfl) (Nat.le_of_ble_eq_true rfl) (Nat.le_of_ble_eq_true rfl) ⟨Nat.zero_le _, Nat.zero_le _⟩ [0] rfl (by decide) 4 rfl ?_
  refine ww_if_ne C 17 dX6_beginRule_4 (by decide) 7 rfl (fun h_4 => ?_) (fun h_4 => ?_)
  · exact absurd (nI_lt (b := 15) hn (by decide)) (bI_n0 h_4)
  · skip
    refine ww_aload_n (i := 0) C dX6_beginRule_7 rfl rfl 8 rfl ?_
    refine ww_get C fe_X6_21 dX6_beginRule_8 0 rfl rfl 11 rfl ?_
    refine ww_aload_n (i := 0) C dX6_beginRule_11 rfl rfl 12 rfl ?_
    refine ww_get C fe_X6_27 dX6_beginRule_12 0 rfl rfl 15 rfl ?_
    refine ww_iconst (v := 0) C dX6_beginRule_15 (by decide) 16 rfl ?_
    refine ww_iast C dX6_beginRule_16 1 rfl (vp_in_nI hn (by decide)) 17 rfl ?_
    exact ww_vret C hr dX6_beginRule_17 rfl (by rw [nI_clamp (by omega)]; rfl)
theorem c_X6_addTest (l : Launch) (Γ : Gm) {hr0 qw qf qs qt qn n : Nat} {t : Nat} {w a b : Int32} {wd fi se te : Nat → Int32} (hn : n < 15) (ht : te n = nI t) (h4 : t < 4) : Ct l Γ yX6_addTest cX6_addTest 5 none 1 [.ref hr0, .int w, .int a, .int b] [(hr0, .inr (4, [.ref qw, .ref qf, .ref qs, .ref qt, .ref qn, .int (nI n)])), (qw, .inl (Γ.2.1, 60, .inl wd)), (qf, .inl (Γ.2.1, 60, .inl fi)), (qs, .inl (Γ.2.1, 60, .inl se)), (qt, .inl (Γ.2.1, 15, .inl te))] (none) [(hr0, .inr (4, [.ref qw, .ref qf, .ref qs, .ref qt, .ref qn, .int (nI n)])), (qw, .inl (Γ.2.1, 60, .inl (upd wd (4 * n + t) w))), (qf, .inl (Γ.2.1, 60, .inl (upd fi (4 * n + t) a))), (qs, .inl (Γ.2.1, 60, .inl (upd se (4 * n + t) b))), (qt, .inl (Γ.2.1, 15, .inl (upd te n (nI (t + 1)))))] := by
  refine Ct.of mi_X6_addTest [some (.ref hr0), some (.int w), some (.int a), some (.int b), none] 1 rfl (Nat.le_of_ble_eq_true rfl) ?_
  intro p e s m args below meth c C hr
  refine ww_aload_n (i := 0) C dX6_addTest_0 rfl rfl 1 rfl ?_
  refine ww_callV0p C (c_X6_isFull l Γ) mi_X6_isFull im_X6_isFull se_X6_isFull ml_X6_31 dX6_addTest_1 0 rfl rfl rfl (Nat.le_of_ble_eq_true rfl) (Nat.le_of_ble_eq_true rfl) (Nat.le_of_ble_eq_true rfl) ⟨Nat.zero_le _, Nat.zero_le _⟩ [0] rfl (by decide) 4 rfl ?_
  refine ww_if_ne C 75 dX6_addTest_4 (by decide) 7 rfl (fun h_4 => ?_) (fun h_4 => ?_)
  · exact absurd (nI_lt (b := 15) hn (by decide)) (bI_n0 h_4)
  · skip
    refine ww_aload_n (i := 0) C dX6_addTest_7 rfl rfl 8 rfl ?_
    refine ww_get C fe_X6_21 dX6_addTest_8 0 rfl rfl 11 rfl ?_
    refine ww_aload_n (i := 0) C dX6_addTest_11 rfl rfl 12 rfl ?_
    refine ww_get C fe_X6_27 dX6_addTest_12 0 rfl rfl 15 rfl ?_
    refine ww_iald C dX6_addTest_15 4 rfl (vp_in_nI hn (by decide)) 16 rfl ?_
    rw [nI_clamp (show n < 2 ^ 31 by omega), ht]
    refine ww_iconst (v := 4) C dX6_addTest_16 (by decide) 17 rfl ?_
    refine ww_icmp_ge C 75 dX6_addTest_17 (by decide) 20 rfl (fun h_17 => ?_) (fun h_17 => ?_)
    · exact absurd h_17 (by rw [show (4 : Int32) = nI 4 from rfl, nI_leI (by decide) (by omega)]; omega)
    · skip
      refine ww_aload_n (i := 0) C dX6_addTest_20 rfl rfl 21 rfl ?_
      refine ww_get C fe_X6_27 dX6_addTest_21 0 rfl rfl 24 rfl ?_
      refine ww_iconst (v := 4) C dX6_addTest_24 (by decide) 25 rfl ?_
      refine ww_imul C dX6_addTest_25 26 rfl ?_
      refine ww_aload_n (i := 0) C dX6_addTest_26 rfl rfl 27 rfl ?_
      refine ww_get C fe_X6_21 dX6_addTest_27 0 rfl rfl 30 rfl ?_
      refine ww_aload_n (i := 0) C dX6_addTest_30 rfl rfl 31 rfl ?_
      refine ww_get C fe_X6_27 dX6_addTest_31 0 rfl rfl 34 rfl ?_
      refine ww_iald C dX6_addTest_34 4 rfl (vp_in_nI hn (by decide)) 35 rfl ?_
      have ei : nI n * 4 + nI t = nI (4 * n + t) := by rw [show (4 : Int32) = nI 4 from rfl, pk_mul, nI_add, Nat.mul_comm]
      rw [nI_clamp (show n < 2 ^ 31 by omega), ht]
      refine ww_iadd C dX6_addTest_35 36 rfl ?_
      rw [ei]
      refine ww_istore C dX6_addTest_36 (by decide) rfl 38 rfl ?_
      refine ww_aload_n (i := 0) C dX6_addTest_38 rfl rfl 39 rfl ?_
      refine ww_get C fe_X6_11 dX6_addTest_39 0 rfl rfl 42 rfl ?_
      refine ww_iload C dX6_addTest_42 rfl 44 rfl ?_
      refine ww_iload_n (i := 1) C dX6_addTest_44 rfl rfl 45 rfl ?_
      refine ww_iast C dX6_addTest_45 1 rfl (vp_in_nI (by omega) (by decide)) 46 rfl ?_
      refine ww_aload_n (i := 0) C dX6_addTest_46 rfl rfl 47 rfl ?_
      refine ww_get C fe_X6_15 dX6_addTest_47 0 rfl rfl 50 rfl ?_
      refine ww_iload C dX6_addTest_50 rfl 52 rfl ?_
      refine ww_iload_n (i := 2) C dX6_addTest_52 rfl rfl 53 rfl ?_
      refine ww_iast C dX6_addTest_53 2 rfl (vp_in_nI (by omega) (by decide)) 54 rfl ?_
      refine ww_aload_n (i := 0) C dX6_addTest_54 rfl rfl 55 rfl ?_
      refine ww_get C fe_X6_18 dX6_addTest_55 0 rfl rfl 58 rfl ?_
      refine ww_iload C dX6_addTest_58 rfl 60 rfl ?_
      refine ww_iload_n (i := 3) C dX6_addTest_60 rfl rfl 61 rfl ?_
      refine ww_iast C dX6_addTest_61 3 rfl (vp_in_nI (by omega) (by decide)) 62 rfl ?_
      refine ww_aload_n (i := 0) C dX6_addTest_62 rfl rfl 63 rfl ?_
      refine ww_get C fe_X6_21 dX6_addTest_63 0 rfl rfl 66 rfl ?_
      refine ww_aload_n (i := 0) C dX6_addTest_66 rfl rfl 67 rfl ?_
      refine ww_get C fe_X6_27 dX6_addTest_67 0 rfl rfl 70 rfl ?_
      refine ww_dup2 C dX6_addTest_70 rfl rfl 71 rfl ?_
      refine ww_iald C dX6_addTest_71 4 rfl (vp_in_nI hn (by decide)) 72 rfl ?_
      rw [nI_clamp (show n < 2 ^ 31 by omega), ht]
      refine ww_iconst (v := 1) C dX6_addTest_72 (by decide) 73 rfl ?_
      refine ww_iadd C dX6_addTest_73 74 rfl ?_
      refine ww_iast C dX6_addTest_74 4 rfl (vp_in_nI hn (by decide)) 75 rfl ?_
      exact ww_vret C hr dX6_addTest_75 rfl (by rw [nI_succ t, nI_clamp (show n < 2 ^ 31 by omega), nI_clamp (show 4 * n + t < 2 ^ 31 by omega)]; rfl)
theorem c_X6_endRule (l : Launch) (Γ : Gm) {hr0 qw qf qs qt qn n : Nat} {v : Int32} {nu : Nat → Int32} (hn : n < 15) : Ct l Γ yX6_endRule cX6_endRule 2 none 1 [.ref hr0, .int v] [(hr0, .inr (4, [.ref qw, .ref qf, .ref qs, .ref qt, .ref qn, .int (nI n)])), (qn, .inl (Γ.2.1, 15, .inl nu))] (none) [(hr0, .inr (4, [.ref qw, .ref qf, .ref qs, .ref qt, .ref qn, .int (nI (n + 1))])), (qn, .inl (Γ.2.1, 15, .inl (upd nu n v)))] := by
  refine Ct.of mi_X6_endRule [some (.ref hr0), some (.int v)] 0 rfl (Nat.le_of_ble_eq_true rfl) ?_
  intro p e s m args below meth c C hr
  refine ww_aload_n (i := 0) C dX6_endRule_0 rfl rfl 1 rfl ?_
  refine ww_callV0p C (c_X6_isFull l Γ) mi_X6_isFull im_X6_isFull se_X6_isFull ml_X6_31 dX6_endRule_1 0 rfl rfl rfl (Nat.le_of_ble_eq_true rfl) (Nat.le_of_ble_eq_true rfl) (Nat.le_of_ble_eq_true rfl) ⟨Nat.zero_le _, Nat.zero_le _⟩ [0] rfl (by decide) 4 rfl ?_
  refine ww_if_ne C 27 dX6_endRule_4 (by decide) 7 rfl (fun h_4 => ?_) (fun h_4 => ?_)
  · exact absurd (nI_lt (b := 15) hn (by decide)) (bI_n0 h_4)
  · skip
    refine ww_aload_n (i := 0) C dX6_endRule_7 rfl rfl 8 rfl ?_
    refine ww_get C fe_X6_24 dX6_endRule_8 0 rfl rfl 11 rfl ?_
    refine ww_aload_n (i := 0) C dX6_endRule_11 rfl rfl 12 rfl ?_
    refine ww_get C fe_X6_27 dX6_endRule_12 0 rfl rfl 15 rfl ?_
    refine ww_iload_n (i := 1) C dX6_endRule_15 rfl rfl 16 rfl ?_
    refine ww_iast C dX6_endRule_16 1 rfl (vp_in_nI hn (by decide)) 17 rfl ?_
    refine ww_aload_n (i := 0) C dX6_endRule_17 rfl rfl 18 rfl ?_
    refine ww_dup C dX6_endRule_18 rfl 19 rfl ?_
    refine ww_get C fe_X6_27 dX6_endRule_19 0 rfl rfl 22 rfl ?_
    refine ww_iconst (v := 1) C dX6_endRule_22 (by decide) 23 rfl ?_
    refine ww_iadd C dX6_endRule_23 24 rfl ?_
    refine ww_put C fe_X6_27 rfl dX6_endRule_24 0 rfl rfl rfl (Nat.le_of_ble_eq_true rfl) 27 rfl ?_
    exact ww_vret C hr dX6_endRule_27 rfl (by rw [nI_succ n, nI_clamp (show n < 2 ^ 31 by omega)]; rfl)
