theorem in_of_lt {x : Int32} {u n : Nat} (h0 : ¬ x < 0) (h1 : ¬ nI u ≤ x) (hu : u ≤ n) (hn : n < 2 ^ 31) : vp_in x n := by
  obtain ⟨j, hj, e, -⟩ := pk_mu h0 h1 (by omega)
  rw [e]
  exact vp_in_nI (by omega) hn
def s_tb (by0 : Nat → Int32) (u : Nat) (x : Int32) : Int32 := if x < 0 then 0 else if nI u ≤ x then 0 else by0 x.toNatClampNeg
def s_apb (by0 : Nat → Int32) (u : Nat) (w : Int64) (k : Nat) : Nat → (Nat → Int32)
  | 0 => by0
  | j + 1 => upd (s_apb by0 u w k j) (u + j) ((lushrI w (8 * nI (k - 1 - j))).toInt32 &&& 255)
theorem c_X8_hasRoom (l : Launch) (Γ : Gm) {h0 hb u : Nat} {n : Int32}  : Ct l Γ yX8_hasRoom cX8_hasRoom 2 (some .boolean) 0 [.ref h0, .int n] [(h0, .inr (6, [.ref hb, .int (nI u)]))] (some (.int (bI (¬ 400 - nI u < n)))) [(h0, .inr (6, [.ref hb, .int (nI u)]))] := by
  refine Ct.of mi_X8_hasRoom [some (.ref h0), some (.int n)] 0 rfl (Nat.le_of_ble_eq_true rfl) ?_
  intro p e s m args below meth c C hr
  refine ww_iload_n (i := 1) C dX8_hasRoom_0 rfl rfl 1 rfl ?_
  refine ww_sipush (v := 400) C dX8_hasRoom_1 (by decide) 4 rfl ?_
  refine ww_aload_n (i := 0) C dX8_hasRoom_4 rfl rfl 5 rfl ?_
  refine ww_get C fe_X8_13 dX8_hasRoom_5 0 rfl rfl 8 rfl ?_
  refine ww_isub C dX8_hasRoom_8 9 rfl ?_
  refine ww_icmp_gt C 16 dX8_hasRoom_9 (by decide) 12 rfl (fun h_9 => ?_) (fun h_9 => ?_)
  · skip
    refine ww_iconst (v := 0) C dX8_hasRoom_16 (by decide) 17 rfl ?_
    exact ww_zret C hr rfl dX8_hasRoom_17 (by simp [bI, *]) rfl
  · skip
    refine ww_iconst (v := 1) C dX8_hasRoom_12 (by decide) 13 rfl ?_
    refine ww_goto C 17 dX8_hasRoom_13 (by decide) ?_
    exact ww_zret C hr rfl dX8_hasRoom_17 (by simp [bI, *]) rfl
theorem c_X8_byteAt (l : Launch) (Γ : Gm) {h0 hb u : Nat} {by0 : Nat → Int32} {x : Int32} (hu : u ≤ 400) : Ct l Γ yX8_byteAt cX8_byteAt 2 (some .int) 0 [.ref h0, .int x] [(h0, .inr (6, [.ref hb, .int (nI u)])), (hb, .inl (Γ.2.1, 400, .inl by0))] (some (.int (s_tb by0 u x))) [(h0, .inr (6, [.ref hb, .int (nI u)])), (hb, .inl (Γ.2.1, 400, .inl by0))] := by
  refine Ct.of mi_X8_byteAt [some (.ref h0), some (.int x)] 0 rfl (Nat.le_of_ble_eq_true rfl) ?_
  intro p e s m args below meth c C hr
  refine ww_iload_n (i := 1) C dX8_byteAt_0 rfl rfl 1 rfl ?_
  refine ww_if_lt C 21 dX8_byteAt_1 (by decide) 4 rfl (fun h_1 => ?_) (fun h_1 => ?_)
  · skip
    refine ww_iconst (v := 0) C dX8_byteAt_21 (by decide) 22 rfl ?_
    exact ww_iret C hr dX8_byteAt_22 (by simp [s_tb, *]) rfl
  · skip
    refine ww_iload_n (i := 1) C dX8_byteAt_4 rfl rfl 5 rfl ?_
    refine ww_aload_n (i := 0) C dX8_byteAt_5 rfl rfl 6 rfl ?_
    refine ww_get C fe_X8_13 dX8_byteAt_6 0 rfl rfl 9 rfl ?_
    refine ww_icmp_ge C 21 dX8_byteAt_9 (by decide) 12 rfl (fun h_9 => ?_) (fun h_9 => ?_)
    · skip
      refine ww_iconst (v := 0) C dX8_byteAt_21 (by decide) 22 rfl ?_
      exact ww_iret C hr dX8_byteAt_22 (by simp [s_tb, *]) rfl
    · skip
      refine ww_aload_n (i := 0) C dX8_byteAt_12 rfl rfl 13 rfl ?_
      refine ww_get C fe_X8_9 dX8_byteAt_13 0 rfl rfl 16 rfl ?_
      refine ww_iload_n (i := 1) C dX8_byteAt_16 rfl rfl 17 rfl ?_
      refine ww_iald C dX8_byteAt_17 1 rfl (in_of_lt h_1 h_9 hu (by decide)) 18 rfl ?_
      refine ww_goto C 22 dX8_byteAt_18 (by decide) ?_
      exact ww_iret C hr dX8_byteAt_22 (by simp [s_tb, *]) rfl
theorem c_X8_append (l : Launch) (Γ : Gm) {h0 hb u : Nat} {by0 : Nat → Int32} {w : Int64} {k : Nat} (h1 : 1 ≤ k) (h8 : k ≤ 8) (hu : u + k ≤ 400) : Ct l Γ yX8_append cX8_append 5 none 0 [.ref h0, .long w, .int (nI k)] [(h0, .inr (6, [.ref hb, .int (nI u)])), (hb, .inl (Γ.2.1, 400, .inl by0))] (none) [(h0, .inr (6, [.ref hb, .int (nI (u + k))])), (hb, .inl (Γ.2.1, 400, .inl (s_apb by0 u w k k)))] := by
  refine Ct.of mi_X8_append [some (.ref h0), some (.long w), none, some (.int (nI k)), none] 1 rfl (Nat.le_of_ble_eq_true rfl) ?_
  intro p e s m args below meth c C hr
  refine ww_iload_n (i := 3) C dX8_append_0 rfl rfl 1 rfl ?_
  refine ww_iconst (v := 1) C dX8_append_1 (by decide) 2 rfl ?_
  refine ww_isub C dX8_append_2 3 rfl ?_
  refine ww_istore C dX8_append_3 (by decide) rfl 5 rfl ?_
  have e1 : nI k - 1 = nI (k - 1) - nI 0 := by rw [show (1 : Int32) = nI 1 from rfl, pk_sub h1, pk_sub (Nat.zero_le _)]; rfl
  rw [e1]
  refine ww_loop (fun j : Nat => k - j) (fun j => j ≤ k) (fun j => [(h0, .inr (6, [.ref hb, .int (nI (u + j))])), (hb, .inl (Γ.2.1, 400, .inl (s_apb by0 u w k j)))]) (fun j => [some (.ref h0), some (.long w), none, some (.int (nI k)), some (.int (nI (k - 1) - nI j))]) (0 : Nat) (by omega) rfl rfl (fun j hj ih => ?_)
  try dsimp only at hj ih ⊢
  refine ww_iload C dX8_append_5 rfl 7 rfl ?_
  refine ww_if_lt C 57 dX8_append_7 (by decide) 10 rfl (fun h_7 => ?_) (fun h_7 => ?_)
  · skip
    obtain rfl : j = k := by
      rcases Nat.lt_or_ge j k with q | q
      · rw [pk_sub (show j ≤ k - 1 by omega)] at h_7; exact absurd h_7 (nI_pos (by omega))
      · omega
    exact ww_vret C hr dX8_append_57 rfl rfl
  · skip
    have hlt : j < k := Nat.lt_of_not_le fun q => h_7 (by rw [show j = k by omega]; have : nI (k - 1) - nI k < 0 := pk_sneg (by omega) (by omega); exact this)
    rw [pk_sub (show j ≤ k - 1 by omega)]
    refine ww_aload_n (i := 0) C dX8_append_10 rfl rfl 11 rfl ?_
    refine ww_get C fe_X8_13 dX8_append_11 0 rfl rfl 14 rfl ?_
    refine ww_sipush (v := 400) C dX8_append_14 (by decide) 17 rfl ?_
    refine ww_icmp_ge C 57 dX8_append_17 (by decide) 20 rfl (fun h_17 => ?_) (fun h_17 => ?_)
    · exact absurd h_17 (by rw [show (400 : Int32) = nI 400 from rfl, nI_leI (by decide) (by omega)]; omega)
    · skip
      refine ww_aload_n (i := 0) C dX8_append_20 rfl rfl 21 rfl ?_
      refine ww_get C fe_X8_9 dX8_append_21 0 rfl rfl 24 rfl ?_
      refine ww_aload_n (i := 0) C dX8_append_24 rfl rfl 25 rfl ?_
      refine ww_get C fe_X8_13 dX8_append_25 0 rfl rfl 28 rfl ?_
      refine ww_lload_n (i := 1) C dX8_append_28 rfl rfl 29 rfl ?_
      refine ww_bipush (v := 8) C dX8_append_29 (by decide) 31 rfl ?_
      refine ww_iload C dX8_append_31 rfl 33 rfl ?_
      refine ww_imul C dX8_append_33 34 rfl ?_
      refine ww_lushr C dX8_append_34 35 rfl ?_
      refine ww_l2i C dX8_append_35 36 rfl ?_
      refine ww_sipush (v := 255) C dX8_append_36 (by decide) 39 rfl ?_
      refine ww_iand C dX8_append_39 40 rfl ?_
      refine ww_iast C dX8_append_40 1 rfl (vp_in_nI (by omega) (by decide)) 41 rfl ?_
      refine ww_aload_n (i := 0) C dX8_append_41 rfl rfl 42 rfl ?_
      refine ww_dup C dX8_append_42 rfl 43 rfl ?_
      refine ww_get C fe_X8_13 dX8_append_43 0 rfl rfl 46 rfl ?_
      refine ww_iconst (v := 1) C dX8_append_46 (by decide) 47 rfl ?_
      refine ww_iadd C dX8_append_47 48 rfl ?_
      refine ww_put C fe_X8_13 rfl dX8_append_48 0 rfl rfl rfl (Nat.le_of_ble_eq_true rfl) 51 rfl ?_
      refine ww_iinc (y := (-1)) C dX8_append_51 rfl (by decide) (by decide) rfl 54 rfl ?_
      refine ww_goto C 5 dX8_append_54 (by decide) ?_
      have e9 : nI (k - 1) - nI (j + 1) = nI (k - 1 - j) + (-1) := by rw [nI_succ j, ← pk_sub (show j ≤ k - 1 by omega)]; exact ep_sub _ _
      refine ww_eq ?_ ?_ rfl (ih (j + 1) (by omega) (by omega))
      · rw [show u + (j + 1) = u + j + 1 from rfl, nI_succ (u + j), s_apb]
        have e8 : (nI (u + j)).toNatClampNeg = u + j := nI_clamp (by omega)
        simp only [e8]
        rfl
      · rw [e9]; rfl
abbrev s_has (sz : Nat) (fr n : Int32) : Prop := ¬ n < 0 ∧ ¬ fr < 0 ∧ ¬ nI sz - n < fr
theorem s_has_iff {sz : Nat} (hs : sz ≤ 60) {fr n : Int32} : s_has sz fr n ↔ ∃ a k : Nat, fr = nI a ∧ n = nI k ∧ a + k ≤ sz := by
  constructor
  · rintro ⟨h1, h2, h3⟩
    obtain ⟨k, hk, rfl⟩ := nI_of h1
    obtain ⟨a, ha, rfl⟩ := nI_of h2
    refine ⟨a, k, rfl, rfl, ?_⟩
    rw [Int32.lt_iff_toInt_lt, nI_toInt ha] at h3
    have e : (nI sz - nI k).toInt = (sz : Int) - k := by
      rw [Int32.toInt_sub, nI_toInt (by omega), nI_toInt hk]
      exact Int.bmod_eq_of_le (by omega) (by omega)
    rw [e] at h3
    omega
  · rintro ⟨a, k, rfl, rfl, h⟩
    refine ⟨nI_pos (by omega), nI_pos (by omega), ?_⟩
    rw [pk_sub (by omega)]
    exact nI_nlt (by omega) (by omega)
theorem s_has_n {sz a k : Nat} (hs : sz ≤ 60) (h : a + k ≤ sz) : s_has sz (nI a) (nI k) := (s_has_iff hs).mpr ⟨a, k, rfl, rfl, h⟩
def s_nar (lane v : Int32) : Int32 := if lane = 0 then v.toInt8.toInt32 else if lane = 1 then v.toInt16.toInt32 else v
def s_find (lane : Int32) (sz : Nat) (fr n : Int32) : Int32 := if lane = -1 then 1 else if s_has sz fr n then 0 else 2
def s_zf (it : Nat → Int32) (k : Nat) : Nat → Int32 := fun j => if j < k then 0 else it j
theorem s_zf_0 (it : Nat → Int32) : s_zf it 0 = it := rfl
theorem s_zf_s (it : Nat → Int32) (k : Nat) : upd (s_zf it k) k 0 = s_zf it (k + 1) := by
  funext j
  simp only [upd, s_zf]
  repeat' split
  all_goals first | rfl | omega
def s_within (it : Nat → Int32) (a : Nat) (lo hi : Int32) : Nat → Prop
  | 0 => True
  | j + 1 => s_within it a lo hi j ∧ ¬ it (a + j) < lo ∧ it (a + j) ≤ hi
theorem s_within_iff {it : Nat → Int32} {a : Nat} {lo hi : Int32} : ∀ {n : Nat}, s_within it a lo hi n ↔ ∀ j, j < n → ¬ it (a + j) < lo ∧ it (a + j) ≤ hi
  | 0 => ⟨fun _ j h => absurd h (Nat.not_lt_zero j), fun _ => trivial⟩
  | n + 1 => by
    rw [s_within, s_within_iff (n := n)]
    constructor
    · rintro ⟨h1, h2⟩ j hj
      rcases Nat.lt_or_ge j n with q | q
      · exact h1 j q
      · rw [show j = n by omega]; exact h2
    · intro h
      exact ⟨fun j hj => h j (by omega), h n (by omega)⟩
def s_odd (it : Nat → Int32) (a : Nat) : Nat → Int32
  | 0 => 0
  | k + 1 => s_odd it a k ||| ((it (a + k) &&& 1) <<< (nI k &&& 31))
def s_drw (it : Nat → Int32) (a : Nat) : Nat → Int64
  | 0 => 0
  | k + 1 => if it (a + k) = -1 then s_drw it a k else s_wf (s_drw it a k) (nI k) (it (a + k))
def s_unt (it : Nat → Int32) (a : Nat) : Nat → Int64
  | 0 => 0
  | k + 1 => if it (a + k) = -1 then s_unt it a k else s_wf (s_unt it a k) (nI k) 15
theorem c_X7_isLane (l : Launch) (Γ : Gm) {x : Int32}  : Ct l Γ yX7_isLane cX7_isLane 1 (some .boolean) 0 [.int x] [] (some (.int (bI (¬ x < 0 ∧ ¬ 2 < x)))) [] := by
  refine Ct.of mi_X7_isLane [some (.int x)] 0 rfl (Nat.le_of_ble_eq_true rfl) ?_
  intro p e s m args below meth c C hr
  refine ww_iload_n (i := 0) C dX7_isLane_0 rfl rfl 1 rfl ?_
  refine ww_if_lt C 13 dX7_isLane_1 (by decide) 4 rfl (fun h_1 => ?_) (fun h_1 => ?_)
  · skip
    refine ww_iconst (v := 0) C dX7_isLane_13 (by decide) 14 rfl ?_
    exact ww_zret C hr rfl dX7_isLane_14 (by simp [bI, *]) rfl
  · skip
    refine ww_iload_n (i := 0) C dX7_isLane_4 rfl rfl 5 rfl ?_
    refine ww_iconst (v := 2) C dX7_isLane_5 (by decide) 6 rfl ?_
    refine ww_icmp_gt C 13 dX7_isLane_6 (by decide) 9 rfl (fun h_6 => ?_) (fun h_6 => ?_)
    · skip
      refine ww_iconst (v := 0) C dX7_isLane_13 (by decide) 14 rfl ?_
      exact ww_zret C hr rfl dX7_isLane_14 (by simp [bI, *]) rfl
    · skip
      refine ww_iconst (v := 1) C dX7_isLane_9 (by decide) 10 rfl ?_
      refine ww_goto C 14 dX7_isLane_10 (by decide) ?_
      exact ww_zret C hr rfl dX7_isLane_14 (by simp [bI, *]) rfl
theorem c_X7_isMissing (l : Launch) (Γ : Gm) {h0 hi sz : Nat} {lane : Int32}  : Ct l Γ yX7_isMissing cX7_isMissing 1 (some .boolean) 0 [.ref h0] [(h0, .inr (5, [.ref hi, .int lane, .int (nI sz)]))] (some (.int (bI (lane = -1)))) [(h0, .inr (5, [.ref hi, .int lane, .int (nI sz)]))] := by
  refine Ct.of mi_X7_isMissing [some (.ref h0)] 0 rfl (Nat.le_of_ble_eq_true rfl) ?_
  intro p e s m args below meth c C hr
  refine ww_aload_n (i := 0) C dX7_isMissing_0 rfl rfl 1 rfl ?_
  refine ww_get C fe_X7_15 dX7_isMissing_1 0 rfl rfl 4 rfl ?_
  refine ww_iconst (v := (-1)) C dX7_isMissing_4 (by decide) 5 rfl ?_
  refine ww_icmp_ne C 12 dX7_isMissing_5 (by decide) 8 rfl (fun h_5 => ?_) (fun h_5 => ?_)
  · skip
    refine ww_iconst (v := 0) C dX7_isMissing_12 (by decide) 13 rfl ?_
    exact ww_zret C hr rfl dX7_isMissing_13 (by simp [bI, *]) rfl
  · skip
    refine ww_iconst (v := 1) C dX7_isMissing_8 (by decide) 9 rfl ?_
    refine ww_goto C 13 dX7_isMissing_9 (by decide) ?_
    exact ww_zret C hr rfl dX7_isMissing_13 (by simp [bI, *]) rfl
theorem c_X7_hasItems (l : Launch) (Γ : Gm) {h0 hi sz : Nat} {lane fr n : Int32}  : Ct l Γ yX7_hasItems cX7_hasItems 3 (some .boolean) 0 [.ref h0, .int fr, .int n] [(h0, .inr (5, [.ref hi, .int lane, .int (nI sz)]))] (some (.int (bI (s_has sz fr n)))) [(h0, .inr (5, [.ref hi, .int lane, .int (nI sz)]))] := by
  refine Ct.of mi_X7_hasItems [some (.ref h0), some (.int fr), some (.int n)] 0 rfl (Nat.le_of_ble_eq_true rfl) ?_
  intro p e s m args below meth c C hr
  refine ww_iload_n (i := 2) C dX7_hasItems_0 rfl rfl 1 rfl ?_
  refine ww_if_lt C 22 dX7_hasItems_1 (by decide) 4 rfl (fun h_1 => ?_) (fun h_1 => ?_)
  · skip
    refine ww_iconst (v := 0) C dX7_hasItems_22 (by decide) 23 rfl ?_
    exact ww_zret C hr rfl dX7_hasItems_23 (by simp [bI, *]) rfl
  · skip
    refine ww_iload_n (i := 1) C dX7_hasItems_4 rfl rfl 5 rfl ?_
    refine ww_if_lt C 22 dX7_hasItems_5 (by decide) 8 rfl (fun h_5 => ?_) (fun h_5 => ?_)
    · skip
      refine ww_iconst (v := 0) C dX7_hasItems_22 (by decide) 23 rfl ?_
      exact ww_zret C hr rfl dX7_hasItems_23 (by simp [bI, *]) rfl
    · skip
      refine ww_iload_n (i := 1) C dX7_hasItems_8 rfl rfl 9 rfl ?_
      refine ww_aload_n (i := 0) C dX7_hasItems_9 rfl rfl 10 rfl ?_
      refine ww_get C fe_X7_19 dX7_hasItems_10 0 rfl rfl 13 rfl ?_
      refine ww_iload_n (i := 2) C dX7_hasItems_13 rfl rfl 14 rfl ?_
      refine ww_isub C dX7_hasItems_14 15 rfl ?_
      refine ww_icmp_gt C 22 dX7_hasItems_15 (by decide) 18 rfl (fun h_15 => ?_) (fun h_15 => ?_)
      · skip
        refine ww_iconst (v := 0) C dX7_hasItems_22 (by decide) 23 rfl ?_
        exact ww_zret C hr rfl dX7_hasItems_23 (by simp [bI, *]) rfl
      · skip
        refine ww_iconst (v := 1) C dX7_hasItems_18 (by decide) 19 rfl ?_
        refine ww_goto C 23 dX7_hasItems_19 (by decide) ?_
        exact ww_zret C hr rfl dX7_hasItems_23 (by simp [bI, *]) rfl
theorem c_X7_findingOf (l : Launch) (Γ : Gm) {h0 hi sz : Nat} {lane fr n : Int32}  : Ct l Γ yX7_findingOf cX7_findingOf 3 (some .int) 1 [.ref h0, .int fr, .int n] [(h0, .inr (5, [.ref hi, .int lane, .int (nI sz)]))] (some (.int (s_find lane sz fr n))) [(h0, .inr (5, [.ref hi, .int lane, .int (nI sz)]))] := by
  refine Ct.of mi_X7_findingOf [some (.ref h0), some (.int fr), some (.int n)] 0 rfl (Nat.le_of_ble_eq_true rfl) ?_
  intro p e s m args below meth c C hr
  refine ww_aload_n (i := 0) C dX7_findingOf_0 rfl rfl 1 rfl ?_
  refine ww_callV0p C (c_X7_isMissing l Γ) mi_X7_isMissing im_X7_isMissing se_X7_isMissing ml_X7_22 dX7_findingOf_1 0 rfl rfl rfl (Nat.le_of_ble_eq_true rfl) (Nat.le_of_ble_eq_true rfl) (Nat.le_of_ble_eq_true rfl) ⟨Nat.zero_le _, Nat.zero_le _⟩ [0] rfl (by decide) 4 rfl ?_
  refine ww_if_eq C 9 dX7_findingOf_4 (by decide) 7 rfl (fun h_4 => ?_) (fun h_4 => ?_)
  · skip
    refine ww_aload_n (i := 0) C dX7_findingOf_9 rfl rfl 10 rfl ?_
    refine ww_iload_n (i := 1) C dX7_findingOf_10 rfl rfl 11 rfl ?_
    refine ww_iload_n (i := 2) C dX7_findingOf_11 rfl rfl 12 rfl ?_
    refine ww_callV2p C (c_X7_hasItems l Γ) mi_X7_hasItems im_X7_hasItems se_X7_hasItems ml_X7_26 dX7_findingOf_12 0 rfl rfl rfl (Nat.le_of_ble_eq_true rfl) (Nat.le_of_ble_eq_true rfl) (Nat.le_of_ble_eq_true rfl) ⟨Nat.zero_le _, Nat.zero_le _⟩ [0] rfl (by decide) 15 rfl ?_
    refine ww_if_eq C 22 dX7_findingOf_15 (by decide) 18 rfl (fun h_15 => ?_) (fun h_15 => ?_)
    · skip
      refine ww_iconst (v := 2) C dX7_findingOf_22 (by decide) 23 rfl ?_
      exact ww_iret C hr dX7_findingOf_23 (by first | rw [s_find, if_neg (bI_e0 h_4), if_neg (bI_e0 h_15)] | rw [s_find, if_neg (bI_e0 h_4), if_pos (bI_n0 h_15)]) rfl
    · skip
      refine ww_iconst (v := 0) C dX7_findingOf_18 (by decide) 19 rfl ?_
      refine ww_goto C 23 dX7_findingOf_19 (by decide) ?_
      exact ww_iret C hr dX7_findingOf_23 (by first | rw [s_find, if_neg (bI_e0 h_4), if_neg (bI_e0 h_15)] | rw [s_find, if_neg (bI_e0 h_4), if_pos (bI_n0 h_15)]) rfl
  · skip
    refine ww_iconst (v := 1) C dX7_findingOf_7 (by decide) 8 rfl ?_
    exact ww_iret C hr dX7_findingOf_8 (by rw [s_find, if_pos (bI_n0 h_4)]) rfl
theorem c_X7_narrowed (l : Launch) (Γ : Gm) {h0 hi sz : Nat} {lane v : Int32}  : Ct l Γ yX7_narrowed cX7_narrowed 2 (some .int) 0 [.ref h0, .int v] [(h0, .inr (5, [.ref hi, .int lane, .int (nI sz)]))] (some (.int (s_nar lane v))) [(h0, .inr (5, [.ref hi, .int lane, .int (nI sz)]))] := by
  refine Ct.of mi_X7_narrowed [some (.ref h0), some (.int v)] 0 rfl (Nat.le_of_ble_eq_true rfl) ?_
  intro p e s m args below meth c C hr
  refine ww_aload_n (i := 0) C dX7_narrowed_0 rfl rfl 1 rfl ?_
  refine ww_get C fe_X7_15 dX7_narrowed_1 0 rfl rfl 4 rfl ?_
  refine ww_if_ne C 10 dX7_narrowed_4 (by decide) 7 rfl (fun h_4 => ?_) (fun h_4 => ?_)
  · skip
    refine ww_aload_n (i := 0) C dX7_narrowed_10 rfl rfl 11 rfl ?_
    refine ww_get C fe_X7_15 dX7_narrowed_11 0 rfl rfl 14 rfl ?_
    refine ww_iconst (v := 1) C dX7_narrowed_14 (by decide) 15 rfl ?_
    refine ww_icmp_ne C 23 dX7_narrowed_15 (by decide) 18 rfl (fun h_15 => ?_) (fun h_15 => ?_)
    · skip
      refine ww_iload_n (i := 1) C dX7_narrowed_23 rfl rfl 24 rfl ?_
      exact ww_iret C hr dX7_narrowed_24 (by simp [s_nar, *]) rfl
    · skip
      refine ww_iload_n (i := 1) C dX7_narrowed_18 rfl rfl 19 rfl ?_
      refine ww_i2s C dX7_narrowed_19 20 rfl ?_
      refine ww_goto C 24 dX7_narrowed_20 (by decide) ?_
      exact ww_iret C hr dX7_narrowed_24 (by simp [s_nar, *]) rfl
  · skip
    refine ww_iload_n (i := 1) C dX7_narrowed_7 rfl rfl 8 rfl ?_
    refine ww_i2b C dX7_narrowed_8 9 rfl ?_
    exact ww_iret C hr dX7_narrowed_9 (by simp [s_nar, *]) rfl
theorem c_X7_put (l : Launch) (Γ : Gm) {h0 hi sz a : Nat} {lane v : Int32} {it : Nat → Int32} (ha : a < sz) (hs : sz ≤ 60) : Ct l Γ yX7_put cX7_put 3 (some .int) 1 [.ref h0, .int (nI a), .int v] [(h0, .inr (5, [.ref hi, .int lane, .int (nI sz)])), (hi, .inl (Γ.2.1, 60, .inl it))] (some (.int (s_nar lane v))) [(h0, .inr (5, [.ref hi, .int lane, .int (nI sz)])), (hi, .inl (Γ.2.1, 60, .inl (upd it a (s_nar lane v))))] := by
  refine Ct.of mi_X7_put [some (.ref h0), some (.int (nI a)), some (.int v)] 0 rfl (Nat.le_of_ble_eq_true rfl) ?_
  intro p e s m args below meth c C hr
  refine ww_aload_n (i := 0) C dX7_put_0 rfl rfl 1 rfl ?_
  refine ww_iload_n (i := 1) C dX7_put_1 rfl rfl 2 rfl ?_
  refine ww_iconst (v := 1) C dX7_put_2 (by decide) 3 rfl ?_
  refine ww_callV2p C (c_X7_hasItems l Γ) mi_X7_hasItems im_X7_hasItems se_X7_hasItems ml_X7_26 dX7_put_3 0 rfl rfl rfl (Nat.le_of_ble_eq_true rfl) (Nat.le_of_ble_eq_true rfl) (Nat.le_of_ble_eq_true rfl) ⟨Nat.zero_le _, Nat.zero_le _⟩ [0] rfl (by decide) 6 rfl ?_
  refine ww_if_ne C 12 dX7_put_6 (by decide) 9 rfl (fun h_6 => ?_) (fun h_6 => ?_)
  · skip
    refine ww_aload_n (i := 0) C dX7_put_12 rfl rfl 13 rfl ?_
    refine ww_get C fe_X7_11 dX7_put_13 0 rfl rfl 16 rfl ?_
    refine ww_iload_n (i := 1) C dX7_put_16 rfl rfl 17 rfl ?_
    refine ww_aload_n (i := 0) C dX7_put_17 rfl rfl 18 rfl ?_
    refine ww_iload_n (i := 2) C dX7_put_18 rfl rfl 19 rfl ?_
    refine ww_callV1p C (c_X7_narrowed l Γ) mi_X7_narrowed im_X7_narrowed se_X7_narrowed ml_X7_31 dX7_put_19 0 rfl rfl rfl (Nat.le_of_ble_eq_true rfl) (Nat.le_of_ble_eq_true rfl) (Nat.le_of_ble_eq_true rfl) ⟨Nat.zero_le _, Nat.zero_le _⟩ [0] rfl (by decide) 22 rfl ?_
    refine ww_iast C dX7_put_22 1 rfl (vp_in_nI (by omega) (by decide)) 23 rfl ?_
    refine ww_aload_n (i := 0) C dX7_put_23 rfl rfl 24 rfl ?_
    refine ww_get C fe_X7_11 dX7_put_24 0 rfl rfl 27 rfl ?_
    refine ww_iload_n (i := 1) C dX7_put_27 rfl rfl 28 rfl ?_
    refine ww_iald C dX7_put_28 1 rfl (vp_in_nI (by omega) (by decide)) 29 rfl ?_
    exact ww_iret C hr dX7_put_29 (by rw [nI_clamp (by omega), pk_us]) (by rw [nI_clamp (by omega)]; rfl)
  · exact absurd (s_has_n (k := 1) hs (by omega)) (bI_e0 h_6)
theorem c_X7_begin (l : Launch) (Γ : Gm) {h0 hi sz n : Nat} {lane lane0 : Int32} {it : Nat → Int32}  : Ct l Γ yX7_begin cX7_begin 4 none 0 [.ref h0, .int lane, .int (nI n)] [(h0, .inr (5, [.ref hi, .int lane0, .int (nI sz)])), (hi, .inl (Γ.2.1, 60, .inl it))] (none) [(h0, .inr (5, [.ref hi, .int lane, .int (nI n)])), (hi, .inl (Γ.2.1, 60, .inl (s_zf it 60)))] := by
  refine Ct.of mi_X7_begin [some (.ref h0), some (.int lane), some (.int (nI n)), none] 1 rfl (Nat.le_of_ble_eq_true rfl) ?_
  intro p e s m args below meth c C hr
  refine ww_aload_n (i := 0) C dX7_begin_0 rfl rfl 1 rfl ?_
  refine ww_iload_n (i := 1) C dX7_begin_1 rfl rfl 2 rfl ?_
  refine ww_put C fe_X7_15 rfl dX7_begin_2 0 rfl rfl rfl (Nat.le_of_ble_eq_true rfl) 5 rfl ?_
  refine ww_aload_n (i := 0) C dX7_begin_5 rfl rfl 6 rfl ?_
  refine ww_iload_n (i := 2) C dX7_begin_6 rfl rfl 7 rfl ?_
  refine ww_put C fe_X7_19 rfl dX7_begin_7 0 rfl rfl rfl (Nat.le_of_ble_eq_true rfl) 10 rfl ?_
  refine ww_iconst (v := 0) C dX7_begin_10 (by decide) 11 rfl ?_
  refine ww_istore_n (i := 3) C dX7_begin_11 rfl (by decide) rfl 12 rfl ?_
  refine ww_loop (fun j : Nat => 60 - j) (fun j => j ≤ 60) (fun j => [(h0, .inr (5, [.ref hi, .int lane, .int (nI n)])), (hi, .inl (Γ.2.1, 60, .inl (s_zf it j)))]) (fun j => [some (.ref h0), some (.int lane), some (.int (nI n)), some (.int (nI j))]) (0 : Nat) (by omega) rfl rfl (fun j hj ih => ?_)
  try dsimp only at hj ih ⊢
  refine ww_iload_n (i := 3) C dX7_begin_12 rfl rfl 13 rfl ?_
  refine ww_bipush (v := 60) C dX7_begin_13 (by decide) 15 rfl ?_
  refine ww_icmp_ge C 31 dX7_begin_15 (by decide) 18 rfl (fun h_15 => ?_) (fun h_15 => ?_)
  · skip
    obtain rfl : j = 60 := eqN (n := 60) h_15 hj (by decide)
    exact ww_vret C hr dX7_begin_31 rfl rfl
  · skip
    have hlt : j < 60 := ltN (n := 60) h_15 (by decide) (by omega)
    refine ww_aload_n (i := 0) C dX7_begin_18 rfl rfl 19 rfl ?_
    refine ww_get C fe_X7_11 dX7_begin_19 0 rfl rfl 22 rfl ?_
    refine ww_iload_n (i := 3) C dX7_begin_22 rfl rfl 23 rfl ?_
    refine ww_iconst (v := 0) C dX7_begin_23 (by decide) 24 rfl ?_
    refine ww_iast C dX7_begin_24 1 rfl (vp_in_nI hlt (by decide)) 25 rfl ?_
    refine ww_iinc (y := 1) C dX7_begin_25 rfl (by decide) (by decide) rfl 28 rfl ?_
    refine ww_goto C 12 dX7_begin_28 (by decide) ?_
    exact ww_eq (by rw [← s_zf_s]; simp only [nI_clamp (show j < 2 ^ 31 by omega)]; rfl) (by rw [nI_succ j]; rfl) rfl (ih (j + 1) (by omega) (by omega))
theorem c_X7_forget (l : Launch) (Γ : Gm) {h0 hi sz : Nat} {lane : Int32}  : Ct l Γ yX7_forget cX7_forget 1 none 0 [.ref h0] [(h0, .inr (5, [.ref hi, .int lane, .int (nI sz)]))] (none) [(h0, .inr (5, [.ref hi, .int (-1), .int (nI 0)]))] := by
  refine Ct.of mi_X7_forget [some (.ref h0)] 0 rfl (Nat.le_of_ble_eq_true rfl) ?_
  intro p e s m args below meth c C hr
  refine ww_aload_n (i := 0) C dX7_forget_0 rfl rfl 1 rfl ?_
  refine ww_iconst (v := (-1)) C dX7_forget_1 (by decide) 2 rfl ?_
  refine ww_put C fe_X7_15 rfl dX7_forget_2 0 rfl rfl rfl (Nat.le_of_ble_eq_true rfl) 5 rfl ?_
  refine ww_aload_n (i := 0) C dX7_forget_5 rfl rfl 6 rfl ?_
  refine ww_iconst (v := 0) C dX7_forget_6 (by decide) 7 rfl ?_
  refine ww_put C fe_X7_19 rfl dX7_forget_7 0 rfl rfl rfl (Nat.le_of_ble_eq_true rfl) 10 rfl ?_
  exact ww_vret C hr dX7_forget_10 rfl rfl
theorem c_X7_areWithin (l : Launch) (Γ : Gm) {h0 hi sz a k : Nat} {lane lo hi9 : Int32} {it : Nat → Int32} (hak : a + k ≤ sz) (hs : sz ≤ 60) {r : Int32} (hr1 : s_within it a lo hi9 k → r = 1) (hr0 : ¬ s_within it a lo hi9 k → r = 0) : Ct l Γ yX7_areWithin cX7_areWithin 6 (some .boolean) 1 [.ref h0, .int (nI a), .int (nI k), .int lo, .int hi9] [(h0, .inr (5, [.ref hi, .int lane, .int (nI sz)])), (hi, .inl (Γ.2.1, 60, .inl it))] (some (.int r)) [(h0, .inr (5, [.ref hi, .int lane, .int (nI sz)])), (hi, .inl (Γ.2.1, 60, .inl it))] := by
  refine Ct.of mi_X7_areWithin [some (.ref h0), some (.int (nI a)), some (.int (nI k)), some (.int lo), some (.int hi9), none] 1 rfl (Nat.le_of_ble_eq_true rfl) ?_
  intro p e s m args below meth c C hr
  refine ww_aload_n (i := 0) C dX7_areWithin_0 rfl rfl 1 rfl ?_
  refine ww_iload_n (i := 1) C dX7_areWithin_1 rfl rfl 2 rfl ?_
  refine ww_iload_n (i := 2) C dX7_areWithin_2 rfl rfl 3 rfl ?_
  refine ww_callV2p C (c_X7_hasItems l Γ) mi_X7_hasItems im_X7_hasItems se_X7_hasItems ml_X7_26 dX7_areWithin_3 0 rfl rfl rfl (Nat.le_of_ble_eq_true rfl) (Nat.le_of_ble_eq_true rfl) (Nat.le_of_ble_eq_true rfl) ⟨Nat.zero_le _, Nat.zero_le _⟩ [0] rfl (by decide) 6 rfl ?_
  refine ww_if_ne C 11 dX7_areWithin_6 (by decide) 9 rfl (fun h_6 => ?_) (fun h_6 => ?_)
  · skip
    refine ww_iconst (v := 0) C dX7_areWithin_11 (by decide) 12 rfl ?_
    refine ww_istore C dX7_areWithin_12 (by decide) rfl 14 rfl ?_
    refine ww_loop (fun j : Nat => k - j) (fun j => j ≤ k ∧ s_within it a lo hi9 j) (fun _ => [(h0, .inr (5, [.ref hi, .int lane, .int (nI sz)])), (hi, .inl (Γ.2.1, 60, .inl it))]) (fun j => [some (.ref h0), some (.int (nI a)), some (.int (nI k)), some (.int lo), some (.int hi9), some (.int (nI j))]) (0 : Nat) ⟨Nat.zero_le _, trivial⟩ rfl rfl (fun j hj ih => ?_)
    obtain ⟨hj, hw⟩ := hj
    try dsimp only at hj ih ⊢
    refine ww_iload C dX7_areWithin_14 rfl 16 rfl ?_
    refine ww_iload_n (i := 2) C dX7_areWithin_16 rfl rfl 17 rfl ?_
    refine ww_icmp_ge C 55 dX7_areWithin_17 (by decide) 20 rfl (fun h_17 => ?_) (fun h_17 => ?_)
    · skip
      obtain rfl : j = k := eqN h_17 hj (by omega)
      obtain rfl := hr1 hw
      refine ww_iconst (v := 1) C dX7_areWithin_55 (by decide) 56 rfl ?_
      exact ww_zret C hr rfl dX7_areWithin_56 rfl rfl
    · skip
      have hlt : j < k := ltN h_17 (by omega) (by omega)
      have ec : (nI a + nI j).toNatClampNeg = a + j := by rw [nI_add]; exact nI_clamp (by omega)
      refine ww_aload_n (i := 0) C dX7_areWithin_20 rfl rfl 21 rfl ?_
      refine ww_get C fe_X7_11 dX7_areWithin_21 0 rfl rfl 24 rfl ?_
      refine ww_iload_n (i := 1) C dX7_areWithin_24 rfl rfl 25 rfl ?_
      refine ww_iload C dX7_areWithin_25 rfl 27 rfl ?_
      refine ww_iadd C dX7_areWithin_27 28 rfl ?_
      refine ww_iald C dX7_areWithin_28 1 rfl (by rw [nI_add]; exact vp_in_nI (by omega) (by decide)) 29 rfl ?_
      rw [ec]
      refine ww_iload_n (i := 3) C dX7_areWithin_29 rfl rfl 30 rfl ?_
      refine ww_icmp_lt C 47 dX7_areWithin_30 (by decide) 33 rfl (fun h_30 => ?_) (fun h_30 => ?_)
      · skip
        have hz : ¬ s_within it a lo hi9 k := fun q => by
          have := s_within_iff.mp q j hlt
          first
            | exact this.1 h_30
            | exact h_44 this.2
        obtain rfl := hr0 hz
        refine ww_iconst (v := 0) C dX7_areWithin_47 (by decide) 48 rfl ?_
        exact ww_zret C hr rfl dX7_areWithin_48 rfl rfl
      · skip
        refine ww_aload_n (i := 0) C dX7_areWithin_33 rfl rfl 34 rfl ?_
        refine ww_get C fe_X7_11 dX7_areWithin_34 0 rfl rfl 37 rfl ?_
        refine ww_iload_n (i := 1) C dX7_areWithin_37 rfl rfl 38 rfl ?_
        refine ww_iload C dX7_areWithin_38 rfl 40 rfl ?_
        refine ww_iadd C dX7_areWithin_40 41 rfl ?_
        refine ww_iald C dX7_areWithin_41 1 rfl (by rw [nI_add]; exact vp_in_nI (by omega) (by decide)) 42 rfl ?_
        rw [ec]
        refine ww_iload C dX7_areWithin_42 rfl 44 rfl ?_
        refine ww_icmp_le C 49 dX7_areWithin_44 (by decide) 47 rfl (fun h_44 => ?_) (fun h_44 => ?_)
        · skip
          refine ww_iinc (y := 1) C dX7_areWithin_49 rfl (by decide) (by decide) rfl 52 rfl ?_
          refine ww_goto C 14 dX7_areWithin_52 (by decide) ?_
          exact ww_eq rfl (by rw [nI_succ j]; rfl) rfl (ih (j + 1) ⟨by omega, hw, h_30, h_44⟩ (by omega))
        · skip
          have hz : ¬ s_within it a lo hi9 k := fun q => by
            have := s_within_iff.mp q j hlt
            first
              | exact this.1 h_30
              | exact h_44 this.2
          obtain rfl := hr0 hz
          refine ww_iconst (v := 0) C dX7_areWithin_47 (by decide) 48 rfl ?_
          exact ww_zret C hr rfl dX7_areWithin_48 rfl rfl
  · exact absurd (s_has_n hs hak) (bI_e0 h_6)
theorem c_X7_oddOnes (l : Launch) (Γ : Gm) {h0 hi sz a : Nat} {lane : Int32} {it : Nat → Int32} (ha : a + 16 ≤ sz) (hs : sz ≤ 60) : Ct l Γ yX7_oddOnes cX7_oddOnes 4 (some .int) 1 [.ref h0, .int (nI a)] [(h0, .inr (5, [.ref hi, .int lane, .int (nI sz)])), (hi, .inl (Γ.2.1, 60, .inl it))] (some (.int (s_odd it a 16))) [(h0, .inr (5, [.ref hi, .int lane, .int (nI sz)])), (hi, .inl (Γ.2.1, 60, .inl it))] := by
  refine Ct.of mi_X7_oddOnes [some (.ref h0), some (.int (nI a)), none, none] 2 rfl (Nat.le_of_ble_eq_true rfl) ?_
  intro p e s m args below meth c C hr
  refine ww_iconst (v := 0) C dX7_oddOnes_0 (by decide) 1 rfl ?_
  refine ww_istore_n (i := 2) C dX7_oddOnes_1 rfl (by decide) rfl 2 rfl ?_
  refine ww_aload_n (i := 0) C dX7_oddOnes_2 rfl rfl 3 rfl ?_
  refine ww_iload_n (i := 1) C dX7_oddOnes_3 rfl rfl 4 rfl ?_
  refine ww_bipush (v := 16) C dX7_oddOnes_4 (by decide) 6 rfl ?_
  refine ww_callV2p C (c_X7_hasItems l Γ) mi_X7_hasItems im_X7_hasItems se_X7_hasItems ml_X7_26 dX7_oddOnes_6 0 rfl rfl rfl (Nat.le_of_ble_eq_true rfl) (Nat.le_of_ble_eq_true rfl) (Nat.le_of_ble_eq_true rfl) ⟨Nat.zero_le _, Nat.zero_le _⟩ [0] rfl (by decide) 9 rfl ?_
  refine ww_if_eq C 41 dX7_oddOnes_9 (by decide) 12 rfl (fun h_9 => ?_) (fun h_9 => ?_)
  · exact absurd (s_has_n (k := 16) hs ha) (bI_e0 h_9)
  · skip
    refine ww_iconst (v := 0) C dX7_oddOnes_12 (by decide) 13 rfl ?_
    refine ww_istore_n (i := 3) C dX7_oddOnes_13 rfl (by decide) rfl 14 rfl ?_
    refine ww_loop (fun j : Nat => 16 - j) (fun j => j ≤ 16) (fun _ => [(h0, .inr (5, [.ref hi, .int lane, .int (nI sz)])), (hi, .inl (Γ.2.1, 60, .inl it))]) (fun j => [some (.ref h0), some (.int (nI a)), some (.int (s_odd it a j)), some (.int (nI j))]) (0 : Nat) (Nat.zero_le _) rfl rfl (fun j hj ih => ?_)
    try dsimp only at hj ih ⊢
    refine ww_iload_n (i := 3) C dX7_oddOnes_14 rfl rfl 15 rfl ?_
    refine ww_bipush (v := 16) C dX7_oddOnes_15 (by decide) 17 rfl ?_
    refine ww_icmp_ge C 41 dX7_oddOnes_17 (by decide) 20 rfl (fun h_17 => ?_) (fun h_17 => ?_)
    · skip
      obtain rfl : j = 16 := eqN (n := 16) h_17 hj (by decide)
      refine ww_iload_n (i := 2) C dX7_oddOnes_41 rfl rfl 42 rfl ?_
      exact ww_iret C hr dX7_oddOnes_42 rfl rfl
    · skip
      have hlt : j < 16 := ltN (n := 16) h_17 (by decide) (by omega)
      have ec : (nI a + nI j).toNatClampNeg = a + j := by rw [nI_add]; exact nI_clamp (by omega)
      refine ww_iload_n (i := 2) C dX7_oddOnes_20 rfl rfl 21 rfl ?_
      refine ww_aload_n (i := 0) C dX7_oddOnes_21 rfl rfl 22 rfl ?_
      refine ww_get C fe_X7_11 dX7_oddOnes_22 0 rfl rfl 25 rfl ?_
      refine ww_iload_n (i := 1) C dX7_oddOnes_25 rfl rfl 26 rfl ?_
      refine ww_iload_n (i := 3) C dX7_oddOnes_26 rfl rfl 27 rfl ?_
      refine ww_iadd C dX7_oddOnes_27 28 rfl ?_
      refine ww_iald C dX7_oddOnes_28 1 rfl (by rw [nI_add]; exact vp_in_nI (by omega) (by decide)) 29 rfl ?_
      rw [ec]
      refine ww_iconst (v := 1) C dX7_oddOnes_29 (by decide) 30 rfl ?_
      refine ww_iand C dX7_oddOnes_30 31 rfl ?_
      refine ww_iload_n (i := 3) C dX7_oddOnes_31 rfl rfl 32 rfl ?_
      refine ww_ishl C dX7_oddOnes_32 33 rfl ?_
      refine ww_ior C dX7_oddOnes_33 34 rfl ?_
      refine ww_istore_n (i := 2) C dX7_oddOnes_34 rfl (by decide) rfl 35 rfl ?_
      refine ww_iinc (y := 1) C dX7_oddOnes_35 rfl (by decide) (by decide) rfl 38 rfl ?_
      refine ww_goto C 14 dX7_oddOnes_38 (by decide) ?_
      exact ww_eq rfl (by rw [nI_succ j]; rfl) rfl (ih (j + 1) (by omega) (by omega))
theorem c_X7_drawnRows (l : Launch) (Γ : Gm) {h0 hi sz a : Nat} {lane : Int32} {it : Nat → Int32} (ha : a + 16 ≤ sz) (hs : sz ≤ 60) : Ct l Γ yX7_drawnRows cX7_drawnRows 5 (some .long) 1 [.ref h0, .int (nI a)] [(h0, .inr (5, [.ref hi, .int lane, .int (nI sz)])), (hi, .inl (Γ.2.1, 60, .inl it))] (some (.long (s_drw it a 16))) [(h0, .inr (5, [.ref hi, .int lane, .int (nI sz)])), (hi, .inl (Γ.2.1, 60, .inl it))] := by
  refine Ct.of mi_X7_drawnRows [some (.ref h0), some (.int (nI a)), none, none, none] 3 rfl (Nat.le_of_ble_eq_true rfl) ?_
  intro p e s m args below meth c C hr
  refine ww_lconst (v := 0) C dX7_drawnRows_0 (by decide) 1 rfl ?_
  refine ww_lstore_n (i := 2) C dX7_drawnRows_1 rfl (by decide) rfl 2 rfl ?_
  refine ww_aload_n (i := 0) C dX7_drawnRows_2 rfl rfl 3 rfl ?_
  refine ww_iload_n (i := 1) C dX7_drawnRows_3 rfl rfl 4 rfl ?_
  refine ww_bipush (v := 16) C dX7_drawnRows_4 (by decide) 6 rfl ?_
  refine ww_callV2p C (c_X7_hasItems l Γ) mi_X7_hasItems im_X7_hasItems se_X7_hasItems ml_X7_26 dX7_drawnRows_6 0 rfl rfl rfl (Nat.le_of_ble_eq_true rfl) (Nat.le_of_ble_eq_true rfl) (Nat.le_of_ble_eq_true rfl) ⟨Nat.zero_le _, Nat.zero_le _⟩ [0] rfl (by decide) 9 rfl ?_
  refine ww_if_eq C 61 dX7_drawnRows_9 (by decide) 12 rfl (fun h_9 => ?_) (fun h_9 => ?_)
  · exact absurd (s_has_n (k := 16) hs ha) (bI_e0 h_9)
  · skip
    refine ww_iconst (v := 0) C dX7_drawnRows_12 (by decide) 13 rfl ?_
    refine ww_istore C dX7_drawnRows_13 (by decide) rfl 15 rfl ?_
    refine ww_loop (fun j : Nat => 16 - j) (fun j => j ≤ 16) (fun _ => [(h0, .inr (5, [.ref hi, .int lane, .int (nI sz)])), (hi, .inl (Γ.2.1, 60, .inl it))]) (fun j => [some (.ref h0), some (.int (nI a)), some (.long (s_drw it a j)), none, some (.int (nI j))]) (0 : Nat) (Nat.zero_le _) rfl rfl (fun j hj ih => ?_)
    try dsimp only at hj ih ⊢
    refine ww_iload C dX7_drawnRows_15 rfl 17 rfl ?_
    refine ww_bipush (v := 16) C dX7_drawnRows_17 (by decide) 19 rfl ?_
    refine ww_icmp_ge C 61 dX7_drawnRows_19 (by decide) 22 rfl (fun h_19 => ?_) (fun h_19 => ?_)
    · skip
      obtain rfl : j = 16 := eqN (n := 16) h_19 hj (by decide)
      refine ww_lload_n (i := 2) C dX7_drawnRows_61 rfl rfl 62 rfl ?_
      exact ww_lret C hr dX7_drawnRows_62 rfl rfl
    · skip
      have hlt : j < 16 := ltN (n := 16) h_19 (by decide) (by omega)
      have ec : (nI a + nI j).toNatClampNeg = a + j := by rw [nI_add]; exact nI_clamp (by omega)
      refine ww_aload_n (i := 0) C dX7_drawnRows_22 rfl rfl 23 rfl ?_
      refine ww_get C fe_X7_11 dX7_drawnRows_23 0 rfl rfl 26 rfl ?_
      refine ww_iload_n (i := 1) C dX7_drawnRows_26 rfl rfl 27 rfl ?_
      refine ww_iload C dX7_drawnRows_27 rfl 29 rfl ?_
      refine ww_iadd C dX7_drawnRows_29 30 rfl ?_
      refine ww_iald C dX7_drawnRows_30 1 rfl (by rw [nI_add]; exact vp_in_nI (by omega) (by decide)) 31 rfl ?_
      rw [ec]
      refine ww_iconst (v := (-1)) C dX7_drawnRows_31 (by decide) 32 rfl ?_
      refine ww_icmp_ne C 39 dX7_drawnRows_32 (by decide) 35 rfl (fun h_32 => ?_) (fun h_32 => ?_)
      · skip
        refine ww_lload_n (i := 2) C dX7_drawnRows_39 rfl rfl 40 rfl ?_
        refine ww_iload C dX7_drawnRows_40 rfl 42 rfl ?_
        refine ww_aload_n (i := 0) C dX7_drawnRows_42 rfl rfl 43 rfl ?_
        refine ww_get C fe_X7_11 dX7_drawnRows_43 0 rfl rfl 46 rfl ?_
        refine ww_iload_n (i := 1) C dX7_drawnRows_46 rfl rfl 47 rfl ?_
        refine ww_iload C dX7_drawnRows_47 rfl 49 rfl ?_
        refine ww_iadd C dX7_drawnRows_49 50 rfl ?_
        refine ww_iald C dX7_drawnRows_50 1 rfl (by rw [nI_add]; exact vp_in_nI (by omega) (by decide)) 51 rfl ?_
        rw [ec]
        refine ww_callS3p C (c_X2_withFigure l Γ) mi_X2_withFigure st_X2_withFigure ml_X7_35 dX7_drawnRows_51 (Nat.le_of_ble_eq_true rfl) (Nat.le_of_ble_eq_true rfl) (Nat.le_of_ble_eq_true rfl) ⟨Nat.zero_le _, Nat.zero_le _⟩ [] rfl (by decide) 54 rfl ?_
        refine ww_lstore_n (i := 2) C dX7_drawnRows_54 rfl (by decide) rfl 55 rfl ?_
        refine ww_iinc (y := 1) C dX7_drawnRows_55 rfl (by decide) (by decide) rfl 58 rfl ?_
        refine ww_goto C 15 dX7_drawnRows_58 (by decide) ?_
        exact ww_eq rfl (by rw [nI_succ j, s_drw]; first | (rw [if_pos h_32]; rfl) | (rw [if_neg h_32]; rfl)) rfl (ih (j + 1) (by omega) (by omega))
      · skip
        refine ww_lload_n (i := 2) C dX7_drawnRows_35 rfl rfl 36 rfl ?_
        refine ww_goto C 54 dX7_drawnRows_36 (by decide) ?_
        refine ww_lstore_n (i := 2) C dX7_drawnRows_54 rfl (by decide) rfl 55 rfl ?_
        refine ww_iinc (y := 1) C dX7_drawnRows_55 rfl (by decide) (by decide) rfl 58 rfl ?_
        refine ww_goto C 15 dX7_drawnRows_58 (by decide) ?_
        exact ww_eq rfl (by rw [nI_succ j, s_drw]; first | (rw [if_pos h_32]; rfl) | (rw [if_neg h_32]; rfl)) rfl (ih (j + 1) (by omega) (by omega))
theorem c_X7_untornRows (l : Launch) (Γ : Gm) {h0 hi sz a : Nat} {lane : Int32} {it : Nat → Int32} (ha : a + 16 ≤ sz) (hs : sz ≤ 60) : Ct l Γ yX7_untornRows cX7_untornRows 5 (some .long) 1 [.ref h0, .int (nI a)] [(h0, .inr (5, [.ref hi, .int lane, .int (nI sz)])), (hi, .inl (Γ.2.1, 60, .inl it))] (some (.long (s_unt it a 16))) [(h0, .inr (5, [.ref hi, .int lane, .int (nI sz)])), (hi, .inl (Γ.2.1, 60, .inl it))] := by
  refine Ct.of mi_X7_untornRows [some (.ref h0), some (.int (nI a)), none, none, none] 3 rfl (Nat.le_of_ble_eq_true rfl) ?_
  intro p e s m args below meth c C hr
  refine ww_lconst (v := 0) C dX7_untornRows_0 (by decide) 1 rfl ?_
  refine ww_lstore_n (i := 2) C dX7_untornRows_1 rfl (by decide) rfl 2 rfl ?_
  refine ww_aload_n (i := 0) C dX7_untornRows_2 rfl rfl 3 rfl ?_
  refine ww_iload_n (i := 1) C dX7_untornRows_3 rfl rfl 4 rfl ?_
  refine ww_bipush (v := 16) C dX7_untornRows_4 (by decide) 6 rfl ?_
  refine ww_callV2p C (c_X7_hasItems l Γ) mi_X7_hasItems im_X7_hasItems se_X7_hasItems ml_X7_26 dX7_untornRows_6 0 rfl rfl rfl (Nat.le_of_ble_eq_true rfl) (Nat.le_of_ble_eq_true rfl) (Nat.le_of_ble_eq_true rfl) ⟨Nat.zero_le _, Nat.zero_le _⟩ [0] rfl (by decide) 9 rfl ?_
  refine ww_if_eq C 54 dX7_untornRows_9 (by decide) 12 rfl (fun h_9 => ?_) (fun h_9 => ?_)
  · exact absurd (s_has_n (k := 16) hs ha) (bI_e0 h_9)
  · skip
    refine ww_iconst (v := 0) C dX7_untornRows_12 (by decide) 13 rfl ?_
    refine ww_istore C dX7_untornRows_13 (by decide) rfl 15 rfl ?_
    refine ww_loop (fun j : Nat => 16 - j) (fun j => j ≤ 16) (fun _ => [(h0, .inr (5, [.ref hi, .int lane, .int (nI sz)])), (hi, .inl (Γ.2.1, 60, .inl it))]) (fun j => [some (.ref h0), some (.int (nI a)), some (.long (s_unt it a j)), none, some (.int (nI j))]) (0 : Nat) (Nat.zero_le _) rfl rfl (fun j hj ih => ?_)
    try dsimp only at hj ih ⊢
    refine ww_iload C dX7_untornRows_15 rfl 17 rfl ?_
    refine ww_bipush (v := 16) C dX7_untornRows_17 (by decide) 19 rfl ?_
    refine ww_icmp_ge C 54 dX7_untornRows_19 (by decide) 22 rfl (fun h_19 => ?_) (fun h_19 => ?_)
    · skip
      obtain rfl : j = 16 := eqN (n := 16) h_19 hj (by decide)
      refine ww_lload_n (i := 2) C dX7_untornRows_54 rfl rfl 55 rfl ?_
      exact ww_lret C hr dX7_untornRows_55 rfl rfl
    · skip
      have hlt : j < 16 := ltN (n := 16) h_19 (by decide) (by omega)
      have ec : (nI a + nI j).toNatClampNeg = a + j := by rw [nI_add]; exact nI_clamp (by omega)
      refine ww_aload_n (i := 0) C dX7_untornRows_22 rfl rfl 23 rfl ?_
      refine ww_get C fe_X7_11 dX7_untornRows_23 0 rfl rfl 26 rfl ?_
      refine ww_iload_n (i := 1) C dX7_untornRows_26 rfl rfl 27 rfl ?_
      refine ww_iload C dX7_untornRows_27 rfl 29 rfl ?_
      refine ww_iadd C dX7_untornRows_29 30 rfl ?_
      refine ww_iald C dX7_untornRows_30 1 rfl (by rw [nI_add]; exact vp_in_nI (by omega) (by decide)) 31 rfl ?_
      rw [ec]
      refine ww_iconst (v := (-1)) C dX7_untornRows_31 (by decide) 32 rfl ?_
      refine ww_icmp_ne C 39 dX7_untornRows_32 (by decide) 35 rfl (fun h_32 => ?_) (fun h_32 => ?_)
      · skip
        refine ww_lload_n (i := 2) C dX7_untornRows_39 rfl rfl 40 rfl ?_
        refine ww_iload C dX7_untornRows_40 rfl 42 rfl ?_
        refine ww_bipush (v := 15) C dX7_untornRows_42 (by decide) 44 rfl ?_
        refine ww_callS3p C (c_X2_withFigure l Γ) mi_X2_withFigure st_X2_withFigure ml_X7_35 dX7_untornRows_44 (Nat.le_of_ble_eq_true rfl) (Nat.le_of_ble_eq_true rfl) (Nat.le_of_ble_eq_true rfl) ⟨Nat.zero_le _, Nat.zero_le _⟩ [] rfl (by decide) 47 rfl ?_
        refine ww_lstore_n (i := 2) C dX7_untornRows_47 rfl (by decide) rfl 48 rfl ?_
        refine ww_iinc (y := 1) C dX7_untornRows_48 rfl (by decide) (by decide) rfl 51 rfl ?_
        refine ww_goto C 15 dX7_untornRows_51 (by decide) ?_
        exact ww_eq rfl (by rw [nI_succ j, s_unt]; first | (rw [if_pos h_32]; rfl) | (rw [if_neg h_32]; rfl)) rfl (ih (j + 1) (by omega) (by omega))
      · skip
        refine ww_lload_n (i := 2) C dX7_untornRows_35 rfl rfl 36 rfl ?_
        refine ww_goto C 47 dX7_untornRows_36 (by decide) ?_
        refine ww_lstore_n (i := 2) C dX7_untornRows_47 rfl (by decide) rfl 48 rfl ?_
        refine ww_iinc (y := 1) C dX7_untornRows_48 rfl (by decide) (by decide) rfl 51 rfl ?_
        refine ww_goto C 15 dX7_untornRows_51 (by decide) ?_
        exact ww_eq rfl (by rw [nI_succ j, s_unt]; first | (rw [if_pos h_32]; rfl) | (rw [if_neg h_32]; rfl)) rfl (ih (j + 1) (by omega) (by omega))
