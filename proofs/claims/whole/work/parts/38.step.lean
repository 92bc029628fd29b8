/-- where token t begins and ends, and its sort in the model; behind the last: the end -/
def sa (T u : Nat) (st : Nat → Nat) (t : Nat) : Nat := if t < T then st t else u
def ee (T u : Nat) (st ln : Nat → Nat) (t : Nat) : Nat := if t < T then st t + ln t else u
def pe (T u : Nat) (st ln : Nat → Nat) : Nat → Nat
  | 0 => 0
  | t + 1 => ee T u st ln t
def so (T : Nat) (ln : Nat → Nat) (ty : Nat → Int32) (t : Nat) : Int32 := if t < T then (if ty t = 1 then (if ln t ≤ 6 then 2 else 0) else if ty t = 2 then (if ln t ≤ 4 then 3 else 0) else if ty t = 3 then 4 else 0) else 1
theorem srt_0 {x : Int32} : s_srt x = 0 ↔ x = 32 ∨ x = 10 := by
  unfold s_srt
  repeat' split
  all_goals simp_all
theorem srt_1 {x : Int32} : s_srt x = 1 ↔ (¬ x < 97 ∧ ¬ 122 < x) := by
  unfold s_srt
  split
  · next h => subst h; decide
  · split
    · next h => subst h; decide
    · split
      · next h => exact ⟨fun _ => h, fun _ => rfl⟩
      · next h =>
        refine ⟨fun q => ?_, fun q => absurd q h⟩
        exfalso
        split at q
        · exact absurd q (by decide)
        · split at q <;> exact absurd q (by decide)
theorem lt97 {x : Int32} (h : x < 97 ∨ 122 < x) : ¬ (¬ x < 97 ∧ ¬ 122 < x) := fun q => h.elim q.1 q.2
theorem srt_2 {x : Int32} : s_srt x = 2 ↔ (¬ x < 48 ∧ ¬ 57 < x) := by
  unfold s_srt
  split
  · next h => subst h; decide
  · split
    · next h => subst h; decide
    · split
      · next h =>
        refine ⟨fun q => absurd q (by decide), fun q => ?_⟩
        exact absurd (Int32.lt_of_lt_of_le (by decide : (57 : Int32) < 97) (Int32.not_lt.mp h.1)) q.2
      · split
        · next h => exact ⟨fun _ => h, fun _ => rfl⟩
        · next h =>
          refine ⟨fun q => ?_, fun q => absurd q h⟩
          exfalso
          split at q <;> exact absurd q (by decide)
theorem srt_3 {x : Int32} (h1 : ¬ s_srt x = 1) (h2 : ¬ s_srt x = 2) (h0 : ¬ s_srt x = 0) : (s_srt x = 3 ↔ x = 59) := by
  rw [srt_1] at h1
  rw [srt_2] at h2
  rw [srt_0] at h0
  unfold s_srt
  rw [if_neg (fun z => h0 (Or.inl z)), if_neg (fun z => h0 (Or.inr z)), if_neg h1, if_neg h2]
  split
  · next h => simp [h]
  · next h => simp [h]
section GAP
variable {b : Nat → Int32} {u T : Nat} {st ln : Nat → Nat} {ty : Nat → Int32}
theorem TI_gap (h : TI b u T st ln ty) {t : Nat} (ht : t ≤ T) : pe T u st ln t ≤ sa T u st t ∧ ∀ j, pe T u st ln t ≤ j → j < sa T u st t → s_srt (b j) = 0 := by
  obtain ⟨h1, h2, h3, h4, h5⟩ := h
  cases t with
  | zero =>
    refine ⟨Nat.zero_le _, fun j _ hj => ?_⟩
    unfold sa at hj
    split at hj
    · next q =>
      have := (h2 0 q).2.1
      have := (h2 0 q).1
      exact h4 j (Or.inr hj) (by omega)
    · next q => exact h4 j (Or.inl (by omega)) hj
  | succ t =>
    have hlt : t < T := by omega
    have e1 : pe T u st ln (t + 1) = st t + ln t := if_pos hlt
    rw [e1]
    unfold sa
    split
    · next q =>
      obtain ⟨a1, a2, -⟩ := h3 t q
      exact ⟨a1, a2⟩
    · next q =>
      refine ⟨(h2 t hlt).2.1, fun j hj hju => h5 j (by omega) ?_ hju⟩
      rw [show T - 1 = t by omega]
      exact hj
theorem TI_max (h : TI b u T st ln ty) {t : Nat} (ht : t < T) (hu : st t + ln t < u) (h12 : ty t = 1 ∨ ty t = 2) : ¬ s_srt (b (st t + ln t)) = ty t := by
  obtain ⟨h1, h2, h3, h4, h5⟩ := h
  have hne := (h2 t ht).2.2.1
  rcases Nat.lt_or_ge (t + 1) T with q | q
  · obtain ⟨a1, a2, a3⟩ := h3 t q
    rcases Nat.lt_or_ge (st t + ln t) (st (t + 1)) with z | z
    · rw [a2 _ (Nat.le_refl _) z]
      exact fun y => hne y.symm
    · have e : st t + ln t = st (t + 1) := by omega
      obtain ⟨b1, -, -, b4, -⟩ := h2 (t + 1) q
      have e2 : s_srt (b (st t + ln t)) = ty (t + 1) := by rw [e]; exact b4 _ (Nat.le_refl _) (by omega)
      rw [e2]
      exact fun y => a3 e ⟨y.symm, h12⟩
  · have e3 := h5 (st t + ln t) (by omega) (by rw [show T - 1 = t by omega]; exact Nat.le_refl _) hu
    rw [e3]
    exact fun y => hne y.symm
theorem sa_le (h : TI b u T st ln ty) (t : Nat) : sa T u st t ≤ u := by
  unfold sa
  split
  · next q => have := (h.2.1 t q).2.1; omega
  · exact Nat.le_refl _
theorem ee_le (h : TI b u T st ln ty) (t : Nat) : ee T u st ln t ≤ u := by
  unfold ee
  split
  · next q => exact (h.2.1 t q).2.1
  · exact Nat.le_refl _
end GAP
def tokI (I : Nat → Int32) (T u : Nat) (st ln : Nat → Nat) (ty : Nat → Int32) (t : Nat) : Nat → Int32 := upd (upd (upd (upd I 19 (nI (ee T u st ln t))) 20 (so T ln ty t)) 21 (nI (sa T u st t))) 22 (nI (ee T u st ln t))
theorem c_X11_byteAt (l : Launch) (Γ : Gm) {hm : Nat} {q : Nat → Nat} {I : Nat → Int32} {u x : Nat} {tp : Nat → Int32} (h18 : I 18 = nI u) (hu : u ≤ 400) (hx : x < 1000) : Ct l Γ yX11_byteAt cX11_byteAt 2 (some .int) 0 [.ref hm, .int (nI x)] ([wMo hm q (I), (q 15, .inl (Γ.2.1, 400, .inl tp))]) (some (.int (if x < u then tp x else -1000000))) ([wMo hm q (I), (q 15, .inl (Γ.2.1, 400, .inl tp))]) := by
  refine Ct.of mi_X11_byteAt [some (.ref hm), some (.int (nI x))] 0 rfl (Nat.le_of_ble_eq_true rfl) ?_
  intro p e s m args below meth c C hr
  refine ww_iload_n (i := 1) C dX11_byteAt_0 rfl rfl 1 rfl ?_
  refine ww_aload_n (i := 0) C dX11_byteAt_1 rfl rfl 2 rfl ?_
  refine ww_get C fe_X11_113 dX11_byteAt_2 0 rfl rfl 5 rfl ?_
  rw [h18]
  refine ww_icmp_ge C 17 dX11_byteAt_5 (by decide) 8 rfl (fun h_5 => ?_) (fun h_5 => ?_)
  · skip
    have hge : ¬ x < u := fun z => absurd h_5 (nI_ge z (by omega))
    refine ww_ldc C cn_X11_100 dX11_byteAt_17 19 rfl ?_
    exact ww_iret C hr dX11_byteAt_19 (by first | rw [if_neg hge] | rw [if_pos hlt, nI_clamp (show x < 2 ^ 31 by omega)]) rfl
  · skip
    have hlt : x < u := ltN h_5 (by omega) (by omega)
    refine ww_aload_n (i := 0) C dX11_byteAt_8 rfl rfl 9 rfl ?_
    refine ww_get C fe_X11_40 dX11_byteAt_9 0 rfl rfl 12 rfl ?_
    refine ww_iload_n (i := 1) C dX11_byteAt_12 rfl rfl 13 rfl ?_
    refine ww_iald C dX11_byteAt_13 1 rfl (vp_in_nI (by omega) (by decide)) 14 rfl ?_
    refine ww_goto C 19 dX11_byteAt_14 (by decide) ?_
    exact ww_iret C hr dX11_byteAt_19 (by first | rw [if_neg hge] | rw [if_pos hlt, nI_clamp (show x < 2 ^ 31 by omega)]) rfl
theorem c_X11_isLetter (l : Launch) (Γ : Gm) {x : Int32}  : Ct l Γ yX11_isLetter cX11_isLetter 1 (some .boolean) 0 [.int x] [] (some (.int (bI (¬ x < 97 ∧ ¬ 122 < x)))) [] := by
  refine Ct.of mi_X11_isLetter [some (.int x)] 0 rfl (Nat.le_of_ble_eq_true rfl) ?_
  intro p e s m args below meth c C hr
  refine ww_iload_n (i := 0) C dX11_isLetter_0 rfl rfl 1 rfl ?_
  refine ww_bipush (v := 97) C dX11_isLetter_1 (by decide) 3 rfl ?_
  refine ww_icmp_lt C 16 dX11_isLetter_3 (by decide) 6 rfl (fun h_3 => ?_) (fun h_3 => ?_)
  · skip
    refine ww_iconst (v := 0) C dX11_isLetter_16 (by decide) 17 rfl ?_
    exact ww_zret C hr rfl dX11_isLetter_17 (by simp [bI, *]) rfl
  · skip
    refine ww_iload_n (i := 0) C dX11_isLetter_6 rfl rfl 7 rfl ?_
    refine ww_bipush (v := 122) C dX11_isLetter_7 (by decide) 9 rfl ?_
    refine ww_icmp_gt C 16 dX11_isLetter_9 (by decide) 12 rfl (fun h_9 => ?_) (fun h_9 => ?_)
    · skip
      refine ww_iconst (v := 0) C dX11_isLetter_16 (by decide) 17 rfl ?_
      exact ww_zret C hr rfl dX11_isLetter_17 (by simp [bI, *]) rfl
    · skip
      refine ww_iconst (v := 1) C dX11_isLetter_12 (by decide) 13 rfl ?_
      refine ww_goto C 17 dX11_isLetter_13 (by decide) ?_
      exact ww_zret C hr rfl dX11_isLetter_17 (by simp [bI, *]) rfl
theorem c_X11_isFigure (l : Launch) (Γ : Gm) {x : Int32}  : Ct l Γ yX11_isFigure cX11_isFigure 1 (some .boolean) 0 [.int x] [] (some (.int (bI (¬ x < 48 ∧ ¬ 57 < x)))) [] := by
  refine Ct.of mi_X11_isFigure [some (.int x)] 0 rfl (Nat.le_of_ble_eq_true rfl) ?_
  intro p e s m args below meth c C hr
  refine ww_iload_n (i := 0) C dX11_isFigure_0 rfl rfl 1 rfl ?_
  refine ww_bipush (v := 48) C dX11_isFigure_1 (by decide) 3 rfl ?_
  refine ww_icmp_lt C 16 dX11_isFigure_3 (by decide) 6 rfl (fun h_3 => ?_) (fun h_3 => ?_)
  · skip
    refine ww_iconst (v := 0) C dX11_isFigure_16 (by decide) 17 rfl ?_
    exact ww_zret C hr rfl dX11_isFigure_17 (by simp [bI, *]) rfl
  · skip
    refine ww_iload_n (i := 0) C dX11_isFigure_6 rfl rfl 7 rfl ?_
    refine ww_bipush (v := 57) C dX11_isFigure_7 (by decide) 9 rfl ?_
    refine ww_icmp_gt C 16 dX11_isFigure_9 (by decide) 12 rfl (fun h_9 => ?_) (fun h_9 => ?_)
    · skip
      refine ww_iconst (v := 0) C dX11_isFigure_16 (by decide) 17 rfl ?_
      exact ww_zret C hr rfl dX11_isFigure_17 (by simp [bI, *]) rfl
    · skip
      refine ww_iconst (v := 1) C dX11_isFigure_12 (by decide) 13 rfl ?_
      refine ww_goto C 17 dX11_isFigure_13 (by decide) ?_
      exact ww_zret C hr rfl dX11_isFigure_17 (by simp [bI, *]) rfl
set_option maxHeartbeats 2000000 in
theorem c_X11_step (l : Launch) (Γ : Gm) {hm : Nat} {q : Nat → Nat} {I : Nat → Int32} {T u t : Nat} {st ln : Nat → Nat} {ty tp : Nat → Int32} (h18 : I 18 = nI u) (hu : u ≤ 400) (hTI : TI tp u T st ln ty) (hby : ∀ x, x < u → ∃ y, y < 256 ∧ tp x = nI y) (ht : t ≤ T) (h19 : I 19 = nI (pe T u st ln t)) : Ct l Γ yX11_step cX11_step 2 none 1 [.ref hm] ([wMo hm q (I), (q 15, .inl (Γ.2.1, 400, .inl tp))]) (none) ([wMo hm q (tokI I T u st ln ty t), (q 15, .inl (Γ.2.1, 400, .inl tp))]) := by
  refine Ct.of mi_X11_step [some (.ref hm), none] 1 rfl (Nat.le_of_ble_eq_true rfl) ?_
  intro p e s m args below meth c C hr
  have hgap := TI_gap hTI ht
  have hsu := sa_le hTI t
  refine ww_eq (ws' := [wMo hm q (upd (I) 19 (nI (pe T u st ln t))), (q 15, .inl (Γ.2.1, 400, .inl tp))]) (by rw [upd_same h19]) rfl rfl ?_
  refine ww_loop (fun c9 : Nat => u - c9) (fun c9 => pe T u st ln t ≤ c9 ∧ c9 ≤ sa T u st t) (fun c9 => [wMo hm q (upd (I) 19 (nI (c9))), (q 15, .inl (Γ.2.1, 400, .inl tp))]) (fun _ => [some (.ref hm), none]) (pe T u st ln t) ⟨Nat.le_refl _, hgap.1⟩ rfl rfl (fun c9 hc9 ih => ?_)
  obtain ⟨hc1, hc2⟩ := hc9
  try dsimp only at hc1 hc2 ih ⊢
  refine ww_aload_n (i := 0) C dX11_step_0 rfl rfl 1 rfl ?_
  refine ww_aload_n (i := 0) C dX11_step_1 rfl rfl 2 rfl ?_
  refine ww_get C fe_X11_116 dX11_step_2 0 rfl rfl 5 rfl ?_
  rw [show upd I 19 (nI c9) 19 = nI c9 from rfl]
  refine ww_callV1p C (c_X11_byteAt l Γ (q := q) (I := upd I 19 (nI c9)) (x := c9) h18 hu (by omega)) mi_X11_byteAt im_X11_byteAt se_X11_byteAt ml_X11_119 dX11_step_5 0 rfl rfl rfl (Nat.le_of_ble_eq_true rfl) (Nat.le_of_ble_eq_true rfl) (Nat.le_of_ble_eq_true rfl) ⟨Nat.zero_le _, Nat.zero_le _⟩ [0, 1] rfl (by decide) 8 rfl ?_
  refine ww_bipush (v := 32) C dX11_step_8 (by decide) 10 rfl ?_
  refine ww_icmp_eq C 26 dX11_step_10 (by decide) 13 rfl (fun h_10 => ?_) (fun h_10 => ?_)
  · skip
    have hcu : c9 < u := by
      rcases Nat.lt_or_ge c9 u with z | z
      · exact z
      · exfalso
        first
          | (rw [if_neg (by omega)] at h_10; exact absurd h_10 (by decide))
          | (rw [if_neg (by omega)] at h_23; exact absurd h_23 (by decide))
    have hbl : s_srt (tp c9) = 0 := by
      first
        | (rw [if_pos hcu] at h_10; exact srt_0.mpr (Or.inl h_10))
        | (rw [if_pos hcu] at h_23; exact srt_0.mpr (Or.inr h_23))
    have hlt : c9 < sa T u st t := by
      rcases Nat.lt_or_ge c9 (sa T u st t) with z | z
      · exact z
      · exfalso
        have ec : c9 = sa T u st t := by omega
        unfold sa at ec
        split at ec
        · next y =>
          have a := hTI.2.1 t y
          exact a.2.2.1 ((a.2.2.2.1 c9 (by omega) (by omega)).symm.trans hbl)
        · omega
    refine ww_aload_n (i := 0) C dX11_step_26 rfl rfl 27 rfl ?_
    refine ww_dup C dX11_step_27 rfl 28 rfl ?_
    refine ww_get C fe_X11_116 dX11_step_28 0 rfl rfl 31 rfl ?_
    refine ww_iconst (v := 1) C dX11_step_31 (by decide) 32 rfl ?_
    refine ww_iadd C dX11_step_32 33 rfl ?_
    refine ww_mput_19 C fe_X11_116 dX11_step_33 36 rfl ?_
    refine ww_goto C 0 dX11_step_36 (by decide) ?_
    exact ww_eq (by rw [show nI (c9 + 1) = nI c9 + 1 from nI_succ c9]; rfl) rfl rfl (ih (c9 + 1) ⟨by omega, by omega⟩ (by omega))
  · skip
    refine ww_aload_n (i := 0) C dX11_step_13 rfl rfl 14 rfl ?_
    refine ww_aload_n (i := 0) C dX11_step_14 rfl rfl 15 rfl ?_
    refine ww_get C fe_X11_116 dX11_step_15 0 rfl rfl 18 rfl ?_
    rw [show upd I 19 (nI c9) 19 = nI c9 from rfl]
    refine ww_callV1p C (c_X11_byteAt l Γ (q := q) (I := upd I 19 (nI c9)) (x := c9) h18 hu (by omega)) mi_X11_byteAt im_X11_byteAt se_X11_byteAt ml_X11_119 dX11_step_18 0 rfl rfl rfl (Nat.le_of_ble_eq_true rfl) (Nat.le_of_ble_eq_true rfl) (Nat.le_of_ble_eq_true rfl) ⟨Nat.zero_le _, Nat.zero_le _⟩ [0, 1] rfl (by decide) 21 rfl ?_
    refine ww_bipush (v := 10) C dX11_step_21 (by decide) 23 rfl ?_
    refine ww_icmp_ne C 39 dX11_step_23 (by decide) 26 rfl (fun h_23 => ?_) (fun h_23 => ?_)
    · skip
      obtain rfl : c9 = sa T u st t := by
        rcases Nat.lt_or_ge c9 (sa T u st t) with z | z
        · exfalso
          have hcu : c9 < u := Nat.lt_of_lt_of_le z hsu
          have := srt_0.mp (hgap.2 c9 hc1 z)
          rw [if_pos hcu] at h_10 h_23
          exact this.elim h_10 h_23
        · omega
      refine ww_aload_n (i := 0) C dX11_step_39 rfl rfl 40 rfl ?_
      refine ww_aload_n (i := 0) C dX11_step_40 rfl rfl 41 rfl ?_
      refine ww_get C fe_X11_116 dX11_step_41 0 rfl rfl 44 rfl ?_
      refine ww_mput_21 C fe_X11_122 dX11_step_44 47 rfl ?_
      refine ww_aload_n (i := 0) C dX11_step_47 rfl rfl 48 rfl ?_
      refine ww_aload_n (i := 0) C dX11_step_48 rfl rfl 49 rfl ?_
      refine ww_get C fe_X11_116 dX11_step_49 0 rfl rfl 52 rfl ?_
      rw [show upd (upd I 19 (nI (sa T u st t))) 21 (upd I 19 (nI (sa T u st t)) 19) 19 = nI (sa T u st t) from rfl]
      refine ww_callV1p C (c_X11_byteAt l Γ (q := q) (I := upd (upd I 19 (nI (sa T u st t))) 21 (nI (sa T u st t))) (x := sa T u st t) h18 hu (by omega)) mi_X11_byteAt im_X11_byteAt se_X11_byteAt ml_X11_119 dX11_step_52 0 rfl rfl rfl (Nat.le_of_ble_eq_true rfl) (Nat.le_of_ble_eq_true rfl) (Nat.le_of_ble_eq_true rfl) ⟨Nat.zero_le _, Nat.zero_le _⟩ [0, 1] rfl (by decide) 55 rfl ?_
      refine ww_eq (ws' := [wMo hm q (upd (upd I 19 (nI (sa T u st t))) 21 (nI (sa T u st t))), (q 15, .inl (Γ.2.1, 400, .inl tp))]) rfl rfl rfl ?_
      have h4 : ¬ t < T ∨ (t < T ∧ (ty t = 1 ∨ ty t = 2 ∨ (¬ ty t = 1 ∧ ¬ ty t = 2))) := by
        rcases Nat.lt_or_ge t T with z | z
        · right
          refine ⟨z, ?_⟩
          by_cases y : ty t = 1
          · exact Or.inl y
          · by_cases w : ty t = 2
            · exact Or.inr (Or.inl w)
            · exact Or.inr (Or.inr ⟨y, w⟩)
        · left; omega
      rcases h4 with htT | ⟨htT, hty | hty | hty⟩
      · skip
        have hsa : sa T u st t = u := if_neg htT
        have hee : ee T u st ln t = u := if_neg htT
        have hso : so T ln ty t = 1 := if_neg htT
        rw [if_neg (by omega)]
        rw [hsa]
        refine ww_istore_n (i := 1) C dX11_step_55 rfl (by decide) rfl 56 rfl ?_
        refine ww_iload_n (i := 1) C dX11_step_56 rfl rfl 57 rfl ?_
        refine ww_ldc C cn_X11_100 dX11_step_57 59 rfl ?_
        refine ww_icmp_ne C 70 dX11_step_59 (by decide) 62 rfl (fun h_59 => ?_) (fun h_59 => ?_)
        · exact absurd h_59 (by decide)
        · skip
          refine ww_aload_n (i := 0) C dX11_step_62 rfl rfl 63 rfl ?_
          refine ww_iconst (v := 1) C dX11_step_63 (by decide) 64 rfl ?_
          refine ww_mput_20 C fe_X11_125 dX11_step_64 67 rfl ?_
          refine ww_goto C 214 dX11_step_67 (by decide) ?_
          refine ww_aload_n (i := 0) C dX11_step_214 rfl rfl 215 rfl ?_
          refine ww_aload_n (i := 0) C dX11_step_215 rfl rfl 216 rfl ?_
          refine ww_get C fe_X11_116 dX11_step_216 0 rfl rfl 219 rfl ?_
          refine ww_mput_22 C fe_X11_134 dX11_step_219 222 rfl ?_
          exact ww_vret C hr dX11_step_222 rfl (by rw [tokI, hso, hsa, hee]; rfl)
      · skip
        have hTt := hTI.2.1 t htT
        have hsa : sa T u st t = st t := if_pos htT
        have hee : ee T u st ln t = st t + ln t := if_pos htT
        have hlu : st t < u := by have := hTt.1; have := hTt.2.1; omega
        have hfs : s_srt (tp (st t)) = ty t := hTt.2.2.2.1 _ (Nat.le_refl _) (by have := hTt.1; omega)
        have hnn : ¬ tp (st t) = -1000000 := by
          obtain ⟨y, hy, e⟩ := hby _ hlu
          rw [e]
          intro z
          have := congrArg Int32.toInt z
          rw [nI_toInt (by omega)] at this
          have e2 : (-1000000 : Int32).toInt = -1000000 := by decide
          omega
        rw [hsa, if_pos hlu]
        refine ww_istore_n (i := 1) C dX11_step_55 rfl (by decide) rfl 56 rfl ?_
        refine ww_iload_n (i := 1) C dX11_step_56 rfl rfl 57 rfl ?_
        refine ww_ldc C cn_X11_100 dX11_step_57 59 rfl ?_
        refine ww_icmp_ne C 70 dX11_step_59 (by decide) 62 rfl (fun h_59 => ?_) (fun h_59 => ?_)
        · skip
          refine ww_iload_n (i := 1) C dX11_step_70 rfl rfl 71 rfl ?_
          refine ww_callS1p C (c_X11_isLetter l Γ) mi_X11_isLetter st_X11_isLetter ml_X11_128 dX11_step_71 (Nat.le_of_ble_eq_true rfl) (Nat.le_of_ble_eq_true rfl) (Nat.le_of_ble_eq_true rfl) ⟨Nat.zero_le _, Nat.zero_le _⟩ [] rfl (by decide) 74 rfl ?_
          refine ww_if_eq C 130 dX11_step_74 (by decide) 77 rfl (fun h_74 => ?_) (fun h_74 => ?_)
          · exact absurd (srt_1.mp (hfs.trans hty)) (bI_e0 h_74)
          · skip
            refine ww_loop (fun c9 : Nat => u - c9) (fun c9 => st t ≤ c9 ∧ c9 ≤ st t + ln t) (fun c9 => [wMo hm q (upd (upd I 19 (nI c9)) 21 (nI (st t))), (q 15, .inl (Γ.2.1, 400, .inl tp))]) (fun _ => [some (.ref hm), some (.int (tp (st t)))]) (st t) ⟨Nat.le_refl _, by omega⟩ rfl rfl (fun c9 hc9 ih => ?_)
            obtain ⟨hc1, hc2⟩ := hc9
            try dsimp only at hc1 hc2 ih ⊢
            refine ww_aload_n (i := 0) C dX11_step_77 rfl rfl 78 rfl ?_
            refine ww_aload_n (i := 0) C dX11_step_78 rfl rfl 79 rfl ?_
            refine ww_get C fe_X11_116 dX11_step_79 0 rfl rfl 82 rfl ?_
            rw [show (upd (upd I 19 (nI c9)) 21 (nI (st t))) 19 = nI c9 from rfl]
            refine ww_callV1p C (c_X11_byteAt l Γ (q := q) (I := upd (upd I 19 (nI c9)) 21 (nI (st t))) (x := c9) h18 hu (by omega)) mi_X11_byteAt im_X11_byteAt se_X11_byteAt ml_X11_119 dX11_step_82 0 rfl rfl rfl (Nat.le_of_ble_eq_true rfl) (Nat.le_of_ble_eq_true rfl) (Nat.le_of_ble_eq_true rfl) ⟨Nat.zero_le _, Nat.zero_le _⟩ [0, 1] rfl (by decide) 85 rfl ?_
            refine ww_callS1p C (c_X11_isLetter l Γ) mi_X11_isLetter st_X11_isLetter ml_X11_128 dX11_step_85 (Nat.le_of_ble_eq_true rfl) (Nat.le_of_ble_eq_true rfl) (Nat.le_of_ble_eq_true rfl) ⟨Nat.zero_le _, Nat.zero_le _⟩ [] rfl (by decide) 88 rfl ?_
            refine ww_if_eq C 104 dX11_step_88 (by decide) 91 rfl (fun h_88 => ?_) (fun h_88 => ?_)
            · skip
              obtain rfl : c9 = st t + ln t := by
                rcases Nat.lt_or_ge c9 (st t + ln t) with z | z
                · exfalso
                  have y : c9 < u := by omega
                  have := bI_e0 h_88
                  rw [if_pos y] at this
                  exact this (srt_1.mp ((hTt.2.2.2.1 c9 hc1 z).trans hty))
                · omega
              refine ww_aload_n (i := 0) C dX11_step_104 rfl rfl 105 rfl ?_
              refine ww_aload_n (i := 0) C dX11_step_105 rfl rfl 106 rfl ?_
              refine ww_get C fe_X11_116 dX11_step_106 0 rfl rfl 109 rfl ?_
              refine ww_aload_n (i := 0) C dX11_step_109 rfl rfl 110 rfl ?_
              refine ww_get C fe_X11_122 dX11_step_110 0 rfl rfl 113 rfl ?_
              refine ww_isub C dX11_step_113 114 rfl ?_
              rw [show (upd (upd I 19 (nI (st t + ln t))) 21 (nI (st t))) 19 - (upd (upd I 19 (nI (st t + ln t))) 21 (nI (st t))) 21 = nI (ln t) from (pk_sub (Nat.le_add_right _ _)).trans (congrArg nI (by omega))]
              refine ww_bipush (v := 6) C dX11_step_114 (by decide) 116 rfl ?_
              refine ww_icmp_le C 123 dX11_step_116 (by decide) 119 rfl (fun h_116 => ?_) (fun h_116 => ?_)
              · skip
                have h6 : ln t ≤ 6 := (nI_leI (b := 6) (by omega) (by decide)).mp h_116
                refine ww_iconst (v := 2) C dX11_step_123 (by decide) 124 rfl ?_
                refine ww_mput_20 C fe_X11_125 dX11_step_124 127 rfl ?_
                refine ww_goto C 214 dX11_step_127 (by decide) ?_
                refine ww_aload_n (i := 0) C dX11_step_214 rfl rfl 215 rfl ?_
                refine ww_aload_n (i := 0) C dX11_step_215 rfl rfl 216 rfl ?_
                refine ww_get C fe_X11_116 dX11_step_216 0 rfl rfl 219 rfl ?_
                refine ww_mput_22 C fe_X11_134 dX11_step_219 222 rfl ?_
                first
                  | exact ww_vret C hr dX11_step_222 rfl (by rw [tokI, show so T ln ty t = 2 from by rw [so, if_pos htT, if_pos hty, if_pos h6], hsa, hee]; rfl)
                  | exact ww_vret C hr dX11_step_222 rfl (by rw [tokI, show so T ln ty t = 0 from by rw [so, if_pos htT, if_pos hty, if_neg h6], hsa, hee]; rfl)
              · skip
                have h6 : ¬ ln t ≤ 6 := fun z => h_116 (nI_le (b := 6) z (by decide))
                refine ww_iconst (v := 0) C dX11_step_119 (by decide) 120 rfl ?_
                refine ww_goto C 124 dX11_step_120 (by decide) ?_
                refine ww_mput_20 C fe_X11_125 dX11_step_124 127 rfl ?_
                refine ww_goto C 214 dX11_step_127 (by decide) ?_
                refine ww_aload_n (i := 0) C dX11_step_214 rfl rfl 215 rfl ?_
                refine ww_aload_n (i := 0) C dX11_step_215 rfl rfl 216 rfl ?_
                refine ww_get C fe_X11_116 dX11_step_216 0 rfl rfl 219 rfl ?_
                refine ww_mput_22 C fe_X11_134 dX11_step_219 222 rfl ?_
                first
                  | exact ww_vret C hr dX11_step_222 rfl (by rw [tokI, show so T ln ty t = 2 from by rw [so, if_pos htT, if_pos hty, if_pos h6], hsa, hee]; rfl)
                  | exact ww_vret C hr dX11_step_222 rfl (by rw [tokI, show so T ln ty t = 0 from by rw [so, if_pos htT, if_pos hty, if_neg h6], hsa, hee]; rfl)
            · skip
              have hlt : c9 < st t + ln t := by
                rcases Nat.lt_or_ge c9 (st t + ln t) with z | z
                · exact z
                · exfalso
                  have ec : c9 = st t + ln t := by omega
                  rcases Nat.lt_or_ge c9 u with y | y
                  · have := bI_n0 h_88
                    rw [if_pos y] at this
                    exact TI_max hTI htT (by omega) (Or.inl hty) (by rw [← ec, hty]; exact srt_1.mpr this)
                  · have := bI_n0 h_88
                    rw [if_neg (by omega)] at this
                    exact absurd this (by decide)
              refine ww_aload_n (i := 0) C dX11_step_91 rfl rfl 92 rfl ?_
              refine ww_dup C dX11_step_92 rfl 93 rfl ?_
              refine ww_get C fe_X11_116 dX11_step_93 0 rfl rfl 96 rfl ?_
              refine ww_iconst (v := 1) C dX11_step_96 (by decide) 97 rfl ?_
              refine ww_iadd C dX11_step_97 98 rfl ?_
              refine ww_mput_19 C fe_X11_116 dX11_step_98 101 rfl ?_
              refine ww_goto C 77 dX11_step_101 (by decide) ?_
              exact ww_eq (by rw [show nI (c9 + 1) = nI c9 + 1 from nI_succ c9]; rfl) rfl rfl (ih (c9 + 1) ⟨by omega, by omega⟩ (by omega))
        · exact absurd h_59 hnn
      · skip
        have hTt := hTI.2.1 t htT
        have hsa : sa T u st t = st t := if_pos htT
        have hee : ee T u st ln t = st t + ln t := if_pos htT
        have hlu : st t < u := by have := hTt.1; have := hTt.2.1; omega
        have hfs : s_srt (tp (st t)) = ty t := hTt.2.2.2.1 _ (Nat.le_refl _) (by have := hTt.1; omega)
        have hnn : ¬ tp (st t) = -1000000 := by
          obtain ⟨y, hy, e⟩ := hby _ hlu
          rw [e]
          intro z
          have := congrArg Int32.toInt z
          rw [nI_toInt (by omega)] at this
          have e2 : (-1000000 : Int32).toInt = -1000000 := by decide
          omega
        rw [hsa, if_pos hlu]
        refine ww_istore_n (i := 1) C dX11_step_55 rfl (by decide) rfl 56 rfl ?_
        refine ww_iload_n (i := 1) C dX11_step_56 rfl rfl 57 rfl ?_
        refine ww_ldc C cn_X11_100 dX11_step_57 59 rfl ?_
        refine ww_icmp_ne C 70 dX11_step_59 (by decide) 62 rfl (fun h_59 => ?_) (fun h_59 => ?_)
        · skip
          refine ww_iload_n (i := 1) C dX11_step_70 rfl rfl 71 rfl ?_
          refine ww_callS1p C (c_X11_isLetter l Γ) mi_X11_isLetter st_X11_isLetter ml_X11_128 dX11_step_71 (Nat.le_of_ble_eq_true rfl) (Nat.le_of_ble_eq_true rfl) (Nat.le_of_ble_eq_true rfl) ⟨Nat.zero_le _, Nat.zero_le _⟩ [] rfl (by decide) 74 rfl ?_
          refine ww_if_eq C 130 dX11_step_74 (by decide) 77 rfl (fun h_74 => ?_) (fun h_74 => ?_)
          · skip
            refine ww_iload_n (i := 1) C dX11_step_130 rfl rfl 131 rfl ?_
            refine ww_callS1p C (c_X11_isFigure l Γ) mi_X11_isFigure st_X11_isFigure ml_X11_131 dX11_step_131 (Nat.le_of_ble_eq_true rfl) (Nat.le_of_ble_eq_true rfl) (Nat.le_of_ble_eq_true rfl) ⟨Nat.zero_le _, Nat.zero_le _⟩ [] rfl (by decide) 134 rfl ?_
            refine ww_if_eq C 189 dX11_step_134 (by decide) 137 rfl (fun h_134 => ?_) (fun h_134 => ?_)
            · exact absurd (srt_2.mp (hfs.trans hty)) (bI_e0 h_134)
            · skip
              refine ww_loop (fun c9 : Nat => u - c9) (fun c9 => st t ≤ c9 ∧ c9 ≤ st t + ln t) (fun c9 => [wMo hm q (upd (upd I 19 (nI c9)) 21 (nI (st t))), (q 15, .inl (Γ.2.1, 400, .inl tp))]) (fun _ => [some (.ref hm), some (.int (tp (st t)))]) (st t) ⟨Nat.le_refl _, by omega⟩ rfl rfl (fun c9 hc9 ih => ?_)
              obtain ⟨hc1, hc2⟩ := hc9
              try dsimp only at hc1 hc2 ih ⊢
              refine ww_aload_n (i := 0) C dX11_step_137 rfl rfl 138 rfl ?_
              refine ww_aload_n (i := 0) C dX11_step_138 rfl rfl 139 rfl ?_
              refine ww_get C fe_X11_116 dX11_step_139 0 rfl rfl 142 rfl ?_
              rw [show (upd (upd I 19 (nI c9)) 21 (nI (st t))) 19 = nI c9 from rfl]
              refine ww_callV1p C (c_X11_byteAt l Γ (q := q) (I := upd (upd I 19 (nI c9)) 21 (nI (st t))) (x := c9) h18 hu (by omega)) mi_X11_byteAt im_X11_byteAt se_X11_byteAt ml_X11_119 dX11_step_142 0 rfl rfl rfl (Nat.le_of_ble_eq_true rfl) (Nat.le_of_ble_eq_true rfl) (Nat.le_of_ble_eq_true rfl) ⟨Nat.zero_le _, Nat.zero_le _⟩ [0, 1] rfl (by decide) 145 rfl ?_
              refine ww_callS1p C (c_X11_isFigure l Γ) mi_X11_isFigure st_X11_isFigure ml_X11_131 dX11_step_145 (Nat.le_of_ble_eq_true rfl) (Nat.le_of_ble_eq_true rfl) (Nat.le_of_ble_eq_true rfl) ⟨Nat.zero_le _, Nat.zero_le _⟩ [] rfl (by decide) 148 rfl ?_
              refine ww_if_eq C 164 dX11_step_148 (by decide) 151 rfl (fun h_148 => ?_) (fun h_148 => ?_)
              · skip
                obtain rfl : c9 = st t + ln t := by
                  rcases Nat.lt_or_ge c9 (st t + ln t) with z | z
                  · exfalso
                    have y : c9 < u := by omega
                    have := bI_e0 h_148
                    rw [if_pos y] at this
                    exact this (srt_2.mp ((hTt.2.2.2.1 c9 hc1 z).trans hty))
                  · omega
                refine ww_aload_n (i := 0) C dX11_step_164 rfl rfl 165 rfl ?_
                refine ww_aload_n (i := 0) C dX11_step_165 rfl rfl 166 rfl ?_
                refine ww_get C fe_X11_116 dX11_step_166 0 rfl rfl 169 rfl ?_
                refine ww_aload_n (i := 0) C dX11_step_169 rfl rfl 170 rfl ?_
                refine ww_get C fe_X11_122 dX11_step_170 0 rfl rfl 173 rfl ?_
                refine ww_isub C dX11_step_173 174 rfl ?_
                rw [show (upd (upd I 19 (nI (st t + ln t))) 21 (nI (st t))) 19 - (upd (upd I 19 (nI (st t + ln t))) 21 (nI (st t))) 21 = nI (ln t) from (pk_sub (Nat.le_add_right _ _)).trans (congrArg nI (by omega))]
                refine ww_iconst (v := 4) C dX11_step_174 (by decide) 175 rfl ?_
                refine ww_icmp_le C 182 dX11_step_175 (by decide) 178 rfl (fun h_175 => ?_) (fun h_175 => ?_)
                · skip
                  have h6 : ln t ≤ 4 := (nI_leI (b := 4) (by omega) (by decide)).mp h_175
                  refine ww_iconst (v := 3) C dX11_step_182 (by decide) 183 rfl ?_
                  refine ww_mput_20 C fe_X11_125 dX11_step_183 186 rfl ?_
                  refine ww_goto C 214 dX11_step_186 (by decide) ?_
                  refine ww_aload_n (i := 0) C dX11_step_214 rfl rfl 215 rfl ?_
                  refine ww_aload_n (i := 0) C dX11_step_215 rfl rfl 216 rfl ?_
                  refine ww_get C fe_X11_116 dX11_step_216 0 rfl rfl 219 rfl ?_
                  refine ww_mput_22 C fe_X11_134 dX11_step_219 222 rfl ?_
                  first
                    | exact ww_vret C hr dX11_step_222 rfl (by rw [tokI, show so T ln ty t = 3 from by rw [so, if_pos htT, if_neg (by rw [hty]; decide), if_pos hty, if_pos h6], hsa, hee]; rfl)
                    | exact ww_vret C hr dX11_step_222 rfl (by rw [tokI, show so T ln ty t = 0 from by rw [so, if_pos htT, if_neg (by rw [hty]; decide), if_pos hty, if_neg h6], hsa, hee]; rfl)
                · skip
                  have h6 : ¬ ln t ≤ 4 := fun z => h_175 (nI_le (b := 4) z (by decide))
                  refine ww_iconst (v := 0) C dX11_step_178 (by decide) 179 rfl ?_
                  refine ww_goto C 183 dX11_step_179 (by decide) ?_
                  refine ww_mput_20 C fe_X11_125 dX11_step_183 186 rfl ?_
                  refine ww_goto C 214 dX11_step_186 (by decide) ?_
                  refine ww_aload_n (i := 0) C dX11_step_214 rfl rfl 215 rfl ?_
                  refine ww_aload_n (i := 0) C dX11_step_215 rfl rfl 216 rfl ?_
                  refine ww_get C fe_X11_116 dX11_step_216 0 rfl rfl 219 rfl ?_
                  refine ww_mput_22 C fe_X11_134 dX11_step_219 222 rfl ?_
                  first
                    | exact ww_vret C hr dX11_step_222 rfl (by rw [tokI, show so T ln ty t = 3 from by rw [so, if_pos htT, if_neg (by rw [hty]; decide), if_pos hty, if_pos h6], hsa, hee]; rfl)
                    | exact ww_vret C hr dX11_step_222 rfl (by rw [tokI, show so T ln ty t = 0 from by rw [so, if_pos htT, if_neg (by rw [hty]; decide), if_pos hty, if_neg h6], hsa, hee]; rfl)
              · skip
                have hlt : c9 < st t + ln t := by
                  rcases Nat.lt_or_ge c9 (st t + ln t) with z | z
                  · exact z
                  · exfalso
                    have ec : c9 = st t + ln t := by omega
                    rcases Nat.lt_or_ge c9 u with y | y
                    · have := bI_n0 h_148
                      rw [if_pos y] at this
                      exact TI_max hTI htT (by omega) (Or.inr hty) (by rw [← ec, hty]; exact srt_2.mpr this)
                    · have := bI_n0 h_148
                      rw [if_neg (by omega)] at this
                      exact absurd this (by decide)
                refine ww_aload_n (i := 0) C dX11_step_151 rfl rfl 152 rfl ?_
                refine ww_dup C dX11_step_152 rfl 153 rfl ?_
                refine ww_get C fe_X11_116 dX11_step_153 0 rfl rfl 156 rfl ?_
                refine ww_iconst (v := 1) C dX11_step_156 (by decide) 157 rfl ?_
                refine ww_iadd C dX11_step_157 158 rfl ?_
                refine ww_mput_19 C fe_X11_116 dX11_step_158 161 rfl ?_
                refine ww_goto C 137 dX11_step_161 (by decide) ?_
                exact ww_eq (by rw [show nI (c9 + 1) = nI c9 + 1 from nI_succ c9]; rfl) rfl rfl (ih (c9 + 1) ⟨by omega, by omega⟩ (by omega))
          · exact absurd (srt_1.mpr (bI_n0 h_74)) (by rw [hfs, hty]; decide)
        · exact absurd h_59 hnn
      · skip
        have hTt := hTI.2.1 t htT
        have hsa : sa T u st t = st t := if_pos htT
        have hee : ee T u st ln t = st t + ln t := if_pos htT
        have hlu : st t < u := by have := hTt.1; have := hTt.2.1; omega
        have hfs : s_srt (tp (st t)) = ty t := hTt.2.2.2.1 _ (Nat.le_refl _) (by have := hTt.1; omega)
        have hnn : ¬ tp (st t) = -1000000 := by
          obtain ⟨y, hy, e⟩ := hby _ hlu
          rw [e]
          intro z
          have := congrArg Int32.toInt z
          rw [nI_toInt (by omega)] at this
          have e2 : (-1000000 : Int32).toInt = -1000000 := by decide
          omega
        rw [hsa, if_pos hlu]
        have hl1 : ln t = 1 := hTt.2.2.2.2 hty.1 hty.2
        have h59 := srt_3 (x := tp (st t)) (by rw [hfs]; exact hty.1) (by rw [hfs]; exact hty.2) (by rw [hfs]; exact hTt.2.2.1)
        rw [hfs] at h59
        refine ww_istore_n (i := 1) C dX11_step_55 rfl (by decide) rfl 56 rfl ?_
        refine ww_iload_n (i := 1) C dX11_step_56 rfl rfl 57 rfl ?_
        refine ww_ldc C cn_X11_100 dX11_step_57 59 rfl ?_
        refine ww_icmp_ne C 70 dX11_step_59 (by decide) 62 rfl (fun h_59 => ?_) (fun h_59 => ?_)
        · skip
          refine ww_iload_n (i := 1) C dX11_step_70 rfl rfl 71 rfl ?_
          refine ww_callS1p C (c_X11_isLetter l Γ) mi_X11_isLetter st_X11_isLetter ml_X11_128 dX11_step_71 (Nat.le_of_ble_eq_true rfl) (Nat.le_of_ble_eq_true rfl) (Nat.le_of_ble_eq_true rfl) ⟨Nat.zero_le _, Nat.zero_le _⟩ [] rfl (by decide) 74 rfl ?_
          refine ww_if_eq C 130 dX11_step_74 (by decide) 77 rfl (fun h_74 => ?_) (fun h_74 => ?_)
          · skip
            refine ww_iload_n (i := 1) C dX11_step_130 rfl rfl 131 rfl ?_
            refine ww_callS1p C (c_X11_isFigure l Γ) mi_X11_isFigure st_X11_isFigure ml_X11_131 dX11_step_131 (Nat.le_of_ble_eq_true rfl) (Nat.le_of_ble_eq_true rfl) (Nat.le_of_ble_eq_true rfl) ⟨Nat.zero_le _, Nat.zero_le _⟩ [] rfl (by decide) 134 rfl ?_
            refine ww_if_eq C 189 dX11_step_134 (by decide) 137 rfl (fun h_134 => ?_) (fun h_134 => ?_)
            · skip
              refine ww_aload_n (i := 0) C dX11_step_189 rfl rfl 190 rfl ?_
              refine ww_dup C dX11_step_190 rfl 191 rfl ?_
              refine ww_get C fe_X11_116 dX11_step_191 0 rfl rfl 194 rfl ?_
              refine ww_iconst (v := 1) C dX11_step_194 (by decide) 195 rfl ?_
              refine ww_iadd C dX11_step_195 196 rfl ?_
              refine ww_mput_19 C fe_X11_116 dX11_step_196 199 rfl ?_
              refine ww_aload_n (i := 0) C dX11_step_199 rfl rfl 200 rfl ?_
              refine ww_iload_n (i := 1) C dX11_step_200 rfl rfl 201 rfl ?_
              refine ww_bipush (v := 59) C dX11_step_201 (by decide) 203 rfl ?_
              refine ww_icmp_ne C 210 dX11_step_203 (by decide) 206 rfl (fun h_203 => ?_) (fun h_203 => ?_)
              · skip
                refine ww_iconst (v := 0) C dX11_step_210 (by decide) 211 rfl ?_
                refine ww_mput_20 C fe_X11_125 dX11_step_211 214 rfl ?_
                refine ww_aload_n (i := 0) C dX11_step_214 rfl rfl 215 rfl ?_
                refine ww_aload_n (i := 0) C dX11_step_215 rfl rfl 216 rfl ?_
                refine ww_get C fe_X11_116 dX11_step_216 0 rfl rfl 219 rfl ?_
                refine ww_mput_22 C fe_X11_134 dX11_step_219 222 rfl ?_
                first
                  | exact ww_vret C hr dX11_step_222 rfl (by rw [tokI, show so T ln ty t = 4 from by rw [so, if_pos htT, if_neg hty.1, if_neg hty.2, if_pos (h59.mpr h_203)], hsa, hee, hl1, nI_succ (st t)]; rfl)
                  | exact ww_vret C hr dX11_step_222 rfl (by rw [tokI, show so T ln ty t = 0 from by rw [so, if_pos htT, if_neg hty.1, if_neg hty.2, if_neg (fun z => h_203 (h59.mp z))], hsa, hee, hl1, nI_succ (st t)]; rfl)
              · skip
                refine ww_iconst (v := 4) C dX11_step_206 (by decide) 207 rfl ?_
                refine ww_goto C 211 dX11_step_207 (by decide) ?_
                refine ww_mput_20 C fe_X11_125 dX11_step_211 214 rfl ?_
                refine ww_aload_n (i := 0) C dX11_step_214 rfl rfl 215 rfl ?_
                refine ww_aload_n (i := 0) C dX11_step_215 rfl rfl 216 rfl ?_
                refine ww_get C fe_X11_116 dX11_step_216 0 rfl rfl 219 rfl ?_
                refine ww_mput_22 C fe_X11_134 dX11_step_219 222 rfl ?_
                first
                  | exact ww_vret C hr dX11_step_222 rfl (by rw [tokI, show so T ln ty t = 4 from by rw [so, if_pos htT, if_neg hty.1, if_neg hty.2, if_pos (h59.mpr h_203)], hsa, hee, hl1, nI_succ (st t)]; rfl)
                  | exact ww_vret C hr dX11_step_222 rfl (by rw [tokI, show so T ln ty t = 0 from by rw [so, if_pos htT, if_neg hty.1, if_neg hty.2, if_neg (fun z => h_203 (h59.mp z))], hsa, hee, hl1, nI_succ (st t)]; rfl)
            · exact absurd (srt_2.mpr (bI_n0 h_134)) (by rw [hfs]; exact hty.2)
          · exact absurd (srt_1.mpr (bI_n0 h_74)) (by rw [hfs]; exact hty.1)
        · exact absurd h_59 hnn
    · skip
      have hcu : c9 < u := by
        rcases Nat.lt_or_ge c9 u with z | z
        · exact z
        · exfalso
          first
            | (rw [if_neg (by omega)] at h_10; exact absurd h_10 (by decide))
            | (rw [if_neg (by omega)] at h_23; exact absurd h_23 (by decide))
      have hbl : s_srt (tp c9) = 0 := by
        first
          | (rw [if_pos hcu] at h_10; exact srt_0.mpr (Or.inl h_10))
          | (rw [if_pos hcu] at h_23; exact srt_0.mpr (Or.inr h_23))
      have hlt : c9 < sa T u st t := by
        rcases Nat.lt_or_ge c9 (sa T u st t) with z | z
        · exact z
        · exfalso
          have ec : c9 = sa T u st t := by omega
          unfold sa at ec
          split at ec
          · next y =>
            have a := hTI.2.1 t y
            exact a.2.2.1 ((a.2.2.2.1 c9 (by omega) (by omega)).symm.trans hbl)
          · omega
      refine ww_aload_n (i := 0) C dX11_step_26 rfl rfl 27 rfl ?_
      refine ww_dup C dX11_step_27 rfl 28 rfl ?_
      refine ww_get C fe_X11_116 dX11_step_28 0 rfl rfl 31 rfl ?_
      refine ww_iconst (v := 1) C dX11_step_31 (by decide) 32 rfl ?_
      refine ww_iadd C dX11_step_32 33 rfl ?_
      refine ww_mput_19 C fe_X11_116 dX11_step_33 36 rfl ?_
      refine ww_goto C 0 dX11_step_36 (by decide) ?_
      exact ww_eq (by rw [show nI (c9 + 1) = nI c9 + 1 from nI_succ c9]; rfl) rfl rfl (ih (c9 + 1) ⟨by omega, by omega⟩ (by omega))
