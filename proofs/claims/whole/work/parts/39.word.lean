/-- letters joined, as a number -/
def jN (b : Nat → Int32) (p : Nat) : Nat → Nat
  | 0 => 0
  | k + 1 => jN b p k * 256 + (b (p + k)).toNatClampNeg
def m_wd (b : Nat → Int32) (p : Nat) : Nat → Int64
  | 0 => 0
  | k + 1 => (m_wd b p k <<< ((8 : Int32).toInt64 &&& 63)) ||| (b (p + k)).toInt64
section WORDS
variable {b : Nat → Int32} {p : Nat}
theorem join_jN : ∀ {k : Nat}, (∀ j, j < k → ∃ y, y < 256 ∧ b (p + j) = nI y) → s_join b p 256 0 k = nI (jN b p k)
  | 0, _ => rfl
  | k + 1, h => by
    obtain ⟨y, hy, e⟩ := h k (by omega)
    rw [s_join, join_jN (fun j hj => h j (by omega)), jN, e, nI_clamp (by omega), show (256 : Int32) = nI 256 from rfl, pk_mul, nI_add, Int32.sub_zero]
theorem wd_jN : ∀ {k : Nat}, (∀ j, j < k → ∃ y, y < 256 ∧ b (p + j) = nI y) → m_wd b p k = lN (jN b p k)
  | 0, _ => rfl
  | k + 1, h => by
    obtain ⟨y, hy, e⟩ := h k (by omega)
    rw [m_wd, wd_jN (fun j hj => h j (by omega)), jN, e, nI_clamp (by omega), nI_l (by omega), show (8 : Int32) = nI 8 from rfl, shlL _ (by decide), norL, Nat.or_comm, ← norL, or_sumL (k := 8) _ hy, Nat.add_comm]
theorem jN_lo : ∀ {k : Nat}, (∀ j, j < k + 1 → ∃ y, 97 ≤ y ∧ y < 123 ∧ b (p + j) = nI y) → 97 * 256 ^ k ≤ jN b p (k + 1) ∧ jN b p (k + 1) < 123 * 256 ^ k
  | 0, h => by
    obtain ⟨y, h1, h2, e⟩ := h 0 (by omega)
    have e0 : jN b p 1 = y := by
      show 0 * 256 + (b (p + 0)).toNatClampNeg = y
      rw [e, nI_clamp (by omega)]
      omega
    rw [e0]
    omega
  | k + 1, h => by
    obtain ⟨y, h1, h2, e⟩ := h (k + 1) (by omega)
    obtain ⟨i1, i2⟩ := jN_lo (k := k) (fun j hj => h j (by omega))
    have e0 : jN b p (k + 1 + 1) = jN b p (k + 1) * 256 + y := by
      show jN b p (k + 1) * 256 + (b (p + (k + 1))).toNatClampNeg = _
      rw [e, nI_clamp (by omega)]
    rw [e0, Nat.pow_succ]
    omega
end WORDS
def m_word (T : Nat) (st ln : Nat → Nat) (ty tp : Nat → Int32) (t : Nat) : Int64 := if so T ln ty t = 2 then m_wd tp (st t) (ln t) else 0
def m_num (T : Nat) (st ln : Nat → Nat) (ty tp : Nat → Int32) (t : Nat) : Int32 := if so T ln ty t = 3 then s_join tp (st t) 10 48 (ln t) else 0
section TOKS
variable {tp : Nat → Int32} {u T : Nat} {st ln : Nat → Nat} {A : Nat → Nat → Int32}
theorem let_y {x : Int32} (h : s_srt x = 1) : ∃ y, 97 ≤ y ∧ y < 123 ∧ x = nI y := by
  obtain ⟨h1, h2⟩ := srt_1.mp h
  obtain ⟨y, hy, rfl⟩ := nI_of (x := x) (fun q => h1 (Int32.lt_trans q (by decide)))
  have a1 := (not_congr (nI_ltI (b := 97) hy (by decide))).mp h1
  have a2 := (not_congr (nI_ltI (a := 122) (by decide) hy)).mp h2
  exact ⟨y, by omega, by omega, rfl⟩
theorem tok_let (h : TokE tp u T st ln A) {t : Nat} (ht : t < T) (h1 : A 2 t = 1) : ∃ V : Nat, (∀ j, j < ln t → ∃ y, y < 256 ∧ tp (st t + j) = nI y) ∧ jN tp (st t) (ln t) = V ∧ 97 * 256 ^ (ln t - 1) ≤ V ∧ V < 123 * 256 ^ (ln t - 1) := by
  obtain ⟨a1, a2, a3, a4, a5'⟩ := h.1.2.1 t ht
  have hl : ∀ j, j < ln t → ∃ y, 97 ≤ y ∧ y < 123 ∧ tp (st t + j) = nI y := fun j hj => let_y ((a4 (st t + j) (by omega) (by omega)).trans h1)
  refine ⟨_, fun j hj => ?_, rfl, ?_⟩
  · obtain ⟨y, b1, b2, b3⟩ := hl j hj
    exact ⟨y, by omega, b3⟩
  · have := jN_lo (b := tp) (p := st t) (k := ln t - 1) (fun j hj => hl j (by omega))
    rw [show ln t - 1 + 1 = ln t by omega] at this
    exact this
theorem ty_1234 (h : TokE tp u T st ln A) {t : Nat} (ht : t < T) : A 2 t = 1 ∨ A 2 t = 2 ∨ A 2 t = 3 ∨ A 2 t = 4 := by
  obtain ⟨a1, a2, a3, a4, a5'⟩ := h.1.2.1 t ht
  have e := a4 (st t) (Nat.le_refl _) (by omega)
  rw [← e] at a3 ⊢
  revert a3
  unfold s_srt
  repeat' split
  all_goals simp
theorem kp_at (h : TokE tp u T st ln A) {t : Nat} (ht : t < T) : kp T A t = s_kd (A 2 t) (ln t) tp (st t) := by
  rw [kp, if_pos ht]
  exact (h.2 t ht).2.2.1
/-- what a token is, on both sides -/
theorem tok_cases (h : TokE tp u T st ln A) (t : Nat) :
    (¬ t < T ∧ kp T A t = 0 ∧ so T ln (A 2) t = 1) ∨
    (t < T ∧ kp T A t = 1 ∧ so T ln (A 2) t = 3 ∧ nv T A t = s_join tp (st t) 10 48 (ln t)) ∨
    (t < T ∧ kp T A t = 2 ∧ so T ln (A 2) t = 4) ∨
    (t < T ∧ kp T A t = 3 ∧ so T ln (A 2) t = 0) ∨
    (t < T ∧ so T ln (A 2) t = 2 ∧ ∃ V : Nat, 97 ≤ V ∧ V < 2 ^ 48 ∧ m_wd tp (st t) (ln t) = lN V ∧ (V < 2 ^ 31 → kp T A t = nI V) ∧ (¬ V < 2 ^ 31 → kp T A t = 3)) := by
  rcases Nat.lt_or_ge t T with q | q
  · right
    have ek := kp_at h q
    rcases ty_1234 h q with e | e | e | e
    · obtain ⟨V, hb, eV, lo, hi⟩ := tok_let h q e
      have hl1 := (h.1.2.1 t q).1
      by_cases h6 : ln t ≤ 6
      · right; right; right
        refine ⟨q, by rw [so, if_pos q, if_pos e, if_pos h6], V, ?_, ?_, by rw [wd_jN hb, eV], fun hV => ?_, fun hV => ?_⟩
        · have : 256 ^ (ln t - 1) ≥ 1 := Nat.one_le_pow _ _ (by decide)
          omega
        · have : 256 ^ (ln t - 1) ≤ 256 ^ 5 := Nat.pow_le_pow_right (by decide) (by omega)
          omega
        · have h4 : ln t ≤ 4 := by
            rcases Nat.lt_or_ge 4 (ln t) with z | z
            · have : 256 ^ 4 ≤ 256 ^ (ln t - 1) := Nat.pow_le_pow_right (by decide) (by omega)
              omega
            · exact z
          rw [ek, s_kd, if_pos ⟨e, h4⟩, join_jN hb, eV]
        · have h4 : ¬ ln t ≤ 4 := fun z => by
            have : 256 ^ (ln t - 1) ≤ 256 ^ 3 := Nat.pow_le_pow_right (by decide) (by omega)
            omega
          rw [ek, s_kd, if_neg (fun z => h4 z.2), if_neg (fun z => absurd (e.symm.trans z.1) (by decide)), if_neg (fun z => absurd (e.symm.trans z) (by decide))]
      · right; right; left
        refine ⟨q, ?_, by rw [so, if_pos q, if_pos e, if_neg h6]⟩
        rw [ek, s_kd, if_neg (fun z => h6 (by have := z.2; omega)), if_neg (fun z => absurd (e.symm.trans z.1) (by decide)), if_neg (fun z => absurd (e.symm.trans z) (by decide))]
    · by_cases h4 : ln t ≤ 4
      · left
        refine ⟨q, ?_, ?_, ?_⟩
        · rw [ek, s_kd, if_neg (fun z => absurd (e.symm.trans z.1) (by decide)), if_pos ⟨e, h4⟩]
        · rw [so, if_pos q, if_neg (fun z => absurd (e.symm.trans z) (by decide)), if_pos e, if_pos h4]
        · rw [nv, if_pos q, (h.2 t q).2.2.2, s_vl, if_neg (fun z => absurd (e.symm.trans z.1) (by decide)), if_pos ⟨e, h4⟩]
      · right; right; left
        refine ⟨q, ?_, ?_⟩
        · rw [ek, s_kd, if_neg (fun z => absurd (e.symm.trans z.1) (by decide)), if_neg (fun z => h4 z.2), if_neg (fun z => absurd (e.symm.trans z) (by decide))]
        · rw [so, if_pos q, if_neg (fun z => absurd (e.symm.trans z) (by decide)), if_pos e, if_neg h4]
    · right; left
      refine ⟨q, ?_, ?_⟩
      · rw [ek, s_kd, if_neg (fun z => absurd (e.symm.trans z.1) (by decide)), if_neg (fun z => absurd (e.symm.trans z.1) (by decide)), if_pos e]
      · rw [so, if_pos q, if_neg (fun z => absurd (e.symm.trans z) (by decide)), if_neg (fun z => absurd (e.symm.trans z) (by decide)), if_pos e]
    · right; right; left
      refine ⟨q, ?_, ?_⟩
      · rw [ek, s_kd, if_neg (fun z => absurd (e.symm.trans z.1) (by decide)), if_neg (fun z => absurd (e.symm.trans z.1) (by decide)), if_neg (fun z => absurd (e.symm.trans z) (by decide))]
      · rw [so, if_pos q, if_neg (fun z => absurd (e.symm.trans z) (by decide)), if_neg (fun z => absurd (e.symm.trans z) (by decide)), if_neg (fun z => absurd (e.symm.trans z) (by decide))]
  · left
    exact ⟨by omega, if_neg (by omega), if_neg (by omega)⟩
theorem nI_ne {a b : Nat} (ha : a < 2 ^ 31) (hb : b < 2 ^ 31) (h : a ≠ b) : ¬ nI a = nI b := fun q => h ((nI_eq ha hb).mp q)
theorem so_3 (h : TokE tp u T st ln A) (t : Nat) : so T ln (A 2) t = 3 ↔ kp T A t = 1 := by
  rcases tok_cases h t with ⟨-, a, b⟩ | ⟨-, a, b, -⟩ | ⟨-, a, b⟩ | ⟨-, a, b⟩ | ⟨-, b, V, v1, v2, -, v4, v5⟩
  · rw [a, b]; decide
  · rw [a, b]; decide
  · rw [a, b]; decide
  · rw [a, b]; decide
  · rw [b]
    refine ⟨fun q => absurd q (by decide), fun q => ?_⟩
    by_cases hV : V < 2 ^ 31
    · rw [v4 hV] at q; exact absurd q (nI_ne (b := 1) hV (by decide) (by omega))
    · rw [v5 hV] at q; exact absurd q (by decide)
theorem so_4 (h : TokE tp u T st ln A) (t : Nat) : so T ln (A 2) t = 4 ↔ kp T A t = 2 := by
  rcases tok_cases h t with ⟨-, a, b⟩ | ⟨-, a, b, -⟩ | ⟨-, a, b⟩ | ⟨-, a, b⟩ | ⟨-, b, V, v1, v2, -, v4, v5⟩
  · rw [a, b]; decide
  · rw [a, b]; decide
  · rw [a, b]; decide
  · rw [a, b]; decide
  · rw [b]
    refine ⟨fun q => absurd q (by decide), fun q => ?_⟩
    by_cases hV : V < 2 ^ 31
    · rw [v4 hV] at q; exact absurd q (nI_ne (b := 2) hV (by decide) (by omega))
    · rw [v5 hV] at q; exact absurd q (by decide)
theorem so_1 (h : TokE tp u T st ln A) (t : Nat) : so T ln (A 2) t = 1 ↔ kp T A t = 0 := by
  rcases tok_cases h t with ⟨-, a, b⟩ | ⟨-, a, b, -⟩ | ⟨-, a, b⟩ | ⟨-, a, b⟩ | ⟨-, b, V, v1, v2, -, v4, v5⟩
  · rw [a, b]; decide
  · rw [a, b]; decide
  · rw [a, b]; decide
  · rw [a, b]; decide
  · rw [b]
    refine ⟨fun q => absurd q (by decide), fun q => ?_⟩
    by_cases hV : V < 2 ^ 31
    · rw [v4 hV] at q; exact absurd q (nI_ne (b := 0) hV (by decide) (by omega))
    · rw [v5 hV] at q; exact absurd q (by decide)
theorem word_is (h : TokE tp u T st ln A) (t : Nat) {W : Nat} (hW : 97 ≤ W) (hW2 : W < 2 ^ 31) : m_word T st ln (A 2) tp t = lN W ↔ kp T A t = nI W := by
  have z0 : ¬ (0 : Int64) = lN W := fun q => by
    have := (pk_lEQ (a := 0) (b := W) (by decide) (by omega)).mp q
    omega
  rcases tok_cases h t with ⟨-, a, b⟩ | ⟨-, a, b, -⟩ | ⟨-, a, b⟩ | ⟨-, a, b⟩ | ⟨-, b, V, v1, v2, v3, v4, v5⟩
  · rw [m_word, b, if_neg (by decide), a]
    exact ⟨fun q => absurd q z0, fun q => absurd q (nI_ne (a := 0) (by decide) hW2 (by omega))⟩
  · rw [m_word, b, if_neg (by decide), a]
    exact ⟨fun q => absurd q z0, fun q => absurd q (nI_ne (a := 1) (by decide) hW2 (by omega))⟩
  · rw [m_word, b, if_neg (by decide), a]
    exact ⟨fun q => absurd q z0, fun q => absurd q (nI_ne (a := 2) (by decide) hW2 (by omega))⟩
  · rw [m_word, b, if_neg (by decide), a]
    exact ⟨fun q => absurd q z0, fun q => absurd q (nI_ne (a := 3) (by decide) hW2 (by omega))⟩
  · rw [m_word, if_pos b, v3, pk_lEQ (by omega) (by omega)]
    by_cases hV : V < 2 ^ 31
    · rw [v4 hV, nI_eq hV hW2]
    · rw [v5 hV]
      exact ⟨fun q => by omega, fun q => absurd q (nI_ne (a := 3) (by decide) hW2 (by omega))⟩
theorem num_nv (h : TokE tp u T st ln A) {t : Nat} (hk : kp T A t = 1) : m_num T st ln (A 2) tp t = nv T A t := by
  have hs := (so_3 h t).mpr hk
  rw [m_num, if_pos hs]
  rcases tok_cases h t with ⟨-, a, b⟩ | ⟨-, a, b, c⟩ | ⟨-, a, b⟩ | ⟨-, a, b⟩ | ⟨-, b, -⟩
  · rw [b] at hs; exact absurd hs (by decide)
  · exact c.symm
  · rw [b] at hs; exact absurd hs (by decide)
  · rw [b] at hs; exact absurd hs (by decide)
  · rw [b] at hs; exact absurd hs (by decide)
end TOKS
theorem c_X11_bad_0 (l : Launch) (Γ : Gm) {hm : Nat} {q : Nat → Nat} {I : Nat → Int32} {k : Int32} (hf : I 23 = 0) : Ct l Γ yX11_bad cX11_bad 2 none 0 [.ref hm, .int k] ([wMo hm q (I)]) (none) ([wMo hm q (upd (upd I 23 (k)) 24 (I 21))]) := by
  refine Ct.of mi_X11_bad [some (.ref hm), some (.int k)] 0 rfl (Nat.le_of_ble_eq_true rfl) ?_
  intro p e s m args below meth c C hr
  refine ww_aload_n (i := 0) C dX11_bad_0 rfl rfl 1 rfl ?_
  refine ww_get C fe_X11_137 dX11_bad_1 0 rfl rfl 4 rfl ?_
  refine ww_if_ne C 20 dX11_bad_4 (by decide) 7 rfl (fun h_4 => ?_) (fun h_4 => ?_)
  · exact absurd h_4 (fun q => q hf)
  · skip
    refine ww_aload_n (i := 0) C dX11_bad_7 rfl rfl 8 rfl ?_
    refine ww_iload_n (i := 1) C dX11_bad_8 rfl rfl 9 rfl ?_
    refine ww_mput_23 C fe_X11_137 dX11_bad_9 12 rfl ?_
    refine ww_aload_n (i := 0) C dX11_bad_12 rfl rfl 13 rfl ?_
    refine ww_aload_n (i := 0) C dX11_bad_13 rfl rfl 14 rfl ?_
    refine ww_get C fe_X11_122 dX11_bad_14 0 rfl rfl 17 rfl ?_
    refine ww_mput_24 C fe_X11_140 dX11_bad_17 20 rfl ?_
    exact ww_vret C hr dX11_bad_20 rfl rfl
theorem c_X11_bad_1 (l : Launch) (Γ : Gm) {hm : Nat} {q : Nat → Nat} {I : Nat → Int32} {k : Int32} (hf : ¬ I 23 = 0) : Ct l Γ yX11_bad cX11_bad 2 none 0 [.ref hm, .int k] ([wMo hm q (I)]) (none) ([wMo hm q (I)]) := by
  refine Ct.of mi_X11_bad [some (.ref hm), some (.int k)] 0 rfl (Nat.le_of_ble_eq_true rfl) ?_
  intro p e s m args below meth c C hr
  refine ww_aload_n (i := 0) C dX11_bad_0 rfl rfl 1 rfl ?_
  refine ww_get C fe_X11_137 dX11_bad_1 0 rfl rfl 4 rfl ?_
  refine ww_if_ne C 20 dX11_bad_4 (by decide) 7 rfl (fun h_4 => ?_) (fun h_4 => ?_)
  · skip
    exact ww_vret C hr dX11_bad_20 rfl rfl
  · exact absurd h_4 hf
theorem c_X11_need_ok (l : Launch) (Γ : Gm) {hm : Nat} {q : Nat → Nat} {I : Nat → Int32} {T u t : Nat} {st ln : Nat → Nat} {A : Nat → Nat → Int32} {tp : Nat → Int32} {b : Int32} (h18 : I 18 = nI u) (hu : u ≤ 400) (hTk : TokE tp u T st ln A) (hby : ∀ x, x < u → ∃ y, y < 256 ∧ tp x = nI y) (ht : t < T) (hf : I 23 = 0) (hb : ¬ b = 0) : Ct l Γ yX11_need cX11_need 2 none 2 [.ref hm, .int b] ([wMo hm q (tokI I T u st ln (A 2) (t)), (q 15, .inl (Γ.2.1, 400, .inl tp))]) (none) ([wMo hm q (tokI I T u st ln (A 2) (t + 1)), (q 15, .inl (Γ.2.1, 400, .inl tp))]) := by
  refine Ct.of mi_X11_need [some (.ref hm), some (.int b)] 0 rfl (Nat.le_of_ble_eq_true rfl) ?_
  intro p e s m args below meth c C hr
  refine ww_iload_n (i := 1) C dX11_need_0 rfl rfl 1 rfl ?_
  refine ww_if_ne C 9 dX11_need_1 (by decide) 4 rfl (fun h_1 => ?_) (fun h_1 => ?_)
  · skip
    refine ww_aload_n (i := 0) C dX11_need_9 rfl rfl 10 rfl ?_
    refine ww_get C fe_X11_137 dX11_need_10 0 rfl rfl 13 rfl ?_
    refine ww_if_ne C 20 dX11_need_13 (by decide) 16 rfl (fun h_13 => ?_) (fun h_13 => ?_)
    · exact absurd h_13 (fun q => q hf)
    · skip
      refine ww_aload_n (i := 0) C dX11_need_16 rfl rfl 17 rfl ?_
      refine ww_callV0v C (c_X11_step l Γ (q := q) (I := tokI I T u st ln (A 2) t) (t := t + 1) (ty := A 2) (T := T) (u := u) (st := st) (ln := ln) h18 hu hTk.1 hby ht rfl) mi_X11_step im_X11_step se_X11_step ml_X11_146 dX11_need_17 0 rfl rfl rfl (Nat.le_of_ble_eq_true rfl) (Nat.le_of_ble_eq_true rfl) (Nat.le_of_ble_eq_true rfl) ⟨Nat.zero_le _, Nat.zero_le _⟩ [0, 1] rfl (by decide) rfl 20 rfl ?_
      exact ww_vret C hr dX11_need_20 rfl rfl
  · exact absurd h_1 hb
theorem c_X11_need_no (l : Launch) (Γ : Gm) {hm : Nat} {q : Nat → Nat} {I : Nat → Int32} (hf : I 23 = 0) : Ct l Γ yX11_need cX11_need 2 none 2 [.ref hm, .int 0] ([wMo hm q (I)]) (none) ([wMo hm q (upd (upd I 23 (1)) 24 (I 21))]) := by
  refine Ct.of mi_X11_need [some (.ref hm), some (.int 0)] 0 rfl (Nat.le_of_ble_eq_true rfl) ?_
  intro p e s m args below meth c C hr
  refine ww_iload_n (i := 1) C dX11_need_0 rfl rfl 1 rfl ?_
  refine ww_if_ne C 9 dX11_need_1 (by decide) 4 rfl (fun h_1 => ?_) (fun h_1 => ?_)
  · exact absurd h_1 (by decide)
  · skip
    refine ww_aload_n (i := 0) C dX11_need_4 rfl rfl 5 rfl ?_
    refine ww_iconst (v := 1) C dX11_need_5 (by decide) 6 rfl ?_
    refine ww_callV1v C (c_X11_bad_0 l Γ hf) mi_X11_bad im_X11_bad se_X11_bad ml_X11_143 dX11_need_6 0 rfl rfl rfl (Nat.le_of_ble_eq_true rfl) (Nat.le_of_ble_eq_true rfl) (Nat.le_of_ble_eq_true rfl) ⟨Nat.zero_le _, Nat.zero_le _⟩ [0] rfl (by decide) rfl 9 rfl ?_
    refine ww_eq (ws' := [wMo hm q (upd (upd I 23 (1)) 24 (I 21))]) rfl rfl rfl ?_
    refine ww_aload_n (i := 0) C dX11_need_9 rfl rfl 10 rfl ?_
    refine ww_get C fe_X11_137 dX11_need_10 0 rfl rfl 13 rfl ?_
    refine ww_if_ne C 20 dX11_need_13 (by decide) 16 rfl (fun h_13 => ?_) (fun h_13 => ?_)
    · skip
      exact ww_vret C hr dX11_need_20 rfl rfl
    · exact absurd (show (1 : Int32) = 0 from h_13) (by decide)
theorem c_X11_need_f (l : Launch) (Γ : Gm) {hm : Nat} {q : Nat → Nat} {I : Nat → Int32} {b : Int32} (hf : ¬ I 23 = 0) : Ct l Γ yX11_need cX11_need 2 none 2 [.ref hm, .int b] ([wMo hm q (I)]) (none) ([wMo hm q (I)]) := by
  refine Ct.of mi_X11_need [some (.ref hm), some (.int b)] 0 rfl (Nat.le_of_ble_eq_true rfl) ?_
  intro p e s m args below meth c C hr
  refine ww_iload_n (i := 1) C dX11_need_0 rfl rfl 1 rfl ?_
  refine ww_if_ne C 9 dX11_need_1 (by decide) 4 rfl (fun h_1 => ?_) (fun h_1 => ?_)
  · skip
    refine ww_aload_n (i := 0) C dX11_need_9 rfl rfl 10 rfl ?_
    refine ww_get C fe_X11_137 dX11_need_10 0 rfl rfl 13 rfl ?_
    refine ww_if_ne C 20 dX11_need_13 (by decide) 16 rfl (fun h_13 => ?_) (fun h_13 => ?_)
    · skip
      exact ww_vret C hr dX11_need_20 rfl rfl
    · exact absurd h_13 hf
  · skip
    refine ww_aload_n (i := 0) C dX11_need_4 rfl rfl 5 rfl ?_
    refine ww_iconst (v := 1) C dX11_need_5 (by decide) 6 rfl ?_
    refine ww_callV1vp C (c_X11_bad_1 l Γ hf) mi_X11_bad im_X11_bad se_X11_bad ml_X11_143 dX11_need_6 0 rfl rfl rfl (Nat.le_of_ble_eq_true rfl) (Nat.le_of_ble_eq_true rfl) (Nat.le_of_ble_eq_true rfl) ⟨Nat.zero_le _, Nat.zero_le _⟩ [0] rfl (by decide) 9 rfl ?_
    refine ww_aload_n (i := 0) C dX11_need_9 rfl rfl 10 rfl ?_
    refine ww_get C fe_X11_137 dX11_need_10 0 rfl rfl 13 rfl ?_
    refine ww_if_ne C 20 dX11_need_13 (by decide) 16 rfl (fun h_13 => ?_) (fun h_13 => ?_)
    · skip
      exact ww_vret C hr dX11_need_20 rfl rfl
    · exact absurd h_13 hf
theorem c_X11_word (l : Launch) (Γ : Gm) {hm : Nat} {q : Nat → Nat} {I : Nat → Int32} {T u t : Nat} {st ln : Nat → Nat} {A : Nat → Nat → Int32} {tp : Nat → Int32} (h18 : I 18 = nI u) (hu : u ≤ 400) (hTk : TokE tp u T st ln A) (hby : ∀ x, x < u → ∃ y, y < 256 ∧ tp x = nI y)  : Ct l Γ yX11_word cX11_word 4 (some .long) 0 [.ref hm] ([wMo hm q (tokI I T u st ln (A 2) (t)), (q 15, .inl (Γ.2.1, 400, .inl tp))]) (some (.long (m_word T st ln (A 2) tp t))) ([wMo hm q (tokI I T u st ln (A 2) (t)), (q 15, .inl (Γ.2.1, 400, .inl tp))]) := by
  refine Ct.of mi_X11_word [some (.ref hm), none, none, none] 3 rfl (Nat.le_of_ble_eq_true rfl) ?_
  intro p e s m args below meth c C hr
  have hle := ee_le hTk.1 t
  have hse : sa T u st t + 0 ≤ ee T u st ln t := by
    unfold sa ee
    split <;> omega
  refine ww_lconst (v := 0) C dX11_word_0 (by decide) 1 rfl ?_
  refine ww_lstore_n (i := 1) C dX11_word_1 rfl (by decide) rfl 2 rfl ?_
  refine ww_aload_n (i := 0) C dX11_word_2 rfl rfl 3 rfl ?_
  refine ww_get C fe_X11_122 dX11_word_3 0 rfl rfl 6 rfl ?_
  rw [show (tokI I T u st ln (A 2) t) 21 = nI (sa T u st t) from rfl]
  refine ww_istore_n (i := 3) C dX11_word_6 rfl (by decide) rfl 7 rfl ?_
  refine ww_loop (fun k : Nat => 1000 - k) (fun k => (k = 0 ∨ so T ln (A 2) t = 2) ∧ sa T u st t + k ≤ ee T u st ln t) (fun _ => [wMo hm q (tokI I T u st ln (A 2) (t)), (q 15, .inl (Γ.2.1, 400, .inl tp))]) (fun k => [some (.ref hm), some (.long (m_wd tp (sa T u st t) k)), none, some (.int (nI (sa T u st t + k)))]) (0 : Nat) ⟨Or.inl rfl, hse⟩ rfl rfl (fun k hk ih => ?_)
  obtain ⟨hk1, hk2⟩ := hk
  try dsimp only at hk1 hk2 ih ⊢
  refine ww_iload_n (i := 3) C dX11_word_7 rfl rfl 8 rfl ?_
  refine ww_aload_n (i := 0) C dX11_word_8 rfl rfl 9 rfl ?_
  refine ww_get C fe_X11_134 dX11_word_9 0 rfl rfl 12 rfl ?_
  rw [show (tokI I T u st ln (A 2) t) 22 = nI (ee T u st ln t) from rfl]
  refine ww_icmp_ge C 42 dX11_word_12 (by decide) 15 rfl (fun h_12 => ?_) (fun h_12 => ?_)
  · skip
    have hv : m_word T st ln (A 2) tp t = m_wd tp (sa T u st t) k := by
      by_cases h2 : so T ln (A 2) t = 2
      · rw [m_word, if_pos h2]
        have htT : t < T := Decidable.byContradiction fun z => by rw [so, if_neg z] at h2; exact absurd h2 (by decide)
        have e1 : sa T u st t = st t := if_pos htT
        have e2 : ee T u st ln t = st t + ln t := if_pos htT
        have e3 : sa T u st t + k = ee T u st ln t := by
          first
            | exact eqN h_12 hk2 (by omega)
            | exact absurd h2 h_20
        rw [e1]
        congr 1
        omega
      · rw [m_word, if_neg h2, hk1.resolve_right h2]; rfl
    refine ww_lload_n (i := 1) C dX11_word_42 rfl rfl 43 rfl ?_
    exact ww_lret C hr dX11_word_43 (by rw [hv]) rfl
  · skip
    have hlt : sa T u st t + k < ee T u st ln t := ltN h_12 (by omega) (by omega)
    refine ww_aload_n (i := 0) C dX11_word_15 rfl rfl 16 rfl ?_
    refine ww_get C fe_X11_125 dX11_word_16 0 rfl rfl 19 rfl ?_
    rw [show (tokI I T u st ln (A 2) t) 20 = so T ln (A 2) t from rfl]
    refine ww_iconst (v := 2) C dX11_word_19 (by decide) 20 rfl ?_
    refine ww_icmp_ne C 42 dX11_word_20 (by decide) 23 rfl (fun h_20 => ?_) (fun h_20 => ?_)
    · skip
      have hv : m_word T st ln (A 2) tp t = m_wd tp (sa T u st t) k := by
        by_cases h2 : so T ln (A 2) t = 2
        · rw [m_word, if_pos h2]
          have htT : t < T := Decidable.byContradiction fun z => by rw [so, if_neg z] at h2; exact absurd h2 (by decide)
          have e1 : sa T u st t = st t := if_pos htT
          have e2 : ee T u st ln t = st t + ln t := if_pos htT
          have e3 : sa T u st t + k = ee T u st ln t := by
            first
              | exact eqN h_12 hk2 (by omega)
              | exact absurd h2 h_20
          rw [e1]
          congr 1
          omega
        · rw [m_word, if_neg h2, hk1.resolve_right h2]; rfl
      refine ww_lload_n (i := 1) C dX11_word_42 rfl rfl 43 rfl ?_
      exact ww_lret C hr dX11_word_43 (by rw [hv]) rfl
    · skip
      refine ww_lload_n (i := 1) C dX11_word_23 rfl rfl 24 rfl ?_
      refine ww_bipush (v := 8) C dX11_word_24 (by decide) 26 rfl ?_
      refine ww_lshl C dX11_word_26 27 rfl ?_
      refine ww_aload_n (i := 0) C dX11_word_27 rfl rfl 28 rfl ?_
      refine ww_get C fe_X11_40 dX11_word_28 0 rfl rfl 31 rfl ?_
      refine ww_iload_n (i := 3) C dX11_word_31 rfl rfl 32 rfl ?_
      refine ww_iald C dX11_word_32 1 rfl (vp_in_nI (by omega) (by decide)) 33 rfl ?_
      rw [nI_clamp (show sa T u st t + k < 2 ^ 31 by omega)]
      refine ww_i2l C dX11_word_33 34 rfl ?_
      refine ww_lor C dX11_word_34 35 rfl ?_
      refine ww_lstore_n (i := 1) C dX11_word_35 rfl (by decide) rfl 36 rfl ?_
      refine ww_iinc (y := 1) C dX11_word_36 rfl (by decide) (by decide) rfl 39 rfl ?_
      refine ww_goto C 7 dX11_word_39 (by decide) ?_
      exact ww_eq rfl (by rw [show sa T u st t + (k + 1) = sa T u st t + k + 1 from rfl, nI_succ]; rfl) rfl (ih (k + 1) ⟨Or.inr h_20, by omega⟩ (by omega))
