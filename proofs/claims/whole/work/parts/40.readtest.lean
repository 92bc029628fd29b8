theorem wdk {tp : Nat → Int32} {u T : Nat} {st ln : Nat → Nat} {A : Nat → Nat → Int32} (h : TokE tp u T st ln A) (t : Nat) {W : Nat} {c : Int64} {k : Int32} (hc : c = lN W) (hk : k = nI W) (h1 : 97 ≤ W) (h2 : W < 2 ^ 31) : lg_cmp (m_word T st ln (A 2) tp t) c = 0 ↔ kp T A t = k := by
  rw [lg_cmp_eq, hc, hk]
  exact word_is h t h1 h2
def flI (I : Nat → Int32) (r : Nat) (f p : Int32) : Nat → Int32 := upd (upd (upd I 11 (nI r)) 23 f) 24 p
/-- a test in the model's row -/
def oc (w : Int32) : Int32 := if w = 6711655 then 1 else if w = 1935764837 then 2 else if w = 1885434739 then 3 else 4
def b9 (κ ν : Nat → Int32) (t : Nat) : Int32 := if κ t = 6711655 then ν (t + 3) else if κ t = 1935764837 then ν (t + 2) else 0
def MtQ (T u : Nat) (st : Nat → Nat) (A : Nat → Nat → Int32) (t at0 : Nat) (rt : Nat → Int32) (x : Int32 × Int32 × (Nat → Int32)) : Prop :=
  x.1 = (gT (kp T A) (nv T A) t).1 ∧ (¬ x.1 = 0 → x.2.1 = nI (sa T u st (gT (kp T A) (nv T A) t).2) ∧ (gT (kp T A) (nv T A) t).2 ≤ T) ∧ (x.1 = 0 → (gT (kp T A) (nv T A) t).2 ≤ T ∧ x.2.2 = upd (upd (upd rt at0 (oc (kp T A t))) (at0 + 1) (nv T A (t + 1))) (at0 + 2) (b9 (kp T A) (nv T A) t))
theorem MtQ_no {T u : Nat} {st : Nat → Nat} {A : Nat → Nat → Int32} {t at0 k : Nat} {rt y : Nat → Int32} {f : Int32} (h : gT (kp T A) (nv T A) t = (f, k)) (hf : ¬ f = 0) (hk : k ≤ T) : MtQ T u st A t at0 rt (f, nI (sa T u st k), y) := by
  unfold MtQ
  rw [h]
  exact ⟨rfl, fun _ => ⟨rfl, hk⟩, fun z => absurd z hf⟩
theorem MtQ_ok {T u : Nat} {st : Nat → Nat} {A : Nat → Nat → Int32} {t at0 k : Nat} {rt y : Nat → Int32} {p : Int32} (h : gT (kp T A) (nv T A) t = (0, k)) (hk : k ≤ T) (hy : y = upd (upd (upd rt at0 (oc (kp T A t))) (at0 + 1) (nv T A (t + 1))) (at0 + 2) (b9 (kp T A) (nv T A) t)) : MtQ T u st A t at0 rt (0, p, y) := by
  unfold MtQ
  rw [h]
  exact ⟨rfl, fun z => absurd rfl z, fun _ => ⟨hk, hy⟩⟩
theorem c_X11_num_ok (l : Launch) (Γ : Gm) {hm : Nat} {q : Nat → Nat} {I : Nat → Int32} {T u t : Nat} {st ln : Nat → Nat} {A : Nat → Nat → Int32} {tp : Nat → Int32} {lo hi : Int32} (h18 : I 18 = nI u) (hu : u ≤ 400) (hTk : TokE tp u T st ln A) (hby : ∀ x, x < u → ∃ y, y < 256 ∧ tp x = nI y) (hf : I 23 = 0) (hg : gN (kp T A) (nv T A) t lo hi = 0) : Ct l Γ yX11_numberIn cX11_numberIn 5 (some .int) 3 [.ref hm, .int lo, .int hi] ([wMo hm q (tokI I T u st ln (A 2) (t)), (q 15, .inl (Γ.2.1, 400, .inl tp))]) (some (.int (nv T A t))) ([wMo hm q (tokI I T u st ln (A 2) (t + 1)), (q 15, .inl (Γ.2.1, 400, .inl tp))]) := by
  refine Ct.of mi_X11_numberIn [some (.ref hm), some (.int lo), some (.int hi), none, none] 2 rfl (Nat.le_of_ble_eq_true rfl) ?_
  intro p e s m args below meth c C hr
  have hle := ee_le hTk.1 t
  have hse : sa T u st t + 0 ≤ ee T u st ln t := by
    unfold sa ee
    split <;> omega
  obtain ⟨g1, g2, g3⟩ := gN_k hg
  have hs3 := (so_3 hTk t).mpr g1
  have hl := kp_lt2 g1 (by decide)
  have hnv := num_nv hTk g1
  refine ww_iconst (v := 0) C dX11_numberIn_0 (by decide) 1 rfl ?_
  refine ww_istore_n (i := 3) C dX11_numberIn_1 rfl (by decide) rfl 2 rfl ?_
  refine ww_aload_n (i := 0) C dX11_numberIn_2 rfl rfl 3 rfl ?_
  refine ww_get C fe_X11_122 dX11_numberIn_3 0 rfl rfl 6 rfl ?_
  rw [show (tokI I T u st ln (A 2) t) 21 = nI (sa T u st t) from rfl]
  refine ww_istore C dX11_numberIn_6 (by decide) rfl 8 rfl ?_
  refine ww_loop (fun k : Nat => 1000 - k) (fun k => (k = 0 ∨ so T ln (A 2) t = 3) ∧ sa T u st t + k ≤ ee T u st ln t) (fun _ => [wMo hm q (tokI I T u st ln (A 2) (t)), (q 15, .inl (Γ.2.1, 400, .inl tp))]) (fun k => [some (.ref hm), some (.int lo), some (.int hi), some (.int (s_join tp (sa T u st t) 10 48 k)), some (.int (nI (sa T u st t + k)))]) (0 : Nat) ⟨Or.inl rfl, hse⟩ rfl rfl (fun k hk ih => ?_)
  obtain ⟨hk1, hk2⟩ := hk
  try dsimp only at hk1 hk2 ih ⊢
  refine ww_iload C dX11_numberIn_8 rfl 10 rfl ?_
  refine ww_aload_n (i := 0) C dX11_numberIn_10 rfl rfl 11 rfl ?_
  refine ww_get C fe_X11_134 dX11_numberIn_11 0 rfl rfl 14 rfl ?_
  rw [show (tokI I T u st ln (A 2) t) 22 = nI (ee T u st ln t) from rfl]
  refine ww_icmp_ge C 47 dX11_numberIn_14 (by decide) 17 rfl (fun h_14 => ?_) (fun h_14 => ?_)
  · skip
    have hv : m_num T st ln (A 2) tp t = s_join tp (sa T u st t) 10 48 k := by
      by_cases h2 : so T ln (A 2) t = 3
      · rw [m_num, if_pos h2]
        have htT : t < T := Decidable.byContradiction fun z => by rw [so, if_neg z] at h2; exact absurd h2 (by decide)
        have e1 : sa T u st t = st t := if_pos htT
        have e2 : ee T u st ln t = st t + ln t := if_pos htT
        have e3 : sa T u st t + k = ee T u st ln t := by
          first
            | exact eqN h_14 hk2 (by omega)
            | exact absurd h2 h_22
        rw [e1]
        congr 1
        omega
      · rw [m_num, if_neg h2, hk1.resolve_right h2]; rfl
    clear ih
    rw [← hv]
    refine ww_aload_n (i := 0) C dX11_numberIn_47 rfl rfl 48 rfl ?_
    refine ww_get C fe_X11_125 dX11_numberIn_48 0 rfl rfl 51 rfl ?_
    rw [show (tokI I T u st ln (A 2) t) 20 = so T ln (A 2) t from rfl]
    refine ww_iconst (v := 3) C dX11_numberIn_51 (by decide) 52 rfl ?_
    refine ww_icmp_ne C 72 dX11_numberIn_52 (by decide) 55 rfl (fun h_52 => ?_) (fun h_52 => ?_)
    · exact absurd hs3 h_52
    · skip
      refine ww_iload_n (i := 3) C dX11_numberIn_55 rfl rfl 56 rfl ?_
      refine ww_i2l C dX11_numberIn_56 57 rfl ?_
      refine ww_iload_n (i := 1) C dX11_numberIn_57 rfl rfl 58 rfl ?_
      refine ww_i2l C dX11_numberIn_58 59 rfl ?_
      refine ww_iload_n (i := 2) C dX11_numberIn_59 rfl rfl 60 rfl ?_
      refine ww_i2l C dX11_numberIn_60 61 rfl ?_
      refine ww_callS3p C (c_X11_in l Γ) mi_X11_in st_X11_in ml_X11_62 dX11_numberIn_61 (Nat.le_of_ble_eq_true rfl) (Nat.le_of_ble_eq_true rfl) (Nat.le_of_ble_eq_true rfl) ⟨Nat.zero_le _, Nat.zero_le _⟩ [] rfl (by decide) 64 rfl ?_
      refine ww_if_ne C 72 dX11_numberIn_64 (by decide) 67 rfl (fun h_64 => ?_) (fun h_64 => ?_)
      · skip
        refine ww_aload_n (i := 0) C dX11_numberIn_72 rfl rfl 73 rfl ?_
        refine ww_aload_n (i := 0) C dX11_numberIn_73 rfl rfl 74 rfl ?_
        refine ww_get C fe_X11_125 dX11_numberIn_74 0 rfl rfl 77 rfl ?_
        first
          | rw [show (tokI I T u st ln (A 2) t) 20 = so T ln (A 2) t from rfl]
          | rw [show (tokI (upd (upd I 23 2) 24 (nI (sa T u st t))) T u st ln (A 2) t) 20 = so T ln (A 2) t from rfl]
        refine ww_iconst (v := 3) C dX11_numberIn_77 (by decide) 78 rfl ?_
        refine ww_icmp_ne C 85 dX11_numberIn_78 (by decide) 81 rfl (fun h_78 => ?_) (fun h_78 => ?_)
        · exact absurd hs3 h_78
        · skip
          refine ww_iconst (v := 1) C dX11_numberIn_81 (by decide) 82 rfl ?_
          refine ww_goto C 86 dX11_numberIn_82 (by decide) ?_
          refine ww_callV1v C (c_X11_need_ok l Γ (q := q) (I := I) (t := t) h18 hu hTk hby hl hf (by decide)) mi_X11_need im_X11_need se_X11_need ml_X11_149 dX11_numberIn_86 0 rfl rfl rfl (Nat.le_of_ble_eq_true rfl) (Nat.le_of_ble_eq_true rfl) (Nat.le_of_ble_eq_true rfl) ⟨Nat.zero_le _, Nat.zero_le _⟩ [0, 1] rfl (by decide) rfl 89 rfl ?_
          refine ww_iload_n (i := 3) C dX11_numberIn_89 rfl rfl 90 rfl ?_
          exact ww_iret C hr dX11_numberIn_90 (by rw [hnv]) rfl
      · exact absurd (⟨fun w => g2 (hnv ▸ i64_lt.mp w), fun w => absurd (hnv ▸ i64_lt.mp w) (Int32.not_lt.mpr g3)⟩ : ¬ (m_num T st ln (A 2) tp t).toInt64 < lo.toInt64 ∧ ¬ hi.toInt64 < (m_num T st ln (A 2) tp t).toInt64) (bI_e0 h_64)
  · skip
    have hlt : sa T u st t + k < ee T u st ln t := ltN h_14 (by omega) (by omega)
    refine ww_aload_n (i := 0) C dX11_numberIn_17 rfl rfl 18 rfl ?_
    refine ww_get C fe_X11_125 dX11_numberIn_18 0 rfl rfl 21 rfl ?_
    rw [show (tokI I T u st ln (A 2) t) 20 = so T ln (A 2) t from rfl]
    refine ww_iconst (v := 3) C dX11_numberIn_21 (by decide) 22 rfl ?_
    refine ww_icmp_ne C 47 dX11_numberIn_22 (by decide) 25 rfl (fun h_22 => ?_) (fun h_22 => ?_)
    · skip
      have hv : m_num T st ln (A 2) tp t = s_join tp (sa T u st t) 10 48 k := by
        by_cases h2 : so T ln (A 2) t = 3
        · rw [m_num, if_pos h2]
          have htT : t < T := Decidable.byContradiction fun z => by rw [so, if_neg z] at h2; exact absurd h2 (by decide)
          have e1 : sa T u st t = st t := if_pos htT
          have e2 : ee T u st ln t = st t + ln t := if_pos htT
          have e3 : sa T u st t + k = ee T u st ln t := by
            first
              | exact eqN h_14 hk2 (by omega)
              | exact absurd h2 h_22
          rw [e1]
          congr 1
          omega
        · rw [m_num, if_neg h2, hk1.resolve_right h2]; rfl
      clear ih
      rw [← hv]
      refine ww_aload_n (i := 0) C dX11_numberIn_47 rfl rfl 48 rfl ?_
      refine ww_get C fe_X11_125 dX11_numberIn_48 0 rfl rfl 51 rfl ?_
      rw [show (tokI I T u st ln (A 2) t) 20 = so T ln (A 2) t from rfl]
      refine ww_iconst (v := 3) C dX11_numberIn_51 (by decide) 52 rfl ?_
      refine ww_icmp_ne C 72 dX11_numberIn_52 (by decide) 55 rfl (fun h_52 => ?_) (fun h_52 => ?_)
      · exact absurd hs3 h_52
      · skip
        refine ww_iload_n (i := 3) C dX11_numberIn_55 rfl rfl 56 rfl ?_
        refine ww_i2l C dX11_numberIn_56 57 rfl ?_
        refine ww_iload_n (i := 1) C dX11_numberIn_57 rfl rfl 58 rfl ?_
        refine ww_i2l C dX11_numberIn_58 59 rfl ?_
        refine ww_iload_n (i := 2) C dX11_numberIn_59 rfl rfl 60 rfl ?_
        refine ww_i2l C dX11_numberIn_60 61 rfl ?_
        refine ww_callS3p C (c_X11_in l Γ) mi_X11_in st_X11_in ml_X11_62 dX11_numberIn_61 (Nat.le_of_ble_eq_true rfl) (Nat.le_of_ble_eq_true rfl) (Nat.le_of_ble_eq_true rfl) ⟨Nat.zero_le _, Nat.zero_le _⟩ [] rfl (by decide) 64 rfl ?_
        refine ww_if_ne C 72 dX11_numberIn_64 (by decide) 67 rfl (fun h_64 => ?_) (fun h_64 => ?_)
        · skip
          refine ww_aload_n (i := 0) C dX11_numberIn_72 rfl rfl 73 rfl ?_
          refine ww_aload_n (i := 0) C dX11_numberIn_73 rfl rfl 74 rfl ?_
          refine ww_get C fe_X11_125 dX11_numberIn_74 0 rfl rfl 77 rfl ?_
          first
            | rw [show (tokI I T u st ln (A 2) t) 20 = so T ln (A 2) t from rfl]
            | rw [show (tokI (upd (upd I 23 2) 24 (nI (sa T u st t))) T u st ln (A 2) t) 20 = so T ln (A 2) t from rfl]
          refine ww_iconst (v := 3) C dX11_numberIn_77 (by decide) 78 rfl ?_
          refine ww_icmp_ne C 85 dX11_numberIn_78 (by decide) 81 rfl (fun h_78 => ?_) (fun h_78 => ?_)
          · exact absurd hs3 h_78
          · skip
            refine ww_iconst (v := 1) C dX11_numberIn_81 (by decide) 82 rfl ?_
            refine ww_goto C 86 dX11_numberIn_82 (by decide) ?_
            refine ww_callV1v C (c_X11_need_ok l Γ (q := q) (I := I) (t := t) h18 hu hTk hby hl hf (by decide)) mi_X11_need im_X11_need se_X11_need ml_X11_149 dX11_numberIn_86 0 rfl rfl rfl (Nat.le_of_ble_eq_true rfl) (Nat.le_of_ble_eq_true rfl) (Nat.le_of_ble_eq_true rfl) ⟨Nat.zero_le _, Nat.zero_le _⟩ [0, 1] rfl (by decide) rfl 89 rfl ?_
            refine ww_iload_n (i := 3) C dX11_numberIn_89 rfl rfl 90 rfl ?_
            exact ww_iret C hr dX11_numberIn_90 (by rw [hnv]) rfl
        · exact absurd (⟨fun w => g2 (hnv ▸ i64_lt.mp w), fun w => absurd (hnv ▸ i64_lt.mp w) (Int32.not_lt.mpr g3)⟩ : ¬ (m_num T st ln (A 2) tp t).toInt64 < lo.toInt64 ∧ ¬ hi.toInt64 < (m_num T st ln (A 2) tp t).toInt64) (bI_e0 h_64)
    · skip
      refine ww_bipush (v := 10) C dX11_numberIn_25 (by decide) 27 rfl ?_
      refine ww_iload_n (i := 3) C dX11_numberIn_27 rfl rfl 28 rfl ?_
      refine ww_imul C dX11_numberIn_28 29 rfl ?_
      refine ww_aload_n (i := 0) C dX11_numberIn_29 rfl rfl 30 rfl ?_
      refine ww_get C fe_X11_40 dX11_numberIn_30 0 rfl rfl 33 rfl ?_
      refine ww_iload C dX11_numberIn_33 rfl 35 rfl ?_
      refine ww_iald C dX11_numberIn_35 1 rfl (vp_in_nI (by omega) (by decide)) 36 rfl ?_
      rw [nI_clamp (show sa T u st t + k < 2 ^ 31 by omega)]
      refine ww_iadd C dX11_numberIn_36 37 rfl ?_
      refine ww_bipush (v := 48) C dX11_numberIn_37 (by decide) 39 rfl ?_
      refine ww_isub C dX11_numberIn_39 40 rfl ?_
      refine ww_istore_n (i := 3) C dX11_numberIn_40 rfl (by decide) rfl 41 rfl ?_
      refine ww_iinc (y := 1) C dX11_numberIn_41 rfl (by decide) (by decide) rfl 44 rfl ?_
      refine ww_goto C 8 dX11_numberIn_44 (by decide) ?_
      exact ww_eq rfl (by rw [show sa T u st t + (k + 1) = sa T u st t + k + 1 from rfl, nI_succ, s_join, Int32.mul_comm _ 10]; rfl) rfl (ih (k + 1) ⟨Or.inr h_22, by omega⟩ (by omega))
theorem c_X11_num_no (l : Launch) (Γ : Gm) {hm : Nat} {q : Nat → Nat} {I : Nat → Int32} {T u t : Nat} {st ln : Nat → Nat} {A : Nat → Nat → Int32} {tp : Nat → Int32} {lo hi : Int32} (h18 : I 18 = nI u) (hu : u ≤ 400) (hTk : TokE tp u T st ln A) (hby : ∀ x, x < u → ∃ y, y < 256 ∧ tp x = nI y) (hf : I 23 = 0) (hg : ¬ gN (kp T A) (nv T A) t lo hi = 0) : Ct l Γ yX11_numberIn cX11_numberIn 5 (some .int) 3 [.ref hm, .int lo, .int hi] ([wMo hm q (tokI I T u st ln (A 2) (t)), (q 15, .inl (Γ.2.1, 400, .inl tp))]) (some (.int (m_num T st ln (A 2) tp t))) ([wMo hm q (tokI (upd (upd I 23 (gN (kp T A) (nv T A) t lo hi)) 24 (nI (sa T u st t))) T u st ln (A 2) t), (q 15, .inl (Γ.2.1, 400, .inl tp))]) := by
  refine Ct.of mi_X11_numberIn [some (.ref hm), some (.int lo), some (.int hi), none, none] 2 rfl (Nat.le_of_ble_eq_true rfl) ?_
  intro p e s m args below meth c C hr
  have hle := ee_le hTk.1 t
  have hse : sa T u st t + 0 ≤ ee T u st ln t := by
    unfold sa ee
    split <;> omega
  refine ww_iconst (v := 0) C dX11_numberIn_0 (by decide) 1 rfl ?_
  refine ww_istore_n (i := 3) C dX11_numberIn_1 rfl (by decide) rfl 2 rfl ?_
  refine ww_aload_n (i := 0) C dX11_numberIn_2 rfl rfl 3 rfl ?_
  refine ww_get C fe_X11_122 dX11_numberIn_3 0 rfl rfl 6 rfl ?_
  rw [show (tokI I T u st ln (A 2) t) 21 = nI (sa T u st t) from rfl]
  refine ww_istore C dX11_numberIn_6 (by decide) rfl 8 rfl ?_
  refine ww_loop (fun k : Nat => 1000 - k) (fun k => (k = 0 ∨ so T ln (A 2) t = 3) ∧ sa T u st t + k ≤ ee T u st ln t) (fun _ => [wMo hm q (tokI I T u st ln (A 2) (t)), (q 15, .inl (Γ.2.1, 400, .inl tp))]) (fun k => [some (.ref hm), some (.int lo), some (.int hi), some (.int (s_join tp (sa T u st t) 10 48 k)), some (.int (nI (sa T u st t + k)))]) (0 : Nat) ⟨Or.inl rfl, hse⟩ rfl rfl (fun k hk ih => ?_)
  obtain ⟨hk1, hk2⟩ := hk
  try dsimp only at hk1 hk2 ih ⊢
  refine ww_iload C dX11_numberIn_8 rfl 10 rfl ?_
  refine ww_aload_n (i := 0) C dX11_numberIn_10 rfl rfl 11 rfl ?_
  refine ww_get C fe_X11_134 dX11_numberIn_11 0 rfl rfl 14 rfl ?_
  rw [show (tokI I T u st ln (A 2) t) 22 = nI (ee T u st ln t) from rfl]
  refine ww_icmp_ge C 47 dX11_numberIn_14 (by decide) 17 rfl (fun h_14 => ?_) (fun h_14 => ?_)
  · skip
    have hv : m_num T st ln (A 2) tp t = s_join tp (sa T u st t) 10 48 k := by
      by_cases h2 : so T ln (A 2) t = 3
      · rw [m_num, if_pos h2]
        have htT : t < T := Decidable.byContradiction fun z => by rw [so, if_neg z] at h2; exact absurd h2 (by decide)
        have e1 : sa T u st t = st t := if_pos htT
        have e2 : ee T u st ln t = st t + ln t := if_pos htT
        have e3 : sa T u st t + k = ee T u st ln t := by
          first
            | exact eqN h_14 hk2 (by omega)
            | exact absurd h2 h_22
        rw [e1]
        congr 1
        omega
      · rw [m_num, if_neg h2, hk1.resolve_right h2]; rfl
    clear ih
    rw [← hv]
    by_cases hs3 : so T ln (A 2) t = 3
    · skip
      have g1 := (so_3 hTk t).mp hs3
      have hnv := num_nv hTk g1
      have hGN : gN (kp T A) (nv T A) t lo hi = 2 := by
        by_cases z1 : nv T A t < lo
        · rw [gN, if_neg (fun q => q g1), if_pos z1]
        · by_cases z2 : nv T A t ≤ hi
          · exact absurd (by rw [gN, if_neg (fun q => q g1), if_neg z1, if_pos z2]) hg
          · rw [gN, if_neg (fun q => q g1), if_neg z1, if_neg z2]
      refine ww_aload_n (i := 0) C dX11_numberIn_47 rfl rfl 48 rfl ?_
      refine ww_get C fe_X11_125 dX11_numberIn_48 0 rfl rfl 51 rfl ?_
      rw [show (tokI I T u st ln (A 2) t) 20 = so T ln (A 2) t from rfl]
      refine ww_iconst (v := 3) C dX11_numberIn_51 (by decide) 52 rfl ?_
      refine ww_icmp_ne C 72 dX11_numberIn_52 (by decide) 55 rfl (fun h_52 => ?_) (fun h_52 => ?_)
      · exact absurd hs3 h_52
      · skip
        refine ww_iload_n (i := 3) C dX11_numberIn_55 rfl rfl 56 rfl ?_
        refine ww_i2l C dX11_numberIn_56 57 rfl ?_
        refine ww_iload_n (i := 1) C dX11_numberIn_57 rfl rfl 58 rfl ?_
        refine ww_i2l C dX11_numberIn_58 59 rfl ?_
        refine ww_iload_n (i := 2) C dX11_numberIn_59 rfl rfl 60 rfl ?_
        refine ww_i2l C dX11_numberIn_60 61 rfl ?_
        refine ww_callS3p C (c_X11_in l Γ) mi_X11_in st_X11_in ml_X11_62 dX11_numberIn_61 (Nat.le_of_ble_eq_true rfl) (Nat.le_of_ble_eq_true rfl) (Nat.le_of_ble_eq_true rfl) ⟨Nat.zero_le _, Nat.zero_le _⟩ [] rfl (by decide) 64 rfl ?_
        refine ww_if_ne C 72 dX11_numberIn_64 (by decide) 67 rfl (fun h_64 => ?_) (fun h_64 => ?_)
        · exact absurd (by rw [gN, if_neg (fun q => q g1), if_neg (fun w => (bI_n0 h_64).1 (i64_lt.mpr (hnv ▸ w))), if_pos (Int32.not_lt.mp (fun w => (bI_n0 h_64).2 (i64_lt.mpr (hnv ▸ w))))]) hg
        · skip
          refine ww_aload_n (i := 0) C dX11_numberIn_67 rfl rfl 68 rfl ?_
          refine ww_iconst (v := 2) C dX11_numberIn_68 (by decide) 69 rfl ?_
          refine ww_callV1v C (c_X11_bad_0 l Γ (q := q) (I := tokI I T u st ln (A 2) t) hf) mi_X11_bad im_X11_bad se_X11_bad ml_X11_143 dX11_numberIn_69 0 rfl rfl rfl (Nat.le_of_ble_eq_true rfl) (Nat.le_of_ble_eq_true rfl) (Nat.le_of_ble_eq_true rfl) ⟨Nat.zero_le _, Nat.zero_le _⟩ [0] rfl (by decide) rfl 72 rfl ?_
          refine ww_eq (ws' := [wMo hm q (tokI (upd (upd I 23 (2)) 24 (nI (sa T u st t))) T u st ln (A 2) t), (q 15, .inl (Γ.2.1, 400, .inl tp))]) rfl rfl rfl ?_
          refine ww_aload_n (i := 0) C dX11_numberIn_72 rfl rfl 73 rfl ?_
          refine ww_aload_n (i := 0) C dX11_numberIn_73 rfl rfl 74 rfl ?_
          refine ww_get C fe_X11_125 dX11_numberIn_74 0 rfl rfl 77 rfl ?_
          first
            | rw [show (tokI I T u st ln (A 2) t) 20 = so T ln (A 2) t from rfl]
            | rw [show (tokI (upd (upd I 23 2) 24 (nI (sa T u st t))) T u st ln (A 2) t) 20 = so T ln (A 2) t from rfl]
          refine ww_iconst (v := 3) C dX11_numberIn_77 (by decide) 78 rfl ?_
          refine ww_icmp_ne C 85 dX11_numberIn_78 (by decide) 81 rfl (fun h_78 => ?_) (fun h_78 => ?_)
          · exact absurd hs3 h_78
          · skip
            refine ww_iconst (v := 1) C dX11_numberIn_81 (by decide) 82 rfl ?_
            refine ww_goto C 86 dX11_numberIn_82 (by decide) ?_
            refine ww_callV1vp C (c_X11_need_f l Γ (q := q) (I := tokI (upd (upd I 23 2) 24 (nI (sa T u st t))) T u st ln (A 2) t) (show ¬ (2 : Int32) = 0 by decide)) mi_X11_need im_X11_need se_X11_need ml_X11_149 dX11_numberIn_86 0 rfl rfl rfl (Nat.le_of_ble_eq_true rfl) (Nat.le_of_ble_eq_true rfl) (Nat.le_of_ble_eq_true rfl) ⟨Nat.zero_le _, Nat.zero_le _⟩ [0] rfl (by decide) 89 rfl ?_
            refine ww_iload_n (i := 3) C dX11_numberIn_89 rfl rfl 90 rfl ?_
            exact ww_iret C hr dX11_numberIn_90 rfl (by rw [hGN])
    · skip
      have g1 : ¬ kp T A t = 1 := fun z => hs3 ((so_3 hTk t).mpr z)
      have hGN : gN (kp T A) (nv T A) t lo hi = 1 := by rw [gN, if_pos g1]
      refine ww_aload_n (i := 0) C dX11_numberIn_47 rfl rfl 48 rfl ?_
      refine ww_get C fe_X11_125 dX11_numberIn_48 0 rfl rfl 51 rfl ?_
      rw [show (tokI I T u st ln (A 2) t) 20 = so T ln (A 2) t from rfl]
      refine ww_iconst (v := 3) C dX11_numberIn_51 (by decide) 52 rfl ?_
      refine ww_icmp_ne C 72 dX11_numberIn_52 (by decide) 55 rfl (fun h_52 => ?_) (fun h_52 => ?_)
      · skip
        refine ww_aload_n (i := 0) C dX11_numberIn_72 rfl rfl 73 rfl ?_
        refine ww_aload_n (i := 0) C dX11_numberIn_73 rfl rfl 74 rfl ?_
        refine ww_get C fe_X11_125 dX11_numberIn_74 0 rfl rfl 77 rfl ?_
        first
          | rw [show (tokI I T u st ln (A 2) t) 20 = so T ln (A 2) t from rfl]
          | rw [show (tokI (upd (upd I 23 2) 24 (nI (sa T u st t))) T u st ln (A 2) t) 20 = so T ln (A 2) t from rfl]
        refine ww_iconst (v := 3) C dX11_numberIn_77 (by decide) 78 rfl ?_
        refine ww_icmp_ne C 85 dX11_numberIn_78 (by decide) 81 rfl (fun h_78 => ?_) (fun h_78 => ?_)
        · skip
          refine ww_iconst (v := 0) C dX11_numberIn_85 (by decide) 86 rfl ?_
          refine ww_callV1v C (c_X11_need_no l Γ (q := q) (I := tokI I T u st ln (A 2) t) hf) mi_X11_need im_X11_need se_X11_need ml_X11_149 dX11_numberIn_86 0 rfl rfl rfl (Nat.le_of_ble_eq_true rfl) (Nat.le_of_ble_eq_true rfl) (Nat.le_of_ble_eq_true rfl) ⟨Nat.zero_le _, Nat.zero_le _⟩ [0] rfl (by decide) rfl 89 rfl ?_
          refine ww_eq (ws' := [wMo hm q (tokI (upd (upd I 23 (1)) 24 (nI (sa T u st t))) T u st ln (A 2) t), (q 15, .inl (Γ.2.1, 400, .inl tp))]) rfl rfl rfl ?_
          refine ww_iload_n (i := 3) C dX11_numberIn_89 rfl rfl 90 rfl ?_
          exact ww_iret C hr dX11_numberIn_90 rfl (by rw [hGN])
        · exact absurd h_78 hs3
      · exact absurd h_52 hs3
  · skip
    have hlt : sa T u st t + k < ee T u st ln t := ltN h_14 (by omega) (by omega)
    refine ww_aload_n (i := 0) C dX11_numberIn_17 rfl rfl 18 rfl ?_
    refine ww_get C fe_X11_125 dX11_numberIn_18 0 rfl rfl 21 rfl ?_
    rw [show (tokI I T u st ln (A 2) t) 20 = so T ln (A 2) t from rfl]
    refine ww_iconst (v := 3) C dX11_numberIn_21 (by decide) 22 rfl ?_
    refine ww_icmp_ne C 47 dX11_numberIn_22 (by decide) 25 rfl (fun h_22 => ?_) (fun h_22 => ?_)
    · skip
      have hv : m_num T st ln (A 2) tp t = s_join tp (sa T u st t) 10 48 k := by
        by_cases h2 : so T ln (A 2) t = 3
        · rw [m_num, if_pos h2]
          have htT : t < T := Decidable.byContradiction fun z => by rw [so, if_neg z] at h2; exact absurd h2 (by decide)
          have e1 : sa T u st t = st t := if_pos htT
          have e2 : ee T u st ln t = st t + ln t := if_pos htT
          have e3 : sa T u st t + k = ee T u st ln t := by
            first
              | exact eqN h_14 hk2 (by omega)
              | exact absurd h2 h_22
          rw [e1]
          congr 1
          omega
        · rw [m_num, if_neg h2, hk1.resolve_right h2]; rfl
      clear ih
      rw [← hv]
      by_cases hs3 : so T ln (A 2) t = 3
      · skip
        have g1 := (so_3 hTk t).mp hs3
        have hnv := num_nv hTk g1
        have hGN : gN (kp T A) (nv T A) t lo hi = 2 := by
          by_cases z1 : nv T A t < lo
          · rw [gN, if_neg (fun q => q g1), if_pos z1]
          · by_cases z2 : nv T A t ≤ hi
            · exact absurd (by rw [gN, if_neg (fun q => q g1), if_neg z1, if_pos z2]) hg
            · rw [gN, if_neg (fun q => q g1), if_neg z1, if_neg z2]
        refine ww_aload_n (i := 0) C dX11_numberIn_47 rfl rfl 48 rfl ?_
        refine ww_get C fe_X11_125 dX11_numberIn_48 0 rfl rfl 51 rfl ?_
        rw [show (tokI I T u st ln (A 2) t) 20 = so T ln (A 2) t from rfl]
        refine ww_iconst (v := 3) C dX11_numberIn_51 (by decide) 52 rfl ?_
        refine ww_icmp_ne C 72 dX11_numberIn_52 (by decide) 55 rfl (fun h_52 => ?_) (fun h_52 => ?_)
        · exact absurd hs3 h_52
        · skip
          refine ww_iload_n (i := 3) C dX11_numberIn_55 rfl rfl 56 rfl ?_
          refine ww_i2l C dX11_numberIn_56 57 rfl ?_
          refine ww_iload_n (i := 1) C dX11_numberIn_57 rfl rfl 58 rfl ?_
          refine ww_i2l C dX11_numberIn_58 59 rfl ?_
          refine ww_iload_n (i := 2) C dX11_numberIn_59 rfl rfl 60 rfl ?_
          refine ww_i2l C dX11_numberIn_60 61 rfl ?_
          refine ww_callS3p C (c_X11_in l Γ) mi_X11_in st_X11_in ml_X11_62 dX11_numberIn_61 (Nat.le_of_ble_eq_true rfl) (Nat.le_of_ble_eq_true rfl) (Nat.le_of_ble_eq_true rfl) ⟨Nat.zero_le _, Nat.zero_le _⟩ [] rfl (by decide) 64 rfl ?_
          refine ww_if_ne C 72 dX11_numberIn_64 (by decide) 67 rfl (fun h_64 => ?_) (fun h_64 => ?_)
          · exact absurd (by rw [gN, if_neg (fun q => q g1), if_neg (fun w => (bI_n0 h_64).1 (i64_lt.mpr (hnv ▸ w))), if_pos (Int32.not_lt.mp (fun w => (bI_n0 h_64).2 (i64_lt.mpr (hnv ▸ w))))]) hg
          · skip
            refine ww_aload_n (i := 0) C dX11_numberIn_67 rfl rfl 68 rfl ?_
            refine ww_iconst (v := 2) C dX11_numberIn_68 (by decide) 69 rfl ?_
            refine ww_callV1v C (c_X11_bad_0 l Γ (q := q) (I := tokI I T u st ln (A 2) t) hf) mi_X11_bad im_X11_bad se_X11_bad ml_X11_143 dX11_numberIn_69 0 rfl rfl rfl (Nat.le_of_ble_eq_true rfl) (Nat.le_of_ble_eq_true rfl) (Nat.le_of_ble_eq_true rfl) ⟨Nat.zero_le _, Nat.zero_le _⟩ [0] rfl (by decide) rfl 72 rfl ?_
            refine ww_eq (ws' := [wMo hm q (tokI (upd (upd I 23 (2)) 24 (nI (sa T u st t))) T u st ln (A 2) t), (q 15, .inl (Γ.2.1, 400, .inl tp))]) rfl rfl rfl ?_
            refine ww_aload_n (i := 0) C dX11_numberIn_72 rfl rfl 73 rfl ?_
            refine ww_aload_n (i := 0) C dX11_numberIn_73 rfl rfl 74 rfl ?_
            refine ww_get C fe_X11_125 dX11_numberIn_74 0 rfl rfl 77 rfl ?_
            first
              | rw [show (tokI I T u st ln (A 2) t) 20 = so T ln (A 2) t from rfl]
              | rw [show (tokI (upd (upd I 23 2) 24 (nI (sa T u st t))) T u st ln (A 2) t) 20 = so T ln (A 2) t from rfl]
            refine ww_iconst (v := 3) C dX11_numberIn_77 (by decide) 78 rfl ?_
            refine ww_icmp_ne C 85 dX11_numberIn_78 (by decide) 81 rfl (fun h_78 => ?_) (fun h_78 => ?_)
            · exact absurd hs3 h_78
            · skip
              refine ww_iconst (v := 1) C dX11_numberIn_81 (by decide) 82 rfl ?_
              refine ww_goto C 86 dX11_numberIn_82 (by decide) ?_
              refine ww_callV1vp C (c_X11_need_f l Γ (q := q) (I := tokI (upd (upd I 23 2) 24 (nI (sa T u st t))) T u st ln (A 2) t) (show ¬ (2 : Int32) = 0 by decide)) mi_X11_need im_X11_need se_X11_need ml_X11_149 dX11_numberIn_86 0 rfl rfl rfl (Nat.le_of_ble_eq_true rfl) (Nat.le_of_ble_eq_true rfl) (Nat.le_of_ble_eq_true rfl) ⟨Nat.zero_le _, Nat.zero_le _⟩ [0] rfl (by decide) 89 rfl ?_
              refine ww_iload_n (i := 3) C dX11_numberIn_89 rfl rfl 90 rfl ?_
              exact ww_iret C hr dX11_numberIn_90 rfl (by rw [hGN])
      · skip
        have g1 : ¬ kp T A t = 1 := fun z => hs3 ((so_3 hTk t).mpr z)
        have hGN : gN (kp T A) (nv T A) t lo hi = 1 := by rw [gN, if_pos g1]
        refine ww_aload_n (i := 0) C dX11_numberIn_47 rfl rfl 48 rfl ?_
        refine ww_get C fe_X11_125 dX11_numberIn_48 0 rfl rfl 51 rfl ?_
        rw [show (tokI I T u st ln (A 2) t) 20 = so T ln (A 2) t from rfl]
        refine ww_iconst (v := 3) C dX11_numberIn_51 (by decide) 52 rfl ?_
        refine ww_icmp_ne C 72 dX11_numberIn_52 (by decide) 55 rfl (fun h_52 => ?_) (fun h_52 => ?_)
        · skip
          refine ww_aload_n (i := 0) C dX11_numberIn_72 rfl rfl 73 rfl ?_
          refine ww_aload_n (i := 0) C dX11_numberIn_73 rfl rfl 74 rfl ?_
          refine ww_get C fe_X11_125 dX11_numberIn_74 0 rfl rfl 77 rfl ?_
          first
            | rw [show (tokI I T u st ln (A 2) t) 20 = so T ln (A 2) t from rfl]
            | rw [show (tokI (upd (upd I 23 2) 24 (nI (sa T u st t))) T u st ln (A 2) t) 20 = so T ln (A 2) t from rfl]
          refine ww_iconst (v := 3) C dX11_numberIn_77 (by decide) 78 rfl ?_
          refine ww_icmp_ne C 85 dX11_numberIn_78 (by decide) 81 rfl (fun h_78 => ?_) (fun h_78 => ?_)
          · skip
            refine ww_iconst (v := 0) C dX11_numberIn_85 (by decide) 86 rfl ?_
            refine ww_callV1v C (c_X11_need_no l Γ (q := q) (I := tokI I T u st ln (A 2) t) hf) mi_X11_need im_X11_need se_X11_need ml_X11_149 dX11_numberIn_86 0 rfl rfl rfl (Nat.le_of_ble_eq_true rfl) (Nat.le_of_ble_eq_true rfl) (Nat.le_of_ble_eq_true rfl) ⟨Nat.zero_le _, Nat.zero_le _⟩ [0] rfl (by decide) rfl 89 rfl ?_
            refine ww_eq (ws' := [wMo hm q (tokI (upd (upd I 23 (1)) 24 (nI (sa T u st t))) T u st ln (A 2) t), (q 15, .inl (Γ.2.1, 400, .inl tp))]) rfl rfl rfl ?_
            refine ww_iload_n (i := 3) C dX11_numberIn_89 rfl rfl 90 rfl ?_
            exact ww_iret C hr dX11_numberIn_90 rfl (by rw [hGN])
          · exact absurd h_78 hs3
        · exact absurd h_52 hs3
    · skip
      refine ww_bipush (v := 10) C dX11_numberIn_25 (by decide) 27 rfl ?_
      refine ww_iload_n (i := 3) C dX11_numberIn_27 rfl rfl 28 rfl ?_
      refine ww_imul C dX11_numberIn_28 29 rfl ?_
      refine ww_aload_n (i := 0) C dX11_numberIn_29 rfl rfl 30 rfl ?_
      refine ww_get C fe_X11_40 dX11_numberIn_30 0 rfl rfl 33 rfl ?_
      refine ww_iload C dX11_numberIn_33 rfl 35 rfl ?_
      refine ww_iald C dX11_numberIn_35 1 rfl (vp_in_nI (by omega) (by decide)) 36 rfl ?_
      rw [nI_clamp (show sa T u st t + k < 2 ^ 31 by omega)]
      refine ww_iadd C dX11_numberIn_36 37 rfl ?_
      refine ww_bipush (v := 48) C dX11_numberIn_37 (by decide) 39 rfl ?_
      refine ww_isub C dX11_numberIn_39 40 rfl ?_
      refine ww_istore_n (i := 3) C dX11_numberIn_40 rfl (by decide) rfl 41 rfl ?_
      refine ww_iinc (y := 1) C dX11_numberIn_41 rfl (by decide) (by decide) rfl 44 rfl ?_
      refine ww_goto C 8 dX11_numberIn_44 (by decide) ?_
      exact ww_eq rfl (by rw [show sa T u st t + (k + 1) = sa T u st t + k + 1 from rfl, nI_succ, s_join, Int32.mul_comm _ 10]; rfl) rfl (ih (k + 1) ⟨Or.inr h_22, by omega⟩ (by omega))
theorem c_X11_num_f (l : Launch) (Γ : Gm) {hm : Nat} {q : Nat → Nat} {I : Nat → Int32} {T u t : Nat} {st ln : Nat → Nat} {A : Nat → Nat → Int32} {tp : Nat → Int32} {lo hi : Int32} (h18 : I 18 = nI u) (hu : u ≤ 400) (hTk : TokE tp u T st ln A) (hby : ∀ x, x < u → ∃ y, y < 256 ∧ tp x = nI y) (hf : ¬ I 23 = 0) : Ct l Γ yX11_numberIn cX11_numberIn 5 (some .int) 3 [.ref hm, .int lo, .int hi] ([wMo hm q (tokI I T u st ln (A 2) (t)), (q 15, .inl (Γ.2.1, 400, .inl tp))]) (some (.int (m_num T st ln (A 2) tp t))) ([wMo hm q (tokI I T u st ln (A 2) (t)), (q 15, .inl (Γ.2.1, 400, .inl tp))]) := by
  refine Ct.of mi_X11_numberIn [some (.ref hm), some (.int lo), some (.int hi), none, none] 2 rfl (Nat.le_of_ble_eq_true rfl) ?_
  intro p e s m args below meth c C hr
  have hle := ee_le hTk.1 t
  have hse : sa T u st t + 0 ≤ ee T u st ln t := by
    unfold sa ee
    split <;> omega
  refine ww_iconst (v := 0) C dX11_numberIn_0 (by decide) 1 rfl ?_
  refine ww_istore_n (i := 3) C dX11_numberIn_1 rfl (by decide) rfl 2 rfl ?_
  refine ww_aload_n (i := 0) C dX11_numberIn_2 rfl rfl 3 rfl ?_
  refine ww_get C fe_X11_122 dX11_numberIn_3 0 rfl rfl 6 rfl ?_
  rw [show (tokI I T u st ln (A 2) t) 21 = nI (sa T u st t) from rfl]
  refine ww_istore C dX11_numberIn_6 (by decide) rfl 8 rfl ?_
  refine ww_loop (fun k : Nat => 1000 - k) (fun k => (k = 0 ∨ so T ln (A 2) t = 3) ∧ sa T u st t + k ≤ ee T u st ln t) (fun _ => [wMo hm q (tokI I T u st ln (A 2) (t)), (q 15, .inl (Γ.2.1, 400, .inl tp))]) (fun k => [some (.ref hm), some (.int lo), some (.int hi), some (.int (s_join tp (sa T u st t) 10 48 k)), some (.int (nI (sa T u st t + k)))]) (0 : Nat) ⟨Or.inl rfl, hse⟩ rfl rfl (fun k hk ih => ?_)
  obtain ⟨hk1, hk2⟩ := hk
  try dsimp only at hk1 hk2 ih ⊢
  refine ww_iload C dX11_numberIn_8 rfl 10 rfl ?_
  refine ww_aload_n (i := 0) C dX11_numberIn_10 rfl rfl 11 rfl ?_
  refine ww_get C fe_X11_134 dX11_numberIn_11 0 rfl rfl 14 rfl ?_
  rw [show (tokI I T u st ln (A 2) t) 22 = nI (ee T u st ln t) from rfl]
  refine ww_icmp_ge C 47 dX11_numberIn_14 (by decide) 17 rfl (fun h_14 => ?_) (fun h_14 => ?_)
  · skip
    have hv : m_num T st ln (A 2) tp t = s_join tp (sa T u st t) 10 48 k := by
      by_cases h2 : so T ln (A 2) t = 3
      · rw [m_num, if_pos h2]
        have htT : t < T := Decidable.byContradiction fun z => by rw [so, if_neg z] at h2; exact absurd h2 (by decide)
        have e1 : sa T u st t = st t := if_pos htT
        have e2 : ee T u st ln t = st t + ln t := if_pos htT
        have e3 : sa T u st t + k = ee T u st ln t := by
          first
            | exact eqN h_14 hk2 (by omega)
            | exact absurd h2 h_22
        rw [e1]
        congr 1
        omega
      · rw [m_num, if_neg h2, hk1.resolve_right h2]; rfl
    clear ih
    rw [← hv]
    refine ww_aload_n (i := 0) C dX11_numberIn_47 rfl rfl 48 rfl ?_
    refine ww_get C fe_X11_125 dX11_numberIn_48 0 rfl rfl 51 rfl ?_
    rw [show (tokI I T u st ln (A 2) t) 20 = so T ln (A 2) t from rfl]
    refine ww_iconst (v := 3) C dX11_numberIn_51 (by decide) 52 rfl ?_
    refine ww_icmp_ne C 72 dX11_numberIn_52 (by decide) 55 rfl (fun h_52 => ?_) (fun h_52 => ?_)
    · skip
      refine ww_aload_n (i := 0) C dX11_numberIn_72 rfl rfl 73 rfl ?_
      refine ww_aload_n (i := 0) C dX11_numberIn_73 rfl rfl 74 rfl ?_
      refine ww_get C fe_X11_125 dX11_numberIn_74 0 rfl rfl 77 rfl ?_
      first
        | rw [show (tokI I T u st ln (A 2) t) 20 = so T ln (A 2) t from rfl]
        | rw [show (tokI (upd (upd I 23 2) 24 (nI (sa T u st t))) T u st ln (A 2) t) 20 = so T ln (A 2) t from rfl]
      refine ww_iconst (v := 3) C dX11_numberIn_77 (by decide) 78 rfl ?_
      refine ww_icmp_ne C 85 dX11_numberIn_78 (by decide) 81 rfl (fun h_78 => ?_) (fun h_78 => ?_)
      · skip
        refine ww_iconst (v := 0) C dX11_numberIn_85 (by decide) 86 rfl ?_
        refine ww_callV1vp C (c_X11_need_f l Γ (q := q) (I := tokI I T u st ln (A 2) t) hf) mi_X11_need im_X11_need se_X11_need ml_X11_149 dX11_numberIn_86 0 rfl rfl rfl (Nat.le_of_ble_eq_true rfl) (Nat.le_of_ble_eq_true rfl) (Nat.le_of_ble_eq_true rfl) ⟨Nat.zero_le _, Nat.zero_le _⟩ [0] rfl (by decide) 89 rfl ?_
        refine ww_iload_n (i := 3) C dX11_numberIn_89 rfl rfl 90 rfl ?_
        exact ww_iret C hr dX11_numberIn_90 rfl rfl
      · skip
        refine ww_iconst (v := 1) C dX11_numberIn_81 (by decide) 82 rfl ?_
        refine ww_goto C 86 dX11_numberIn_82 (by decide) ?_
        refine ww_callV1vp C (c_X11_need_f l Γ (q := q) (I := tokI I T u st ln (A 2) t) hf) mi_X11_need im_X11_need se_X11_need ml_X11_149 dX11_numberIn_86 0 rfl rfl rfl (Nat.le_of_ble_eq_true rfl) (Nat.le_of_ble_eq_true rfl) (Nat.le_of_ble_eq_true rfl) ⟨Nat.zero_le _, Nat.zero_le _⟩ [0] rfl (by decide) 89 rfl ?_
        refine ww_iload_n (i := 3) C dX11_numberIn_89 rfl rfl 90 rfl ?_
        exact ww_iret C hr dX11_numberIn_90 rfl rfl
    · skip
      refine ww_iload_n (i := 3) C dX11_numberIn_55 rfl rfl 56 rfl ?_
      refine ww_i2l C dX11_numberIn_56 57 rfl ?_
      refine ww_iload_n (i := 1) C dX11_numberIn_57 rfl rfl 58 rfl ?_
      refine ww_i2l C dX11_numberIn_58 59 rfl ?_
      refine ww_iload_n (i := 2) C dX11_numberIn_59 rfl rfl 60 rfl ?_
      refine ww_i2l C dX11_numberIn_60 61 rfl ?_
      refine ww_callS3p C (c_X11_in l Γ) mi_X11_in st_X11_in ml_X11_62 dX11_numberIn_61 (Nat.le_of_ble_eq_true rfl) (Nat.le_of_ble_eq_true rfl) (Nat.le_of_ble_eq_true rfl) ⟨Nat.zero_le _, Nat.zero_le _⟩ [] rfl (by decide) 64 rfl ?_
      refine ww_if_ne C 72 dX11_numberIn_64 (by decide) 67 rfl (fun h_64 => ?_) (fun h_64 => ?_)
      · skip
        refine ww_aload_n (i := 0) C dX11_numberIn_72 rfl rfl 73 rfl ?_
        refine ww_aload_n (i := 0) C dX11_numberIn_73 rfl rfl 74 rfl ?_
        refine ww_get C fe_X11_125 dX11_numberIn_74 0 rfl rfl 77 rfl ?_
        first
          | rw [show (tokI I T u st ln (A 2) t) 20 = so T ln (A 2) t from rfl]
          | rw [show (tokI (upd (upd I 23 2) 24 (nI (sa T u st t))) T u st ln (A 2) t) 20 = so T ln (A 2) t from rfl]
        refine ww_iconst (v := 3) C dX11_numberIn_77 (by decide) 78 rfl ?_
        refine ww_icmp_ne C 85 dX11_numberIn_78 (by decide) 81 rfl (fun h_78 => ?_) (fun h_78 => ?_)
        · skip
          refine ww_iconst (v := 0) C dX11_numberIn_85 (by decide) 86 rfl ?_
          refine ww_callV1vp C (c_X11_need_f l Γ (q := q) (I := tokI I T u st ln (A 2) t) hf) mi_X11_need im_X11_need se_X11_need ml_X11_149 dX11_numberIn_86 0 rfl rfl rfl (Nat.le_of_ble_eq_true rfl) (Nat.le_of_ble_eq_true rfl) (Nat.le_of_ble_eq_true rfl) ⟨Nat.zero_le _, Nat.zero_le _⟩ [0] rfl (by decide) 89 rfl ?_
          refine ww_iload_n (i := 3) C dX11_numberIn_89 rfl rfl 90 rfl ?_
          exact ww_iret C hr dX11_numberIn_90 rfl rfl
        · skip
          refine ww_iconst (v := 1) C dX11_numberIn_81 (by decide) 82 rfl ?_
          refine ww_goto C 86 dX11_numberIn_82 (by decide) ?_
          refine ww_callV1vp C (c_X11_need_f l Γ (q := q) (I := tokI I T u st ln (A 2) t) hf) mi_X11_need im_X11_need se_X11_need ml_X11_149 dX11_numberIn_86 0 rfl rfl rfl (Nat.le_of_ble_eq_true rfl) (Nat.le_of_ble_eq_true rfl) (Nat.le_of_ble_eq_true rfl) ⟨Nat.zero_le _, Nat.zero_le _⟩ [0] rfl (by decide) 89 rfl ?_
          refine ww_iload_n (i := 3) C dX11_numberIn_89 rfl rfl 90 rfl ?_
          exact ww_iret C hr dX11_numberIn_90 rfl rfl
      · skip
        refine ww_aload_n (i := 0) C dX11_numberIn_67 rfl rfl 68 rfl ?_
        refine ww_iconst (v := 2) C dX11_numberIn_68 (by decide) 69 rfl ?_
        refine ww_callV1vp C (c_X11_bad_1 l Γ (q := q) (I := tokI I T u st ln (A 2) t) hf) mi_X11_bad im_X11_bad se_X11_bad ml_X11_143 dX11_numberIn_69 0 rfl rfl rfl (Nat.le_of_ble_eq_true rfl) (Nat.le_of_ble_eq_true rfl) (Nat.le_of_ble_eq_true rfl) ⟨Nat.zero_le _, Nat.zero_le _⟩ [0] rfl (by decide) 72 rfl ?_
        refine ww_aload_n (i := 0) C dX11_numberIn_72 rfl rfl 73 rfl ?_
        refine ww_aload_n (i := 0) C dX11_numberIn_73 rfl rfl 74 rfl ?_
        refine ww_get C fe_X11_125 dX11_numberIn_74 0 rfl rfl 77 rfl ?_
        first
          | rw [show (tokI I T u st ln (A 2) t) 20 = so T ln (A 2) t from rfl]
          | rw [show (tokI (upd (upd I 23 2) 24 (nI (sa T u st t))) T u st ln (A 2) t) 20 = so T ln (A 2) t from rfl]
        refine ww_iconst (v := 3) C dX11_numberIn_77 (by decide) 78 rfl ?_
        refine ww_icmp_ne C 85 dX11_numberIn_78 (by decide) 81 rfl (fun h_78 => ?_) (fun h_78 => ?_)
        · skip
          refine ww_iconst (v := 0) C dX11_numberIn_85 (by decide) 86 rfl ?_
          refine ww_callV1vp C (c_X11_need_f l Γ (q := q) (I := tokI I T u st ln (A 2) t) hf) mi_X11_need im_X11_need se_X11_need ml_X11_149 dX11_numberIn_86 0 rfl rfl rfl (Nat.le_of_ble_eq_true rfl) (Nat.le_of_ble_eq_true rfl) (Nat.le_of_ble_eq_true rfl) ⟨Nat.zero_le _, Nat.zero_le _⟩ [0] rfl (by decide) 89 rfl ?_
          refine ww_iload_n (i := 3) C dX11_numberIn_89 rfl rfl 90 rfl ?_
          exact ww_iret C hr dX11_numberIn_90 rfl rfl
        · skip
          refine ww_iconst (v := 1) C dX11_numberIn_81 (by decide) 82 rfl ?_
          refine ww_goto C 86 dX11_numberIn_82 (by decide) ?_
          refine ww_callV1vp C (c_X11_need_f l Γ (q := q) (I := tokI I T u st ln (A 2) t) hf) mi_X11_need im_X11_need se_X11_need ml_X11_149 dX11_numberIn_86 0 rfl rfl rfl (Nat.le_of_ble_eq_true rfl) (Nat.le_of_ble_eq_true rfl) (Nat.le_of_ble_eq_true rfl) ⟨Nat.zero_le _, Nat.zero_le _⟩ [0] rfl (by decide) 89 rfl ?_
          refine ww_iload_n (i := 3) C dX11_numberIn_89 rfl rfl 90 rfl ?_
          exact ww_iret C hr dX11_numberIn_90 rfl rfl
  · skip
    have hlt : sa T u st t + k < ee T u st ln t := ltN h_14 (by omega) (by omega)
    refine ww_aload_n (i := 0) C dX11_numberIn_17 rfl rfl 18 rfl ?_
    refine ww_get C fe_X11_125 dX11_numberIn_18 0 rfl rfl 21 rfl ?_
    rw [show (tokI I T u st ln (A 2) t) 20 = so T ln (A 2) t from rfl]
    refine ww_iconst (v := 3) C dX11_numberIn_21 (by decide) 22 rfl ?_
    refine ww_icmp_ne C 47 dX11_numberIn_22 (by decide) 25 rfl (fun h_22 => ?_) (fun h_22 => ?_)
    · skip
      have hv : m_num T st ln (A 2) tp t = s_join tp (sa T u st t) 10 48 k := by
        by_cases h2 : so T ln (A 2) t = 3
        · rw [m_num, if_pos h2]
          have htT : t < T := Decidable.byContradiction fun z => by rw [so, if_neg z] at h2; exact absurd h2 (by decide)
          have e1 : sa T u st t = st t := if_pos htT
          have e2 : ee T u st ln t = st t + ln t := if_pos htT
          have e3 : sa T u st t + k = ee T u st ln t := by
            first
              | exact eqN h_14 hk2 (by omega)
              | exact absurd h2 h_22
          rw [e1]
          congr 1
          omega
        · rw [m_num, if_neg h2, hk1.resolve_right h2]; rfl
      clear ih
      rw [← hv]
      refine ww_aload_n (i := 0) C dX11_numberIn_47 rfl rfl 48 rfl ?_
      refine ww_get C fe_X11_125 dX11_numberIn_48 0 rfl rfl 51 rfl ?_
      rw [show (tokI I T u st ln (A 2) t) 20 = so T ln (A 2) t from rfl]
      refine ww_iconst (v := 3) C dX11_numberIn_51 (by decide) 52 rfl ?_
      refine ww_icmp_ne C 72 dX11_numberIn_52 (by decide) 55 rfl (fun h_52 => ?_) (fun h_52 => ?_)
      · skip
        refine ww_aload_n (i := 0) C dX11_numberIn_72 rfl rfl 73 rfl ?_
        refine ww_aload_n (i := 0) C dX11_numberIn_73 rfl rfl 74 rfl ?_
        refine ww_get C fe_X11_125 dX11_numberIn_74 0 rfl rfl 77 rfl ?_
        first
          | rw [show (tokI I T u st ln (A 2) t) 20 = so T ln (A 2) t from rfl]
          | rw [show (tokI (upd (upd I 23 2) 24 (nI (sa T u st t))) T u st ln (A 2) t) 20 = so T ln (A 2) t from rfl]
        refine ww_iconst (v := 3) C dX11_numberIn_77 (by decide) 78 rfl ?_
        refine ww_icmp_ne C 85 dX11_numberIn_78 (by decide) 81 rfl (fun h_78 => ?_) (fun h_78 => ?_)
        · skip
          refine ww_iconst (v := 0) C dX11_numberIn_85 (by decide) 86 rfl ?_
          refine ww_callV1vp C (c_X11_need_f l Γ (q := q) (I := tokI I T u st ln (A 2) t) hf) mi_X11_need im_X11_need se_X11_need ml_X11_149 dX11_numberIn_86 0 rfl rfl rfl (Nat.le_of_ble_eq_true rfl) (Nat.le_of_ble_eq_true rfl) (Nat.le_of_ble_eq_true rfl) ⟨Nat.zero_le _, Nat.zero_le _⟩ [0] rfl (by decide) 89 rfl ?_
          refine ww_iload_n (i := 3) C dX11_numberIn_89 rfl rfl 90 rfl ?_
          exact ww_iret C hr dX11_numberIn_90 rfl rfl
        · skip
          refine ww_iconst (v := 1) C dX11_numberIn_81 (by decide) 82 rfl ?_
          refine ww_goto C 86 dX11_numberIn_82 (by decide) ?_
          refine ww_callV1vp C (c_X11_need_f l Γ (q := q) (I := tokI I T u st ln (A 2) t) hf) mi_X11_need im_X11_need se_X11_need ml_X11_149 dX11_numberIn_86 0 rfl rfl rfl (Nat.le_of_ble_eq_true rfl) (Nat.le_of_ble_eq_true rfl) (Nat.le_of_ble_eq_true rfl) ⟨Nat.zero_le _, Nat.zero_le _⟩ [0] rfl (by decide) 89 rfl ?_
          refine ww_iload_n (i := 3) C dX11_numberIn_89 rfl rfl 90 rfl ?_
          exact ww_iret C hr dX11_numberIn_90 rfl rfl
      · skip
        refine ww_iload_n (i := 3) C dX11_numberIn_55 rfl rfl 56 rfl ?_
        refine ww_i2l C dX11_numberIn_56 57 rfl ?_
        refine ww_iload_n (i := 1) C dX11_numberIn_57 rfl rfl 58 rfl ?_
        refine ww_i2l C dX11_numberIn_58 59 rfl ?_
        refine ww_iload_n (i := 2) C dX11_numberIn_59 rfl rfl 60 rfl ?_
        refine ww_i2l C dX11_numberIn_60 61 rfl ?_
        refine ww_callS3p C (c_X11_in l Γ) mi_X11_in st_X11_in ml_X11_62 dX11_numberIn_61 (Nat.le_of_ble_eq_true rfl) (Nat.le_of_ble_eq_true rfl) (Nat.le_of_ble_eq_true rfl) ⟨Nat.zero_le _, Nat.zero_le _⟩ [] rfl (by decide) 64 rfl ?_
        refine ww_if_ne C 72 dX11_numberIn_64 (by decide) 67 rfl (fun h_64 => ?_) (fun h_64 => ?_)
        · skip
          refine ww_aload_n (i := 0) C dX11_numberIn_72 rfl rfl 73 rfl ?_
          refine ww_aload_n (i := 0) C dX11_numberIn_73 rfl rfl 74 rfl ?_
          refine ww_get C fe_X11_125 dX11_numberIn_74 0 rfl rfl 77 rfl ?_
          first
            | rw [show (tokI I T u st ln (A 2) t) 20 = so T ln (A 2) t from rfl]
            | rw [show (tokI (upd (upd I 23 2) 24 (nI (sa T u st t))) T u st ln (A 2) t) 20 = so T ln (A 2) t from rfl]
          refine ww_iconst (v := 3) C dX11_numberIn_77 (by decide) 78 rfl ?_
          refine ww_icmp_ne C 85 dX11_numberIn_78 (by decide) 81 rfl (fun h_78 => ?_) (fun h_78 => ?_)
          · skip
            refine ww_iconst (v := 0) C dX11_numberIn_85 (by decide) 86 rfl ?_
            refine ww_callV1vp C (c_X11_need_f l Γ (q := q) (I := tokI I T u st ln (A 2) t) hf) mi_X11_need im_X11_need se_X11_need ml_X11_149 dX11_numberIn_86 0 rfl rfl rfl (Nat.le_of_ble_eq_true rfl) (Nat.le_of_ble_eq_true rfl) (Nat.le_of_ble_eq_true rfl) ⟨Nat.zero_le _, Nat.zero_le _⟩ [0] rfl (by decide) 89 rfl ?_
            refine ww_iload_n (i := 3) C dX11_numberIn_89 rfl rfl 90 rfl ?_
            exact ww_iret C hr dX11_numberIn_90 rfl rfl
          · skip
            refine ww_iconst (v := 1) C dX11_numberIn_81 (by decide) 82 rfl ?_
            refine ww_goto C 86 dX11_numberIn_82 (by decide) ?_
            refine ww_callV1vp C (c_X11_need_f l Γ (q := q) (I := tokI I T u st ln (A 2) t) hf) mi_X11_need im_X11_need se_X11_need ml_X11_149 dX11_numberIn_86 0 rfl rfl rfl (Nat.le_of_ble_eq_true rfl) (Nat.le_of_ble_eq_true rfl) (Nat.le_of_ble_eq_true rfl) ⟨Nat.zero_le _, Nat.zero_le _⟩ [0] rfl (by decide) 89 rfl ?_
            refine ww_iload_n (i := 3) C dX11_numberIn_89 rfl rfl 90 rfl ?_
            exact ww_iret C hr dX11_numberIn_90 rfl rfl
        · skip
          refine ww_aload_n (i := 0) C dX11_numberIn_67 rfl rfl 68 rfl ?_
          refine ww_iconst (v := 2) C dX11_numberIn_68 (by decide) 69 rfl ?_
          refine ww_callV1vp C (c_X11_bad_1 l Γ (q := q) (I := tokI I T u st ln (A 2) t) hf) mi_X11_bad im_X11_bad se_X11_bad ml_X11_143 dX11_numberIn_69 0 rfl rfl rfl (Nat.le_of_ble_eq_true rfl) (Nat.le_of_ble_eq_true rfl) (Nat.le_of_ble_eq_true rfl) ⟨Nat.zero_le _, Nat.zero_le _⟩ [0] rfl (by decide) 72 rfl ?_
          refine ww_aload_n (i := 0) C dX11_numberIn_72 rfl rfl 73 rfl ?_
          refine ww_aload_n (i := 0) C dX11_numberIn_73 rfl rfl 74 rfl ?_
          refine ww_get C fe_X11_125 dX11_numberIn_74 0 rfl rfl 77 rfl ?_
          first
            | rw [show (tokI I T u st ln (A 2) t) 20 = so T ln (A 2) t from rfl]
            | rw [show (tokI (upd (upd I 23 2) 24 (nI (sa T u st t))) T u st ln (A 2) t) 20 = so T ln (A 2) t from rfl]
          refine ww_iconst (v := 3) C dX11_numberIn_77 (by decide) 78 rfl ?_
          refine ww_icmp_ne C 85 dX11_numberIn_78 (by decide) 81 rfl (fun h_78 => ?_) (fun h_78 => ?_)
          · skip
            refine ww_iconst (v := 0) C dX11_numberIn_85 (by decide) 86 rfl ?_
            refine ww_callV1vp C (c_X11_need_f l Γ (q := q) (I := tokI I T u st ln (A 2) t) hf) mi_X11_need im_X11_need se_X11_need ml_X11_149 dX11_numberIn_86 0 rfl rfl rfl (Nat.le_of_ble_eq_true rfl) (Nat.le_of_ble_eq_true rfl) (Nat.le_of_ble_eq_true rfl) ⟨Nat.zero_le _, Nat.zero_le _⟩ [0] rfl (by decide) 89 rfl ?_
            refine ww_iload_n (i := 3) C dX11_numberIn_89 rfl rfl 90 rfl ?_
            exact ww_iret C hr dX11_numberIn_90 rfl rfl
          · skip
            refine ww_iconst (v := 1) C dX11_numberIn_81 (by decide) 82 rfl ?_
            refine ww_goto C 86 dX11_numberIn_82 (by decide) ?_
            refine ww_callV1vp C (c_X11_need_f l Γ (q := q) (I := tokI I T u st ln (A 2) t) hf) mi_X11_need im_X11_need se_X11_need ml_X11_149 dX11_numberIn_86 0 rfl rfl rfl (Nat.le_of_ble_eq_true rfl) (Nat.le_of_ble_eq_true rfl) (Nat.le_of_ble_eq_true rfl) ⟨Nat.zero_le _, Nat.zero_le _⟩ [0] rfl (by decide) 89 rfl ?_
            refine ww_iload_n (i := 3) C dX11_numberIn_89 rfl rfl 90 rfl ?_
            exact ww_iret C hr dX11_numberIn_90 rfl rfl
    · skip
      refine ww_bipush (v := 10) C dX11_numberIn_25 (by decide) 27 rfl ?_
      refine ww_iload_n (i := 3) C dX11_numberIn_27 rfl rfl 28 rfl ?_
      refine ww_imul C dX11_numberIn_28 29 rfl ?_
      refine ww_aload_n (i := 0) C dX11_numberIn_29 rfl rfl 30 rfl ?_
      refine ww_get C fe_X11_40 dX11_numberIn_30 0 rfl rfl 33 rfl ?_
      refine ww_iload C dX11_numberIn_33 rfl 35 rfl ?_
      refine ww_iald C dX11_numberIn_35 1 rfl (vp_in_nI (by omega) (by decide)) 36 rfl ?_
      rw [nI_clamp (show sa T u st t + k < 2 ^ 31 by omega)]
      refine ww_iadd C dX11_numberIn_36 37 rfl ?_
      refine ww_bipush (v := 48) C dX11_numberIn_37 (by decide) 39 rfl ?_
      refine ww_isub C dX11_numberIn_39 40 rfl ?_
      refine ww_istore_n (i := 3) C dX11_numberIn_40 rfl (by decide) rfl 41 rfl ?_
      refine ww_iinc (y := 1) C dX11_numberIn_41 rfl (by decide) (by decide) rfl 44 rfl ?_
      refine ww_goto C 8 dX11_numberIn_44 (by decide) ?_
      exact ww_eq rfl (by rw [show sa T u st t + (k + 1) = sa T u st t + k + 1 from rfl, nI_succ, s_join, Int32.mul_comm _ 10]; rfl) rfl (ih (k + 1) ⟨Or.inr h_22, by omega⟩ (by omega))
set_option maxHeartbeats 4000000 in
theorem c_X11_readTest (l : Launch) (Γ : Gm) {hm : Nat} {q : Nat → Nat} {I : Nat → Int32} {T u t : Nat} {st ln : Nat → Nat} {A : Nat → Nat → Int32} {tp : Nat → Int32} {r n : Nat} {fp : Int32} {rt : Nat → Int32} (h18 : I 18 = nI u) (hu : u ≤ 400) (hTk : TokE tp u T st ln A) (hby : ∀ x, x < u → ∃ y, y < 256 ∧ tp x = nI y) (ht : t ≤ T) (hr9 : r < 15) (hn9 : n < 4) : Ce l Γ yX11_readTest cX11_readTest 6 none 4 [.ref hm, .int (nI n)] ([wMo hm q (tokI (flI I r (0) (fp)) T u st ln (A 2) (t)), (q 15, .inl (Γ.2.1, 400, .inl tp)), (q 13, .inl (Γ.2.1, 180, .inl (rt)))]) (fun (x : Int32 × Int32 × (Nat → Int32)) => MtQ T u st A t (12 * r + 3 * n) rt x) (fun (x : Int32 × Int32 × (Nat → Int32)) => none) (fun (x : Int32 × Int32 × (Nat → Int32)) => [wMo hm q (tokI (flI I r (x.1) (x.2.1)) T u st ln (A 2) ((gT (kp T A) (nv T A) t).2)), (q 15, .inl (Γ.2.1, 400, .inl tp)), (q 13, .inl (Γ.2.1, 180, .inl (x.2.2)))]) := by
  refine Ce.of mi_X11_readTest [some (.ref hm), some (.int (nI n)), none, none, none, none] 4 rfl (Nat.le_of_ble_eq_true rfl) ?_
  intro p e s m args below meth c C hr
  have ih0 : (12 : Int32) * nI r + 3 * nI n = nI (12 * r + 3 * n) := by rw [show (12 : Int32) = nI 12 from rfl, show (3 : Int32) = nI 3 from rfl, pk_mul, pk_mul, nI_add]
  have ix1 : nI (12 * r + 3 * n) + 1 = nI (12 * r + 3 * n + 1) := by rw [show (1 : Int32) = nI 1 from rfl, nI_add]
  have ix2 : nI (12 * r + 3 * n) + 2 = nI (12 * r + 3 * n + 2) := by rw [show (2 : Int32) = nI 2 from rfl, nI_add]
  have ic0 : (nI (12 * r + 3 * n)).toNatClampNeg = 12 * r + 3 * n := nI_clamp (by omega)
  have ic1 : (nI (12 * r + 3 * n) + 1).toNatClampNeg = 12 * r + 3 * n + 1 := by rw [ix1]; exact nI_clamp (by omega)
  have ic2 : (nI (12 * r + 3 * n) + 2).toNatClampNeg = 12 * r + 3 * n + 2 := by rw [ix2]; exact nI_clamp (by omega)
  refine ww_bipush (v := 12) C dX11_readTest_0 (by decide) 2 rfl ?_
  refine ww_aload_n (i := 0) C dX11_readTest_2 rfl rfl 3 rfl ?_
  refine ww_get C fe_X11_153 dX11_readTest_3 0 rfl rfl 6 rfl ?_
  rw [show (tokI (flI I r (0) (fp)) T u st ln (A 2) (t)) 11 = nI r from rfl]
  refine ww_imul C dX11_readTest_6 7 rfl ?_
  refine ww_iconst (v := 3) C dX11_readTest_7 (by decide) 8 rfl ?_
  refine ww_iload_n (i := 1) C dX11_readTest_8 rfl rfl 9 rfl ?_
  refine ww_imul C dX11_readTest_9 10 rfl ?_
  refine ww_iadd C dX11_readTest_10 11 rfl ?_
  rw [ih0]
  refine ww_istore_n (i := 2) C dX11_readTest_11 rfl (by decide) rfl 12 rfl ?_
  refine ww_aload_n (i := 0) C dX11_readTest_12 rfl rfl 13 rfl ?_
  refine ww_callV0p C (c_X11_word l Γ (q := q) (I := flI I r 0 fp) (t := t) h18 hu hTk hby) mi_X11_word im_X11_word se_X11_word ml_X11_156 dX11_readTest_13 0 rfl rfl rfl (Nat.le_of_ble_eq_true rfl) (Nat.le_of_ble_eq_true rfl) (Nat.le_of_ble_eq_true rfl) ⟨Nat.zero_le _, Nat.zero_le _⟩ [0, 1] rfl (by decide) 16 rfl ?_
  have hcs : kp T A t = 6711655 ∨ kp T A t = 1935764837 ∨ kp T A t = 1885434739 ∨ kp T A t = 1702258030 ∨ (¬ kp T A t = 6711655 ∧ ¬ kp T A t = 1935764837 ∧ ¬ kp T A t = 1885434739 ∧ ¬ kp T A t = 1702258030) := by
    by_cases a1 : kp T A t = 6711655
    · exact Or.inl a1
    by_cases a2 : kp T A t = 1935764837
    · exact Or.inr (Or.inl a2)
    by_cases a3 : kp T A t = 1885434739
    · exact Or.inr (Or.inr (Or.inl a3))
    by_cases a4 : kp T A t = 1702258030
    · exact Or.inr (Or.inr (Or.inr (Or.inl a4)))
    exact Or.inr (Or.inr (Or.inr (Or.inr ⟨a1, a2, a3, a4⟩)))
  rcases hcs with hw | hw | hw | hw | hw
  · skip
    have hl0 := kp_lt2 hw (by decide)
    have hb9 : b9 (kp T A) (nv T A) t = nv T A (t + 3) := if_pos hw
    refine ww_lstore_n (i := 3) C dX11_readTest_16 rfl (by decide) rfl 17 rfl ?_
    refine ww_lload_n (i := 3) C dX11_readTest_17 rfl rfl 18 rfl ?_
    refine ww_ldc2 C cn_X11_160 dX11_readTest_18 21 rfl ?_
    refine ww_lcmp C dX11_readTest_21 22 rfl ?_
    refine ww_if_ne C 29 dX11_readTest_22 (by decide) 25 rfl (fun h_22 => ?_) (fun h_22 => ?_)
    · exact absurd ((wdk hTk (t) (W := 6711655) rfl rfl (by decide) (by decide)).mpr hw) h_22
    · skip
      refine ww_iconst (v := 1) C dX11_readTest_25 (by decide) 26 rfl ?_
      refine ww_goto C 66 dX11_readTest_26 (by decide) ?_
      refine ww_istore C dX11_readTest_66 (by decide) rfl 68 rfl ?_
      refine ww_aload_n (i := 0) C dX11_readTest_68 rfl rfl 69 rfl ?_
      refine ww_iload C dX11_readTest_69 rfl 71 rfl ?_
      refine ww_if_le C 78 dX11_readTest_71 (by decide) 74 rfl (fun h_71 => ?_) (fun h_71 => ?_)
      · exact absurd h_71 (by decide)
      · skip
        refine ww_iconst (v := 1) C dX11_readTest_74 (by decide) 75 rfl ?_
        refine ww_goto C 79 dX11_readTest_75 (by decide) ?_
        refine ww_callV1v C (c_X11_need_ok l Γ (q := q) (I := flI I r 0 fp) (t := t) h18 hu hTk hby hl0 rfl (by decide)) mi_X11_need im_X11_need se_X11_need ml_X11_149 dX11_readTest_79 0 rfl rfl rfl (Nat.le_of_ble_eq_true rfl) (Nat.le_of_ble_eq_true rfl) (Nat.le_of_ble_eq_true rfl) ⟨Nat.zero_le _, Nat.zero_le _⟩ [0, 1] rfl (by decide) rfl 82 rfl ?_
        refine ww_eq (ws' := [wMo hm q (tokI (flI I r (0) (fp)) T u st ln (A 2) (t + 1)), (q 15, .inl (Γ.2.1, 400, .inl tp)), (q 13, .inl (Γ.2.1, 180, .inl (rt)))]) rfl rfl rfl ?_
        refine ww_aload_n (i := 0) C dX11_readTest_82 rfl rfl 83 rfl ?_
        refine ww_get C fe_X11_137 dX11_readTest_83 0 rfl rfl 86 rfl ?_
        refine ww_if_le C 90 dX11_readTest_86 (by decide) 89 rfl (fun h_86 => ?_) (fun h_86 => ?_)
        · skip
          refine ww_aload_n (i := 0) C dX11_readTest_90 rfl rfl 91 rfl ?_
          refine ww_get C fe_X11_34 dX11_readTest_91 0 rfl rfl 94 rfl ?_
          refine ww_iload_n (i := 2) C dX11_readTest_94 rfl rfl 95 rfl ?_
          refine ww_iload C dX11_readTest_95 rfl 97 rfl ?_
          refine ww_iast C dX11_readTest_97 2 rfl (vp_in_nI (by omega) (by decide)) 98 rfl ?_
          rw [ic0]
          refine ww_eq (ws' := [wMo hm q (tokI (flI I r (0) (fp)) T u st ln (A 2) (t + 1)), (q 15, .inl (Γ.2.1, 400, .inl tp)), (q 13, .inl (Γ.2.1, 180, .inl (upd rt (12 * r + 3 * n) 1)))]) rfl rfl rfl ?_
          refine ww_aload_n (i := 0) C dX11_readTest_98 rfl rfl 99 rfl ?_
          refine ww_get C fe_X11_34 dX11_readTest_99 0 rfl rfl 102 rfl ?_
          refine ww_iload_n (i := 2) C dX11_readTest_102 rfl rfl 103 rfl ?_
          refine ww_iconst (v := 1) C dX11_readTest_103 (by decide) 104 rfl ?_
          refine ww_iadd C dX11_readTest_104 105 rfl ?_
          refine ww_iload C dX11_readTest_105 rfl 107 rfl ?_
          refine ww_iconst (v := 3) C dX11_readTest_107 (by decide) 108 rfl ?_
          refine ww_icmp_ne C 121 dX11_readTest_108 (by decide) 111 rfl (fun h_108 => ?_) (fun h_108 => ?_)
          · skip
            refine ww_aload_n (i := 0) C dX11_readTest_121 rfl rfl 122 rfl ?_
            refine ww_iconst (v := 0) C dX11_readTest_122 (by decide) 123 rfl ?_
            refine ww_bipush (v := 15) C dX11_readTest_123 (by decide) 125 rfl ?_
            by_cases hg1 : gN (kp T A) (nv T A) (t + 1) 0 15 = 0
            · skip
              have hl1 := kp_lt2 (gN_k hg1).1 (by decide)
              refine ww_callV2 C (c_X11_num_ok l Γ (q := q) (I := flI I r 0 fp) (t := t + 1) h18 hu hTk hby rfl hg1) mi_X11_numberIn im_X11_numberIn se_X11_numberIn ml_X11_168 dX11_readTest_125 0 rfl rfl rfl (Nat.le_of_ble_eq_true rfl) (Nat.le_of_ble_eq_true rfl) (Nat.le_of_ble_eq_true rfl) ⟨Nat.zero_le _, Nat.zero_le _⟩ [0, 1] rfl (by decide) rfl 128 rfl ?_
              refine ww_eq (ws' := [wMo hm q (tokI (flI I r (0) (fp)) T u st ln (A 2) (t + 2)), (q 15, .inl (Γ.2.1, 400, .inl tp)), (q 13, .inl (Γ.2.1, 180, .inl (upd rt (12 * r + 3 * n) 1)))]) rfl rfl rfl ?_
              refine ww_iast C dX11_readTest_128 2 rfl (by rw [ix1]; exact (vp_in_nI (by omega) (by decide))) 129 rfl ?_
              rw [ic1]
              refine ww_eq (ws' := [wMo hm q (tokI (flI I r (0) (fp)) T u st ln (A 2) (t + 2)), (q 15, .inl (Γ.2.1, 400, .inl tp)), (q 13, .inl (Γ.2.1, 180, .inl (upd (upd rt (12 * r + 3 * n) 1) (12 * r + 3 * n + 1) (nv T A (t + 1)))))]) rfl rfl rfl ?_
              refine ww_iload C dX11_readTest_129 rfl 131 rfl ?_
              refine ww_iconst (v := 1) C dX11_readTest_131 (by decide) 132 rfl ?_
              refine ww_icmp_ne C 155 dX11_readTest_132 (by decide) 135 rfl (fun h_132 => ?_) (fun h_132 => ?_)
              · exact absurd h_132 (by decide)
              · skip
                refine ww_aload_n (i := 0) C dX11_readTest_135 rfl rfl 136 rfl ?_
                refine ww_aload_n (i := 0) C dX11_readTest_136 rfl rfl 137 rfl ?_
                refine ww_callV0p C (c_X11_word l Γ (q := q) (I := flI I r 0 fp) (t := t + 2) h18 hu hTk hby) mi_X11_word im_X11_word se_X11_word ml_X11_156 dX11_readTest_137 0 rfl rfl rfl (Nat.le_of_ble_eq_true rfl) (Nat.le_of_ble_eq_true rfl) (Nat.le_of_ble_eq_true rfl) ⟨Nat.zero_le _, Nat.zero_le _⟩ [0, 1] rfl (by decide) 140 rfl ?_
                by_cases hg2 : kp T A (t + 2) = 24948
                · skip
                  have hl2 := kp_lt2 hg2 (by decide)
                  refine ww_ldc2 C cn_X11_172 dX11_readTest_140 143 rfl ?_
                  refine ww_lcmp C dX11_readTest_143 144 rfl ?_
                  refine ww_if_ne C 151 dX11_readTest_144 (by decide) 147 rfl (fun h_144 => ?_) (fun h_144 => ?_)
                  · exact absurd ((wdk hTk (t + 2) (W := 24948) rfl rfl (by decide) (by decide)).mpr hg2) h_144
                  · skip
                    refine ww_iconst (v := 1) C dX11_readTest_147 (by decide) 148 rfl ?_
                    refine ww_goto C 152 dX11_readTest_148 (by decide) ?_
                    refine ww_callV1v C (c_X11_need_ok l Γ (q := q) (I := flI I r 0 fp) (t := t + 2) h18 hu hTk hby hl2 rfl (by decide)) mi_X11_need im_X11_need se_X11_need ml_X11_149 dX11_readTest_152 0 rfl rfl rfl (Nat.le_of_ble_eq_true rfl) (Nat.le_of_ble_eq_true rfl) (Nat.le_of_ble_eq_true rfl) ⟨Nat.zero_le _, Nat.zero_le _⟩ [0, 1] rfl (by decide) rfl 155 rfl ?_
                    refine ww_eq (ws' := [wMo hm q (tokI (flI I r (0) (fp)) T u st ln (A 2) (t + 3)), (q 15, .inl (Γ.2.1, 400, .inl tp)), (q 13, .inl (Γ.2.1, 180, .inl (upd (upd rt (12 * r + 3 * n) 1) (12 * r + 3 * n + 1) (nv T A (t + 1)))))]) rfl rfl rfl ?_
                    refine ww_aload_n (i := 0) C dX11_readTest_155 rfl rfl 156 rfl ?_
                    refine ww_get C fe_X11_34 dX11_readTest_156 0 rfl rfl 159 rfl ?_
                    refine ww_iload_n (i := 2) C dX11_readTest_159 rfl rfl 160 rfl ?_
                    refine ww_iconst (v := 2) C dX11_readTest_160 (by decide) 161 rfl ?_
                    refine ww_iadd C dX11_readTest_161 162 rfl ?_
                    refine ww_iload C dX11_readTest_162 rfl 164 rfl ?_
                    refine ww_iconst (v := 1) C dX11_readTest_164 (by decide) 165 rfl ?_
                    refine ww_icmp_eq C 174 dX11_readTest_165 (by decide) 168 rfl (fun h_165 => ?_) (fun h_165 => ?_)
                    · skip
                      refine ww_aload_n (i := 0) C dX11_readTest_174 rfl rfl 175 rfl ?_
                      refine ww_iconst (v := 0) C dX11_readTest_175 (by decide) 176 rfl ?_
                      refine ww_bipush (v := 15) C dX11_readTest_176 (by decide) 178 rfl ?_
                      by_cases hg3 : gN (kp T A) (nv T A) (t + 3) 0 15 = 0
                      · skip
                        have hl3 := kp_lt2 (gN_k hg3).1 (by decide)
                        refine ww_callV2 C (c_X11_num_ok l Γ (q := q) (I := flI I r 0 fp) (t := t + 3) h18 hu hTk hby rfl hg3) mi_X11_numberIn im_X11_numberIn se_X11_numberIn ml_X11_168 dX11_readTest_178 0 rfl rfl rfl (Nat.le_of_ble_eq_true rfl) (Nat.le_of_ble_eq_true rfl) (Nat.le_of_ble_eq_true rfl) ⟨Nat.zero_le _, Nat.zero_le _⟩ [0, 1] rfl (by decide) rfl 181 rfl ?_
                        refine ww_eq (ws' := [wMo hm q (tokI (flI I r (0) (fp)) T u st ln (A 2) (t + 3 + 1)), (q 15, .inl (Γ.2.1, 400, .inl tp)), (q 13, .inl (Γ.2.1, 180, .inl (upd (upd rt (12 * r + 3 * n) 1) (12 * r + 3 * n + 1) (nv T A (t + 1)))))]) rfl rfl rfl ?_
                        refine ww_goto C 185 dX11_readTest_181 (by decide) ?_
                        refine ww_iast C dX11_readTest_185 2 rfl (by rw [ix2]; exact (vp_in_nI (by omega) (by decide))) 186 rfl ?_
                        rw [ic2]
                        exact ww_vreE C hr dX11_readTest_186 ((0, fp, upd (upd (upd rt (12 * r + 3 * n) 1) (12 * r + 3 * n + 1) (nv T A (t + 1))) (12 * r + 3 * n + 2) (nv T A (t + 3)))) (MtQ_ok (by rw [gT, if_pos hw, if_neg (fun q => q hg1), if_neg (fun q => q hg2), if_neg (fun q => q hg3)]) (by omega) (by rw [hb9, hw]; rfl)) rfl (by rw [show gT (kp T A) (nv T A) t = (0, t + 4) from (by rw [gT, if_pos hw, if_neg (fun q => q hg1), if_neg (fun q => q hg2), if_neg (fun q => q hg3)])]; rfl)
                      · skip
                        refine ww_callV2 C (c_X11_num_no l Γ (q := q) (I := flI I r 0 fp) (t := t + 3) h18 hu hTk hby rfl hg3) mi_X11_numberIn im_X11_numberIn se_X11_numberIn ml_X11_168 dX11_readTest_178 0 rfl rfl rfl (Nat.le_of_ble_eq_true rfl) (Nat.le_of_ble_eq_true rfl) (Nat.le_of_ble_eq_true rfl) ⟨Nat.zero_le _, Nat.zero_le _⟩ [0, 1] rfl (by decide) rfl 181 rfl ?_
                        refine ww_eq (ws' := [wMo hm q (tokI (flI I r (gN (kp T A) (nv T A) (t + 3) 0 15) ((nI (sa T u st (t + 3))))) T u st ln (A 2) (t + 3)), (q 15, .inl (Γ.2.1, 400, .inl tp)), (q 13, .inl (Γ.2.1, 180, .inl (upd (upd rt (12 * r + 3 * n) 1) (12 * r + 3 * n + 1) (nv T A (t + 1)))))]) rfl rfl rfl ?_
                        refine ww_goto C 185 dX11_readTest_181 (by decide) ?_
                        refine ww_iast C dX11_readTest_185 2 rfl (by rw [ix2]; exact (vp_in_nI (by omega) (by decide))) 186 rfl ?_
                        exact ww_vreE C hr dX11_readTest_186 ((gN (kp T A) (nv T A) (t + 3) 0 15, (nI (sa T u st (t + 3))), _)) (MtQ_no (by rw [gT, if_pos hw, if_neg (fun q => q hg1), if_neg (fun q => q hg2), if_pos hg3]) hg3 (by omega)) rfl (by rw [show gT (kp T A) (nv T A) t = (gN (kp T A) (nv T A) (t + 3) 0 15, t + 3) from (by rw [gT, if_pos hw, if_neg (fun q => q hg1), if_neg (fun q => q hg2), if_pos hg3])]; rfl)
                    · exact absurd h_165 (by decide)
                · skip
                  refine ww_ldc2 C cn_X11_172 dX11_readTest_140 143 rfl ?_
                  refine ww_lcmp C dX11_readTest_143 144 rfl ?_
                  refine ww_if_ne C 151 dX11_readTest_144 (by decide) 147 rfl (fun h_144 => ?_) (fun h_144 => ?_)
                  · skip
                    refine ww_iconst (v := 0) C dX11_readTest_151 (by decide) 152 rfl ?_
                    refine ww_callV1v C (c_X11_need_no l Γ (q := q) (I := tokI (flI I r (0) (fp)) T u st ln (A 2) (t + 2)) rfl) mi_X11_need im_X11_need se_X11_need ml_X11_149 dX11_readTest_152 0 rfl rfl rfl (Nat.le_of_ble_eq_true rfl) (Nat.le_of_ble_eq_true rfl) (Nat.le_of_ble_eq_true rfl) ⟨Nat.zero_le _, Nat.zero_le _⟩ [0] rfl (by decide) rfl 155 rfl ?_
                    refine ww_eq (ws' := [wMo hm q (tokI (flI I r (1) ((nI (sa T u st (t + 2))))) T u st ln (A 2) (t + 2)), (q 15, .inl (Γ.2.1, 400, .inl tp)), (q 13, .inl (Γ.2.1, 180, .inl (upd (upd rt (12 * r + 3 * n) 1) (12 * r + 3 * n + 1) (nv T A (t + 1)))))]) rfl rfl rfl ?_
                    refine ww_aload_n (i := 0) C dX11_readTest_155 rfl rfl 156 rfl ?_
                    refine ww_get C fe_X11_34 dX11_readTest_156 0 rfl rfl 159 rfl ?_
                    refine ww_iload_n (i := 2) C dX11_readTest_159 rfl rfl 160 rfl ?_
                    refine ww_iconst (v := 2) C dX11_readTest_160 (by decide) 161 rfl ?_
                    refine ww_iadd C dX11_readTest_161 162 rfl ?_
                    refine ww_iload C dX11_readTest_162 rfl 164 rfl ?_
                    refine ww_iconst (v := 1) C dX11_readTest_164 (by decide) 165 rfl ?_
                    refine ww_icmp_eq C 174 dX11_readTest_165 (by decide) 168 rfl (fun h_165 => ?_) (fun h_165 => ?_)
                    · skip
                      refine ww_aload_n (i := 0) C dX11_readTest_174 rfl rfl 175 rfl ?_
                      refine ww_iconst (v := 0) C dX11_readTest_175 (by decide) 176 rfl ?_
                      refine ww_bipush (v := 15) C dX11_readTest_176 (by decide) 178 rfl ?_
                      refine ww_callV2p C (c_X11_num_f l Γ (q := q) (I := flI I r (1) (nI (sa T u st (t + 2)))) (t := t + 2) h18 hu hTk hby (show ¬ (1 : Int32) = 0 by decide)) mi_X11_numberIn im_X11_numberIn se_X11_numberIn ml_X11_168 dX11_readTest_178 0 rfl rfl rfl (Nat.le_of_ble_eq_true rfl) (Nat.le_of_ble_eq_true rfl) (Nat.le_of_ble_eq_true rfl) ⟨Nat.zero_le _, Nat.zero_le _⟩ [0, 1] rfl (by decide) 181 rfl ?_
                      refine ww_goto C 185 dX11_readTest_181 (by decide) ?_
                      refine ww_iast C dX11_readTest_185 2 rfl (by rw [ix2]; exact (vp_in_nI (by omega) (by decide))) 186 rfl ?_
                      exact ww_vreE C hr dX11_readTest_186 ((1, (nI (sa T u st (t + 2))), _)) (MtQ_no (by rw [gT, if_pos hw, if_neg (fun q => q hg1), if_pos hg2]) (show ¬ (1 : Int32) = 0 by decide) (by omega)) rfl (by rw [show gT (kp T A) (nv T A) t = (1, t + 2) from (by rw [gT, if_pos hw, if_neg (fun q => q hg1), if_pos hg2])]; rfl)
                    · exact absurd h_165 (by decide)
                  · exact absurd ((wdk hTk (t + 2) (W := 24948) rfl rfl (by decide) (by decide)).mp h_144) hg2
            · skip
              refine ww_callV2 C (c_X11_num_no l Γ (q := q) (I := flI I r 0 fp) (t := t + 1) h18 hu hTk hby rfl hg1) mi_X11_numberIn im_X11_numberIn se_X11_numberIn ml_X11_168 dX11_readTest_125 0 rfl rfl rfl (Nat.le_of_ble_eq_true rfl) (Nat.le_of_ble_eq_true rfl) (Nat.le_of_ble_eq_true rfl) ⟨Nat.zero_le _, Nat.zero_le _⟩ [0, 1] rfl (by decide) rfl 128 rfl ?_
              refine ww_eq (ws' := [wMo hm q (tokI (flI I r (gN (kp T A) (nv T A) (t + 1) 0 15) ((nI (sa T u st (t + 1))))) T u st ln (A 2) (t + 1)), (q 15, .inl (Γ.2.1, 400, .inl tp)), (q 13, .inl (Γ.2.1, 180, .inl (upd rt (12 * r + 3 * n) 1)))]) rfl rfl rfl ?_
              refine ww_iast C dX11_readTest_128 2 rfl (by rw [ix1]; exact (vp_in_nI (by omega) (by decide))) 129 rfl ?_
              refine ww_iload C dX11_readTest_129 rfl 131 rfl ?_
              refine ww_iconst (v := 1) C dX11_readTest_131 (by decide) 132 rfl ?_
              refine ww_icmp_ne C 155 dX11_readTest_132 (by decide) 135 rfl (fun h_132 => ?_) (fun h_132 => ?_)
              · exact absurd h_132 (by decide)
              · skip
                refine ww_aload_n (i := 0) C dX11_readTest_135 rfl rfl 136 rfl ?_
                refine ww_aload_n (i := 0) C dX11_readTest_136 rfl rfl 137 rfl ?_
                refine ww_callV0p C (c_X11_word l Γ (q := q) (I := flI I r (gN (kp T A) (nv T A) (t + 1) 0 15) (nI (sa T u st (t + 1)))) (t := t + 1) h18 hu hTk hby) mi_X11_word im_X11_word se_X11_word ml_X11_156 dX11_readTest_137 0 rfl rfl rfl (Nat.le_of_ble_eq_true rfl) (Nat.le_of_ble_eq_true rfl) (Nat.le_of_ble_eq_true rfl) ⟨Nat.zero_le _, Nat.zero_le _⟩ [0, 1] rfl (by decide) 140 rfl ?_
                refine ww_ldc2 C cn_X11_172 dX11_readTest_140 143 rfl ?_
                refine ww_lcmp C dX11_readTest_143 144 rfl ?_
                refine ww_if_ne C 151 dX11_readTest_144 (by decide) 147 rfl (fun h_144 => ?_) (fun h_144 => ?_)
                · skip
                  refine ww_iconst (v := 0) C dX11_readTest_151 (by decide) 152 rfl ?_
                  refine ww_callV1vp C (c_X11_need_f l Γ (q := q) (I := tokI (flI I r (gN (kp T A) (nv T A) (t + 1) 0 15) ((nI (sa T u st (t + 1))))) T u st ln (A 2) (t + 1)) hg1) mi_X11_need im_X11_need se_X11_need ml_X11_149 dX11_readTest_152 0 rfl rfl rfl (Nat.le_of_ble_eq_true rfl) (Nat.le_of_ble_eq_true rfl) (Nat.le_of_ble_eq_true rfl) ⟨Nat.zero_le _, Nat.zero_le _⟩ [0] rfl (by decide) 155 rfl ?_
                  refine ww_aload_n (i := 0) C dX11_readTest_155 rfl rfl 156 rfl ?_
                  refine ww_get C fe_X11_34 dX11_readTest_156 0 rfl rfl 159 rfl ?_
                  refine ww_iload_n (i := 2) C dX11_readTest_159 rfl rfl 160 rfl ?_
                  refine ww_iconst (v := 2) C dX11_readTest_160 (by decide) 161 rfl ?_
                  refine ww_iadd C dX11_readTest_161 162 rfl ?_
                  refine ww_iload C dX11_readTest_162 rfl 164 rfl ?_
                  refine ww_iconst (v := 1) C dX11_readTest_164 (by decide) 165 rfl ?_
                  refine ww_icmp_eq C 174 dX11_readTest_165 (by decide) 168 rfl (fun h_165 => ?_) (fun h_165 => ?_)
                  · skip
                    refine ww_aload_n (i := 0) C dX11_readTest_174 rfl rfl 175 rfl ?_
                    refine ww_iconst (v := 0) C dX11_readTest_175 (by decide) 176 rfl ?_
                    refine ww_bipush (v := 15) C dX11_readTest_176 (by decide) 178 rfl ?_
                    refine ww_callV2p C (c_X11_num_f l Γ (q := q) (I := flI I r (gN (kp T A) (nv T A) (t + 1) 0 15) (nI (sa T u st (t + 1)))) (t := t + 1) h18 hu hTk hby hg1) mi_X11_numberIn im_X11_numberIn se_X11_numberIn ml_X11_168 dX11_readTest_178 0 rfl rfl rfl (Nat.le_of_ble_eq_true rfl) (Nat.le_of_ble_eq_true rfl) (Nat.le_of_ble_eq_true rfl) ⟨Nat.zero_le _, Nat.zero_le _⟩ [0, 1] rfl (by decide) 181 rfl ?_
                    refine ww_goto C 185 dX11_readTest_181 (by decide) ?_
                    refine ww_iast C dX11_readTest_185 2 rfl (by rw [ix2]; exact (vp_in_nI (by omega) (by decide))) 186 rfl ?_
                    exact ww_vreE C hr dX11_readTest_186 ((gN (kp T A) (nv T A) (t + 1) 0 15, (nI (sa T u st (t + 1))), _)) (MtQ_no (by rw [gT, if_pos hw, if_pos hg1]) hg1 (by omega)) rfl (by rw [show gT (kp T A) (nv T A) t = (gN (kp T A) (nv T A) (t + 1) 0 15, t + 1) from (by rw [gT, if_pos hw, if_pos hg1])]; rfl)
                  · exact absurd h_165 (by decide)
                · skip
                  refine ww_iconst (v := 1) C dX11_readTest_147 (by decide) 148 rfl ?_
                  refine ww_goto C 152 dX11_readTest_148 (by decide) ?_
                  refine ww_callV1vp C (c_X11_need_f l Γ (q := q) (I := tokI (flI I r (gN (kp T A) (nv T A) (t + 1) 0 15) ((nI (sa T u st (t + 1))))) T u st ln (A 2) (t + 1)) hg1) mi_X11_need im_X11_need se_X11_need ml_X11_149 dX11_readTest_152 0 rfl rfl rfl (Nat.le_of_ble_eq_true rfl) (Nat.le_of_ble_eq_true rfl) (Nat.le_of_ble_eq_true rfl) ⟨Nat.zero_le _, Nat.zero_le _⟩ [0] rfl (by decide) 155 rfl ?_
                  refine ww_aload_n (i := 0) C dX11_readTest_155 rfl rfl 156 rfl ?_
                  refine ww_get C fe_X11_34 dX11_readTest_156 0 rfl rfl 159 rfl ?_
                  refine ww_iload_n (i := 2) C dX11_readTest_159 rfl rfl 160 rfl ?_
                  refine ww_iconst (v := 2) C dX11_readTest_160 (by decide) 161 rfl ?_
                  refine ww_iadd C dX11_readTest_161 162 rfl ?_
                  refine ww_iload C dX11_readTest_162 rfl 164 rfl ?_
                  refine ww_iconst (v := 1) C dX11_readTest_164 (by decide) 165 rfl ?_
                  refine ww_icmp_eq C 174 dX11_readTest_165 (by decide) 168 rfl (fun h_165 => ?_) (fun h_165 => ?_)
                  · skip
                    refine ww_aload_n (i := 0) C dX11_readTest_174 rfl rfl 175 rfl ?_
                    refine ww_iconst (v := 0) C dX11_readTest_175 (by decide) 176 rfl ?_
                    refine ww_bipush (v := 15) C dX11_readTest_176 (by decide) 178 rfl ?_
                    refine ww_callV2p C (c_X11_num_f l Γ (q := q) (I := flI I r (gN (kp T A) (nv T A) (t + 1) 0 15) (nI (sa T u st (t + 1)))) (t := t + 1) h18 hu hTk hby hg1) mi_X11_numberIn im_X11_numberIn se_X11_numberIn ml_X11_168 dX11_readTest_178 0 rfl rfl rfl (Nat.le_of_ble_eq_true rfl) (Nat.le_of_ble_eq_true rfl) (Nat.le_of_ble_eq_true rfl) ⟨Nat.zero_le _, Nat.zero_le _⟩ [0, 1] rfl (by decide) 181 rfl ?_
                    refine ww_goto C 185 dX11_readTest_181 (by decide) ?_
                    refine ww_iast C dX11_readTest_185 2 rfl (by rw [ix2]; exact (vp_in_nI (by omega) (by decide))) 186 rfl ?_
                    exact ww_vreE C hr dX11_readTest_186 ((gN (kp T A) (nv T A) (t + 1) 0 15, (nI (sa T u st (t + 1))), _)) (MtQ_no (by rw [gT, if_pos hw, if_pos hg1]) hg1 (by omega)) rfl (by rw [show gT (kp T A) (nv T A) t = (gN (kp T A) (nv T A) (t + 1) 0 15, t + 1) from (by rw [gT, if_pos hw, if_pos hg1])]; rfl)
                  · exact absurd h_165 (by decide)
          · exact absurd h_108 (by decide)
        · exact absurd (show (0 : Int32) ≤ 0 by decide) h_86
  · skip
    have hl0 := kp_lt2 hw (by decide)
    have hb9 : b9 (kp T A) (nv T A) t = nv T A (t + 2) := (if_neg (fun q => absurd (hw.symm.trans q) (by decide))).trans (if_pos hw)
    refine ww_lstore_n (i := 3) C dX11_readTest_16 rfl (by decide) rfl 17 rfl ?_
    refine ww_lload_n (i := 3) C dX11_readTest_17 rfl rfl 18 rfl ?_
    refine ww_ldc2 C cn_X11_160 dX11_readTest_18 21 rfl ?_
    refine ww_lcmp C dX11_readTest_21 22 rfl ?_
    refine ww_if_ne C 29 dX11_readTest_22 (by decide) 25 rfl (fun h_22 => ?_) (fun h_22 => ?_)
    · skip
      refine ww_lload_n (i := 3) C dX11_readTest_29 rfl rfl 30 rfl ?_
      refine ww_ldc2 C cn_X11_162 dX11_readTest_30 33 rfl ?_
      refine ww_lcmp C dX11_readTest_33 34 rfl ?_
      refine ww_if_ne C 41 dX11_readTest_34 (by decide) 37 rfl (fun h_34 => ?_) (fun h_34 => ?_)
      · exact absurd ((wdk hTk (t) (W := 1935764837) rfl rfl (by decide) (by decide)).mpr hw) h_34
      · skip
        refine ww_iconst (v := 2) C dX11_readTest_37 (by decide) 38 rfl ?_
        refine ww_goto C 66 dX11_readTest_38 (by decide) ?_
        refine ww_istore C dX11_readTest_66 (by decide) rfl 68 rfl ?_
        refine ww_aload_n (i := 0) C dX11_readTest_68 rfl rfl 69 rfl ?_
        refine ww_iload C dX11_readTest_69 rfl 71 rfl ?_
        refine ww_if_le C 78 dX11_readTest_71 (by decide) 74 rfl (fun h_71 => ?_) (fun h_71 => ?_)
        · exact absurd h_71 (by decide)
        · skip
          refine ww_iconst (v := 1) C dX11_readTest_74 (by decide) 75 rfl ?_
          refine ww_goto C 79 dX11_readTest_75 (by decide) ?_
          refine ww_callV1v C (c_X11_need_ok l Γ (q := q) (I := flI I r 0 fp) (t := t) h18 hu hTk hby hl0 rfl (by decide)) mi_X11_need im_X11_need se_X11_need ml_X11_149 dX11_readTest_79 0 rfl rfl rfl (Nat.le_of_ble_eq_true rfl) (Nat.le_of_ble_eq_true rfl) (Nat.le_of_ble_eq_true rfl) ⟨Nat.zero_le _, Nat.zero_le _⟩ [0, 1] rfl (by decide) rfl 82 rfl ?_
          refine ww_eq (ws' := [wMo hm q (tokI (flI I r (0) (fp)) T u st ln (A 2) (t + 1)), (q 15, .inl (Γ.2.1, 400, .inl tp)), (q 13, .inl (Γ.2.1, 180, .inl (rt)))]) rfl rfl rfl ?_
          refine ww_aload_n (i := 0) C dX11_readTest_82 rfl rfl 83 rfl ?_
          refine ww_get C fe_X11_137 dX11_readTest_83 0 rfl rfl 86 rfl ?_
          refine ww_if_le C 90 dX11_readTest_86 (by decide) 89 rfl (fun h_86 => ?_) (fun h_86 => ?_)
          · skip
            refine ww_aload_n (i := 0) C dX11_readTest_90 rfl rfl 91 rfl ?_
            refine ww_get C fe_X11_34 dX11_readTest_91 0 rfl rfl 94 rfl ?_
            refine ww_iload_n (i := 2) C dX11_readTest_94 rfl rfl 95 rfl ?_
            refine ww_iload C dX11_readTest_95 rfl 97 rfl ?_
            refine ww_iast C dX11_readTest_97 2 rfl (vp_in_nI (by omega) (by decide)) 98 rfl ?_
            rw [ic0]
            refine ww_eq (ws' := [wMo hm q (tokI (flI I r (0) (fp)) T u st ln (A 2) (t + 1)), (q 15, .inl (Γ.2.1, 400, .inl tp)), (q 13, .inl (Γ.2.1, 180, .inl (upd rt (12 * r + 3 * n) 2)))]) rfl rfl rfl ?_
            refine ww_aload_n (i := 0) C dX11_readTest_98 rfl rfl 99 rfl ?_
            refine ww_get C fe_X11_34 dX11_readTest_99 0 rfl rfl 102 rfl ?_
            refine ww_iload_n (i := 2) C dX11_readTest_102 rfl rfl 103 rfl ?_
            refine ww_iconst (v := 1) C dX11_readTest_103 (by decide) 104 rfl ?_
            refine ww_iadd C dX11_readTest_104 105 rfl ?_
            refine ww_iload C dX11_readTest_105 rfl 107 rfl ?_
            refine ww_iconst (v := 3) C dX11_readTest_107 (by decide) 108 rfl ?_
            refine ww_icmp_ne C 121 dX11_readTest_108 (by decide) 111 rfl (fun h_108 => ?_) (fun h_108 => ?_)
            · skip
              refine ww_aload_n (i := 0) C dX11_readTest_121 rfl rfl 122 rfl ?_
              refine ww_iconst (v := 0) C dX11_readTest_122 (by decide) 123 rfl ?_
              refine ww_bipush (v := 15) C dX11_readTest_123 (by decide) 125 rfl ?_
              by_cases hg1 : gN (kp T A) (nv T A) (t + 1) 0 15 = 0
              · skip
                have hl1 := kp_lt2 (gN_k hg1).1 (by decide)
                refine ww_callV2 C (c_X11_num_ok l Γ (q := q) (I := flI I r 0 fp) (t := t + 1) h18 hu hTk hby rfl hg1) mi_X11_numberIn im_X11_numberIn se_X11_numberIn ml_X11_168 dX11_readTest_125 0 rfl rfl rfl (Nat.le_of_ble_eq_true rfl) (Nat.le_of_ble_eq_true rfl) (Nat.le_of_ble_eq_true rfl) ⟨Nat.zero_le _, Nat.zero_le _⟩ [0, 1] rfl (by decide) rfl 128 rfl ?_
                refine ww_eq (ws' := [wMo hm q (tokI (flI I r (0) (fp)) T u st ln (A 2) (t + 2)), (q 15, .inl (Γ.2.1, 400, .inl tp)), (q 13, .inl (Γ.2.1, 180, .inl (upd rt (12 * r + 3 * n) 2)))]) rfl rfl rfl ?_
                refine ww_iast C dX11_readTest_128 2 rfl (by rw [ix1]; exact (vp_in_nI (by omega) (by decide))) 129 rfl ?_
                rw [ic1]
                refine ww_eq (ws' := [wMo hm q (tokI (flI I r (0) (fp)) T u st ln (A 2) (t + 2)), (q 15, .inl (Γ.2.1, 400, .inl tp)), (q 13, .inl (Γ.2.1, 180, .inl (upd (upd rt (12 * r + 3 * n) 2) (12 * r + 3 * n + 1) (nv T A (t + 1)))))]) rfl rfl rfl ?_
                refine ww_iload C dX11_readTest_129 rfl 131 rfl ?_
                refine ww_iconst (v := 1) C dX11_readTest_131 (by decide) 132 rfl ?_
                refine ww_icmp_ne C 155 dX11_readTest_132 (by decide) 135 rfl (fun h_132 => ?_) (fun h_132 => ?_)
                · skip
                  refine ww_aload_n (i := 0) C dX11_readTest_155 rfl rfl 156 rfl ?_
                  refine ww_get C fe_X11_34 dX11_readTest_156 0 rfl rfl 159 rfl ?_
                  refine ww_iload_n (i := 2) C dX11_readTest_159 rfl rfl 160 rfl ?_
                  refine ww_iconst (v := 2) C dX11_readTest_160 (by decide) 161 rfl ?_
                  refine ww_iadd C dX11_readTest_161 162 rfl ?_
                  refine ww_iload C dX11_readTest_162 rfl 164 rfl ?_
                  refine ww_iconst (v := 1) C dX11_readTest_164 (by decide) 165 rfl ?_
                  refine ww_icmp_eq C 174 dX11_readTest_165 (by decide) 168 rfl (fun h_165 => ?_) (fun h_165 => ?_)
                  · exact absurd h_165 (by decide)
                  · skip
                    refine ww_iload C dX11_readTest_168 rfl 170 rfl ?_
                    refine ww_iconst (v := 2) C dX11_readTest_170 (by decide) 171 rfl ?_
                    refine ww_icmp_ne C 184 dX11_readTest_171 (by decide) 174 rfl (fun h_171 => ?_) (fun h_171 => ?_)
                    · exact absurd h_171 (by decide)
                    · skip
                      refine ww_aload_n (i := 0) C dX11_readTest_174 rfl rfl 175 rfl ?_
                      refine ww_iconst (v := 0) C dX11_readTest_175 (by decide) 176 rfl ?_
                      refine ww_bipush (v := 15) C dX11_readTest_176 (by decide) 178 rfl ?_
                      by_cases hg3 : gN (kp T A) (nv T A) (t + 2) 0 15 = 0
                      · skip
                        have hl3 := kp_lt2 (gN_k hg3).1 (by decide)
                        refine ww_callV2 C (c_X11_num_ok l Γ (q := q) (I := flI I r 0 fp) (t := t + 2) h18 hu hTk hby rfl hg3) mi_X11_numberIn im_X11_numberIn se_X11_numberIn ml_X11_168 dX11_readTest_178 0 rfl rfl rfl (Nat.le_of_ble_eq_true rfl) (Nat.le_of_ble_eq_true rfl) (Nat.le_of_ble_eq_true rfl) ⟨Nat.zero_le _, Nat.zero_le _⟩ [0, 1] rfl (by decide) rfl 181 rfl ?_
                        refine ww_eq (ws' := [wMo hm q (tokI (flI I r (0) (fp)) T u st ln (A 2) (t + 2 + 1)), (q 15, .inl (Γ.2.1, 400, .inl tp)), (q 13, .inl (Γ.2.1, 180, .inl (upd (upd rt (12 * r + 3 * n) 2) (12 * r + 3 * n + 1) (nv T A (t + 1)))))]) rfl rfl rfl ?_
                        refine ww_goto C 185 dX11_readTest_181 (by decide) ?_
                        refine ww_iast C dX11_readTest_185 2 rfl (by rw [ix2]; exact (vp_in_nI (by omega) (by decide))) 186 rfl ?_
                        rw [ic2]
                        exact ww_vreE C hr dX11_readTest_186 ((0, fp, upd (upd (upd rt (12 * r + 3 * n) 2) (12 * r + 3 * n + 1) (nv T A (t + 1))) (12 * r + 3 * n + 2) (nv T A (t + 2)))) (MtQ_ok (by rw [gT, if_neg (fun q => absurd (hw.symm.trans q) (by decide)), if_pos hw, if_neg (fun q => q hg1), if_neg (fun q => q hg3)]) (by omega) (by rw [hb9, hw]; rfl)) rfl (by rw [show gT (kp T A) (nv T A) t = (0, t + 3) from (by rw [gT, if_neg (fun q => absurd (hw.symm.trans q) (by decide)), if_pos hw, if_neg (fun q => q hg1), if_neg (fun q => q hg3)])]; rfl)
                      · skip
                        refine ww_callV2 C (c_X11_num_no l Γ (q := q) (I := flI I r 0 fp) (t := t + 2) h18 hu hTk hby rfl hg3) mi_X11_numberIn im_X11_numberIn se_X11_numberIn ml_X11_168 dX11_readTest_178 0 rfl rfl rfl (Nat.le_of_ble_eq_true rfl) (Nat.le_of_ble_eq_true rfl) (Nat.le_of_ble_eq_true rfl) ⟨Nat.zero_le _, Nat.zero_le _⟩ [0, 1] rfl (by decide) rfl 181 rfl ?_
                        refine ww_eq (ws' := [wMo hm q (tokI (flI I r (gN (kp T A) (nv T A) (t + 2) 0 15) ((nI (sa T u st (t + 2))))) T u st ln (A 2) (t + 2)), (q 15, .inl (Γ.2.1, 400, .inl tp)), (q 13, .inl (Γ.2.1, 180, .inl (upd (upd rt (12 * r + 3 * n) 2) (12 * r + 3 * n + 1) (nv T A (t + 1)))))]) rfl rfl rfl ?_
                        refine ww_goto C 185 dX11_readTest_181 (by decide) ?_
                        refine ww_iast C dX11_readTest_185 2 rfl (by rw [ix2]; exact (vp_in_nI (by omega) (by decide))) 186 rfl ?_
                        exact ww_vreE C hr dX11_readTest_186 ((gN (kp T A) (nv T A) (t + 2) 0 15, (nI (sa T u st (t + 2))), _)) (MtQ_no (by rw [gT, if_neg (fun q => absurd (hw.symm.trans q) (by decide)), if_pos hw, if_neg (fun q => q hg1), if_pos hg3]) hg3 (by omega)) rfl (by rw [show gT (kp T A) (nv T A) t = (gN (kp T A) (nv T A) (t + 2) 0 15, t + 2) from (by rw [gT, if_neg (fun q => absurd (hw.symm.trans q) (by decide)), if_pos hw, if_neg (fun q => q hg1), if_pos hg3])]; rfl)
                · exact absurd h_132 (by decide)
              · skip
                refine ww_callV2 C (c_X11_num_no l Γ (q := q) (I := flI I r 0 fp) (t := t + 1) h18 hu hTk hby rfl hg1) mi_X11_numberIn im_X11_numberIn se_X11_numberIn ml_X11_168 dX11_readTest_125 0 rfl rfl rfl (Nat.le_of_ble_eq_true rfl) (Nat.le_of_ble_eq_true rfl) (Nat.le_of_ble_eq_true rfl) ⟨Nat.zero_le _, Nat.zero_le _⟩ [0, 1] rfl (by decide) rfl 128 rfl ?_
                refine ww_eq (ws' := [wMo hm q (tokI (flI I r (gN (kp T A) (nv T A) (t + 1) 0 15) ((nI (sa T u st (t + 1))))) T u st ln (A 2) (t + 1)), (q 15, .inl (Γ.2.1, 400, .inl tp)), (q 13, .inl (Γ.2.1, 180, .inl (upd rt (12 * r + 3 * n) 2)))]) rfl rfl rfl ?_
                refine ww_iast C dX11_readTest_128 2 rfl (by rw [ix1]; exact (vp_in_nI (by omega) (by decide))) 129 rfl ?_
                refine ww_iload C dX11_readTest_129 rfl 131 rfl ?_
                refine ww_iconst (v := 1) C dX11_readTest_131 (by decide) 132 rfl ?_
                refine ww_icmp_ne C 155 dX11_readTest_132 (by decide) 135 rfl (fun h_132 => ?_) (fun h_132 => ?_)
                · skip
                  refine ww_aload_n (i := 0) C dX11_readTest_155 rfl rfl 156 rfl ?_
                  refine ww_get C fe_X11_34 dX11_readTest_156 0 rfl rfl 159 rfl ?_
                  refine ww_iload_n (i := 2) C dX11_readTest_159 rfl rfl 160 rfl ?_
                  refine ww_iconst (v := 2) C dX11_readTest_160 (by decide) 161 rfl ?_
                  refine ww_iadd C dX11_readTest_161 162 rfl ?_
                  refine ww_iload C dX11_readTest_162 rfl 164 rfl ?_
                  refine ww_iconst (v := 1) C dX11_readTest_164 (by decide) 165 rfl ?_
                  refine ww_icmp_eq C 174 dX11_readTest_165 (by decide) 168 rfl (fun h_165 => ?_) (fun h_165 => ?_)
                  · exact absurd h_165 (by decide)
                  · skip
                    refine ww_iload C dX11_readTest_168 rfl 170 rfl ?_
                    refine ww_iconst (v := 2) C dX11_readTest_170 (by decide) 171 rfl ?_
                    refine ww_icmp_ne C 184 dX11_readTest_171 (by decide) 174 rfl (fun h_171 => ?_) (fun h_171 => ?_)
                    · exact absurd h_171 (by decide)
                    · skip
                      refine ww_aload_n (i := 0) C dX11_readTest_174 rfl rfl 175 rfl ?_
                      refine ww_iconst (v := 0) C dX11_readTest_175 (by decide) 176 rfl ?_
                      refine ww_bipush (v := 15) C dX11_readTest_176 (by decide) 178 rfl ?_
                      refine ww_callV2p C (c_X11_num_f l Γ (q := q) (I := flI I r (gN (kp T A) (nv T A) (t + 1) 0 15) (nI (sa T u st (t + 1)))) (t := t + 1) h18 hu hTk hby hg1) mi_X11_numberIn im_X11_numberIn se_X11_numberIn ml_X11_168 dX11_readTest_178 0 rfl rfl rfl (Nat.le_of_ble_eq_true rfl) (Nat.le_of_ble_eq_true rfl) (Nat.le_of_ble_eq_true rfl) ⟨Nat.zero_le _, Nat.zero_le _⟩ [0, 1] rfl (by decide) 181 rfl ?_
                      refine ww_goto C 185 dX11_readTest_181 (by decide) ?_
                      refine ww_iast C dX11_readTest_185 2 rfl (by rw [ix2]; exact (vp_in_nI (by omega) (by decide))) 186 rfl ?_
                      exact ww_vreE C hr dX11_readTest_186 ((gN (kp T A) (nv T A) (t + 1) 0 15, (nI (sa T u st (t + 1))), _)) (MtQ_no (by rw [gT, if_neg (fun q => absurd (hw.symm.trans q) (by decide)), if_pos hw, if_pos hg1]) hg1 (by omega)) rfl (by rw [show gT (kp T A) (nv T A) t = (gN (kp T A) (nv T A) (t + 1) 0 15, t + 1) from (by rw [gT, if_neg (fun q => absurd (hw.symm.trans q) (by decide)), if_pos hw, if_pos hg1])]; rfl)
                · exact absurd h_132 (by decide)
            · exact absurd h_108 (by decide)
          · exact absurd (show (0 : Int32) ≤ 0 by decide) h_86
    · exact absurd (hw.symm.trans ((wdk hTk (t) (W := 6711655) rfl rfl (by decide) (by decide)).mp h_22)) (by decide)
  · skip
    have hl0 := kp_lt2 hw (by decide)
    have hb9 : b9 (kp T A) (nv T A) t = 0 := (if_neg (fun q => absurd (hw.symm.trans q) (by decide))).trans (if_neg (fun q => absurd (hw.symm.trans q) (by decide)))
    refine ww_lstore_n (i := 3) C dX11_readTest_16 rfl (by decide) rfl 17 rfl ?_
    refine ww_lload_n (i := 3) C dX11_readTest_17 rfl rfl 18 rfl ?_
    refine ww_ldc2 C cn_X11_160 dX11_readTest_18 21 rfl ?_
    refine ww_lcmp C dX11_readTest_21 22 rfl ?_
    refine ww_if_ne C 29 dX11_readTest_22 (by decide) 25 rfl (fun h_22 => ?_) (fun h_22 => ?_)
    · skip
      refine ww_lload_n (i := 3) C dX11_readTest_29 rfl rfl 30 rfl ?_
      refine ww_ldc2 C cn_X11_162 dX11_readTest_30 33 rfl ?_
      refine ww_lcmp C dX11_readTest_33 34 rfl ?_
      refine ww_if_ne C 41 dX11_readTest_34 (by decide) 37 rfl (fun h_34 => ?_) (fun h_34 => ?_)
      · skip
        refine ww_lload_n (i := 3) C dX11_readTest_41 rfl rfl 42 rfl ?_
        refine ww_ldc2 C cn_X11_164 dX11_readTest_42 45 rfl ?_
        refine ww_lcmp C dX11_readTest_45 46 rfl ?_
        refine ww_if_ne C 53 dX11_readTest_46 (by decide) 49 rfl (fun h_46 => ?_) (fun h_46 => ?_)
        · exact absurd ((wdk hTk (t) (W := 1885434739) rfl rfl (by decide) (by decide)).mpr hw) h_46
        · skip
          refine ww_iconst (v := 3) C dX11_readTest_49 (by decide) 50 rfl ?_
          refine ww_goto C 66 dX11_readTest_50 (by decide) ?_
          refine ww_istore C dX11_readTest_66 (by decide) rfl 68 rfl ?_
          refine ww_aload_n (i := 0) C dX11_readTest_68 rfl rfl 69 rfl ?_
          refine ww_iload C dX11_readTest_69 rfl 71 rfl ?_
          refine ww_if_le C 78 dX11_readTest_71 (by decide) 74 rfl (fun h_71 => ?_) (fun h_71 => ?_)
          · exact absurd h_71 (by decide)
          · skip
            refine ww_iconst (v := 1) C dX11_readTest_74 (by decide) 75 rfl ?_
            refine ww_goto C 79 dX11_readTest_75 (by decide) ?_
            refine ww_callV1v C (c_X11_need_ok l Γ (q := q) (I := flI I r 0 fp) (t := t) h18 hu hTk hby hl0 rfl (by decide)) mi_X11_need im_X11_need se_X11_need ml_X11_149 dX11_readTest_79 0 rfl rfl rfl (Nat.le_of_ble_eq_true rfl) (Nat.le_of_ble_eq_true rfl) (Nat.le_of_ble_eq_true rfl) ⟨Nat.zero_le _, Nat.zero_le _⟩ [0, 1] rfl (by decide) rfl 82 rfl ?_
            refine ww_eq (ws' := [wMo hm q (tokI (flI I r (0) (fp)) T u st ln (A 2) (t + 1)), (q 15, .inl (Γ.2.1, 400, .inl tp)), (q 13, .inl (Γ.2.1, 180, .inl (rt)))]) rfl rfl rfl ?_
            refine ww_aload_n (i := 0) C dX11_readTest_82 rfl rfl 83 rfl ?_
            refine ww_get C fe_X11_137 dX11_readTest_83 0 rfl rfl 86 rfl ?_
            refine ww_if_le C 90 dX11_readTest_86 (by decide) 89 rfl (fun h_86 => ?_) (fun h_86 => ?_)
            · skip
              refine ww_aload_n (i := 0) C dX11_readTest_90 rfl rfl 91 rfl ?_
              refine ww_get C fe_X11_34 dX11_readTest_91 0 rfl rfl 94 rfl ?_
              refine ww_iload_n (i := 2) C dX11_readTest_94 rfl rfl 95 rfl ?_
              refine ww_iload C dX11_readTest_95 rfl 97 rfl ?_
              refine ww_iast C dX11_readTest_97 2 rfl (vp_in_nI (by omega) (by decide)) 98 rfl ?_
              rw [ic0]
              refine ww_eq (ws' := [wMo hm q (tokI (flI I r (0) (fp)) T u st ln (A 2) (t + 1)), (q 15, .inl (Γ.2.1, 400, .inl tp)), (q 13, .inl (Γ.2.1, 180, .inl (upd rt (12 * r + 3 * n) 3)))]) rfl rfl rfl ?_
              refine ww_aload_n (i := 0) C dX11_readTest_98 rfl rfl 99 rfl ?_
              refine ww_get C fe_X11_34 dX11_readTest_99 0 rfl rfl 102 rfl ?_
              refine ww_iload_n (i := 2) C dX11_readTest_102 rfl rfl 103 rfl ?_
              refine ww_iconst (v := 1) C dX11_readTest_103 (by decide) 104 rfl ?_
              refine ww_iadd C dX11_readTest_104 105 rfl ?_
              refine ww_iload C dX11_readTest_105 rfl 107 rfl ?_
              refine ww_iconst (v := 3) C dX11_readTest_107 (by decide) 108 rfl ?_
              refine ww_icmp_ne C 121 dX11_readTest_108 (by decide) 111 rfl (fun h_108 => ?_) (fun h_108 => ?_)
              · exact absurd h_108 (by decide)
              · skip
                refine ww_aload_n (i := 0) C dX11_readTest_111 rfl rfl 112 rfl ?_
                refine ww_iconst (v := 1) C dX11_readTest_112 (by decide) 113 rfl ?_
                refine ww_bipush (v := 11) C dX11_readTest_113 (by decide) 115 rfl ?_
                by_cases hg1 : gN (kp T A) (nv T A) (t + 1) 1 11 = 0
                · skip
                  have hl1 := kp_lt2 (gN_k hg1).1 (by decide)
                  refine ww_callV2 C (c_X11_num_ok l Γ (q := q) (I := flI I r 0 fp) (t := t + 1) h18 hu hTk hby rfl hg1) mi_X11_numberIn im_X11_numberIn se_X11_numberIn ml_X11_168 dX11_readTest_115 0 rfl rfl rfl (Nat.le_of_ble_eq_true rfl) (Nat.le_of_ble_eq_true rfl) (Nat.le_of_ble_eq_true rfl) ⟨Nat.zero_le _, Nat.zero_le _⟩ [0, 1] rfl (by decide) rfl 118 rfl ?_
                  refine ww_eq (ws' := [wMo hm q (tokI (flI I r (0) (fp)) T u st ln (A 2) (t + 2)), (q 15, .inl (Γ.2.1, 400, .inl tp)), (q 13, .inl (Γ.2.1, 180, .inl (upd rt (12 * r + 3 * n) 3)))]) rfl rfl rfl ?_
                  refine ww_goto C 128 dX11_readTest_118 (by decide) ?_
                  refine ww_iast C dX11_readTest_128 2 rfl (by rw [ix1]; exact (vp_in_nI (by omega) (by decide))) 129 rfl ?_
                  rw [ic1]
                  refine ww_eq (ws' := [wMo hm q (tokI (flI I r (0) (fp)) T u st ln (A 2) (t + 2)), (q 15, .inl (Γ.2.1, 400, .inl tp)), (q 13, .inl (Γ.2.1, 180, .inl (upd (upd rt (12 * r + 3 * n) 3) (12 * r + 3 * n + 1) (nv T A (t + 1)))))]) rfl rfl rfl ?_
                  refine ww_iload C dX11_readTest_129 rfl 131 rfl ?_
                  refine ww_iconst (v := 1) C dX11_readTest_131 (by decide) 132 rfl ?_
                  refine ww_icmp_ne C 155 dX11_readTest_132 (by decide) 135 rfl (fun h_132 => ?_) (fun h_132 => ?_)
                  · skip
                    refine ww_aload_n (i := 0) C dX11_readTest_155 rfl rfl 156 rfl ?_
                    refine ww_get C fe_X11_34 dX11_readTest_156 0 rfl rfl 159 rfl ?_
                    refine ww_iload_n (i := 2) C dX11_readTest_159 rfl rfl 160 rfl ?_
                    refine ww_iconst (v := 2) C dX11_readTest_160 (by decide) 161 rfl ?_
                    refine ww_iadd C dX11_readTest_161 162 rfl ?_
                    refine ww_iload C dX11_readTest_162 rfl 164 rfl ?_
                    refine ww_iconst (v := 1) C dX11_readTest_164 (by decide) 165 rfl ?_
                    refine ww_icmp_eq C 174 dX11_readTest_165 (by decide) 168 rfl (fun h_165 => ?_) (fun h_165 => ?_)
                    · exact absurd h_165 (by decide)
                    · skip
                      refine ww_iload C dX11_readTest_168 rfl 170 rfl ?_
                      refine ww_iconst (v := 2) C dX11_readTest_170 (by decide) 171 rfl ?_
                      refine ww_icmp_ne C 184 dX11_readTest_171 (by decide) 174 rfl (fun h_171 => ?_) (fun h_171 => ?_)
                      · skip
                        refine ww_iconst (v := 0) C dX11_readTest_184 (by decide) 185 rfl ?_
                        refine ww_iast C dX11_readTest_185 2 rfl (by rw [ix2]; exact (vp_in_nI (by omega) (by decide))) 186 rfl ?_
                        rw [ic2]
                        exact ww_vreE C hr dX11_readTest_186 ((0, fp, upd (upd (upd rt (12 * r + 3 * n) 3) (12 * r + 3 * n + 1) (nv T A (t + 1))) (12 * r + 3 * n + 2) (0))) (MtQ_ok (by rw [gT, if_neg (fun q => absurd (hw.symm.trans q) (by decide)), if_neg (fun q => absurd (hw.symm.trans q) (by decide)), if_pos hw, if_neg (fun q => q hg1)]) (by omega) (by rw [hb9, hw]; rfl)) rfl (by rw [show gT (kp T A) (nv T A) t = (0, t + 2) from (by rw [gT, if_neg (fun q => absurd (hw.symm.trans q) (by decide)), if_neg (fun q => absurd (hw.symm.trans q) (by decide)), if_pos hw, if_neg (fun q => q hg1)])]; rfl)
                      · exact absurd h_171 (by decide)
                  · exact absurd h_132 (by decide)
                · skip
                  refine ww_callV2 C (c_X11_num_no l Γ (q := q) (I := flI I r 0 fp) (t := t + 1) h18 hu hTk hby rfl hg1) mi_X11_numberIn im_X11_numberIn se_X11_numberIn ml_X11_168 dX11_readTest_115 0 rfl rfl rfl (Nat.le_of_ble_eq_true rfl) (Nat.le_of_ble_eq_true rfl) (Nat.le_of_ble_eq_true rfl) ⟨Nat.zero_le _, Nat.zero_le _⟩ [0, 1] rfl (by decide) rfl 118 rfl ?_
                  refine ww_eq (ws' := [wMo hm q (tokI (flI I r (gN (kp T A) (nv T A) (t + 1) 1 11) ((nI (sa T u st (t + 1))))) T u st ln (A 2) (t + 1)), (q 15, .inl (Γ.2.1, 400, .inl tp)), (q 13, .inl (Γ.2.1, 180, .inl (upd rt (12 * r + 3 * n) 3)))]) rfl rfl rfl ?_
                  refine ww_goto C 128 dX11_readTest_118 (by decide) ?_
                  refine ww_iast C dX11_readTest_128 2 rfl (by rw [ix1]; exact (vp_in_nI (by omega) (by decide))) 129 rfl ?_
                  refine ww_iload C dX11_readTest_129 rfl 131 rfl ?_
                  refine ww_iconst (v := 1) C dX11_readTest_131 (by decide) 132 rfl ?_
                  refine ww_icmp_ne C 155 dX11_readTest_132 (by decide) 135 rfl (fun h_132 => ?_) (fun h_132 => ?_)
                  · skip
                    refine ww_aload_n (i := 0) C dX11_readTest_155 rfl rfl 156 rfl ?_
                    refine ww_get C fe_X11_34 dX11_readTest_156 0 rfl rfl 159 rfl ?_
                    refine ww_iload_n (i := 2) C dX11_readTest_159 rfl rfl 160 rfl ?_
                    refine ww_iconst (v := 2) C dX11_readTest_160 (by decide) 161 rfl ?_
                    refine ww_iadd C dX11_readTest_161 162 rfl ?_
                    refine ww_iload C dX11_readTest_162 rfl 164 rfl ?_
                    refine ww_iconst (v := 1) C dX11_readTest_164 (by decide) 165 rfl ?_
                    refine ww_icmp_eq C 174 dX11_readTest_165 (by decide) 168 rfl (fun h_165 => ?_) (fun h_165 => ?_)
                    · exact absurd h_165 (by decide)
                    · skip
                      refine ww_iload C dX11_readTest_168 rfl 170 rfl ?_
                      refine ww_iconst (v := 2) C dX11_readTest_170 (by decide) 171 rfl ?_
                      refine ww_icmp_ne C 184 dX11_readTest_171 (by decide) 174 rfl (fun h_171 => ?_) (fun h_171 => ?_)
                      · skip
                        refine ww_iconst (v := 0) C dX11_readTest_184 (by decide) 185 rfl ?_
                        refine ww_iast C dX11_readTest_185 2 rfl (by rw [ix2]; exact (vp_in_nI (by omega) (by decide))) 186 rfl ?_
                        exact ww_vreE C hr dX11_readTest_186 ((gN (kp T A) (nv T A) (t + 1) 1 11, (nI (sa T u st (t + 1))), _)) (MtQ_no (by rw [gT, if_neg (fun q => absurd (hw.symm.trans q) (by decide)), if_neg (fun q => absurd (hw.symm.trans q) (by decide)), if_pos hw, if_pos hg1]) hg1 (by omega)) rfl (by rw [show gT (kp T A) (nv T A) t = (gN (kp T A) (nv T A) (t + 1) 1 11, t + 1) from (by rw [gT, if_neg (fun q => absurd (hw.symm.trans q) (by decide)), if_neg (fun q => absurd (hw.symm.trans q) (by decide)), if_pos hw, if_pos hg1])]; rfl)
                      · exact absurd h_171 (by decide)
                  · exact absurd h_132 (by decide)
            · exact absurd (show (0 : Int32) ≤ 0 by decide) h_86
      · exact absurd (hw.symm.trans ((wdk hTk (t) (W := 1935764837) rfl rfl (by decide) (by decide)).mp h_34)) (by decide)
    · exact absurd (hw.symm.trans ((wdk hTk (t) (W := 6711655) rfl rfl (by decide) (by decide)).mp h_22)) (by decide)
  · skip
    have hl0 := kp_lt2 hw (by decide)
    have hb9 : b9 (kp T A) (nv T A) t = 0 := (if_neg (fun q => absurd (hw.symm.trans q) (by decide))).trans (if_neg (fun q => absurd (hw.symm.trans q) (by decide)))
    refine ww_lstore_n (i := 3) C dX11_readTest_16 rfl (by decide) rfl 17 rfl ?_
    refine ww_lload_n (i := 3) C dX11_readTest_17 rfl rfl 18 rfl ?_
    refine ww_ldc2 C cn_X11_160 dX11_readTest_18 21 rfl ?_
    refine ww_lcmp C dX11_readTest_21 22 rfl ?_
    refine ww_if_ne C 29 dX11_readTest_22 (by decide) 25 rfl (fun h_22 => ?_) (fun h_22 => ?_)
    · skip
      refine ww_lload_n (i := 3) C dX11_readTest_29 rfl rfl 30 rfl ?_
      refine ww_ldc2 C cn_X11_162 dX11_readTest_30 33 rfl ?_
      refine ww_lcmp C dX11_readTest_33 34 rfl ?_
      refine ww_if_ne C 41 dX11_readTest_34 (by decide) 37 rfl (fun h_34 => ?_) (fun h_34 => ?_)
      · skip
        refine ww_lload_n (i := 3) C dX11_readTest_41 rfl rfl 42 rfl ?_
        refine ww_ldc2 C cn_X11_164 dX11_readTest_42 45 rfl ?_
        refine ww_lcmp C dX11_readTest_45 46 rfl ?_
        refine ww_if_ne C 53 dX11_readTest_46 (by decide) 49 rfl (fun h_46 => ?_) (fun h_46 => ?_)
        · skip
          refine ww_lload_n (i := 3) C dX11_readTest_53 rfl rfl 54 rfl ?_
          refine ww_ldc2 C cn_X11_166 dX11_readTest_54 57 rfl ?_
          refine ww_lcmp C dX11_readTest_57 58 rfl ?_
          refine ww_if_ne C 65 dX11_readTest_58 (by decide) 61 rfl (fun h_58 => ?_) (fun h_58 => ?_)
          · exact absurd ((wdk hTk (t) (W := 1702258030) rfl rfl (by decide) (by decide)).mpr hw) h_58
          · skip
            refine ww_iconst (v := 4) C dX11_readTest_61 (by decide) 62 rfl ?_
            refine ww_goto C 66 dX11_readTest_62 (by decide) ?_
            refine ww_istore C dX11_readTest_66 (by decide) rfl 68 rfl ?_
            refine ww_aload_n (i := 0) C dX11_readTest_68 rfl rfl 69 rfl ?_
            refine ww_iload C dX11_readTest_69 rfl 71 rfl ?_
            refine ww_if_le C 78 dX11_readTest_71 (by decide) 74 rfl (fun h_71 => ?_) (fun h_71 => ?_)
            · exact absurd h_71 (by decide)
            · skip
              refine ww_iconst (v := 1) C dX11_readTest_74 (by decide) 75 rfl ?_
              refine ww_goto C 79 dX11_readTest_75 (by decide) ?_
              refine ww_callV1v C (c_X11_need_ok l Γ (q := q) (I := flI I r 0 fp) (t := t) h18 hu hTk hby hl0 rfl (by decide)) mi_X11_need im_X11_need se_X11_need ml_X11_149 dX11_readTest_79 0 rfl rfl rfl (Nat.le_of_ble_eq_true rfl) (Nat.le_of_ble_eq_true rfl) (Nat.le_of_ble_eq_true rfl) ⟨Nat.zero_le _, Nat.zero_le _⟩ [0, 1] rfl (by decide) rfl 82 rfl ?_
              refine ww_eq (ws' := [wMo hm q (tokI (flI I r (0) (fp)) T u st ln (A 2) (t + 1)), (q 15, .inl (Γ.2.1, 400, .inl tp)), (q 13, .inl (Γ.2.1, 180, .inl (rt)))]) rfl rfl rfl ?_
              refine ww_aload_n (i := 0) C dX11_readTest_82 rfl rfl 83 rfl ?_
              refine ww_get C fe_X11_137 dX11_readTest_83 0 rfl rfl 86 rfl ?_
              refine ww_if_le C 90 dX11_readTest_86 (by decide) 89 rfl (fun h_86 => ?_) (fun h_86 => ?_)
              · skip
                refine ww_aload_n (i := 0) C dX11_readTest_90 rfl rfl 91 rfl ?_
                refine ww_get C fe_X11_34 dX11_readTest_91 0 rfl rfl 94 rfl ?_
                refine ww_iload_n (i := 2) C dX11_readTest_94 rfl rfl 95 rfl ?_
                refine ww_iload C dX11_readTest_95 rfl 97 rfl ?_
                refine ww_iast C dX11_readTest_97 2 rfl (vp_in_nI (by omega) (by decide)) 98 rfl ?_
                rw [ic0]
                refine ww_eq (ws' := [wMo hm q (tokI (flI I r (0) (fp)) T u st ln (A 2) (t + 1)), (q 15, .inl (Γ.2.1, 400, .inl tp)), (q 13, .inl (Γ.2.1, 180, .inl (upd rt (12 * r + 3 * n) 4)))]) rfl rfl rfl ?_
                refine ww_aload_n (i := 0) C dX11_readTest_98 rfl rfl 99 rfl ?_
                refine ww_get C fe_X11_34 dX11_readTest_99 0 rfl rfl 102 rfl ?_
                refine ww_iload_n (i := 2) C dX11_readTest_102 rfl rfl 103 rfl ?_
                refine ww_iconst (v := 1) C dX11_readTest_103 (by decide) 104 rfl ?_
                refine ww_iadd C dX11_readTest_104 105 rfl ?_
                refine ww_iload C dX11_readTest_105 rfl 107 rfl ?_
                refine ww_iconst (v := 3) C dX11_readTest_107 (by decide) 108 rfl ?_
                refine ww_icmp_ne C 121 dX11_readTest_108 (by decide) 111 rfl (fun h_108 => ?_) (fun h_108 => ?_)
                · skip
                  refine ww_aload_n (i := 0) C dX11_readTest_121 rfl rfl 122 rfl ?_
                  refine ww_iconst (v := 0) C dX11_readTest_122 (by decide) 123 rfl ?_
                  refine ww_bipush (v := 15) C dX11_readTest_123 (by decide) 125 rfl ?_
                  by_cases hg1 : gN (kp T A) (nv T A) (t + 1) 0 15 = 0
                  · skip
                    have hl1 := kp_lt2 (gN_k hg1).1 (by decide)
                    refine ww_callV2 C (c_X11_num_ok l Γ (q := q) (I := flI I r 0 fp) (t := t + 1) h18 hu hTk hby rfl hg1) mi_X11_numberIn im_X11_numberIn se_X11_numberIn ml_X11_168 dX11_readTest_125 0 rfl rfl rfl (Nat.le_of_ble_eq_true rfl) (Nat.le_of_ble_eq_true rfl) (Nat.le_of_ble_eq_true rfl) ⟨Nat.zero_le _, Nat.zero_le _⟩ [0, 1] rfl (by decide) rfl 128 rfl ?_
                    refine ww_eq (ws' := [wMo hm q (tokI (flI I r (0) (fp)) T u st ln (A 2) (t + 2)), (q 15, .inl (Γ.2.1, 400, .inl tp)), (q 13, .inl (Γ.2.1, 180, .inl (upd rt (12 * r + 3 * n) 4)))]) rfl rfl rfl ?_
                    refine ww_iast C dX11_readTest_128 2 rfl (by rw [ix1]; exact (vp_in_nI (by omega) (by decide))) 129 rfl ?_
                    rw [ic1]
                    refine ww_eq (ws' := [wMo hm q (tokI (flI I r (0) (fp)) T u st ln (A 2) (t + 2)), (q 15, .inl (Γ.2.1, 400, .inl tp)), (q 13, .inl (Γ.2.1, 180, .inl (upd (upd rt (12 * r + 3 * n) 4) (12 * r + 3 * n + 1) (nv T A (t + 1)))))]) rfl rfl rfl ?_
                    refine ww_iload C dX11_readTest_129 rfl 131 rfl ?_
                    refine ww_iconst (v := 1) C dX11_readTest_131 (by decide) 132 rfl ?_
                    refine ww_icmp_ne C 155 dX11_readTest_132 (by decide) 135 rfl (fun h_132 => ?_) (fun h_132 => ?_)
                    · skip
                      refine ww_aload_n (i := 0) C dX11_readTest_155 rfl rfl 156 rfl ?_
                      refine ww_get C fe_X11_34 dX11_readTest_156 0 rfl rfl 159 rfl ?_
                      refine ww_iload_n (i := 2) C dX11_readTest_159 rfl rfl 160 rfl ?_
                      refine ww_iconst (v := 2) C dX11_readTest_160 (by decide) 161 rfl ?_
                      refine ww_iadd C dX11_readTest_161 162 rfl ?_
                      refine ww_iload C dX11_readTest_162 rfl 164 rfl ?_
                      refine ww_iconst (v := 1) C dX11_readTest_164 (by decide) 165 rfl ?_
                      refine ww_icmp_eq C 174 dX11_readTest_165 (by decide) 168 rfl (fun h_165 => ?_) (fun h_165 => ?_)
                      · exact absurd h_165 (by decide)
                      · skip
                        refine ww_iload C dX11_readTest_168 rfl 170 rfl ?_
                        refine ww_iconst (v := 2) C dX11_readTest_170 (by decide) 171 rfl ?_
                        refine ww_icmp_ne C 184 dX11_readTest_171 (by decide) 174 rfl (fun h_171 => ?_) (fun h_171 => ?_)
                        · skip
                          refine ww_iconst (v := 0) C dX11_readTest_184 (by decide) 185 rfl ?_
                          refine ww_iast C dX11_readTest_185 2 rfl (by rw [ix2]; exact (vp_in_nI (by omega) (by decide))) 186 rfl ?_
                          rw [ic2]
                          exact ww_vreE C hr dX11_readTest_186 ((0, fp, upd (upd (upd rt (12 * r + 3 * n) 4) (12 * r + 3 * n + 1) (nv T A (t + 1))) (12 * r + 3 * n + 2) (0))) (MtQ_ok (by rw [gT, if_neg (fun q => absurd (hw.symm.trans q) (by decide)), if_neg (fun q => absurd (hw.symm.trans q) (by decide)), if_neg (fun q => absurd (hw.symm.trans q) (by decide)), if_pos hw, if_neg (fun q => q hg1)]) (by omega) (by rw [hb9, hw]; rfl)) rfl (by rw [show gT (kp T A) (nv T A) t = (0, t + 2) from (by rw [gT, if_neg (fun q => absurd (hw.symm.trans q) (by decide)), if_neg (fun q => absurd (hw.symm.trans q) (by decide)), if_neg (fun q => absurd (hw.symm.trans q) (by decide)), if_pos hw, if_neg (fun q => q hg1)])]; rfl)
                        · exact absurd h_171 (by decide)
                    · exact absurd h_132 (by decide)
                  · skip
                    refine ww_callV2 C (c_X11_num_no l Γ (q := q) (I := flI I r 0 fp) (t := t + 1) h18 hu hTk hby rfl hg1) mi_X11_numberIn im_X11_numberIn se_X11_numberIn ml_X11_168 dX11_readTest_125 0 rfl rfl rfl (Nat.le_of_ble_eq_true rfl) (Nat.le_of_ble_eq_true rfl) (Nat.le_of_ble_eq_true rfl) ⟨Nat.zero_le _, Nat.zero_le _⟩ [0, 1] rfl (by decide) rfl 128 rfl ?_
                    refine ww_eq (ws' := [wMo hm q (tokI (flI I r (gN (kp T A) (nv T A) (t + 1) 0 15) ((nI (sa T u st (t + 1))))) T u st ln (A 2) (t + 1)), (q 15, .inl (Γ.2.1, 400, .inl tp)), (q 13, .inl (Γ.2.1, 180, .inl (upd rt (12 * r + 3 * n) 4)))]) rfl rfl rfl ?_
                    refine ww_iast C dX11_readTest_128 2 rfl (by rw [ix1]; exact (vp_in_nI (by omega) (by decide))) 129 rfl ?_
                    refine ww_iload C dX11_readTest_129 rfl 131 rfl ?_
                    refine ww_iconst (v := 1) C dX11_readTest_131 (by decide) 132 rfl ?_
                    refine ww_icmp_ne C 155 dX11_readTest_132 (by decide) 135 rfl (fun h_132 => ?_) (fun h_132 => ?_)
                    · skip
                      refine ww_aload_n (i := 0) C dX11_readTest_155 rfl rfl 156 rfl ?_
                      refine ww_get C fe_X11_34 dX11_readTest_156 0 rfl rfl 159 rfl ?_
                      refine ww_iload_n (i := 2) C dX11_readTest_159 rfl rfl 160 rfl ?_
                      refine ww_iconst (v := 2) C dX11_readTest_160 (by decide) 161 rfl ?_
                      refine ww_iadd C dX11_readTest_161 162 rfl ?_
                      refine ww_iload C dX11_readTest_162 rfl 164 rfl ?_
                      refine ww_iconst (v := 1) C dX11_readTest_164 (by decide) 165 rfl ?_
                      refine ww_icmp_eq C 174 dX11_readTest_165 (by decide) 168 rfl (fun h_165 => ?_) (fun h_165 => ?_)
                      · exact absurd h_165 (by decide)
                      · skip
                        refine ww_iload C dX11_readTest_168 rfl 170 rfl ?_
                        refine ww_iconst (v := 2) C dX11_readTest_170 (by decide) 171 rfl ?_
                        refine ww_icmp_ne C 184 dX11_readTest_171 (by decide) 174 rfl (fun h_171 => ?_) (fun h_171 => ?_)
                        · skip
                          refine ww_iconst (v := 0) C dX11_readTest_184 (by decide) 185 rfl ?_
                          refine ww_iast C dX11_readTest_185 2 rfl (by rw [ix2]; exact (vp_in_nI (by omega) (by decide))) 186 rfl ?_
                          exact ww_vreE C hr dX11_readTest_186 ((gN (kp T A) (nv T A) (t + 1) 0 15, (nI (sa T u st (t + 1))), _)) (MtQ_no (by rw [gT, if_neg (fun q => absurd (hw.symm.trans q) (by decide)), if_neg (fun q => absurd (hw.symm.trans q) (by decide)), if_neg (fun q => absurd (hw.symm.trans q) (by decide)), if_pos hw, if_pos hg1]) hg1 (by omega)) rfl (by rw [show gT (kp T A) (nv T A) t = (gN (kp T A) (nv T A) (t + 1) 0 15, t + 1) from (by rw [gT, if_neg (fun q => absurd (hw.symm.trans q) (by decide)), if_neg (fun q => absurd (hw.symm.trans q) (by decide)), if_neg (fun q => absurd (hw.symm.trans q) (by decide)), if_pos hw, if_pos hg1])]; rfl)
                        · exact absurd h_171 (by decide)
                    · exact absurd h_132 (by decide)
                · exact absurd h_108 (by decide)
              · exact absurd (show (0 : Int32) ≤ 0 by decide) h_86
        · exact absurd (hw.symm.trans ((wdk hTk (t) (W := 1885434739) rfl rfl (by decide) (by decide)).mp h_46)) (by decide)
      · exact absurd (hw.symm.trans ((wdk hTk (t) (W := 1935764837) rfl rfl (by decide) (by decide)).mp h_34)) (by decide)
    · exact absurd (hw.symm.trans ((wdk hTk (t) (W := 6711655) rfl rfl (by decide) (by decide)).mp h_22)) (by decide)
  · skip
    refine ww_lstore_n (i := 3) C dX11_readTest_16 rfl (by decide) rfl 17 rfl ?_
    refine ww_lload_n (i := 3) C dX11_readTest_17 rfl rfl 18 rfl ?_
    refine ww_ldc2 C cn_X11_160 dX11_readTest_18 21 rfl ?_
    refine ww_lcmp C dX11_readTest_21 22 rfl ?_
    refine ww_if_ne C 29 dX11_readTest_22 (by decide) 25 rfl (fun h_22 => ?_) (fun h_22 => ?_)
    · skip
      refine ww_lload_n (i := 3) C dX11_readTest_29 rfl rfl 30 rfl ?_
      refine ww_ldc2 C cn_X11_162 dX11_readTest_30 33 rfl ?_
      refine ww_lcmp C dX11_readTest_33 34 rfl ?_
      refine ww_if_ne C 41 dX11_readTest_34 (by decide) 37 rfl (fun h_34 => ?_) (fun h_34 => ?_)
      · skip
        refine ww_lload_n (i := 3) C dX11_readTest_41 rfl rfl 42 rfl ?_
        refine ww_ldc2 C cn_X11_164 dX11_readTest_42 45 rfl ?_
        refine ww_lcmp C dX11_readTest_45 46 rfl ?_
        refine ww_if_ne C 53 dX11_readTest_46 (by decide) 49 rfl (fun h_46 => ?_) (fun h_46 => ?_)
        · skip
          refine ww_lload_n (i := 3) C dX11_readTest_53 rfl rfl 54 rfl ?_
          refine ww_ldc2 C cn_X11_166 dX11_readTest_54 57 rfl ?_
          refine ww_lcmp C dX11_readTest_57 58 rfl ?_
          refine ww_if_ne C 65 dX11_readTest_58 (by decide) 61 rfl (fun h_58 => ?_) (fun h_58 => ?_)
          · skip
            refine ww_iconst (v := 0) C dX11_readTest_65 (by decide) 66 rfl ?_
            refine ww_istore C dX11_readTest_66 (by decide) rfl 68 rfl ?_
            refine ww_aload_n (i := 0) C dX11_readTest_68 rfl rfl 69 rfl ?_
            refine ww_iload C dX11_readTest_69 rfl 71 rfl ?_
            refine ww_if_le C 78 dX11_readTest_71 (by decide) 74 rfl (fun h_71 => ?_) (fun h_71 => ?_)
            · skip
              refine ww_iconst (v := 0) C dX11_readTest_78 (by decide) 79 rfl ?_
              refine ww_callV1v C (c_X11_need_no l Γ (q := q) (I := tokI (flI I r (0) (fp)) T u st ln (A 2) (t)) rfl) mi_X11_need im_X11_need se_X11_need ml_X11_149 dX11_readTest_79 0 rfl rfl rfl (Nat.le_of_ble_eq_true rfl) (Nat.le_of_ble_eq_true rfl) (Nat.le_of_ble_eq_true rfl) ⟨Nat.zero_le _, Nat.zero_le _⟩ [0] rfl (by decide) rfl 82 rfl ?_
              refine ww_eq (ws' := [wMo hm q (tokI (flI I r (1) ((nI (sa T u st (t))))) T u st ln (A 2) (t)), (q 15, .inl (Γ.2.1, 400, .inl tp)), (q 13, .inl (Γ.2.1, 180, .inl (rt)))]) rfl rfl rfl ?_
              refine ww_aload_n (i := 0) C dX11_readTest_82 rfl rfl 83 rfl ?_
              refine ww_get C fe_X11_137 dX11_readTest_83 0 rfl rfl 86 rfl ?_
              refine ww_if_le C 90 dX11_readTest_86 (by decide) 89 rfl (fun h_86 => ?_) (fun h_86 => ?_)
              · exact absurd (show (1 : Int32) ≤ 0 from h_86) (by decide)
              · skip
                exact ww_vreE C hr dX11_readTest_89 ((1, (nI (sa T u st (t))), rt)) (MtQ_no (by rw [gT, if_neg hw.1, if_neg hw.2.1, if_neg hw.2.2.1, if_neg hw.2.2.2]) (by decide) ht) rfl (by rw [show gT (kp T A) (nv T A) t = (1, t) from (by rw [gT, if_neg hw.1, if_neg hw.2.1, if_neg hw.2.2.1, if_neg hw.2.2.2])])
            · exact absurd h_71 (by decide)
          · exact absurd ((wdk hTk (t) (W := 1702258030) rfl rfl (by decide) (by decide)).mp h_58) hw.2.2.2
        · exact absurd ((wdk hTk (t) (W := 1885434739) rfl rfl (by decide) (by decide)).mp h_46) hw.2.2.1
      · exact absurd ((wdk hTk (t) (W := 1935764837) rfl rfl (by decide) (by decide)).mp h_34) hw.2.1
    · exact absurd ((wdk hTk (t) (W := 6711655) rfl rfl (by decide) (by decide)).mp h_22) hw.1
