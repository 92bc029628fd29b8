def MTest (κ ν rt : Nat → Int32) (i t : Nat) : Prop := rt i = oc (κ t) ∧ rt (i + 1) = ν (t + 1) ∧ rt (i + 2) = b9 κ ν t
def MPart (κ ν rt : Nat → Int32) (r k : Nat) (τ : Nat → Nat) : Prop := ∀ j, j < k → MTest κ ν rt (12 * r + 3 * j) (τ j)
abbrev MrX : Type := Nat × Int32 × Int32 × (Nat → Int32) × (Nat → Int32) × (Nat → Int32)
def MrQ (T u : Nat) (st : Nat → Nat) (A : Nat → Nat → Int32) (t r : Nat) (a2 rt sy : Nat → Int32) (x : MrX) : Prop :=
  x.2.1 = (gR (kp T A) (nv T A) r t).1 ∧
  ((x.2.1 = 0 ∧ x.1 = r + 1 ∧ (gR (kp T A) (nv T A) r t).2.1 ≤ T ∧ 1 ≤ (gR (kp T A) (nv T A) r t).2.2.1 ∧ (gR (kp T A) (nv T A) r t).2.2.1 ≤ 4 ∧ MPart (kp T A) (nv T A) x.2.2.2.2.1 r (gR (kp T A) (nv T A) r t).2.2.1 (gR (kp T A) (nv T A) r t).2.2.2 ∧ x.2.2.2.1 = upd a2 r (nI (gR (kp T A) (nv T A) r t).2.2.1) ∧ x.2.2.2.2.2 = upd sy r (nv T A ((gR (kp T A) (nv T A) r t).2.1 - 2)) ∧ ∀ i, i < 12 * r → x.2.2.2.2.1 i = rt i) ∨
   (¬ x.2.1 = 0 ∧ x.1 = r ∧ x.2.2.1 = nI (sa T u st (gR (kp T A) (nv T A) r t).2.1)))
theorem MrQ_no {T u : Nat} {st : Nat → Nat} {A : Nat → Nat → Int32} {t r k : Nat} {a2 rt sy y1 y2 y3 : Nat → Int32} {f : Int32} {qq : Nat × (Nat → Nat)} (h : gR (kp T A) (nv T A) r t = (f, k, qq)) (hf : ¬ f = 0) : MrQ T u st A t r a2 rt sy (r, f, nI (sa T u st k), y1, y2, y3) := by
  unfold MrQ
  rw [h]
  exact ⟨rfl, Or.inr ⟨hf, rfl, rfl⟩⟩
theorem MPart.step {κ ν rt : Nat → Int32} {r n t : Nat} {τ : Nat → Nat} (h : MPart κ ν rt r n τ) : MPart κ ν (upd (upd (upd rt (12 * r + 3 * n) (oc (κ t))) (12 * r + 3 * n + 1) (ν (t + 1))) (12 * r + 3 * n + 2) (b9 κ ν t)) r (n + 1) (upN τ n t) := by
  intro j hj
  by_cases e : j = n
  · subst e
    rw [upN_s]
    exact ⟨by rw [pk_un (by omega), pk_un (by omega), pk_us], by rw [pk_un (by omega), pk_us], pk_us⟩
  · rw [upN_n _ _ e]
    obtain ⟨a1, a2, a3⟩ := h j (by omega)
    exact ⟨by rw [pk_un (by omega), pk_un (by omega), pk_un (by omega)]; exact a1, by rw [pk_un (by omega), pk_un (by omega), pk_un (by omega)]; exact a2, by rw [pk_un (by omega), pk_un (by omega), pk_un (by omega)]; exact a3⟩
theorem upd3_lo {rt : Nat → Int32} {r n i : Nat} {x y z : Int32} (h : i < 12 * r) : upd (upd (upd rt (12 * r + 3 * n) x) (12 * r + 3 * n + 1) y) (12 * r + 3 * n + 2) z i = rt i := by
  rw [pk_un (by omega), pk_un (by omega), pk_un (by omega)]
set_option maxHeartbeats 4000000 in
theorem c_X11_readRule (l : Launch) (Γ : Gm) {hm : Nat} {q : Nat → Nat} {I : Nat → Int32} {T u t : Nat} {st ln : Nat → Nat} {A : Nat → Nat → Int32} {tp : Nat → Int32} {r : Nat} {fp : Int32} {a2 rt sy : Nat → Int32} (h18 : I 18 = nI u) (hu : u ≤ 400) (hTk : TokE tp u T st ln A) (hby : ∀ x, x < u → ∃ y, y < 256 ∧ tp x = nI y) (ht : t ≤ T) (hr15 : r ≤ 15) : Ce l Γ yX11_readRule cX11_readRule 3 none 5 [.ref hm] ([wMo hm q (tokI (flI I (r) (0) (fp)) T u st ln (A 2) (t)), (q 15, .inl (Γ.2.1, 400, .inl tp)), (q 12, .inl (Γ.2.1, 15, .inl (a2))), (q 13, .inl (Γ.2.1, 180, .inl (rt))), (q 14, .inl (Γ.2.1, 15, .inl (sy)))]) (fun (x : MrX) => MrQ T u st A t r a2 rt sy x) (fun (x : MrX) => none) (fun (x : MrX) => [wMo hm q (tokI (flI I (x.1) (x.2.1) (x.2.2.1)) T u st ln (A 2) ((gR (kp T A) (nv T A) r t).2.1)), (q 15, .inl (Γ.2.1, 400, .inl tp)), (q 12, .inl (Γ.2.1, 15, .inl (x.2.2.2.1))), (q 13, .inl (Γ.2.1, 180, .inl (x.2.2.2.2.1))), (q 14, .inl (Γ.2.1, 15, .inl (x.2.2.2.2.2)))]) := by
  refine Ce.of mi_X11_readRule [some (.ref hm), none, none] 2 rfl (Nat.le_of_ble_eq_true rfl) ?_
  intro p e s m args below meth c C hr
  have h3c : ¬ kp T A t = 26982 ∨ (kp T A t = 26982 ∧ r = 15) ∨ (kp T A t = 26982 ∧ r < 15) := by
    by_cases a1 : kp T A t = 26982
    · rcases Nat.lt_or_ge r 15 with z | z
      · exact Or.inr (Or.inr ⟨a1, z⟩)
      · exact Or.inr (Or.inl ⟨a1, by omega⟩)
    · exact Or.inl a1
  rcases h3c with hA | hB | hC
  · skip
    refine ww_aload_n (i := 0) C dX11_readRule_0 rfl rfl 1 rfl ?_
    refine ww_callV0p C (c_X11_word l Γ (q := q) (I := flI I r 0 fp) (t := t) h18 hu hTk hby) mi_X11_word im_X11_word se_X11_word ml_X11_156 dX11_readRule_1 0 rfl rfl rfl (Nat.le_of_ble_eq_true rfl) (Nat.le_of_ble_eq_true rfl) (Nat.le_of_ble_eq_true rfl) ⟨Nat.zero_le _, Nat.zero_le _⟩ [0, 1] rfl (by decide) 4 rfl ?_
    refine ww_ldc2 C cn_X11_174 dX11_readRule_4 7 rfl ?_
    refine ww_lcmp C dX11_readRule_7 8 rfl ?_
    refine ww_if_ne C 25 dX11_readRule_8 (by decide) 11 rfl (fun h_8 => ?_) (fun h_8 => ?_)
    · skip
      refine ww_aload_n (i := 0) C dX11_readRule_25 rfl rfl 26 rfl ?_
      refine ww_aload_n (i := 0) C dX11_readRule_26 rfl rfl 27 rfl ?_
      refine ww_callV0p C (c_X11_word l Γ (q := q) (I := flI I r 0 fp) (t := t) h18 hu hTk hby) mi_X11_word im_X11_word se_X11_word ml_X11_156 dX11_readRule_27 0 rfl rfl rfl (Nat.le_of_ble_eq_true rfl) (Nat.le_of_ble_eq_true rfl) (Nat.le_of_ble_eq_true rfl) ⟨Nat.zero_le _, Nat.zero_le _⟩ [0, 1] rfl (by decide) 30 rfl ?_
      refine ww_ldc2 C cn_X11_174 dX11_readRule_30 33 rfl ?_
      refine ww_lcmp C dX11_readRule_33 34 rfl ?_
      refine ww_if_ne C 41 dX11_readRule_34 (by decide) 37 rfl (fun h_34 => ?_) (fun h_34 => ?_)
      · skip
        refine ww_iconst (v := 0) C dX11_readRule_41 (by decide) 42 rfl ?_
        refine ww_callV1v C (c_X11_need_no l Γ (q := q) (I := tokI (flI I r (0) (fp)) T u st ln (A 2) (t)) rfl) mi_X11_need im_X11_need se_X11_need ml_X11_149 dX11_readRule_42 0 rfl rfl rfl (Nat.le_of_ble_eq_true rfl) (Nat.le_of_ble_eq_true rfl) (Nat.le_of_ble_eq_true rfl) ⟨Nat.zero_le _, Nat.zero_le _⟩ [0] rfl (by decide) rfl 45 rfl ?_
        refine ww_eq (ws' := [wMo hm q (tokI (flI I (r) (1) ((nI (sa T u st (t))))) T u st ln (A 2) (t)), (q 15, .inl (Γ.2.1, 400, .inl tp)), (q 12, .inl (Γ.2.1, 15, .inl (a2))), (q 13, .inl (Γ.2.1, 180, .inl (rt))), (q 14, .inl (Γ.2.1, 15, .inl (sy)))]) rfl rfl rfl ?_
        refine ww_iconst (v := 0) C dX11_readRule_45 (by decide) 46 rfl ?_
        refine ww_istore_n (i := 1) C dX11_readRule_46 rfl (by decide) rfl 47 rfl ?_
        refine ww_aload_n (i := 0) C dX11_readRule_47 rfl rfl 48 rfl ?_
        refine ww_get C fe_X11_137 dX11_readRule_48 0 rfl rfl 51 rfl ?_
        refine ww_if_ne C 62 dX11_readRule_51 (by decide) 54 rfl (fun h_51 => ?_) (fun h_51 => ?_)
        · skip
          skip
          refine ww_aload_n (i := 0) C dX11_readRule_62 rfl rfl 63 rfl ?_
          refine ww_get C fe_X11_137 dX11_readRule_63 0 rfl rfl 66 rfl ?_
          refine ww_if_ne C 108 dX11_readRule_66 (by decide) 69 rfl (fun h_66 => ?_) (fun h_66 => ?_)
          · skip
            skip
            refine ww_aload_n (i := 0) C dX11_readRule_108 rfl rfl 109 rfl ?_
            refine ww_get C fe_X11_137 dX11_readRule_109 0 rfl rfl 112 rfl ?_
            refine ww_if_ne C 135 dX11_readRule_112 (by decide) 115 rfl (fun h_112 => ?_) (fun h_112 => ?_)
            · skip
              refine ww_aload_n (i := 0) C dX11_readRule_135 rfl rfl 136 rfl ?_
              refine ww_get C fe_X11_137 dX11_readRule_136 0 rfl rfl 139 rfl ?_
              refine ww_if_ne C 153 dX11_readRule_139 (by decide) 142 rfl (fun h_139 => ?_) (fun h_139 => ?_)
              · skip
                refine ww_iconst (v := 0) C dX11_readRule_153 (by decide) 154 rfl ?_
                refine ww_istore_n (i := 2) C dX11_readRule_154 rfl (by decide) rfl 155 rfl ?_
                refine ww_aload_n (i := 0) C dX11_readRule_155 rfl rfl 156 rfl ?_
                refine ww_get C fe_X11_137 dX11_readRule_156 0 rfl rfl 159 rfl ?_
                refine ww_if_ne C 179 dX11_readRule_159 (by decide) 162 rfl (fun h_159 => ?_) (fun h_159 => ?_)
                · skip
                  refine ww_aload_n (i := 0) C dX11_readRule_179 rfl rfl 180 rfl ?_
                  refine ww_get C fe_X11_137 dX11_readRule_180 0 rfl rfl 183 rfl ?_
                  refine ww_if_ne C 216 dX11_readRule_183 (by decide) 186 rfl (fun h_183 => ?_) (fun h_183 => ?_)
                  · skip
                    exact ww_vreE C hr dX11_readRule_216 ((r, 1, (nI (sa T u st (t))), a2, rt, sy)) (MrQ_no (qq := _) ((show gR (kp T A) (nv T A) r t = (1, t, 0, fun _ => 0) from by rw [gR, if_pos hA])) (show ¬ (1 : Int32) = 0 by decide)) rfl (by first | (rw [(show gR (kp T A) (nv T A) r t = (1, t, 0, fun _ => 0) from by rw [gR, if_pos hA])]; done) | (rw [(show gR (kp T A) (nv T A) r t = (1, t, 0, fun _ => 0) from by rw [gR, if_pos hA])]; rfl))
                  · exact absurd h_183 (show ¬ (1 : Int32) = 0 by decide)
                · exact absurd h_159 (show ¬ (1 : Int32) = 0 by decide)
              · exact absurd h_139 (show ¬ (1 : Int32) = 0 by decide)
            · exact absurd h_112 (show ¬ (1 : Int32) = 0 by decide)
          · exact absurd h_66 (show ¬ (1 : Int32) = 0 by decide)
        · exact absurd h_51 (show ¬ (1 : Int32) = 0 by decide)
      · exact absurd ((wdk hTk (t) (W := 26982) rfl rfl (by decide) (by decide)).mp h_34) hA
    · exact absurd ((wdk hTk (t) (W := 26982) rfl rfl (by decide) (by decide)).mp h_8) hA
  · skip
    refine ww_aload_n (i := 0) C dX11_readRule_0 rfl rfl 1 rfl ?_
    refine ww_callV0p C (c_X11_word l Γ (q := q) (I := flI I r 0 fp) (t := t) h18 hu hTk hby) mi_X11_word im_X11_word se_X11_word ml_X11_156 dX11_readRule_1 0 rfl rfl rfl (Nat.le_of_ble_eq_true rfl) (Nat.le_of_ble_eq_true rfl) (Nat.le_of_ble_eq_true rfl) ⟨Nat.zero_le _, Nat.zero_le _⟩ [0, 1] rfl (by decide) 4 rfl ?_
    refine ww_ldc2 C cn_X11_174 dX11_readRule_4 7 rfl ?_
    refine ww_lcmp C dX11_readRule_7 8 rfl ?_
    refine ww_if_ne C 25 dX11_readRule_8 (by decide) 11 rfl (fun h_8 => ?_) (fun h_8 => ?_)
    · exact absurd ((wdk hTk (t) (W := 26982) rfl rfl (by decide) (by decide)).mpr hB.1) h_8
    · skip
      refine ww_aload_n (i := 0) C dX11_readRule_11 rfl rfl 12 rfl ?_
      refine ww_get C fe_X11_153 dX11_readRule_12 0 rfl rfl 15 rfl ?_
      rw [show (tokI (flI I r (0) (fp)) T u st ln (A 2) (t)) 11 = nI r from rfl]
      refine ww_bipush (v := 15) C dX11_readRule_15 (by decide) 17 rfl ?_
      refine ww_icmp_ne C 25 dX11_readRule_17 (by decide) 20 rfl (fun h_17 => ?_) (fun h_17 => ?_)
      · exact absurd (show nI r = 15 by rw [hB.2]; rfl) h_17
      · skip
        refine ww_aload_n (i := 0) C dX11_readRule_20 rfl rfl 21 rfl ?_
        refine ww_iconst (v := 3) C dX11_readRule_21 (by decide) 22 rfl ?_
        refine ww_callV1v C (c_X11_bad_0 l Γ (q := q) (I := tokI (flI I r (0) (fp)) T u st ln (A 2) (t)) rfl) mi_X11_bad im_X11_bad se_X11_bad ml_X11_143 dX11_readRule_22 0 rfl rfl rfl (Nat.le_of_ble_eq_true rfl) (Nat.le_of_ble_eq_true rfl) (Nat.le_of_ble_eq_true rfl) ⟨Nat.zero_le _, Nat.zero_le _⟩ [0] rfl (by decide) rfl 25 rfl ?_
        refine ww_eq (ws' := [wMo hm q (tokI (flI I (r) (3) ((nI (sa T u st (t))))) T u st ln (A 2) (t)), (q 15, .inl (Γ.2.1, 400, .inl tp)), (q 12, .inl (Γ.2.1, 15, .inl (a2))), (q 13, .inl (Γ.2.1, 180, .inl (rt))), (q 14, .inl (Γ.2.1, 15, .inl (sy)))]) rfl rfl rfl ?_
        refine ww_aload_n (i := 0) C dX11_readRule_25 rfl rfl 26 rfl ?_
        refine ww_aload_n (i := 0) C dX11_readRule_26 rfl rfl 27 rfl ?_
        refine ww_callV0p C (c_X11_word l Γ (q := q) (I := flI I r 3 (nI (sa T u st (t)))) (t := t) h18 hu hTk hby) mi_X11_word im_X11_word se_X11_word ml_X11_156 dX11_readRule_27 0 rfl rfl rfl (Nat.le_of_ble_eq_true rfl) (Nat.le_of_ble_eq_true rfl) (Nat.le_of_ble_eq_true rfl) ⟨Nat.zero_le _, Nat.zero_le _⟩ [0, 1] rfl (by decide) 30 rfl ?_
        refine ww_ldc2 C cn_X11_174 dX11_readRule_30 33 rfl ?_
        refine ww_lcmp C dX11_readRule_33 34 rfl ?_
        refine ww_if_ne C 41 dX11_readRule_34 (by decide) 37 rfl (fun h_34 => ?_) (fun h_34 => ?_)
        · exact absurd ((wdk hTk (t) (W := 26982) rfl rfl (by decide) (by decide)).mpr hB.1) h_34
        · skip
          refine ww_iconst (v := 1) C dX11_readRule_37 (by decide) 38 rfl ?_
          refine ww_goto C 42 dX11_readRule_38 (by decide) ?_
          refine ww_callV1vp C (c_X11_need_f l Γ (q := q) (I := tokI (flI I r (3) ((nI (sa T u st (t))))) T u st ln (A 2) (t)) (show ¬ (3 : Int32) = 0 by decide)) mi_X11_need im_X11_need se_X11_need ml_X11_149 dX11_readRule_42 0 rfl rfl rfl (Nat.le_of_ble_eq_true rfl) (Nat.le_of_ble_eq_true rfl) (Nat.le_of_ble_eq_true rfl) ⟨Nat.zero_le _, Nat.zero_le _⟩ [0] rfl (by decide) 45 rfl ?_
          refine ww_iconst (v := 0) C dX11_readRule_45 (by decide) 46 rfl ?_
          refine ww_istore_n (i := 1) C dX11_readRule_46 rfl (by decide) rfl 47 rfl ?_
          refine ww_aload_n (i := 0) C dX11_readRule_47 rfl rfl 48 rfl ?_
          refine ww_get C fe_X11_137 dX11_readRule_48 0 rfl rfl 51 rfl ?_
          refine ww_if_ne C 62 dX11_readRule_51 (by decide) 54 rfl (fun h_51 => ?_) (fun h_51 => ?_)
          · skip
            skip
            refine ww_aload_n (i := 0) C dX11_readRule_62 rfl rfl 63 rfl ?_
            refine ww_get C fe_X11_137 dX11_readRule_63 0 rfl rfl 66 rfl ?_
            refine ww_if_ne C 108 dX11_readRule_66 (by decide) 69 rfl (fun h_66 => ?_) (fun h_66 => ?_)
            · skip
              skip
              refine ww_aload_n (i := 0) C dX11_readRule_108 rfl rfl 109 rfl ?_
              refine ww_get C fe_X11_137 dX11_readRule_109 0 rfl rfl 112 rfl ?_
              refine ww_if_ne C 135 dX11_readRule_112 (by decide) 115 rfl (fun h_112 => ?_) (fun h_112 => ?_)
              · skip
                refine ww_aload_n (i := 0) C dX11_readRule_135 rfl rfl 136 rfl ?_
                refine ww_get C fe_X11_137 dX11_readRule_136 0 rfl rfl 139 rfl ?_
                refine ww_if_ne C 153 dX11_readRule_139 (by decide) 142 rfl (fun h_139 => ?_) (fun h_139 => ?_)
                · skip
                  refine ww_iconst (v := 0) C dX11_readRule_153 (by decide) 154 rfl ?_
                  refine ww_istore_n (i := 2) C dX11_readRule_154 rfl (by decide) rfl 155 rfl ?_
                  refine ww_aload_n (i := 0) C dX11_readRule_155 rfl rfl 156 rfl ?_
                  refine ww_get C fe_X11_137 dX11_readRule_156 0 rfl rfl 159 rfl ?_
                  refine ww_if_ne C 179 dX11_readRule_159 (by decide) 162 rfl (fun h_159 => ?_) (fun h_159 => ?_)
                  · skip
                    refine ww_aload_n (i := 0) C dX11_readRule_179 rfl rfl 180 rfl ?_
                    refine ww_get C fe_X11_137 dX11_readRule_180 0 rfl rfl 183 rfl ?_
                    refine ww_if_ne C 216 dX11_readRule_183 (by decide) 186 rfl (fun h_183 => ?_) (fun h_183 => ?_)
                    · skip
                      exact ww_vreE C hr dX11_readRule_216 ((r, 3, (nI (sa T u st (t))), a2, rt, sy)) (MrQ_no (qq := _) ((show gR (kp T A) (nv T A) r t = (3, t, 0, fun _ => 0) from by rw [gR, if_neg (fun q => q hB.1), if_pos hB.2])) (show ¬ (3 : Int32) = 0 by decide)) rfl (by first | (rw [(show gR (kp T A) (nv T A) r t = (3, t, 0, fun _ => 0) from by rw [gR, if_neg (fun q => q hB.1), if_pos hB.2])]; done) | (rw [(show gR (kp T A) (nv T A) r t = (3, t, 0, fun _ => 0) from by rw [gR, if_neg (fun q => q hB.1), if_pos hB.2])]; rfl))
                    · exact absurd h_183 (show ¬ (3 : Int32) = 0 by decide)
                  · exact absurd h_159 (show ¬ (3 : Int32) = 0 by decide)
                · exact absurd h_139 (show ¬ (3 : Int32) = 0 by decide)
              · exact absurd h_112 (show ¬ (3 : Int32) = 0 by decide)
            · exact absurd h_66 (show ¬ (3 : Int32) = 0 by decide)
          · exact absurd h_51 (show ¬ (3 : Int32) = 0 by decide)
  · skip
    have hl0 := kp_lt2 hC.1 (by decide)
    have hn := hC.2
    refine ww_aload_n (i := 0) C dX11_readRule_0 rfl rfl 1 rfl ?_
    refine ww_callV0p C (c_X11_word l Γ (q := q) (I := flI I r 0 fp) (t := t) h18 hu hTk hby) mi_X11_word im_X11_word se_X11_word ml_X11_156 dX11_readRule_1 0 rfl rfl rfl (Nat.le_of_ble_eq_true rfl) (Nat.le_of_ble_eq_true rfl) (Nat.le_of_ble_eq_true rfl) ⟨Nat.zero_le _, Nat.zero_le _⟩ [0, 1] rfl (by decide) 4 rfl ?_
    refine ww_ldc2 C cn_X11_174 dX11_readRule_4 7 rfl ?_
    refine ww_lcmp C dX11_readRule_7 8 rfl ?_
    refine ww_if_ne C 25 dX11_readRule_8 (by decide) 11 rfl (fun h_8 => ?_) (fun h_8 => ?_)
    · exact absurd ((wdk hTk (t) (W := 26982) rfl rfl (by decide) (by decide)).mpr hC.1) h_8
    · skip
      refine ww_aload_n (i := 0) C dX11_readRule_11 rfl rfl 12 rfl ?_
      refine ww_get C fe_X11_153 dX11_readRule_12 0 rfl rfl 15 rfl ?_
      rw [show (tokI (flI I r (0) (fp)) T u st ln (A 2) (t)) 11 = nI r from rfl]
      refine ww_bipush (v := 15) C dX11_readRule_15 (by decide) 17 rfl ?_
      refine ww_icmp_ne C 25 dX11_readRule_17 (by decide) 20 rfl (fun h_17 => ?_) (fun h_17 => ?_)
      · skip
        refine ww_aload_n (i := 0) C dX11_readRule_25 rfl rfl 26 rfl ?_
        refine ww_aload_n (i := 0) C dX11_readRule_26 rfl rfl 27 rfl ?_
        refine ww_callV0p C (c_X11_word l Γ (q := q) (I := flI I r 0 fp) (t := t) h18 hu hTk hby) mi_X11_word im_X11_word se_X11_word ml_X11_156 dX11_readRule_27 0 rfl rfl rfl (Nat.le_of_ble_eq_true rfl) (Nat.le_of_ble_eq_true rfl) (Nat.le_of_ble_eq_true rfl) ⟨Nat.zero_le _, Nat.zero_le _⟩ [0, 1] rfl (by decide) 30 rfl ?_
        refine ww_ldc2 C cn_X11_174 dX11_readRule_30 33 rfl ?_
        refine ww_lcmp C dX11_readRule_33 34 rfl ?_
        refine ww_if_ne C 41 dX11_readRule_34 (by decide) 37 rfl (fun h_34 => ?_) (fun h_34 => ?_)
        · exact absurd ((wdk hTk (t) (W := 26982) rfl rfl (by decide) (by decide)).mpr hC.1) h_34
        · skip
          refine ww_iconst (v := 1) C dX11_readRule_37 (by decide) 38 rfl ?_
          refine ww_goto C 42 dX11_readRule_38 (by decide) ?_
          refine ww_callV1v C (c_X11_need_ok l Γ (q := q) (I := flI I r 0 fp) (t := t) h18 hu hTk hby hl0 rfl (by decide)) mi_X11_need im_X11_need se_X11_need ml_X11_149 dX11_readRule_42 0 rfl rfl rfl (Nat.le_of_ble_eq_true rfl) (Nat.le_of_ble_eq_true rfl) (Nat.le_of_ble_eq_true rfl) ⟨Nat.zero_le _, Nat.zero_le _⟩ [0, 1] rfl (by decide) rfl 45 rfl ?_
          refine ww_eq (ws' := [wMo hm q (tokI (flI I (r) (0) (fp)) T u st ln (A 2) (t + 1)), (q 15, .inl (Γ.2.1, 400, .inl tp)), (q 12, .inl (Γ.2.1, 15, .inl (a2))), (q 13, .inl (Γ.2.1, 180, .inl (rt))), (q 14, .inl (Γ.2.1, 15, .inl (sy)))]) rfl rfl rfl ?_
          refine ww_iconst (v := 0) C dX11_readRule_45 (by decide) 46 rfl ?_
          refine ww_istore_n (i := 1) C dX11_readRule_46 rfl (by decide) rfl 47 rfl ?_
          refine ww_aload_n (i := 0) C dX11_readRule_47 rfl rfl 48 rfl ?_
          refine ww_get C fe_X11_137 dX11_readRule_48 0 rfl rfl 51 rfl ?_
          refine ww_if_ne C 62 dX11_readRule_51 (by decide) 54 rfl (fun h_51 => ?_) (fun h_51 => ?_)
          · exact absurd rfl h_51
          · skip
            refine ww_aload_n (i := 0) C dX11_readRule_54 rfl rfl 55 rfl ?_
            refine ww_iload_n (i := 1) C dX11_readRule_55 rfl rfl 56 rfl ?_
            refine ww_callE1v C (c_X11_readTest l Γ (q := q) (I := I) (t := t + 1) (r := r) (n := 0) (fp := fp) h18 hu hTk hby hl0 hn (by decide)) mi_X11_readTest im_X11_readTest se_X11_readTest ml_X11_176 dX11_readRule_56 0 rfl rfl rfl (Nat.le_of_ble_eq_true rfl) (Nat.le_of_ble_eq_true rfl) (Nat.le_of_ble_eq_true rfl) ⟨Nat.zero_le _, Nat.zero_le _⟩ [0, 1, 3] rfl (by decide) (fun _ => rfl) 59 rfl (fun x_56 hx_56 => ?_)
            refine ww_eq (ws' := [wMo hm q (tokI (flI I (r) (x_56.1) (x_56.2.1)) T u st ln (A 2) ((gT (kp T A) (nv T A) (t + 1)).2)), (q 15, .inl (Γ.2.1, 400, .inl tp)), (q 12, .inl (Γ.2.1, 15, .inl (a2))), (q 13, .inl (Γ.2.1, 180, .inl (x_56.2.2))), (q 14, .inl (Γ.2.1, 15, .inl (sy)))]) rfl rfl rfl ?_
            obtain ⟨f3, p3, rt3⟩ := x_56
            obtain ⟨ef, hno, hok⟩ := hx_56
            dsimp only at ef hno hok ⊢
            by_cases hf3 : f3 = 0
            · skip
              subst hf3
              obtain ⟨hle1, hrt1⟩ := hok rfl
              have hgr1 : gR (kp T A) (nv T A) r t = gA (kp T A) (nv T A) 3 (gT (kp T A) (nv T A) (t + 1)).2 (1, upN (fun _ => 0) 0 (t + 1)) := by
                rw [gR, if_neg (fun q => q hC.1), if_neg (by omega), if_neg (fun q => q ef.symm)]
              have hpt1 : MPart (kp T A) (nv T A) rt3 r 1 (upN (fun _ => 0) 0 (t + 1)) := by
                rw [hrt1]
                exact MPart.step (n := 0) (fun j hj => absurd hj (Nat.not_lt_zero j))
              have hkp1 : ∀ i, i < 12 * r → rt3 i = rt i := fun i hi => by
                rw [hrt1]; exact upd3_lo hi
              refine ww_iinc (y := 1) C dX11_readRule_59 rfl (by decide) (by decide) rfl 62 rfl ?_
              refine ww_loop (fun x : Nat × Nat × Int32 × (Nat → Int32) × (Nat → Nat) => 4 - x.1) (fun x => 1 ≤ x.1 ∧ x.1 ≤ 4 ∧ x.2.1 ≤ T ∧ gR (kp T A) (nv T A) r t = gA (kp T A) (nv T A) (4 - x.1) x.2.1 (x.1, x.2.2.2.2) ∧ MPart (kp T A) (nv T A) x.2.2.2.1 r x.1 x.2.2.2.2 ∧ ∀ i, i < 12 * r → x.2.2.2.1 i = rt i) (fun x => [wMo hm q (tokI (flI I (r) (0) (x.2.2.1)) T u st ln (A 2) (x.2.1)), (q 15, .inl (Γ.2.1, 400, .inl tp)), (q 12, .inl (Γ.2.1, 15, .inl (a2))), (q 13, .inl (Γ.2.1, 180, .inl (x.2.2.2.1))), (q 14, .inl (Γ.2.1, 15, .inl (sy)))]) (fun x => [some (.ref hm), some (.int (nI x.1)), none]) (1, (gT (kp T A) (nv T A) (t + 1)).2, p3, rt3, upN (fun _ => 0) 0 (t + 1)) ⟨Nat.le_refl _, (show 1 ≤ 4 by decide), hle1, hgr1, hpt1, hkp1⟩ rfl rfl (fun x hx ih => ?_)
              obtain ⟨n, t2, p2, rt2, τ⟩ := x
              obtain ⟨hn1, hn4, ht2, hgr, hpt, hkp⟩ := hx
              try dsimp only at hn1 hn4 ht2 hgr hpt hkp ih ⊢
              refine ww_aload_n (i := 0) C dX11_readRule_62 rfl rfl 63 rfl ?_
              refine ww_get C fe_X11_137 dX11_readRule_63 0 rfl rfl 66 rfl ?_
              refine ww_if_ne C 108 dX11_readRule_66 (by decide) 69 rfl (fun h_66 => ?_) (fun h_66 => ?_)
              · exact absurd rfl h_66
              · skip
                refine ww_aload_n (i := 0) C dX11_readRule_69 rfl rfl 70 rfl ?_
                refine ww_callV0p C (c_X11_word l Γ (q := q) (I := flI I r 0 p2) (t := t2) h18 hu hTk hby) mi_X11_word im_X11_word se_X11_word ml_X11_156 dX11_readRule_70 0 rfl rfl rfl (Nat.le_of_ble_eq_true rfl) (Nat.le_of_ble_eq_true rfl) (Nat.le_of_ble_eq_true rfl) ⟨Nat.zero_le _, Nat.zero_le _⟩ [0, 1] rfl (by decide) 73 rfl ?_
                refine ww_ldc2 C cn_X11_178 dX11_readRule_73 76 rfl ?_
                refine ww_lcmp C dX11_readRule_76 77 rfl ?_
                refine ww_if_ne C 108 dX11_readRule_77 (by decide) 80 rfl (fun h_77 => ?_) (fun h_77 => ?_)
                · skip
                  have ha : ¬ kp T A t2 = 6385252 := fun z => h_77 ((wdk hTk (t2) (W := 6385252) rfl rfl (by decide) (by decide)).mpr z)
                  refine ww_aload_n (i := 0) C dX11_readRule_108 rfl rfl 109 rfl ?_
                  refine ww_get C fe_X11_137 dX11_readRule_109 0 rfl rfl 112 rfl ?_
                  refine ww_if_ne C 135 dX11_readRule_112 (by decide) 115 rfl (fun h_112 => ?_) (fun h_112 => ?_)
                  · exact absurd rfl h_112
                  · skip
                    refine ww_aload_n (i := 0) C dX11_readRule_115 rfl rfl 116 rfl ?_
                    refine ww_aload_n (i := 0) C dX11_readRule_116 rfl rfl 117 rfl ?_
                    refine ww_callV0p C (c_X11_word l Γ (q := q) (I := flI I r 0 p2) (t := t2) h18 hu hTk hby) mi_X11_word im_X11_word se_X11_word ml_X11_156 dX11_readRule_117 0 rfl rfl rfl (Nat.le_of_ble_eq_true rfl) (Nat.le_of_ble_eq_true rfl) (Nat.le_of_ble_eq_true rfl) ⟨Nat.zero_le _, Nat.zero_le _⟩ [0, 1] rfl (by decide) 120 rfl ?_
                    by_cases hg : kp T A t2 = 7561593
                    · skip
                      have hls := kp_lt2 hg (by decide)
                      refine ww_ldc2 C cn_X11_180 dX11_readRule_120 123 rfl ?_
                      refine ww_lcmp C dX11_readRule_123 124 rfl ?_
                      refine ww_if_ne C 131 dX11_readRule_124 (by decide) 127 rfl (fun h_124 => ?_) (fun h_124 => ?_)
                      · exact absurd ((wdk hTk (t2) (W := 7561593) rfl rfl (by decide) (by decide)).mpr hg) h_124
                      · skip
                        refine ww_iconst (v := 1) C dX11_readRule_127 (by decide) 128 rfl ?_
                        refine ww_goto C 132 dX11_readRule_128 (by decide) ?_
                        refine ww_callV1v C (c_X11_need_ok l Γ (q := q) (I := flI I r 0 p2) (t := t2) h18 hu hTk hby hls rfl (by decide)) mi_X11_need im_X11_need se_X11_need ml_X11_149 dX11_readRule_132 0 rfl rfl rfl (Nat.le_of_ble_eq_true rfl) (Nat.le_of_ble_eq_true rfl) (Nat.le_of_ble_eq_true rfl) ⟨Nat.zero_le _, Nat.zero_le _⟩ [0, 1] rfl (by decide) rfl 135 rfl ?_
                        refine ww_eq (ws' := [wMo hm q (tokI (flI I (r) (0) (p2)) T u st ln (A 2) (t2 + 1)), (q 15, .inl (Γ.2.1, 400, .inl tp)), (q 12, .inl (Γ.2.1, 15, .inl (a2))), (q 13, .inl (Γ.2.1, 180, .inl (rt2))), (q 14, .inl (Γ.2.1, 15, .inl (sy)))]) rfl rfl rfl ?_
                        refine ww_aload_n (i := 0) C dX11_readRule_135 rfl rfl 136 rfl ?_
                        refine ww_get C fe_X11_137 dX11_readRule_136 0 rfl rfl 139 rfl ?_
                        refine ww_if_ne C 153 dX11_readRule_139 (by decide) 142 rfl (fun h_139 => ?_) (fun h_139 => ?_)
                        · exact absurd rfl h_139
                        · skip
                          refine ww_aload_n (i := 0) C dX11_readRule_142 rfl rfl 143 rfl ?_
                          refine ww_iconst (v := 0) C dX11_readRule_143 (by decide) 144 rfl ?_
                          refine ww_sipush (v := 9999) C dX11_readRule_144 (by decide) 147 rfl ?_
                          by_cases hg3 : gN (kp T A) (nv T A) (t2 + 1) 0 9999 = 0
                          · skip
                            have hl3 := kp_lt2 (gN_k hg3).1 (by decide)
                            refine ww_callV2 C (c_X11_num_ok l Γ (q := q) (I := flI I r 0 p2) (t := t2 + 1) h18 hu hTk hby rfl hg3) mi_X11_numberIn im_X11_numberIn se_X11_numberIn ml_X11_168 dX11_readRule_147 0 rfl rfl rfl (Nat.le_of_ble_eq_true rfl) (Nat.le_of_ble_eq_true rfl) (Nat.le_of_ble_eq_true rfl) ⟨Nat.zero_le _, Nat.zero_le _⟩ [0, 1] rfl (by decide) rfl 150 rfl ?_
                            refine ww_eq (ws' := [wMo hm q (tokI (flI I (r) (0) (p2)) T u st ln (A 2) (t2 + 2)), (q 15, .inl (Γ.2.1, 400, .inl tp)), (q 12, .inl (Γ.2.1, 15, .inl (a2))), (q 13, .inl (Γ.2.1, 180, .inl (rt2))), (q 14, .inl (Γ.2.1, 15, .inl (sy)))]) rfl rfl rfl ?_
                            refine ww_goto C 154 dX11_readRule_150 (by decide) ?_
                            refine ww_istore_n (i := 2) C dX11_readRule_154 rfl (by decide) rfl 155 rfl ?_
                            refine ww_aload_n (i := 0) C dX11_readRule_155 rfl rfl 156 rfl ?_
                            refine ww_get C fe_X11_137 dX11_readRule_156 0 rfl rfl 159 rfl ?_
                            refine ww_if_ne C 179 dX11_readRule_159 (by decide) 162 rfl (fun h_159 => ?_) (fun h_159 => ?_)
                            · exact absurd rfl h_159
                            · skip
                              refine ww_aload_n (i := 0) C dX11_readRule_162 rfl rfl 163 rfl ?_
                              refine ww_aload_n (i := 0) C dX11_readRule_163 rfl rfl 164 rfl ?_
                              refine ww_get C fe_X11_125 dX11_readRule_164 0 rfl rfl 167 rfl ?_
                              rw [show (tokI (flI I r (0) (p2)) T u st ln (A 2) (t2 + 2)) 20 = so T ln (A 2) (t2 + 2) from rfl]
                              by_cases hg4 : kp T A (t2 + 2) = 2
                              · skip
                                have hl4 := kp_lt2 hg4 (by decide)
                                refine ww_iconst (v := 4) C dX11_readRule_167 (by decide) 168 rfl ?_
                                refine ww_icmp_ne C 175 dX11_readRule_168 (by decide) 171 rfl (fun h_168 => ?_) (fun h_168 => ?_)
                                · exact absurd ((so_4 hTk (t2 + 2)).mpr hg4) h_168
                                · skip
                                  refine ww_iconst (v := 1) C dX11_readRule_171 (by decide) 172 rfl ?_
                                  refine ww_goto C 176 dX11_readRule_172 (by decide) ?_
                                  refine ww_callV1v C (c_X11_need_ok l Γ (q := q) (I := flI I r 0 p2) (t := t2 + 2) h18 hu hTk hby hl4 rfl (by decide)) mi_X11_need im_X11_need se_X11_need ml_X11_149 dX11_readRule_176 0 rfl rfl rfl (Nat.le_of_ble_eq_true rfl) (Nat.le_of_ble_eq_true rfl) (Nat.le_of_ble_eq_true rfl) ⟨Nat.zero_le _, Nat.zero_le _⟩ [0, 1] rfl (by decide) rfl 179 rfl ?_
                                  refine ww_eq (ws' := [wMo hm q (tokI (flI I (r) (0) (p2)) T u st ln (A 2) (t2 + 3)), (q 15, .inl (Γ.2.1, 400, .inl tp)), (q 12, .inl (Γ.2.1, 15, .inl (a2))), (q 13, .inl (Γ.2.1, 180, .inl (rt2))), (q 14, .inl (Γ.2.1, 15, .inl (sy)))]) rfl rfl rfl ?_
                                  refine ww_aload_n (i := 0) C dX11_readRule_179 rfl rfl 180 rfl ?_
                                  refine ww_get C fe_X11_137 dX11_readRule_180 0 rfl rfl 183 rfl ?_
                                  refine ww_if_ne C 216 dX11_readRule_183 (by decide) 186 rfl (fun h_183 => ?_) (fun h_183 => ?_)
                                  · exact absurd rfl h_183
                                  · skip
                                    refine ww_aload_n (i := 0) C dX11_readRule_186 rfl rfl 187 rfl ?_
                                    refine ww_get C fe_X11_31 dX11_readRule_187 0 rfl rfl 190 rfl ?_
                                    refine ww_aload_n (i := 0) C dX11_readRule_190 rfl rfl 191 rfl ?_
                                    refine ww_get C fe_X11_153 dX11_readRule_191 0 rfl rfl 194 rfl ?_
                                    rw [show (tokI (flI I r (0) (p2)) T u st ln (A 2) (t2 + 3)) 11 = nI r from rfl]
                                    refine ww_iload_n (i := 1) C dX11_readRule_194 rfl rfl 195 rfl ?_
                                    refine ww_iast C dX11_readRule_195 2 rfl (vp_in_nI (by omega) (by decide)) 196 rfl ?_
                                    rw [nI_clamp (show r < 2 ^ 31 by omega)]
                                    refine ww_aload_n (i := 0) C dX11_readRule_196 rfl rfl 197 rfl ?_
                                    refine ww_get C fe_X11_37 dX11_readRule_197 0 rfl rfl 200 rfl ?_
                                    refine ww_aload_n (i := 0) C dX11_readRule_200 rfl rfl 201 rfl ?_
                                    refine ww_get C fe_X11_153 dX11_readRule_201 0 rfl rfl 204 rfl ?_
                                    rw [show (tokI (flI I r (0) (p2)) T u st ln (A 2) (t2 + 3)) 11 = nI r from rfl]
                                    refine ww_iload_n (i := 2) C dX11_readRule_204 rfl rfl 205 rfl ?_
                                    refine ww_iast C dX11_readRule_205 4 rfl (vp_in_nI (by omega) (by decide)) 206 rfl ?_
                                    try rw [nI_clamp (show r < 2 ^ 31 by omega)]
                                    refine ww_aload_n (i := 0) C dX11_readRule_206 rfl rfl 207 rfl ?_
                                    refine ww_dup C dX11_readRule_207 rfl 208 rfl ?_
                                    refine ww_get C fe_X11_153 dX11_readRule_208 0 rfl rfl 211 rfl ?_
                                    rw [show (tokI (flI I r (0) (p2)) T u st ln (A 2) (t2 + 3)) 11 = nI r from rfl]
                                    refine ww_iconst (v := 1) C dX11_readRule_211 (by decide) 212 rfl ?_
                                    refine ww_iadd C dX11_readRule_212 213 rfl ?_
                                    refine ww_mput_11 C fe_X11_153 dX11_readRule_213 216 rfl ?_
                                    have hE := (show gR (kp T A) (nv T A) r t = (0, t2 + 3, n, τ) from by rw [hgr, gA_not ha, gS, if_neg (fun q => q hg), if_neg (fun q => q hg3), if_neg (fun q => q hg4)])
                                    exact ww_vreE C hr dX11_readRule_216 ((r + 1, 0, p2, upd a2 r (nI n), rt2, upd sy r (nv T A (t2 + 1)))) (by unfold MrQ; rw [hE]; exact ⟨rfl, Or.inl ⟨rfl, rfl, hl4, hn1, hn4, hpt, rfl, rfl, hkp⟩⟩) rfl (by rw [hE, show flI I (r + 1) 0 p2 = upd (upd (upd I 11 (nI r + 1)) 23 0) 24 p2 from by rw [flI, nI_succ]]; rfl)
                              · skip
                                refine ww_iconst (v := 4) C dX11_readRule_167 (by decide) 168 rfl ?_
                                refine ww_icmp_ne C 175 dX11_readRule_168 (by decide) 171 rfl (fun h_168 => ?_) (fun h_168 => ?_)
                                · skip
                                  refine ww_iconst (v := 0) C dX11_readRule_175 (by decide) 176 rfl ?_
                                  refine ww_callV1v C (c_X11_need_no l Γ (q := q) (I := tokI (flI I r (0) (p2)) T u st ln (A 2) (t2 + 2)) rfl) mi_X11_need im_X11_need se_X11_need ml_X11_149 dX11_readRule_176 0 rfl rfl rfl (Nat.le_of_ble_eq_true rfl) (Nat.le_of_ble_eq_true rfl) (Nat.le_of_ble_eq_true rfl) ⟨Nat.zero_le _, Nat.zero_le _⟩ [0] rfl (by decide) rfl 179 rfl ?_
                                  refine ww_eq (ws' := [wMo hm q (tokI (flI I (r) (1) ((nI (sa T u st (t2 + 2))))) T u st ln (A 2) (t2 + 2)), (q 15, .inl (Γ.2.1, 400, .inl tp)), (q 12, .inl (Γ.2.1, 15, .inl (a2))), (q 13, .inl (Γ.2.1, 180, .inl (rt2))), (q 14, .inl (Γ.2.1, 15, .inl (sy)))]) rfl rfl rfl ?_
                                  refine ww_aload_n (i := 0) C dX11_readRule_179 rfl rfl 180 rfl ?_
                                  refine ww_get C fe_X11_137 dX11_readRule_180 0 rfl rfl 183 rfl ?_
                                  refine ww_if_ne C 216 dX11_readRule_183 (by decide) 186 rfl (fun h_183 => ?_) (fun h_183 => ?_)
                                  · skip
                                    exact ww_vreE C hr dX11_readRule_216 ((r, 1, (nI (sa T u st (t2 + 2))), a2, rt2, sy)) (MrQ_no (qq := _) ((show gR (kp T A) (nv T A) r t = (1, t2 + 2, n, τ) from by rw [hgr, gA_not ha, gS, if_neg (fun q => q hg), if_neg (fun q => q hg3), if_pos hg4])) (show ¬ (1 : Int32) = 0 by decide)) rfl (by first | (rw [(show gR (kp T A) (nv T A) r t = (1, t2 + 2, n, τ) from by rw [hgr, gA_not ha, gS, if_neg (fun q => q hg), if_neg (fun q => q hg3), if_pos hg4])]; done) | (rw [(show gR (kp T A) (nv T A) r t = (1, t2 + 2, n, τ) from by rw [hgr, gA_not ha, gS, if_neg (fun q => q hg), if_neg (fun q => q hg3), if_pos hg4])]; rfl))
                                  · exact absurd h_183 (show ¬ (1 : Int32) = 0 by decide)
                                · exact absurd ((so_4 hTk (t2 + 2)).mp h_168) hg4
                          · skip
                            refine ww_callV2 C (c_X11_num_no l Γ (q := q) (I := flI I r 0 p2) (t := t2 + 1) h18 hu hTk hby rfl hg3) mi_X11_numberIn im_X11_numberIn se_X11_numberIn ml_X11_168 dX11_readRule_147 0 rfl rfl rfl (Nat.le_of_ble_eq_true rfl) (Nat.le_of_ble_eq_true rfl) (Nat.le_of_ble_eq_true rfl) ⟨Nat.zero_le _, Nat.zero_le _⟩ [0, 1] rfl (by decide) rfl 150 rfl ?_
                            refine ww_eq (ws' := [wMo hm q (tokI (flI I (r) (gN (kp T A) (nv T A) (t2 + 1) 0 9999) ((nI (sa T u st (t2 + 1))))) T u st ln (A 2) (t2 + 1)), (q 15, .inl (Γ.2.1, 400, .inl tp)), (q 12, .inl (Γ.2.1, 15, .inl (a2))), (q 13, .inl (Γ.2.1, 180, .inl (rt2))), (q 14, .inl (Γ.2.1, 15, .inl (sy)))]) rfl rfl rfl ?_
                            refine ww_goto C 154 dX11_readRule_150 (by decide) ?_
                            refine ww_istore_n (i := 2) C dX11_readRule_154 rfl (by decide) rfl 155 rfl ?_
                            refine ww_aload_n (i := 0) C dX11_readRule_155 rfl rfl 156 rfl ?_
                            refine ww_get C fe_X11_137 dX11_readRule_156 0 rfl rfl 159 rfl ?_
                            refine ww_if_ne C 179 dX11_readRule_159 (by decide) 162 rfl (fun h_159 => ?_) (fun h_159 => ?_)
                            · skip
                              refine ww_aload_n (i := 0) C dX11_readRule_179 rfl rfl 180 rfl ?_
                              refine ww_get C fe_X11_137 dX11_readRule_180 0 rfl rfl 183 rfl ?_
                              refine ww_if_ne C 216 dX11_readRule_183 (by decide) 186 rfl (fun h_183 => ?_) (fun h_183 => ?_)
                              · skip
                                exact ww_vreE C hr dX11_readRule_216 ((r, gN (kp T A) (nv T A) (t2 + 1) 0 9999, (nI (sa T u st (t2 + 1))), a2, rt2, sy)) (MrQ_no (qq := _) ((show gR (kp T A) (nv T A) r t = (gN (kp T A) (nv T A) (t2 + 1) 0 9999, t2 + 1, n, τ) from by rw [hgr, gA_not ha, gS, if_neg (fun q => q hg), if_pos hg3])) hg3) rfl (by first | (rw [(show gR (kp T A) (nv T A) r t = (gN (kp T A) (nv T A) (t2 + 1) 0 9999, t2 + 1, n, τ) from by rw [hgr, gA_not ha, gS, if_neg (fun q => q hg), if_pos hg3])]; done) | (rw [(show gR (kp T A) (nv T A) r t = (gN (kp T A) (nv T A) (t2 + 1) 0 9999, t2 + 1, n, τ) from by rw [hgr, gA_not ha, gS, if_neg (fun q => q hg), if_pos hg3])]; rfl))
                              · exact absurd h_183 hg3
                            · exact absurd h_159 hg3
                    · skip
                      refine ww_ldc2 C cn_X11_180 dX11_readRule_120 123 rfl ?_
                      refine ww_lcmp C dX11_readRule_123 124 rfl ?_
                      refine ww_if_ne C 131 dX11_readRule_124 (by decide) 127 rfl (fun h_124 => ?_) (fun h_124 => ?_)
                      · skip
                        refine ww_iconst (v := 0) C dX11_readRule_131 (by decide) 132 rfl ?_
                        refine ww_callV1v C (c_X11_need_no l Γ (q := q) (I := tokI (flI I r (0) (p2)) T u st ln (A 2) (t2)) rfl) mi_X11_need im_X11_need se_X11_need ml_X11_149 dX11_readRule_132 0 rfl rfl rfl (Nat.le_of_ble_eq_true rfl) (Nat.le_of_ble_eq_true rfl) (Nat.le_of_ble_eq_true rfl) ⟨Nat.zero_le _, Nat.zero_le _⟩ [0] rfl (by decide) rfl 135 rfl ?_
                        refine ww_eq (ws' := [wMo hm q (tokI (flI I (r) (1) ((nI (sa T u st (t2))))) T u st ln (A 2) (t2)), (q 15, .inl (Γ.2.1, 400, .inl tp)), (q 12, .inl (Γ.2.1, 15, .inl (a2))), (q 13, .inl (Γ.2.1, 180, .inl (rt2))), (q 14, .inl (Γ.2.1, 15, .inl (sy)))]) rfl rfl rfl ?_
                        refine ww_aload_n (i := 0) C dX11_readRule_135 rfl rfl 136 rfl ?_
                        refine ww_get C fe_X11_137 dX11_readRule_136 0 rfl rfl 139 rfl ?_
                        refine ww_if_ne C 153 dX11_readRule_139 (by decide) 142 rfl (fun h_139 => ?_) (fun h_139 => ?_)
                        · skip
                          refine ww_iconst (v := 0) C dX11_readRule_153 (by decide) 154 rfl ?_
                          refine ww_istore_n (i := 2) C dX11_readRule_154 rfl (by decide) rfl 155 rfl ?_
                          refine ww_aload_n (i := 0) C dX11_readRule_155 rfl rfl 156 rfl ?_
                          refine ww_get C fe_X11_137 dX11_readRule_156 0 rfl rfl 159 rfl ?_
                          refine ww_if_ne C 179 dX11_readRule_159 (by decide) 162 rfl (fun h_159 => ?_) (fun h_159 => ?_)
                          · skip
                            refine ww_aload_n (i := 0) C dX11_readRule_179 rfl rfl 180 rfl ?_
                            refine ww_get C fe_X11_137 dX11_readRule_180 0 rfl rfl 183 rfl ?_
                            refine ww_if_ne C 216 dX11_readRule_183 (by decide) 186 rfl (fun h_183 => ?_) (fun h_183 => ?_)
                            · skip
                              exact ww_vreE C hr dX11_readRule_216 ((r, 1, (nI (sa T u st (t2))), a2, rt2, sy)) (MrQ_no (qq := _) ((show gR (kp T A) (nv T A) r t = (1, t2, n, τ) from by rw [hgr, gA_not ha, gS, if_pos hg])) (show ¬ (1 : Int32) = 0 by decide)) rfl (by first | (rw [(show gR (kp T A) (nv T A) r t = (1, t2, n, τ) from by rw [hgr, gA_not ha, gS, if_pos hg])]; done) | (rw [(show gR (kp T A) (nv T A) r t = (1, t2, n, τ) from by rw [hgr, gA_not ha, gS, if_pos hg])]; rfl))
                            · exact absurd h_183 (show ¬ (1 : Int32) = 0 by decide)
                          · exact absurd h_159 (show ¬ (1 : Int32) = 0 by decide)
                        · exact absurd h_139 (show ¬ (1 : Int32) = 0 by decide)
                      · exact absurd ((wdk hTk (t2) (W := 7561593) rfl rfl (by decide) (by decide)).mp h_124) hg
                · skip
                  have hand : kp T A t2 = 6385252 := (wdk hTk (t2) (W := 6385252) rfl rfl (by decide) (by decide)).mp h_77
                  have hl2 := kp_lt2 hand (by decide)
                  refine ww_iload_n (i := 1) C dX11_readRule_80 rfl rfl 81 rfl ?_
                  refine ww_iconst (v := 4) C dX11_readRule_81 (by decide) 82 rfl ?_
                  refine ww_icmp_ne C 93 dX11_readRule_82 (by decide) 85 rfl (fun h_82 => ?_) (fun h_82 => ?_)
                  · skip
                    have hn3 : n < 4 := by
                      rcases Nat.lt_or_ge n 4 with z | z
                      · exact z
                      · exact absurd (by rw [show n = 4 by omega]; rfl) h_82
                    refine ww_aload_n (i := 0) C dX11_readRule_93 rfl rfl 94 rfl ?_
                    refine ww_callV0v C (c_X11_step l Γ (q := q) (I := tokI (flI I r (0) (p2)) T u st ln (A 2) (t2)) (t := t2 + 1) (ty := A 2) (T := T) (u := u) (st := st) (ln := ln) h18 hu hTk.1 hby hl2 rfl) mi_X11_step im_X11_step se_X11_step ml_X11_146 dX11_readRule_94 0 rfl rfl rfl (Nat.le_of_ble_eq_true rfl) (Nat.le_of_ble_eq_true rfl) (Nat.le_of_ble_eq_true rfl) ⟨Nat.zero_le _, Nat.zero_le _⟩ [0, 1] rfl (by decide) rfl 97 rfl ?_
                    refine ww_eq (ws' := [wMo hm q (tokI (flI I (r) (0) (p2)) T u st ln (A 2) (t2 + 1)), (q 15, .inl (Γ.2.1, 400, .inl tp)), (q 12, .inl (Γ.2.1, 15, .inl (a2))), (q 13, .inl (Γ.2.1, 180, .inl (rt2))), (q 14, .inl (Γ.2.1, 15, .inl (sy)))]) rfl rfl rfl ?_
                    refine ww_aload_n (i := 0) C dX11_readRule_97 rfl rfl 98 rfl ?_
                    refine ww_iload_n (i := 1) C dX11_readRule_98 rfl rfl 99 rfl ?_
                    refine ww_callE1v C (c_X11_readTest l Γ (q := q) (I := I) (t := t2 + 1) (r := r) (n := n) (fp := p2) (rt := rt2) h18 hu hTk hby hl2 hn hn3) mi_X11_readTest im_X11_readTest se_X11_readTest ml_X11_176 dX11_readRule_99 0 rfl rfl rfl (Nat.le_of_ble_eq_true rfl) (Nat.le_of_ble_eq_true rfl) (Nat.le_of_ble_eq_true rfl) ⟨Nat.zero_le _, Nat.zero_le _⟩ [0, 1, 3] rfl (by decide) (fun _ => rfl) 102 rfl (fun x_99 hx_99 => ?_)
                    refine ww_eq (ws' := [wMo hm q (tokI (flI I (r) (x_99.1) (x_99.2.1)) T u st ln (A 2) ((gT (kp T A) (nv T A) (t2 + 1)).2)), (q 15, .inl (Γ.2.1, 400, .inl tp)), (q 12, .inl (Γ.2.1, 15, .inl (a2))), (q 13, .inl (Γ.2.1, 180, .inl (x_99.2.2))), (q 14, .inl (Γ.2.1, 15, .inl (sy)))]) rfl rfl rfl ?_
                    obtain ⟨f3, p3, rt3⟩ := x_99
                    obtain ⟨ef, hno, hok⟩ := hx_99
                    dsimp only at ef hno hok ⊢
                    by_cases hf3 : f3 = 0
                    · skip
                      subst hf3
                      obtain ⟨hle3, hrt3⟩ := hok rfl
                      refine ww_iinc (y := 1) C dX11_readRule_102 rfl (by decide) (by decide) rfl 105 rfl ?_
                      refine ww_goto C 62 dX11_readRule_105 (by decide) ?_
                      refine ww_eq rfl (by rw [nI_succ n]; rfl) rfl (ih (n + 1, (gT (kp T A) (nv T A) (t2 + 1)).2, p3, rt3, upN τ n (t2 + 1)) ⟨by omega, by omega, hle3, ?_, ?_, ?_⟩ (by show 4 - (n + 1) < 4 - n; omega))
                      · rw [hgr, show 4 - n = (4 - (n + 1)) + 1 by omega, gA, if_pos hand, if_neg (fun z => z ef.symm)]
                      · show MPart _ _ rt3 _ _ _
                        rw [hrt3]; exact hpt.step
                      · intro i hi
                        show rt3 i = rt i
                        rw [hrt3, upd3_lo hi]; exact hkp i hi
                    · skip
                      obtain ⟨ep, hle3⟩ := hno hf3
                      subst ep
                      have hE := (show gR (kp T A) (nv T A) r t = ((gT (kp T A) (nv T A) (t2 + 1)).1, (gT (kp T A) (nv T A) (t2 + 1)).2, n, τ) from by rw [hgr, show 4 - n = (4 - (n + 1)) + 1 by omega, gA, if_pos hand, if_pos (fun z => hf3 (ef.trans z))])
                      rw [← ef] at hE
                      refine ww_iinc (y := 1) C dX11_readRule_102 rfl (by decide) (by decide) rfl 105 rfl ?_
                      refine ww_goto C 62 dX11_readRule_105 (by decide) ?_
                      skip
                      refine ww_aload_n (i := 0) C dX11_readRule_62 rfl rfl 63 rfl ?_
                      refine ww_get C fe_X11_137 dX11_readRule_63 0 rfl rfl 66 rfl ?_
                      refine ww_if_ne C 108 dX11_readRule_66 (by decide) 69 rfl (fun h_66 => ?_) (fun h_66 => ?_)
                      · skip
                        skip
                        refine ww_aload_n (i := 0) C dX11_readRule_108 rfl rfl 109 rfl ?_
                        refine ww_get C fe_X11_137 dX11_readRule_109 0 rfl rfl 112 rfl ?_
                        refine ww_if_ne C 135 dX11_readRule_112 (by decide) 115 rfl (fun h_112 => ?_) (fun h_112 => ?_)
                        · skip
                          refine ww_aload_n (i := 0) C dX11_readRule_135 rfl rfl 136 rfl ?_
                          refine ww_get C fe_X11_137 dX11_readRule_136 0 rfl rfl 139 rfl ?_
                          refine ww_if_ne C 153 dX11_readRule_139 (by decide) 142 rfl (fun h_139 => ?_) (fun h_139 => ?_)
                          · skip
                            refine ww_iconst (v := 0) C dX11_readRule_153 (by decide) 154 rfl ?_
                            refine ww_istore_n (i := 2) C dX11_readRule_154 rfl (by decide) rfl 155 rfl ?_
                            refine ww_aload_n (i := 0) C dX11_readRule_155 rfl rfl 156 rfl ?_
                            refine ww_get C fe_X11_137 dX11_readRule_156 0 rfl rfl 159 rfl ?_
                            refine ww_if_ne C 179 dX11_readRule_159 (by decide) 162 rfl (fun h_159 => ?_) (fun h_159 => ?_)
                            · skip
                              refine ww_aload_n (i := 0) C dX11_readRule_179 rfl rfl 180 rfl ?_
                              refine ww_get C fe_X11_137 dX11_readRule_180 0 rfl rfl 183 rfl ?_
                              refine ww_if_ne C 216 dX11_readRule_183 (by decide) 186 rfl (fun h_183 => ?_) (fun h_183 => ?_)
                              · skip
                                exact ww_vreE C hr dX11_readRule_216 ((r, f3, (nI (sa T u st ((gT (kp T A) (nv T A) (t2 + 1)).2))), a2, rt3, sy)) (MrQ_no (qq := _) (hE) hf3) rfl (by first | (rw [hE]; done) | (rw [hE]; rfl))
                              · exact absurd h_183 hf3
                            · exact absurd h_159 hf3
                          · exact absurd h_139 hf3
                        · exact absurd h_112 hf3
                      · exact absurd h_66 hf3
                  · skip
                    obtain rfl : n = 4 := (nI_eq (b := 4) (by omega) (by decide)).mp h_82
                    refine ww_aload_n (i := 0) C dX11_readRule_85 rfl rfl 86 rfl ?_
                    refine ww_iconst (v := 3) C dX11_readRule_86 (by decide) 87 rfl ?_
                    refine ww_callV1v C (c_X11_bad_0 l Γ (q := q) (I := tokI (flI I r (0) (p2)) T u st ln (A 2) (t2)) rfl) mi_X11_bad im_X11_bad se_X11_bad ml_X11_143 dX11_readRule_87 0 rfl rfl rfl (Nat.le_of_ble_eq_true rfl) (Nat.le_of_ble_eq_true rfl) (Nat.le_of_ble_eq_true rfl) ⟨Nat.zero_le _, Nat.zero_le _⟩ [0] rfl (by decide) rfl 90 rfl ?_
                    refine ww_eq (ws' := [wMo hm q (tokI (flI I (r) (3) ((nI (sa T u st (t2))))) T u st ln (A 2) (t2)), (q 15, .inl (Γ.2.1, 400, .inl tp)), (q 12, .inl (Γ.2.1, 15, .inl (a2))), (q 13, .inl (Γ.2.1, 180, .inl (rt2))), (q 14, .inl (Γ.2.1, 15, .inl (sy)))]) rfl rfl rfl ?_
                    skip
                    · skip
                      have hE : gR (kp T A) (nv T A) r t = (3, t2, 4, τ) := by rw [hgr, gA, if_pos hand]
                      refine ww_goto C 62 dX11_readRule_90 (by decide) ?_
                      skip
                      refine ww_aload_n (i := 0) C dX11_readRule_62 rfl rfl 63 rfl ?_
                      refine ww_get C fe_X11_137 dX11_readRule_63 0 rfl rfl 66 rfl ?_
                      refine ww_if_ne C 108 dX11_readRule_66 (by decide) 69 rfl (fun h_66 => ?_) (fun h_66 => ?_)
                      · skip
                        skip
                        refine ww_aload_n (i := 0) C dX11_readRule_108 rfl rfl 109 rfl ?_
                        refine ww_get C fe_X11_137 dX11_readRule_109 0 rfl rfl 112 rfl ?_
                        refine ww_if_ne C 135 dX11_readRule_112 (by decide) 115 rfl (fun h_112 => ?_) (fun h_112 => ?_)
                        · skip
                          refine ww_aload_n (i := 0) C dX11_readRule_135 rfl rfl 136 rfl ?_
                          refine ww_get C fe_X11_137 dX11_readRule_136 0 rfl rfl 139 rfl ?_
                          refine ww_if_ne C 153 dX11_readRule_139 (by decide) 142 rfl (fun h_139 => ?_) (fun h_139 => ?_)
                          · skip
                            refine ww_iconst (v := 0) C dX11_readRule_153 (by decide) 154 rfl ?_
                            refine ww_istore_n (i := 2) C dX11_readRule_154 rfl (by decide) rfl 155 rfl ?_
                            refine ww_aload_n (i := 0) C dX11_readRule_155 rfl rfl 156 rfl ?_
                            refine ww_get C fe_X11_137 dX11_readRule_156 0 rfl rfl 159 rfl ?_
                            refine ww_if_ne C 179 dX11_readRule_159 (by decide) 162 rfl (fun h_159 => ?_) (fun h_159 => ?_)
                            · skip
                              refine ww_aload_n (i := 0) C dX11_readRule_179 rfl rfl 180 rfl ?_
                              refine ww_get C fe_X11_137 dX11_readRule_180 0 rfl rfl 183 rfl ?_
                              refine ww_if_ne C 216 dX11_readRule_183 (by decide) 186 rfl (fun h_183 => ?_) (fun h_183 => ?_)
                              · skip
                                exact ww_vreE C hr dX11_readRule_216 ((r, 3, (nI (sa T u st (t2))), a2, rt2, sy)) (MrQ_no (qq := _) (hE) (show ¬ (3 : Int32) = 0 by decide)) rfl (by first | (rw [hE]; done) | (rw [hE]; rfl))
                              · exact absurd h_183 (show ¬ (3 : Int32) = 0 by decide)
                            · exact absurd h_159 (show ¬ (3 : Int32) = 0 by decide)
                          · exact absurd h_139 (show ¬ (3 : Int32) = 0 by decide)
                        · exact absurd h_112 (show ¬ (3 : Int32) = 0 by decide)
                      · exact absurd h_66 (show ¬ (3 : Int32) = 0 by decide)
            · skip
              obtain ⟨ep, hle1⟩ := hno hf3
              subst ep
              have hE := (show gR (kp T A) (nv T A) r t = ((gT (kp T A) (nv T A) (t + 1)).1, (gT (kp T A) (nv T A) (t + 1)).2, 0, fun _ => 0) from by rw [gR, if_neg (fun q => q hC.1), if_neg (by omega), if_pos (fun z => hf3 (ef.trans z))])
              rw [← ef] at hE
              refine ww_iinc (y := 1) C dX11_readRule_59 rfl (by decide) (by decide) rfl 62 rfl ?_
              skip
              refine ww_aload_n (i := 0) C dX11_readRule_62 rfl rfl 63 rfl ?_
              refine ww_get C fe_X11_137 dX11_readRule_63 0 rfl rfl 66 rfl ?_
              refine ww_if_ne C 108 dX11_readRule_66 (by decide) 69 rfl (fun h_66 => ?_) (fun h_66 => ?_)
              · skip
                skip
                refine ww_aload_n (i := 0) C dX11_readRule_108 rfl rfl 109 rfl ?_
                refine ww_get C fe_X11_137 dX11_readRule_109 0 rfl rfl 112 rfl ?_
                refine ww_if_ne C 135 dX11_readRule_112 (by decide) 115 rfl (fun h_112 => ?_) (fun h_112 => ?_)
                · skip
                  refine ww_aload_n (i := 0) C dX11_readRule_135 rfl rfl 136 rfl ?_
                  refine ww_get C fe_X11_137 dX11_readRule_136 0 rfl rfl 139 rfl ?_
                  refine ww_if_ne C 153 dX11_readRule_139 (by decide) 142 rfl (fun h_139 => ?_) (fun h_139 => ?_)
                  · skip
                    refine ww_iconst (v := 0) C dX11_readRule_153 (by decide) 154 rfl ?_
                    refine ww_istore_n (i := 2) C dX11_readRule_154 rfl (by decide) rfl 155 rfl ?_
                    refine ww_aload_n (i := 0) C dX11_readRule_155 rfl rfl 156 rfl ?_
                    refine ww_get C fe_X11_137 dX11_readRule_156 0 rfl rfl 159 rfl ?_
                    refine ww_if_ne C 179 dX11_readRule_159 (by decide) 162 rfl (fun h_159 => ?_) (fun h_159 => ?_)
                    · skip
                      refine ww_aload_n (i := 0) C dX11_readRule_179 rfl rfl 180 rfl ?_
                      refine ww_get C fe_X11_137 dX11_readRule_180 0 rfl rfl 183 rfl ?_
                      refine ww_if_ne C 216 dX11_readRule_183 (by decide) 186 rfl (fun h_183 => ?_) (fun h_183 => ?_)
                      · skip
                        exact ww_vreE C hr dX11_readRule_216 ((r, f3, (nI (sa T u st ((gT (kp T A) (nv T A) (t + 1)).2))), a2, rt3, sy)) (MrQ_no (qq := _) (hE) hf3) rfl (by first | (rw [hE]; done) | (rw [hE]; rfl))
                      · exact absurd h_183 hf3
                    · exact absurd h_159 hf3
                  · exact absurd h_139 hf3
                · exact absurd h_112 hf3
              · exact absurd h_66 hf3
      · exact absurd ((nI_eq (b := 15) (by omega) (by decide)).mp h_17) (by omega)
