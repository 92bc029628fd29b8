/-- the sort of a byte: 0 between, 1 a letter, 2 a figure, 3 the sign, 4 another -/
def s_srt (x : Int32) : Int32 := if x = 32 then 0 else if x = 10 then 0 else if ¬ x < 97 ∧ ¬ 122 < x then 1 else if ¬ x < 48 ∧ ¬ 57 < x then 2 else if x = 59 then 3 else 4
def s_join (b : Nat → Int32) (p : Nat) (base zero : Int32) : Nat → Int32
  | 0 => 0
  | k + 1 => s_join b p base zero k * base + b (p + k) - zero
def s_kd (ty : Int32) (L : Nat) (b : Nat → Int32) (p : Nat) : Int32 := if ty = 1 ∧ L ≤ 4 then s_join b p 256 0 L else if ty = 2 ∧ L ≤ 4 then 1 else if ty = 3 then 2 else 3
def s_vl (ty : Int32) (L : Nat) (b : Nat → Int32) (p : Nat) : Int32 := if ty = 1 ∧ L ≤ 4 then 0 else if ty = 2 ∧ L ≤ 4 then s_join b p 10 48 L else 0
def upN (f : Nat → Nat) (k v : Nat) : Nat → Nat := fun j => if j = k then v else f j
theorem upN_s (f : Nat → Nat) (k v : Nat) : upN f k v k = v := if_pos rfl
theorem upN_n (f : Nat → Nat) {k j : Nat} (v : Nat) (h : j ≠ k) : upN f k v j = f j := if_neg h
/-- the first i bytes, cut into T tokens: where they begin, how long they are, their sorts -/
def TI (b : Nat → Int32) (i T : Nat) (st ln : Nat → Nat) (ty : Nat → Int32) : Prop :=
  T ≤ i ∧
  (∀ t, t < T → 1 ≤ ln t ∧ st t + ln t ≤ i ∧ ty t ≠ 0 ∧ (∀ j, st t ≤ j → j < st t + ln t → s_srt (b j) = ty t) ∧ (ty t ≠ 1 → ty t ≠ 2 → ln t = 1)) ∧
  (∀ t, t + 1 < T → st t + ln t ≤ st (t + 1) ∧ (∀ j, st t + ln t ≤ j → j < st (t + 1) → s_srt (b j) = 0) ∧ (st t + ln t = st (t + 1) → ¬ (ty t = ty (t + 1) ∧ (ty t = 1 ∨ ty t = 2)))) ∧
  (∀ j, (T = 0 ∨ j < st 0) → j < i → s_srt (b j) = 0) ∧
  (∀ j, 0 < T → st (T - 1) + ln (T - 1) ≤ j → j < i → s_srt (b j) = 0)
def s_bf (b : Nat → Int32) : Nat → Int32
  | 0 => 0
  | i + 1 => s_srt (b i)
theorem TI_0 (b : Nat → Int32) (st ln : Nat → Nat) (ty : Nat → Int32) : TI b 0 0 st ln ty := ⟨Nat.le_refl _, fun t h => absurd h (Nat.not_lt_zero t), fun t h => absurd h (Nat.not_lt_zero _), fun j _ h => absurd h (Nat.not_lt_zero j), fun j h => absurd h (Nat.not_lt_zero _)⟩
theorem TI_blank {b : Nat → Int32} {i T : Nat} {st ln : Nat → Nat} {ty : Nat → Int32} (h : TI b i T st ln ty) (hz : s_srt (b i) = 0) : TI b (i + 1) T st ln ty := by
  obtain ⟨h1, h2, h3, h4, h5⟩ := h
  refine ⟨by omega, fun t ht => ?_, h3, fun j hj hi => ?_, fun j h0 hj hi => ?_⟩
  · obtain ⟨a1, a2, a3⟩ := h2 t ht
    exact ⟨a1, by omega, a3⟩
  · rcases Nat.lt_or_ge j i with q | q
    · exact h4 j hj q
    · rw [show j = i by omega]; exact hz
  · rcases Nat.lt_or_ge j i with q | q
    · exact h5 j h0 hj q
    · rw [show j = i by omega]; exact hz
theorem TI_new {b : Nat → Int32} {i T : Nat} {st ln : Nat → Nat} {ty : Nat → Int32} (h : TI b i T st ln ty) (hz : s_srt (b i) ≠ 0) (hn : ¬ (s_srt (b i) = s_bf b i ∧ (s_srt (b i) = 1 ∨ s_srt (b i) = 2))) : TI b (i + 1) (T + 1) (upN st T i) (upN ln T 1) (upd ty T (s_srt (b i))) := by
  obtain ⟨h1, h2, h3, h4, h5⟩ := h
  refine ⟨by omega, fun t ht => ?_, fun t ht => ?_, fun j hj hi => ?_, fun j h0 hj hi => ?_⟩
  · by_cases e : t = T
    · subst e
      rw [upN_s, upN_s, pk_us]
      refine ⟨Nat.le_refl _, Nat.le_refl _, hz, fun j a b1 => ?_, fun _ _ => rfl⟩
      rw [show j = i by omega]
    · rw [upN_n _ _ e, upN_n _ _ e, pk_un e]
      obtain ⟨a1, a2, a3⟩ := h2 t (by omega)
      exact ⟨a1, by omega, a3⟩
  · have e : t ≠ T := by omega
    rw [upN_n _ _ e, upN_n _ _ e, pk_un e]
    by_cases e2 : t + 1 = T
    · subst e2
      rw [upN_s, pk_us]
      obtain ⟨a1, a2, a3, a4, a5⟩ := h2 t (by omega)
      refine ⟨a2, fun j c1 c2 => h5 j (by omega) (by simpa using c1) c2, fun c1 c2 => hn ?_⟩
      have hi : i = (i - 1) + 1 := by omega
      have hb : s_bf b i = ty t := by
        rw [hi, s_bf]
        exact a4 (i - 1) (by omega) (by omega)
      rw [hb]
      exact ⟨c2.1.symm, by rw [← c2.1]; exact c2.2⟩
    · rw [upN_n _ _ e2, pk_un e2]
      exact h3 t (by omega)
  · rcases Nat.lt_or_ge j i with q | q
    · refine h4 j ?_ q
      rcases hj with hj | hj
      · omega
      · by_cases e : 0 = T
        · exact Or.inl e.symm
        · rw [upN_n _ _ e] at hj; exact Or.inr hj
    · exfalso
      rcases hj with hj | hj
      · omega
      · by_cases e : 0 = T
        · subst e; rw [upN_s] at hj; omega
        · rw [upN_n _ _ e] at hj
          have := h2 0 (by omega)
          omega
  · rw [show T + 1 - 1 = T from rfl, upN_s, upN_s] at hj
    omega
theorem TI_on {b : Nat → Int32} {i T : Nat} {st ln : Nat → Nat} {ty : Nat → Int32} (h : TI b i T st ln ty) (hz : s_srt (b i) ≠ 0) (hn : s_srt (b i) = s_bf b i) (h12 : s_srt (b i) = 1 ∨ s_srt (b i) = 2) : 0 < T ∧ TI b (i + 1) T st (upN ln (T - 1) (ln (T - 1) + 1)) ty := by
  obtain ⟨h1, h2, h3, h4, h5⟩ := h
  have hi : 0 < i := by
    rcases Nat.eq_zero_or_pos i with q | q
    · subst q; exact absurd hn hz
    · exact q
  have hi2 : i = (i - 1) + 1 := by omega
  rw [hi2, s_bf, ← hi2] at hn
  have hT : 0 < T := by
    rcases Nat.eq_zero_or_pos T with q | q
    · exact absurd (hn.trans (h4 (i - 1) (Or.inl q) (by omega))) hz
    · exact q
  have hend : st (T - 1) + ln (T - 1) = i := by
    obtain ⟨a1, a2, -⟩ := h2 (T - 1) (by omega)
    rcases Nat.lt_or_ge (st (T - 1) + ln (T - 1)) i with q | q
    · exact absurd (hn.trans (h5 (i - 1) hT (by omega) (by omega))) hz
    · omega
  refine ⟨hT, by omega, fun t ht => ?_, fun t ht => ?_, fun j hj hji => ?_, fun j h0 hj hji => ?_⟩
  · obtain ⟨a1, a2, a3, a4, a5⟩ := h2 t ht
    by_cases e : t = T - 1
    · subst e
      rw [upN_s]
      have ety : s_srt (b i) = ty (T - 1) := hn.trans (a4 (i - 1) (by omega) (by omega))
      refine ⟨by omega, by omega, a3, fun j c1 c2 => ?_, fun c1 c2 => ?_⟩
      · rcases Nat.lt_or_ge j i with q | q
        · exact a4 j c1 (by omega)
        · rw [show j = i by omega]; exact ety
      · rcases h12 with q | q
        · exact absurd (ety.symm.trans q) c1
        · exact absurd (ety.symm.trans q) c2
    · rw [upN_n _ _ e]
      exact ⟨a1, by omega, a3, a4, a5⟩
  · rw [upN_n _ _ (show t ≠ T - 1 by omega)]
    exact h3 t ht
  · rcases Nat.lt_or_ge j i with q | q
    · exact h4 j hj q
    · exfalso
      rcases hj with hj | hj
      · omega
      · by_cases e : T - 1 = 0
        · rw [e] at hend; omega
        · have := (h2 0 (by omega)).2.1
          omega
  · rw [upN_s] at hj
    omega
theorem c_X9_sortOf (l : Launch) (Γ : Gm) {x : Int32}  : Ct l Γ yX9_sortOf cX9_sortOf 1 (some .int) 0 [.int x] [] (some (.int (s_srt x))) [] := by
  refine Ct.of mi_X9_sortOf [some (.int x)] 0 rfl (Nat.le_of_ble_eq_true rfl) ?_
  intro p e s m args below meth c C hr
  refine ww_iload_n (i := 0) C dX9_sortOf_0 rfl rfl 1 rfl ?_
  refine ww_bipush (v := 32) C dX9_sortOf_1 (by decide) 3 rfl ?_
  refine ww_icmp_eq C 12 dX9_sortOf_3 (by decide) 6 rfl (fun h_3 => ?_) (fun h_3 => ?_)
  · skip
    refine ww_iconst (v := 0) C dX9_sortOf_12 (by decide) 13 rfl ?_
    exact ww_iret C hr dX9_sortOf_13 (by simp [s_srt, *]) rfl
  · skip
    refine ww_iload_n (i := 0) C dX9_sortOf_6 rfl rfl 7 rfl ?_
    refine ww_bipush (v := 10) C dX9_sortOf_7 (by decide) 9 rfl ?_
    refine ww_icmp_ne C 14 dX9_sortOf_9 (by decide) 12 rfl (fun h_9 => ?_) (fun h_9 => ?_)
    · skip
      refine ww_iload_n (i := 0) C dX9_sortOf_14 rfl rfl 15 rfl ?_
      refine ww_bipush (v := 97) C dX9_sortOf_15 (by decide) 17 rfl ?_
      refine ww_icmp_lt C 28 dX9_sortOf_17 (by decide) 20 rfl (fun h_17 => ?_) (fun h_17 => ?_)
      · skip
        refine ww_iload_n (i := 0) C dX9_sortOf_28 rfl rfl 29 rfl ?_
        refine ww_bipush (v := 48) C dX9_sortOf_29 (by decide) 31 rfl ?_
        refine ww_icmp_lt C 42 dX9_sortOf_31 (by decide) 34 rfl (fun h_31 => ?_) (fun h_31 => ?_)
        · skip
          refine ww_iload_n (i := 0) C dX9_sortOf_42 rfl rfl 43 rfl ?_
          refine ww_bipush (v := 59) C dX9_sortOf_43 (by decide) 45 rfl ?_
          refine ww_icmp_ne C 52 dX9_sortOf_45 (by decide) 48 rfl (fun h_45 => ?_) (fun h_45 => ?_)
          · skip
            refine ww_iconst (v := 4) C dX9_sortOf_52 (by decide) 53 rfl ?_
            exact ww_iret C hr dX9_sortOf_53 (by simp [s_srt, *]) rfl
          · skip
            refine ww_iconst (v := 3) C dX9_sortOf_48 (by decide) 49 rfl ?_
            refine ww_goto C 53 dX9_sortOf_49 (by decide) ?_
            exact ww_iret C hr dX9_sortOf_53 (by simp [s_srt, *]) rfl
        · skip
          refine ww_iload_n (i := 0) C dX9_sortOf_34 rfl rfl 35 rfl ?_
          refine ww_bipush (v := 57) C dX9_sortOf_35 (by decide) 37 rfl ?_
          refine ww_icmp_gt C 42 dX9_sortOf_37 (by decide) 40 rfl (fun h_37 => ?_) (fun h_37 => ?_)
          · skip
            refine ww_iload_n (i := 0) C dX9_sortOf_42 rfl rfl 43 rfl ?_
            refine ww_bipush (v := 59) C dX9_sortOf_43 (by decide) 45 rfl ?_
            refine ww_icmp_ne C 52 dX9_sortOf_45 (by decide) 48 rfl (fun h_45 => ?_) (fun h_45 => ?_)
            · skip
              refine ww_iconst (v := 4) C dX9_sortOf_52 (by decide) 53 rfl ?_
              exact ww_iret C hr dX9_sortOf_53 (by simp [s_srt, *]) rfl
            · skip
              refine ww_iconst (v := 3) C dX9_sortOf_48 (by decide) 49 rfl ?_
              refine ww_goto C 53 dX9_sortOf_49 (by decide) ?_
              exact ww_iret C hr dX9_sortOf_53 (by simp [s_srt, *]) rfl
          · skip
            refine ww_iconst (v := 2) C dX9_sortOf_40 (by decide) 41 rfl ?_
            exact ww_iret C hr dX9_sortOf_41 (by simp [s_srt, *]) rfl
      · skip
        refine ww_iload_n (i := 0) C dX9_sortOf_20 rfl rfl 21 rfl ?_
        refine ww_bipush (v := 122) C dX9_sortOf_21 (by decide) 23 rfl ?_
        refine ww_icmp_gt C 28 dX9_sortOf_23 (by decide) 26 rfl (fun h_23 => ?_) (fun h_23 => ?_)
        · skip
          refine ww_iload_n (i := 0) C dX9_sortOf_28 rfl rfl 29 rfl ?_
          refine ww_bipush (v := 48) C dX9_sortOf_29 (by decide) 31 rfl ?_
          refine ww_icmp_lt C 42 dX9_sortOf_31 (by decide) 34 rfl (fun h_31 => ?_) (fun h_31 => ?_)
          · skip
            refine ww_iload_n (i := 0) C dX9_sortOf_42 rfl rfl 43 rfl ?_
            refine ww_bipush (v := 59) C dX9_sortOf_43 (by decide) 45 rfl ?_
            refine ww_icmp_ne C 52 dX9_sortOf_45 (by decide) 48 rfl (fun h_45 => ?_) (fun h_45 => ?_)
            · skip
              refine ww_iconst (v := 4) C dX9_sortOf_52 (by decide) 53 rfl ?_
              exact ww_iret C hr dX9_sortOf_53 (by simp [s_srt, *]) rfl
            · skip
              refine ww_iconst (v := 3) C dX9_sortOf_48 (by decide) 49 rfl ?_
              refine ww_goto C 53 dX9_sortOf_49 (by decide) ?_
              exact ww_iret C hr dX9_sortOf_53 (by simp [s_srt, *]) rfl
          · skip
            refine ww_iload_n (i := 0) C dX9_sortOf_34 rfl rfl 35 rfl ?_
            refine ww_bipush (v := 57) C dX9_sortOf_35 (by decide) 37 rfl ?_
            refine ww_icmp_gt C 42 dX9_sortOf_37 (by decide) 40 rfl (fun h_37 => ?_) (fun h_37 => ?_)
            · skip
              refine ww_iload_n (i := 0) C dX9_sortOf_42 rfl rfl 43 rfl ?_
              refine ww_bipush (v := 59) C dX9_sortOf_43 (by decide) 45 rfl ?_
              refine ww_icmp_ne C 52 dX9_sortOf_45 (by decide) 48 rfl (fun h_45 => ?_) (fun h_45 => ?_)
              · skip
                refine ww_iconst (v := 4) C dX9_sortOf_52 (by decide) 53 rfl ?_
                exact ww_iret C hr dX9_sortOf_53 (by simp [s_srt, *]) rfl
              · skip
                refine ww_iconst (v := 3) C dX9_sortOf_48 (by decide) 49 rfl ?_
                refine ww_goto C 53 dX9_sortOf_49 (by decide) ?_
                exact ww_iret C hr dX9_sortOf_53 (by simp [s_srt, *]) rfl
            · skip
              refine ww_iconst (v := 2) C dX9_sortOf_40 (by decide) 41 rfl ?_
              exact ww_iret C hr dX9_sortOf_41 (by simp [s_srt, *]) rfl
        · skip
          refine ww_iconst (v := 1) C dX9_sortOf_26 (by decide) 27 rfl ?_
          exact ww_iret C hr dX9_sortOf_27 (by simp [s_srt, *]) rfl
    · skip
      refine ww_iconst (v := 0) C dX9_sortOf_12 (by decide) 13 rfl ?_
      exact ww_iret C hr dX9_sortOf_13 (by simp [s_srt, *]) rfl
theorem c_X9_kindOf (l : Launch) (Γ : Gm) {ht t0 t1 t2 t3 t4 T u : Nat} {k : Nat} {A3 : Nat → Int32} (hT : T ≤ 401) (hk : k < 1000) : Ct l Γ yX9_kindOf cX9_kindOf 2 (some .int) 0 [.ref ht, .int (nI k)] [(ht, .inr (7, [.ref t0, .ref t1, .ref t2, .ref t3, .ref t4, .int (nI T), .int (nI u)])), (t3, .inl (Γ.2.1, 401, .inl A3))] (some (.int (if k < T then A3 k else 0))) [(ht, .inr (7, [.ref t0, .ref t1, .ref t2, .ref t3, .ref t4, .int (nI T), .int (nI u)])), (t3, .inl (Γ.2.1, 401, .inl A3))] := by
  refine Ct.of mi_X9_kindOf [some (.ref ht), some (.int (nI k))] 0 rfl (Nat.le_of_ble_eq_true rfl) ?_
  intro p e s m args below meth c C hr
  refine ww_iload_n (i := 1) C dX9_kindOf_0 rfl rfl 1 rfl ?_
  refine ww_if_lt C 21 dX9_kindOf_1 (by decide) 4 rfl (fun h_1 => ?_) (fun h_1 => ?_)
  · exact absurd h_1 (nI_pos (by omega))
  · skip
    refine ww_iload_n (i := 1) C dX9_kindOf_4 rfl rfl 5 rfl ?_
    refine ww_aload_n (i := 0) C dX9_kindOf_5 rfl rfl 6 rfl ?_
    refine ww_get C fe_X9_27 dX9_kindOf_6 0 rfl rfl 9 rfl ?_
    refine ww_icmp_ge C 21 dX9_kindOf_9 (by decide) 12 rfl (fun h_9 => ?_) (fun h_9 => ?_)
    · skip
      have hge : ¬ k < T := fun q => absurd h_9 (nI_ge q (by omega))
      refine ww_iconst (v := 0) C dX9_kindOf_21 (by decide) 22 rfl ?_
      exact ww_iret C hr dX9_kindOf_22 (by first | rw [if_neg hge] | rw [if_pos hlt, nI_clamp (show k < 2 ^ 31 by omega)]) rfl
    · skip
      have hlt : k < T := ltN h_9 (by omega) (by omega)
      refine ww_aload_n (i := 0) C dX9_kindOf_12 rfl rfl 13 rfl ?_
      refine ww_get C fe_X9_21 dX9_kindOf_13 0 rfl rfl 16 rfl ?_
      refine ww_iload_n (i := 1) C dX9_kindOf_16 rfl rfl 17 rfl ?_
      refine ww_iald C dX9_kindOf_17 1 rfl (vp_in_nI (by omega) (by decide)) 18 rfl ?_
      refine ww_goto C 22 dX9_kindOf_18 (by decide) ?_
      exact ww_iret C hr dX9_kindOf_22 (by first | rw [if_neg hge] | rw [if_pos hlt, nI_clamp (show k < 2 ^ 31 by omega)]) rfl
theorem c_X9_valueOf (l : Launch) (Γ : Gm) {ht t0 t1 t2 t3 t4 T u : Nat} {k : Nat} {A4 : Nat → Int32} (hT : T ≤ 401) (hk : k < 1000) : Ct l Γ yX9_valueOf cX9_valueOf 2 (some .int) 0 [.ref ht, .int (nI k)] [(ht, .inr (7, [.ref t0, .ref t1, .ref t2, .ref t3, .ref t4, .int (nI T), .int (nI u)])), (t4, .inl (Γ.2.1, 401, .inl A4))] (some (.int (if k < T then A4 k else 0))) [(ht, .inr (7, [.ref t0, .ref t1, .ref t2, .ref t3, .ref t4, .int (nI T), .int (nI u)])), (t4, .inl (Γ.2.1, 401, .inl A4))] := by
  refine Ct.of mi_X9_valueOf [some (.ref ht), some (.int (nI k))] 0 rfl (Nat.le_of_ble_eq_true rfl) ?_
  intro p e s m args below meth c C hr
  refine ww_iload_n (i := 1) C dX9_valueOf_0 rfl rfl 1 rfl ?_
  refine ww_if_lt C 21 dX9_valueOf_1 (by decide) 4 rfl (fun h_1 => ?_) (fun h_1 => ?_)
  · exact absurd h_1 (nI_pos (by omega))
  · skip
    refine ww_iload_n (i := 1) C dX9_valueOf_4 rfl rfl 5 rfl ?_
    refine ww_aload_n (i := 0) C dX9_valueOf_5 rfl rfl 6 rfl ?_
    refine ww_get C fe_X9_27 dX9_valueOf_6 0 rfl rfl 9 rfl ?_
    refine ww_icmp_ge C 21 dX9_valueOf_9 (by decide) 12 rfl (fun h_9 => ?_) (fun h_9 => ?_)
    · skip
      have hge : ¬ k < T := fun q => absurd h_9 (nI_ge q (by omega))
      refine ww_iconst (v := 0) C dX9_valueOf_21 (by decide) 22 rfl ?_
      exact ww_iret C hr dX9_valueOf_22 (by first | rw [if_neg hge] | rw [if_pos hlt, nI_clamp (show k < 2 ^ 31 by omega)]) rfl
    · skip
      have hlt : k < T := ltN h_9 (by omega) (by omega)
      refine ww_aload_n (i := 0) C dX9_valueOf_12 rfl rfl 13 rfl ?_
      refine ww_get C fe_X9_24 dX9_valueOf_13 0 rfl rfl 16 rfl ?_
      refine ww_iload_n (i := 1) C dX9_valueOf_16 rfl rfl 17 rfl ?_
      refine ww_iald C dX9_valueOf_17 1 rfl (vp_in_nI (by omega) (by decide)) 18 rfl ?_
      refine ww_goto C 22 dX9_valueOf_18 (by decide) ?_
      exact ww_iret C hr dX9_valueOf_22 (by first | rw [if_neg hge] | rw [if_pos hlt, nI_clamp (show k < 2 ^ 31 by omega)]) rfl
theorem c_X9_startOf (l : Launch) (Γ : Gm) {ht t0 t1 t2 t3 t4 T u : Nat} {k : Nat} {A0 : Nat → Int32} (hT : T ≤ 401) (hk : k < 1000) : Ct l Γ yX9_startOf cX9_startOf 2 (some .int) 0 [.ref ht, .int (nI k)] [(ht, .inr (7, [.ref t0, .ref t1, .ref t2, .ref t3, .ref t4, .int (nI T), .int (nI u)])), (t0, .inl (Γ.2.1, 401, .inl A0))] (some (.int (if k < T then A0 k else nI u))) [(ht, .inr (7, [.ref t0, .ref t1, .ref t2, .ref t3, .ref t4, .int (nI T), .int (nI u)])), (t0, .inl (Γ.2.1, 401, .inl A0))] := by
  refine Ct.of mi_X9_startOf [some (.ref ht), some (.int (nI k))] 0 rfl (Nat.le_of_ble_eq_true rfl) ?_
  intro p e s m args below meth c C hr
  refine ww_iload_n (i := 1) C dX9_startOf_0 rfl rfl 1 rfl ?_
  refine ww_if_lt C 21 dX9_startOf_1 (by decide) 4 rfl (fun h_1 => ?_) (fun h_1 => ?_)
  · exact absurd h_1 (nI_pos (by omega))
  · skip
    refine ww_iload_n (i := 1) C dX9_startOf_4 rfl rfl 5 rfl ?_
    refine ww_aload_n (i := 0) C dX9_startOf_5 rfl rfl 6 rfl ?_
    refine ww_get C fe_X9_27 dX9_startOf_6 0 rfl rfl 9 rfl ?_
    refine ww_icmp_ge C 21 dX9_startOf_9 (by decide) 12 rfl (fun h_9 => ?_) (fun h_9 => ?_)
    · skip
      have hge : ¬ k < T := fun q => absurd h_9 (nI_ge q (by omega))
      refine ww_aload_n (i := 0) C dX9_startOf_21 rfl rfl 22 rfl ?_
      refine ww_get C fe_X9_31 dX9_startOf_22 0 rfl rfl 25 rfl ?_
      exact ww_iret C hr dX9_startOf_25 (by first | rw [if_neg hge] | rw [if_pos hlt, nI_clamp (show k < 2 ^ 31 by omega)]) rfl
    · skip
      have hlt : k < T := ltN h_9 (by omega) (by omega)
      refine ww_aload_n (i := 0) C dX9_startOf_12 rfl rfl 13 rfl ?_
      refine ww_get C fe_X9_11 dX9_startOf_13 0 rfl rfl 16 rfl ?_
      refine ww_iload_n (i := 1) C dX9_startOf_16 rfl rfl 17 rfl ?_
      refine ww_iald C dX9_startOf_17 1 rfl (vp_in_nI (by omega) (by decide)) 18 rfl ?_
      refine ww_goto C 25 dX9_startOf_18 (by decide) ?_
      exact ww_iret C hr dX9_startOf_25 (by first | rw [if_neg hge] | rw [if_pos hlt, nI_clamp (show k < 2 ^ 31 by omega)]) rfl
theorem upd_2 (f : Nat → Int32) (k : Nat) (x y : Int32) : upd (upd f k x) k y = upd f k y := by
  funext j
  simp only [upd]
  split <;> rfl
abbrev p_new (g : Int32) (T : Nat) : Prop := g = 0 ∨ T = 0
theorem c_X9_place (l : Launch) (Γ : Gm) {ht t0 t1 t2 t3 t4 T u : Nat} {x so g : Int32} {A0 A1 A2 : Nat → Int32} (hT : T ≤ 400) : Ct l Γ yX9_place cX9_place 4 none 0 [.ref ht, .int x, .int so, .int g] [(ht, .inr (7, [.ref t0, .ref t1, .ref t2, .ref t3, .ref t4, .int (nI T), .int (nI u)])), (t0, .inl (Γ.2.1, 401, .inl A0)), (t1, .inl (Γ.2.1, 401, .inl A1)), (t2, .inl (Γ.2.1, 401, .inl A2))] (none) [(ht, .inr (7, [.ref t0, .ref t1, .ref t2, .ref t3, .ref t4, .int (nI (if p_new g T then T + 1 else T)), .int (nI u)])), (t0, .inl (Γ.2.1, 401, .inl (if p_new g T then upd A0 T x else A0))), (t1, .inl (Γ.2.1, 401, .inl (if p_new g T then upd A1 T 1 else upd A1 (T - 1) (A1 (T - 1) + 1)))), (t2, .inl (Γ.2.1, 401, .inl (if p_new g T then upd A2 T so else A2)))] := by
  refine Ct.of mi_X9_place [some (.ref ht), some (.int x), some (.int so), some (.int g)] 0 rfl (Nat.le_of_ble_eq_true rfl) ?_
  intro p e s m args below meth c C hr
  refine ww_iload_n (i := 3) C dX9_place_0 rfl rfl 1 rfl ?_
  refine ww_if_eq C 29 dX9_place_1 (by decide) 4 rfl (fun h_1 => ?_) (fun h_1 => ?_)
  · skip
    have hP : p_new g T := by
      first
        | exact Or.inl h_1
        | (refine Or.inr ?_; rcases Nat.eq_zero_or_pos T with q | q; exact q; exact absurd h_8 (nI_nle q (by omega)))
    refine ww_aload_n (i := 0) C dX9_place_29 rfl rfl 30 rfl ?_
    refine ww_get C fe_X9_27 dX9_place_30 0 rfl rfl 33 rfl ?_
    refine ww_sipush (v := 401) C dX9_place_33 (by decide) 36 rfl ?_
    refine ww_icmp_ge C 79 dX9_place_36 (by decide) 39 rfl (fun h_36 => ?_) (fun h_36 => ?_)
    · exact absurd h_36 (by rw [show (401 : Int32) = nI 401 from rfl, nI_leI (by decide) (by omega)]; omega)
    · skip
      refine ww_aload_n (i := 0) C dX9_place_39 rfl rfl 40 rfl ?_
      refine ww_get C fe_X9_11 dX9_place_40 0 rfl rfl 43 rfl ?_
      refine ww_aload_n (i := 0) C dX9_place_43 rfl rfl 44 rfl ?_
      refine ww_get C fe_X9_27 dX9_place_44 0 rfl rfl 47 rfl ?_
      refine ww_iload_n (i := 1) C dX9_place_47 rfl rfl 48 rfl ?_
      refine ww_iast C dX9_place_48 1 rfl (vp_in_nI (by omega) (by decide)) 49 rfl ?_
      refine ww_aload_n (i := 0) C dX9_place_49 rfl rfl 50 rfl ?_
      refine ww_get C fe_X9_15 dX9_place_50 0 rfl rfl 53 rfl ?_
      refine ww_aload_n (i := 0) C dX9_place_53 rfl rfl 54 rfl ?_
      refine ww_get C fe_X9_27 dX9_place_54 0 rfl rfl 57 rfl ?_
      refine ww_iconst (v := 1) C dX9_place_57 (by decide) 58 rfl ?_
      refine ww_iast C dX9_place_58 2 rfl (vp_in_nI (by omega) (by decide)) 59 rfl ?_
      refine ww_aload_n (i := 0) C dX9_place_59 rfl rfl 60 rfl ?_
      refine ww_get C fe_X9_18 dX9_place_60 0 rfl rfl 63 rfl ?_
      refine ww_aload_n (i := 0) C dX9_place_63 rfl rfl 64 rfl ?_
      refine ww_get C fe_X9_27 dX9_place_64 0 rfl rfl 67 rfl ?_
      refine ww_iload_n (i := 2) C dX9_place_67 rfl rfl 68 rfl ?_
      refine ww_iast C dX9_place_68 3 rfl (vp_in_nI (by omega) (by decide)) 69 rfl ?_
      refine ww_aload_n (i := 0) C dX9_place_69 rfl rfl 70 rfl ?_
      refine ww_dup C dX9_place_70 rfl 71 rfl ?_
      refine ww_get C fe_X9_27 dX9_place_71 0 rfl rfl 74 rfl ?_
      refine ww_iconst (v := 1) C dX9_place_74 (by decide) 75 rfl ?_
      refine ww_iadd C dX9_place_75 76 rfl ?_
      refine ww_put C fe_X9_27 rfl dX9_place_76 0 rfl rfl rfl (Nat.le_of_ble_eq_true rfl) 79 rfl ?_
      exact ww_vret C hr dX9_place_79 rfl (by first | (simp only [if_pos hP, nI_succ T, nI_clamp (show T < 2 ^ 31 by omega)]; rfl) | (simp only [if_neg hP, e2]; rfl))
  · skip
    refine ww_aload_n (i := 0) C dX9_place_4 rfl rfl 5 rfl ?_
    refine ww_get C fe_X9_27 dX9_place_5 0 rfl rfl 8 rfl ?_
    refine ww_if_le C 29 dX9_place_8 (by decide) 11 rfl (fun h_8 => ?_) (fun h_8 => ?_)
    · skip
      have hP : p_new g T := by
        first
          | exact Or.inl h_1
          | (refine Or.inr ?_; rcases Nat.eq_zero_or_pos T with q | q; exact q; exact absurd h_8 (nI_nle q (by omega)))
      refine ww_aload_n (i := 0) C dX9_place_29 rfl rfl 30 rfl ?_
      refine ww_get C fe_X9_27 dX9_place_30 0 rfl rfl 33 rfl ?_
      refine ww_sipush (v := 401) C dX9_place_33 (by decide) 36 rfl ?_
      refine ww_icmp_ge C 79 dX9_place_36 (by decide) 39 rfl (fun h_36 => ?_) (fun h_36 => ?_)
      · exact absurd h_36 (by rw [show (401 : Int32) = nI 401 from rfl, nI_leI (by decide) (by omega)]; omega)
      · skip
        refine ww_aload_n (i := 0) C dX9_place_39 rfl rfl 40 rfl ?_
        refine ww_get C fe_X9_11 dX9_place_40 0 rfl rfl 43 rfl ?_
        refine ww_aload_n (i := 0) C dX9_place_43 rfl rfl 44 rfl ?_
        refine ww_get C fe_X9_27 dX9_place_44 0 rfl rfl 47 rfl ?_
        refine ww_iload_n (i := 1) C dX9_place_47 rfl rfl 48 rfl ?_
        refine ww_iast C dX9_place_48 1 rfl (vp_in_nI (by omega) (by decide)) 49 rfl ?_
        refine ww_aload_n (i := 0) C dX9_place_49 rfl rfl 50 rfl ?_
        refine ww_get C fe_X9_15 dX9_place_50 0 rfl rfl 53 rfl ?_
        refine ww_aload_n (i := 0) C dX9_place_53 rfl rfl 54 rfl ?_
        refine ww_get C fe_X9_27 dX9_place_54 0 rfl rfl 57 rfl ?_
        refine ww_iconst (v := 1) C dX9_place_57 (by decide) 58 rfl ?_
        refine ww_iast C dX9_place_58 2 rfl (vp_in_nI (by omega) (by decide)) 59 rfl ?_
        refine ww_aload_n (i := 0) C dX9_place_59 rfl rfl 60 rfl ?_
        refine ww_get C fe_X9_18 dX9_place_60 0 rfl rfl 63 rfl ?_
        refine ww_aload_n (i := 0) C dX9_place_63 rfl rfl 64 rfl ?_
        refine ww_get C fe_X9_27 dX9_place_64 0 rfl rfl 67 rfl ?_
        refine ww_iload_n (i := 2) C dX9_place_67 rfl rfl 68 rfl ?_
        refine ww_iast C dX9_place_68 3 rfl (vp_in_nI (by omega) (by decide)) 69 rfl ?_
        refine ww_aload_n (i := 0) C dX9_place_69 rfl rfl 70 rfl ?_
        refine ww_dup C dX9_place_70 rfl 71 rfl ?_
        refine ww_get C fe_X9_27 dX9_place_71 0 rfl rfl 74 rfl ?_
        refine ww_iconst (v := 1) C dX9_place_74 (by decide) 75 rfl ?_
        refine ww_iadd C dX9_place_75 76 rfl ?_
        refine ww_put C fe_X9_27 rfl dX9_place_76 0 rfl rfl rfl (Nat.le_of_ble_eq_true rfl) 79 rfl ?_
        exact ww_vret C hr dX9_place_79 rfl (by first | (simp only [if_pos hP, nI_succ T, nI_clamp (show T < 2 ^ 31 by omega)]; rfl) | (simp only [if_neg hP, e2]; rfl))
    · skip
      have hT0 : ¬ T = 0 := fun q => h_8 (by rw [q]; decide)
      have e1 : nI T - 1 = nI (T - 1) := by rw [show (1 : Int32) = nI 1 from rfl, pk_sub (by omega)]
      have e2 : (nI T - 1).toNatClampNeg = T - 1 := by rw [e1]; exact nI_clamp (by omega)
      have hP : ¬ p_new g T := fun q => q.elim h_1 hT0
      refine ww_aload_n (i := 0) C dX9_place_11 rfl rfl 12 rfl ?_
      refine ww_get C fe_X9_15 dX9_place_12 0 rfl rfl 15 rfl ?_
      refine ww_aload_n (i := 0) C dX9_place_15 rfl rfl 16 rfl ?_
      refine ww_get C fe_X9_27 dX9_place_16 0 rfl rfl 19 rfl ?_
      refine ww_iconst (v := 1) C dX9_place_19 (by decide) 20 rfl ?_
      refine ww_isub C dX9_place_20 21 rfl ?_
      refine ww_dup2 C dX9_place_21 rfl rfl 22 rfl ?_
      refine ww_iald C dX9_place_22 2 rfl (by rw [e1]; exact vp_in_nI (by omega) (by decide)) 23 rfl ?_
      refine ww_iconst (v := 1) C dX9_place_23 (by decide) 24 rfl ?_
      refine ww_iadd C dX9_place_24 25 rfl ?_
      refine ww_iast C dX9_place_25 2 rfl (by rw [e1]; exact vp_in_nI (by omega) (by decide)) 26 rfl ?_
      refine ww_goto C 79 dX9_place_26 (by decide) ?_
      exact ww_vret C hr dX9_place_79 rfl (by first | (simp only [if_pos hP, nI_succ T, nI_clamp (show T < 2 ^ 31 by omega)]; rfl) | (simp only [if_neg hP, e2]; rfl))
theorem c_X9_joined (l : Launch) (Γ : Gm) {ht t0 t1 t2 t3 t4 T u : Nat} {h0 hb k pp L : Nat} {A0 A1 by0 : Nat → Int32} {ba ze : Int32} (hk : k ≤ 400) (e0 : A0 k = nI pp) (e1 : A1 k = nI L) (hu : u ≤ 400) (hL : pp + L ≤ u) : Ct l Γ yX9_joined cX9_joined 7 (some .int) 1 [.ref ht, .int (nI k), .ref h0, .int ba, .int ze] [(ht, .inr (7, [.ref t0, .ref t1, .ref t2, .ref t3, .ref t4, .int (nI T), .int (nI u)])), (t0, .inl (Γ.2.1, 401, .inl A0)), (t1, .inl (Γ.2.1, 401, .inl A1)), (h0, .inr (6, [.ref hb, .int (nI u)])), (hb, .inl (Γ.2.1, 400, .inl by0))] (some (.int (s_join by0 pp ba ze L))) [(ht, .inr (7, [.ref t0, .ref t1, .ref t2, .ref t3, .ref t4, .int (nI T), .int (nI u)])), (t0, .inl (Γ.2.1, 401, .inl A0)), (t1, .inl (Γ.2.1, 401, .inl A1)), (h0, .inr (6, [.ref hb, .int (nI u)])), (hb, .inl (Γ.2.1, 400, .inl by0))] := by
  refine Ct.of mi_X9_joined [some (.ref ht), some (.int (nI k)), some (.ref h0), some (.int ba), some (.int ze), none, none] 2 rfl (Nat.le_of_ble_eq_true rfl) ?_
  intro p e s m args below meth c C hr
  refine ww_iconst (v := 0) C dX9_joined_0 (by decide) 1 rfl ?_
  refine ww_istore C dX9_joined_1 (by decide) rfl 3 rfl ?_
  refine ww_iconst (v := 0) C dX9_joined_3 (by decide) 4 rfl ?_
  refine ww_istore C dX9_joined_4 (by decide) rfl 6 rfl ?_
  refine ww_loop (fun j : Nat => L - j) (fun j => j ≤ L) (fun _ => [(ht, .inr (7, [.ref t0, .ref t1, .ref t2, .ref t3, .ref t4, .int (nI T), .int (nI u)])), (t0, .inl (Γ.2.1, 401, .inl A0)), (t1, .inl (Γ.2.1, 401, .inl A1)), (h0, .inr (6, [.ref hb, .int (nI u)])), (hb, .inl (Γ.2.1, 400, .inl by0))]) (fun j => [some (.ref ht), some (.int (nI k)), some (.ref h0), some (.int ba), some (.int ze), some (.int (s_join by0 pp ba ze j)), some (.int (nI j))]) (0 : Nat) (by omega) rfl rfl (fun j hj ih => ?_)
  try dsimp only at hj ih ⊢
  have ek : (nI k).toNatClampNeg = k := nI_clamp (by omega)
  refine ww_iload C dX9_joined_6 rfl 8 rfl ?_
  refine ww_aload_n (i := 0) C dX9_joined_8 rfl rfl 9 rfl ?_
  refine ww_get C fe_X9_15 dX9_joined_9 0 rfl rfl 12 rfl ?_
  refine ww_iload_n (i := 1) C dX9_joined_12 rfl rfl 13 rfl ?_
  refine ww_iald C dX9_joined_13 2 rfl (vp_in_nI (by omega) (by decide)) 14 rfl ?_
  rw [ek, e1]
  refine ww_icmp_ge C 46 dX9_joined_14 (by decide) 17 rfl (fun h_14 => ?_) (fun h_14 => ?_)
  · skip
    obtain rfl : j = L := eqN h_14 hj (by omega)
    refine ww_iload C dX9_joined_46 rfl 48 rfl ?_
    exact ww_iret C hr dX9_joined_48 rfl rfl
  · skip
    have hlt : j < L := ltN h_14 (by omega) (by omega)
    refine ww_iload C dX9_joined_17 rfl 19 rfl ?_
    refine ww_iload_n (i := 3) C dX9_joined_19 rfl rfl 20 rfl ?_
    refine ww_imul C dX9_joined_20 21 rfl ?_
    refine ww_aload_n (i := 2) C dX9_joined_21 rfl rfl 22 rfl ?_
    refine ww_aload_n (i := 0) C dX9_joined_22 rfl rfl 23 rfl ?_
    refine ww_get C fe_X9_11 dX9_joined_23 0 rfl rfl 26 rfl ?_
    refine ww_iload_n (i := 1) C dX9_joined_26 rfl rfl 27 rfl ?_
    refine ww_iald C dX9_joined_27 1 rfl (vp_in_nI (by omega) (by decide)) 28 rfl ?_
    rw [ek, e0]
    refine ww_iload C dX9_joined_28 rfl 30 rfl ?_
    refine ww_iadd C dX9_joined_30 31 rfl ?_
    rw [nI_add]
    refine ww_callV1p C (c_X8_byteAt l Γ hu) mi_X8_byteAt im_X8_byteAt se_X8_byteAt ml_X9_37 dX9_joined_31 3 rfl rfl rfl (Nat.le_of_ble_eq_true rfl) (Nat.le_of_ble_eq_true rfl) (Nat.le_of_ble_eq_true rfl) ⟨Nat.zero_le _, Nat.zero_le _⟩ [3, 4] rfl (by decide) 34 rfl ?_
    have eb : s_tb by0 u (nI (pp + j)) = by0 (pp + j) := by rw [s_tb, if_neg (nI_pos (by omega)), if_neg (nI_ge (by omega) (by omega)), nI_clamp (by omega)]
    rw [eb]
    refine ww_iadd C dX9_joined_34 35 rfl ?_
    refine ww_iload C dX9_joined_35 rfl 37 rfl ?_
    refine ww_isub C dX9_joined_37 38 rfl ?_
    refine ww_istore C dX9_joined_38 (by decide) rfl 40 rfl ?_
    refine ww_iinc (y := 1) C dX9_joined_40 rfl (by decide) (by decide) rfl 43 rfl ?_
    refine ww_goto C 6 dX9_joined_43 (by decide) ?_
    exact ww_eq rfl (by rw [nI_succ j]; rfl) rfl (ih (j + 1) (by omega) (by omega))
theorem c_X9_name (l : Launch) (Γ : Gm) {ht t0 t1 t2 t3 t4 T u : Nat} {h0 hb k pp L : Nat} {A0 A1 A2 A3 A4 by0 : Nat → Int32} (hk : k ≤ 400) (e0 : A0 k = nI pp) (e1 : A1 k = nI L) (hu : u ≤ 400) (hL : pp + L ≤ u) : Ct l Γ yX9_name cX9_name 3 none 2 [.ref ht, .int (nI k), .ref h0] [(ht, .inr (7, [.ref t0, .ref t1, .ref t2, .ref t3, .ref t4, .int (nI T), .int (nI u)])), (t0, .inl (Γ.2.1, 401, .inl A0)), (t1, .inl (Γ.2.1, 401, .inl A1)), (t2, .inl (Γ.2.1, 401, .inl A2)), (t3, .inl (Γ.2.1, 401, .inl A3)), (t4, .inl (Γ.2.1, 401, .inl A4)), (h0, .inr (6, [.ref hb, .int (nI u)])), (hb, .inl (Γ.2.1, 400, .inl by0))] (none) [(ht, .inr (7, [.ref t0, .ref t1, .ref t2, .ref t3, .ref t4, .int (nI T), .int (nI u)])), (t0, .inl (Γ.2.1, 401, .inl A0)), (t1, .inl (Γ.2.1, 401, .inl A1)), (t2, .inl (Γ.2.1, 401, .inl A2)), (t3, .inl (Γ.2.1, 401, .inl (upd A3 k (s_kd (A2 k) L by0 pp)))), (t4, .inl (Γ.2.1, 401, .inl (upd A4 k (s_vl (A2 k) L by0 pp)))), (h0, .inr (6, [.ref hb, .int (nI u)])), (hb, .inl (Γ.2.1, 400, .inl by0))] := by
  refine Ct.of mi_X9_name [some (.ref ht), some (.int (nI k)), some (.ref h0)] 0 rfl (Nat.le_of_ble_eq_true rfl) ?_
  intro p e s m args below meth c C hr
  have ek : (nI k).toNatClampNeg = k := nI_clamp (by omega)
  have hin : vp_in (nI k) 401 := vp_in_nI (by omega) (by decide)
  have h4e : (4 : Int32) < nI L ↔ 4 < L := nI_ltI (a := 4) (by decide) (by omega)
  refine ww_aload_n (i := 0) C dX9_name_0 rfl rfl 1 rfl ?_
  refine ww_get C fe_X9_24 dX9_name_1 0 rfl rfl 4 rfl ?_
  refine ww_iload_n (i := 1) C dX9_name_4 rfl rfl 5 rfl ?_
  refine ww_iconst (v := 0) C dX9_name_5 (by decide) 6 rfl ?_
  refine ww_iast C dX9_name_6 5 rfl hin 7 rfl ?_
  refine ww_aload_n (i := 0) C dX9_name_7 rfl rfl 8 rfl ?_
  refine ww_get C fe_X9_18 dX9_name_8 0 rfl rfl 11 rfl ?_
  refine ww_iload_n (i := 1) C dX9_name_11 rfl rfl 12 rfl ?_
  refine ww_iald C dX9_name_12 3 rfl hin 13 rfl ?_
  rw [ek]
  refine ww_iconst (v := 1) C dX9_name_13 (by decide) 14 rfl ?_
  refine ww_icmp_ne C 46 dX9_name_14 (by decide) 17 rfl (fun h_14 => ?_) (fun h_14 => ?_)
  · skip
    refine ww_aload_n (i := 0) C dX9_name_46 rfl rfl 47 rfl ?_
    refine ww_get C fe_X9_18 dX9_name_47 0 rfl rfl 50 rfl ?_
    refine ww_iload_n (i := 1) C dX9_name_50 rfl rfl 51 rfl ?_
    refine ww_iald C dX9_name_51 3 rfl hin 52 rfl ?_
    rw [ek]
    refine ww_iconst (v := 2) C dX9_name_52 (by decide) 53 rfl ?_
    refine ww_icmp_ne C 92 dX9_name_53 (by decide) 56 rfl (fun h_53 => ?_) (fun h_53 => ?_)
    · skip
      refine ww_aload_n (i := 0) C dX9_name_92 rfl rfl 93 rfl ?_
      refine ww_get C fe_X9_21 dX9_name_93 0 rfl rfl 96 rfl ?_
      refine ww_iload_n (i := 1) C dX9_name_96 rfl rfl 97 rfl ?_
      refine ww_aload_n (i := 0) C dX9_name_97 rfl rfl 98 rfl ?_
      refine ww_get C fe_X9_18 dX9_name_98 0 rfl rfl 101 rfl ?_
      refine ww_iload_n (i := 1) C dX9_name_101 rfl rfl 102 rfl ?_
      refine ww_iald C dX9_name_102 3 rfl hin 103 rfl ?_
      rw [ek]
      refine ww_iconst (v := 3) C dX9_name_103 (by decide) 104 rfl ?_
      refine ww_icmp_ne C 111 dX9_name_104 (by decide) 107 rfl (fun h_104 => ?_) (fun h_104 => ?_)
      · skip
        refine ww_iconst (v := 3) C dX9_name_111 (by decide) 112 rfl ?_
        refine ww_iast C dX9_name_112 4 rfl hin 113 rfl ?_
        skip
        first
          | (have g1 : A2 k = 1 ∧ L ≤ 4 := ⟨h_14, by have := (not_congr h4e).mp h_24; omega⟩)
          | (have g1 : ¬ (A2 k = 1 ∧ L ≤ 4) := fun q => h_14 q.1)
          | (have g1 : ¬ (A2 k = 1 ∧ L ≤ 4) := fun q => by have := h4e.mp h_24; omega)
        try first
          | (have g2 : A2 k = 2 ∧ L ≤ 4 := ⟨h_53, by have := (not_congr h4e).mp h_63; omega⟩)
          | (have g2 : ¬ (A2 k = 2 ∧ L ≤ 4) := fun q => h_53 q.1)
          | (have g2 : ¬ (A2 k = 2 ∧ L ≤ 4) := fun q => by have := h4e.mp h_63; omega)
        exact ww_vret C hr dX9_name_113 rfl (by rw [s_kd, s_vl]; first | (simp only [if_pos g1, ek]; rfl) | (simp only [if_neg g1, if_pos g2, ek, upd_2]; rfl) | (simp only [if_neg g1, if_neg g2, if_pos h_104, ek]; rfl) | (simp only [if_neg g1, if_neg g2, if_neg h_104, ek]; rfl))
      · skip
        refine ww_iconst (v := 2) C dX9_name_107 (by decide) 108 rfl ?_
        refine ww_goto C 112 dX9_name_108 (by decide) ?_
        refine ww_iast C dX9_name_112 4 rfl hin 113 rfl ?_
        skip
        first
          | (have g1 : A2 k = 1 ∧ L ≤ 4 := ⟨h_14, by have := (not_congr h4e).mp h_24; omega⟩)
          | (have g1 : ¬ (A2 k = 1 ∧ L ≤ 4) := fun q => h_14 q.1)
          | (have g1 : ¬ (A2 k = 1 ∧ L ≤ 4) := fun q => by have := h4e.mp h_24; omega)
        try first
          | (have g2 : A2 k = 2 ∧ L ≤ 4 := ⟨h_53, by have := (not_congr h4e).mp h_63; omega⟩)
          | (have g2 : ¬ (A2 k = 2 ∧ L ≤ 4) := fun q => h_53 q.1)
          | (have g2 : ¬ (A2 k = 2 ∧ L ≤ 4) := fun q => by have := h4e.mp h_63; omega)
        exact ww_vret C hr dX9_name_113 rfl (by rw [s_kd, s_vl]; first | (simp only [if_pos g1, ek]; rfl) | (simp only [if_neg g1, if_pos g2, ek, upd_2]; rfl) | (simp only [if_neg g1, if_neg g2, if_pos h_104, ek]; rfl) | (simp only [if_neg g1, if_neg g2, if_neg h_104, ek]; rfl))
    · skip
      refine ww_aload_n (i := 0) C dX9_name_56 rfl rfl 57 rfl ?_
      refine ww_get C fe_X9_15 dX9_name_57 0 rfl rfl 60 rfl ?_
      refine ww_iload_n (i := 1) C dX9_name_60 rfl rfl 61 rfl ?_
      refine ww_iald C dX9_name_61 2 rfl hin 62 rfl ?_
      rw [ek, e1]
      refine ww_iconst (v := 4) C dX9_name_62 (by decide) 63 rfl ?_
      refine ww_icmp_gt C 92 dX9_name_63 (by decide) 66 rfl (fun h_63 => ?_) (fun h_63 => ?_)
      · skip
        refine ww_aload_n (i := 0) C dX9_name_92 rfl rfl 93 rfl ?_
        refine ww_get C fe_X9_21 dX9_name_93 0 rfl rfl 96 rfl ?_
        refine ww_iload_n (i := 1) C dX9_name_96 rfl rfl 97 rfl ?_
        refine ww_aload_n (i := 0) C dX9_name_97 rfl rfl 98 rfl ?_
        refine ww_get C fe_X9_18 dX9_name_98 0 rfl rfl 101 rfl ?_
        refine ww_iload_n (i := 1) C dX9_name_101 rfl rfl 102 rfl ?_
        refine ww_iald C dX9_name_102 3 rfl hin 103 rfl ?_
        rw [ek]
        refine ww_iconst (v := 3) C dX9_name_103 (by decide) 104 rfl ?_
        refine ww_icmp_ne C 111 dX9_name_104 (by decide) 107 rfl (fun h_104 => ?_) (fun h_104 => ?_)
        · skip
          refine ww_iconst (v := 3) C dX9_name_111 (by decide) 112 rfl ?_
          refine ww_iast C dX9_name_112 4 rfl hin 113 rfl ?_
          skip
          first
            | (have g1 : A2 k = 1 ∧ L ≤ 4 := ⟨h_14, by have := (not_congr h4e).mp h_24; omega⟩)
            | (have g1 : ¬ (A2 k = 1 ∧ L ≤ 4) := fun q => h_14 q.1)
            | (have g1 : ¬ (A2 k = 1 ∧ L ≤ 4) := fun q => by have := h4e.mp h_24; omega)
          try first
            | (have g2 : A2 k = 2 ∧ L ≤ 4 := ⟨h_53, by have := (not_congr h4e).mp h_63; omega⟩)
            | (have g2 : ¬ (A2 k = 2 ∧ L ≤ 4) := fun q => h_53 q.1)
            | (have g2 : ¬ (A2 k = 2 ∧ L ≤ 4) := fun q => by have := h4e.mp h_63; omega)
          exact ww_vret C hr dX9_name_113 rfl (by rw [s_kd, s_vl]; first | (simp only [if_pos g1, ek]; rfl) | (simp only [if_neg g1, if_pos g2, ek, upd_2]; rfl) | (simp only [if_neg g1, if_neg g2, if_pos h_104, ek]; rfl) | (simp only [if_neg g1, if_neg g2, if_neg h_104, ek]; rfl))
        · skip
          refine ww_iconst (v := 2) C dX9_name_107 (by decide) 108 rfl ?_
          refine ww_goto C 112 dX9_name_108 (by decide) ?_
          refine ww_iast C dX9_name_112 4 rfl hin 113 rfl ?_
          skip
          first
            | (have g1 : A2 k = 1 ∧ L ≤ 4 := ⟨h_14, by have := (not_congr h4e).mp h_24; omega⟩)
            | (have g1 : ¬ (A2 k = 1 ∧ L ≤ 4) := fun q => h_14 q.1)
            | (have g1 : ¬ (A2 k = 1 ∧ L ≤ 4) := fun q => by have := h4e.mp h_24; omega)
          try first
            | (have g2 : A2 k = 2 ∧ L ≤ 4 := ⟨h_53, by have := (not_congr h4e).mp h_63; omega⟩)
            | (have g2 : ¬ (A2 k = 2 ∧ L ≤ 4) := fun q => h_53 q.1)
            | (have g2 : ¬ (A2 k = 2 ∧ L ≤ 4) := fun q => by have := h4e.mp h_63; omega)
          exact ww_vret C hr dX9_name_113 rfl (by rw [s_kd, s_vl]; first | (simp only [if_pos g1, ek]; rfl) | (simp only [if_neg g1, if_pos g2, ek, upd_2]; rfl) | (simp only [if_neg g1, if_neg g2, if_pos h_104, ek]; rfl) | (simp only [if_neg g1, if_neg g2, if_neg h_104, ek]; rfl))
      · skip
        refine ww_aload_n (i := 0) C dX9_name_66 rfl rfl 67 rfl ?_
        refine ww_get C fe_X9_21 dX9_name_67 0 rfl rfl 70 rfl ?_
        refine ww_iload_n (i := 1) C dX9_name_70 rfl rfl 71 rfl ?_
        refine ww_iconst (v := 1) C dX9_name_71 (by decide) 72 rfl ?_
        refine ww_iast C dX9_name_72 4 rfl hin 73 rfl ?_
        refine ww_aload_n (i := 0) C dX9_name_73 rfl rfl 74 rfl ?_
        refine ww_get C fe_X9_24 dX9_name_74 0 rfl rfl 77 rfl ?_
        refine ww_iload_n (i := 1) C dX9_name_77 rfl rfl 78 rfl ?_
        refine ww_aload_n (i := 0) C dX9_name_78 rfl rfl 79 rfl ?_
        refine ww_iload_n (i := 1) C dX9_name_79 rfl rfl 80 rfl ?_
        refine ww_aload_n (i := 2) C dX9_name_80 rfl rfl 81 rfl ?_
        refine ww_bipush (v := 10) C dX9_name_81 (by decide) 83 rfl ?_
        refine ww_bipush (v := 48) C dX9_name_83 (by decide) 85 rfl ?_
        refine ww_callV4p C (c_X9_joined l Γ hk e0 e1 hu hL) mi_X9_joined im_X9_joined se_X9_joined ml_X9_52 dX9_name_85 0 rfl rfl rfl (Nat.le_of_ble_eq_true rfl) (Nat.le_of_ble_eq_true rfl) (Nat.le_of_ble_eq_true rfl) ⟨Nat.zero_le _, Nat.zero_le _⟩ [0, 1, 2, 6, 7] rfl (by decide) 88 rfl ?_
        refine ww_iast C dX9_name_88 5 rfl hin 89 rfl ?_
        refine ww_goto C 113 dX9_name_89 (by decide) ?_
        skip
        first
          | (have g1 : A2 k = 1 ∧ L ≤ 4 := ⟨h_14, by have := (not_congr h4e).mp h_24; omega⟩)
          | (have g1 : ¬ (A2 k = 1 ∧ L ≤ 4) := fun q => h_14 q.1)
          | (have g1 : ¬ (A2 k = 1 ∧ L ≤ 4) := fun q => by have := h4e.mp h_24; omega)
        try first
          | (have g2 : A2 k = 2 ∧ L ≤ 4 := ⟨h_53, by have := (not_congr h4e).mp h_63; omega⟩)
          | (have g2 : ¬ (A2 k = 2 ∧ L ≤ 4) := fun q => h_53 q.1)
          | (have g2 : ¬ (A2 k = 2 ∧ L ≤ 4) := fun q => by have := h4e.mp h_63; omega)
        exact ww_vret C hr dX9_name_113 rfl (by rw [s_kd, s_vl]; first | (simp only [if_pos g1, ek]; rfl) | (simp only [if_neg g1, if_pos g2, ek, upd_2]; rfl) | (simp only [if_neg g1, if_neg g2, if_pos h_104, ek]; rfl) | (simp only [if_neg g1, if_neg g2, if_neg h_104, ek]; rfl))
  · skip
    refine ww_aload_n (i := 0) C dX9_name_17 rfl rfl 18 rfl ?_
    refine ww_get C fe_X9_15 dX9_name_18 0 rfl rfl 21 rfl ?_
    refine ww_iload_n (i := 1) C dX9_name_21 rfl rfl 22 rfl ?_
    refine ww_iald C dX9_name_22 2 rfl hin 23 rfl ?_
    rw [ek, e1]
    refine ww_iconst (v := 4) C dX9_name_23 (by decide) 24 rfl ?_
    refine ww_icmp_gt C 46 dX9_name_24 (by decide) 27 rfl (fun h_24 => ?_) (fun h_24 => ?_)
    · skip
      refine ww_aload_n (i := 0) C dX9_name_46 rfl rfl 47 rfl ?_
      refine ww_get C fe_X9_18 dX9_name_47 0 rfl rfl 50 rfl ?_
      refine ww_iload_n (i := 1) C dX9_name_50 rfl rfl 51 rfl ?_
      refine ww_iald C dX9_name_51 3 rfl hin 52 rfl ?_
      rw [ek]
      refine ww_iconst (v := 2) C dX9_name_52 (by decide) 53 rfl ?_
      refine ww_icmp_ne C 92 dX9_name_53 (by decide) 56 rfl (fun h_53 => ?_) (fun h_53 => ?_)
      · skip
        refine ww_aload_n (i := 0) C dX9_name_92 rfl rfl 93 rfl ?_
        refine ww_get C fe_X9_21 dX9_name_93 0 rfl rfl 96 rfl ?_
        refine ww_iload_n (i := 1) C dX9_name_96 rfl rfl 97 rfl ?_
        refine ww_aload_n (i := 0) C dX9_name_97 rfl rfl 98 rfl ?_
        refine ww_get C fe_X9_18 dX9_name_98 0 rfl rfl 101 rfl ?_
        refine ww_iload_n (i := 1) C dX9_name_101 rfl rfl 102 rfl ?_
        refine ww_iald C dX9_name_102 3 rfl hin 103 rfl ?_
        rw [ek]
        refine ww_iconst (v := 3) C dX9_name_103 (by decide) 104 rfl ?_
        refine ww_icmp_ne C 111 dX9_name_104 (by decide) 107 rfl (fun h_104 => ?_) (fun h_104 => ?_)
        · skip
          refine ww_iconst (v := 3) C dX9_name_111 (by decide) 112 rfl ?_
          refine ww_iast C dX9_name_112 4 rfl hin 113 rfl ?_
          skip
          first
            | (have g1 : A2 k = 1 ∧ L ≤ 4 := ⟨h_14, by have := (not_congr h4e).mp h_24; omega⟩)
            | (have g1 : ¬ (A2 k = 1 ∧ L ≤ 4) := fun q => h_14 q.1)
            | (have g1 : ¬ (A2 k = 1 ∧ L ≤ 4) := fun q => by have := h4e.mp h_24; omega)
          try first
            | (have g2 : A2 k = 2 ∧ L ≤ 4 := ⟨h_53, by have := (not_congr h4e).mp h_63; omega⟩)
            | (have g2 : ¬ (A2 k = 2 ∧ L ≤ 4) := fun q => h_53 q.1)
            | (have g2 : ¬ (A2 k = 2 ∧ L ≤ 4) := fun q => by have := h4e.mp h_63; omega)
          exact ww_vret C hr dX9_name_113 rfl (by rw [s_kd, s_vl]; first | (simp only [if_pos g1, ek]; rfl) | (simp only [if_neg g1, if_pos g2, ek, upd_2]; rfl) | (simp only [if_neg g1, if_neg g2, if_pos h_104, ek]; rfl) | (simp only [if_neg g1, if_neg g2, if_neg h_104, ek]; rfl))
        · skip
          refine ww_iconst (v := 2) C dX9_name_107 (by decide) 108 rfl ?_
          refine ww_goto C 112 dX9_name_108 (by decide) ?_
          refine ww_iast C dX9_name_112 4 rfl hin 113 rfl ?_
          skip
          first
            | (have g1 : A2 k = 1 ∧ L ≤ 4 := ⟨h_14, by have := (not_congr h4e).mp h_24; omega⟩)
            | (have g1 : ¬ (A2 k = 1 ∧ L ≤ 4) := fun q => h_14 q.1)
            | (have g1 : ¬ (A2 k = 1 ∧ L ≤ 4) := fun q => by have := h4e.mp h_24; omega)
          try first
            | (have g2 : A2 k = 2 ∧ L ≤ 4 := ⟨h_53, by have := (not_congr h4e).mp h_63; omega⟩)
            | (have g2 : ¬ (A2 k = 2 ∧ L ≤ 4) := fun q => h_53 q.1)
            | (have g2 : ¬ (A2 k = 2 ∧ L ≤ 4) := fun q => by have := h4e.mp h_63; omega)
          exact ww_vret C hr dX9_name_113 rfl (by rw [s_kd, s_vl]; first | (simp only [if_pos g1, ek]; rfl) | (simp only [if_neg g1, if_pos g2, ek, upd_2]; rfl) | (simp only [if_neg g1, if_neg g2, if_pos h_104, ek]; rfl) | (simp only [if_neg g1, if_neg g2, if_neg h_104, ek]; rfl))
      · skip
        refine ww_aload_n (i := 0) C dX9_name_56 rfl rfl 57 rfl ?_
        refine ww_get C fe_X9_15 dX9_name_57 0 rfl rfl 60 rfl ?_
        refine ww_iload_n (i := 1) C dX9_name_60 rfl rfl 61 rfl ?_
        refine ww_iald C dX9_name_61 2 rfl hin 62 rfl ?_
        rw [ek, e1]
        refine ww_iconst (v := 4) C dX9_name_62 (by decide) 63 rfl ?_
        refine ww_icmp_gt C 92 dX9_name_63 (by decide) 66 rfl (fun h_63 => ?_) (fun h_63 => ?_)
        · skip
          refine ww_aload_n (i := 0) C dX9_name_92 rfl rfl 93 rfl ?_
          refine ww_get C fe_X9_21 dX9_name_93 0 rfl rfl 96 rfl ?_
          refine ww_iload_n (i := 1) C dX9_name_96 rfl rfl 97 rfl ?_
          refine ww_aload_n (i := 0) C dX9_name_97 rfl rfl 98 rfl ?_
          refine ww_get C fe_X9_18 dX9_name_98 0 rfl rfl 101 rfl ?_
          refine ww_iload_n (i := 1) C dX9_name_101 rfl rfl 102 rfl ?_
          refine ww_iald C dX9_name_102 3 rfl hin 103 rfl ?_
          rw [ek]
          refine ww_iconst (v := 3) C dX9_name_103 (by decide) 104 rfl ?_
          refine ww_icmp_ne C 111 dX9_name_104 (by decide) 107 rfl (fun h_104 => ?_) (fun h_104 => ?_)
          · skip
            refine ww_iconst (v := 3) C dX9_name_111 (by decide) 112 rfl ?_
            refine ww_iast C dX9_name_112 4 rfl hin 113 rfl ?_
            skip
            first
              | (have g1 : A2 k = 1 ∧ L ≤ 4 := ⟨h_14, by have := (not_congr h4e).mp h_24; omega⟩)
              | (have g1 : ¬ (A2 k = 1 ∧ L ≤ 4) := fun q => h_14 q.1)
              | (have g1 : ¬ (A2 k = 1 ∧ L ≤ 4) := fun q => by have := h4e.mp h_24; omega)
            try first
              | (have g2 : A2 k = 2 ∧ L ≤ 4 := ⟨h_53, by have := (not_congr h4e).mp h_63; omega⟩)
              | (have g2 : ¬ (A2 k = 2 ∧ L ≤ 4) := fun q => h_53 q.1)
              | (have g2 : ¬ (A2 k = 2 ∧ L ≤ 4) := fun q => by have := h4e.mp h_63; omega)
            exact ww_vret C hr dX9_name_113 rfl (by rw [s_kd, s_vl]; first | (simp only [if_pos g1, ek]; rfl) | (simp only [if_neg g1, if_pos g2, ek, upd_2]; rfl) | (simp only [if_neg g1, if_neg g2, if_pos h_104, ek]; rfl) | (simp only [if_neg g1, if_neg g2, if_neg h_104, ek]; rfl))
          · skip
            refine ww_iconst (v := 2) C dX9_name_107 (by decide) 108 rfl ?_
            refine ww_goto C 112 dX9_name_108 (by decide) ?_
            refine ww_iast C dX9_name_112 4 rfl hin 113 rfl ?_
            skip
            first
              | (have g1 : A2 k = 1 ∧ L ≤ 4 := ⟨h_14, by have := (not_congr h4e).mp h_24; omega⟩)
              | (have g1 : ¬ (A2 k = 1 ∧ L ≤ 4) := fun q => h_14 q.1)
              | (have g1 : ¬ (A2 k = 1 ∧ L ≤ 4) := fun q => by have := h4e.mp h_24; omega)
            try first
              | (have g2 : A2 k = 2 ∧ L ≤ 4 := ⟨h_53, by have := (not_congr h4e).mp h_63; omega⟩)
              | (have g2 : ¬ (A2 k = 2 ∧ L ≤ 4) := fun q => h_53 q.1)
              | (have g2 : ¬ (A2 k = 2 ∧ L ≤ 4) := fun q => by have := h4e.mp h_63; omega)
            exact ww_vret C hr dX9_name_113 rfl (by rw [s_kd, s_vl]; first | (simp only [if_pos g1, ek]; rfl) | (simp only [if_neg g1, if_pos g2, ek, upd_2]; rfl) | (simp only [if_neg g1, if_neg g2, if_pos h_104, ek]; rfl) | (simp only [if_neg g1, if_neg g2, if_neg h_104, ek]; rfl))
        · skip
          refine ww_aload_n (i := 0) C dX9_name_66 rfl rfl 67 rfl ?_
          refine ww_get C fe_X9_21 dX9_name_67 0 rfl rfl 70 rfl ?_
          refine ww_iload_n (i := 1) C dX9_name_70 rfl rfl 71 rfl ?_
          refine ww_iconst (v := 1) C dX9_name_71 (by decide) 72 rfl ?_
          refine ww_iast C dX9_name_72 4 rfl hin 73 rfl ?_
          refine ww_aload_n (i := 0) C dX9_name_73 rfl rfl 74 rfl ?_
          refine ww_get C fe_X9_24 dX9_name_74 0 rfl rfl 77 rfl ?_
          refine ww_iload_n (i := 1) C dX9_name_77 rfl rfl 78 rfl ?_
          refine ww_aload_n (i := 0) C dX9_name_78 rfl rfl 79 rfl ?_
          refine ww_iload_n (i := 1) C dX9_name_79 rfl rfl 80 rfl ?_
          refine ww_aload_n (i := 2) C dX9_name_80 rfl rfl 81 rfl ?_
          refine ww_bipush (v := 10) C dX9_name_81 (by decide) 83 rfl ?_
          refine ww_bipush (v := 48) C dX9_name_83 (by decide) 85 rfl ?_
          refine ww_callV4p C (c_X9_joined l Γ hk e0 e1 hu hL) mi_X9_joined im_X9_joined se_X9_joined ml_X9_52 dX9_name_85 0 rfl rfl rfl (Nat.le_of_ble_eq_true rfl) (Nat.le_of_ble_eq_true rfl) (Nat.le_of_ble_eq_true rfl) ⟨Nat.zero_le _, Nat.zero_le _⟩ [0, 1, 2, 6, 7] rfl (by decide) 88 rfl ?_
          refine ww_iast C dX9_name_88 5 rfl hin 89 rfl ?_
          refine ww_goto C 113 dX9_name_89 (by decide) ?_
          skip
          first
            | (have g1 : A2 k = 1 ∧ L ≤ 4 := ⟨h_14, by have := (not_congr h4e).mp h_24; omega⟩)
            | (have g1 : ¬ (A2 k = 1 ∧ L ≤ 4) := fun q => h_14 q.1)
            | (have g1 : ¬ (A2 k = 1 ∧ L ≤ 4) := fun q => by have := h4e.mp h_24; omega)
          try first
            | (have g2 : A2 k = 2 ∧ L ≤ 4 := ⟨h_53, by have := (not_congr h4e).mp h_63; omega⟩)
            | (have g2 : ¬ (A2 k = 2 ∧ L ≤ 4) := fun q => h_53 q.1)
            | (have g2 : ¬ (A2 k = 2 ∧ L ≤ 4) := fun q => by have := h4e.mp h_63; omega)
          exact ww_vret C hr dX9_name_113 rfl (by rw [s_kd, s_vl]; first | (simp only [if_pos g1, ek]; rfl) | (simp only [if_neg g1, if_pos g2, ek, upd_2]; rfl) | (simp only [if_neg g1, if_neg g2, if_pos h_104, ek]; rfl) | (simp only [if_neg g1, if_neg g2, if_neg h_104, ek]; rfl))
    · skip
      refine ww_aload_n (i := 0) C dX9_name_27 rfl rfl 28 rfl ?_
      refine ww_get C fe_X9_21 dX9_name_28 0 rfl rfl 31 rfl ?_
      refine ww_iload_n (i := 1) C dX9_name_31 rfl rfl 32 rfl ?_
      refine ww_aload_n (i := 0) C dX9_name_32 rfl rfl 33 rfl ?_
      refine ww_iload_n (i := 1) C dX9_name_33 rfl rfl 34 rfl ?_
      refine ww_aload_n (i := 2) C dX9_name_34 rfl rfl 35 rfl ?_
      refine ww_sipush (v := 256) C dX9_name_35 (by decide) 38 rfl ?_
      refine ww_iconst (v := 0) C dX9_name_38 (by decide) 39 rfl ?_
      refine ww_callV4p C (c_X9_joined l Γ hk e0 e1 hu hL) mi_X9_joined im_X9_joined se_X9_joined ml_X9_52 dX9_name_39 0 rfl rfl rfl (Nat.le_of_ble_eq_true rfl) (Nat.le_of_ble_eq_true rfl) (Nat.le_of_ble_eq_true rfl) ⟨Nat.zero_le _, Nat.zero_le _⟩ [0, 1, 2, 6, 7] rfl (by decide) 42 rfl ?_
      refine ww_iast C dX9_name_42 4 rfl hin 43 rfl ?_
      refine ww_goto C 113 dX9_name_43 (by decide) ?_
      skip
      first
        | (have g1 : A2 k = 1 ∧ L ≤ 4 := ⟨h_14, by have := (not_congr h4e).mp h_24; omega⟩)
        | (have g1 : ¬ (A2 k = 1 ∧ L ≤ 4) := fun q => h_14 q.1)
        | (have g1 : ¬ (A2 k = 1 ∧ L ≤ 4) := fun q => by have := h4e.mp h_24; omega)
      try first
        | (have g2 : A2 k = 2 ∧ L ≤ 4 := ⟨h_53, by have := (not_congr h4e).mp h_63; omega⟩)
        | (have g2 : ¬ (A2 k = 2 ∧ L ≤ 4) := fun q => h_53 q.1)
        | (have g2 : ¬ (A2 k = 2 ∧ L ≤ 4) := fun q => by have := h4e.mp h_63; omega)
      exact ww_vret C hr dX9_name_113 rfl (by rw [s_kd, s_vl]; first | (simp only [if_pos g1, ek]; rfl) | (simp only [if_neg g1, if_pos g2, ek, upd_2]; rfl) | (simp only [if_neg g1, if_neg g2, if_pos h_104, ek]; rfl) | (simp only [if_neg g1, if_neg g2, if_neg h_104, ek]; rfl))
/-- T tokens of u bytes, with their kinds and values in the rows -/
def TokE (b : Nat → Int32) (u T : Nat) (st ln : Nat → Nat) (A : Nat → Nat → Int32) : Prop :=
  TI b u T st ln (A 2) ∧ ∀ t, t < T → A 0 t = nI (st t) ∧ A 1 t = nI (ln t) ∧ A 3 t = s_kd (A 2 t) (ln t) b (st t) ∧ A 4 t = s_vl (A 2 t) (ln t) b (st t)
abbrev TkX : Type := Nat × (Nat → Nat) × (Nat → Nat) × (Nat → Nat → Int32)
abbrev wTok (Γ : Gm) (ht t0 t1 t2 t3 t4 T u : Nat) (A : Nat → Nat → Int32) : va_W := [(ht, .inr (7, [.ref t0, .ref t1, .ref t2, .ref t3, .ref t4, .int (nI T), .int (nI u)])), (t0, .inl (Γ.2.1, 401, .inl (A 0))), (t1, .inl (Γ.2.1, 401, .inl (A 1))), (t2, .inl (Γ.2.1, 401, .inl (A 2))), (t3, .inl (Γ.2.1, 401, .inl (A 3))), (t4, .inl (Γ.2.1, 401, .inl (A 4)))]
abbrev wTap (Γ : Gm) (h0 hb u : Nat) (by0 : Nat → Int32) : va_W := [(h0, .inr (6, [.ref hb, .int (nI u)])), (hb, .inl (Γ.2.1, 400, .inl by0))]
def a5 (f0 f1 f2 f3 f4 : Nat → Int32) : Nat → Nat → Int32 := fun k => match k with
  | 0 => f0
  | 1 => f1
  | 2 => f2
  | 3 => f3
  | _ => f4
theorem up_fst {st : Nat → Nat} {B : Nat → Int32} {T v : Nat} (h : ∀ t, t < T → B t = nI (st t)) : ∀ t, t < T + 1 → upd B T (nI v) t = nI (upN st T v t) := fun t ht => by
  by_cases e : t = T
  · subst e; rw [pk_us, upN_s]
  · rw [pk_un e, upN_n _ _ e]; exact h t (by omega)
theorem up_at {st : Nat → Nat} {B : Nat → Int32} {T k v : Nat} (h : ∀ t, t < T → B t = nI (st t)) : ∀ t, t < T → upd B k (nI v) t = nI (upN st k v t) := fun t ht => by
  by_cases e : t = k
  · subst e; rw [pk_us, upN_s]
  · rw [pk_un e, upN_n _ _ e]; exact h t ht
set_option maxHeartbeats 2000000 in
theorem c_X9_cut (l : Launch) (Γ : Gm) {ht t0 t1 t2 t3 t4 T u : Nat} {u0 h0 hb : Nat} {A : Nat → Nat → Int32} {by0 : Nat → Int32} (hu : u ≤ 400) : Ce l Γ yX9_cut cX9_cut 5 none 3 [.ref ht, .ref h0] (wTok Γ ht t0 t1 t2 t3 t4 T u0 A ++ wTap Γ h0 hb u by0) (fun (x : TkX) => TokE by0 u x.1 x.2.1 x.2.2.1 x.2.2.2) (fun (x : TkX) => none) (fun (x : TkX) => wTok Γ ht t0 t1 t2 t3 t4 x.1 u x.2.2.2 ++ wTap Γ h0 hb u by0) := by
  refine Ce.of mi_X9_cut [some (.ref ht), some (.ref h0), none, none, none] 3 rfl (Nat.le_of_ble_eq_true rfl) ?_
  intro p e s m args below meth c C hr
  refine ww_aload_n (i := 0) C dX9_cut_0 rfl rfl 1 rfl ?_
  refine ww_iconst (v := 0) C dX9_cut_1 (by decide) 2 rfl ?_
  refine ww_put C fe_X9_27 rfl dX9_cut_2 0 rfl rfl rfl (Nat.le_of_ble_eq_true rfl) 5 rfl ?_
  refine ww_aload_n (i := 0) C dX9_cut_5 rfl rfl 6 rfl ?_
  refine ww_aload_n (i := 1) C dX9_cut_6 rfl rfl 7 rfl ?_
  refine ww_get C fe_X9_34 dX9_cut_7 6 rfl rfl 10 rfl ?_
  refine ww_put C fe_X9_31 rfl dX9_cut_10 0 rfl rfl rfl (Nat.le_of_ble_eq_true rfl) 13 rfl ?_
  refine ww_iconst (v := 0) C dX9_cut_13 (by decide) 14 rfl ?_
  refine ww_istore_n (i := 2) C dX9_cut_14 rfl (by decide) rfl 15 rfl ?_
  refine ww_iconst (v := 0) C dX9_cut_15 (by decide) 16 rfl ?_
  refine ww_istore_n (i := 3) C dX9_cut_16 rfl (by decide) rfl 17 rfl ?_
  refine ww_loop (fun x : Nat × Nat × (Nat → Nat) × (Nat → Nat) × (Nat → Int32) × (Nat → Int32) × (Nat → Int32) => u - x.1) (fun x => x.1 ≤ u ∧ TI by0 x.1 x.2.1 x.2.2.1 x.2.2.2.1 x.2.2.2.2.2.2 ∧ (∀ t, t < x.2.1 → x.2.2.2.2.1 t = nI (x.2.2.1 t)) ∧ (∀ t, t < x.2.1 → x.2.2.2.2.2.1 t = nI (x.2.2.2.1 t))) (fun x => wTok Γ ht t0 t1 t2 t3 t4 x.2.1 u (a5 x.2.2.2.2.1 x.2.2.2.2.2.1 x.2.2.2.2.2.2 (A 3) (A 4)) ++ wTap Γ h0 hb u by0) (fun x => [some (.ref ht), some (.ref h0), some (.int (s_bf by0 x.1)), some (.int (nI x.1)), none]) (0, 0, fun _ => 0, fun _ => 0, A 0, A 1, A 2) ⟨Nat.zero_le _, TI_0 _ _ _ _, fun t h => absurd h (Nat.not_lt_zero t), fun t h => absurd h (Nat.not_lt_zero t)⟩ rfl rfl (fun x hx ih => ?_)
  obtain ⟨j, T, st, ln, B0, B1, B2⟩ := x
  obtain ⟨hj, hTI, hB0, hB1⟩ := hx
  try dsimp only at hj hTI hB0 hB1 ih ⊢
  refine ww_iload_n (i := 3) C dX9_cut_17 rfl rfl 18 rfl ?_
  refine ww_aload_n (i := 0) C dX9_cut_18 rfl rfl 19 rfl ?_
  refine ww_get C fe_X9_31 dX9_cut_19 0 rfl rfl 22 rfl ?_
  refine ww_icmp_ge C 79 dX9_cut_22 (by decide) 25 rfl (fun h_22 => ?_) (fun h_22 => ?_)
  · skip
    obtain rfl : j = u := eqN h_22 hj (by omega)
    have hT : T ≤ 400 := Nat.le_trans hTI.1 (by omega)
    refine ww_iconst (v := 0) C dX9_cut_79 (by decide) 80 rfl ?_
    refine ww_istore_n (i := 3) C dX9_cut_80 rfl (by decide) rfl 81 rfl ?_
    refine ww_lv (lv' := [some (.ref ht), some (.ref h0), none, some (.int (nI 0)), none]) (lvle_same (lvle_same (lvle_none (lvle_same (lvle_none lvle_nil))))) ?_
    refine ww_loop (fun x : Nat × (Nat → Int32) × (Nat → Int32) => T - x.1) (fun x => x.1 ≤ T ∧ ∀ t, t < x.1 → x.2.1 t = s_kd (B2 t) (ln t) by0 (st t) ∧ x.2.2 t = s_vl (B2 t) (ln t) by0 (st t)) (fun x => wTok Γ ht t0 t1 t2 t3 t4 T j (a5 B0 B1 B2 x.2.1 x.2.2) ++ wTap Γ h0 hb j by0) (fun x => [some (.ref ht), some (.ref h0), none, some (.int (nI x.1)), none]) (0, A 3, A 4) ⟨Nat.zero_le _, fun t h => absurd h (Nat.not_lt_zero t)⟩ rfl rfl (fun x hx ih2 => ?_)
    obtain ⟨i2, B3, B4⟩ := x
    obtain ⟨hi2, hkv⟩ := hx
    try dsimp only at hi2 hkv ih2 ⊢
    refine ww_iload_n (i := 3) C dX9_cut_81 rfl rfl 82 rfl ?_
    refine ww_aload_n (i := 0) C dX9_cut_82 rfl rfl 83 rfl ?_
    refine ww_get C fe_X9_27 dX9_cut_83 0 rfl rfl 86 rfl ?_
    refine ww_icmp_ge C 101 dX9_cut_86 (by decide) 89 rfl (fun h_86 => ?_) (fun h_86 => ?_)
    · skip
      obtain rfl : i2 = T := eqN h_86 hi2 (by omega)
      exact ww_vreE C hr dX9_cut_101 ((i2, st, ln, a5 B0 B1 B2 B3 B4)) (⟨hTI, fun t h => ⟨hB0 t h, hB1 t h, (hkv t h).1, (hkv t h).2⟩⟩) rfl rfl
    · skip
      have hlt : i2 < T := ltN h_86 (by omega) (by omega)
      refine ww_aload_n (i := 0) C dX9_cut_89 rfl rfl 90 rfl ?_
      refine ww_iload_n (i := 3) C dX9_cut_90 rfl rfl 91 rfl ?_
      refine ww_aload_n (i := 1) C dX9_cut_91 rfl rfl 92 rfl ?_
      refine ww_callV2v C (c_X9_name l Γ (pp := st i2) (L := ln i2) (by omega) (hB0 i2 hlt) (hB1 i2 hlt) hu (hTI.2.1 i2 hlt).2.1) mi_X9_name im_X9_name se_X9_name ml_X9_48 dX9_cut_92 0 rfl rfl rfl (Nat.le_of_ble_eq_true rfl) (Nat.le_of_ble_eq_true rfl) (Nat.le_of_ble_eq_true rfl) ⟨Nat.zero_le _, Nat.zero_le _⟩ [0, 1, 2, 3, 4, 5, 6, 7] rfl (by decide) rfl 95 rfl ?_
      refine ww_iinc (y := 1) C dX9_cut_95 rfl (by decide) (by decide) rfl 98 rfl ?_
      refine ww_goto C 81 dX9_cut_98 (by decide) ?_
      refine ww_eq rfl (by rw [nI_succ i2]; rfl) rfl (ih2 (i2 + 1, upd B3 i2 (s_kd (B2 i2) (ln i2) by0 (st i2)), upd B4 i2 (s_vl (B2 i2) (ln i2) by0 (st i2))) ⟨by omega, fun t h => ?_⟩ (by show T - (i2 + 1) < T - i2; omega))
      by_cases e : t = i2
      · subst e; exact ⟨pk_us, pk_us⟩
      · show upd B3 i2 _ t = _ ∧ upd B4 i2 _ t = _
        rw [pk_un e, pk_un e]; exact hkv t (by dsimp only at h; omega)
  · skip
    have hlt : j < u := ltN h_22 (by omega) (by omega)
    have hT : T ≤ 400 := Nat.le_trans hTI.1 (by omega)
    refine ww_aload_n (i := 1) C dX9_cut_25 rfl rfl 26 rfl ?_
    refine ww_iload_n (i := 3) C dX9_cut_26 rfl rfl 27 rfl ?_
    refine ww_callV1p C (c_X8_byteAt l Γ hu) mi_X8_byteAt im_X8_byteAt se_X8_byteAt ml_X9_37 dX9_cut_27 6 rfl rfl rfl (Nat.le_of_ble_eq_true rfl) (Nat.le_of_ble_eq_true rfl) (Nat.le_of_ble_eq_true rfl) ⟨Nat.zero_le _, Nat.zero_le _⟩ [6, 7] rfl (by decide) 30 rfl ?_
    have eb : s_tb by0 u (nI j) = by0 j := by rw [s_tb, if_neg (nI_pos (by omega)), if_neg (nI_ge (by omega) (by omega)), nI_clamp (by omega)]
    rw [eb]
    refine ww_callS1p C (c_X9_sortOf l Γ) mi_X9_sortOf st_X9_sortOf ml_X9_41 dX9_cut_30 (Nat.le_of_ble_eq_true rfl) (Nat.le_of_ble_eq_true rfl) (Nat.le_of_ble_eq_true rfl) ⟨Nat.zero_le _, Nat.zero_le _⟩ [] rfl (by decide) 33 rfl ?_
    refine ww_topi (fun so hso => ?_)
    refine ww_istore C dX9_cut_33 (by decide) rfl 35 rfl ?_
    refine ww_iload C dX9_cut_35 rfl 37 rfl ?_
    refine ww_if_eq C 70 dX9_cut_37 (by decide) 40 rfl (fun h_37 => ?_) (fun h_37 => ?_)
    · skip
      refine ww_iload C dX9_cut_70 rfl 72 rfl ?_
      refine ww_istore_n (i := 2) C dX9_cut_72 rfl (by decide) rfl 73 rfl ?_
      refine ww_iinc (y := 1) C dX9_cut_73 rfl (by decide) (by decide) rfl 76 rfl ?_
      refine ww_goto C 17 dX9_cut_76 (by decide) ?_
      have e5 : nI j + 1 = nI (j + 1) := (nI_succ j).symm
      first
        | (exact ww_lv (lv' := [some (.ref ht), some (.ref h0), some (.int (s_bf by0 (j + 1))), some (.int (nI (j + 1))), none]) (by rw [← e5, s_bf, ← hso]; exact (lvle_same (lvle_same (lvle_same (lvle_same (lvle_none lvle_nil)))))) (ih (j + 1, T, st, ln, B0, B1, B2) ⟨by omega, TI_blank hTI (hso ▸ h_37), hB0, hB1⟩ (by show u - (j + 1) < u - j; omega)))
        | (have hne : s_srt (by0 j) ≠ 0 := fun q => h_37 (hso.trans q)
           have hnn : ¬ (s_srt (by0 j) = s_bf by0 j ∧ (s_srt (by0 j) = 1 ∨ s_srt (by0 j) = 2)) := by
             rw [← hso]
             first
               | exact fun q => h_47 q.1
               | exact fun q => q.2.elim h_53 h_59
           refine ww_lv (lv' := [some (.ref ht), some (.ref h0), some (.int (s_bf by0 (j + 1))), some (.int (nI (j + 1))), none]) (by rw [← e5, s_bf, ← hso]; exact (lvle_same (lvle_same (lvle_same (lvle_same (lvle_none lvle_nil)))))) ?_
           have hP : p_new 0 T := Or.inl rfl
           have hI := ih (j + 1, T + 1, upN st T j, upN ln T 1, upd B0 T (nI j), upd B1 T 1, upd B2 T (s_srt (by0 j))) ⟨by omega, TI_new hTI hne hnn, up_fst hB0, up_fst (v := 1) hB1⟩ (by show u - (j + 1) < u - j; omega)
           rw [← hso] at hI
           refine ww_eq ?_ rfl rfl hI
           simp only [if_pos hP]
           rfl)
        | (have hne : s_srt (by0 j) ≠ 0 := fun q => h_37 (hso.trans q)
           have h12 : s_srt (by0 j) = 1 ∨ s_srt (by0 j) = 2 := by
             rw [← hso]
             first
               | exact Or.inl h_53
               | exact Or.inr h_59
           obtain ⟨hT0, hTI2⟩ := TI_on hTI hne (hso ▸ h_47) h12
           have hP : ¬ p_new 1 T := fun q => q.elim (by decide) (by omega)
           refine ww_lv (lv' := [some (.ref ht), some (.ref h0), some (.int (s_bf by0 (j + 1))), some (.int (nI (j + 1))), none]) (by rw [← e5, s_bf, ← hso]; exact (lvle_same (lvle_same (lvle_same (lvle_same (lvle_none lvle_nil)))))) ?_
           have eL : B1 (T - 1) + 1 = nI (ln (T - 1) + 1) := by rw [hB1 (T - 1) (by omega), nI_succ]
           have hI := ih (j + 1, T, st, upN ln (T - 1) (ln (T - 1) + 1), B0, upd B1 (T - 1) (B1 (T - 1) + 1), B2) ⟨by omega, hTI2, hB0, by rw [eL]; exact up_at hB1⟩ (by show u - (j + 1) < u - j; omega)
           refine ww_eq ?_ rfl rfl hI
           simp only [if_neg hP]
           rfl)
    · skip
      refine ww_aload_n (i := 0) C dX9_cut_40 rfl rfl 41 rfl ?_
      refine ww_iload_n (i := 3) C dX9_cut_41 rfl rfl 42 rfl ?_
      refine ww_iload C dX9_cut_42 rfl 44 rfl ?_
      refine ww_iload C dX9_cut_44 rfl 46 rfl ?_
      refine ww_iload_n (i := 2) C dX9_cut_46 rfl rfl 47 rfl ?_
      refine ww_icmp_ne C 66 dX9_cut_47 (by decide) 50 rfl (fun h_47 => ?_) (fun h_47 => ?_)
      · skip
        refine ww_iconst (v := 0) C dX9_cut_66 (by decide) 67 rfl ?_
        refine ww_callV3v C (c_X9_place l Γ hT) mi_X9_place im_X9_place se_X9_place ml_X9_44 dX9_cut_67 0 rfl rfl rfl (Nat.le_of_ble_eq_true rfl) (Nat.le_of_ble_eq_true rfl) (Nat.le_of_ble_eq_true rfl) ⟨Nat.zero_le _, Nat.zero_le _⟩ [0, 1, 2, 3] rfl (by decide) rfl 70 rfl ?_
        refine ww_iload C dX9_cut_70 rfl 72 rfl ?_
        refine ww_istore_n (i := 2) C dX9_cut_72 rfl (by decide) rfl 73 rfl ?_
        refine ww_iinc (y := 1) C dX9_cut_73 rfl (by decide) (by decide) rfl 76 rfl ?_
        refine ww_goto C 17 dX9_cut_76 (by decide) ?_
        have e5 : nI j + 1 = nI (j + 1) := (nI_succ j).symm
        first
          | (exact ww_lv (lv' := [some (.ref ht), some (.ref h0), some (.int (s_bf by0 (j + 1))), some (.int (nI (j + 1))), none]) (by rw [← e5, s_bf, ← hso]; exact (lvle_same (lvle_same (lvle_same (lvle_same (lvle_none lvle_nil)))))) (ih (j + 1, T, st, ln, B0, B1, B2) ⟨by omega, TI_blank hTI (hso ▸ h_37), hB0, hB1⟩ (by show u - (j + 1) < u - j; omega)))
          | (have hne : s_srt (by0 j) ≠ 0 := fun q => h_37 (hso.trans q)
             have hnn : ¬ (s_srt (by0 j) = s_bf by0 j ∧ (s_srt (by0 j) = 1 ∨ s_srt (by0 j) = 2)) := by
               rw [← hso]
               first
                 | exact fun q => h_47 q.1
                 | exact fun q => q.2.elim h_53 h_59
             refine ww_lv (lv' := [some (.ref ht), some (.ref h0), some (.int (s_bf by0 (j + 1))), some (.int (nI (j + 1))), none]) (by rw [← e5, s_bf, ← hso]; exact (lvle_same (lvle_same (lvle_same (lvle_same (lvle_none lvle_nil)))))) ?_
             have hP : p_new 0 T := Or.inl rfl
             have hI := ih (j + 1, T + 1, upN st T j, upN ln T 1, upd B0 T (nI j), upd B1 T 1, upd B2 T (s_srt (by0 j))) ⟨by omega, TI_new hTI hne hnn, up_fst hB0, up_fst (v := 1) hB1⟩ (by show u - (j + 1) < u - j; omega)
             rw [← hso] at hI
             refine ww_eq ?_ rfl rfl hI
             simp only [if_pos hP]
             rfl)
          | (have hne : s_srt (by0 j) ≠ 0 := fun q => h_37 (hso.trans q)
             have h12 : s_srt (by0 j) = 1 ∨ s_srt (by0 j) = 2 := by
               rw [← hso]
               first
                 | exact Or.inl h_53
                 | exact Or.inr h_59
             obtain ⟨hT0, hTI2⟩ := TI_on hTI hne (hso ▸ h_47) h12
             have hP : ¬ p_new 1 T := fun q => q.elim (by decide) (by omega)
             refine ww_lv (lv' := [some (.ref ht), some (.ref h0), some (.int (s_bf by0 (j + 1))), some (.int (nI (j + 1))), none]) (by rw [← e5, s_bf, ← hso]; exact (lvle_same (lvle_same (lvle_same (lvle_same (lvle_none lvle_nil)))))) ?_
             have eL : B1 (T - 1) + 1 = nI (ln (T - 1) + 1) := by rw [hB1 (T - 1) (by omega), nI_succ]
             have hI := ih (j + 1, T, st, upN ln (T - 1) (ln (T - 1) + 1), B0, upd B1 (T - 1) (B1 (T - 1) + 1), B2) ⟨by omega, hTI2, hB0, by rw [eL]; exact up_at hB1⟩ (by show u - (j + 1) < u - j; omega)
             refine ww_eq ?_ rfl rfl hI
             simp only [if_neg hP]
             rfl)
      · skip
        refine ww_iload C dX9_cut_50 rfl 52 rfl ?_
        refine ww_iconst (v := 1) C dX9_cut_52 (by decide) 53 rfl ?_
        refine ww_icmp_eq C 62 dX9_cut_53 (by decide) 56 rfl (fun h_53 => ?_) (fun h_53 => ?_)
        · skip
          refine ww_iconst (v := 1) C dX9_cut_62 (by decide) 63 rfl ?_
          refine ww_goto C 67 dX9_cut_63 (by decide) ?_
          refine ww_callV3v C (c_X9_place l Γ hT) mi_X9_place im_X9_place se_X9_place ml_X9_44 dX9_cut_67 0 rfl rfl rfl (Nat.le_of_ble_eq_true rfl) (Nat.le_of_ble_eq_true rfl) (Nat.le_of_ble_eq_true rfl) ⟨Nat.zero_le _, Nat.zero_le _⟩ [0, 1, 2, 3] rfl (by decide) rfl 70 rfl ?_
          refine ww_iload C dX9_cut_70 rfl 72 rfl ?_
          refine ww_istore_n (i := 2) C dX9_cut_72 rfl (by decide) rfl 73 rfl ?_
          refine ww_iinc (y := 1) C dX9_cut_73 rfl (by decide) (by decide) rfl 76 rfl ?_
          refine ww_goto C 17 dX9_cut_76 (by decide) ?_
          have e5 : nI j + 1 = nI (j + 1) := (nI_succ j).symm
          first
            | (exact ww_lv (lv' := [some (.ref ht), some (.ref h0), some (.int (s_bf by0 (j + 1))), some (.int (nI (j + 1))), none]) (by rw [← e5, s_bf, ← hso]; exact (lvle_same (lvle_same (lvle_same (lvle_same (lvle_none lvle_nil)))))) (ih (j + 1, T, st, ln, B0, B1, B2) ⟨by omega, TI_blank hTI (hso ▸ h_37), hB0, hB1⟩ (by show u - (j + 1) < u - j; omega)))
            | (have hne : s_srt (by0 j) ≠ 0 := fun q => h_37 (hso.trans q)
               have hnn : ¬ (s_srt (by0 j) = s_bf by0 j ∧ (s_srt (by0 j) = 1 ∨ s_srt (by0 j) = 2)) := by
                 rw [← hso]
                 first
                   | exact fun q => h_47 q.1
                   | exact fun q => q.2.elim h_53 h_59
               refine ww_lv (lv' := [some (.ref ht), some (.ref h0), some (.int (s_bf by0 (j + 1))), some (.int (nI (j + 1))), none]) (by rw [← e5, s_bf, ← hso]; exact (lvle_same (lvle_same (lvle_same (lvle_same (lvle_none lvle_nil)))))) ?_
               have hP : p_new 0 T := Or.inl rfl
               have hI := ih (j + 1, T + 1, upN st T j, upN ln T 1, upd B0 T (nI j), upd B1 T 1, upd B2 T (s_srt (by0 j))) ⟨by omega, TI_new hTI hne hnn, up_fst hB0, up_fst (v := 1) hB1⟩ (by show u - (j + 1) < u - j; omega)
               rw [← hso] at hI
               refine ww_eq ?_ rfl rfl hI
               simp only [if_pos hP]
               rfl)
            | (have hne : s_srt (by0 j) ≠ 0 := fun q => h_37 (hso.trans q)
               have h12 : s_srt (by0 j) = 1 ∨ s_srt (by0 j) = 2 := by
                 rw [← hso]
                 first
                   | exact Or.inl h_53
                   | exact Or.inr h_59
               obtain ⟨hT0, hTI2⟩ := TI_on hTI hne (hso ▸ h_47) h12
               have hP : ¬ p_new 1 T := fun q => q.elim (by decide) (by omega)
               refine ww_lv (lv' := [some (.ref ht), some (.ref h0), some (.int (s_bf by0 (j + 1))), some (.int (nI (j + 1))), none]) (by rw [← e5, s_bf, ← hso]; exact (lvle_same (lvle_same (lvle_same (lvle_same (lvle_none lvle_nil)))))) ?_
               have eL : B1 (T - 1) + 1 = nI (ln (T - 1) + 1) := by rw [hB1 (T - 1) (by omega), nI_succ]
               have hI := ih (j + 1, T, st, upN ln (T - 1) (ln (T - 1) + 1), B0, upd B1 (T - 1) (B1 (T - 1) + 1), B2) ⟨by omega, hTI2, hB0, by rw [eL]; exact up_at hB1⟩ (by show u - (j + 1) < u - j; omega)
               refine ww_eq ?_ rfl rfl hI
               simp only [if_neg hP]
               rfl)
        · skip
          refine ww_iload C dX9_cut_56 rfl 58 rfl ?_
          refine ww_iconst (v := 2) C dX9_cut_58 (by decide) 59 rfl ?_
          refine ww_icmp_ne C 66 dX9_cut_59 (by decide) 62 rfl (fun h_59 => ?_) (fun h_59 => ?_)
          · skip
            refine ww_iconst (v := 0) C dX9_cut_66 (by decide) 67 rfl ?_
            refine ww_callV3v C (c_X9_place l Γ hT) mi_X9_place im_X9_place se_X9_place ml_X9_44 dX9_cut_67 0 rfl rfl rfl (Nat.le_of_ble_eq_true rfl) (Nat.le_of_ble_eq_true rfl) (Nat.le_of_ble_eq_true rfl) ⟨Nat.zero_le _, Nat.zero_le _⟩ [0, 1, 2, 3] rfl (by decide) rfl 70 rfl ?_
            refine ww_iload C dX9_cut_70 rfl 72 rfl ?_
            refine ww_istore_n (i := 2) C dX9_cut_72 rfl (by decide) rfl 73 rfl ?_
            refine ww_iinc (y := 1) C dX9_cut_73 rfl (by decide) (by decide) rfl 76 rfl ?_
            refine ww_goto C 17 dX9_cut_76 (by decide) ?_
            have e5 : nI j + 1 = nI (j + 1) := (nI_succ j).symm
            first
              | (exact ww_lv (lv' := [some (.ref ht), some (.ref h0), some (.int (s_bf by0 (j + 1))), some (.int (nI (j + 1))), none]) (by rw [← e5, s_bf, ← hso]; exact (lvle_same (lvle_same (lvle_same (lvle_same (lvle_none lvle_nil)))))) (ih (j + 1, T, st, ln, B0, B1, B2) ⟨by omega, TI_blank hTI (hso ▸ h_37), hB0, hB1⟩ (by show u - (j + 1) < u - j; omega)))
              | (have hne : s_srt (by0 j) ≠ 0 := fun q => h_37 (hso.trans q)
                 have hnn : ¬ (s_srt (by0 j) = s_bf by0 j ∧ (s_srt (by0 j) = 1 ∨ s_srt (by0 j) = 2)) := by
                   rw [← hso]
                   first
                     | exact fun q => h_47 q.1
                     | exact fun q => q.2.elim h_53 h_59
                 refine ww_lv (lv' := [some (.ref ht), some (.ref h0), some (.int (s_bf by0 (j + 1))), some (.int (nI (j + 1))), none]) (by rw [← e5, s_bf, ← hso]; exact (lvle_same (lvle_same (lvle_same (lvle_same (lvle_none lvle_nil)))))) ?_
                 have hP : p_new 0 T := Or.inl rfl
                 have hI := ih (j + 1, T + 1, upN st T j, upN ln T 1, upd B0 T (nI j), upd B1 T 1, upd B2 T (s_srt (by0 j))) ⟨by omega, TI_new hTI hne hnn, up_fst hB0, up_fst (v := 1) hB1⟩ (by show u - (j + 1) < u - j; omega)
                 rw [← hso] at hI
                 refine ww_eq ?_ rfl rfl hI
                 simp only [if_pos hP]
                 rfl)
              | (have hne : s_srt (by0 j) ≠ 0 := fun q => h_37 (hso.trans q)
                 have h12 : s_srt (by0 j) = 1 ∨ s_srt (by0 j) = 2 := by
                   rw [← hso]
                   first
                     | exact Or.inl h_53
                     | exact Or.inr h_59
                 obtain ⟨hT0, hTI2⟩ := TI_on hTI hne (hso ▸ h_47) h12
                 have hP : ¬ p_new 1 T := fun q => q.elim (by decide) (by omega)
                 refine ww_lv (lv' := [some (.ref ht), some (.ref h0), some (.int (s_bf by0 (j + 1))), some (.int (nI (j + 1))), none]) (by rw [← e5, s_bf, ← hso]; exact (lvle_same (lvle_same (lvle_same (lvle_same (lvle_none lvle_nil)))))) ?_
                 have eL : B1 (T - 1) + 1 = nI (ln (T - 1) + 1) := by rw [hB1 (T - 1) (by omega), nI_succ]
                 have hI := ih (j + 1, T, st, upN ln (T - 1) (ln (T - 1) + 1), B0, upd B1 (T - 1) (B1 (T - 1) + 1), B2) ⟨by omega, hTI2, hB0, by rw [eL]; exact up_at hB1⟩ (by show u - (j + 1) < u - j; omega)
                 refine ww_eq ?_ rfl rfl hI
                 simp only [if_neg hP]
                 rfl)
          · skip
            refine ww_iconst (v := 1) C dX9_cut_62 (by decide) 63 rfl ?_
            refine ww_goto C 67 dX9_cut_63 (by decide) ?_
            refine ww_callV3v C (c_X9_place l Γ hT) mi_X9_place im_X9_place se_X9_place ml_X9_44 dX9_cut_67 0 rfl rfl rfl (Nat.le_of_ble_eq_true rfl) (Nat.le_of_ble_eq_true rfl) (Nat.le_of_ble_eq_true rfl) ⟨Nat.zero_le _, Nat.zero_le _⟩ [0, 1, 2, 3] rfl (by decide) rfl 70 rfl ?_
            refine ww_iload C dX9_cut_70 rfl 72 rfl ?_
            refine ww_istore_n (i := 2) C dX9_cut_72 rfl (by decide) rfl 73 rfl ?_
            refine ww_iinc (y := 1) C dX9_cut_73 rfl (by decide) (by decide) rfl 76 rfl ?_
            refine ww_goto C 17 dX9_cut_76 (by decide) ?_
            have e5 : nI j + 1 = nI (j + 1) := (nI_succ j).symm
            first
              | (exact ww_lv (lv' := [some (.ref ht), some (.ref h0), some (.int (s_bf by0 (j + 1))), some (.int (nI (j + 1))), none]) (by rw [← e5, s_bf, ← hso]; exact (lvle_same (lvle_same (lvle_same (lvle_same (lvle_none lvle_nil)))))) (ih (j + 1, T, st, ln, B0, B1, B2) ⟨by omega, TI_blank hTI (hso ▸ h_37), hB0, hB1⟩ (by show u - (j + 1) < u - j; omega)))
              | (have hne : s_srt (by0 j) ≠ 0 := fun q => h_37 (hso.trans q)
                 have hnn : ¬ (s_srt (by0 j) = s_bf by0 j ∧ (s_srt (by0 j) = 1 ∨ s_srt (by0 j) = 2)) := by
                   rw [← hso]
                   first
                     | exact fun q => h_47 q.1
                     | exact fun q => q.2.elim h_53 h_59
                 refine ww_lv (lv' := [some (.ref ht), some (.ref h0), some (.int (s_bf by0 (j + 1))), some (.int (nI (j + 1))), none]) (by rw [← e5, s_bf, ← hso]; exact (lvle_same (lvle_same (lvle_same (lvle_same (lvle_none lvle_nil)))))) ?_
                 have hP : p_new 0 T := Or.inl rfl
                 have hI := ih (j + 1, T + 1, upN st T j, upN ln T 1, upd B0 T (nI j), upd B1 T 1, upd B2 T (s_srt (by0 j))) ⟨by omega, TI_new hTI hne hnn, up_fst hB0, up_fst (v := 1) hB1⟩ (by show u - (j + 1) < u - j; omega)
                 rw [← hso] at hI
                 refine ww_eq ?_ rfl rfl hI
                 simp only [if_pos hP]
                 rfl)
              | (have hne : s_srt (by0 j) ≠ 0 := fun q => h_37 (hso.trans q)
                 have h12 : s_srt (by0 j) = 1 ∨ s_srt (by0 j) = 2 := by
                   rw [← hso]
                   first
                     | exact Or.inl h_53
                     | exact Or.inr h_59
                 obtain ⟨hT0, hTI2⟩ := TI_on hTI hne (hso ▸ h_47) h12
                 have hP : ¬ p_new 1 T := fun q => q.elim (by decide) (by omega)
                 refine ww_lv (lv' := [some (.ref ht), some (.ref h0), some (.int (s_bf by0 (j + 1))), some (.int (nI (j + 1))), none]) (by rw [← e5, s_bf, ← hso]; exact (lvle_same (lvle_same (lvle_same (lvle_same (lvle_none lvle_nil)))))) ?_
                 have eL : B1 (T - 1) + 1 = nI (ln (T - 1) + 1) := by rw [hB1 (T - 1) (by omega), nI_succ]
                 have hI := ih (j + 1, T, st, upN ln (T - 1) (ln (T - 1) + 1), B0, upd B1 (T - 1) (B1 (T - 1) + 1), B2) ⟨by omega, hTI2, hB0, by rw [eL]; exact up_at hB1⟩ (by show u - (j + 1) < u - j; omega)
                 refine ww_eq ?_ rfl rfl hI
                 simp only [if_neg hP]
                 rfl)
