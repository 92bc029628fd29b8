def MRep (κ ν a2 rt sy : Nat → Int32) (n : Nat) (q : RuX) : Prop := ∀ r, r < n → 1 ≤ q.1 r ∧ q.1 r ≤ 4 ∧ a2 r = nI (q.1 r) ∧ MPart κ ν rt r (q.1 r) (q.2.1 r) ∧ sy r = ν (q.2.2 r - 2)
theorem MPart.keep {κ ν rt rt' : Nat → Int32} {r k n : Nat} {τ : Nat → Nat} (h : MPart κ ν rt r k τ) (hr : r < n) (hk : k ≤ 4) (K : ∀ i, i < 12 * n → rt' i = rt i) : MPart κ ν rt' r k τ := by
  intro j hj
  obtain ⟨a1, a2, a3⟩ := h j hj
  exact ⟨(K _ (by omega)).trans a1, (K _ (by omega)).trans a2, (K _ (by omega)).trans a3⟩
theorem MRep.step {κ ν a2 rt rt' sy : Nat → Int32} {n k e : Nat} {q : RuX} {τ : Nat → Nat} (h : MRep κ ν a2 rt sy n q) (K : ∀ i, i < 12 * n → rt' i = rt i) (h1 : 1 ≤ k) (h4 : k ≤ 4) (hp : MPart κ ν rt' n k τ) : MRep κ ν (upd a2 n (nI k)) rt' (upd sy n (ν (e - 2))) (n + 1) (upN q.1 n k, upF q.2.1 n τ, upN q.2.2 n e) := by
  intro r hr
  by_cases e0 : r = n
  · subst e0
    dsimp only
    rw [upN_s, upN_s, show upF q.2.1 r τ r = τ from if_pos rfl]
    exact ⟨h1, h4, pk_us, hp, pk_us⟩
  · dsimp only
    rw [upN_n _ _ e0, upN_n _ _ e0, show upF q.2.1 n τ r = q.2.1 r from if_neg e0]
    obtain ⟨b1, b2, b3, b4, b5⟩ := h r (by omega)
    exact ⟨b1, b2, (pk_un e0).trans b3, b4.keep (by omega) b2 K, (pk_un e0).trans b5⟩
theorem MRep.copy {κ ν a2 rt sy a2' rt' sy' : Nat → Int32} {n : Nat} {q : RuX} (h : MRep κ ν a2 rt sy n q) (hn : n ≤ 15) (h1 : ∀ i, i < 15 → a2' i = a2 i ∧ sy' i = sy i) (h2 : ∀ i, i < 180 → rt' i = rt i) : MRep κ ν a2' rt' sy' n q := by
  intro r hr
  obtain ⟨b1, b2, b3, b4, b5⟩ := h r hr
  exact ⟨b1, b2, (h1 r (by omega)).1.trans b3, b4.keep (n := 15) (by omega) b2 (fun i hi => h2 i (by omega)), (h1 r (by omega)).2.trans b5⟩
theorem gN_le {κ ν : Nat → Int32} {t : Nat} {lo hi : Int32} (h : ¬ gN κ ν t lo hi = 0) : ¬ gN κ ν t lo hi ≤ 0 := by
  rcases gN_b (κ := κ) (ν := ν) (t := t) (lo := lo) (hi := hi) with e | e | e
  · exact absurd e h
  · rw [e]; decide
  · rw [e]; decide
theorem gT_b {κ ν : Nat → Int32} {t : Nat} : (gT κ ν t).1 = 0 ∨ (gT κ ν t).1 = 1 ∨ (gT κ ν t).1 = 2 := by
  unfold gT
  repeat' split
  all_goals first
    | exact gN_b
    | exact Or.inl rfl
    | exact Or.inr (Or.inl rfl)
theorem gT_le {κ ν : Nat → Int32} {t : Nat} (h : ¬ (gT κ ν t).1 = 0) : ¬ (gT κ ν t).1 ≤ 0 := by
  rcases gT_b (κ := κ) (ν := ν) (t := t) with e | e | e
  · exact absurd e h
  · rw [e]; decide
  · rw [e]; decide
theorem gS_le {κ ν : Nat → Int32} {t : Nat} (h : ¬ (gS κ ν t).1 = 0) : ¬ (gS κ ν t).1 ≤ 0 := by
  unfold gS at h ⊢
  split
  · exact (by decide : ¬ (1 : Int32) ≤ 0)
  · split
    · next z => exact gN_le z
    · split
      · exact (by decide : ¬ (1 : Int32) ≤ 0)
      · next z1 z2 z3 =>
        rw [if_neg z1, if_neg z2, if_neg z3] at h
        exact absurd rfl h
theorem gA_le {κ ν : Nat → Int32} : ∀ {f t : Nat} {q : Nat × (Nat → Nat)}, ¬ (gA κ ν f t q).1 = 0 → ¬ (gA κ ν f t q).1 ≤ 0
  | 0, t, q, h => by
    unfold gA at h ⊢
    split
    · exact (by decide : ¬ (3 : Int32) ≤ 0)
    · next z =>
      rw [if_neg z] at h
      exact gS_le h
  | f + 1, t, q, h => by
    unfold gA at h ⊢
    split
    · next z =>
      rw [if_pos z] at h
      split
      · next y => exact gT_le y
      · next y =>
        rw [if_neg y] at h
        exact gA_le h
    · next z =>
      rw [if_neg z] at h
      exact gS_le h
theorem gR_le {κ ν : Nat → Int32} {n t : Nat} (h : ¬ (gR κ ν n t).1 = 0) : ¬ (gR κ ν n t).1 ≤ 0 := by
  unfold gR at h ⊢
  split
  · exact (by decide : ¬ (1 : Int32) ≤ 0)
  · next z =>
    split
    · exact (by decide : ¬ (3 : Int32) ≤ 0)
    · next y =>
      rw [if_neg z, if_neg y] at h
      split
      · next w => exact gT_le w
      · next w =>
        rw [if_neg w] at h
        exact gA_le h
abbrev MuX : Type := Int32 × (Nat → Int32) × (Nat → Nat → Int32)
def i6 (f0 f1 f2 f3 f4 f5 : Nat → Int32) : Nat → Nat → Int32 := fun k => match k with
  | 0 => f0
  | 1 => f1
  | 2 => f2
  | 3 => f3
  | 4 => f4
  | _ => f5
/-- the model's text: read, or its fault told -/
def MuQ (T u : Nat) (st : Nat → Nat) (A : Nat → Nat → Int32) (I te ts sy : Nat → Int32) (x : MuX) : Prop :=
  (x.2.1 1 = I 1 ∧ x.2.1 5 = I 5 ∧ x.2.1 25 = I 25 ∧ x.2.1 29 = I 29 ∧ x.2.1 16 = 0) ∧
  ((∃ (t n : Nat) (q : RuX), gAll (kp T A) (nv T A) = (0, t, n, q) ∧ n ≤ 15 ∧ x.1 = nI n ∧ x.2.1 7 = nI n ∧ x.2.1 17 = I 17 ∧ MRep (kp T A) (nv T A) (x.2.2 3) (x.2.2 4) (x.2.2 5) n q) ∨
   (¬ (gAll (kp T A) (nv T A)).1 = 0 ∧ x.1 = -1000100 - nI (sa T u st (gAll (kp T A) (nv T A)).2.1) ∧ x.2.1 7 = I 7 ∧ x.2.1 17 = (gAll (kp T A) (nv T A)).1 ∧ x.2.2 3 = te ∧ x.2.2 4 = ts ∧ x.2.2 5 = sy))
def ruI (I : Nat → Int32) (u : Nat) : Nat → Int32 := upd (upd (upd I 0 0) 18 (nI u)) 16 0
set_option maxHeartbeats 4000000 in
theorem c_X11_rules (l : Launch) (Γ : Gm) {hm : Nat} {q : Nat → Nat} {I : Nat → Int32} {T u : Nat} {st ln : Nat → Nat} {A : Nat → Nat → Int32} {tp a2 rt sy te ts sy9 : Nat → Int32} (h16 : I 16 = nI u) (hu : u ≤ 400) (hTk : TokE tp u T st ln A) (hby : ∀ x, x < u → ∃ y, y < 256 ∧ tp x = nI y) : Ce l Γ yX11_rules cX11_rules 3 (some .int) 6 [.ref hm] ([wMo hm q (I), (q 15, .inl (Γ.2.1, 400, .inl tp)), (q 12, .inl (Γ.2.1, 15, .inl (a2))), (q 13, .inl (Γ.2.1, 180, .inl (rt))), (q 14, .inl (Γ.2.1, 15, .inl (sy))), (q 8, .inl (Γ.2.1, 15, .inl (te))), (q 9, .inl (Γ.2.1, 180, .inl (ts))), (q 10, .inl (Γ.2.1, 15, .inl (sy9)))]) (fun (x : MuX) => MuQ T u st A I te ts sy9 x) (fun (x : MuX) => some (.int x.1)) (fun (x : MuX) => [wMo hm q (x.2.1), (q 15, .inl (Γ.2.1, 400, .inl tp)), (q 12, .inl (Γ.2.1, 15, .inl (x.2.2 0))), (q 13, .inl (Γ.2.1, 180, .inl (x.2.2 1))), (q 14, .inl (Γ.2.1, 15, .inl (x.2.2 2))), (q 8, .inl (Γ.2.1, 15, .inl (x.2.2 3))), (q 9, .inl (Γ.2.1, 180, .inl (x.2.2 4))), (q 10, .inl (Γ.2.1, 15, .inl (x.2.2 5)))]) := by
  refine Ce.of mi_X11_rules [some (.ref hm), none, none] 2 rfl (Nat.le_of_ble_eq_true rfl) ?_
  intro p e s m args below meth c C hr
  refine ww_aload_n (i := 0) C dX11_rules_0 rfl rfl 1 rfl ?_
  refine ww_iconst (v := 0) C dX11_rules_1 (by decide) 2 rfl ?_
  refine ww_mput_0 C fe_X11_52 dX11_rules_2 5 rfl ?_
  refine ww_aload_n (i := 0) C dX11_rules_5 rfl rfl 6 rfl ?_
  refine ww_aload_n (i := 0) C dX11_rules_6 rfl rfl 7 rfl ?_
  refine ww_get C fe_X11_107 dX11_rules_7 0 rfl rfl 10 rfl ?_
  rw [show upd I 0 0 16 = nI u from h16]
  refine ww_mput_18 C fe_X11_113 dX11_rules_10 13 rfl ?_
  refine ww_aload_n (i := 0) C dX11_rules_13 rfl rfl 14 rfl ?_
  refine ww_iconst (v := 0) C dX11_rules_14 (by decide) 15 rfl ?_
  refine ww_mput_16 C fe_X11_107 dX11_rules_15 18 rfl ?_
  refine ww_aload_n (i := 0) C dX11_rules_18 rfl rfl 19 rfl ?_
  refine ww_iconst (v := 0) C dX11_rules_19 (by decide) 20 rfl ?_
  refine ww_mput_19 C fe_X11_116 dX11_rules_20 23 rfl ?_
  refine ww_aload_n (i := 0) C dX11_rules_23 rfl rfl 24 rfl ?_
  refine ww_iconst (v := 0) C dX11_rules_24 (by decide) 25 rfl ?_
  refine ww_mput_23 C fe_X11_137 dX11_rules_25 28 rfl ?_
  refine ww_aload_n (i := 0) C dX11_rules_28 rfl rfl 29 rfl ?_
  refine ww_iconst (v := 0) C dX11_rules_29 (by decide) 30 rfl ?_
  refine ww_mput_11 C fe_X11_153 dX11_rules_30 33 rfl ?_
  refine ww_aload_n (i := 0) C dX11_rules_33 rfl rfl 34 rfl ?_
  refine ww_callV0v C (c_X11_step l Γ (q := q) (I := upd (upd (upd (upd (upd (upd I 0 0) 18 (nI u)) 16 0) 19 0) 23 0) 11 0) (t := 0) (ty := A 2) (T := T) (u := u) (st := st) (ln := ln) rfl hu hTk.1 hby (Nat.zero_le _) rfl) mi_X11_step im_X11_step se_X11_step ml_X11_146 dX11_rules_34 0 rfl rfl rfl (Nat.le_of_ble_eq_true rfl) (Nat.le_of_ble_eq_true rfl) (Nat.le_of_ble_eq_true rfl) ⟨Nat.zero_le _, Nat.zero_le _⟩ [0, 1] rfl (by decide) rfl 37 rfl ?_
  refine ww_eq (ws' := [wMo hm q (tokI (flI (ruI I u) (0) (0) (I 24)) T u st ln (A 2) (0)), (q 15, .inl (Γ.2.1, 400, .inl tp)), (q 12, .inl (Γ.2.1, 15, .inl (a2))), (q 13, .inl (Γ.2.1, 180, .inl (rt))), (q 14, .inl (Γ.2.1, 15, .inl (sy))), (q 8, .inl (Γ.2.1, 15, .inl (te))), (q 9, .inl (Γ.2.1, 180, .inl (ts))), (q 10, .inl (Γ.2.1, 15, .inl (sy9)))]) rfl rfl rfl ?_
  refine ww_loop (fun x : Nat × Nat × Int32 × (Nat → Int32) × (Nat → Int32) × (Nat → Int32) × RuX => 16 - x.1) (fun x => x.1 ≤ 15 ∧ x.2.1 ≤ T ∧ gAll (kp T A) (nv T A) = gRs (kp T A) (nv T A) (16 - x.1) x.1 x.2.1 x.2.2.2.2.2.2 ∧ MRep (kp T A) (nv T A) x.2.2.2.1 x.2.2.2.2.1 x.2.2.2.2.2.1 x.1 x.2.2.2.2.2.2) (fun x => [wMo hm q (tokI (flI (ruI I u) (x.1) (0) (x.2.2.1)) T u st ln (A 2) (x.2.1)), (q 15, .inl (Γ.2.1, 400, .inl tp)), (q 12, .inl (Γ.2.1, 15, .inl (x.2.2.2.1))), (q 13, .inl (Γ.2.1, 180, .inl (x.2.2.2.2.1))), (q 14, .inl (Γ.2.1, 15, .inl (x.2.2.2.2.2.1))), (q 8, .inl (Γ.2.1, 15, .inl (te))), (q 9, .inl (Γ.2.1, 180, .inl (ts))), (q 10, .inl (Γ.2.1, 15, .inl (sy9)))]) (fun x => [some (.ref hm), none, none]) (0, 0, I 24, a2, rt, sy, q00) ⟨Nat.zero_le _, Nat.zero_le _, rfl, fun r hr => absurd hr (Nat.not_lt_zero r)⟩ rfl rfl (fun x hx ih => ?_)
  obtain ⟨r, t2, p2, a3, rt3, sy3, qq⟩ := x
  obtain ⟨hr9, ht2, hall, hrep⟩ := hx
  try dsimp only at hr9 ht2 hall hrep ih ⊢
  refine ww_aload_n (i := 0) C dX11_rules_37 rfl rfl 38 rfl ?_
  refine ww_get C fe_X11_137 dX11_rules_38 0 rfl rfl 41 rfl ?_
  refine ww_if_ne C 59 dX11_rules_41 (by decide) 44 rfl (fun h_41 => ?_) (fun h_41 => ?_)
  · exact absurd rfl h_41
  · skip
    refine ww_aload_n (i := 0) C dX11_rules_44 rfl rfl 45 rfl ?_
    refine ww_get C fe_X11_125 dX11_rules_45 0 rfl rfl 48 rfl ?_
    refine ww_iconst (v := 1) C dX11_rules_48 (by decide) 49 rfl ?_
    rw [show (tokI (flI (ruI I u) (r) (0) (p2)) T u st ln (A 2) (t2)) 20 = so T ln (A 2) t2 from rfl]
    refine ww_icmp_eq C 59 dX11_rules_49 (by decide) 52 rfl (fun h_49 => ?_) (fun h_49 => ?_)
    · skip
      try have hend : kp T A t2 = 0 := (so_1 hTk t2).mp h_49
      refine ww_aload_n (i := 0) C dX11_rules_59 rfl rfl 60 rfl ?_
      refine ww_get C fe_X11_137 dX11_rules_60 0 rfl rfl 63 rfl ?_
      refine ww_if_le C 82 dX11_rules_63 (by decide) 66 rfl (fun h_63 => ?_) (fun h_63 => ?_)
      · skip
        refine ww_aload_n (i := 0) C dX11_rules_82 rfl rfl 83 rfl ?_
        refine ww_aload_n (i := 0) C dX11_rules_83 rfl rfl 84 rfl ?_
        refine ww_get C fe_X11_153 dX11_rules_84 0 rfl rfl 87 rfl ?_
        rw [show (tokI (flI (ruI I u) (r) (0) (p2)) T u st ln (A 2) (t2)) 11 = nI r from rfl]
        refine ww_mput_7 C fe_X11_189 dX11_rules_87 90 rfl ?_
        refine ww_iconst (v := 0) C dX11_rules_90 (by decide) 91 rfl ?_
        refine ww_istore_n (i := 1) C dX11_rules_91 rfl (by decide) rfl 92 rfl ?_
        have hG : gAll (kp T A) (nv T A) = (0, t2, r, qq) := by rw [hall, show 16 - r = (16 - (r + 1)) + 1 by omega, gRs, if_pos hend]
        clear ih
        refine ww_eq (ws' := [wMo hm q (upd (tokI (flI (ruI I u) (r) (0) (p2)) T u st ln (A 2) (t2)) 7 (nI r)), (q 15, .inl (Γ.2.1, 400, .inl tp)), (q 12, .inl (Γ.2.1, 15, .inl (a3))), (q 13, .inl (Γ.2.1, 180, .inl (rt3))), (q 14, .inl (Γ.2.1, 15, .inl (sy3))), (q 8, .inl (Γ.2.1, 15, .inl (te))), (q 9, .inl (Γ.2.1, 180, .inl (ts))), (q 10, .inl (Γ.2.1, 15, .inl (sy9)))]) rfl rfl rfl ?_
        refine ww_loop (fun x : Nat × (Nat → Int32) × (Nat → Int32) × (Nat → Int32) => 15 - x.1) (fun x => x.1 ≤ 15 ∧ (∀ i, i < x.1 → x.2.1 i = a3 i ∧ x.2.2.2 i = sy3 i) ∧ ∀ i, i < 12 * x.1 → x.2.2.1 i = rt3 i) (fun x => [wMo hm q (upd (tokI (flI (ruI I u) (r) (0) (p2)) T u st ln (A 2) (t2)) 7 (nI r)), (q 15, .inl (Γ.2.1, 400, .inl tp)), (q 12, .inl (Γ.2.1, 15, .inl (a3))), (q 13, .inl (Γ.2.1, 180, .inl (rt3))), (q 14, .inl (Γ.2.1, 15, .inl (sy3))), (q 8, .inl (Γ.2.1, 15, .inl (x.2.1))), (q 9, .inl (Γ.2.1, 180, .inl (x.2.2.1))), (q 10, .inl (Γ.2.1, 15, .inl (x.2.2.2)))]) (fun x => [some (.ref hm), some (.int (nI x.1)), none]) (0, te, ts, sy9) ⟨Nat.zero_le _, fun i hi => absurd hi (Nat.not_lt_zero i), fun i hi => absurd hi (Nat.not_lt_zero i)⟩ rfl rfl (fun x hx ih => ?_)
        obtain ⟨c, te1, ts1, sy1⟩ := x
        obtain ⟨hc, hc1, hc2⟩ := hx
        try dsimp only at hc hc1 hc2 ih ⊢
        refine ww_iload_n (i := 1) C dX11_rules_92 rfl rfl 93 rfl ?_
        refine ww_bipush (v := 15) C dX11_rules_93 (by decide) 95 rfl ?_
        refine ww_icmp_ge C 164 dX11_rules_95 (by decide) 98 rfl (fun h_95 => ?_) (fun h_95 => ?_)
        · skip
          obtain rfl : c = 15 := eqN (n := 15) h_95 hc (by decide)
          refine ww_aload_n (i := 0) C dX11_rules_164 rfl rfl 165 rfl ?_
          skip
          refine ww_get C fe_X11_189 dX11_rules_165 0 rfl rfl 168 rfl ?_
          rw [show (upd (tokI (flI (ruI I u) (r) (0) (p2)) T u st ln (A 2) (t2)) 7 (nI r)) 7 = nI r from rfl]
          exact ww_ireE C hr dX11_rules_168 ((nI r, upd (tokI (flI (ruI I u) (r) (0) (p2)) T u st ln (A 2) (t2)) 7 (nI r), i6 a3 rt3 sy3 te1 ts1 sy1)) (⟨⟨rfl, rfl, rfl, rfl, rfl⟩, Or.inl ⟨t2, r, qq, hG, hr9, rfl, rfl, rfl, hrep.copy hr9 (fun i hi => hc1 i hi) (fun i hi => hc2 i (by omega))⟩⟩) rfl rfl
        · skip
          have hc15 : c < 15 := ltN (n := 15) h_95 (by decide) (by omega)
          have ec : (nI c).toNatClampNeg = c := nI_clamp (by omega)
          have e12 : ∀ k : Nat, (12 : Int32) * nI c + nI k = nI (12 * c + k) := fun k => by rw [show (12 : Int32) = nI 12 from rfl, pk_mul, nI_add]
          refine ww_aload_n (i := 0) C dX11_rules_98 rfl rfl 99 rfl ?_
          refine ww_get C fe_X11_22 dX11_rules_99 0 rfl rfl 102 rfl ?_
          refine ww_iload_n (i := 1) C dX11_rules_102 rfl rfl 103 rfl ?_
          refine ww_aload_n (i := 0) C dX11_rules_103 rfl rfl 104 rfl ?_
          refine ww_get C fe_X11_31 dX11_rules_104 0 rfl rfl 107 rfl ?_
          refine ww_iload_n (i := 1) C dX11_rules_107 rfl rfl 108 rfl ?_
          refine ww_iald C dX11_rules_108 2 rfl (vp_in_nI (by omega) (by decide)) 109 rfl ?_
          refine ww_iast C dX11_rules_109 5 rfl (vp_in_nI (by omega) (by decide)) 110 rfl ?_
          rw [ec]
          refine ww_aload_n (i := 0) C dX11_rules_110 rfl rfl 111 rfl ?_
          refine ww_get C fe_X11_28 dX11_rules_111 0 rfl rfl 114 rfl ?_
          refine ww_iload_n (i := 1) C dX11_rules_114 rfl rfl 115 rfl ?_
          refine ww_aload_n (i := 0) C dX11_rules_115 rfl rfl 116 rfl ?_
          refine ww_get C fe_X11_37 dX11_rules_116 0 rfl rfl 119 rfl ?_
          refine ww_iload_n (i := 1) C dX11_rules_119 rfl rfl 120 rfl ?_
          refine ww_iald C dX11_rules_120 4 rfl (vp_in_nI (by omega) (by decide)) 121 rfl ?_
          refine ww_iast C dX11_rules_121 7 rfl (vp_in_nI (by omega) (by decide)) 122 rfl ?_
          try rw [ec]
          refine ww_iconst (v := 0) C dX11_rules_122 (by decide) 123 rfl ?_
          refine ww_istore_n (i := 2) C dX11_rules_123 rfl (by decide) rfl 124 rfl ?_
          refine ww_eq (ws' := [wMo hm q (upd (tokI (flI (ruI I u) (r) (0) (p2)) T u st ln (A 2) (t2)) 7 (nI r)), (q 15, .inl (Γ.2.1, 400, .inl tp)), (q 12, .inl (Γ.2.1, 15, .inl (a3))), (q 13, .inl (Γ.2.1, 180, .inl (rt3))), (q 14, .inl (Γ.2.1, 15, .inl (sy3))), (q 8, .inl (Γ.2.1, 15, .inl (upd te1 c (a3 c)))), (q 9, .inl (Γ.2.1, 180, .inl (ts1))), (q 10, .inl (Γ.2.1, 15, .inl (upd sy1 c (sy3 c))))]) rfl rfl rfl ?_
          refine ww_loop (fun x : Nat × (Nat → Int32) => 12 - x.1) (fun x => x.1 ≤ 12 ∧ ∀ i, i < 12 * c + x.1 → x.2 i = rt3 i) (fun x => [wMo hm q (upd (tokI (flI (ruI I u) (r) (0) (p2)) T u st ln (A 2) (t2)) 7 (nI r)), (q 15, .inl (Γ.2.1, 400, .inl tp)), (q 12, .inl (Γ.2.1, 15, .inl (a3))), (q 13, .inl (Γ.2.1, 180, .inl (rt3))), (q 14, .inl (Γ.2.1, 15, .inl (sy3))), (q 8, .inl (Γ.2.1, 15, .inl (upd te1 c (a3 c)))), (q 9, .inl (Γ.2.1, 180, .inl (x.2))), (q 10, .inl (Γ.2.1, 15, .inl (upd sy1 c (sy3 c))))]) (fun x => [some (.ref hm), some (.int (nI c)), some (.int (nI x.1))]) (0, ts1) ⟨Nat.zero_le _, hc2⟩ rfl rfl (fun x hx ih2 => ?_)
          obtain ⟨k, ts2⟩ := x
          obtain ⟨hk, hk2⟩ := hx
          try dsimp only at hk hk2 ih2 ⊢
          refine ww_iload_n (i := 2) C dX11_rules_124 rfl rfl 125 rfl ?_
          refine ww_bipush (v := 12) C dX11_rules_125 (by decide) 127 rfl ?_
          refine ww_icmp_ge C 158 dX11_rules_127 (by decide) 130 rfl (fun h_127 => ?_) (fun h_127 => ?_)
          · skip
            obtain rfl : k = 12 := eqN (n := 12) h_127 hk (by decide)
            clear ih2
            refine ww_iinc (y := 1) C dX11_rules_158 rfl (by decide) (by decide) rfl 161 rfl ?_
            refine ww_goto C 92 dX11_rules_161 (by decide) ?_
            refine ww_lv (lv' := [some (.ref hm), some (.int (nI (c + 1))), none]) (by rw [nI_succ c]; exact (lvle_same (lvle_same (lvle_none lvle_nil)))) (ih (c + 1, upd te1 c (a3 c), ts2, upd sy1 c (sy3 c)) ⟨by omega, fun i hi => ?_, fun i hi => hk2 i (by omega)⟩ (by show 15 - (c + 1) < 15 - c; omega))
            dsimp only at hi ⊢
            by_cases z : i = c
            · subst z
              exact ⟨pk_us, pk_us⟩
            · rw [pk_un z, pk_un z]
              exact hc1 i (by omega)
          · skip
            have hk12 : k < 12 := ltN (n := 12) h_127 (by decide) (by omega)
            refine ww_aload_n (i := 0) C dX11_rules_130 rfl rfl 131 rfl ?_
            refine ww_get C fe_X11_25 dX11_rules_131 0 rfl rfl 134 rfl ?_
            refine ww_bipush (v := 12) C dX11_rules_134 (by decide) 136 rfl ?_
            refine ww_iload_n (i := 1) C dX11_rules_136 rfl rfl 137 rfl ?_
            refine ww_imul C dX11_rules_137 138 rfl ?_
            refine ww_iload_n (i := 2) C dX11_rules_138 rfl rfl 139 rfl ?_
            refine ww_iadd C dX11_rules_139 140 rfl ?_
            rw [e12]
            refine ww_aload_n (i := 0) C dX11_rules_140 rfl rfl 141 rfl ?_
            refine ww_get C fe_X11_34 dX11_rules_141 0 rfl rfl 144 rfl ?_
            refine ww_bipush (v := 12) C dX11_rules_144 (by decide) 146 rfl ?_
            refine ww_iload_n (i := 1) C dX11_rules_146 rfl rfl 147 rfl ?_
            refine ww_imul C dX11_rules_147 148 rfl ?_
            refine ww_iload_n (i := 2) C dX11_rules_148 rfl rfl 149 rfl ?_
            refine ww_iadd C dX11_rules_149 150 rfl ?_
            rw [e12]
            refine ww_iald C dX11_rules_150 3 rfl (vp_in_nI (by omega) (by decide)) 151 rfl ?_
            refine ww_iast C dX11_rules_151 6 rfl (vp_in_nI (by omega) (by decide)) 152 rfl ?_
            rw [nI_clamp (show 12 * c + k < 2 ^ 31 by omega)]
            refine ww_iinc (y := 1) C dX11_rules_152 rfl (by decide) (by decide) rfl 155 rfl ?_
            refine ww_goto C 124 dX11_rules_155 (by decide) ?_
            refine ww_eq rfl (by rw [nI_succ k]; rfl) rfl (ih2 (k + 1, upd ts2 (12 * c + k) (rt3 (12 * c + k))) ⟨by omega, fun i hi => ?_⟩ (by show 12 - (k + 1) < 12 - k; omega))
            dsimp only at hi ⊢
            by_cases z : i = 12 * c + k
            · subst z; exact pk_us
            · rw [pk_un z]; exact hk2 i (by omega)
      · exact absurd (show (0 : Int32) ≤ 0 by decide) h_63
    · skip
      have hne : ¬ kp T A t2 = 0 := fun z => h_49 ((so_1 hTk t2).mpr z)
      refine ww_aload_n (i := 0) C dX11_rules_52 rfl rfl 53 rfl ?_
      refine ww_callE0v C (c_X11_readRule l Γ (q := q) (I := ruI I u) (t := t2) (r := r) (fp := p2) rfl hu hTk hby ht2 hr9) mi_X11_readRule im_X11_readRule se_X11_readRule ml_X11_182 dX11_rules_53 0 rfl rfl rfl (Nat.le_of_ble_eq_true rfl) (Nat.le_of_ble_eq_true rfl) (Nat.le_of_ble_eq_true rfl) ⟨Nat.zero_le _, Nat.zero_le _⟩ [0, 1, 2, 3, 4] rfl (by decide) (fun _ => rfl) 56 rfl (fun x_53 hx_53 => ?_)
      obtain ⟨r4, f4, p4, a4, rt4, sy4⟩ := x_53
      refine ww_eq (ws' := [wMo hm q (tokI (flI (ruI I u) (r4) (f4) (p4)) T u st ln (A 2) ((gR (kp T A) (nv T A) r t2).2.1)), (q 15, .inl (Γ.2.1, 400, .inl tp)), (q 12, .inl (Γ.2.1, 15, .inl (a4))), (q 13, .inl (Γ.2.1, 180, .inl (rt4))), (q 14, .inl (Γ.2.1, 15, .inl (sy4))), (q 8, .inl (Γ.2.1, 15, .inl (te))), (q 9, .inl (Γ.2.1, 180, .inl (ts))), (q 10, .inl (Γ.2.1, 15, .inl (sy9)))]) rfl rfl rfl ?_
      obtain ⟨ef, hx2⟩ := hx_53
      rcases hx2 with ⟨hb1, hb2, hb3, hb4, hb5, hb6, hb7a, hb7, hb8⟩ | ⟨hb1, hb2, hb3⟩
      · skip
        dsimp only at ef hb1 hb2 hb6 hb7a hb7 hb8
        subst hb1; subst hb2; subst hb7a; subst hb7
        have hr14 : r + 1 ≤ 15 := by
          rcases Nat.lt_or_ge r 15 with z | z
          · omega
          · obtain rfl : r = 15 := by omega
            exact absurd ef.symm gR_15
        have hall2 : gAll (kp T A) (nv T A) = gRs (kp T A) (nv T A) (16 - (r + 1)) (r + 1) (gR (kp T A) (nv T A) r t2).2.1 (upN qq.1 r (gR (kp T A) (nv T A) r t2).2.2.1, upF qq.2.1 r (gR (kp T A) (nv T A) r t2).2.2.2, upN qq.2.2 r (gR (kp T A) (nv T A) r t2).2.1) := by
          rw [hall, show 16 - r = (16 - (r + 1)) + 1 by omega, gRs, if_neg hne, if_neg (fun z => z ef.symm)]
        refine ww_goto C 37 dX11_rules_56 (by decide) ?_
        exact ih (r + 1, (gR (kp T A) (nv T A) r t2).2.1, p4, _, rt4, _, (upN qq.1 r (gR (kp T A) (nv T A) r t2).2.2.1, upF qq.2.1 r (gR (kp T A) (nv T A) r t2).2.2.2, upN qq.2.2 r (gR (kp T A) (nv T A) r t2).2.1)) ⟨hr14, hb3, hall2, hrep.step hb8 hb4 hb5 hb6⟩ (by show 16 - (r + 1) < 16 - r; omega)
      · skip
        dsimp only at ef hb1 hb2 hb3
        subst hb2; subst hb3
        have hG : gAll (kp T A) (nv T A) = ((gR (kp T A) (nv T A) r4 t2).1, (gR (kp T A) (nv T A) r4 t2).2.1, r4, qq) := by rw [hall, show 16 - r4 = (16 - (r4 + 1)) + 1 by omega, gRs, if_neg hne, if_pos (fun z => hb1 (ef.trans z))]
        rw [← ef] at hG
        refine ww_goto C 37 dX11_rules_56 (by decide) ?_
        skip
        refine ww_aload_n (i := 0) C dX11_rules_37 rfl rfl 38 rfl ?_
        refine ww_get C fe_X11_137 dX11_rules_38 0 rfl rfl 41 rfl ?_
        refine ww_if_ne C 59 dX11_rules_41 (by decide) 44 rfl (fun h_41 => ?_) (fun h_41 => ?_)
        · skip
          try have hend : kp T A t2 = 0 := (so_1 hTk t2).mp h_49
          refine ww_aload_n (i := 0) C dX11_rules_59 rfl rfl 60 rfl ?_
          refine ww_get C fe_X11_137 dX11_rules_60 0 rfl rfl 63 rfl ?_
          refine ww_if_le C 82 dX11_rules_63 (by decide) 66 rfl (fun h_63 => ?_) (fun h_63 => ?_)
          · exact absurd h_63 (ef ▸ gR_le (fun z => hb1 (ef.trans z)))
          · skip
            refine ww_aload_n (i := 0) C dX11_rules_66 rfl rfl 67 rfl ?_
            refine ww_aload_n (i := 0) C dX11_rules_67 rfl rfl 68 rfl ?_
            refine ww_get C fe_X11_137 dX11_rules_68 0 rfl rfl 71 rfl ?_
            refine ww_mput_17 C fe_X11_185 dX11_rules_71 74 rfl ?_
            refine ww_ldc C cn_X11_188 dX11_rules_74 76 rfl ?_
            refine ww_aload_n (i := 0) C dX11_rules_76 rfl rfl 77 rfl ?_
            refine ww_get C fe_X11_140 dX11_rules_77 0 rfl rfl 80 rfl ?_
            refine ww_isub C dX11_rules_80 81 rfl ?_
            exact ww_ireE C hr dX11_rules_81 ((_, _, i6 a4 rt4 sy4 te ts sy9)) (by unfold MuQ; rw [hG]; exact ⟨⟨rfl, rfl, rfl, rfl, rfl⟩, Or.inr ⟨hb1, rfl, rfl, rfl, rfl, rfl, rfl⟩⟩) rfl rfl
        · exact absurd h_41 hb1
