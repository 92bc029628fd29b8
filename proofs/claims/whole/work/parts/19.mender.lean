theorem ww_cutS {p : Program} {l : Launch} {e : Env} {R : Room} {s : State} {m : MethodId} {args : Array Value} {below : List Frame} {meth : Method} {c : Code} {cells slots : Nat} {Q : State → Prop} {Γ : Gm} {A : Nat → Prop} {nL : Nat} {ws : va_W} {pc : Nat} {lv : List (Option Value)} (pcJ : Nat) (kj : WW p l e R s m args below meth c cells slots Q Γ A nL ws pcJ lv []) (kb : WW p l e R s m args below meth c cells slots Q Γ A nL ws pcJ lv [] → WW p l e R s m args below meth c cells slots Q Γ A nL ws pc lv []) : WW p l e R s m args below meth c cells slots Q Γ A nL ws pc lv [] := kb kj
theorem cmp_eq {x y : Int64} : lg_cmp x y = 0 ↔ x = y := by
  unfold lg_cmp
  constructor
  · intro h
    split at h
    · exact absurd h (by decide)
    · split at h
      · next q => exact q
      · exact absurd h (by decide)
  · rintro rfl
    have : ¬ x > x := by simp [Int64.lt_iff_toInt_lt]
    rw [if_neg this, if_pos rfl]
abbrev s_agr (p : Int32) (w : Int64) : Prop := ¬ 16 ≤ p ∧ w &&& lushrI (-1) (4 * (15 - p)) = 0
/-- fits, strokes, mended, the first wrong place -/
abbrev Ms : Type := Int32 × Int32 × Int32 × Nat
def s_adv (w : Int64) : Nat → Nat → Nat
  | 0, k => k
  | f + 1, k => if s_agr (nI k) w then s_adv w f (k + 1) else k
def s_stp (s : Ms) (c : Int32) (w : Int64) : Ms := (if s_bc64 w = 0 then s.1 + 1 else s.1, if s_bc64 w < s.2.1 then s_bc64 w else s.2.1, if s_bc64 w < s.2.1 then c else s.2.2.1, s_adv w (16 - s.2.2.2) s.2.2.2)
theorem s_adv_le {w : Int64} : ∀ {f k : Nat}, k + f ≤ 16 → s_adv w f k ≤ 16
  | 0, k, h => by rw [s_adv]; omega
  | f + 1, k, h => by
    rw [s_adv]
    split
    · exact s_adv_le (by omega)
    · omega
theorem s_stp_le {s : Ms} {c : Int32} {w : Int64} (h : s.2.2.2 ≤ 16) : (s_stp s c w).2.2.2 ≤ 16 := s_adv_le (by omega)
/-- one half of the charts, those with the same mothers 2 and 3 -/
def s_lt (lw : Nat → Int64) (un : Int64) (fc : Int32) (wu : Int64) (s : Ms) : Nat → Ms
  | 0 => s
  | k + 1 => s_stp (s_lt lw un fc wu s k) (fc + nI k) (wu ^^^ (lw k &&& un))
theorem s_lt_le {lw : Nat → Int64} {un : Int64} {fc : Int32} {wu : Int64} {s : Ms} (h : s.2.2.2 ≤ 16) : ∀ {k : Nat}, (s_lt lw un fc wu s k).2.2.2 ≤ 16
  | 0 => h
  | k + 1 => s_stp_le (s_lt_le h)
abbrev s_may (s : Ms) (w : Int64) : Prop := w = 0 ∨ s_bc64 w < s.2.1 ∨ s_agr (nI s.2.2.2) w
def s_la (lw up : Nat → Int64) (ua nd nu : Int64) : Nat → Ms
  | 0 => (0, 65, 0, 0)
  | h + 1 => if s_may (s_la lw up ua nd nu h) (((up h ^^^ nd) &&& nu) &&& ua) then s_lt lw nu (nI h <<< ((8 : Int32) &&& 31)) ((up h ^^^ nd) &&& nu) (s_la lw up ua nd nu h) 256 else s_la lw up ua nd nu h
theorem s_la_le {lw up : Nat → Int64} {ua nd nu : Int64} : ∀ {h : Nat}, (s_la lw up ua nd nu h).2.2.2 ≤ 16
  | 0 => by rw [s_la]; decide
  | h + 1 => by
    rw [s_la]
    split
    · exact s_lt_le s_la_le
    · exact s_la_le
abbrev wMe (hm ml mu : Nat) (ua : Int64) (lk : Int32) (dr un : Int64) (s : Ms) : Nat × va_E := (hm, .inr (2, [.ref ml, .ref mu, .long ua, .int lk, .long dr, .long un, .int s.1, .int s.2.1, .int s.2.2.1, .int (nI s.2.2.2)]))
def s_mans (s : Ms) (x : Int32) : Int32 := if x = 0 then s.1 else if x = 1 then (if s.1 ≤ 0 then -1000000 else s.2.2.1) else if x = 2 then s.2.1 else if x = 3 then s.2.2.1 else if x = 4 then (if s.2.2.2 < 16 then nI s.2.2.2 else -1000000) else -1000001
theorem c_X4_agreesUpTo (l : Launch) (Γ : Gm) {p0 : Int32} {w : Int64}  : Ct l Γ yX4_agreesUpTo cX4_agreesUpTo 3 (some .boolean) 0 [.int p0, .long w] [] (some (.int (bI (s_agr p0 w)))) [] := by
  refine Ct.of mi_X4_agreesUpTo [some (.int p0), some (.long w), none] 0 rfl (Nat.le_of_ble_eq_true rfl) ?_
  intro p e s m args below meth c C hr
  refine ww_iload_n (i := 0) C dX4_agreesUpTo_0 rfl rfl 1 rfl ?_
  refine ww_bipush (v := 16) C dX4_agreesUpTo_1 (by decide) 3 rfl ?_
  refine ww_icmp_ge C 27 dX4_agreesUpTo_3 (by decide) 6 rfl (fun h_3 => ?_) (fun h_3 => ?_)
  · skip
    have hz : ¬ s_agr p0 w := by
      intro q
      first
        | exact q.1 h_3
        | exact h_20 (cmp_eq.mpr q.2)
    refine ww_iconst (v := 0) C dX4_agreesUpTo_27 (by decide) 28 rfl ?_
    exact ww_zret C hr rfl dX4_agreesUpTo_28 (by first | rw [bI_1 hz] | rw [bI_0 hz]) rfl
  · skip
    refine ww_lload_n (i := 1) C dX4_agreesUpTo_6 rfl rfl 7 rfl ?_
    refine ww_ldc2 C cn_X4_46 dX4_agreesUpTo_7 10 rfl ?_
    refine ww_iconst (v := 4) C dX4_agreesUpTo_10 (by decide) 11 rfl ?_
    refine ww_bipush (v := 15) C dX4_agreesUpTo_11 (by decide) 13 rfl ?_
    refine ww_iload_n (i := 0) C dX4_agreesUpTo_13 rfl rfl 14 rfl ?_
    refine ww_isub C dX4_agreesUpTo_14 15 rfl ?_
    refine ww_imul C dX4_agreesUpTo_15 16 rfl ?_
    refine ww_lushr C dX4_agreesUpTo_16 17 rfl ?_
    refine ww_land C dX4_agreesUpTo_17 18 rfl ?_
    refine ww_lconst (v := 0) C dX4_agreesUpTo_18 (by decide) 19 rfl ?_
    refine ww_lcmp C dX4_agreesUpTo_19 20 rfl ?_
    refine ww_if_ne C 27 dX4_agreesUpTo_20 (by decide) 23 rfl (fun h_20 => ?_) (fun h_20 => ?_)
    · skip
      have hz : ¬ s_agr p0 w := by
        intro q
        first
          | exact q.1 h_3
          | exact h_20 (cmp_eq.mpr q.2)
      refine ww_iconst (v := 0) C dX4_agreesUpTo_27 (by decide) 28 rfl ?_
      exact ww_zret C hr rfl dX4_agreesUpTo_28 (by first | rw [bI_1 hz] | rw [bI_0 hz]) rfl
    · skip
      have hz : s_agr p0 w := ⟨h_3, cmp_eq.mp h_20⟩
      refine ww_iconst (v := 1) C dX4_agreesUpTo_23 (by decide) 24 rfl ?_
      refine ww_goto C 28 dX4_agreesUpTo_24 (by decide) ?_
      exact ww_zret C hr rfl dX4_agreesUpTo_28 (by first | rw [bI_1 hz] | rw [bI_0 hz]) rfl
theorem c_X4_mayTellMore (l : Launch) (Γ : Gm) {hm ml mu : Nat} {ua : Int64} {lk : Int32} {dr un : Int64} {s0 : Ms} {w : Int64}  : Ct l Γ yX4_mayTellMore cX4_mayTellMore 3 (some .boolean) 1 [.ref hm, .long w] ([wMe hm ml mu ua lk dr un s0]) (some (.int (bI (s_may s0 w)))) ([wMe hm ml mu ua lk dr un s0]) := by
  refine Ct.of mi_X4_mayTellMore [some (.ref hm), some (.long w), none] 0 rfl (Nat.le_of_ble_eq_true rfl) ?_
  intro p e s m args below meth c C hr
  refine ww_lload_n (i := 1) C dX4_mayTellMore_0 rfl rfl 1 rfl ?_
  refine ww_lconst (v := 0) C dX4_mayTellMore_1 (by decide) 2 rfl ?_
  refine ww_lcmp C dX4_mayTellMore_2 3 rfl ?_
  refine ww_if_eq C 28 dX4_mayTellMore_3 (by decide) 6 rfl (fun h_3 => ?_) (fun h_3 => ?_)
  · skip
    have hz : s_may s0 w := by
      first
        | exact Or.inl (cmp_eq.mp h_3)
        | exact Or.inr (Or.inl h_14)
        | exact Or.inr (Or.inr (bI_n0 h_25))
    refine ww_iconst (v := 1) C dX4_mayTellMore_28 (by decide) 29 rfl ?_
    refine ww_goto C 33 dX4_mayTellMore_29 (by decide) ?_
    exact ww_zret C hr rfl dX4_mayTellMore_33 (by first | rw [bI_1 hz] | rw [bI_0 hz]) rfl
  · skip
    refine ww_lload_n (i := 1) C dX4_mayTellMore_6 rfl rfl 7 rfl ?_
    refine ww_callS1p C (c_J13_bitCount_95d88 l Γ) mi_J13_bitCount_95d88 st_J13_bitCount_95d88 ml_X4_65 dX4_mayTellMore_7 (Nat.le_of_ble_eq_true rfl) (Nat.le_of_ble_eq_true rfl) (Nat.le_of_ble_eq_true rfl) ⟨Nat.zero_le _, Nat.zero_le _⟩ [] rfl (by decide) 10 rfl ?_
    refine ww_aload_n (i := 0) C dX4_mayTellMore_10 rfl rfl 11 rfl ?_
    refine ww_get C fe_X4_33 dX4_mayTellMore_11 0 rfl rfl 14 rfl ?_
    refine ww_icmp_lt C 28 dX4_mayTellMore_14 (by decide) 17 rfl (fun h_14 => ?_) (fun h_14 => ?_)
    · skip
      have hz : s_may s0 w := by
        first
          | exact Or.inl (cmp_eq.mp h_3)
          | exact Or.inr (Or.inl h_14)
          | exact Or.inr (Or.inr (bI_n0 h_25))
      refine ww_iconst (v := 1) C dX4_mayTellMore_28 (by decide) 29 rfl ?_
      refine ww_goto C 33 dX4_mayTellMore_29 (by decide) ?_
      exact ww_zret C hr rfl dX4_mayTellMore_33 (by first | rw [bI_1 hz] | rw [bI_0 hz]) rfl
    · skip
      refine ww_aload_n (i := 0) C dX4_mayTellMore_17 rfl rfl 18 rfl ?_
      refine ww_get C fe_X4_39 dX4_mayTellMore_18 0 rfl rfl 21 rfl ?_
      refine ww_lload_n (i := 1) C dX4_mayTellMore_21 rfl rfl 22 rfl ?_
      refine ww_callS2p C (c_X4_agreesUpTo l Γ) mi_X4_agreesUpTo st_X4_agreesUpTo ml_X4_71 dX4_mayTellMore_22 (Nat.le_of_ble_eq_true rfl) (Nat.le_of_ble_eq_true rfl) (Nat.le_of_ble_eq_true rfl) ⟨Nat.zero_le _, Nat.zero_le _⟩ [] rfl (by decide) 25 rfl ?_
      refine ww_if_eq C 32 dX4_mayTellMore_25 (by decide) 28 rfl (fun h_25 => ?_) (fun h_25 => ?_)
      · skip
        have hz : ¬ s_may s0 w := fun q => q.elim (fun z => h_3 (cmp_eq.mpr z)) (fun z => z.elim h_14 (bI_e0 h_25))
        refine ww_iconst (v := 0) C dX4_mayTellMore_32 (by decide) 33 rfl ?_
        exact ww_zret C hr rfl dX4_mayTellMore_33 (by first | rw [bI_1 hz] | rw [bI_0 hz]) rfl
      · skip
        have hz : s_may s0 w := by
          first
            | exact Or.inl (cmp_eq.mp h_3)
            | exact Or.inr (Or.inl h_14)
            | exact Or.inr (Or.inr (bI_n0 h_25))
        refine ww_iconst (v := 1) C dX4_mayTellMore_28 (by decide) 29 rfl ?_
        refine ww_goto C 33 dX4_mayTellMore_29 (by decide) ?_
        exact ww_zret C hr rfl dX4_mayTellMore_33 (by first | rw [bI_1 hz] | rw [bI_0 hz]) rfl
theorem c_X4_answerTo (l : Launch) (Γ : Gm) {hm ml mu : Nat} {ua : Int64} {lk : Int32} {dr un : Int64} {s0 : Ms} {x : Int32} (hfw : s0.2.2.2 ≤ 16) : Ct l Γ yX4_answerTo cX4_answerTo 2 (some .int) 0 [.ref hm, .int x] ([wMe hm ml mu ua lk dr un s0]) (some (.int (s_mans s0 x))) ([wMe hm ml mu ua lk dr un s0]) := by
  refine Ct.of mi_X4_answerTo [some (.ref hm), some (.int x)] 0 rfl (Nat.le_of_ble_eq_true rfl) ?_
  intro p e s m args below meth c C hr
  refine ww_iload_n (i := 1) C dX4_answerTo_0 rfl rfl 1 rfl ?_
  refine ww_ts5 C 87 36 41 58 63 68 dX4_answerTo_1 (by decide) (by decide) (by decide) (by decide) (by decide) (by decide) (fun s0_1 => ?_) (fun s1_1 => ?_) (fun s2_1 => ?_) (fun s3_1 => ?_) (fun s4_1 => ?_) (fun sd_1 => ?_)
  · skip
    refine ww_aload_n (i := 0) C dX4_answerTo_36 rfl rfl 37 rfl ?_
    refine ww_get C fe_X4_29 dX4_answerTo_37 0 rfl rfl 40 rfl ?_
    exact ww_iret C hr dX4_answerTo_40 (by rw [s0_1]; rfl) rfl
  · skip
    refine ww_aload_n (i := 0) C dX4_answerTo_41 rfl rfl 42 rfl ?_
    refine ww_get C fe_X4_29 dX4_answerTo_42 0 rfl rfl 45 rfl ?_
    refine ww_if_le C 55 dX4_answerTo_45 (by decide) 48 rfl (fun h_45 => ?_) (fun h_45 => ?_)
    · skip
      refine ww_ldc C cn_X4_75 dX4_answerTo_55 57 rfl ?_
      exact ww_iret C hr dX4_answerTo_57 (by first | (rw [s1_1, s_mans, if_neg (by decide), if_pos (by decide), if_pos h_45]) | (rw [s1_1, s_mans, if_neg (by decide), if_pos (by decide), if_neg h_45])) rfl
    · skip
      refine ww_aload_n (i := 0) C dX4_answerTo_48 rfl rfl 49 rfl ?_
      refine ww_get C fe_X4_36 dX4_answerTo_49 0 rfl rfl 52 rfl ?_
      refine ww_goto C 57 dX4_answerTo_52 (by decide) ?_
      exact ww_iret C hr dX4_answerTo_57 (by first | (rw [s1_1, s_mans, if_neg (by decide), if_pos (by decide), if_pos h_45]) | (rw [s1_1, s_mans, if_neg (by decide), if_pos (by decide), if_neg h_45])) rfl
  · skip
    refine ww_aload_n (i := 0) C dX4_answerTo_58 rfl rfl 59 rfl ?_
    refine ww_get C fe_X4_33 dX4_answerTo_59 0 rfl rfl 62 rfl ?_
    exact ww_iret C hr dX4_answerTo_62 (by rw [s2_1]; rfl) rfl
  · skip
    refine ww_aload_n (i := 0) C dX4_answerTo_63 rfl rfl 64 rfl ?_
    refine ww_get C fe_X4_36 dX4_answerTo_64 0 rfl rfl 67 rfl ?_
    exact ww_iret C hr dX4_answerTo_67 (by rw [s3_1]; rfl) rfl
  · skip
    refine ww_aload_n (i := 0) C dX4_answerTo_68 rfl rfl 69 rfl ?_
    refine ww_get C fe_X4_39 dX4_answerTo_69 0 rfl rfl 72 rfl ?_
    refine ww_bipush (v := 16) C dX4_answerTo_72 (by decide) 74 rfl ?_
    refine ww_icmp_ge C 84 dX4_answerTo_74 (by decide) 77 rfl (fun h_74 => ?_) (fun h_74 => ?_)
    · skip
      have hge : ¬ s0.2.2.2 < 16 := fun q => absurd h_74 (nI_ge q (by decide))
      refine ww_ldc C cn_X4_75 dX4_answerTo_84 86 rfl ?_
      exact ww_iret C hr dX4_answerTo_86 (by first | (rw [s4_1, s_mans, if_neg (by decide), if_neg (by decide), if_neg (by decide), if_neg (by decide), if_pos (by decide), if_pos hlt]) | (rw [s4_1, s_mans, if_neg (by decide), if_neg (by decide), if_neg (by decide), if_neg (by decide), if_pos (by decide), if_neg hge])) rfl
    · skip
      have hlt : s0.2.2.2 < 16 := ltN (n := 16) h_74 (by decide) (by omega)
      refine ww_aload_n (i := 0) C dX4_answerTo_77 rfl rfl 78 rfl ?_
      refine ww_get C fe_X4_39 dX4_answerTo_78 0 rfl rfl 81 rfl ?_
      refine ww_goto C 86 dX4_answerTo_81 (by decide) ?_
      exact ww_iret C hr dX4_answerTo_86 (by first | (rw [s4_1, s_mans, if_neg (by decide), if_neg (by decide), if_neg (by decide), if_neg (by decide), if_pos (by decide), if_pos hlt]) | (rw [s4_1, s_mans, if_neg (by decide), if_neg (by decide), if_neg (by decide), if_neg (by decide), if_pos (by decide), if_neg hge])) rfl
  · skip
    refine ww_ldc C cn_X4_76 dX4_answerTo_87 89 rfl ?_
    exact ww_iret C hr dX4_answerTo_89 (by rw [s_mans, if_neg (fun q => by rw [q] at sd_1; exact absurd sd_1 (by decide)), if_neg (fun q => by rw [q] at sd_1; exact absurd sd_1 (by decide)), if_neg (fun q => by rw [q] at sd_1; exact absurd sd_1 (by decide)), if_neg (fun q => by rw [q] at sd_1; exact absurd sd_1 (by decide)), if_neg (fun q => by rw [q] at sd_1; exact absurd sd_1 (by decide))]) rfl
set_option maxHeartbeats 2000000 in
theorem c_X4_lookThrough (l : Launch) (Γ : Gm) {hm ml mu : Nat} {ua : Int64} {lk : Int32} {dr un : Int64} {s0 : Ms} {fc : Int32} {wu : Int64} {lw : Nat → Int64} (hfw : s0.2.2.2 ≤ 16) : Ct l Γ yX4_lookThrough cX4_lookThrough 8 none 1 [.ref hm, .int fc, .long wu] ([wMe hm ml mu ua lk dr un (s0), (ml, .inl (Γ.2.2.1, 256, .inr (.inl lw)))]) (none) ([wMe hm ml mu ua lk dr un (s_lt lw un fc wu s0 256), (ml, .inl (Γ.2.2.1, 256, .inr (.inl lw)))]) := by
  refine Ct.of mi_X4_lookThrough [some (.ref hm), some (.int fc), some (.long wu), none, none, none, none, none] 4 rfl (Nat.le_of_ble_eq_true rfl) ?_
  intro p e s m args below meth c C hr
  refine ww_iconst (v := 0) C dX4_lookThrough_0 (by decide) 1 rfl ?_
  refine ww_istore C dX4_lookThrough_1 (by decide) rfl 3 rfl ?_
  refine ww_lv (lv' := [some (.ref hm), some (.int fc), some (.long wu), none, some (.int (nI 0)), none, none, none]) (lvle_same (lvle_same (lvle_same (lvle_same (lvle_same (lvle_none (lvle_none (lvle_none lvle_nil)))))))) ?_
  refine ww_loop (fun k : Nat => 256 - k) (fun k => k ≤ 256) (fun k => [wMe hm ml mu ua lk dr un (s_lt lw un fc wu s0 k), (ml, .inl (Γ.2.2.1, 256, .inr (.inl lw)))]) (fun k => [some (.ref hm), some (.int fc), some (.long wu), none, some (.int (nI k)), none, none, none]) (0 : Nat) (by omega) rfl rfl (fun k hk ih => ?_)
  try dsimp only at hk ih ⊢
  refine ww_iload C dX4_lookThrough_3 rfl 5 rfl ?_
  refine ww_sipush (v := 256) C dX4_lookThrough_5 (by decide) 8 rfl ?_
  refine ww_icmp_ge C 112 dX4_lookThrough_8 (by decide) 11 rfl (fun h_8 => ?_) (fun h_8 => ?_)
  · skip
    obtain rfl : k = 256 := eqN (n := 256) h_8 hk (by decide)
    exact ww_vret C hr dX4_lookThrough_112 rfl rfl
  · skip
    have hlt : k < 256 := ltN (n := 256) h_8 (by decide) (by omega)
    have hf1 : (s_lt lw un fc wu s0 k).2.2.2 ≤ 16 := s_lt_le hfw
    refine ww_lload_n (i := 2) C dX4_lookThrough_11 rfl rfl 12 rfl ?_
    refine ww_aload_n (i := 0) C dX4_lookThrough_12 rfl rfl 13 rfl ?_
    refine ww_get C fe_X4_11 dX4_lookThrough_13 0 rfl rfl 16 rfl ?_
    refine ww_iload C dX4_lookThrough_16 rfl 18 rfl ?_
    refine ww_lald C dX4_lookThrough_18 1 rfl (vp_in_nI hlt (by decide)) 19 rfl ?_
    rw [nI_clamp (show k < 2 ^ 31 by omega)]
    refine ww_aload_n (i := 0) C dX4_lookThrough_19 rfl rfl 20 rfl ?_
    refine ww_get C fe_X4_26 dX4_lookThrough_20 0 rfl rfl 23 rfl ?_
    refine ww_land C dX4_lookThrough_23 24 rfl ?_
    refine ww_lxor C dX4_lookThrough_24 25 rfl ?_
    refine ww_lstore C dX4_lookThrough_25 (by decide) rfl 27 rfl ?_
    refine ww_lload C dX4_lookThrough_27 rfl 29 rfl ?_
    refine ww_callS1p C (c_J13_bitCount_95d88 l Γ) mi_J13_bitCount_95d88 st_J13_bitCount_95d88 ml_X4_65 dX4_lookThrough_29 (Nat.le_of_ble_eq_true rfl) (Nat.le_of_ble_eq_true rfl) (Nat.le_of_ble_eq_true rfl) ⟨Nat.zero_le _, Nat.zero_le _⟩ [] rfl (by decide) 32 rfl ?_
    refine ww_istore C dX4_lookThrough_32 (by decide) rfl 34 rfl ?_
    refine ww_iload C dX4_lookThrough_34 rfl 36 rfl ?_
    refine ww_aload_n (i := 0) C dX4_lookThrough_36 rfl rfl 37 rfl ?_
    refine ww_get C fe_X4_33 dX4_lookThrough_37 0 rfl rfl 40 rfl ?_
    refine ww_icmp_ge C 57 dX4_lookThrough_40 (by decide) 43 rfl (fun h_40 => ?_) (fun h_40 => ?_)
    · skip
      refine ww_iload C dX4_lookThrough_57 rfl 59 rfl ?_
      refine ww_if_ne C 72 dX4_lookThrough_59 (by decide) 62 rfl (fun h_59 => ?_) (fun h_59 => ?_)
      · skip
        obtain ⟨ft2, sk2, md2, hq1, hq2, hq3⟩ : ∃ ft2 sk2 md2 : Int32, ft2 = (if s_bc64 (wu ^^^ (lw k &&& un)) = 0 then (s_lt lw un fc wu s0 k).1 + 1 else (s_lt lw un fc wu s0 k).1) ∧ sk2 = (if s_bc64 (wu ^^^ (lw k &&& un)) < (s_lt lw un fc wu s0 k).2.1 then s_bc64 (wu ^^^ (lw k &&& un)) else (s_lt lw un fc wu s0 k).2.1) ∧ md2 = (if s_bc64 (wu ^^^ (lw k &&& un)) < (s_lt lw un fc wu s0 k).2.1 then fc + nI k else (s_lt lw un fc wu s0 k).2.2.1) := ⟨_, _, _, rfl, rfl, rfl⟩
        refine ww_lv (lv' := [some (.ref hm), some (.int fc), some (.long wu), none, some (.int (nI k)), some (.long (wu ^^^ (lw k &&& un))), none, none]) (lvle_same (lvle_same (lvle_same (lvle_same (lvle_same (lvle_same (lvle_same (lvle_none lvle_nil)))))))) ?_
        refine ww_eq (ws' := [wMe hm ml mu ua lk dr un ((ft2, sk2, md2, (s_lt lw un fc wu s0 k).2.2.2)), (ml, .inl (Γ.2.2.1, 256, .inr (.inl lw)))]) ?_ rfl rfl ?_
        · rw [hq1, hq2, hq3]
          first
            | (rw [if_pos h_59, if_pos (show s_bc64 (wu ^^^ (lw k &&& un)) < (s_lt lw un fc wu s0 k).2.1 from Int32.not_le.mp h_40), if_pos (show s_bc64 (wu ^^^ (lw k &&& un)) < (s_lt lw un fc wu s0 k).2.1 from Int32.not_le.mp h_40)]; all_goals rfl)
            | (rw [if_neg h_59, if_pos (show s_bc64 (wu ^^^ (lw k &&& un)) < (s_lt lw un fc wu s0 k).2.1 from Int32.not_le.mp h_40), if_pos (show s_bc64 (wu ^^^ (lw k &&& un)) < (s_lt lw un fc wu s0 k).2.1 from Int32.not_le.mp h_40)]; all_goals rfl)
            | (rw [if_pos h_59, if_neg (show ¬ s_bc64 (wu ^^^ (lw k &&& un)) < (s_lt lw un fc wu s0 k).2.1 from Int32.not_lt.mpr h_40), if_neg (show ¬ s_bc64 (wu ^^^ (lw k &&& un)) < (s_lt lw un fc wu s0 k).2.1 from Int32.not_lt.mpr h_40)]; all_goals rfl)
            | (rw [if_neg h_59, if_neg (show ¬ s_bc64 (wu ^^^ (lw k &&& un)) < (s_lt lw un fc wu s0 k).2.1 from Int32.not_lt.mpr h_40), if_neg (show ¬ s_bc64 (wu ^^^ (lw k &&& un)) < (s_lt lw un fc wu s0 k).2.1 from Int32.not_lt.mpr h_40)]; all_goals rfl)
        refine ww_loop (fun k2 : Nat => 16 - k2) (fun k2 => k2 ≤ 16 ∧ s_adv (wu ^^^ (lw k &&& un)) (16 - k2) k2 = s_adv (wu ^^^ (lw k &&& un)) (16 - (s_lt lw un fc wu s0 k).2.2.2) (s_lt lw un fc wu s0 k).2.2.2) (fun k2 => [wMe hm ml mu ua lk dr un ((ft2, sk2, md2, k2)), (ml, .inl (Γ.2.2.1, 256, .inr (.inl lw)))]) (fun k2 => [some (.ref hm), some (.int fc), some (.long wu), none, some (.int (nI k)), some (.long (wu ^^^ (lw k &&& un))), none, none]) ((s_lt lw un fc wu s0 k).2.2.2) ⟨hf1, rfl⟩ rfl rfl (fun k2 hx ih2 => ?_)
        obtain ⟨hk2, hk3⟩ := hx
        try dsimp only at hk2 hk3 ih2 ⊢
        refine ww_aload_n (i := 0) C dX4_lookThrough_72 rfl rfl 73 rfl ?_
        refine ww_get C fe_X4_39 dX4_lookThrough_73 0 rfl rfl 76 rfl ?_
        refine ww_bipush (v := 16) C dX4_lookThrough_76 (by decide) 78 rfl ?_
        refine ww_icmp_ge C 106 dX4_lookThrough_78 (by decide) 81 rfl (fun h_78 => ?_) (fun h_78 => ?_)
        · skip
          have hend : s_adv (wu ^^^ (lw k &&& un)) (16 - k2) k2 = k2 := by
            first
              | (have e : k2 = 16 := eqN (n := 16) h_78 hk2 (by decide); subst e; rfl)
              | (rw [show 16 - k2 = (15 - k2) + 1 by omega, s_adv, if_neg (bI_e0 h_90)])
          refine ww_iinc (y := 1) C dX4_lookThrough_106 rfl (by decide) (by decide) rfl 109 rfl ?_
          refine ww_goto C 3 dX4_lookThrough_109 (by decide) ?_
          have ee : s_lt lw un fc wu s0 (k + 1) = (ft2, sk2, md2, k2) := by
            rw [s_lt, s_stp, ← hq1, ← hq2, ← hq3, ← hk3, hend]
          refine ww_lv (lv' := [some (.ref hm), some (.int fc), some (.long wu), none, some (.int (nI (k + 1))), none, none, none]) (by rw [nI_succ k]; exact (lvle_same (lvle_same (lvle_same (lvle_same (lvle_same (lvle_none (lvle_none (lvle_none lvle_nil))))))))) ?_
          refine ww_eq ?_ rfl rfl (ih (k + 1) (by omega) (by omega))
          rw [ee]
        · skip
          have hlt2 : k2 < 16 := ltN (n := 16) h_78 (by decide) (by omega)
          refine ww_aload_n (i := 0) C dX4_lookThrough_81 rfl rfl 82 rfl ?_
          refine ww_get C fe_X4_39 dX4_lookThrough_82 0 rfl rfl 85 rfl ?_
          refine ww_lload C dX4_lookThrough_85 rfl 87 rfl ?_
          refine ww_callS2p C (c_X4_agreesUpTo l Γ) mi_X4_agreesUpTo st_X4_agreesUpTo ml_X4_71 dX4_lookThrough_87 (Nat.le_of_ble_eq_true rfl) (Nat.le_of_ble_eq_true rfl) (Nat.le_of_ble_eq_true rfl) ⟨Nat.zero_le _, Nat.zero_le _⟩ [] rfl (by decide) 90 rfl ?_
          refine ww_if_eq C 106 dX4_lookThrough_90 (by decide) 93 rfl (fun h_90 => ?_) (fun h_90 => ?_)
          · skip
            have hend : s_adv (wu ^^^ (lw k &&& un)) (16 - k2) k2 = k2 := by
              first
                | (have e : k2 = 16 := eqN (n := 16) h_78 hk2 (by decide); subst e; rfl)
                | (rw [show 16 - k2 = (15 - k2) + 1 by omega, s_adv, if_neg (bI_e0 h_90)])
            refine ww_iinc (y := 1) C dX4_lookThrough_106 rfl (by decide) (by decide) rfl 109 rfl ?_
            refine ww_goto C 3 dX4_lookThrough_109 (by decide) ?_
            have ee : s_lt lw un fc wu s0 (k + 1) = (ft2, sk2, md2, k2) := by
              rw [s_lt, s_stp, ← hq1, ← hq2, ← hq3, ← hk3, hend]
            refine ww_lv (lv' := [some (.ref hm), some (.int fc), some (.long wu), none, some (.int (nI (k + 1))), none, none, none]) (by rw [nI_succ k]; exact (lvle_same (lvle_same (lvle_same (lvle_same (lvle_same (lvle_none (lvle_none (lvle_none lvle_nil))))))))) ?_
            refine ww_eq ?_ rfl rfl (ih (k + 1) (by omega) (by omega))
            rw [ee]
          · skip
            refine ww_aload_n (i := 0) C dX4_lookThrough_93 rfl rfl 94 rfl ?_
            refine ww_dup C dX4_lookThrough_94 rfl 95 rfl ?_
            refine ww_get C fe_X4_39 dX4_lookThrough_95 0 rfl rfl 98 rfl ?_
            refine ww_iconst (v := 1) C dX4_lookThrough_98 (by decide) 99 rfl ?_
            refine ww_iadd C dX4_lookThrough_99 100 rfl ?_
            refine ww_put C fe_X4_39 rfl dX4_lookThrough_100 0 rfl rfl rfl (Nat.le_of_ble_eq_true rfl) 103 rfl ?_
            refine ww_goto C 72 dX4_lookThrough_103 (by decide) ?_
            exact ww_eq (by simp only [wMe, nI_succ k2]; rfl) rfl rfl (ih2 (k2 + 1) ⟨by omega, by rw [← hk3, show 16 - k2 = (16 - (k2 + 1)) + 1 by omega, s_adv, if_pos (bI_n0 h_90)]⟩ (by omega))
      · skip
        refine ww_aload_n (i := 0) C dX4_lookThrough_62 rfl rfl 63 rfl ?_
        refine ww_dup C dX4_lookThrough_63 rfl 64 rfl ?_
        refine ww_get C fe_X4_29 dX4_lookThrough_64 0 rfl rfl 67 rfl ?_
        refine ww_iconst (v := 1) C dX4_lookThrough_67 (by decide) 68 rfl ?_
        refine ww_iadd C dX4_lookThrough_68 69 rfl ?_
        refine ww_put C fe_X4_29 rfl dX4_lookThrough_69 0 rfl rfl rfl (Nat.le_of_ble_eq_true rfl) 72 rfl ?_
        obtain ⟨ft2, sk2, md2, hq1, hq2, hq3⟩ : ∃ ft2 sk2 md2 : Int32, ft2 = (if s_bc64 (wu ^^^ (lw k &&& un)) = 0 then (s_lt lw un fc wu s0 k).1 + 1 else (s_lt lw un fc wu s0 k).1) ∧ sk2 = (if s_bc64 (wu ^^^ (lw k &&& un)) < (s_lt lw un fc wu s0 k).2.1 then s_bc64 (wu ^^^ (lw k &&& un)) else (s_lt lw un fc wu s0 k).2.1) ∧ md2 = (if s_bc64 (wu ^^^ (lw k &&& un)) < (s_lt lw un fc wu s0 k).2.1 then fc + nI k else (s_lt lw un fc wu s0 k).2.2.1) := ⟨_, _, _, rfl, rfl, rfl⟩
        refine ww_lv (lv' := [some (.ref hm), some (.int fc), some (.long wu), none, some (.int (nI k)), some (.long (wu ^^^ (lw k &&& un))), none, none]) (lvle_same (lvle_same (lvle_same (lvle_same (lvle_same (lvle_same (lvle_same (lvle_none lvle_nil)))))))) ?_
        refine ww_eq (ws' := [wMe hm ml mu ua lk dr un ((ft2, sk2, md2, (s_lt lw un fc wu s0 k).2.2.2)), (ml, .inl (Γ.2.2.1, 256, .inr (.inl lw)))]) ?_ rfl rfl ?_
        · rw [hq1, hq2, hq3]
          first
            | (rw [if_pos h_59, if_pos (show s_bc64 (wu ^^^ (lw k &&& un)) < (s_lt lw un fc wu s0 k).2.1 from Int32.not_le.mp h_40), if_pos (show s_bc64 (wu ^^^ (lw k &&& un)) < (s_lt lw un fc wu s0 k).2.1 from Int32.not_le.mp h_40)]; all_goals rfl)
            | (rw [if_neg h_59, if_pos (show s_bc64 (wu ^^^ (lw k &&& un)) < (s_lt lw un fc wu s0 k).2.1 from Int32.not_le.mp h_40), if_pos (show s_bc64 (wu ^^^ (lw k &&& un)) < (s_lt lw un fc wu s0 k).2.1 from Int32.not_le.mp h_40)]; all_goals rfl)
            | (rw [if_pos h_59, if_neg (show ¬ s_bc64 (wu ^^^ (lw k &&& un)) < (s_lt lw un fc wu s0 k).2.1 from Int32.not_lt.mpr h_40), if_neg (show ¬ s_bc64 (wu ^^^ (lw k &&& un)) < (s_lt lw un fc wu s0 k).2.1 from Int32.not_lt.mpr h_40)]; all_goals rfl)
            | (rw [if_neg h_59, if_neg (show ¬ s_bc64 (wu ^^^ (lw k &&& un)) < (s_lt lw un fc wu s0 k).2.1 from Int32.not_lt.mpr h_40), if_neg (show ¬ s_bc64 (wu ^^^ (lw k &&& un)) < (s_lt lw un fc wu s0 k).2.1 from Int32.not_lt.mpr h_40)]; all_goals rfl)
        refine ww_loop (fun k2 : Nat => 16 - k2) (fun k2 => k2 ≤ 16 ∧ s_adv (wu ^^^ (lw k &&& un)) (16 - k2) k2 = s_adv (wu ^^^ (lw k &&& un)) (16 - (s_lt lw un fc wu s0 k).2.2.2) (s_lt lw un fc wu s0 k).2.2.2) (fun k2 => [wMe hm ml mu ua lk dr un ((ft2, sk2, md2, k2)), (ml, .inl (Γ.2.2.1, 256, .inr (.inl lw)))]) (fun k2 => [some (.ref hm), some (.int fc), some (.long wu), none, some (.int (nI k)), some (.long (wu ^^^ (lw k &&& un))), none, none]) ((s_lt lw un fc wu s0 k).2.2.2) ⟨hf1, rfl⟩ rfl rfl (fun k2 hx ih2 => ?_)
        obtain ⟨hk2, hk3⟩ := hx
        try dsimp only at hk2 hk3 ih2 ⊢
        refine ww_aload_n (i := 0) C dX4_lookThrough_72 rfl rfl 73 rfl ?_
        refine ww_get C fe_X4_39 dX4_lookThrough_73 0 rfl rfl 76 rfl ?_
        refine ww_bipush (v := 16) C dX4_lookThrough_76 (by decide) 78 rfl ?_
        refine ww_icmp_ge C 106 dX4_lookThrough_78 (by decide) 81 rfl (fun h_78 => ?_) (fun h_78 => ?_)
        · skip
          have hend : s_adv (wu ^^^ (lw k &&& un)) (16 - k2) k2 = k2 := by
            first
              | (have e : k2 = 16 := eqN (n := 16) h_78 hk2 (by decide); subst e; rfl)
              | (rw [show 16 - k2 = (15 - k2) + 1 by omega, s_adv, if_neg (bI_e0 h_90)])
          refine ww_iinc (y := 1) C dX4_lookThrough_106 rfl (by decide) (by decide) rfl 109 rfl ?_
          refine ww_goto C 3 dX4_lookThrough_109 (by decide) ?_
          have ee : s_lt lw un fc wu s0 (k + 1) = (ft2, sk2, md2, k2) := by
            rw [s_lt, s_stp, ← hq1, ← hq2, ← hq3, ← hk3, hend]
          refine ww_lv (lv' := [some (.ref hm), some (.int fc), some (.long wu), none, some (.int (nI (k + 1))), none, none, none]) (by rw [nI_succ k]; exact (lvle_same (lvle_same (lvle_same (lvle_same (lvle_same (lvle_none (lvle_none (lvle_none lvle_nil))))))))) ?_
          refine ww_eq ?_ rfl rfl (ih (k + 1) (by omega) (by omega))
          rw [ee]
        · skip
          have hlt2 : k2 < 16 := ltN (n := 16) h_78 (by decide) (by omega)
          refine ww_aload_n (i := 0) C dX4_lookThrough_81 rfl rfl 82 rfl ?_
          refine ww_get C fe_X4_39 dX4_lookThrough_82 0 rfl rfl 85 rfl ?_
          refine ww_lload C dX4_lookThrough_85 rfl 87 rfl ?_
          refine ww_callS2p C (c_X4_agreesUpTo l Γ) mi_X4_agreesUpTo st_X4_agreesUpTo ml_X4_71 dX4_lookThrough_87 (Nat.le_of_ble_eq_true rfl) (Nat.le_of_ble_eq_true rfl) (Nat.le_of_ble_eq_true rfl) ⟨Nat.zero_le _, Nat.zero_le _⟩ [] rfl (by decide) 90 rfl ?_
          refine ww_if_eq C 106 dX4_lookThrough_90 (by decide) 93 rfl (fun h_90 => ?_) (fun h_90 => ?_)
          · skip
            have hend : s_adv (wu ^^^ (lw k &&& un)) (16 - k2) k2 = k2 := by
              first
                | (have e : k2 = 16 := eqN (n := 16) h_78 hk2 (by decide); subst e; rfl)
                | (rw [show 16 - k2 = (15 - k2) + 1 by omega, s_adv, if_neg (bI_e0 h_90)])
            refine ww_iinc (y := 1) C dX4_lookThrough_106 rfl (by decide) (by decide) rfl 109 rfl ?_
            refine ww_goto C 3 dX4_lookThrough_109 (by decide) ?_
            have ee : s_lt lw un fc wu s0 (k + 1) = (ft2, sk2, md2, k2) := by
              rw [s_lt, s_stp, ← hq1, ← hq2, ← hq3, ← hk3, hend]
            refine ww_lv (lv' := [some (.ref hm), some (.int fc), some (.long wu), none, some (.int (nI (k + 1))), none, none, none]) (by rw [nI_succ k]; exact (lvle_same (lvle_same (lvle_same (lvle_same (lvle_same (lvle_none (lvle_none (lvle_none lvle_nil))))))))) ?_
            refine ww_eq ?_ rfl rfl (ih (k + 1) (by omega) (by omega))
            rw [ee]
          · skip
            refine ww_aload_n (i := 0) C dX4_lookThrough_93 rfl rfl 94 rfl ?_
            refine ww_dup C dX4_lookThrough_94 rfl 95 rfl ?_
            refine ww_get C fe_X4_39 dX4_lookThrough_95 0 rfl rfl 98 rfl ?_
            refine ww_iconst (v := 1) C dX4_lookThrough_98 (by decide) 99 rfl ?_
            refine ww_iadd C dX4_lookThrough_99 100 rfl ?_
            refine ww_put C fe_X4_39 rfl dX4_lookThrough_100 0 rfl rfl rfl (Nat.le_of_ble_eq_true rfl) 103 rfl ?_
            refine ww_goto C 72 dX4_lookThrough_103 (by decide) ?_
            exact ww_eq (by simp only [wMe, nI_succ k2]; rfl) rfl rfl (ih2 (k2 + 1) ⟨by omega, by rw [← hk3, show 16 - k2 = (16 - (k2 + 1)) + 1 by omega, s_adv, if_pos (bI_n0 h_90)]⟩ (by omega))
    · skip
      refine ww_aload_n (i := 0) C dX4_lookThrough_43 rfl rfl 44 rfl ?_
      refine ww_iload C dX4_lookThrough_44 rfl 46 rfl ?_
      refine ww_put C fe_X4_33 rfl dX4_lookThrough_46 0 rfl rfl rfl (Nat.le_of_ble_eq_true rfl) 49 rfl ?_
      refine ww_aload_n (i := 0) C dX4_lookThrough_49 rfl rfl 50 rfl ?_
      refine ww_iload_n (i := 1) C dX4_lookThrough_50 rfl rfl 51 rfl ?_
      refine ww_iload C dX4_lookThrough_51 rfl 53 rfl ?_
      refine ww_iadd C dX4_lookThrough_53 54 rfl ?_
      refine ww_put C fe_X4_36 rfl dX4_lookThrough_54 0 rfl rfl rfl (Nat.le_of_ble_eq_true rfl) 57 rfl ?_
      refine ww_iload C dX4_lookThrough_57 rfl 59 rfl ?_
      refine ww_if_ne C 72 dX4_lookThrough_59 (by decide) 62 rfl (fun h_59 => ?_) (fun h_59 => ?_)
      · skip
        obtain ⟨ft2, sk2, md2, hq1, hq2, hq3⟩ : ∃ ft2 sk2 md2 : Int32, ft2 = (if s_bc64 (wu ^^^ (lw k &&& un)) = 0 then (s_lt lw un fc wu s0 k).1 + 1 else (s_lt lw un fc wu s0 k).1) ∧ sk2 = (if s_bc64 (wu ^^^ (lw k &&& un)) < (s_lt lw un fc wu s0 k).2.1 then s_bc64 (wu ^^^ (lw k &&& un)) else (s_lt lw un fc wu s0 k).2.1) ∧ md2 = (if s_bc64 (wu ^^^ (lw k &&& un)) < (s_lt lw un fc wu s0 k).2.1 then fc + nI k else (s_lt lw un fc wu s0 k).2.2.1) := ⟨_, _, _, rfl, rfl, rfl⟩
        refine ww_lv (lv' := [some (.ref hm), some (.int fc), some (.long wu), none, some (.int (nI k)), some (.long (wu ^^^ (lw k &&& un))), none, none]) (lvle_same (lvle_same (lvle_same (lvle_same (lvle_same (lvle_same (lvle_same (lvle_none lvle_nil)))))))) ?_
        refine ww_eq (ws' := [wMe hm ml mu ua lk dr un ((ft2, sk2, md2, (s_lt lw un fc wu s0 k).2.2.2)), (ml, .inl (Γ.2.2.1, 256, .inr (.inl lw)))]) ?_ rfl rfl ?_
        · rw [hq1, hq2, hq3]
          first
            | (rw [if_pos h_59, if_pos (show s_bc64 (wu ^^^ (lw k &&& un)) < (s_lt lw un fc wu s0 k).2.1 from Int32.not_le.mp h_40), if_pos (show s_bc64 (wu ^^^ (lw k &&& un)) < (s_lt lw un fc wu s0 k).2.1 from Int32.not_le.mp h_40)]; all_goals rfl)
            | (rw [if_neg h_59, if_pos (show s_bc64 (wu ^^^ (lw k &&& un)) < (s_lt lw un fc wu s0 k).2.1 from Int32.not_le.mp h_40), if_pos (show s_bc64 (wu ^^^ (lw k &&& un)) < (s_lt lw un fc wu s0 k).2.1 from Int32.not_le.mp h_40)]; all_goals rfl)
            | (rw [if_pos h_59, if_neg (show ¬ s_bc64 (wu ^^^ (lw k &&& un)) < (s_lt lw un fc wu s0 k).2.1 from Int32.not_lt.mpr h_40), if_neg (show ¬ s_bc64 (wu ^^^ (lw k &&& un)) < (s_lt lw un fc wu s0 k).2.1 from Int32.not_lt.mpr h_40)]; all_goals rfl)
            | (rw [if_neg h_59, if_neg (show ¬ s_bc64 (wu ^^^ (lw k &&& un)) < (s_lt lw un fc wu s0 k).2.1 from Int32.not_lt.mpr h_40), if_neg (show ¬ s_bc64 (wu ^^^ (lw k &&& un)) < (s_lt lw un fc wu s0 k).2.1 from Int32.not_lt.mpr h_40)]; all_goals rfl)
        refine ww_loop (fun k2 : Nat => 16 - k2) (fun k2 => k2 ≤ 16 ∧ s_adv (wu ^^^ (lw k &&& un)) (16 - k2) k2 = s_adv (wu ^^^ (lw k &&& un)) (16 - (s_lt lw un fc wu s0 k).2.2.2) (s_lt lw un fc wu s0 k).2.2.2) (fun k2 => [wMe hm ml mu ua lk dr un ((ft2, sk2, md2, k2)), (ml, .inl (Γ.2.2.1, 256, .inr (.inl lw)))]) (fun k2 => [some (.ref hm), some (.int fc), some (.long wu), none, some (.int (nI k)), some (.long (wu ^^^ (lw k &&& un))), none, none]) ((s_lt lw un fc wu s0 k).2.2.2) ⟨hf1, rfl⟩ rfl rfl (fun k2 hx ih2 => ?_)
        obtain ⟨hk2, hk3⟩ := hx
        try dsimp only at hk2 hk3 ih2 ⊢
        refine ww_aload_n (i := 0) C dX4_lookThrough_72 rfl rfl 73 rfl ?_
        refine ww_get C fe_X4_39 dX4_lookThrough_73 0 rfl rfl 76 rfl ?_
        refine ww_bipush (v := 16) C dX4_lookThrough_76 (by decide) 78 rfl ?_
        refine ww_icmp_ge C 106 dX4_lookThrough_78 (by decide) 81 rfl (fun h_78 => ?_) (fun h_78 => ?_)
        · skip
          have hend : s_adv (wu ^^^ (lw k &&& un)) (16 - k2) k2 = k2 := by
            first
              | (have e : k2 = 16 := eqN (n := 16) h_78 hk2 (by decide); subst e; rfl)
              | (rw [show 16 - k2 = (15 - k2) + 1 by omega, s_adv, if_neg (bI_e0 h_90)])
          refine ww_iinc (y := 1) C dX4_lookThrough_106 rfl (by decide) (by decide) rfl 109 rfl ?_
          refine ww_goto C 3 dX4_lookThrough_109 (by decide) ?_
          have ee : s_lt lw un fc wu s0 (k + 1) = (ft2, sk2, md2, k2) := by
            rw [s_lt, s_stp, ← hq1, ← hq2, ← hq3, ← hk3, hend]
          refine ww_lv (lv' := [some (.ref hm), some (.int fc), some (.long wu), none, some (.int (nI (k + 1))), none, none, none]) (by rw [nI_succ k]; exact (lvle_same (lvle_same (lvle_same (lvle_same (lvle_same (lvle_none (lvle_none (lvle_none lvle_nil))))))))) ?_
          refine ww_eq ?_ rfl rfl (ih (k + 1) (by omega) (by omega))
          rw [ee]
        · skip
          have hlt2 : k2 < 16 := ltN (n := 16) h_78 (by decide) (by omega)
          refine ww_aload_n (i := 0) C dX4_lookThrough_81 rfl rfl 82 rfl ?_
          refine ww_get C fe_X4_39 dX4_lookThrough_82 0 rfl rfl 85 rfl ?_
          refine ww_lload C dX4_lookThrough_85 rfl 87 rfl ?_
          refine ww_callS2p C (c_X4_agreesUpTo l Γ) mi_X4_agreesUpTo st_X4_agreesUpTo ml_X4_71 dX4_lookThrough_87 (Nat.le_of_ble_eq_true rfl) (Nat.le_of_ble_eq_true rfl) (Nat.le_of_ble_eq_true rfl) ⟨Nat.zero_le _, Nat.zero_le _⟩ [] rfl (by decide) 90 rfl ?_
          refine ww_if_eq C 106 dX4_lookThrough_90 (by decide) 93 rfl (fun h_90 => ?_) (fun h_90 => ?_)
          · skip
            have hend : s_adv (wu ^^^ (lw k &&& un)) (16 - k2) k2 = k2 := by
              first
                | (have e : k2 = 16 := eqN (n := 16) h_78 hk2 (by decide); subst e; rfl)
                | (rw [show 16 - k2 = (15 - k2) + 1 by omega, s_adv, if_neg (bI_e0 h_90)])
            refine ww_iinc (y := 1) C dX4_lookThrough_106 rfl (by decide) (by decide) rfl 109 rfl ?_
            refine ww_goto C 3 dX4_lookThrough_109 (by decide) ?_
            have ee : s_lt lw un fc wu s0 (k + 1) = (ft2, sk2, md2, k2) := by
              rw [s_lt, s_stp, ← hq1, ← hq2, ← hq3, ← hk3, hend]
            refine ww_lv (lv' := [some (.ref hm), some (.int fc), some (.long wu), none, some (.int (nI (k + 1))), none, none, none]) (by rw [nI_succ k]; exact (lvle_same (lvle_same (lvle_same (lvle_same (lvle_same (lvle_none (lvle_none (lvle_none lvle_nil))))))))) ?_
            refine ww_eq ?_ rfl rfl (ih (k + 1) (by omega) (by omega))
            rw [ee]
          · skip
            refine ww_aload_n (i := 0) C dX4_lookThrough_93 rfl rfl 94 rfl ?_
            refine ww_dup C dX4_lookThrough_94 rfl 95 rfl ?_
            refine ww_get C fe_X4_39 dX4_lookThrough_95 0 rfl rfl 98 rfl ?_
            refine ww_iconst (v := 1) C dX4_lookThrough_98 (by decide) 99 rfl ?_
            refine ww_iadd C dX4_lookThrough_99 100 rfl ?_
            refine ww_put C fe_X4_39 rfl dX4_lookThrough_100 0 rfl rfl rfl (Nat.le_of_ble_eq_true rfl) 103 rfl ?_
            refine ww_goto C 72 dX4_lookThrough_103 (by decide) ?_
            exact ww_eq (by simp only [wMe, nI_succ k2]; rfl) rfl rfl (ih2 (k2 + 1) ⟨by omega, by rw [← hk3, show 16 - k2 = (16 - (k2 + 1)) + 1 by omega, s_adv, if_pos (bI_n0 h_90)]⟩ (by omega))
      · skip
        refine ww_aload_n (i := 0) C dX4_lookThrough_62 rfl rfl 63 rfl ?_
        refine ww_dup C dX4_lookThrough_63 rfl 64 rfl ?_
        refine ww_get C fe_X4_29 dX4_lookThrough_64 0 rfl rfl 67 rfl ?_
        refine ww_iconst (v := 1) C dX4_lookThrough_67 (by decide) 68 rfl ?_
        refine ww_iadd C dX4_lookThrough_68 69 rfl ?_
        refine ww_put C fe_X4_29 rfl dX4_lookThrough_69 0 rfl rfl rfl (Nat.le_of_ble_eq_true rfl) 72 rfl ?_
        obtain ⟨ft2, sk2, md2, hq1, hq2, hq3⟩ : ∃ ft2 sk2 md2 : Int32, ft2 = (if s_bc64 (wu ^^^ (lw k &&& un)) = 0 then (s_lt lw un fc wu s0 k).1 + 1 else (s_lt lw un fc wu s0 k).1) ∧ sk2 = (if s_bc64 (wu ^^^ (lw k &&& un)) < (s_lt lw un fc wu s0 k).2.1 then s_bc64 (wu ^^^ (lw k &&& un)) else (s_lt lw un fc wu s0 k).2.1) ∧ md2 = (if s_bc64 (wu ^^^ (lw k &&& un)) < (s_lt lw un fc wu s0 k).2.1 then fc + nI k else (s_lt lw un fc wu s0 k).2.2.1) := ⟨_, _, _, rfl, rfl, rfl⟩
        refine ww_lv (lv' := [some (.ref hm), some (.int fc), some (.long wu), none, some (.int (nI k)), some (.long (wu ^^^ (lw k &&& un))), none, none]) (lvle_same (lvle_same (lvle_same (lvle_same (lvle_same (lvle_same (lvle_same (lvle_none lvle_nil)))))))) ?_
        refine ww_eq (ws' := [wMe hm ml mu ua lk dr un ((ft2, sk2, md2, (s_lt lw un fc wu s0 k).2.2.2)), (ml, .inl (Γ.2.2.1, 256, .inr (.inl lw)))]) ?_ rfl rfl ?_
        · rw [hq1, hq2, hq3]
          first
            | (rw [if_pos h_59, if_pos (show s_bc64 (wu ^^^ (lw k &&& un)) < (s_lt lw un fc wu s0 k).2.1 from Int32.not_le.mp h_40), if_pos (show s_bc64 (wu ^^^ (lw k &&& un)) < (s_lt lw un fc wu s0 k).2.1 from Int32.not_le.mp h_40)]; all_goals rfl)
            | (rw [if_neg h_59, if_pos (show s_bc64 (wu ^^^ (lw k &&& un)) < (s_lt lw un fc wu s0 k).2.1 from Int32.not_le.mp h_40), if_pos (show s_bc64 (wu ^^^ (lw k &&& un)) < (s_lt lw un fc wu s0 k).2.1 from Int32.not_le.mp h_40)]; all_goals rfl)
            | (rw [if_pos h_59, if_neg (show ¬ s_bc64 (wu ^^^ (lw k &&& un)) < (s_lt lw un fc wu s0 k).2.1 from Int32.not_lt.mpr h_40), if_neg (show ¬ s_bc64 (wu ^^^ (lw k &&& un)) < (s_lt lw un fc wu s0 k).2.1 from Int32.not_lt.mpr h_40)]; all_goals rfl)
            | (rw [if_neg h_59, if_neg (show ¬ s_bc64 (wu ^^^ (lw k &&& un)) < (s_lt lw un fc wu s0 k).2.1 from Int32.not_lt.mpr h_40), if_neg (show ¬ s_bc64 (wu ^^^ (lw k &&& un)) < (s_lt lw un fc wu s0 k).2.1 from Int32.not_lt.mpr h_40)]; all_goals rfl)
        refine ww_loop (fun k2 : Nat => 16 - k2) (fun k2 => k2 ≤ 16 ∧ s_adv (wu ^^^ (lw k &&& un)) (16 - k2) k2 = s_adv (wu ^^^ (lw k &&& un)) (16 - (s_lt lw un fc wu s0 k).2.2.2) (s_lt lw un fc wu s0 k).2.2.2) (fun k2 => [wMe hm ml mu ua lk dr un ((ft2, sk2, md2, k2)), (ml, .inl (Γ.2.2.1, 256, .inr (.inl lw)))]) (fun k2 => [some (.ref hm), some (.int fc), some (.long wu), none, some (.int (nI k)), some (.long (wu ^^^ (lw k &&& un))), none, none]) ((s_lt lw un fc wu s0 k).2.2.2) ⟨hf1, rfl⟩ rfl rfl (fun k2 hx ih2 => ?_)
        obtain ⟨hk2, hk3⟩ := hx
        try dsimp only at hk2 hk3 ih2 ⊢
        refine ww_aload_n (i := 0) C dX4_lookThrough_72 rfl rfl 73 rfl ?_
        refine ww_get C fe_X4_39 dX4_lookThrough_73 0 rfl rfl 76 rfl ?_
        refine ww_bipush (v := 16) C dX4_lookThrough_76 (by decide) 78 rfl ?_
        refine ww_icmp_ge C 106 dX4_lookThrough_78 (by decide) 81 rfl (fun h_78 => ?_) (fun h_78 => ?_)
        · skip
          have hend : s_adv (wu ^^^ (lw k &&& un)) (16 - k2) k2 = k2 := by
            first
              | (have e : k2 = 16 := eqN (n := 16) h_78 hk2 (by decide); subst e; rfl)
              | (rw [show 16 - k2 = (15 - k2) + 1 by omega, s_adv, if_neg (bI_e0 h_90)])
          refine ww_iinc (y := 1) C dX4_lookThrough_106 rfl (by decide) (by decide) rfl 109 rfl ?_
          refine ww_goto C 3 dX4_lookThrough_109 (by decide) ?_
          have ee : s_lt lw un fc wu s0 (k + 1) = (ft2, sk2, md2, k2) := by
            rw [s_lt, s_stp, ← hq1, ← hq2, ← hq3, ← hk3, hend]
          refine ww_lv (lv' := [some (.ref hm), some (.int fc), some (.long wu), none, some (.int (nI (k + 1))), none, none, none]) (by rw [nI_succ k]; exact (lvle_same (lvle_same (lvle_same (lvle_same (lvle_same (lvle_none (lvle_none (lvle_none lvle_nil))))))))) ?_
          refine ww_eq ?_ rfl rfl (ih (k + 1) (by omega) (by omega))
          rw [ee]
        · skip
          have hlt2 : k2 < 16 := ltN (n := 16) h_78 (by decide) (by omega)
          refine ww_aload_n (i := 0) C dX4_lookThrough_81 rfl rfl 82 rfl ?_
          refine ww_get C fe_X4_39 dX4_lookThrough_82 0 rfl rfl 85 rfl ?_
          refine ww_lload C dX4_lookThrough_85 rfl 87 rfl ?_
          refine ww_callS2p C (c_X4_agreesUpTo l Γ) mi_X4_agreesUpTo st_X4_agreesUpTo ml_X4_71 dX4_lookThrough_87 (Nat.le_of_ble_eq_true rfl) (Nat.le_of_ble_eq_true rfl) (Nat.le_of_ble_eq_true rfl) ⟨Nat.zero_le _, Nat.zero_le _⟩ [] rfl (by decide) 90 rfl ?_
          refine ww_if_eq C 106 dX4_lookThrough_90 (by decide) 93 rfl (fun h_90 => ?_) (fun h_90 => ?_)
          · skip
            have hend : s_adv (wu ^^^ (lw k &&& un)) (16 - k2) k2 = k2 := by
              first
                | (have e : k2 = 16 := eqN (n := 16) h_78 hk2 (by decide); subst e; rfl)
                | (rw [show 16 - k2 = (15 - k2) + 1 by omega, s_adv, if_neg (bI_e0 h_90)])
            refine ww_iinc (y := 1) C dX4_lookThrough_106 rfl (by decide) (by decide) rfl 109 rfl ?_
            refine ww_goto C 3 dX4_lookThrough_109 (by decide) ?_
            have ee : s_lt lw un fc wu s0 (k + 1) = (ft2, sk2, md2, k2) := by
              rw [s_lt, s_stp, ← hq1, ← hq2, ← hq3, ← hk3, hend]
            refine ww_lv (lv' := [some (.ref hm), some (.int fc), some (.long wu), none, some (.int (nI (k + 1))), none, none, none]) (by rw [nI_succ k]; exact (lvle_same (lvle_same (lvle_same (lvle_same (lvle_same (lvle_none (lvle_none (lvle_none lvle_nil))))))))) ?_
            refine ww_eq ?_ rfl rfl (ih (k + 1) (by omega) (by omega))
            rw [ee]
          · skip
            refine ww_aload_n (i := 0) C dX4_lookThrough_93 rfl rfl 94 rfl ?_
            refine ww_dup C dX4_lookThrough_94 rfl 95 rfl ?_
            refine ww_get C fe_X4_39 dX4_lookThrough_95 0 rfl rfl 98 rfl ?_
            refine ww_iconst (v := 1) C dX4_lookThrough_98 (by decide) 99 rfl ?_
            refine ww_iadd C dX4_lookThrough_99 100 rfl ?_
            refine ww_put C fe_X4_39 rfl dX4_lookThrough_100 0 rfl rfl rfl (Nat.le_of_ble_eq_true rfl) 103 rfl ?_
            refine ww_goto C 72 dX4_lookThrough_103 (by decide) ?_
            exact ww_eq (by simp only [wMe, nI_succ k2]; rfl) rfl rfl (ih2 (k2 + 1) ⟨by omega, by rw [← hk3, show 16 - k2 = (16 - (k2 + 1)) + 1 by omega, s_adv, if_pos (bI_n0 h_90)]⟩ (by omega))
theorem c_X4_look_same (l : Launch) (Γ : Gm) {hm ml mu : Nat} {ua : Int64} {lk : Int32} {dr un : Int64} {s0 : Ms} {nd nu : Int64} {lw up : Nat → Int64} (h1 : ¬ lk = 0) (h2 : dr = nd) (h3 : un = nu) : Ct l Γ yX4_lookAt cX4_lookAt 8 none 2 [.ref hm, .long nd, .long nu] ([wMe hm ml mu ua lk dr un (s0), (ml, .inl (Γ.2.2.1, 256, .inr (.inl lw))), (mu, .inl (Γ.2.2.1, 256, .inr (.inl up)))]) (none) ([wMe hm ml mu ua lk dr un (s0), (ml, .inl (Γ.2.2.1, 256, .inr (.inl lw))), (mu, .inl (Γ.2.2.1, 256, .inr (.inl up)))]) := by
  refine Ct.of mi_X4_lookAt [some (.ref hm), some (.long nd), none, some (.long nu), none, none, none, none] 3 rfl (Nat.le_of_ble_eq_true rfl) ?_
  intro p e s m args below meth c C hr
  refine ww_aload_n (i := 0) C dX4_lookAt_0 rfl rfl 1 rfl ?_
  refine ww_get C fe_X4_18 dX4_lookAt_1 0 rfl rfl 4 rfl ?_
  refine ww_if_eq C 26 dX4_lookAt_4 (by decide) 7 rfl (fun h_4 => ?_) (fun h_4 => ?_)
  · exact absurd h_4 h1
  · skip
    refine ww_aload_n (i := 0) C dX4_lookAt_7 rfl rfl 8 rfl ?_
    refine ww_get C fe_X4_22 dX4_lookAt_8 0 rfl rfl 11 rfl ?_
    refine ww_lload_n (i := 1) C dX4_lookAt_11 rfl rfl 12 rfl ?_
    refine ww_lcmp C dX4_lookAt_12 13 rfl ?_
    refine ww_if_ne C 26 dX4_lookAt_13 (by decide) 16 rfl (fun h_13 => ?_) (fun h_13 => ?_)
    · exact absurd h_13 (fun q => q (cmp_eq.mpr h2))
    · skip
      refine ww_aload_n (i := 0) C dX4_lookAt_16 rfl rfl 17 rfl ?_
      refine ww_get C fe_X4_26 dX4_lookAt_17 0 rfl rfl 20 rfl ?_
      refine ww_lload_n (i := 3) C dX4_lookAt_20 rfl rfl 21 rfl ?_
      refine ww_lcmp C dX4_lookAt_21 22 rfl ?_
      refine ww_if_ne C 26 dX4_lookAt_22 (by decide) 25 rfl (fun h_22 => ?_) (fun h_22 => ?_)
      · exact absurd h_22 (fun q => q (cmp_eq.mpr h3))
      · skip
        exact ww_vret C hr dX4_lookAt_25 rfl rfl
set_option maxHeartbeats 2000000 in
theorem c_X4_look_new (l : Launch) (Γ : Gm) {hm ml mu : Nat} {ua : Int64} {lk : Int32} {dr un : Int64} {s0 : Ms} {nd nu : Int64} {lw up : Nat → Int64} (h9 : lk = 0 ∨ ¬ dr = nd ∨ ¬ un = nu) : Ct l Γ yX4_lookAt cX4_lookAt 8 none 2 [.ref hm, .long nd, .long nu] ([wMe hm ml mu ua lk dr un (s0), (ml, .inl (Γ.2.2.1, 256, .inr (.inl lw))), (mu, .inl (Γ.2.2.1, 256, .inr (.inl up)))]) (none) ([wMe hm ml mu ua 1 nd nu (s_la lw up ua nd nu 256), (ml, .inl (Γ.2.2.1, 256, .inr (.inl lw))), (mu, .inl (Γ.2.2.1, 256, .inr (.inl up)))]) := by
  refine Ct.of mi_X4_lookAt [some (.ref hm), some (.long nd), none, some (.long nu), none, none, none, none] 3 rfl (Nat.le_of_ble_eq_true rfl) ?_
  intro p e s m args below meth c C hr
  refine ww_cutS 26 ?_ (fun J => ?_)
  · skip
    refine ww_aload_n (i := 0) C dX4_lookAt_26 rfl rfl 27 rfl ?_
    refine ww_iconst (v := 1) C dX4_lookAt_27 (by decide) 28 rfl ?_
    refine ww_put C fe_X4_18 rfl dX4_lookAt_28 0 rfl rfl rfl (Nat.le_of_ble_eq_true rfl) 31 rfl ?_
    refine ww_aload_n (i := 0) C dX4_lookAt_31 rfl rfl 32 rfl ?_
    refine ww_lload_n (i := 1) C dX4_lookAt_32 rfl rfl 33 rfl ?_
    refine ww_put C fe_X4_22 rfl dX4_lookAt_33 0 rfl rfl rfl (Nat.le_of_ble_eq_true rfl) 36 rfl ?_
    refine ww_aload_n (i := 0) C dX4_lookAt_36 rfl rfl 37 rfl ?_
    refine ww_lload_n (i := 3) C dX4_lookAt_37 rfl rfl 38 rfl ?_
    refine ww_put C fe_X4_26 rfl dX4_lookAt_38 0 rfl rfl rfl (Nat.le_of_ble_eq_true rfl) 41 rfl ?_
    refine ww_aload_n (i := 0) C dX4_lookAt_41 rfl rfl 42 rfl ?_
    refine ww_iconst (v := 0) C dX4_lookAt_42 (by decide) 43 rfl ?_
    refine ww_put C fe_X4_29 rfl dX4_lookAt_43 0 rfl rfl rfl (Nat.le_of_ble_eq_true rfl) 46 rfl ?_
    refine ww_aload_n (i := 0) C dX4_lookAt_46 rfl rfl 47 rfl ?_
    refine ww_bipush (v := 65) C dX4_lookAt_47 (by decide) 49 rfl ?_
    refine ww_put C fe_X4_33 rfl dX4_lookAt_49 0 rfl rfl rfl (Nat.le_of_ble_eq_true rfl) 52 rfl ?_
    refine ww_aload_n (i := 0) C dX4_lookAt_52 rfl rfl 53 rfl ?_
    refine ww_iconst (v := 0) C dX4_lookAt_53 (by decide) 54 rfl ?_
    refine ww_put C fe_X4_36 rfl dX4_lookAt_54 0 rfl rfl rfl (Nat.le_of_ble_eq_true rfl) 57 rfl ?_
    refine ww_aload_n (i := 0) C dX4_lookAt_57 rfl rfl 58 rfl ?_
    refine ww_iconst (v := 0) C dX4_lookAt_58 (by decide) 59 rfl ?_
    refine ww_put C fe_X4_39 rfl dX4_lookAt_59 0 rfl rfl rfl (Nat.le_of_ble_eq_true rfl) 62 rfl ?_
    refine ww_iconst (v := 0) C dX4_lookAt_62 (by decide) 63 rfl ?_
    refine ww_istore C dX4_lookAt_63 (by decide) rfl 65 rfl ?_
    refine ww_lv (lv' := [some (.ref hm), some (.long nd), none, some (.long nu), none, some (.int (nI 0)), none, none]) (lvle_same (lvle_same (lvle_same (lvle_same (lvle_same (lvle_same (lvle_none (lvle_none lvle_nil)))))))) ?_
    refine ww_loop (fun k : Nat => 256 - k) (fun k => k ≤ 256) (fun k => [wMe hm ml mu ua 1 nd nu (s_la lw up ua nd nu k), (ml, .inl (Γ.2.2.1, 256, .inr (.inl lw))), (mu, .inl (Γ.2.2.1, 256, .inr (.inl up)))]) (fun k => [some (.ref hm), some (.long nd), none, some (.long nu), none, some (.int (nI k)), none, none]) (0 : Nat) (by omega) rfl rfl (fun k hk ih => ?_)
    try dsimp only at hk ih ⊢
    refine ww_iload C dX4_lookAt_65 rfl 67 rfl ?_
    refine ww_sipush (v := 256) C dX4_lookAt_67 (by decide) 70 rfl ?_
    refine ww_icmp_ge C 123 dX4_lookAt_70 (by decide) 73 rfl (fun h_70 => ?_) (fun h_70 => ?_)
    · skip
      obtain rfl : k = 256 := eqN (n := 256) h_70 hk (by decide)
      exact ww_vret C hr dX4_lookAt_123 rfl rfl
    · skip
      have hlt : k < 256 := ltN (n := 256) h_70 (by decide) (by omega)
      refine ww_aload_n (i := 0) C dX4_lookAt_73 rfl rfl 74 rfl ?_
      refine ww_get C fe_X4_15 dX4_lookAt_74 0 rfl rfl 77 rfl ?_
      refine ww_iload C dX4_lookAt_77 rfl 79 rfl ?_
      refine ww_lald C dX4_lookAt_79 2 rfl (vp_in_nI hlt (by decide)) 80 rfl ?_
      rw [nI_clamp (show k < 2 ^ 31 by omega)]
      refine ww_aload_n (i := 0) C dX4_lookAt_80 rfl rfl 81 rfl ?_
      refine ww_get C fe_X4_22 dX4_lookAt_81 0 rfl rfl 84 rfl ?_
      refine ww_lxor C dX4_lookAt_84 85 rfl ?_
      refine ww_aload_n (i := 0) C dX4_lookAt_85 rfl rfl 86 rfl ?_
      refine ww_get C fe_X4_26 dX4_lookAt_86 0 rfl rfl 89 rfl ?_
      refine ww_land C dX4_lookAt_89 90 rfl ?_
      refine ww_lstore C dX4_lookAt_90 (by decide) rfl 92 rfl ?_
      refine ww_aload_n (i := 0) C dX4_lookAt_92 rfl rfl 93 rfl ?_
      refine ww_lload C dX4_lookAt_93 rfl 95 rfl ?_
      refine ww_aload_n (i := 0) C dX4_lookAt_95 rfl rfl 96 rfl ?_
      refine ww_get C fe_X4_48 dX4_lookAt_96 0 rfl rfl 99 rfl ?_
      refine ww_land C dX4_lookAt_99 100 rfl ?_
      refine ww_callV1p C (c_X4_mayTellMore l Γ) mi_X4_mayTellMore im_X4_mayTellMore se_X4_mayTellMore ml_X4_57 dX4_lookAt_100 0 rfl rfl rfl (Nat.le_of_ble_eq_true rfl) (Nat.le_of_ble_eq_true rfl) (Nat.le_of_ble_eq_true rfl) ⟨Nat.zero_le _, Nat.zero_le _⟩ [0] rfl (by decide) 103 rfl ?_
      refine ww_if_eq C 117 dX4_lookAt_103 (by decide) 106 rfl (fun h_103 => ?_) (fun h_103 => ?_)
      · skip
        refine ww_iinc (y := 1) C dX4_lookAt_117 rfl (by decide) (by decide) rfl 120 rfl ?_
        refine ww_goto C 65 dX4_lookAt_120 (by decide) ?_
        refine ww_lv (lv' := [some (.ref hm), some (.long nd), none, some (.long nu), none, some (.int (nI (k + 1))), none, none]) (by rw [nI_succ k]; exact (lvle_same (lvle_same (lvle_same (lvle_same (lvle_same (lvle_same (lvle_none (lvle_none lvle_nil))))))))) ?_
        first
          | (exact ww_eq (by rw [s_la, if_neg (bI_e0 h_103)]) rfl rfl (ih (k + 1) (by omega) (by omega)))
          | (exact ww_eq (by rw [s_la, if_pos (bI_n0 h_103)]; rfl) rfl rfl (ih (k + 1) (by omega) (by omega)))
      · skip
        refine ww_aload_n (i := 0) C dX4_lookAt_106 rfl rfl 107 rfl ?_
        refine ww_iload C dX4_lookAt_107 rfl 109 rfl ?_
        refine ww_bipush (v := 8) C dX4_lookAt_109 (by decide) 111 rfl ?_
        refine ww_ishl C dX4_lookAt_111 112 rfl ?_
        refine ww_lload C dX4_lookAt_112 rfl 114 rfl ?_
        refine ww_callV2v C (c_X4_lookThrough l Γ s_la_le) mi_X4_lookThrough im_X4_lookThrough se_X4_lookThrough ml_X4_61 dX4_lookAt_114 0 rfl rfl rfl (Nat.le_of_ble_eq_true rfl) (Nat.le_of_ble_eq_true rfl) (Nat.le_of_ble_eq_true rfl) ⟨Nat.zero_le _, Nat.zero_le _⟩ [0, 1] rfl (by decide) rfl 117 rfl ?_
        refine ww_iinc (y := 1) C dX4_lookAt_117 rfl (by decide) (by decide) rfl 120 rfl ?_
        refine ww_goto C 65 dX4_lookAt_120 (by decide) ?_
        refine ww_lv (lv' := [some (.ref hm), some (.long nd), none, some (.long nu), none, some (.int (nI (k + 1))), none, none]) (by rw [nI_succ k]; exact (lvle_same (lvle_same (lvle_same (lvle_same (lvle_same (lvle_same (lvle_none (lvle_none lvle_nil))))))))) ?_
        first
          | (exact ww_eq (by rw [s_la, if_neg (bI_e0 h_103)]) rfl rfl (ih (k + 1) (by omega) (by omega)))
          | (exact ww_eq (by rw [s_la, if_pos (bI_n0 h_103)]; rfl) rfl rfl (ih (k + 1) (by omega) (by omega)))
  · skip
    refine ww_aload_n (i := 0) C dX4_lookAt_0 rfl rfl 1 rfl ?_
    refine ww_get C fe_X4_18 dX4_lookAt_1 0 rfl rfl 4 rfl ?_
    refine ww_if_eq C 26 dX4_lookAt_4 (by decide) 7 rfl (fun h_4 => ?_) (fun h_4 => ?_)
    · skip
      exact J
    · skip
      refine ww_aload_n (i := 0) C dX4_lookAt_7 rfl rfl 8 rfl ?_
      refine ww_get C fe_X4_22 dX4_lookAt_8 0 rfl rfl 11 rfl ?_
      refine ww_lload_n (i := 1) C dX4_lookAt_11 rfl rfl 12 rfl ?_
      refine ww_lcmp C dX4_lookAt_12 13 rfl ?_
      refine ww_if_ne C 26 dX4_lookAt_13 (by decide) 16 rfl (fun h_13 => ?_) (fun h_13 => ?_)
      · skip
        exact J
      · skip
        refine ww_aload_n (i := 0) C dX4_lookAt_16 rfl rfl 17 rfl ?_
        refine ww_get C fe_X4_26 dX4_lookAt_17 0 rfl rfl 20 rfl ?_
        refine ww_lload_n (i := 3) C dX4_lookAt_20 rfl rfl 21 rfl ?_
        refine ww_lcmp C dX4_lookAt_21 22 rfl ?_
        refine ww_if_ne C 26 dX4_lookAt_22 (by decide) 25 rfl (fun h_22 => ?_) (fun h_22 => ?_)
        · skip
          exact J
        · skip
          exact absurd h9 (fun q => q.elim h_4 (fun z => z.elim (fun y => y (cmp_eq.mp h_13)) (fun y => y (cmp_eq.mp h_22))))
