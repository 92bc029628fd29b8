/-- a token's kind, its value, where it begins -/
def kp (T : Nat) (A : Nat → Nat → Int32) (t : Nat) : Int32 := if t < T then A 3 t else 0
def nv (T : Nat) (A : Nat → Nat → Int32) (t : Nat) : Int32 := if t < T then A 4 t else 0
def ps (T u : Nat) (A : Nat → Nat → Int32) (t : Nat) : Int32 := if t < T then A 0 t else nI u
theorem kp_lt {T : Nat} {A : Nat → Nat → Int32} {t : Nat} (h : ¬ kp T A t = 0) : t < T := Decidable.byContradiction fun q => h (if_neg q)
theorem kp_lt2 {T : Nat} {A : Nat → Nat → Int32} {t : Nat} {k : Int32} (h : kp T A t = k) (hk : ¬ k = 0) : t < T := kp_lt (fun q => hk (h.symm.trans q))
/-- the grammar, over tokens: a number; a test; what follows the tests; a rule; the text. A fault and its token, or 0 and the token behind -/
def gN (κ ν : Nat → Int32) (t : Nat) (lo hi : Int32) : Int32 := if ¬ κ t = 1 then 1 else if ν t < lo then 2 else if ν t ≤ hi then 0 else 2
def gT (κ ν : Nat → Int32) (t : Nat) : Int32 × Nat :=
  if κ t = 6711655 then (if ¬ gN κ ν (t + 1) 0 15 = 0 then (gN κ ν (t + 1) 0 15, t + 1) else if ¬ κ (t + 2) = 24948 then (1, t + 2) else if ¬ gN κ ν (t + 3) 0 15 = 0 then (gN κ ν (t + 3) 0 15, t + 3) else (0, t + 4))
  else if κ t = 1935764837 then (if ¬ gN κ ν (t + 1) 0 15 = 0 then (gN κ ν (t + 1) 0 15, t + 1) else if ¬ gN κ ν (t + 2) 0 15 = 0 then (gN κ ν (t + 2) 0 15, t + 2) else (0, t + 3))
  else if κ t = 1885434739 then (if ¬ gN κ ν (t + 1) 1 11 = 0 then (gN κ ν (t + 1) 1 11, t + 1) else (0, t + 2))
  else if κ t = 1702258030 then (if ¬ gN κ ν (t + 1) 0 15 = 0 then (gN κ ν (t + 1) 0 15, t + 1) else (0, t + 2))
  else (1, t)
def gS (κ ν : Nat → Int32) (t : Nat) : Int32 × Nat := if ¬ κ t = 7561593 then (1, t) else if ¬ gN κ ν (t + 1) 0 9999 = 0 then (gN κ ν (t + 1) 0 9999, t + 1) else if ¬ κ (t + 2) = 2 then (1, t + 2) else (0, t + 3)
/-- behind j tests, of which f more may come -/
def gA (κ ν : Nat → Int32) : Nat → Nat → Nat × (Nat → Nat) → Int32 × Nat × Nat × (Nat → Nat)
  | 0, t, q => if κ t = 6385252 then (3, t, q) else ((gS κ ν t).1, (gS κ ν t).2, q)
  | f + 1, t, q => if κ t = 6385252 then (if ¬ (gT κ ν (t + 1)).1 = 0 then ((gT κ ν (t + 1)).1, (gT κ ν (t + 1)).2, q) else gA κ ν f (gT κ ν (t + 1)).2 (q.1 + 1, upN q.2 q.1 (t + 1))) else ((gS κ ν t).1, (gS κ ν t).2, q)
def gR (κ ν : Nat → Int32) (n t : Nat) : Int32 × Nat × Nat × (Nat → Nat) :=
  if ¬ κ t = 26982 then (1, t, 0, fun _ => 0) else if n = 15 then (3, t, 0, fun _ => 0)
  else if ¬ (gT κ ν (t + 1)).1 = 0 then ((gT κ ν (t + 1)).1, (gT κ ν (t + 1)).2, 0, fun _ => 0) else gA κ ν 3 (gT κ ν (t + 1)).2 (1, upN (fun _ => 0) 0 (t + 1))
theorem gN_b {κ ν : Nat → Int32} {t : Nat} {lo hi : Int32} : gN κ ν t lo hi = 0 ∨ gN κ ν t lo hi = 1 ∨ gN κ ν t lo hi = 2 := by
  unfold gN
  repeat' split
  all_goals simp
theorem gN_k {κ ν : Nat → Int32} {t : Nat} {lo hi : Int32} (h : gN κ ν t lo hi = 0) : κ t = 1 ∧ ¬ ν t < lo ∧ ν t ≤ hi := by
  unfold gN at h
  split at h
  · exact absurd h (by decide)
  · next h1 =>
    split at h
    · exact absurd h (by decide)
    · next h2 =>
      split at h
      · next h3 => exact ⟨Decidable.byContradiction h1, h2, h3⟩
      · exact absurd h (by decide)
theorem c_X5_faultHere (l : Launch) (Γ : Gm) {hd0 nx : Nat} {num fN fP : Int32} {ht t0 t1 t2 t3 t4 T u : Nat} {A : Nat → Nat → Int32} {f : Int32} (hT : T ≤ 400) (hnx : nx ≤ T) : Ct l Γ yX5_faultHere cX5_faultHere 2 (some .boolean) 1 [.ref hd0, .int f] ((hd0, .inr (3, [.ref ht, .int (nI (nx)), .int (num), .int (fN), .int (fP)])) :: wTok Γ ht t0 t1 t2 t3 t4 T u A) (some (.int 0)) ((hd0, .inr (3, [.ref ht, .int (nI (nx)), .int (num), .int (f), .int (ps T u A nx)])) :: wTok Γ ht t0 t1 t2 t3 t4 T u A) := by
  refine Ct.of mi_X5_faultHere [some (.ref hd0), some (.int f)] 0 rfl (Nat.le_of_ble_eq_true rfl) ?_
  intro p e s m args below meth c C hr
  refine ww_aload_n (i := 0) C dX5_faultHere_0 rfl rfl 1 rfl ?_
  refine ww_iload_n (i := 1) C dX5_faultHere_1 rfl rfl 2 rfl ?_
  refine ww_put C fe_X5_25 rfl dX5_faultHere_2 0 rfl rfl rfl (Nat.le_of_ble_eq_true rfl) 5 rfl ?_
  refine ww_aload_n (i := 0) C dX5_faultHere_5 rfl rfl 6 rfl ?_
  refine ww_aload_n (i := 0) C dX5_faultHere_6 rfl rfl 7 rfl ?_
  refine ww_get C fe_X5_12 dX5_faultHere_7 0 rfl rfl 10 rfl ?_
  refine ww_aload_n (i := 0) C dX5_faultHere_10 rfl rfl 11 rfl ?_
  refine ww_get C fe_X5_18 dX5_faultHere_11 0 rfl rfl 14 rfl ?_
  refine ww_callV1p C (c_X9_startOf l Γ (by omega) (by omega)) mi_X9_startOf im_X9_startOf se_X9_startOf ml_X5_86 dX5_faultHere_14 1 rfl rfl rfl (Nat.le_of_ble_eq_true rfl) (Nat.le_of_ble_eq_true rfl) (Nat.le_of_ble_eq_true rfl) ⟨Nat.zero_le _, Nat.zero_le _⟩ [1, 2] rfl (by decide) 17 rfl ?_
  refine ww_put C fe_X5_28 rfl dX5_faultHere_17 0 rfl rfl rfl (Nat.le_of_ble_eq_true rfl) 20 rfl ?_
  refine ww_iconst (v := 0) C dX5_faultHere_20 (by decide) 21 rfl ?_
  exact ww_zret C hr rfl dX5_faultHere_21 rfl rfl
theorem c_X5_take_ok (l : Launch) (Γ : Gm) {hd0 nx : Nat} {num fN fP : Int32} {ht t0 t1 t2 t3 t4 T u : Nat} {A : Nat → Nat → Int32} {k : Int32} (hT : T ≤ 400) (hnx : nx ≤ T) (hk : kp T A nx = k) : Ct l Γ yX5_take cX5_take 2 (some .boolean) 2 [.ref hd0, .int k] ((hd0, .inr (3, [.ref ht, .int (nI (nx)), .int (num), .int (fN), .int (fP)])) :: wTok Γ ht t0 t1 t2 t3 t4 T u A) (some (.int 1)) ((hd0, .inr (3, [.ref ht, .int (nI (nx + 1)), .int (num), .int (fN), .int (fP)])) :: wTok Γ ht t0 t1 t2 t3 t4 T u A) := by
  refine Ct.of mi_X5_take [some (.ref hd0), some (.int k)] 0 rfl (Nat.le_of_ble_eq_true rfl) ?_
  intro p e s m args below meth c C hr
  refine ww_aload_n (i := 0) C dX5_take_0 rfl rfl 1 rfl ?_
  refine ww_get C fe_X5_12 dX5_take_1 0 rfl rfl 4 rfl ?_
  refine ww_aload_n (i := 0) C dX5_take_4 rfl rfl 5 rfl ?_
  refine ww_get C fe_X5_18 dX5_take_5 0 rfl rfl 8 rfl ?_
  refine ww_callV1p C (c_X9_kindOf l Γ (by omega) (by omega)) mi_X9_kindOf im_X9_kindOf se_X9_kindOf ml_X5_40 dX5_take_8 1 rfl rfl rfl (Nat.le_of_ble_eq_true rfl) (Nat.le_of_ble_eq_true rfl) (Nat.le_of_ble_eq_true rfl) ⟨Nat.zero_le _, Nat.zero_le _⟩ [1, 5] rfl (by decide) 11 rfl ?_
  rw [show (if nx < T then A 3 nx else 0) = k from hk]
  refine ww_iload_n (i := 1) C dX5_take_11 rfl rfl 12 rfl ?_
  refine ww_icmp_eq C 21 dX5_take_12 (by decide) 15 rfl (fun h_12 => ?_) (fun h_12 => ?_)
  · skip
    refine ww_aload_n (i := 0) C dX5_take_21 rfl rfl 22 rfl ?_
    refine ww_dup C dX5_take_22 rfl 23 rfl ?_
    refine ww_get C fe_X5_18 dX5_take_23 0 rfl rfl 26 rfl ?_
    refine ww_iconst (v := 1) C dX5_take_26 (by decide) 27 rfl ?_
    refine ww_iadd C dX5_take_27 28 rfl ?_
    refine ww_put C fe_X5_18 rfl dX5_take_28 0 rfl rfl rfl (Nat.le_of_ble_eq_true rfl) 31 rfl ?_
    refine ww_iconst (v := 1) C dX5_take_31 (by decide) 32 rfl ?_
    exact ww_zret C hr rfl dX5_take_32 rfl (by rw [nI_succ nx]; rfl)
  · exact absurd rfl h_12
theorem c_X5_take_no (l : Launch) (Γ : Gm) {hd0 nx : Nat} {num fN fP : Int32} {ht t0 t1 t2 t3 t4 T u : Nat} {A : Nat → Nat → Int32} {k : Int32} (hT : T ≤ 400) (hnx : nx ≤ T) (hk : ¬ kp T A nx = k) : Ct l Γ yX5_take cX5_take 2 (some .boolean) 2 [.ref hd0, .int k] ((hd0, .inr (3, [.ref ht, .int (nI (nx)), .int (num), .int (fN), .int (fP)])) :: wTok Γ ht t0 t1 t2 t3 t4 T u A) (some (.int 0)) ((hd0, .inr (3, [.ref ht, .int (nI (nx)), .int (num), .int (1), .int (ps T u A nx)])) :: wTok Γ ht t0 t1 t2 t3 t4 T u A) := by
  refine Ct.of mi_X5_take [some (.ref hd0), some (.int k)] 0 rfl (Nat.le_of_ble_eq_true rfl) ?_
  intro p e s m args below meth c C hr
  refine ww_aload_n (i := 0) C dX5_take_0 rfl rfl 1 rfl ?_
  refine ww_get C fe_X5_12 dX5_take_1 0 rfl rfl 4 rfl ?_
  refine ww_aload_n (i := 0) C dX5_take_4 rfl rfl 5 rfl ?_
  refine ww_get C fe_X5_18 dX5_take_5 0 rfl rfl 8 rfl ?_
  refine ww_callV1p C (c_X9_kindOf l Γ (by omega) (by omega)) mi_X9_kindOf im_X9_kindOf se_X9_kindOf ml_X5_40 dX5_take_8 1 rfl rfl rfl (Nat.le_of_ble_eq_true rfl) (Nat.le_of_ble_eq_true rfl) (Nat.le_of_ble_eq_true rfl) ⟨Nat.zero_le _, Nat.zero_le _⟩ [1, 5] rfl (by decide) 11 rfl ?_
  refine ww_iload_n (i := 1) C dX5_take_11 rfl rfl 12 rfl ?_
  refine ww_icmp_eq C 21 dX5_take_12 (by decide) 15 rfl (fun h_12 => ?_) (fun h_12 => ?_)
  · exact absurd h_12 hk
  · skip
    refine ww_aload_n (i := 0) C dX5_take_15 rfl rfl 16 rfl ?_
    refine ww_iconst (v := 1) C dX5_take_16 (by decide) 17 rfl ?_
    refine ww_callV1 C (c_X5_faultHere l Γ hT hnx) mi_X5_faultHere im_X5_faultHere se_X5_faultHere ml_X5_52 dX5_take_17 0 rfl rfl rfl (Nat.le_of_ble_eq_true rfl) (Nat.le_of_ble_eq_true rfl) (Nat.le_of_ble_eq_true rfl) ⟨Nat.zero_le _, Nat.zero_le _⟩ [0, 1, 2, 3, 4, 5, 6] rfl (by decide) rfl 20 rfl ?_
    exact ww_zret C hr rfl dX5_take_20 rfl rfl
theorem c_X5_tn_ok (l : Launch) (Γ : Gm) {hd0 nx : Nat} {num fN fP : Int32} {ht t0 t1 t2 t3 t4 T u : Nat} {A : Nat → Nat → Int32} {lo hi : Int32} (hT : T ≤ 400) (hnx : nx ≤ T) (hg : gN (kp T A) (nv T A) nx lo hi = 0) : Ct l Γ yX5_takeNumber cX5_takeNumber 3 (some .boolean) 2 [.ref hd0, .int lo, .int hi] ((hd0, .inr (3, [.ref ht, .int (nI (nx)), .int (num), .int (fN), .int (fP)])) :: wTok Γ ht t0 t1 t2 t3 t4 T u A) (some (.int 1)) ((hd0, .inr (3, [.ref ht, .int (nI (nx + 1)), .int (nv T A nx), .int (fN), .int (fP)])) :: wTok Γ ht t0 t1 t2 t3 t4 T u A) := by
  refine Ct.of mi_X5_takeNumber [some (.ref hd0), some (.int lo), some (.int hi)] 0 rfl (Nat.le_of_ble_eq_true rfl) ?_
  intro p e s m args below meth c C hr
  obtain ⟨g1, g2, g3⟩ := gN_k hg
  refine ww_aload_n (i := 0) C dX5_takeNumber_0 rfl rfl 1 rfl ?_
  refine ww_get C fe_X5_12 dX5_takeNumber_1 0 rfl rfl 4 rfl ?_
  refine ww_aload_n (i := 0) C dX5_takeNumber_4 rfl rfl 5 rfl ?_
  refine ww_get C fe_X5_18 dX5_takeNumber_5 0 rfl rfl 8 rfl ?_
  refine ww_callV1p C (c_X9_kindOf l Γ (by omega) (by omega)) mi_X9_kindOf im_X9_kindOf se_X9_kindOf ml_X5_40 dX5_takeNumber_8 1 rfl rfl rfl (Nat.le_of_ble_eq_true rfl) (Nat.le_of_ble_eq_true rfl) (Nat.le_of_ble_eq_true rfl) ⟨Nat.zero_le _, Nat.zero_le _⟩ [1, 5] rfl (by decide) 11 rfl ?_
  rw [show (if nx < T then A 3 nx else 0) = 1 from g1]
  refine ww_iconst (v := 1) C dX5_takeNumber_11 (by decide) 12 rfl ?_
  refine ww_icmp_eq C 21 dX5_takeNumber_12 (by decide) 15 rfl (fun h_12 => ?_) (fun h_12 => ?_)
  · skip
    refine ww_aload_n (i := 0) C dX5_takeNumber_21 rfl rfl 22 rfl ?_
    refine ww_aload_n (i := 0) C dX5_takeNumber_22 rfl rfl 23 rfl ?_
    refine ww_get C fe_X5_12 dX5_takeNumber_23 0 rfl rfl 26 rfl ?_
    refine ww_aload_n (i := 0) C dX5_takeNumber_26 rfl rfl 27 rfl ?_
    refine ww_get C fe_X5_18 dX5_takeNumber_27 0 rfl rfl 30 rfl ?_
    refine ww_callV1p C (c_X9_valueOf l Γ (by omega) (by omega)) mi_X9_valueOf im_X9_valueOf se_X9_valueOf ml_X5_83 dX5_takeNumber_30 1 rfl rfl rfl (Nat.le_of_ble_eq_true rfl) (Nat.le_of_ble_eq_true rfl) (Nat.le_of_ble_eq_true rfl) ⟨Nat.zero_le _, Nat.zero_le _⟩ [1, 6] rfl (by decide) 33 rfl ?_
    refine ww_put C fe_X5_22 rfl dX5_takeNumber_33 0 rfl rfl rfl (Nat.le_of_ble_eq_true rfl) 36 rfl ?_
    refine ww_aload_n (i := 0) C dX5_takeNumber_36 rfl rfl 37 rfl ?_
    refine ww_get C fe_X5_22 dX5_takeNumber_37 0 rfl rfl 40 rfl ?_
    refine ww_iload_n (i := 1) C dX5_takeNumber_40 rfl rfl 41 rfl ?_
    refine ww_icmp_lt C 52 dX5_takeNumber_41 (by decide) 44 rfl (fun h_41 => ?_) (fun h_41 => ?_)
    · exact absurd h_41 g2
    · skip
      refine ww_aload_n (i := 0) C dX5_takeNumber_44 rfl rfl 45 rfl ?_
      refine ww_get C fe_X5_22 dX5_takeNumber_45 0 rfl rfl 48 rfl ?_
      refine ww_iload_n (i := 2) C dX5_takeNumber_48 rfl rfl 49 rfl ?_
      refine ww_icmp_le C 58 dX5_takeNumber_49 (by decide) 52 rfl (fun h_49 => ?_) (fun h_49 => ?_)
      · skip
        refine ww_aload_n (i := 0) C dX5_takeNumber_58 rfl rfl 59 rfl ?_
        refine ww_dup C dX5_takeNumber_59 rfl 60 rfl ?_
        refine ww_get C fe_X5_18 dX5_takeNumber_60 0 rfl rfl 63 rfl ?_
        refine ww_iconst (v := 1) C dX5_takeNumber_63 (by decide) 64 rfl ?_
        refine ww_iadd C dX5_takeNumber_64 65 rfl ?_
        refine ww_put C fe_X5_18 rfl dX5_takeNumber_65 0 rfl rfl rfl (Nat.le_of_ble_eq_true rfl) 68 rfl ?_
        refine ww_iconst (v := 1) C dX5_takeNumber_68 (by decide) 69 rfl ?_
        exact ww_zret C hr rfl dX5_takeNumber_69 rfl (by rw [nI_succ nx]; rfl)
      · exact absurd g3 h_49
  · exact absurd rfl h_12
theorem c_X5_tn_no (l : Launch) (Γ : Gm) {hd0 nx : Nat} {num fN fP : Int32} {ht t0 t1 t2 t3 t4 T u : Nat} {A : Nat → Nat → Int32} {lo hi : Int32} (hT : T ≤ 400) (hnx : nx ≤ T) (hg : ¬ gN (kp T A) (nv T A) nx lo hi = 0) : Ct l Γ yX5_takeNumber cX5_takeNumber 3 (some .boolean) 2 [.ref hd0, .int lo, .int hi] ((hd0, .inr (3, [.ref ht, .int (nI (nx)), .int (num), .int (fN), .int (fP)])) :: wTok Γ ht t0 t1 t2 t3 t4 T u A) (some (.int 0)) ((hd0, .inr (3, [.ref ht, .int (nI (nx)), .int (if kp T A nx = 1 then nv T A nx else num), .int (gN (kp T A) (nv T A) nx lo hi), .int (ps T u A nx)])) :: wTok Γ ht t0 t1 t2 t3 t4 T u A) := by
  refine Ct.of mi_X5_takeNumber [some (.ref hd0), some (.int lo), some (.int hi)] 0 rfl (Nat.le_of_ble_eq_true rfl) ?_
  intro p e s m args below meth c C hr
  refine ww_aload_n (i := 0) C dX5_takeNumber_0 rfl rfl 1 rfl ?_
  refine ww_get C fe_X5_12 dX5_takeNumber_1 0 rfl rfl 4 rfl ?_
  refine ww_aload_n (i := 0) C dX5_takeNumber_4 rfl rfl 5 rfl ?_
  refine ww_get C fe_X5_18 dX5_takeNumber_5 0 rfl rfl 8 rfl ?_
  refine ww_callV1p C (c_X9_kindOf l Γ (by omega) (by omega)) mi_X9_kindOf im_X9_kindOf se_X9_kindOf ml_X5_40 dX5_takeNumber_8 1 rfl rfl rfl (Nat.le_of_ble_eq_true rfl) (Nat.le_of_ble_eq_true rfl) (Nat.le_of_ble_eq_true rfl) ⟨Nat.zero_le _, Nat.zero_le _⟩ [1, 5] rfl (by decide) 11 rfl ?_
  refine ww_iconst (v := 1) C dX5_takeNumber_11 (by decide) 12 rfl ?_
  refine ww_icmp_eq C 21 dX5_takeNumber_12 (by decide) 15 rfl (fun h_12 => ?_) (fun h_12 => ?_)
  · skip
    refine ww_aload_n (i := 0) C dX5_takeNumber_21 rfl rfl 22 rfl ?_
    refine ww_aload_n (i := 0) C dX5_takeNumber_22 rfl rfl 23 rfl ?_
    refine ww_get C fe_X5_12 dX5_takeNumber_23 0 rfl rfl 26 rfl ?_
    refine ww_aload_n (i := 0) C dX5_takeNumber_26 rfl rfl 27 rfl ?_
    refine ww_get C fe_X5_18 dX5_takeNumber_27 0 rfl rfl 30 rfl ?_
    refine ww_callV1p C (c_X9_valueOf l Γ (by omega) (by omega)) mi_X9_valueOf im_X9_valueOf se_X9_valueOf ml_X5_83 dX5_takeNumber_30 1 rfl rfl rfl (Nat.le_of_ble_eq_true rfl) (Nat.le_of_ble_eq_true rfl) (Nat.le_of_ble_eq_true rfl) ⟨Nat.zero_le _, Nat.zero_le _⟩ [1, 6] rfl (by decide) 33 rfl ?_
    refine ww_put C fe_X5_22 rfl dX5_takeNumber_33 0 rfl rfl rfl (Nat.le_of_ble_eq_true rfl) 36 rfl ?_
    refine ww_aload_n (i := 0) C dX5_takeNumber_36 rfl rfl 37 rfl ?_
    refine ww_get C fe_X5_22 dX5_takeNumber_37 0 rfl rfl 40 rfl ?_
    refine ww_iload_n (i := 1) C dX5_takeNumber_40 rfl rfl 41 rfl ?_
    refine ww_icmp_lt C 52 dX5_takeNumber_41 (by decide) 44 rfl (fun h_41 => ?_) (fun h_41 => ?_)
    · skip
      refine ww_aload_n (i := 0) C dX5_takeNumber_52 rfl rfl 53 rfl ?_
      refine ww_iconst (v := 2) C dX5_takeNumber_53 (by decide) 54 rfl ?_
      refine ww_callV1 C (c_X5_faultHere l Γ hT hnx) mi_X5_faultHere im_X5_faultHere se_X5_faultHere ml_X5_52 dX5_takeNumber_54 0 rfl rfl rfl (Nat.le_of_ble_eq_true rfl) (Nat.le_of_ble_eq_true rfl) (Nat.le_of_ble_eq_true rfl) ⟨Nat.zero_le _, Nat.zero_le _⟩ [0, 1, 2, 3, 4, 5, 6] rfl (by decide) rfl 57 rfl ?_
      have h1 : ¬ ¬ kp T A nx = 1 := fun q => q h_12
      have e1 : gN (kp T A) (nv T A) nx lo hi = 2 := by
        first
          | (rw [gN, if_neg h1, if_pos (show nv T A nx < lo from h_41)])
          | (rw [gN, if_neg h1, if_neg (show ¬ nv T A nx < lo from h_41), if_neg (show ¬ nv T A nx ≤ hi from h_49)])
      have e2 : (if kp T A nx = 1 then nv T A nx else num) = nv T A nx := if_pos h_12
      exact ww_zret C hr rfl dX5_takeNumber_57 rfl (by rw [e1, e2]; rfl)
    · skip
      refine ww_aload_n (i := 0) C dX5_takeNumber_44 rfl rfl 45 rfl ?_
      refine ww_get C fe_X5_22 dX5_takeNumber_45 0 rfl rfl 48 rfl ?_
      refine ww_iload_n (i := 2) C dX5_takeNumber_48 rfl rfl 49 rfl ?_
      refine ww_icmp_le C 58 dX5_takeNumber_49 (by decide) 52 rfl (fun h_49 => ?_) (fun h_49 => ?_)
      · exact absurd (by rw [gN, if_neg (fun q => q h_12), if_neg (show ¬ nv T A nx < lo from h_41), if_pos (show nv T A nx ≤ hi from h_49)]) hg
      · skip
        refine ww_aload_n (i := 0) C dX5_takeNumber_52 rfl rfl 53 rfl ?_
        refine ww_iconst (v := 2) C dX5_takeNumber_53 (by decide) 54 rfl ?_
        refine ww_callV1 C (c_X5_faultHere l Γ hT hnx) mi_X5_faultHere im_X5_faultHere se_X5_faultHere ml_X5_52 dX5_takeNumber_54 0 rfl rfl rfl (Nat.le_of_ble_eq_true rfl) (Nat.le_of_ble_eq_true rfl) (Nat.le_of_ble_eq_true rfl) ⟨Nat.zero_le _, Nat.zero_le _⟩ [0, 1, 2, 3, 4, 5, 6] rfl (by decide) rfl 57 rfl ?_
        have h1 : ¬ ¬ kp T A nx = 1 := fun q => q h_12
        have e1 : gN (kp T A) (nv T A) nx lo hi = 2 := by
          first
            | (rw [gN, if_neg h1, if_pos (show nv T A nx < lo from h_41)])
            | (rw [gN, if_neg h1, if_neg (show ¬ nv T A nx < lo from h_41), if_neg (show ¬ nv T A nx ≤ hi from h_49)])
        have e2 : (if kp T A nx = 1 then nv T A nx else num) = nv T A nx := if_pos h_12
        exact ww_zret C hr rfl dX5_takeNumber_57 rfl (by rw [e1, e2]; rfl)
  · skip
    refine ww_aload_n (i := 0) C dX5_takeNumber_15 rfl rfl 16 rfl ?_
    refine ww_iconst (v := 1) C dX5_takeNumber_16 (by decide) 17 rfl ?_
    refine ww_callV1 C (c_X5_faultHere l Γ hT hnx) mi_X5_faultHere im_X5_faultHere se_X5_faultHere ml_X5_52 dX5_takeNumber_17 0 rfl rfl rfl (Nat.le_of_ble_eq_true rfl) (Nat.le_of_ble_eq_true rfl) (Nat.le_of_ble_eq_true rfl) ⟨Nat.zero_le _, Nat.zero_le _⟩ [0, 1, 2, 3, 4, 5, 6] rfl (by decide) rfl 20 rfl ?_
    have h1 : ¬ kp T A nx = 1 := h_12
    have e1 : gN (kp T A) (nv T A) nx lo hi = 1 := by rw [gN, if_pos h1]
    have e2 : (if kp T A nx = 1 then nv T A nx else num) = num := if_neg h1
    exact ww_zret C hr rfl dX5_takeNumber_20 rfl (by rw [e1, e2]; rfl)
