def s_orl (g : Nat → Int64) : Nat → Int64
  | 0 => 0
  | k + 1 => s_orl g k ||| g k
theorem orl_in (g : Nat → Int64) : ∀ n k, k < n → g k ||| s_orl g n = s_orl g n
  | 0, k, h => absurd h (Nat.not_lt_zero k)
  | n + 1, k, h => by
    rw [s_orl]
    by_cases e : k = n
    · subst e
      rw [Int64.or_comm (s_orl g k), ← Int64.or_assoc, Int64.or_self]
    · rw [← Int64.or_assoc, orl_in g n k (by omega)]
theorem or_out {x y : Int64} (h : x ||| y = y) : x &&& (y ^^^ -1) = 0 := by
  apply Int64.toBitVec_inj.1
  apply BitVec.eq_of_getLsbD_eq
  intro i hi
  have h2 : (x.toBitVec ||| y.toBitVec).getLsbD i = y.toBitVec.getLsbD i := congrArg (fun z : Int64 => z.toBitVec.getLsbD i) h
  have h3 : (-1 : Int64).toBitVec = BitVec.allOnes 64 := by decide
  show (x.toBitVec &&& (y.toBitVec ^^^ (-1 : Int64).toBitVec)).getLsbD i = (0#64).getLsbD i
  rw [h3]
  rw [BitVec.getLsbD_or] at h2
  simp only [BitVec.getLsbD_and, BitVec.getLsbD_xor, BitVec.getLsbD_allOnes, hi, decide_true, BitVec.getLsbD_zero]
  cases hx : x.toBitVec.getLsbD i <;> cases hy : y.toBitVec.getLsbD i <;> simp_all
theorem c_X4_init (l : Launch) (Γ : Gm) {h : Nat} : Cn (α := Nat × Nat × (Nat → Int64) × (Nat → Int64) × Int64) l Γ yX4_init cX4_init 4 3 [.ref h] [(h, .inr (2, [.null, .null, .long 0, .int 0, .long 0, .long 0, .int 0, .int 0, .int 0, .int 0]))] 2 512 (fun x => (∀ k, k < 256 → x.2.2.1 k = lN (CH k)) ∧ (∀ k, k < 256 → x.2.2.2.1 k = lN (CH (256 * k))) ∧ ∀ k, k < 256 → x.2.2.1 k &&& x.2.2.2.2 = 0) (fun x => [(h, .inr (2, [.ref x.1, .ref x.2.1, .long x.2.2.2.2, .int 0, .long 0, .long 0, .int 0, .int 0, .int 0, .int 0])), (x.1, .inl (Γ.2.2.1, 256, .inr (.inl x.2.2.1))), (x.2.1, .inl (Γ.2.2.1, 256, .inr (.inl x.2.2.2.1)))]) := by
  refine Cn.of mi_X4_init [some (.ref h), none, none, none] 3 rfl (Nat.le_of_ble_eq_true rfl) ?_
  intro p e s m args below meth c C hr hnm hZ
  refine ww_aload_n (i := 0) C dX4_init_0 rfl rfl 1 rfl ?_
  refine ww_obj C ml_X4_3 dX4_init_1 (by decide) (by decide) 4 rfl ?_
  refine ww_aload_n (i := 0) C dX4_init_4 rfl rfl 5 rfl ?_
  refine ww_sipush (v := 256) C dX4_init_5 (by decide) 8 rfl ?_
  refine ww_newal C 256 1 256 dX4_init_8 (by decide) (by decide) (by decide) rfl rfl (by decide) (by decide) 10 rfl (fun q1 => ?_)
  refine ww_putF C fe_X4_11 rfl hnm rfl dX4_init_10 0 rfl rfl rfl (Nat.le_of_ble_eq_true rfl) 13 rfl ?_
  refine ww_eq (ws' := [(h, .inr (2, [.ref q1, .null, .long 0, .int 0, .long 0, .long 0, .int 0, .int 0, .int 0, .int 0])), (q1, .inl (Γ.2.2.1, 256, .inr (.inl (fun _ => 0))))]) rfl rfl rfl ?_
  refine ww_aload_n (i := 0) C dX4_init_13 rfl rfl 14 rfl ?_
  refine ww_sipush (v := 256) C dX4_init_14 (by decide) 17 rfl ?_
  refine ww_newal C 256 2 512 dX4_init_17 (by decide) (by decide) (by decide) rfl rfl (by decide) (by decide) 19 rfl (fun q2 => ?_)
  refine ww_putF C fe_X4_15 rfl hnm rfl dX4_init_19 0 rfl rfl rfl (Nat.le_of_ble_eq_true rfl) 22 rfl ?_
  refine ww_eq (ws' := [(h, .inr (2, [.ref q1, .ref q2, .long 0, .int 0, .long 0, .long 0, .int 0, .int 0, .int 0, .int 0])), (q1, .inl (Γ.2.2.1, 256, .inr (.inl (fun _ => 0)))), (q2, .inl (Γ.2.2.1, 256, .inr (.inl (fun _ => 0))))]) rfl rfl rfl ?_
  refine ww_aload_n (i := 0) C dX4_init_22 rfl rfl 23 rfl ?_
  refine ww_iconst (v := 0) C dX4_init_23 (by decide) 24 rfl ?_
  refine ww_put C fe_X4_18 rfl dX4_init_24 0 rfl rfl rfl (Nat.le_of_ble_eq_true rfl) 27 rfl ?_
  refine ww_eq (ws' := [(h, .inr (2, [.ref q1, .ref q2, .long 0, .int 0, .long 0, .long 0, .int 0, .int 0, .int 0, .int 0])), (q1, .inl (Γ.2.2.1, 256, .inr (.inl (fun _ => 0)))), (q2, .inl (Γ.2.2.1, 256, .inr (.inl (fun _ => 0))))]) rfl rfl rfl ?_
  refine ww_aload_n (i := 0) C dX4_init_27 rfl rfl 28 rfl ?_
  refine ww_lconst (v := 0) C dX4_init_28 (by decide) 29 rfl ?_
  refine ww_put C fe_X4_22 rfl dX4_init_29 0 rfl rfl rfl (Nat.le_of_ble_eq_true rfl) 32 rfl ?_
  refine ww_eq (ws' := [(h, .inr (2, [.ref q1, .ref q2, .long 0, .int 0, .long 0, .long 0, .int 0, .int 0, .int 0, .int 0])), (q1, .inl (Γ.2.2.1, 256, .inr (.inl (fun _ => 0)))), (q2, .inl (Γ.2.2.1, 256, .inr (.inl (fun _ => 0))))]) rfl rfl rfl ?_
  refine ww_aload_n (i := 0) C dX4_init_32 rfl rfl 33 rfl ?_
  refine ww_lconst (v := 0) C dX4_init_33 (by decide) 34 rfl ?_
  refine ww_put C fe_X4_26 rfl dX4_init_34 0 rfl rfl rfl (Nat.le_of_ble_eq_true rfl) 37 rfl ?_
  refine ww_eq (ws' := [(h, .inr (2, [.ref q1, .ref q2, .long 0, .int 0, .long 0, .long 0, .int 0, .int 0, .int 0, .int 0])), (q1, .inl (Γ.2.2.1, 256, .inr (.inl (fun _ => 0)))), (q2, .inl (Γ.2.2.1, 256, .inr (.inl (fun _ => 0))))]) rfl rfl rfl ?_
  refine ww_aload_n (i := 0) C dX4_init_37 rfl rfl 38 rfl ?_
  refine ww_iconst (v := 0) C dX4_init_38 (by decide) 39 rfl ?_
  refine ww_put C fe_X4_29 rfl dX4_init_39 0 rfl rfl rfl (Nat.le_of_ble_eq_true rfl) 42 rfl ?_
  refine ww_eq (ws' := [(h, .inr (2, [.ref q1, .ref q2, .long 0, .int 0, .long 0, .long 0, .int 0, .int 0, .int 0, .int 0])), (q1, .inl (Γ.2.2.1, 256, .inr (.inl (fun _ => 0)))), (q2, .inl (Γ.2.2.1, 256, .inr (.inl (fun _ => 0))))]) rfl rfl rfl ?_
  refine ww_aload_n (i := 0) C dX4_init_42 rfl rfl 43 rfl ?_
  refine ww_iconst (v := 0) C dX4_init_43 (by decide) 44 rfl ?_
  refine ww_put C fe_X4_33 rfl dX4_init_44 0 rfl rfl rfl (Nat.le_of_ble_eq_true rfl) 47 rfl ?_
  refine ww_eq (ws' := [(h, .inr (2, [.ref q1, .ref q2, .long 0, .int 0, .long 0, .long 0, .int 0, .int 0, .int 0, .int 0])), (q1, .inl (Γ.2.2.1, 256, .inr (.inl (fun _ => 0)))), (q2, .inl (Γ.2.2.1, 256, .inr (.inl (fun _ => 0))))]) rfl rfl rfl ?_
  refine ww_aload_n (i := 0) C dX4_init_47 rfl rfl 48 rfl ?_
  refine ww_iconst (v := 0) C dX4_init_48 (by decide) 49 rfl ?_
  refine ww_put C fe_X4_36 rfl dX4_init_49 0 rfl rfl rfl (Nat.le_of_ble_eq_true rfl) 52 rfl ?_
  refine ww_eq (ws' := [(h, .inr (2, [.ref q1, .ref q2, .long 0, .int 0, .long 0, .long 0, .int 0, .int 0, .int 0, .int 0])), (q1, .inl (Γ.2.2.1, 256, .inr (.inl (fun _ => 0)))), (q2, .inl (Γ.2.2.1, 256, .inr (.inl (fun _ => 0))))]) rfl rfl rfl ?_
  refine ww_aload_n (i := 0) C dX4_init_52 rfl rfl 53 rfl ?_
  refine ww_iconst (v := 0) C dX4_init_53 (by decide) 54 rfl ?_
  refine ww_put C fe_X4_39 rfl dX4_init_54 0 rfl rfl rfl (Nat.le_of_ble_eq_true rfl) 57 rfl ?_
  refine ww_eq (ws' := [(h, .inr (2, [.ref q1, .ref q2, .long 0, .int 0, .long 0, .long 0, .int 0, .int 0, .int 0, .int 0])), (q1, .inl (Γ.2.2.1, 256, .inr (.inl (fun _ => 0)))), (q2, .inl (Γ.2.2.1, 256, .inr (.inl (fun _ => 0))))]) rfl rfl rfl ?_
  refine ww_aload_n (i := 0) C dX4_init_57 rfl rfl 58 rfl ?_
  refine ww_get C fe_X4_11 dX4_init_58 0 rfl rfl 61 rfl ?_
  refine ww_iconst (v := 0) C dX4_init_61 (by decide) 62 rfl ?_
  refine ww_callS2v C (c_X4_fillWithCharts l Γ (b := 0) (by decide)) mi_X4_fillWithCharts st_X4_fillWithCharts ml_X4_42 dX4_init_62 (Nat.le_of_ble_eq_true rfl) (Nat.le_of_ble_eq_true rfl) (Nat.le_of_ble_eq_true rfl) ⟨by decide, by decide⟩ [1] rfl (by decide) rfl 65 rfl ?_
  refine ww_eq (ws' := [(h, .inr (2, [.ref q1, .ref q2, .long 0, .int 0, .long 0, .long 0, .int 0, .int 0, .int 0, .int 0])), (q1, .inl (Γ.2.2.1, 256, .inr (.inl (GF 0 (fun _ => 0) 256)))), (q2, .inl (Γ.2.2.1, 256, .inr (.inl (fun _ => 0))))]) rfl rfl rfl ?_
  refine ww_aload_n (i := 0) C dX4_init_65 rfl rfl 66 rfl ?_
  refine ww_get C fe_X4_15 dX4_init_66 0 rfl rfl 69 rfl ?_
  refine ww_bipush (v := 8) C dX4_init_69 (by decide) 71 rfl ?_
  refine ww_callS2v C (c_X4_fillWithCharts l Γ (b := 1) (by decide)) mi_X4_fillWithCharts st_X4_fillWithCharts ml_X4_42 dX4_init_71 (Nat.le_of_ble_eq_true rfl) (Nat.le_of_ble_eq_true rfl) (Nat.le_of_ble_eq_true rfl) ⟨by decide, by decide⟩ [2] rfl (by decide) rfl 74 rfl ?_
  refine ww_eq (ws' := [(h, .inr (2, [.ref q1, .ref q2, .long 0, .int 0, .long 0, .long 0, .int 0, .int 0, .int 0, .int 0])), (q1, .inl (Γ.2.2.1, 256, .inr (.inl (GF 0 (fun _ => 0) 256)))), (q2, .inl (Γ.2.2.1, 256, .inr (.inl (GF 1 (fun _ => 0) 256))))]) rfl rfl rfl ?_
  refine ww_lconst (v := 0) C dX4_init_74 (by decide) 75 rfl ?_
  refine ww_lstore_n (i := 1) C dX4_init_75 rfl (by decide) rfl 76 rfl ?_
  refine ww_iconst (v := 0) C dX4_init_76 (by decide) 77 rfl ?_
  refine ww_istore_n (i := 3) C dX4_init_77 rfl (by decide) rfl 78 rfl ?_
  refine ww_loop (fun n : Nat => 256 - n) (fun n => n ≤ 256) (fun _ => [(h, .inr (2, [.ref q1, .ref q2, .long 0, .int 0, .long 0, .long 0, .int 0, .int 0, .int 0, .int 0])), (q1, .inl (Γ.2.2.1, 256, .inr (.inl (GF 0 (fun _ => 0) 256)))), (q2, .inl (Γ.2.2.1, 256, .inr (.inl (GF 1 (fun _ => 0) 256))))]) (fun n => [some (.ref h), some (.long (s_orl (GF 0 (fun _ => 0) 256) n)), none, some (.int (nI n))]) (0 : Nat) (Nat.zero_le _) rfl rfl (fun n hn ih => ?_)
  try dsimp only at hn ih ⊢
  refine ww_iload_n (i := 3) C dX4_init_78 rfl rfl 79 rfl ?_
  refine ww_sipush (v := 256) C dX4_init_79 (by decide) 82 rfl ?_
  refine ww_icmp_ge C 100 dX4_init_82 (by decide) 85 rfl (fun h_82 => ?_) (fun h_82 => ?_)
  · skip
    obtain rfl : n = 256 := eqN (n := 256) h_82 hn (by decide)
    clear ih
    refine ww_aload_n (i := 0) C dX4_init_100 rfl rfl 101 rfl ?_
    refine ww_lload_n (i := 1) C dX4_init_101 rfl rfl 102 rfl ?_
    refine ww_ldc2 C cn_X4_46 dX4_init_102 105 rfl ?_
    refine ww_lxor C dX4_init_105 106 rfl ?_
    refine ww_putF C fe_X4_48 rfl hnm rfl dX4_init_106 0 rfl rfl rfl (Nat.le_of_ble_eq_true rfl) 109 rfl ?_
    refine ww_eq (ws' := [(h, .inr (2, [.ref q1, .ref q2, .long (s_orl (GF 0 (fun _ => 0) 256) 256 ^^^ -1), .int 0, .long 0, .long 0, .int 0, .int 0, .int 0, .int 0])), (q1, .inl (Γ.2.2.1, 256, .inr (.inl (GF 0 (fun _ => 0) 256)))), (q2, .inl (Γ.2.2.1, 256, .inr (.inl (GF 1 (fun _ => 0) 256))))]) rfl rfl rfl ?_
    exact ww_vreN C hr dX4_init_109 (q1, q2, (GF 0 (fun _ => 0) 256), (GF 1 (fun _ => 0) 256), s_orl (GF 0 (fun _ => 0) 256) 256 ^^^ -1) ⟨fun k hk => (GF_256 (b := 0) (f := fun _ => 0) rfl hk).trans (by rw [show k * 2 ^ (8 * 0) = k by omega]), fun k hk => (GF_256 (b := 1) (f := fun _ => 0) rfl hk).trans (by rw [show k * 2 ^ (8 * 1) = 256 * k by omega]), fun k hk => or_out (orl_in _ 256 k hk)⟩ rfl
  · skip
    have hlt : n < 256 := ltN (n := 256) h_82 (by decide) (by omega)
    refine ww_lload_n (i := 1) C dX4_init_85 rfl rfl 86 rfl ?_
    refine ww_aload_n (i := 0) C dX4_init_86 rfl rfl 87 rfl ?_
    refine ww_get C fe_X4_11 dX4_init_87 0 rfl rfl 90 rfl ?_
    refine ww_iload_n (i := 3) C dX4_init_90 rfl rfl 91 rfl ?_
    refine ww_lald C dX4_init_91 1 rfl (vp_in_nI (by omega) (by decide)) 92 rfl ?_
    rw [nI_clamp (show n < 2 ^ 31 by omega)]
    refine ww_lor C dX4_init_92 93 rfl ?_
    refine ww_lstore_n (i := 1) C dX4_init_93 rfl (by decide) rfl 94 rfl ?_
    refine ww_iinc (y := 1) C dX4_init_94 rfl (by decide) (by decide) rfl 97 rfl ?_
    refine ww_goto C 78 dX4_init_97 (by decide) ?_
    exact ww_eq rfl (by rw [nI_succ n]; rfl) rfl (ih (n + 1) (by omega) (by omega))
