def qsel (l : List (Nat × Nat)) (k : Nat) : Nat := (l.lookup k).getD 0

theorem c_X0_init (l : Launch) (Γ : Gm) {h : Nat} : Cn (α := Nat) l Γ yX0_init cX0_init 1 1 [.ref h] [(h, .inr (0, [.null, .int 0]))] 1 16 (fun x => True) (fun x => [(h, .inr (0, [.ref x, .int 0])), (x, .inl (Γ.2.1, 16, .inl (fun _ => 0)))]) := by
  refine Cn.of mi_X0_init [some (.ref h)] 0 rfl (Nat.le_of_ble_eq_true rfl) ?_
  intro p e s m args below meth c C hr hnm hZ
  refine ww_aload_n (i := 0) C dX0_init_0 rfl rfl 1 rfl ?_
  refine ww_obj C ml_X0_3 dX0_init_1 (by decide) (by decide) 4 rfl ?_
  refine ww_aload_n (i := 0) C dX0_init_4 rfl rfl 5 rfl ?_
  refine ww_bipush (v := 16) C dX0_init_5 (by decide) 7 rfl ?_
  refine ww_newai C 16 1 16 dX0_init_7 (by decide) (by decide) (by decide) rfl rfl (by decide) (by decide) 9 rfl (fun q1 => ?_)
  refine ww_putF C fe_X0_11 rfl hnm rfl dX0_init_9 0 rfl rfl rfl (Nat.le_of_ble_eq_true rfl) 12 rfl ?_
  refine ww_eq (ws' := [(h, .inr (0, [.ref q1, .int 0])), (q1, .inl (Γ.2.1, 16, .inl (fun _ => 0)))]) rfl rfl rfl ?_
  refine ww_aload_n (i := 0) C dX0_init_12 rfl rfl 13 rfl ?_
  refine ww_iconst (v := 0) C dX0_init_13 (by decide) 14 rfl ?_
  refine ww_put C fe_X0_15 rfl dX0_init_14 0 rfl rfl rfl (Nat.le_of_ble_eq_true rfl) 17 rfl ?_
  refine ww_eq (ws' := [(h, .inr (0, [.ref q1, .int 0])), (q1, .inl (Γ.2.1, 16, .inl (fun _ => 0)))]) rfl rfl rfl ?_
  exact ww_vreN C hr dX0_init_17 (q1) (trivial) rfl

theorem c_X1_init (l : Launch) (Γ : Gm) {h : Nat} : Cn (α := Nat × Nat × Nat × Nat) l Γ yX1_init cX1_init 1 1 [.ref h] [(h, .inr (1, [.null, .null, .null, .null, .int 0]))] 4 206 (fun x => True) (fun x => [(h, .inr (1, [.ref x.1, .ref x.2.1, .ref x.2.2.1, .ref x.2.2.2, .int 0])), (x.1, .inl (Γ.2.2.1, 100, .inr (.inl (fun _ => 0)))), (x.2.1, .inl (Γ.2.1, 100, .inl (fun _ => 0))), (x.2.2.1, .inl (Γ.2.1, 3, .inl (fun _ => 0))), (x.2.2.2, .inl (Γ.2.1, 3, .inl (fun _ => 0)))]) := by
  refine Cn.of mi_X1_init [some (.ref h)] 0 rfl (Nat.le_of_ble_eq_true rfl) ?_
  intro p e s m args below meth c C hr hnm hZ
  refine ww_aload_n (i := 0) C dX1_init_0 rfl rfl 1 rfl ?_
  refine ww_obj C ml_X1_3 dX1_init_1 (by decide) (by decide) 4 rfl ?_
  refine ww_aload_n (i := 0) C dX1_init_4 rfl rfl 5 rfl ?_
  refine ww_bipush (v := 100) C dX1_init_5 (by decide) 7 rfl ?_
  refine ww_newal C 100 1 100 dX1_init_7 (by decide) (by decide) (by decide) rfl rfl (by decide) (by decide) 9 rfl (fun q1 => ?_)
  refine ww_putF C fe_X1_11 rfl hnm rfl dX1_init_9 0 rfl rfl rfl (Nat.le_of_ble_eq_true rfl) 12 rfl ?_
  refine ww_eq (ws' := [(h, .inr (1, [.ref q1, .null, .null, .null, .int 0])), (q1, .inl (Γ.2.2.1, 100, .inr (.inl (fun _ => 0))))]) rfl rfl rfl ?_
  refine ww_aload_n (i := 0) C dX1_init_12 rfl rfl 13 rfl ?_
  refine ww_bipush (v := 100) C dX1_init_13 (by decide) 15 rfl ?_
  refine ww_newai C 100 2 200 dX1_init_15 (by decide) (by decide) (by decide) rfl rfl (by decide) (by decide) 17 rfl (fun q2 => ?_)
  refine ww_putF C fe_X1_15 rfl hnm rfl dX1_init_17 0 rfl rfl rfl (Nat.le_of_ble_eq_true rfl) 20 rfl ?_
  refine ww_eq (ws' := [(h, .inr (1, [.ref q1, .ref q2, .null, .null, .int 0])), (q1, .inl (Γ.2.2.1, 100, .inr (.inl (fun _ => 0)))), (q2, .inl (Γ.2.1, 100, .inl (fun _ => 0)))]) rfl rfl rfl ?_
  refine ww_aload_n (i := 0) C dX1_init_20 rfl rfl 21 rfl ?_
  refine ww_iconst (v := 3) C dX1_init_21 (by decide) 22 rfl ?_
  refine ww_newai C 3 3 203 dX1_init_22 (by decide) (by decide) (by decide) rfl rfl (by decide) (by decide) 24 rfl (fun q3 => ?_)
  refine ww_putF C fe_X1_19 rfl hnm rfl dX1_init_24 0 rfl rfl rfl (Nat.le_of_ble_eq_true rfl) 27 rfl ?_
  refine ww_eq (ws' := [(h, .inr (1, [.ref q1, .ref q2, .ref q3, .null, .int 0])), (q1, .inl (Γ.2.2.1, 100, .inr (.inl (fun _ => 0)))), (q2, .inl (Γ.2.1, 100, .inl (fun _ => 0))), (q3, .inl (Γ.2.1, 3, .inl (fun _ => 0)))]) rfl rfl rfl ?_
  refine ww_aload_n (i := 0) C dX1_init_27 rfl rfl 28 rfl ?_
  refine ww_iconst (v := 3) C dX1_init_28 (by decide) 29 rfl ?_
  refine ww_newai C 3 4 206 dX1_init_29 (by decide) (by decide) (by decide) rfl rfl (by decide) (by decide) 31 rfl (fun q4 => ?_)
  refine ww_putF C fe_X1_22 rfl hnm rfl dX1_init_31 0 rfl rfl rfl (Nat.le_of_ble_eq_true rfl) 34 rfl ?_
  refine ww_eq (ws' := [(h, .inr (1, [.ref q1, .ref q2, .ref q3, .ref q4, .int 0])), (q1, .inl (Γ.2.2.1, 100, .inr (.inl (fun _ => 0)))), (q2, .inl (Γ.2.1, 100, .inl (fun _ => 0))), (q3, .inl (Γ.2.1, 3, .inl (fun _ => 0))), (q4, .inl (Γ.2.1, 3, .inl (fun _ => 0)))]) rfl rfl rfl ?_
  refine ww_aload_n (i := 0) C dX1_init_34 rfl rfl 35 rfl ?_
  refine ww_iconst (v := 0) C dX1_init_35 (by decide) 36 rfl ?_
  refine ww_put C fe_X1_25 rfl dX1_init_36 0 rfl rfl rfl (Nat.le_of_ble_eq_true rfl) 39 rfl ?_
  refine ww_eq (ws' := [(h, .inr (1, [.ref q1, .ref q2, .ref q3, .ref q4, .int 0])), (q1, .inl (Γ.2.2.1, 100, .inr (.inl (fun _ => 0)))), (q2, .inl (Γ.2.1, 100, .inl (fun _ => 0))), (q3, .inl (Γ.2.1, 3, .inl (fun _ => 0))), (q4, .inl (Γ.2.1, 3, .inl (fun _ => 0)))]) rfl rfl rfl ?_
  exact ww_vreN C hr dX1_init_39 ((q1, q2, q3, q4)) (trivial) rfl

theorem c_X6_init (l : Launch) (Γ : Gm) {h : Nat} : Cn (α := Nat × Nat × Nat × Nat × Nat) l Γ yX6_init cX6_init 1 1 [.ref h] [(h, .inr (4, [.null, .null, .null, .null, .null, .int 0]))] 5 210 (fun x => True) (fun x => [(h, .inr (4, [.ref x.1, .ref x.2.1, .ref x.2.2.1, .ref x.2.2.2.1, .ref x.2.2.2.2, .int 0])), (x.1, .inl (Γ.2.1, 60, .inl (fun _ => 0))), (x.2.1, .inl (Γ.2.1, 60, .inl (fun _ => 0))), (x.2.2.1, .inl (Γ.2.1, 60, .inl (fun _ => 0))), (x.2.2.2.1, .inl (Γ.2.1, 15, .inl (fun _ => 0))), (x.2.2.2.2, .inl (Γ.2.1, 15, .inl (fun _ => 0)))]) := by
  refine Cn.of mi_X6_init [some (.ref h)] 0 rfl (Nat.le_of_ble_eq_true rfl) ?_
  intro p e s m args below meth c C hr hnm hZ
  refine ww_aload_n (i := 0) C dX6_init_0 rfl rfl 1 rfl ?_
  refine ww_obj C ml_X6_3 dX6_init_1 (by decide) (by decide) 4 rfl ?_
  refine ww_aload_n (i := 0) C dX6_init_4 rfl rfl 5 rfl ?_
  refine ww_bipush (v := 60) C dX6_init_5 (by decide) 7 rfl ?_
  refine ww_newai C 60 1 60 dX6_init_7 (by decide) (by decide) (by decide) rfl rfl (by decide) (by decide) 9 rfl (fun q1 => ?_)
  refine ww_putF C fe_X6_11 rfl hnm rfl dX6_init_9 0 rfl rfl rfl (Nat.le_of_ble_eq_true rfl) 12 rfl ?_
  refine ww_eq (ws' := [(h, .inr (4, [.ref q1, .null, .null, .null, .null, .int 0])), (q1, .inl (Γ.2.1, 60, .inl (fun _ => 0)))]) rfl rfl rfl ?_
  refine ww_aload_n (i := 0) C dX6_init_12 rfl rfl 13 rfl ?_
  refine ww_bipush (v := 60) C dX6_init_13 (by decide) 15 rfl ?_
  refine ww_newai C 60 2 120 dX6_init_15 (by decide) (by decide) (by decide) rfl rfl (by decide) (by decide) 17 rfl (fun q2 => ?_)
  refine ww_putF C fe_X6_15 rfl hnm rfl dX6_init_17 0 rfl rfl rfl (Nat.le_of_ble_eq_true rfl) 20 rfl ?_
  refine ww_eq (ws' := [(h, .inr (4, [.ref q1, .ref q2, .null, .null, .null, .int 0])), (q1, .inl (Γ.2.1, 60, .inl (fun _ => 0))), (q2, .inl (Γ.2.1, 60, .inl (fun _ => 0)))]) rfl rfl rfl ?_
  refine ww_aload_n (i := 0) C dX6_init_20 rfl rfl 21 rfl ?_
  refine ww_bipush (v := 60) C dX6_init_21 (by decide) 23 rfl ?_
  refine ww_newai C 60 3 180 dX6_init_23 (by decide) (by decide) (by decide) rfl rfl (by decide) (by decide) 25 rfl (fun q3 => ?_)
  refine ww_putF C fe_X6_18 rfl hnm rfl dX6_init_25 0 rfl rfl rfl (Nat.le_of_ble_eq_true rfl) 28 rfl ?_
  refine ww_eq (ws' := [(h, .inr (4, [.ref q1, .ref q2, .ref q3, .null, .null, .int 0])), (q1, .inl (Γ.2.1, 60, .inl (fun _ => 0))), (q2, .inl (Γ.2.1, 60, .inl (fun _ => 0))), (q3, .inl (Γ.2.1, 60, .inl (fun _ => 0)))]) rfl rfl rfl ?_
  refine ww_aload_n (i := 0) C dX6_init_28 rfl rfl 29 rfl ?_
  refine ww_bipush (v := 15) C dX6_init_29 (by decide) 31 rfl ?_
  refine ww_newai C 15 4 195 dX6_init_31 (by decide) (by decide) (by decide) rfl rfl (by decide) (by decide) 33 rfl (fun q4 => ?_)
  refine ww_putF C fe_X6_21 rfl hnm rfl dX6_init_33 0 rfl rfl rfl (Nat.le_of_ble_eq_true rfl) 36 rfl ?_
  refine ww_eq (ws' := [(h, .inr (4, [.ref q1, .ref q2, .ref q3, .ref q4, .null, .int 0])), (q1, .inl (Γ.2.1, 60, .inl (fun _ => 0))), (q2, .inl (Γ.2.1, 60, .inl (fun _ => 0))), (q3, .inl (Γ.2.1, 60, .inl (fun _ => 0))), (q4, .inl (Γ.2.1, 15, .inl (fun _ => 0)))]) rfl rfl rfl ?_
  refine ww_aload_n (i := 0) C dX6_init_36 rfl rfl 37 rfl ?_
  refine ww_bipush (v := 15) C dX6_init_37 (by decide) 39 rfl ?_
  refine ww_newai C 15 5 210 dX6_init_39 (by decide) (by decide) (by decide) rfl rfl (by decide) (by decide) 41 rfl (fun q5 => ?_)
  refine ww_putF C fe_X6_24 rfl hnm rfl dX6_init_41 0 rfl rfl rfl (Nat.le_of_ble_eq_true rfl) 44 rfl ?_
  refine ww_eq (ws' := [(h, .inr (4, [.ref q1, .ref q2, .ref q3, .ref q4, .ref q5, .int 0])), (q1, .inl (Γ.2.1, 60, .inl (fun _ => 0))), (q2, .inl (Γ.2.1, 60, .inl (fun _ => 0))), (q3, .inl (Γ.2.1, 60, .inl (fun _ => 0))), (q4, .inl (Γ.2.1, 15, .inl (fun _ => 0))), (q5, .inl (Γ.2.1, 15, .inl (fun _ => 0)))]) rfl rfl rfl ?_
  refine ww_aload_n (i := 0) C dX6_init_44 rfl rfl 45 rfl ?_
  refine ww_iconst (v := 0) C dX6_init_45 (by decide) 46 rfl ?_
  refine ww_put C fe_X6_27 rfl dX6_init_46 0 rfl rfl rfl (Nat.le_of_ble_eq_true rfl) 49 rfl ?_
  refine ww_eq (ws' := [(h, .inr (4, [.ref q1, .ref q2, .ref q3, .ref q4, .ref q5, .int 0])), (q1, .inl (Γ.2.1, 60, .inl (fun _ => 0))), (q2, .inl (Γ.2.1, 60, .inl (fun _ => 0))), (q3, .inl (Γ.2.1, 60, .inl (fun _ => 0))), (q4, .inl (Γ.2.1, 15, .inl (fun _ => 0))), (q5, .inl (Γ.2.1, 15, .inl (fun _ => 0)))]) rfl rfl rfl ?_
  exact ww_vreN C hr dX6_init_49 ((q1, q2, q3, q4, q5)) (trivial) rfl

theorem c_X7_init (l : Launch) (Γ : Gm) {h : Nat} : Cn (α := Nat) l Γ yX7_init cX7_init 1 1 [.ref h] [(h, .inr (5, [.null, .int 0, .int 0]))] 1 60 (fun x => True) (fun x => [(h, .inr (5, [.ref x, .int (-1), .int 0])), (x, .inl (Γ.2.1, 60, .inl (fun _ => 0)))]) := by
  refine Cn.of mi_X7_init [some (.ref h)] 0 rfl (Nat.le_of_ble_eq_true rfl) ?_
  intro p e s m args below meth c C hr hnm hZ
  refine ww_aload_n (i := 0) C dX7_init_0 rfl rfl 1 rfl ?_
  refine ww_obj C ml_X7_3 dX7_init_1 (by decide) (by decide) 4 rfl ?_
  refine ww_aload_n (i := 0) C dX7_init_4 rfl rfl 5 rfl ?_
  refine ww_bipush (v := 60) C dX7_init_5 (by decide) 7 rfl ?_
  refine ww_newai C 60 1 60 dX7_init_7 (by decide) (by decide) (by decide) rfl rfl (by decide) (by decide) 9 rfl (fun q1 => ?_)
  refine ww_putF C fe_X7_11 rfl hnm rfl dX7_init_9 0 rfl rfl rfl (Nat.le_of_ble_eq_true rfl) 12 rfl ?_
  refine ww_eq (ws' := [(h, .inr (5, [.ref q1, .int 0, .int 0])), (q1, .inl (Γ.2.1, 60, .inl (fun _ => 0)))]) rfl rfl rfl ?_
  refine ww_aload_n (i := 0) C dX7_init_12 rfl rfl 13 rfl ?_
  refine ww_iconst (v := (-1)) C dX7_init_13 (by decide) 14 rfl ?_
  refine ww_put C fe_X7_15 rfl dX7_init_14 0 rfl rfl rfl (Nat.le_of_ble_eq_true rfl) 17 rfl ?_
  refine ww_eq (ws' := [(h, .inr (5, [.ref q1, .int (-1), .int 0])), (q1, .inl (Γ.2.1, 60, .inl (fun _ => 0)))]) rfl rfl rfl ?_
  refine ww_aload_n (i := 0) C dX7_init_17 rfl rfl 18 rfl ?_
  refine ww_iconst (v := 0) C dX7_init_18 (by decide) 19 rfl ?_
  refine ww_put C fe_X7_19 rfl dX7_init_19 0 rfl rfl rfl (Nat.le_of_ble_eq_true rfl) 22 rfl ?_
  refine ww_eq (ws' := [(h, .inr (5, [.ref q1, .int (-1), .int 0])), (q1, .inl (Γ.2.1, 60, .inl (fun _ => 0)))]) rfl rfl rfl ?_
  exact ww_vreN C hr dX7_init_22 (q1) (trivial) rfl

theorem c_X8_init (l : Launch) (Γ : Gm) {h : Nat} : Cn (α := Nat) l Γ yX8_init cX8_init 1 1 [.ref h] [(h, .inr (6, [.null, .int 0]))] 1 400 (fun x => True) (fun x => [(h, .inr (6, [.ref x, .int 0])), (x, .inl (Γ.2.1, 400, .inl (fun _ => 0)))]) := by
  refine Cn.of mi_X8_init [some (.ref h)] 0 rfl (Nat.le_of_ble_eq_true rfl) ?_
  intro p e s m args below meth c C hr hnm hZ
  refine ww_aload_n (i := 0) C dX8_init_0 rfl rfl 1 rfl ?_
  refine ww_obj C ml_X8_1 dX8_init_1 (by decide) (by decide) 4 rfl ?_
  refine ww_aload_n (i := 0) C dX8_init_4 rfl rfl 5 rfl ?_
  refine ww_sipush (v := 400) C dX8_init_5 (by decide) 8 rfl ?_
  refine ww_newai C 400 1 400 dX8_init_8 (by decide) (by decide) (by decide) rfl rfl (by decide) (by decide) 10 rfl (fun q1 => ?_)
  refine ww_putF C fe_X8_9 rfl hnm rfl dX8_init_10 0 rfl rfl rfl (Nat.le_of_ble_eq_true rfl) 13 rfl ?_
  refine ww_eq (ws' := [(h, .inr (6, [.ref q1, .int 0])), (q1, .inl (Γ.2.1, 400, .inl (fun _ => 0)))]) rfl rfl rfl ?_
  refine ww_aload_n (i := 0) C dX8_init_13 rfl rfl 14 rfl ?_
  refine ww_iconst (v := 0) C dX8_init_14 (by decide) 15 rfl ?_
  refine ww_put C fe_X8_13 rfl dX8_init_15 0 rfl rfl rfl (Nat.le_of_ble_eq_true rfl) 18 rfl ?_
  refine ww_eq (ws' := [(h, .inr (6, [.ref q1, .int 0])), (q1, .inl (Γ.2.1, 400, .inl (fun _ => 0)))]) rfl rfl rfl ?_
  exact ww_vreN C hr dX8_init_18 (q1) (trivial) rfl

theorem c_X9_init (l : Launch) (Γ : Gm) {h : Nat} : Cn (α := Nat × Nat × Nat × Nat × Nat) l Γ yX9_init cX9_init 1 1 [.ref h] [(h, .inr (7, [.null, .null, .null, .null, .null, .int 0, .int 0]))] 5 2005 (fun x => True) (fun x => [(h, .inr (7, [.ref x.1, .ref x.2.1, .ref x.2.2.1, .ref x.2.2.2.1, .ref x.2.2.2.2, .int 0, .int 0])), (x.1, .inl (Γ.2.1, 401, .inl (fun _ => 0))), (x.2.1, .inl (Γ.2.1, 401, .inl (fun _ => 0))), (x.2.2.1, .inl (Γ.2.1, 401, .inl (fun _ => 0))), (x.2.2.2.1, .inl (Γ.2.1, 401, .inl (fun _ => 0))), (x.2.2.2.2, .inl (Γ.2.1, 401, .inl (fun _ => 0)))]) := by
  refine Cn.of mi_X9_init [some (.ref h)] 0 rfl (Nat.le_of_ble_eq_true rfl) ?_
  intro p e s m args below meth c C hr hnm hZ
  refine ww_aload_n (i := 0) C dX9_init_0 rfl rfl 1 rfl ?_
  refine ww_obj C ml_X9_3 dX9_init_1 (by decide) (by decide) 4 rfl ?_
  refine ww_aload_n (i := 0) C dX9_init_4 rfl rfl 5 rfl ?_
  refine ww_sipush (v := 401) C dX9_init_5 (by decide) 8 rfl ?_
  refine ww_newai C 401 1 401 dX9_init_8 (by decide) (by decide) (by decide) rfl rfl (by decide) (by decide) 10 rfl (fun q1 => ?_)
  refine ww_putF C fe_X9_11 rfl hnm rfl dX9_init_10 0 rfl rfl rfl (Nat.le_of_ble_eq_true rfl) 13 rfl ?_
  refine ww_eq (ws' := [(h, .inr (7, [.ref q1, .null, .null, .null, .null, .int 0, .int 0])), (q1, .inl (Γ.2.1, 401, .inl (fun _ => 0)))]) rfl rfl rfl ?_
  refine ww_aload_n (i := 0) C dX9_init_13 rfl rfl 14 rfl ?_
  refine ww_sipush (v := 401) C dX9_init_14 (by decide) 17 rfl ?_
  refine ww_newai C 401 2 802 dX9_init_17 (by decide) (by decide) (by decide) rfl rfl (by decide) (by decide) 19 rfl (fun q2 => ?_)
  refine ww_putF C fe_X9_15 rfl hnm rfl dX9_init_19 0 rfl rfl rfl (Nat.le_of_ble_eq_true rfl) 22 rfl ?_
  refine ww_eq (ws' := [(h, .inr (7, [.ref q1, .ref q2, .null, .null, .null, .int 0, .int 0])), (q1, .inl (Γ.2.1, 401, .inl (fun _ => 0))), (q2, .inl (Γ.2.1, 401, .inl (fun _ => 0)))]) rfl rfl rfl ?_
  refine ww_aload_n (i := 0) C dX9_init_22 rfl rfl 23 rfl ?_
  refine ww_sipush (v := 401) C dX9_init_23 (by decide) 26 rfl ?_
  refine ww_newai C 401 3 1203 dX9_init_26 (by decide) (by decide) (by decide) rfl rfl (by decide) (by decide) 28 rfl (fun q3 => ?_)
  refine ww_putF C fe_X9_18 rfl hnm rfl dX9_init_28 0 rfl rfl rfl (Nat.le_of_ble_eq_true rfl) 31 rfl ?_
  refine ww_eq (ws' := [(h, .inr (7, [.ref q1, .ref q2, .ref q3, .null, .null, .int 0, .int 0])), (q1, .inl (Γ.2.1, 401, .inl (fun _ => 0))), (q2, .inl (Γ.2.1, 401, .inl (fun _ => 0))), (q3, .inl (Γ.2.1, 401, .inl (fun _ => 0)))]) rfl rfl rfl ?_
  refine ww_aload_n (i := 0) C dX9_init_31 rfl rfl 32 rfl ?_
  refine ww_sipush (v := 401) C dX9_init_32 (by decide) 35 rfl ?_
  refine ww_newai C 401 4 1604 dX9_init_35 (by decide) (by decide) (by decide) rfl rfl (by decide) (by decide) 37 rfl (fun q4 => ?_)
  refine ww_putF C fe_X9_21 rfl hnm rfl dX9_init_37 0 rfl rfl rfl (Nat.le_of_ble_eq_true rfl) 40 rfl ?_
  refine ww_eq (ws' := [(h, .inr (7, [.ref q1, .ref q2, .ref q3, .ref q4, .null, .int 0, .int 0])), (q1, .inl (Γ.2.1, 401, .inl (fun _ => 0))), (q2, .inl (Γ.2.1, 401, .inl (fun _ => 0))), (q3, .inl (Γ.2.1, 401, .inl (fun _ => 0))), (q4, .inl (Γ.2.1, 401, .inl (fun _ => 0)))]) rfl rfl rfl ?_
  refine ww_aload_n (i := 0) C dX9_init_40 rfl rfl 41 rfl ?_
  refine ww_sipush (v := 401) C dX9_init_41 (by decide) 44 rfl ?_
  refine ww_newai C 401 5 2005 dX9_init_44 (by decide) (by decide) (by decide) rfl rfl (by decide) (by decide) 46 rfl (fun q5 => ?_)
  refine ww_putF C fe_X9_24 rfl hnm rfl dX9_init_46 0 rfl rfl rfl (Nat.le_of_ble_eq_true rfl) 49 rfl ?_
  refine ww_eq (ws' := [(h, .inr (7, [.ref q1, .ref q2, .ref q3, .ref q4, .ref q5, .int 0, .int 0])), (q1, .inl (Γ.2.1, 401, .inl (fun _ => 0))), (q2, .inl (Γ.2.1, 401, .inl (fun _ => 0))), (q3, .inl (Γ.2.1, 401, .inl (fun _ => 0))), (q4, .inl (Γ.2.1, 401, .inl (fun _ => 0))), (q5, .inl (Γ.2.1, 401, .inl (fun _ => 0)))]) rfl rfl rfl ?_
  refine ww_aload_n (i := 0) C dX9_init_49 rfl rfl 50 rfl ?_
  refine ww_iconst (v := 0) C dX9_init_50 (by decide) 51 rfl ?_
  refine ww_put C fe_X9_27 rfl dX9_init_51 0 rfl rfl rfl (Nat.le_of_ble_eq_true rfl) 54 rfl ?_
  refine ww_eq (ws' := [(h, .inr (7, [.ref q1, .ref q2, .ref q3, .ref q4, .ref q5, .int 0, .int 0])), (q1, .inl (Γ.2.1, 401, .inl (fun _ => 0))), (q2, .inl (Γ.2.1, 401, .inl (fun _ => 0))), (q3, .inl (Γ.2.1, 401, .inl (fun _ => 0))), (q4, .inl (Γ.2.1, 401, .inl (fun _ => 0))), (q5, .inl (Γ.2.1, 401, .inl (fun _ => 0)))]) rfl rfl rfl ?_
  refine ww_aload_n (i := 0) C dX9_init_54 rfl rfl 55 rfl ?_
  refine ww_iconst (v := 0) C dX9_init_55 (by decide) 56 rfl ?_
  refine ww_put C fe_X9_31 rfl dX9_init_56 0 rfl rfl rfl (Nat.le_of_ble_eq_true rfl) 59 rfl ?_
  refine ww_eq (ws' := [(h, .inr (7, [.ref q1, .ref q2, .ref q3, .ref q4, .ref q5, .int 0, .int 0])), (q1, .inl (Γ.2.1, 401, .inl (fun _ => 0))), (q2, .inl (Γ.2.1, 401, .inl (fun _ => 0))), (q3, .inl (Γ.2.1, 401, .inl (fun _ => 0))), (q4, .inl (Γ.2.1, 401, .inl (fun _ => 0))), (q5, .inl (Γ.2.1, 401, .inl (fun _ => 0)))]) rfl rfl rfl ?_
  exact ww_vreN C hr dX9_init_59 ((q1, q2, q3, q4, q5)) (trivial) rfl

theorem c_X5_init (l : Launch) (Γ : Gm) {h : Nat} : Cn (α := Nat × Nat × Nat × Nat × Nat × Nat) l Γ yX5_init cX5_init 1 2 [.ref h] [(h, .inr (3, [.null, .int 0, .int 0, .int 0, .int 0]))] 6 2012 (fun x => True) (fun x => [(h, .inr (3, [.ref x.1, .int 0, .int 0, .int 0, .int 0])), (x.1, .inr (7, [.ref x.2.1, .ref x.2.2.1, .ref x.2.2.2.1, .ref x.2.2.2.2.1, .ref x.2.2.2.2.2, .int 0, .int 0])), (x.2.1, .inl (Γ.2.1, 401, .inl (fun _ => 0))), (x.2.2.1, .inl (Γ.2.1, 401, .inl (fun _ => 0))), (x.2.2.2.1, .inl (Γ.2.1, 401, .inl (fun _ => 0))), (x.2.2.2.2.1, .inl (Γ.2.1, 401, .inl (fun _ => 0))), (x.2.2.2.2.2, .inl (Γ.2.1, 401, .inl (fun _ => 0)))]) := by
  refine Cn.of mi_X5_init [some (.ref h)] 0 rfl (Nat.le_of_ble_eq_true rfl) ?_
  intro p e s m args below meth c C hr hnm hZ
  refine ww_aload_n (i := 0) C dX5_init_0 rfl rfl 1 rfl ?_
  refine ww_obj C ml_X5_3 dX5_init_1 (by decide) (by decide) 4 rfl ?_
  refine ww_aload_n (i := 0) C dX5_init_4 rfl rfl 5 rfl ?_
  refine ww_new (ci := 7) C [.null, .null, .null, .null, .null, .int 0, .int 0] 1 7 kl_X5_9 ib_X9 in_X9 uw_X9 tyX9_ok rfl (by decide) dX5_init_5 rfl rfl (by decide) (by decide) 8 rfl (fun q1 => ?_)
  refine ww_dup C dX5_init_8 rfl 9 rfl ?_
  refine ww_initN C hZ (c_X9_init l Γ) mi_X9_init rfl im_X9_init hZ.2.2.2.1 dX5_init_9 (by decide) (by decide) (Nat.le_of_ble_eq_true rfl) 6 2012 rfl rfl (by decide) (by decide) 12 rfl (fun x9 hx9 => ?_)
  refine ww_putF C fe_X5_12 rfl hnm rfl dX5_init_12 0 rfl rfl rfl (Nat.le_of_ble_eq_true rfl) 15 rfl ?_
  refine ww_eq (ws' := [(h, .inr (3, [.ref q1, .int 0, .int 0, .int 0, .int 0])), (q1, .inr (7, [.ref x9.1, .ref x9.2.1, .ref x9.2.2.1, .ref x9.2.2.2.1, .ref x9.2.2.2.2, .int 0, .int 0])), (x9.1, .inl (Γ.2.1, 401, .inl (fun _ => 0))), (x9.2.1, .inl (Γ.2.1, 401, .inl (fun _ => 0))), (x9.2.2.1, .inl (Γ.2.1, 401, .inl (fun _ => 0))), (x9.2.2.2.1, .inl (Γ.2.1, 401, .inl (fun _ => 0))), (x9.2.2.2.2, .inl (Γ.2.1, 401, .inl (fun _ => 0)))]) rfl rfl rfl ?_
  refine ww_aload_n (i := 0) C dX5_init_15 rfl rfl 16 rfl ?_
  refine ww_iconst (v := 0) C dX5_init_16 (by decide) 17 rfl ?_
  refine ww_put C fe_X5_18 rfl dX5_init_17 0 rfl rfl rfl (Nat.le_of_ble_eq_true rfl) 20 rfl ?_
  refine ww_eq (ws' := [(h, .inr (3, [.ref q1, .int 0, .int 0, .int 0, .int 0])), (q1, .inr (7, [.ref x9.1, .ref x9.2.1, .ref x9.2.2.1, .ref x9.2.2.2.1, .ref x9.2.2.2.2, .int 0, .int 0])), (x9.1, .inl (Γ.2.1, 401, .inl (fun _ => 0))), (x9.2.1, .inl (Γ.2.1, 401, .inl (fun _ => 0))), (x9.2.2.1, .inl (Γ.2.1, 401, .inl (fun _ => 0))), (x9.2.2.2.1, .inl (Γ.2.1, 401, .inl (fun _ => 0))), (x9.2.2.2.2, .inl (Γ.2.1, 401, .inl (fun _ => 0)))]) rfl rfl rfl ?_
  refine ww_aload_n (i := 0) C dX5_init_20 rfl rfl 21 rfl ?_
  refine ww_iconst (v := 0) C dX5_init_21 (by decide) 22 rfl ?_
  refine ww_put C fe_X5_22 rfl dX5_init_22 0 rfl rfl rfl (Nat.le_of_ble_eq_true rfl) 25 rfl ?_
  refine ww_eq (ws' := [(h, .inr (3, [.ref q1, .int 0, .int 0, .int 0, .int 0])), (q1, .inr (7, [.ref x9.1, .ref x9.2.1, .ref x9.2.2.1, .ref x9.2.2.2.1, .ref x9.2.2.2.2, .int 0, .int 0])), (x9.1, .inl (Γ.2.1, 401, .inl (fun _ => 0))), (x9.2.1, .inl (Γ.2.1, 401, .inl (fun _ => 0))), (x9.2.2.1, .inl (Γ.2.1, 401, .inl (fun _ => 0))), (x9.2.2.2.1, .inl (Γ.2.1, 401, .inl (fun _ => 0))), (x9.2.2.2.2, .inl (Γ.2.1, 401, .inl (fun _ => 0)))]) rfl rfl rfl ?_
  refine ww_aload_n (i := 0) C dX5_init_25 rfl rfl 26 rfl ?_
  refine ww_iconst (v := 0) C dX5_init_26 (by decide) 27 rfl ?_
  refine ww_put C fe_X5_25 rfl dX5_init_27 0 rfl rfl rfl (Nat.le_of_ble_eq_true rfl) 30 rfl ?_
  refine ww_eq (ws' := [(h, .inr (3, [.ref q1, .int 0, .int 0, .int 0, .int 0])), (q1, .inr (7, [.ref x9.1, .ref x9.2.1, .ref x9.2.2.1, .ref x9.2.2.2.1, .ref x9.2.2.2.2, .int 0, .int 0])), (x9.1, .inl (Γ.2.1, 401, .inl (fun _ => 0))), (x9.2.1, .inl (Γ.2.1, 401, .inl (fun _ => 0))), (x9.2.2.1, .inl (Γ.2.1, 401, .inl (fun _ => 0))), (x9.2.2.2.1, .inl (Γ.2.1, 401, .inl (fun _ => 0))), (x9.2.2.2.2, .inl (Γ.2.1, 401, .inl (fun _ => 0)))]) rfl rfl rfl ?_
  refine ww_aload_n (i := 0) C dX5_init_30 rfl rfl 31 rfl ?_
  refine ww_iconst (v := 0) C dX5_init_31 (by decide) 32 rfl ?_
  refine ww_put C fe_X5_28 rfl dX5_init_32 0 rfl rfl rfl (Nat.le_of_ble_eq_true rfl) 35 rfl ?_
  refine ww_eq (ws' := [(h, .inr (3, [.ref q1, .int 0, .int 0, .int 0, .int 0])), (q1, .inr (7, [.ref x9.1, .ref x9.2.1, .ref x9.2.2.1, .ref x9.2.2.2.1, .ref x9.2.2.2.2, .int 0, .int 0])), (x9.1, .inl (Γ.2.1, 401, .inl (fun _ => 0))), (x9.2.1, .inl (Γ.2.1, 401, .inl (fun _ => 0))), (x9.2.2.1, .inl (Γ.2.1, 401, .inl (fun _ => 0))), (x9.2.2.2.1, .inl (Γ.2.1, 401, .inl (fun _ => 0))), (x9.2.2.2.2, .inl (Γ.2.1, 401, .inl (fun _ => 0)))]) rfl rfl rfl ?_
  exact ww_vreN C hr dX5_init_35 ((q1, x9.1, x9.2.1, x9.2.2.1, x9.2.2.2.1, x9.2.2.2.2)) (trivial) rfl

theorem c_X11_init (l : Launch) (Γ : Gm) {h : Nat} : Cn (α := (Nat → Nat) × (Nat → Int32)) l Γ yX11_init cX11_init 1 1 [.ref h] [(h, .inr (9, [.int 0, .int 0, .null, .null, .null, .int 0, .null, .int 0, .null, .null, .null, .int 0, .null, .null, .null, .null, .int 0, .int 0, .int 0, .int 0, .int 0, .int 0, .int 0, .int 0, .int 0, .int 0, .null, .null, .null, .int 0]))] 14 1548 (fun x => ∀ j, j < 8 → x.2 j = -1) (fun x => [wMo h x.1 (fun _ => 0), (x.1 2, .inl (Γ.2.1, 8, .inl x.2)), (x.1 3, .inl (Γ.2.1, 8, .inl (fun _ => 0))), (x.1 4, .inl (Γ.2.1, 480, .inl (fun _ => 0))), (x.1 6, .inl (Γ.2.1, 16, .inl (fun _ => 0))), (x.1 8, .inl (Γ.2.1, 15, .inl (fun _ => 0))), (x.1 9, .inl (Γ.2.1, 180, .inl (fun _ => 0))), (x.1 10, .inl (Γ.2.1, 15, .inl (fun _ => 0))), (x.1 12, .inl (Γ.2.1, 15, .inl (fun _ => 0))), (x.1 13, .inl (Γ.2.1, 180, .inl (fun _ => 0))), (x.1 14, .inl (Γ.2.1, 15, .inl (fun _ => 0))), (x.1 15, .inl (Γ.2.1, 400, .inl (fun _ => 0))), (x.1 26, .inl (Γ.2.1, 100, .inl (fun _ => 0))), (x.1 27, .inl (Γ.2.1, 100, .inl (fun _ => 0))), (x.1 28, .inl (Γ.2.1, 16, .inl (fun _ => 0)))]) := by
  refine Cn.of mi_X11_init [some (.ref h)] 0 rfl (Nat.le_of_ble_eq_true rfl) ?_
  intro p e s m args below meth c C hr hnm hZ
  refine ww_aload_n (i := 0) C dX11_init_0 rfl rfl 1 rfl ?_
  refine ww_obj C ml_X11_1 dX11_init_1 (by decide) (by decide) 4 rfl ?_
  refine ww_aload_n (i := 0) C dX11_init_4 rfl rfl 5 rfl ?_
  refine ww_bipush (v := 8) C dX11_init_5 (by decide) 7 rfl ?_
  refine ww_newai C 8 1 8 dX11_init_7 (by decide) (by decide) (by decide) rfl rfl (by decide) (by decide) 9 rfl (fun q1 => ?_)
  refine ww_dup C dX11_init_9 rfl 10 rfl ?_
  refine ww_iconst (v := 0) C dX11_init_10 (by decide) 11 rfl ?_
  refine ww_iconst (v := (-1)) C dX11_init_11 (by decide) 12 rfl ?_
  refine ww_iast C dX11_init_12 1 rfl (show vp_in (nI 0) 8 from vp_in_nI (by decide) (by decide)) 13 rfl ?_
  refine ww_eq (ws' := [(h, .inr (9, [.int 0, .int 0, .null, .null, .null, .int 0, .null, .int 0, .null, .null, .null, .int 0, .null, .null, .null, .null, .int 0, .int 0, .int 0, .int 0, .int 0, .int 0, .int 0, .int 0, .int 0, .int 0, .null, .null, .null, .int 0])), (q1, .inl (Γ.2.1, 8, .inl (upd (fun _ => 0) 0 (-1))))]) rfl rfl rfl ?_
  refine ww_dup C dX11_init_13 rfl 14 rfl ?_
  refine ww_iconst (v := 1) C dX11_init_14 (by decide) 15 rfl ?_
  refine ww_iconst (v := (-1)) C dX11_init_15 (by decide) 16 rfl ?_
  refine ww_iast C dX11_init_16 1 rfl (show vp_in (nI 1) 8 from vp_in_nI (by decide) (by decide)) 17 rfl ?_
  refine ww_eq (ws' := [(h, .inr (9, [.int 0, .int 0, .null, .null, .null, .int 0, .null, .int 0, .null, .null, .null, .int 0, .null, .null, .null, .null, .int 0, .int 0, .int 0, .int 0, .int 0, .int 0, .int 0, .int 0, .int 0, .int 0, .null, .null, .null, .int 0])), (q1, .inl (Γ.2.1, 8, .inl (upd (upd (fun _ => 0) 0 (-1)) 1 (-1))))]) rfl rfl rfl ?_
  refine ww_dup C dX11_init_17 rfl 18 rfl ?_
  refine ww_iconst (v := 2) C dX11_init_18 (by decide) 19 rfl ?_
  refine ww_iconst (v := (-1)) C dX11_init_19 (by decide) 20 rfl ?_
  refine ww_iast C dX11_init_20 1 rfl (show vp_in (nI 2) 8 from vp_in_nI (by decide) (by decide)) 21 rfl ?_
  refine ww_eq (ws' := [(h, .inr (9, [.int 0, .int 0, .null, .null, .null, .int 0, .null, .int 0, .null, .null, .null, .int 0, .null, .null, .null, .null, .int 0, .int 0, .int 0, .int 0, .int 0, .int 0, .int 0, .int 0, .int 0, .int 0, .null, .null, .null, .int 0])), (q1, .inl (Γ.2.1, 8, .inl (upd (upd (upd (fun _ => 0) 0 (-1)) 1 (-1)) 2 (-1))))]) rfl rfl rfl ?_
  refine ww_dup C dX11_init_21 rfl 22 rfl ?_
  refine ww_iconst (v := 3) C dX11_init_22 (by decide) 23 rfl ?_
  refine ww_iconst (v := (-1)) C dX11_init_23 (by decide) 24 rfl ?_
  refine ww_iast C dX11_init_24 1 rfl (show vp_in (nI 3) 8 from vp_in_nI (by decide) (by decide)) 25 rfl ?_
  refine ww_eq (ws' := [(h, .inr (9, [.int 0, .int 0, .null, .null, .null, .int 0, .null, .int 0, .null, .null, .null, .int 0, .null, .null, .null, .null, .int 0, .int 0, .int 0, .int 0, .int 0, .int 0, .int 0, .int 0, .int 0, .int 0, .null, .null, .null, .int 0])), (q1, .inl (Γ.2.1, 8, .inl (upd (upd (upd (upd (fun _ => 0) 0 (-1)) 1 (-1)) 2 (-1)) 3 (-1))))]) rfl rfl rfl ?_
  refine ww_dup C dX11_init_25 rfl 26 rfl ?_
  refine ww_iconst (v := 4) C dX11_init_26 (by decide) 27 rfl ?_
  refine ww_iconst (v := (-1)) C dX11_init_27 (by decide) 28 rfl ?_
  refine ww_iast C dX11_init_28 1 rfl (show vp_in (nI 4) 8 from vp_in_nI (by decide) (by decide)) 29 rfl ?_
  refine ww_eq (ws' := [(h, .inr (9, [.int 0, .int 0, .null, .null, .null, .int 0, .null, .int 0, .null, .null, .null, .int 0, .null, .null, .null, .null, .int 0, .int 0, .int 0, .int 0, .int 0, .int 0, .int 0, .int 0, .int 0, .int 0, .null, .null, .null, .int 0])), (q1, .inl (Γ.2.1, 8, .inl (upd (upd (upd (upd (upd (fun _ => 0) 0 (-1)) 1 (-1)) 2 (-1)) 3 (-1)) 4 (-1))))]) rfl rfl rfl ?_
  refine ww_dup C dX11_init_29 rfl 30 rfl ?_
  refine ww_iconst (v := 5) C dX11_init_30 (by decide) 31 rfl ?_
  refine ww_iconst (v := (-1)) C dX11_init_31 (by decide) 32 rfl ?_
  refine ww_iast C dX11_init_32 1 rfl (show vp_in (nI 5) 8 from vp_in_nI (by decide) (by decide)) 33 rfl ?_
  refine ww_eq (ws' := [(h, .inr (9, [.int 0, .int 0, .null, .null, .null, .int 0, .null, .int 0, .null, .null, .null, .int 0, .null, .null, .null, .null, .int 0, .int 0, .int 0, .int 0, .int 0, .int 0, .int 0, .int 0, .int 0, .int 0, .null, .null, .null, .int 0])), (q1, .inl (Γ.2.1, 8, .inl (upd (upd (upd (upd (upd (upd (fun _ => 0) 0 (-1)) 1 (-1)) 2 (-1)) 3 (-1)) 4 (-1)) 5 (-1))))]) rfl rfl rfl ?_
  refine ww_dup C dX11_init_33 rfl 34 rfl ?_
  refine ww_bipush (v := 6) C dX11_init_34 (by decide) 36 rfl ?_
  refine ww_iconst (v := (-1)) C dX11_init_36 (by decide) 37 rfl ?_
  refine ww_iast C dX11_init_37 1 rfl (show vp_in (nI 6) 8 from vp_in_nI (by decide) (by decide)) 38 rfl ?_
  refine ww_eq (ws' := [(h, .inr (9, [.int 0, .int 0, .null, .null, .null, .int 0, .null, .int 0, .null, .null, .null, .int 0, .null, .null, .null, .null, .int 0, .int 0, .int 0, .int 0, .int 0, .int 0, .int 0, .int 0, .int 0, .int 0, .null, .null, .null, .int 0])), (q1, .inl (Γ.2.1, 8, .inl (upd (upd (upd (upd (upd (upd (upd (fun _ => 0) 0 (-1)) 1 (-1)) 2 (-1)) 3 (-1)) 4 (-1)) 5 (-1)) 6 (-1))))]) rfl rfl rfl ?_
  refine ww_dup C dX11_init_38 rfl 39 rfl ?_
  refine ww_bipush (v := 7) C dX11_init_39 (by decide) 41 rfl ?_
  refine ww_iconst (v := (-1)) C dX11_init_41 (by decide) 42 rfl ?_
  refine ww_iast C dX11_init_42 1 rfl (show vp_in (nI 7) 8 from vp_in_nI (by decide) (by decide)) 43 rfl ?_
  refine ww_eq (ws' := [(h, .inr (9, [.int 0, .int 0, .null, .null, .null, .int 0, .null, .int 0, .null, .null, .null, .int 0, .null, .null, .null, .null, .int 0, .int 0, .int 0, .int 0, .int 0, .int 0, .int 0, .int 0, .int 0, .int 0, .null, .null, .null, .int 0])), (q1, .inl (Γ.2.1, 8, .inl (upd (upd (upd (upd (upd (upd (upd (upd (fun _ => 0) 0 (-1)) 1 (-1)) 2 (-1)) 3 (-1)) 4 (-1)) 5 (-1)) 6 (-1)) 7 (-1))))]) rfl rfl rfl ?_
  refine ww_putF C fe_X11_7 rfl hnm rfl dX11_init_43 0 rfl rfl rfl (Nat.le_of_ble_eq_true rfl) 46 rfl ?_
  refine ww_eq (ws' := [(h, .inr (9, [.int 0, .int 0, .ref q1, .null, .null, .int 0, .null, .int 0, .null, .null, .null, .int 0, .null, .null, .null, .null, .int 0, .int 0, .int 0, .int 0, .int 0, .int 0, .int 0, .int 0, .int 0, .int 0, .null, .null, .null, .int 0])), (q1, .inl (Γ.2.1, 8, .inl (upd (upd (upd (upd (upd (upd (upd (upd (fun _ => 0) 0 (-1)) 1 (-1)) 2 (-1)) 3 (-1)) 4 (-1)) 5 (-1)) 6 (-1)) 7 (-1))))]) rfl rfl rfl ?_
  refine ww_aload_n (i := 0) C dX11_init_46 rfl rfl 47 rfl ?_
  refine ww_bipush (v := 8) C dX11_init_47 (by decide) 49 rfl ?_
  refine ww_newai C 8 2 16 dX11_init_49 (by decide) (by decide) (by decide) rfl rfl (by decide) (by decide) 51 rfl (fun q2 => ?_)
  refine ww_putF C fe_X11_13 rfl hnm rfl dX11_init_51 0 rfl rfl rfl (Nat.le_of_ble_eq_true rfl) 54 rfl ?_
  refine ww_eq (ws' := [(h, .inr (9, [.int 0, .int 0, .ref q1, .ref q2, .null, .int 0, .null, .int 0, .null, .null, .null, .int 0, .null, .null, .null, .null, .int 0, .int 0, .int 0, .int 0, .int 0, .int 0, .int 0, .int 0, .int 0, .int 0, .null, .null, .null, .int 0])), (q1, .inl (Γ.2.1, 8, .inl (upd (upd (upd (upd (upd (upd (upd (upd (fun _ => 0) 0 (-1)) 1 (-1)) 2 (-1)) 3 (-1)) 4 (-1)) 5 (-1)) 6 (-1)) 7 (-1)))), (q2, .inl (Γ.2.1, 8, .inl (fun _ => 0)))]) rfl rfl rfl ?_
  refine ww_aload_n (i := 0) C dX11_init_54 rfl rfl 55 rfl ?_
  refine ww_sipush (v := 480) C dX11_init_55 (by decide) 58 rfl ?_
  refine ww_newai C 480 3 496 dX11_init_58 (by decide) (by decide) (by decide) rfl rfl (by decide) (by decide) 60 rfl (fun q3 => ?_)
  refine ww_putF C fe_X11_16 rfl hnm rfl dX11_init_60 0 rfl rfl rfl (Nat.le_of_ble_eq_true rfl) 63 rfl ?_
  refine ww_eq (ws' := [(h, .inr (9, [.int 0, .int 0, .ref q1, .ref q2, .ref q3, .int 0, .null, .int 0, .null, .null, .null, .int 0, .null, .null, .null, .null, .int 0, .int 0, .int 0, .int 0, .int 0, .int 0, .int 0, .int 0, .int 0, .int 0, .null, .null, .null, .int 0])), (q1, .inl (Γ.2.1, 8, .inl (upd (upd (upd (upd (upd (upd (upd (upd (fun _ => 0) 0 (-1)) 1 (-1)) 2 (-1)) 3 (-1)) 4 (-1)) 5 (-1)) 6 (-1)) 7 (-1)))), (q2, .inl (Γ.2.1, 8, .inl (fun _ => 0))), (q3, .inl (Γ.2.1, 480, .inl (fun _ => 0)))]) rfl rfl rfl ?_
  refine ww_aload_n (i := 0) C dX11_init_63 rfl rfl 64 rfl ?_
  refine ww_bipush (v := 16) C dX11_init_64 (by decide) 66 rfl ?_
  refine ww_newai C 16 4 512 dX11_init_66 (by decide) (by decide) (by decide) rfl rfl (by decide) (by decide) 68 rfl (fun q4 => ?_)
  refine ww_putF C fe_X11_19 rfl hnm rfl dX11_init_68 0 rfl rfl rfl (Nat.le_of_ble_eq_true rfl) 71 rfl ?_
  refine ww_eq (ws' := [(h, .inr (9, [.int 0, .int 0, .ref q1, .ref q2, .ref q3, .int 0, .ref q4, .int 0, .null, .null, .null, .int 0, .null, .null, .null, .null, .int 0, .int 0, .int 0, .int 0, .int 0, .int 0, .int 0, .int 0, .int 0, .int 0, .null, .null, .null, .int 0])), (q1, .inl (Γ.2.1, 8, .inl (upd (upd (upd (upd (upd (upd (upd (upd (fun _ => 0) 0 (-1)) 1 (-1)) 2 (-1)) 3 (-1)) 4 (-1)) 5 (-1)) 6 (-1)) 7 (-1)))), (q2, .inl (Γ.2.1, 8, .inl (fun _ => 0))), (q3, .inl (Γ.2.1, 480, .inl (fun _ => 0))), (q4, .inl (Γ.2.1, 16, .inl (fun _ => 0)))]) rfl rfl rfl ?_
  refine ww_aload_n (i := 0) C dX11_init_71 rfl rfl 72 rfl ?_
  refine ww_bipush (v := 15) C dX11_init_72 (by decide) 74 rfl ?_
  refine ww_newai C 15 5 527 dX11_init_74 (by decide) (by decide) (by decide) rfl rfl (by decide) (by decide) 76 rfl (fun q5 => ?_)
  refine ww_putF C fe_X11_22 rfl hnm rfl dX11_init_76 0 rfl rfl rfl (Nat.le_of_ble_eq_true rfl) 79 rfl ?_
  refine ww_eq (ws' := [(h, .inr (9, [.int 0, .int 0, .ref q1, .ref q2, .ref q3, .int 0, .ref q4, .int 0, .ref q5, .null, .null, .int 0, .null, .null, .null, .null, .int 0, .int 0, .int 0, .int 0, .int 0, .int 0, .int 0, .int 0, .int 0, .int 0, .null, .null, .null, .int 0])), (q1, .inl (Γ.2.1, 8, .inl (upd (upd (upd (upd (upd (upd (upd (upd (fun _ => 0) 0 (-1)) 1 (-1)) 2 (-1)) 3 (-1)) 4 (-1)) 5 (-1)) 6 (-1)) 7 (-1)))), (q2, .inl (Γ.2.1, 8, .inl (fun _ => 0))), (q3, .inl (Γ.2.1, 480, .inl (fun _ => 0))), (q4, .inl (Γ.2.1, 16, .inl (fun _ => 0))), (q5, .inl (Γ.2.1, 15, .inl (fun _ => 0)))]) rfl rfl rfl ?_
  refine ww_aload_n (i := 0) C dX11_init_79 rfl rfl 80 rfl ?_
  refine ww_sipush (v := 180) C dX11_init_80 (by decide) 83 rfl ?_
  refine ww_newai C 180 6 707 dX11_init_83 (by decide) (by decide) (by decide) rfl rfl (by decide) (by decide) 85 rfl (fun q6 => ?_)
  refine ww_putF C fe_X11_25 rfl hnm rfl dX11_init_85 0 rfl rfl rfl (Nat.le_of_ble_eq_true rfl) 88 rfl ?_
  refine ww_eq (ws' := [(h, .inr (9, [.int 0, .int 0, .ref q1, .ref q2, .ref q3, .int 0, .ref q4, .int 0, .ref q5, .ref q6, .null, .int 0, .null, .null, .null, .null, .int 0, .int 0, .int 0, .int 0, .int 0, .int 0, .int 0, .int 0, .int 0, .int 0, .null, .null, .null, .int 0])), (q1, .inl (Γ.2.1, 8, .inl (upd (upd (upd (upd (upd (upd (upd (upd (fun _ => 0) 0 (-1)) 1 (-1)) 2 (-1)) 3 (-1)) 4 (-1)) 5 (-1)) 6 (-1)) 7 (-1)))), (q2, .inl (Γ.2.1, 8, .inl (fun _ => 0))), (q3, .inl (Γ.2.1, 480, .inl (fun _ => 0))), (q4, .inl (Γ.2.1, 16, .inl (fun _ => 0))), (q5, .inl (Γ.2.1, 15, .inl (fun _ => 0))), (q6, .inl (Γ.2.1, 180, .inl (fun _ => 0)))]) rfl rfl rfl ?_
  refine ww_aload_n (i := 0) C dX11_init_88 rfl rfl 89 rfl ?_
  refine ww_bipush (v := 15) C dX11_init_89 (by decide) 91 rfl ?_
  refine ww_newai C 15 7 722 dX11_init_91 (by decide) (by decide) (by decide) rfl rfl (by decide) (by decide) 93 rfl (fun q7 => ?_)
  refine ww_putF C fe_X11_28 rfl hnm rfl dX11_init_93 0 rfl rfl rfl (Nat.le_of_ble_eq_true rfl) 96 rfl ?_
  refine ww_eq (ws' := [(h, .inr (9, [.int 0, .int 0, .ref q1, .ref q2, .ref q3, .int 0, .ref q4, .int 0, .ref q5, .ref q6, .ref q7, .int 0, .null, .null, .null, .null, .int 0, .int 0, .int 0, .int 0, .int 0, .int 0, .int 0, .int 0, .int 0, .int 0, .null, .null, .null, .int 0])), (q1, .inl (Γ.2.1, 8, .inl (upd (upd (upd (upd (upd (upd (upd (upd (fun _ => 0) 0 (-1)) 1 (-1)) 2 (-1)) 3 (-1)) 4 (-1)) 5 (-1)) 6 (-1)) 7 (-1)))), (q2, .inl (Γ.2.1, 8, .inl (fun _ => 0))), (q3, .inl (Γ.2.1, 480, .inl (fun _ => 0))), (q4, .inl (Γ.2.1, 16, .inl (fun _ => 0))), (q5, .inl (Γ.2.1, 15, .inl (fun _ => 0))), (q6, .inl (Γ.2.1, 180, .inl (fun _ => 0))), (q7, .inl (Γ.2.1, 15, .inl (fun _ => 0)))]) rfl rfl rfl ?_
  refine ww_aload_n (i := 0) C dX11_init_96 rfl rfl 97 rfl ?_
  refine ww_bipush (v := 15) C dX11_init_97 (by decide) 99 rfl ?_
  refine ww_newai C 15 8 737 dX11_init_99 (by decide) (by decide) (by decide) rfl rfl (by decide) (by decide) 101 rfl (fun q8 => ?_)
  refine ww_putF C fe_X11_31 rfl hnm rfl dX11_init_101 0 rfl rfl rfl (Nat.le_of_ble_eq_true rfl) 104 rfl ?_
  refine ww_eq (ws' := [(h, .inr (9, [.int 0, .int 0, .ref q1, .ref q2, .ref q3, .int 0, .ref q4, .int 0, .ref q5, .ref q6, .ref q7, .int 0, .ref q8, .null, .null, .null, .int 0, .int 0, .int 0, .int 0, .int 0, .int 0, .int 0, .int 0, .int 0, .int 0, .null, .null, .null, .int 0])), (q1, .inl (Γ.2.1, 8, .inl (upd (upd (upd (upd (upd (upd (upd (upd (fun _ => 0) 0 (-1)) 1 (-1)) 2 (-1)) 3 (-1)) 4 (-1)) 5 (-1)) 6 (-1)) 7 (-1)))), (q2, .inl (Γ.2.1, 8, .inl (fun _ => 0))), (q3, .inl (Γ.2.1, 480, .inl (fun _ => 0))), (q4, .inl (Γ.2.1, 16, .inl (fun _ => 0))), (q5, .inl (Γ.2.1, 15, .inl (fun _ => 0))), (q6, .inl (Γ.2.1, 180, .inl (fun _ => 0))), (q7, .inl (Γ.2.1, 15, .inl (fun _ => 0))), (q8, .inl (Γ.2.1, 15, .inl (fun _ => 0)))]) rfl rfl rfl ?_
  refine ww_aload_n (i := 0) C dX11_init_104 rfl rfl 105 rfl ?_
  refine ww_sipush (v := 180) C dX11_init_105 (by decide) 108 rfl ?_
  refine ww_newai C 180 9 917 dX11_init_108 (by decide) (by decide) (by decide) rfl rfl (by decide) (by decide) 110 rfl (fun q9 => ?_)
  refine ww_putF C fe_X11_34 rfl hnm rfl dX11_init_110 0 rfl rfl rfl (Nat.le_of_ble_eq_true rfl) 113 rfl ?_
  refine ww_eq (ws' := [(h, .inr (9, [.int 0, .int 0, .ref q1, .ref q2, .ref q3, .int 0, .ref q4, .int 0, .ref q5, .ref q6, .ref q7, .int 0, .ref q8, .ref q9, .null, .null, .int 0, .int 0, .int 0, .int 0, .int 0, .int 0, .int 0, .int 0, .int 0, .int 0, .null, .null, .null, .int 0])), (q1, .inl (Γ.2.1, 8, .inl (upd (upd (upd (upd (upd (upd (upd (upd (fun _ => 0) 0 (-1)) 1 (-1)) 2 (-1)) 3 (-1)) 4 (-1)) 5 (-1)) 6 (-1)) 7 (-1)))), (q2, .inl (Γ.2.1, 8, .inl (fun _ => 0))), (q3, .inl (Γ.2.1, 480, .inl (fun _ => 0))), (q4, .inl (Γ.2.1, 16, .inl (fun _ => 0))), (q5, .inl (Γ.2.1, 15, .inl (fun _ => 0))), (q6, .inl (Γ.2.1, 180, .inl (fun _ => 0))), (q7, .inl (Γ.2.1, 15, .inl (fun _ => 0))), (q8, .inl (Γ.2.1, 15, .inl (fun _ => 0))), (q9, .inl (Γ.2.1, 180, .inl (fun _ => 0)))]) rfl rfl rfl ?_
  refine ww_aload_n (i := 0) C dX11_init_113 rfl rfl 114 rfl ?_
  refine ww_bipush (v := 15) C dX11_init_114 (by decide) 116 rfl ?_
  refine ww_newai C 15 10 932 dX11_init_116 (by decide) (by decide) (by decide) rfl rfl (by decide) (by decide) 118 rfl (fun q10 => ?_)
  refine ww_putF C fe_X11_37 rfl hnm rfl dX11_init_118 0 rfl rfl rfl (Nat.le_of_ble_eq_true rfl) 121 rfl ?_
  refine ww_eq (ws' := [(h, .inr (9, [.int 0, .int 0, .ref q1, .ref q2, .ref q3, .int 0, .ref q4, .int 0, .ref q5, .ref q6, .ref q7, .int 0, .ref q8, .ref q9, .ref q10, .null, .int 0, .int 0, .int 0, .int 0, .int 0, .int 0, .int 0, .int 0, .int 0, .int 0, .null, .null, .null, .int 0])), (q1, .inl (Γ.2.1, 8, .inl (upd (upd (upd (upd (upd (upd (upd (upd (fun _ => 0) 0 (-1)) 1 (-1)) 2 (-1)) 3 (-1)) 4 (-1)) 5 (-1)) 6 (-1)) 7 (-1)))), (q2, .inl (Γ.2.1, 8, .inl (fun _ => 0))), (q3, .inl (Γ.2.1, 480, .inl (fun _ => 0))), (q4, .inl (Γ.2.1, 16, .inl (fun _ => 0))), (q5, .inl (Γ.2.1, 15, .inl (fun _ => 0))), (q6, .inl (Γ.2.1, 180, .inl (fun _ => 0))), (q7, .inl (Γ.2.1, 15, .inl (fun _ => 0))), (q8, .inl (Γ.2.1, 15, .inl (fun _ => 0))), (q9, .inl (Γ.2.1, 180, .inl (fun _ => 0))), (q10, .inl (Γ.2.1, 15, .inl (fun _ => 0)))]) rfl rfl rfl ?_
  refine ww_aload_n (i := 0) C dX11_init_121 rfl rfl 122 rfl ?_
  refine ww_sipush (v := 400) C dX11_init_122 (by decide) 125 rfl ?_
  refine ww_newai C 400 11 1332 dX11_init_125 (by decide) (by decide) (by decide) rfl rfl (by decide) (by decide) 127 rfl (fun q11 => ?_)
  refine ww_putF C fe_X11_40 rfl hnm rfl dX11_init_127 0 rfl rfl rfl (Nat.le_of_ble_eq_true rfl) 130 rfl ?_
  refine ww_eq (ws' := [(h, .inr (9, [.int 0, .int 0, .ref q1, .ref q2, .ref q3, .int 0, .ref q4, .int 0, .ref q5, .ref q6, .ref q7, .int 0, .ref q8, .ref q9, .ref q10, .ref q11, .int 0, .int 0, .int 0, .int 0, .int 0, .int 0, .int 0, .int 0, .int 0, .int 0, .null, .null, .null, .int 0])), (q1, .inl (Γ.2.1, 8, .inl (upd (upd (upd (upd (upd (upd (upd (upd (fun _ => 0) 0 (-1)) 1 (-1)) 2 (-1)) 3 (-1)) 4 (-1)) 5 (-1)) 6 (-1)) 7 (-1)))), (q2, .inl (Γ.2.1, 8, .inl (fun _ => 0))), (q3, .inl (Γ.2.1, 480, .inl (fun _ => 0))), (q4, .inl (Γ.2.1, 16, .inl (fun _ => 0))), (q5, .inl (Γ.2.1, 15, .inl (fun _ => 0))), (q6, .inl (Γ.2.1, 180, .inl (fun _ => 0))), (q7, .inl (Γ.2.1, 15, .inl (fun _ => 0))), (q8, .inl (Γ.2.1, 15, .inl (fun _ => 0))), (q9, .inl (Γ.2.1, 180, .inl (fun _ => 0))), (q10, .inl (Γ.2.1, 15, .inl (fun _ => 0))), (q11, .inl (Γ.2.1, 400, .inl (fun _ => 0)))]) rfl rfl rfl ?_
  refine ww_aload_n (i := 0) C dX11_init_130 rfl rfl 131 rfl ?_
  refine ww_bipush (v := 100) C dX11_init_131 (by decide) 133 rfl ?_
  refine ww_newai C 100 12 1432 dX11_init_133 (by decide) (by decide) (by decide) rfl rfl (by decide) (by decide) 135 rfl (fun q12 => ?_)
  refine ww_putF C fe_X11_43 rfl hnm rfl dX11_init_135 0 rfl rfl rfl (Nat.le_of_ble_eq_true rfl) 138 rfl ?_
  refine ww_eq (ws' := [(h, .inr (9, [.int 0, .int 0, .ref q1, .ref q2, .ref q3, .int 0, .ref q4, .int 0, .ref q5, .ref q6, .ref q7, .int 0, .ref q8, .ref q9, .ref q10, .ref q11, .int 0, .int 0, .int 0, .int 0, .int 0, .int 0, .int 0, .int 0, .int 0, .int 0, .ref q12, .null, .null, .int 0])), (q1, .inl (Γ.2.1, 8, .inl (upd (upd (upd (upd (upd (upd (upd (upd (fun _ => 0) 0 (-1)) 1 (-1)) 2 (-1)) 3 (-1)) 4 (-1)) 5 (-1)) 6 (-1)) 7 (-1)))), (q2, .inl (Γ.2.1, 8, .inl (fun _ => 0))), (q3, .inl (Γ.2.1, 480, .inl (fun _ => 0))), (q4, .inl (Γ.2.1, 16, .inl (fun _ => 0))), (q5, .inl (Γ.2.1, 15, .inl (fun _ => 0))), (q6, .inl (Γ.2.1, 180, .inl (fun _ => 0))), (q7, .inl (Γ.2.1, 15, .inl (fun _ => 0))), (q8, .inl (Γ.2.1, 15, .inl (fun _ => 0))), (q9, .inl (Γ.2.1, 180, .inl (fun _ => 0))), (q10, .inl (Γ.2.1, 15, .inl (fun _ => 0))), (q11, .inl (Γ.2.1, 400, .inl (fun _ => 0))), (q12, .inl (Γ.2.1, 100, .inl (fun _ => 0)))]) rfl rfl rfl ?_
  refine ww_aload_n (i := 0) C dX11_init_138 rfl rfl 139 rfl ?_
  refine ww_bipush (v := 100) C dX11_init_139 (by decide) 141 rfl ?_
  refine ww_newai C 100 13 1532 dX11_init_141 (by decide) (by decide) (by decide) rfl rfl (by decide) (by decide) 143 rfl (fun q13 => ?_)
  refine ww_putF C fe_X11_46 rfl hnm rfl dX11_init_143 0 rfl rfl rfl (Nat.le_of_ble_eq_true rfl) 146 rfl ?_
  refine ww_eq (ws' := [(h, .inr (9, [.int 0, .int 0, .ref q1, .ref q2, .ref q3, .int 0, .ref q4, .int 0, .ref q5, .ref q6, .ref q7, .int 0, .ref q8, .ref q9, .ref q10, .ref q11, .int 0, .int 0, .int 0, .int 0, .int 0, .int 0, .int 0, .int 0, .int 0, .int 0, .ref q12, .ref q13, .null, .int 0])), (q1, .inl (Γ.2.1, 8, .inl (upd (upd (upd (upd (upd (upd (upd (upd (fun _ => 0) 0 (-1)) 1 (-1)) 2 (-1)) 3 (-1)) 4 (-1)) 5 (-1)) 6 (-1)) 7 (-1)))), (q2, .inl (Γ.2.1, 8, .inl (fun _ => 0))), (q3, .inl (Γ.2.1, 480, .inl (fun _ => 0))), (q4, .inl (Γ.2.1, 16, .inl (fun _ => 0))), (q5, .inl (Γ.2.1, 15, .inl (fun _ => 0))), (q6, .inl (Γ.2.1, 180, .inl (fun _ => 0))), (q7, .inl (Γ.2.1, 15, .inl (fun _ => 0))), (q8, .inl (Γ.2.1, 15, .inl (fun _ => 0))), (q9, .inl (Γ.2.1, 180, .inl (fun _ => 0))), (q10, .inl (Γ.2.1, 15, .inl (fun _ => 0))), (q11, .inl (Γ.2.1, 400, .inl (fun _ => 0))), (q12, .inl (Γ.2.1, 100, .inl (fun _ => 0))), (q13, .inl (Γ.2.1, 100, .inl (fun _ => 0)))]) rfl rfl rfl ?_
  refine ww_aload_n (i := 0) C dX11_init_146 rfl rfl 147 rfl ?_
  refine ww_bipush (v := 16) C dX11_init_147 (by decide) 149 rfl ?_
  refine ww_newai C 16 14 1548 dX11_init_149 (by decide) (by decide) (by decide) rfl rfl (by decide) (by decide) 151 rfl (fun q14 => ?_)
  refine ww_putF C fe_X11_49 rfl hnm rfl dX11_init_151 0 rfl rfl rfl (Nat.le_of_ble_eq_true rfl) 154 rfl ?_
  refine ww_eq (ws' := [(h, .inr (9, [.int 0, .int 0, .ref q1, .ref q2, .ref q3, .int 0, .ref q4, .int 0, .ref q5, .ref q6, .ref q7, .int 0, .ref q8, .ref q9, .ref q10, .ref q11, .int 0, .int 0, .int 0, .int 0, .int 0, .int 0, .int 0, .int 0, .int 0, .int 0, .ref q12, .ref q13, .ref q14, .int 0])), (q1, .inl (Γ.2.1, 8, .inl (upd (upd (upd (upd (upd (upd (upd (upd (fun _ => 0) 0 (-1)) 1 (-1)) 2 (-1)) 3 (-1)) 4 (-1)) 5 (-1)) 6 (-1)) 7 (-1)))), (q2, .inl (Γ.2.1, 8, .inl (fun _ => 0))), (q3, .inl (Γ.2.1, 480, .inl (fun _ => 0))), (q4, .inl (Γ.2.1, 16, .inl (fun _ => 0))), (q5, .inl (Γ.2.1, 15, .inl (fun _ => 0))), (q6, .inl (Γ.2.1, 180, .inl (fun _ => 0))), (q7, .inl (Γ.2.1, 15, .inl (fun _ => 0))), (q8, .inl (Γ.2.1, 15, .inl (fun _ => 0))), (q9, .inl (Γ.2.1, 180, .inl (fun _ => 0))), (q10, .inl (Γ.2.1, 15, .inl (fun _ => 0))), (q11, .inl (Γ.2.1, 400, .inl (fun _ => 0))), (q12, .inl (Γ.2.1, 100, .inl (fun _ => 0))), (q13, .inl (Γ.2.1, 100, .inl (fun _ => 0))), (q14, .inl (Γ.2.1, 16, .inl (fun _ => 0)))]) rfl rfl rfl ?_
  exact ww_vreN C hr dX11_init_154 ((qsel [(2, q1), (3, q2), (4, q3), (6, q4), (8, q5), (9, q6), (10, q7), (12, q8), (13, q9), (14, q10), (15, q11), (26, q12), (27, q13), (28, q14)], upd (upd (upd (upd (upd (upd (upd (upd (fun _ => 0) 0 (-1)) 1 (-1)) 2 (-1)) 3 (-1)) 4 (-1)) 5 (-1)) 6 (-1)) 7 (-1))) (by intro j hj; rcases (show j = 0 ∨ j = 1 ∨ j = 2 ∨ j = 3 ∨ j = 4 ∨ j = 5 ∨ j = 6 ∨ j = 7 by omega) with rfl | rfl | rfl | rfl | rfl | rfl | rfl | rfl <;> rfl) rfl
