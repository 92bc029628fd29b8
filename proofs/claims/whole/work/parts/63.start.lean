theorem WX_ln {Γ : Gm} {hx : Nat} {a : Nat → Nat} {sh : Nat → Nat} {it : Nat → Nat} {f : Nat → Option Nat} {lw : Nat → Int64} {up : Nat → Int64} {ua : Int64} {code : Int32} {mk : Int64} {lfa : Int32} {lfi : Int32} {lk : Int32} {dr : Int64} {un : Int64} {ms : Ms} {u : Nat} {tb : Nat → Int32} {nx : Nat} {RI : Nat → Int32} {T : Nat} {uT : Nat} {TA : Nat → Nat → Int32} {z : Nat} {cs : Nat → Int64} {en : Nat → Int32} {al : Nat → Int32} {he : Nat → Int32} {σ : TrS} {n : Nat} {Bf : Nat → Nat → Int32} {n' : Nat} {B' : Nat → Nat → Int32} {ln : Nat → Int32} {sz : Nat → Nat} {itf : Nat → Nat → Int32} {ln9 : Nat → Int32} (h : ∀ j, j < 8 → ln j = ln9 j) : WX Γ hx (a) (sh) (it) (f) (lw) (up) (ua) (code) (mk) (lfa) (lfi) (lk) (dr) (un) (ms) (u) (tb) (nx) (RI) (T) (uT) (TA) (z) (cs) (en) (al) (he) (σ) (n) (Bf) (n') (B') (ln) (sz) (itf) = WX Γ hx (a) (sh) (it) (f) (lw) (up) (ua) (code) (mk) (lfa) (lfi) (lk) (dr) (un) (ms) (u) (tb) (nx) (RI) (T) (uT) (TA) (z) (cs) (en) (al) (he) (σ) (n) (Bf) (n') (B') (ln9) (sz) (itf) := by
  simp only [WX, h 0 (by decide), h 1 (by decide), h 2 (by decide), h 3 (by decide), h 4 (by decide), h 5 (by decide), h 6 (by decide), h 7 (by decide)]
set_option maxHeartbeats 4000000 in
theorem whole_start {p : Program} {e : Env} {s : State} {m : MethodId} {below : List Frame} {meth : Method} {c : Code} (l : Launch) {b L : Nat} {xs : Nat → Int32} (hL : L ≤ 3072) (C0 : lw_At p s m meth c b L xs) : W p l e room_1 s m #[Value.ref b] below meth c s.heap [] 0 0 (lw_Z below #[Value.ref b] s) (entryFrame m ([Value.ref b] : List Value).toArray 4) := by
  obtain ⟨hx, hb, hr, hml, hown, hts, hX, hbl, hlocks, hgv⟩ := id C0
  have htg : ∀ w ∈ Tg, w.before #[Value.ref b] s = true := tg_of hts
  obtain ⟨c0, i0, k0⟩ := u_known (C := RX0) (T := TX0) (N := 2) (n := 2) htg uw_X0 (htg _ ib_X0)
  obtain ⟨c1, i1, k1⟩ := u_known (C := RX1) (T := TX1) (N := 5) (n := 5) htg uw_X1 (htg _ ib_X1)
  obtain ⟨c2, i2, k2⟩ := u_known (C := RX4) (T := TX4) (N := 10) (n := 10) htg uw_X4 (htg _ ib_X4)
  obtain ⟨c3, i3, k3⟩ := u_known (C := RX5) (T := TX5) (N := 5) (n := 5) htg uw_X5 (htg _ ib_X5)
  obtain ⟨c4, i4, k4⟩ := u_known (C := RX6) (T := TX6) (N := 6) (n := 6) htg uw_X6 (htg _ ib_X6)
  obtain ⟨c5, i5, k5⟩ := u_known (C := RX7) (T := TX7) (N := 3) (n := 3) htg uw_X7 (htg _ ib_X7)
  obtain ⟨c6, i6, k6⟩ := u_known (C := RX8) (T := TX8) (N := 2) (n := 2) htg uw_X8 (htg _ ib_X8)
  obtain ⟨c7, i7, k7⟩ := u_known (C := RX9) (T := TX9) (N := 7) (n := 7) htg uw_X9 (htg _ ib_X9)
  obtain ⟨c8, i8, k8⟩ := u_known (C := RX10) (T := TX10) (N := 12) (n := 12) htg uw_X10 (htg _ ib_X10)
  obtain ⟨c9, i9, k9⟩ := u_known (C := RX11) (T := TX11) (N := 30) (n := 30) htg uw_X11 (htg _ ib_X11)
  obtain ⟨ai, ki, ci, f1, f2, f3⟩ := Cond.arrayClass_spec (htg _ ac_int)
  obtain ⟨al, kl, cl, g1, g2, g3⟩ := Cond.arrayClass_spec (htg _ ac_long)
  have hao : va_AO RX7 s := va_AO.of (hts (.arrayOver (.object RX7)) (by decide +kernel))
  obtain ⟨cq, aq, kq, q1, q2, q3, q4, q5⟩ := Cond.arrayOver_spec hao
  obtain ⟨Γ, hK⟩ : ∃ Γ : Gm, va_K Γ.1 vwCl (tyG Γ) s := by
    refine ⟨((fun k => match k with | 0 => c0 | 1 => c1 | 2 => c2 | 3 => c3 | 4 => c4 | 5 => c5 | 6 => c6 | 7 => c7 | 8 => c8 | _ => c9, fun k => match k with | 0 => i0 | 1 => i1 | 2 => i2 | 3 => i3 | 4 => i4 | 5 => i5 | 6 => i6 | 7 => i7 | 8 => i8 | _ => i9), ai, al, aq), fun k q hq => ?_, fun k q hq => ?_⟩
    · match k, hq with
      | 0, hq => cases hq; exact k0
      | 1, hq => cases hq; exact k1
      | 2, hq => cases hq; exact k2
      | 3, hq => cases hq; exact k3
      | 4, hq => cases hq; exact k4
      | 5, hq => cases hq; exact k5
      | 6, hq => cases hq; exact k6
      | 7, hq => cases hq; exact k7
      | 8, hq => cases hq; exact k8
      | 9, hq => cases hq; exact k9
      | k + 10, hq => simp [vwCl] at hq
    · match k, hq with
      | 0, hq => cases hq; exact ⟨fun n z => ⟨fun k h => (by cases h), ki, f2, ci, f3⟩, f1⟩
      | 1, hq => cases hq; exact ⟨fun n z => ⟨fun k h => (by cases h), kl, g2, cl, g3⟩, g1⟩
      | 2, hq => cases hq; exact ⟨fun n z => ⟨fun k h => (by cases h), kq, q3, cq, q4⟩, kq, cq, q3, q4, q1, q5⟩
      | k + 3, hq => simp [tyG] at hq
  have hNZ : NZ s := ⟨hao, va_Nw.of rfl (hts (.methodLinkNest RX10 24 yX8_init RX10) (by decide +kernel)), va_Nw.of rfl (hts (.methodLinkNest RX10 31 yX5_init RX10) (by decide +kernel)), va_Nw.of rfl (hts (.methodLinkNest RX5 11 yX9_init RX10) (by decide +kernel)), va_Nw.of rfl (hts (.methodLinkNest RX10 38 yX1_init RX10) (by decide +kernel)), va_Nw.of rfl (hts (.methodLinkNest RX10 45 yX0_init RX10) (by decide +kernel)), va_Nw.of rfl (hts (.methodLinkNest RX10 52 yX6_init RX10) (by decide +kernel)), va_Nw.of rfl (hts (.methodLinkNest RX10 80 yX7_init RX10) (by decide +kernel))⟩
  have C : Cx p room_1 s m #[Value.ref b] meth c cL_law RL 4 Γ (fun q => s.heap.size ≤ q) 8 := ⟨hx, hb, hml, hown, htg, hK, fun q h => h, hlocks, by decide, by decide⟩
  have key : WW p l e room_1 s m #[Value.ref b] below meth c 0 0 (lw_Z below #[Value.ref b] s) Γ (fun q => s.heap.size ≤ q) 4 [] 0 [some (.ref b), none, none, none] [] := by
    refine ww_new (ci := 8) C [.null, .null, .null, .null, .null, .null, .null, .null, .int 0, .long 0, .int 0, .int 0] 1 12 kl_L_7 ib_X10 in_X10 uw_X10 tyX10_ok rfl (by decide) dL_law_0 rfl rfl (by decide) (by decide) 3 rfl (fun h1 => ?_)
    refine ww_dup C dL_law_3 rfl 4 rfl ?_
    refine ww_initI C hNZ (c_X10_init l Γ) mi_X10_init rfl im_X10_init ml_L_9 dL_law_4 (Nat.le_of_ble_eq_true rfl) (Nat.le_of_ble_eq_true rfl) (Nat.le_of_ble_eq_true rfl) 49 4126 rfl rfl (by decide) (by decide) 7 rfl (fun x hx9 => ?_)
    refine ww_astore_n (i := 1) C dL_law_7 rfl (by decide) rfl 8 rfl ?_
    refine ww_new (ci := 9) C [.int 0, .int 0, .null, .null, .null, .int 0, .null, .int 0, .null, .null, .null, .int 0, .null, .null, .null, .null, .int 0, .int 0, .int 0, .int 0, .int 0, .int 0, .int 0, .int 0, .int 0, .int 0, .null, .null, .null, .int 0] 50 4156 kl_L_10 ib_X11 in_X11 uw_X11 tyX11_ok rfl (by decide) dL_law_8 rfl rfl (by decide) (by decide) 11 rfl (fun h2 => ?_)
    refine ww_dup C dL_law_11 rfl 12 rfl ?_
    refine ww_initI C hNZ (c_X11_init l Γ) mi_X11_init rfl im_X11_init ml_L_12 dL_law_12 (Nat.le_of_ble_eq_true rfl) (Nat.le_of_ble_eq_true rfl) (Nat.le_of_ble_eq_true rfl) 64 5704 rfl rfl (by decide) (by decide) 15 rfl (fun y hy => ?_)
    refine ww_astore_n (i := 2) C dL_law_15 rfl (by decide) rfl 16 rfl ?_
    refine ww_iconst (v := 0) C dL_law_16 (by decide) 17 rfl ?_
    refine ww_istore_n (i := 3) C dL_law_17 rfl (by decide) rfl 18 rfl ?_
    refine ww_eq (ws' := WX Γ h1 (x.1) (x.2.1) (x.2.2.1) (x.2.2.2.1) (x.2.2.2.2.1) (x.2.2.2.2.2.1) (x.2.2.2.2.2.2) (0) (lN (CH 0)) (0) (0) (0) (0) (0) ((0, 0, 0, 0)) (0) (fun _ => 0) (0) (fun _ => 0) (0) (0) (fun _ _ => 0) (0) (fun _ => 0) (fun _ => 0) (fun _ => 0) (fun _ => 0) ((fun _ => 0, 0)) (0) (fun _ _ => 0) (0) (fun _ _ => 0) (y.2) (fun _ => 0) (fun _ _ => 0) ++ WM Γ h2 (y.1) (fun _ => 0) (y.2) (fun _ => 0) (fun _ => 0) (fun _ => 0) (fun _ => 0) (fun _ => 0) (fun _ => 0) (fun _ => 0) (fun _ => 0) (fun _ => 0) (fun _ => 0) (fun _ => 0) (fun _ => 0) (fun _ => 0)) ?_ rfl rfl (law_loop l C hr hX hbl hL ⟨x.1, x.2.1, x.2.2.1, x.2.2.2.1, x.2.2.2.2.1, x.2.2.2.2.2.1, x.2.2.2.2.2.2, 0, lN (CH 0), 0, 0, 0, 0, 0, (0, 0, 0, 0), 0, fun _ => 0, 0, fun _ => 0, 0, 0, fun _ _ => 0, 0, fun _ => 0, fun _ => 0, fun _ => 0, fun _ => 0, (fun _ => 0, 0), 0, fun _ _ => 0, 0, fun _ _ => 0, y.2, fun _ => 0, fun _ _ => 0, y.1, fun _ => 0, y.2, fun _ => 0, fun _ => 0, fun _ => 0, fun _ => 0, fun _ => 0, fun _ => 0, fun _ => 0, fun _ => 0, fun _ => 0, fun _ => 0, fun _ => 0, fun _ => 0, fun _ => 0, 0, fun _ => 0, fun _ => 0, rfl, rfl, ⟨hx9.2, hx9.1.1, hx9.1.2.1, hx9.1.2.2⟩, ⟨rfl, by decide, rfl, rfl⟩, ⟨rfl, rfl⟩, Or.inl rfl, ⟨Nat.zero_le _, rfl, rfl, fun _ => ⟨0, by decide, rfl⟩⟩, ⟨Nat.zero_le _, rfl, fun r hr => absurd hr (Nat.not_lt_zero r)⟩, ⟨Nat.zero_le _, rfl, rfl, fun k hk => absurd hk (Nat.not_lt_zero k), fun c hc => rfl⟩, ⟨Nat.zero_le _, rfl, rfl⟩, ⟨rfl, fun j hj => by rw [hy j hj]; exact ⟨fun _ => rfl, fun _ => by decide⟩, fun j hj => Nat.zero_le _, fun j hj hl => absurd (hy j hj) hl, fun _ _ _ _ => rfl⟩⟩)
    rw [← WX_ln (ln := fun _ => -1) (fun j hj => (hy j hj).symm)]
    rfl
  rw [lg_entry_eq]
  refine key s.heap [] _ (fun k q h => by simp at h) ⟨fun i j x y h => by simp at h, fun k q h => by simp at h⟩ va_S.rf (LV.entry (av := [Value.ref b]) (Nat.le_of_ble_eq_true rfl) (fun i v hi => ?_))
  have h9 := lvA_args [Value.ref b] 0 i v (lvA_pad (n := 3) hi)
  rw [Nat.zero_add] at h9
  exact h9
