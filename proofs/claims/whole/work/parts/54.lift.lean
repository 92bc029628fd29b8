theorem lift_s {l : Launch} {Γ : Gm} {y : MethodName} {cc9 : ByteArray} {maxL : Nat} {ret : Option FieldType} {d : Nat} {av : List Value} {rv : Option Value} {hx : Nat} {a : Nat → Nat} {sh : Nat → Nat} {it : Nat → Nat} {f : Nat → Option Nat} {lw : Nat → Int64} {up : Nat → Int64} {ua : Int64} {code : Int32} {mk : Int64} {lfa : Int32} {lfi : Int32} {lk : Int32} {dr : Int64} {un : Int64} {ms : Ms} {u : Nat} {tb : Nat → Int32} {nx : Nat} {RI : Nat → Int32} {T : Nat} {uT : Nat} {TA : Nat → Nat → Int32} {z : Nat} {cs : Nat → Int64} {en : Nat → Int32} {al : Nat → Int32} {he : Nat → Int32} {σ : TrS} {n : Nat} {Bf : Nat → Nat → Int32} {n' : Nat} {B' : Nat → Nat → Int32} {ln : Nat → Int32} {sz : Nat → Nat} {itf : Nat → Nat → Int32} {code1 : Int32} {mk1 : Int64} {lfa1 lfi1 : Int32} {j N : Nat} {L : Int32} {g : Nat → Int32} (hj : j < 8) (h : Ct l Γ y cc9 maxL ret d av [wXo hx (a 1) (a 2) (a 5) (a 7) (a 14) (a 19) (a 21) (a 27) (code) (mk) (lfa) (lfi), (a 1, .inl (Γ.2.2.2, 8, .inr (.inr (.inr (.inr f))))), (sh j, .inr (5, [.ref (it j), .int (ln j), .int (nI (sz j))])), (it j, .inl (Γ.2.1, 60, .inl (itf j)))] rv [wXo hx (a 1) (a 2) (a 5) (a 7) (a 14) (a 19) (a 21) (a 27) (code1) (mk1) (lfa1) (lfi1), (a 1, .inl (Γ.2.2.2, 8, .inr (.inr (.inr (.inr f))))), (sh j, .inr (5, [.ref (it j), .int (L), .int (nI (N))])), (it j, .inl (Γ.2.1, 60, .inl (g)))]) : Ct l Γ y cc9 maxL ret d av (WX Γ hx (a) (sh) (it) (f) (lw) (up) (ua) (code) (mk) (lfa) (lfi) (lk) (dr) (un) (ms) (u) (tb) (nx) (RI) (T) (uT) (TA) (z) (cs) (en) (al) (he) (σ) (n) (Bf) (n') (B') (ln) (sz) (itf)) rv (WX Γ hx (a) (sh) (it) (f) (lw) (up) (ua) (code1) (mk1) (lfa1) (lfi1) (lk) (dr) (un) (ms) (u) (tb) (nx) (RI) (T) (uT) (TA) (z) (cs) (en) (al) (he) (σ) (n) (Bf) (n') (B') (upd ln j L) (upN sz j N) (updF itf j g)) := by
  have e := h.lift (ws := WX Γ hx (a) (sh) (it) (f) (lw) (up) (ua) (code) (mk) (lfa) (lfi) (lk) (dr) (un) (ms) (u) (tb) (nx) (RI) (T) (uT) (TA) (z) (cs) (en) (al) (he) (σ) (n) (Bf) (n') (B') (ln) (sz) (itf)) [0, 1, 33 + 2 * j, 34 + 2 * j] (by rcases (show j = 0 ∨ j = 1 ∨ j = 2 ∨ j = 3 ∨ j = 4 ∨ j = 5 ∨ j = 6 ∨ j = 7 by omega) with rfl | rfl | rfl | rfl | rfl | rfl | rfl | rfl <;> rfl) (by rcases (show j = 0 ∨ j = 1 ∨ j = 2 ∨ j = 3 ∨ j = 4 ∨ j = 5 ∨ j = 6 ∨ j = 7 by omega) with rfl | rfl | rfl | rfl | rfl | rfl | rfl | rfl <;> decide) rfl
  have e2 : pB (WX Γ hx (a) (sh) (it) (f) (lw) (up) (ua) (code) (mk) (lfa) (lfi) (lk) (dr) (un) (ms) (u) (tb) (nx) (RI) (T) (uT) (TA) (z) (cs) (en) (al) (he) (σ) (n) (Bf) (n') (B') (ln) (sz) (itf)) [0, 1, 33 + 2 * j, 34 + 2 * j] [wXo hx (a 1) (a 2) (a 5) (a 7) (a 14) (a 19) (a 21) (a 27) (code1) (mk1) (lfa1) (lfi1), (a 1, .inl (Γ.2.2.2, 8, .inr (.inr (.inr (.inr f))))), (sh j, .inr (5, [.ref (it j), .int (L), .int (nI (N))])), (it j, .inl (Γ.2.1, 60, .inl (g)))] = WX Γ hx (a) (sh) (it) (f) (lw) (up) (ua) (code1) (mk1) (lfa1) (lfi1) (lk) (dr) (un) (ms) (u) (tb) (nx) (RI) (T) (uT) (TA) (z) (cs) (en) (al) (he) (σ) (n) (Bf) (n') (B') (upd ln j L) (upN sz j N) (updF itf j g) := by rcases (show j = 0 ∨ j = 1 ∨ j = 2 ∨ j = 3 ∨ j = 4 ∨ j = 5 ∨ j = 6 ∨ j = 7 by omega) with rfl | rfl | rfl | rfl | rfl | rfl | rfl | rfl <;> rfl
  rw [e2] at e
  exact e
theorem lift_r {l : Launch} {Γ : Gm} {y : MethodName} {cc9 : ByteArray} {maxL : Nat} {ret : Option FieldType} {d : Nat} {av : List Value} {rv : Option Value} {hx : Nat} {a : Nat → Nat} {sh : Nat → Nat} {it : Nat → Nat} {f : Nat → Option Nat} {lw : Nat → Int64} {up : Nat → Int64} {ua : Int64} {code : Int32} {mk : Int64} {lfa : Int32} {lfi : Int32} {lk : Int32} {dr : Int64} {un : Int64} {ms : Ms} {u : Nat} {tb : Nat → Int32} {nx : Nat} {RI : Nat → Int32} {T : Nat} {uT : Nat} {TA : Nat → Nat → Int32} {z : Nat} {cs : Nat → Int64} {en : Nat → Int32} {al : Nat → Int32} {he : Nat → Int32} {σ : TrS} {n : Nat} {Bf : Nat → Nat → Int32} {n' : Nat} {B' : Nat → Nat → Int32} {ln : Nat → Int32} {sz : Nat → Nat} {itf : Nat → Nat → Int32} {code1 : Int32} {mk1 : Int64} {lfa1 lfi1 : Int32} {j : Nat} (hj : j < 8) (h : Ct l Γ y cc9 maxL ret d av [wXo hx (a 1) (a 2) (a 5) (a 7) (a 14) (a 19) (a 21) (a 27) (code) (mk) (lfa) (lfi), (a 1, .inl (Γ.2.2.2, 8, .inr (.inr (.inr (.inr f))))), (sh j, .inr (5, [.ref (it j), .int (ln j), .int (nI (sz j))])), (it j, .inl (Γ.2.1, 60, .inl (itf j)))] rv [wXo hx (a 1) (a 2) (a 5) (a 7) (a 14) (a 19) (a 21) (a 27) (code1) (mk1) (lfa1) (lfi1), (a 1, .inl (Γ.2.2.2, 8, .inr (.inr (.inr (.inr f))))), (sh j, .inr (5, [.ref (it j), .int (ln j), .int (nI (sz j))])), (it j, .inl (Γ.2.1, 60, .inl (itf j)))]) : Ct l Γ y cc9 maxL ret d av (WX Γ hx (a) (sh) (it) (f) (lw) (up) (ua) (code) (mk) (lfa) (lfi) (lk) (dr) (un) (ms) (u) (tb) (nx) (RI) (T) (uT) (TA) (z) (cs) (en) (al) (he) (σ) (n) (Bf) (n') (B') (ln) (sz) (itf)) rv (WX Γ hx (a) (sh) (it) (f) (lw) (up) (ua) (code1) (mk1) (lfa1) (lfi1) (lk) (dr) (un) (ms) (u) (tb) (nx) (RI) (T) (uT) (TA) (z) (cs) (en) (al) (he) (σ) (n) (Bf) (n') (B') (ln) (sz) (itf)) := by
  have e := h.lift (ws := WX Γ hx (a) (sh) (it) (f) (lw) (up) (ua) (code) (mk) (lfa) (lfi) (lk) (dr) (un) (ms) (u) (tb) (nx) (RI) (T) (uT) (TA) (z) (cs) (en) (al) (he) (σ) (n) (Bf) (n') (B') (ln) (sz) (itf)) [0, 1, 33 + 2 * j, 34 + 2 * j] (by rcases (show j = 0 ∨ j = 1 ∨ j = 2 ∨ j = 3 ∨ j = 4 ∨ j = 5 ∨ j = 6 ∨ j = 7 by omega) with rfl | rfl | rfl | rfl | rfl | rfl | rfl | rfl <;> rfl) (by rcases (show j = 0 ∨ j = 1 ∨ j = 2 ∨ j = 3 ∨ j = 4 ∨ j = 5 ∨ j = 6 ∨ j = 7 by omega) with rfl | rfl | rfl | rfl | rfl | rfl | rfl | rfl <;> decide) rfl
  have e2 : pB (WX Γ hx (a) (sh) (it) (f) (lw) (up) (ua) (code) (mk) (lfa) (lfi) (lk) (dr) (un) (ms) (u) (tb) (nx) (RI) (T) (uT) (TA) (z) (cs) (en) (al) (he) (σ) (n) (Bf) (n') (B') (ln) (sz) (itf)) [0, 1, 33 + 2 * j, 34 + 2 * j] [wXo hx (a 1) (a 2) (a 5) (a 7) (a 14) (a 19) (a 21) (a 27) (code1) (mk1) (lfa1) (lfi1), (a 1, .inl (Γ.2.2.2, 8, .inr (.inr (.inr (.inr f))))), (sh j, .inr (5, [.ref (it j), .int (ln j), .int (nI (sz j))])), (it j, .inl (Γ.2.1, 60, .inl (itf j)))] = WX Γ hx (a) (sh) (it) (f) (lw) (up) (ua) (code1) (mk1) (lfa1) (lfi1) (lk) (dr) (un) (ms) (u) (tb) (nx) (RI) (T) (uT) (TA) (z) (cs) (en) (al) (he) (σ) (n) (Bf) (n') (B') (ln) (sz) (itf) := by rcases (show j = 0 ∨ j = 1 ∨ j = 2 ∨ j = 3 ∨ j = 4 ∨ j = 5 ∨ j = 6 ∨ j = 7 by omega) with rfl | rfl | rfl | rfl | rfl | rfl | rfl | rfl <;> rfl
  rw [e2] at e
  exact e
theorem lift_i {l : Launch} {Γ : Gm} {y : MethodName} {cc9 : ByteArray} {maxL : Nat} {ret : Option FieldType} {d : Nat} {av : List Value} {rv : Option Value} {hx : Nat} {a : Nat → Nat} {sh : Nat → Nat} {it : Nat → Nat} {f : Nat → Option Nat} {lw : Nat → Int64} {up : Nat → Int64} {ua : Int64} {code : Int32} {mk : Int64} {lfa : Int32} {lfi : Int32} {lk : Int32} {dr : Int64} {un : Int64} {ms : Ms} {u : Nat} {tb : Nat → Int32} {nx : Nat} {RI : Nat → Int32} {T : Nat} {uT : Nat} {TA : Nat → Nat → Int32} {z : Nat} {cs : Nat → Int64} {en : Nat → Int32} {al : Nat → Int32} {he : Nat → Int32} {σ : TrS} {n : Nat} {Bf : Nat → Nat → Int32} {n' : Nat} {B' : Nat → Nat → Int32} {ln : Nat → Int32} {sz : Nat → Nat} {itf : Nat → Nat → Int32} {code1 : Int32} {mk1 : Int64} {lfa1 lfi1 : Int32} {j : Nat} {g : Nat → Int32} (hj : j < 8) (h : Ct l Γ y cc9 maxL ret d av [wXo hx (a 1) (a 2) (a 5) (a 7) (a 14) (a 19) (a 21) (a 27) (code) (mk) (lfa) (lfi), (a 1, .inl (Γ.2.2.2, 8, .inr (.inr (.inr (.inr f))))), (sh j, .inr (5, [.ref (it j), .int (ln j), .int (nI (sz j))])), (it j, .inl (Γ.2.1, 60, .inl (itf j)))] rv [wXo hx (a 1) (a 2) (a 5) (a 7) (a 14) (a 19) (a 21) (a 27) (code1) (mk1) (lfa1) (lfi1), (a 1, .inl (Γ.2.2.2, 8, .inr (.inr (.inr (.inr f))))), (sh j, .inr (5, [.ref (it j), .int (ln j), .int (nI (sz j))])), (it j, .inl (Γ.2.1, 60, .inl (g)))]) : Ct l Γ y cc9 maxL ret d av (WX Γ hx (a) (sh) (it) (f) (lw) (up) (ua) (code) (mk) (lfa) (lfi) (lk) (dr) (un) (ms) (u) (tb) (nx) (RI) (T) (uT) (TA) (z) (cs) (en) (al) (he) (σ) (n) (Bf) (n') (B') (ln) (sz) (itf)) rv (WX Γ hx (a) (sh) (it) (f) (lw) (up) (ua) (code1) (mk1) (lfa1) (lfi1) (lk) (dr) (un) (ms) (u) (tb) (nx) (RI) (T) (uT) (TA) (z) (cs) (en) (al) (he) (σ) (n) (Bf) (n') (B') (ln) (sz) (updF itf j g)) := by
  have e := h.lift (ws := WX Γ hx (a) (sh) (it) (f) (lw) (up) (ua) (code) (mk) (lfa) (lfi) (lk) (dr) (un) (ms) (u) (tb) (nx) (RI) (T) (uT) (TA) (z) (cs) (en) (al) (he) (σ) (n) (Bf) (n') (B') (ln) (sz) (itf)) [0, 1, 33 + 2 * j, 34 + 2 * j] (by rcases (show j = 0 ∨ j = 1 ∨ j = 2 ∨ j = 3 ∨ j = 4 ∨ j = 5 ∨ j = 6 ∨ j = 7 by omega) with rfl | rfl | rfl | rfl | rfl | rfl | rfl | rfl <;> rfl) (by rcases (show j = 0 ∨ j = 1 ∨ j = 2 ∨ j = 3 ∨ j = 4 ∨ j = 5 ∨ j = 6 ∨ j = 7 by omega) with rfl | rfl | rfl | rfl | rfl | rfl | rfl | rfl <;> decide) rfl
  have e2 : pB (WX Γ hx (a) (sh) (it) (f) (lw) (up) (ua) (code) (mk) (lfa) (lfi) (lk) (dr) (un) (ms) (u) (tb) (nx) (RI) (T) (uT) (TA) (z) (cs) (en) (al) (he) (σ) (n) (Bf) (n') (B') (ln) (sz) (itf)) [0, 1, 33 + 2 * j, 34 + 2 * j] [wXo hx (a 1) (a 2) (a 5) (a 7) (a 14) (a 19) (a 21) (a 27) (code1) (mk1) (lfa1) (lfi1), (a 1, .inl (Γ.2.2.2, 8, .inr (.inr (.inr (.inr f))))), (sh j, .inr (5, [.ref (it j), .int (ln j), .int (nI (sz j))])), (it j, .inl (Γ.2.1, 60, .inl (g)))] = WX Γ hx (a) (sh) (it) (f) (lw) (up) (ua) (code1) (mk1) (lfa1) (lfi1) (lk) (dr) (un) (ms) (u) (tb) (nx) (RI) (T) (uT) (TA) (z) (cs) (en) (al) (he) (σ) (n) (Bf) (n') (B') (ln) (sz) (updF itf j g) := by rcases (show j = 0 ∨ j = 1 ∨ j = 2 ∨ j = 3 ∨ j = 4 ∨ j = 5 ∨ j = 6 ∨ j = 7 by omega) with rfl | rfl | rfl | rfl | rfl | rfl | rfl | rfl <;> rfl
  rw [e2] at e
  exact e
theorem lift_d {l : Launch} {Γ : Gm} {y : MethodName} {cc9 : ByteArray} {maxL : Nat} {ret : Option FieldType} {d : Nat} {av : List Value} {rv : Option Value} {hx : Nat} {a : Nat → Nat} {sh : Nat → Nat} {it : Nat → Nat} {f : Nat → Option Nat} {lw : Nat → Int64} {up : Nat → Int64} {ua : Int64} {code : Int32} {mk : Int64} {lfa : Int32} {lfi : Int32} {lk : Int32} {dr : Int64} {un : Int64} {ms : Ms} {u : Nat} {tb : Nat → Int32} {nx : Nat} {RI : Nat → Int32} {T : Nat} {uT : Nat} {TA : Nat → Nat → Int32} {z : Nat} {cs : Nat → Int64} {en : Nat → Int32} {al : Nat → Int32} {he : Nat → Int32} {σ : TrS} {n : Nat} {Bf : Nat → Nat → Int32} {n' : Nat} {B' : Nat → Nat → Int32} {ln : Nat → Int32} {sz : Nat → Nat} {itf : Nat → Nat → Int32} {code1 : Int32} {mk1 : Int64} {lfa1 lfi1 : Int32} {j : Nat} {lk1 : Int32} {dr1 un1 : Int64} {ms1 : Ms} (hj : j < 8) (h : Ct l Γ y cc9 maxL ret d av [wXo hx (a 1) (a 2) (a 5) (a 7) (a 14) (a 19) (a 21) (a 27) (code) (mk) (lfa) (lfi), (a 1, .inl (Γ.2.2.2, 8, .inr (.inr (.inr (.inr f))))), (sh j, .inr (5, [.ref (it j), .int (ln j), .int (nI (sz j))])), (it j, .inl (Γ.2.1, 60, .inl (itf j))), wMe (a 2) (a 3) (a 4) ua (lk) (dr) (un) (ms), (a 3, .inl (Γ.2.2.1, 256, .inr (.inl lw))), (a 4, .inl (Γ.2.2.1, 256, .inr (.inl up)))] rv [wXo hx (a 1) (a 2) (a 5) (a 7) (a 14) (a 19) (a 21) (a 27) (code1) (mk1) (lfa1) (lfi1), (a 1, .inl (Γ.2.2.2, 8, .inr (.inr (.inr (.inr f))))), (sh j, .inr (5, [.ref (it j), .int (ln j), .int (nI (sz j))])), (it j, .inl (Γ.2.1, 60, .inl (itf j))), wMe (a 2) (a 3) (a 4) ua (lk1) (dr1) (un1) (ms1), (a 3, .inl (Γ.2.2.1, 256, .inr (.inl lw))), (a 4, .inl (Γ.2.2.1, 256, .inr (.inl up)))]) : Ct l Γ y cc9 maxL ret d av (WX Γ hx (a) (sh) (it) (f) (lw) (up) (ua) (code) (mk) (lfa) (lfi) (lk) (dr) (un) (ms) (u) (tb) (nx) (RI) (T) (uT) (TA) (z) (cs) (en) (al) (he) (σ) (n) (Bf) (n') (B') (ln) (sz) (itf)) rv (WX Γ hx (a) (sh) (it) (f) (lw) (up) (ua) (code1) (mk1) (lfa1) (lfi1) (lk1) (dr1) (un1) (ms1) (u) (tb) (nx) (RI) (T) (uT) (TA) (z) (cs) (en) (al) (he) (σ) (n) (Bf) (n') (B') (ln) (sz) (itf)) := by
  have e := h.lift (ws := WX Γ hx (a) (sh) (it) (f) (lw) (up) (ua) (code) (mk) (lfa) (lfi) (lk) (dr) (un) (ms) (u) (tb) (nx) (RI) (T) (uT) (TA) (z) (cs) (en) (al) (he) (σ) (n) (Bf) (n') (B') (ln) (sz) (itf)) [0, 1, 33 + 2 * j, 34 + 2 * j, 2, 3, 4] (by rcases (show j = 0 ∨ j = 1 ∨ j = 2 ∨ j = 3 ∨ j = 4 ∨ j = 5 ∨ j = 6 ∨ j = 7 by omega) with rfl | rfl | rfl | rfl | rfl | rfl | rfl | rfl <;> rfl) (by rcases (show j = 0 ∨ j = 1 ∨ j = 2 ∨ j = 3 ∨ j = 4 ∨ j = 5 ∨ j = 6 ∨ j = 7 by omega) with rfl | rfl | rfl | rfl | rfl | rfl | rfl | rfl <;> decide) rfl
  have e2 : pB (WX Γ hx (a) (sh) (it) (f) (lw) (up) (ua) (code) (mk) (lfa) (lfi) (lk) (dr) (un) (ms) (u) (tb) (nx) (RI) (T) (uT) (TA) (z) (cs) (en) (al) (he) (σ) (n) (Bf) (n') (B') (ln) (sz) (itf)) [0, 1, 33 + 2 * j, 34 + 2 * j, 2, 3, 4] [wXo hx (a 1) (a 2) (a 5) (a 7) (a 14) (a 19) (a 21) (a 27) (code1) (mk1) (lfa1) (lfi1), (a 1, .inl (Γ.2.2.2, 8, .inr (.inr (.inr (.inr f))))), (sh j, .inr (5, [.ref (it j), .int (ln j), .int (nI (sz j))])), (it j, .inl (Γ.2.1, 60, .inl (itf j))), wMe (a 2) (a 3) (a 4) ua (lk1) (dr1) (un1) (ms1), (a 3, .inl (Γ.2.2.1, 256, .inr (.inl lw))), (a 4, .inl (Γ.2.2.1, 256, .inr (.inl up)))] = WX Γ hx (a) (sh) (it) (f) (lw) (up) (ua) (code1) (mk1) (lfa1) (lfi1) (lk1) (dr1) (un1) (ms1) (u) (tb) (nx) (RI) (T) (uT) (TA) (z) (cs) (en) (al) (he) (σ) (n) (Bf) (n') (B') (ln) (sz) (itf) := by rcases (show j = 0 ∨ j = 1 ∨ j = 2 ∨ j = 3 ∨ j = 4 ∨ j = 5 ∨ j = 6 ∨ j = 7 by omega) with rfl | rfl | rfl | rfl | rfl | rfl | rfl | rfl <;> rfl
  rw [e2] at e
  exact e
theorem Rsh_sheet {ln : Nat → Int32} {sz : Nat → Nat} {itf : Nat → Nat → Int32} {mmn mit : Nat → Int32} {j n : Nat} {L : Int32} (h : Rsh ln sz itf ln mmn mit) (hj : j < 8) (hn : n ≤ 60) (hL : ¬ L < 0) : Rsh (upd ln j L) (upN sz j n) (updF itf j (s_zf (itf j) 60)) (upd ln j L) (upd mmn j (nI n)) (s_zr mit j 60) := by
  obtain ⟨-, h2, h3, h4, h5⟩ := h
  refine ⟨rfl, fun k hk => ?_, fun k hk => ?_, fun k hk hl => ?_, fun k hk i hi => ?_⟩
  · by_cases e : k = j
    · subst e; rw [pk_us]; exact ⟨fun z => absurd z hL, fun z => by rw [z]; decide⟩
    · rw [pk_un e]; exact h2 k hk
  · by_cases e : k = j
    · subst e; rw [upN_s]; exact hn
    · rw [upN_n _ _ e]; exact h3 k hk
  · by_cases e : k = j
    · subst e; rw [pk_us, upN_s]
    · rw [pk_un e, upN_n _ _ e]; rw [pk_un e] at hl; exact h4 k hk hl
  · by_cases e : k = j
    · subst e
      rw [updF_s]
      exact (if_pos hi).trans (if_pos ⟨by omega, by omega⟩).symm
    · rw [updF_n _ e, h5 k hk i hi]
      exact (if_neg (by omega)).symm
theorem Rsh_drop {ln : Nat → Int32} {sz : Nat → Nat} {itf : Nat → Nat → Int32} {mmn mit : Nat → Int32} {j : Nat} (h : Rsh ln sz itf ln mmn mit) (hj : j < 8) : Rsh (upd ln j (-1)) (upN sz j 0) (updF itf j (itf j)) (upd ln j (-1)) mmn mit := by
  obtain ⟨-, h2, h3, h4, h5⟩ := h
  refine ⟨rfl, fun k hk => ?_, fun k hk => ?_, fun k hk hl => ?_, fun k hk i hi => ?_⟩
  · by_cases e : k = j
    · subst e; rw [pk_us]; exact ⟨fun _ => rfl, fun _ => by decide⟩
    · rw [pk_un e]; exact h2 k hk
  · by_cases e : k = j
    · subst e; rw [upN_s]; omega
    · rw [upN_n _ _ e]; exact h3 k hk
  · by_cases e : k = j
    · subst e; rw [pk_us] at hl; exact absurd rfl hl
    · rw [upN_n _ _ e]; rw [pk_un e] at hl; exact h4 k hk hl
  · by_cases e : k = j
    · subst e; rw [updF_s]; exact h5 k hk i hi
    · rw [updF_n _ e]; exact h5 k hk i hi
theorem Rsh_set {ln : Nat → Int32} {sz : Nat → Nat} {itf : Nat → Nat → Int32} {mmn mit : Nat → Int32} {j a : Nat} {v : Int32} (h : Rsh ln sz itf ln mmn mit) (hj : j < 8) (ha : a < 60) : Rsh ln sz (updF itf j (upd (itf j) a v)) ln mmn (upd mit (60 * j + a) v) := by
  obtain ⟨-, h2, h3, h4, h5⟩ := h
  refine ⟨rfl, h2, h3, h4, fun k hk i hi => ?_⟩
  by_cases e : k = j
  · subst e
    rw [updF_s]
    by_cases e2 : i = a
    · subst e2; rw [pk_us, pk_us]
    · rw [pk_un e2, pk_un (by omega)]; exact h5 k hk i hi
  · rw [updF_n _ e, pk_un (by omega)]; exact h5 k hk i hi
theorem find_16 {lane : Int32} {sz : Nat} {x : Int32} (hs : sz ≤ 60) : (lane = -1 ∧ s_find lane sz x 16 = 1) ∨ (¬ lane = -1 ∧ s_find lane sz x 16 = 2 ∧ ¬ ∃ k, k + 16 ≤ sz ∧ x = nI k) ∨ (¬ lane = -1 ∧ ∃ k, k + 16 ≤ sz ∧ x = nI k) := by
  unfold s_find
  by_cases c : lane = -1
  · exact Or.inl ⟨c, if_pos c⟩
  · rw [if_neg c]
    by_cases c2 : s_has sz x 16
    · obtain ⟨a9, k, e1, e2, e3⟩ := (s_has_iff hs).mp c2
      have hk : k < 2 ^ 31 := by omega
      have : (16 : Nat) = k := (nI_eq (a := 16) (by decide) hk).mp e2
      exact Or.inr (Or.inr ⟨c, a9, by omega, e1⟩)
    · exact Or.inr (Or.inl ⟨c, if_neg c2, fun ⟨k, h1, h2⟩ => c2 (by rw [h2]; exact s_has_n (k := 16) hs h1)⟩)
theorem find_1 {lane : Int32} {sz : Nat} {x : Int32} (hs : sz ≤ 60) : (lane = -1 ∧ s_find lane sz x 1 = 1) ∨ (¬ lane = -1 ∧ s_find lane sz x 1 = 2 ∧ ¬ ∃ k, k < sz ∧ x = nI k) ∨ (¬ lane = -1 ∧ ∃ k, k < sz ∧ x = nI k) := by
  unfold s_find
  by_cases c : lane = -1
  · exact Or.inl ⟨c, if_pos c⟩
  · rw [if_neg c]
    by_cases c2 : s_has sz x 1
    · obtain ⟨a9, k, e1, e2, e3⟩ := (s_has_iff hs).mp c2
      have hk : k < 2 ^ 31 := by omega
      have : (1 : Nat) = k := (nI_eq (a := 1) (by decide) hk).mp e2
      exact Or.inr (Or.inr ⟨c, a9, by omega, e1⟩)
    · exact Or.inr (Or.inl ⟨c, if_neg c2, fun ⟨k, h1, h2⟩ => c2 (by rw [h2]; exact s_has_n (k := 1) hs h1)⟩)
theorem sh7 {x : Int32} (h : x < 0 ∨ nI 8 ≤ x) : x < 0 ∨ 7 < x := h.imp_right (i32_up 7 (by decide)).mpr
theorem odd_lt (it : Nat → Int32) (a : Nat) : ∀ k, k ≤ 16 → ∃ c, c < 2 ^ k ∧ s_odd it a k = nI c
  | 0, _ => ⟨0, by decide, rfl⟩
  | k + 1, h => by
    obtain ⟨c, hc, e⟩ := odd_lt it a k (by omega)
    have hb : ∃ b, b < 2 ∧ it (a + k) &&& 1 = nI b := by
      refine ⟨(it (a + k)).toBitVec.toNat % 2, Nat.mod_lt _ (by decide), ?_⟩
      have : it (a + k) = nI (it (a + k)).toBitVec.toNat := by
        apply Int32.toBitVec_inj.1
        show (it (a + k)).toBitVec = BitVec.ofNat 32 (it (a + k)).toBitVec.toNat
        rw [BitVec.ofNat_toNat, BitVec.setWidth_eq]
      conv => lhs; rw [this]
      exact and1 _
    obtain ⟨b, hb, e2⟩ := hb
    refine ⟨c + b * 2 ^ k, ?_, ?_⟩
    · rw [Nat.pow_succ]
      have : b * 2 ^ k ≤ 1 * 2 ^ k := Nat.mul_le_mul_right _ (by omega)
      omega
    · have hp : 2 ^ k ≤ 2 ^ 16 := Nat.pow_le_pow_right (by decide) (by omega)
      rw [s_odd, e, e2, shlI (by omega) (by have : b * 2 ^ k ≤ 1 * 2 ^ k := Nat.mul_le_mul_right _ (by omega); omega), or_sumI b hc]
theorem wi_cong {f g : Nat → Int32} {a b : Nat} {lo hi : Int32} {n : Nat} (h : ∀ k, k < n → f (a + k) = g (b + k)) : s_within f a lo hi n ↔ s_within g b lo hi n := by
  rw [s_within_iff, s_within_iff]
  constructor
  · intro q j hj; rw [← h j hj]; exact q j hj
  · intro q j hj; rw [h j hj]; exact q j hj
theorem odd_cong {f g : Nat → Int32} {a b : Nat} : ∀ {n : Nat}, (∀ k, k < n → f (a + k) = g (b + k)) → s_odd f a n = s_odd g b n
  | 0, _ => rfl
  | n + 1, h => by rw [s_odd, s_odd, odd_cong (fun k hk => h k (by omega)), h n (by omega)]
theorem drw_cong {f g : Nat → Int32} {a b : Nat} : ∀ {n : Nat}, (∀ k, k < n → f (a + k) = g (b + k)) → s_drw f a n = s_drw g b n ∧ s_unt f a n = s_unt g b n
  | 0, _ => ⟨rfl, rfl⟩
  | n + 1, h => by
    have ih := drw_cong (n := n) (fun k hk => h k (by omega))
    rw [s_drw, s_drw, s_unt, s_unt, ih.1, ih.2, h n (by omega)]
    exact ⟨rfl, rfl⟩