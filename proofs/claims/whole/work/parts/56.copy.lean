theorem lift_2r {l : Launch} {Γ : Gm} {y : MethodName} {cc9 : ByteArray} {maxL : Nat} {ret : Option FieldType} {d : Nat} {av : List Value} {rv : Option Value} {hx : Nat} {a : Nat → Nat} {sh : Nat → Nat} {it : Nat → Nat} {f : Nat → Option Nat} {lw : Nat → Int64} {up : Nat → Int64} {ua : Int64} {code : Int32} {mk : Int64} {lfa : Int32} {lfi : Int32} {lk : Int32} {dr : Int64} {un : Int64} {ms : Ms} {u : Nat} {tb : Nat → Int32} {nx : Nat} {RI : Nat → Int32} {T : Nat} {uT : Nat} {TA : Nat → Nat → Int32} {z : Nat} {cs : Nat → Int64} {en : Nat → Int32} {al : Nat → Int32} {he : Nat → Int32} {σ : TrS} {n : Nat} {Bf : Nat → Nat → Int32} {n' : Nat} {B' : Nat → Nat → Int32} {ln : Nat → Int32} {sz : Nat → Nat} {itf : Nat → Nat → Int32} {code1 : Int32} {mk1 : Int64} {lfa1 lfi1 : Int32} {j j1 : Nat} (hj : j < 8) (hj1 : j1 < 8) (hne : ¬ j = j1) (h : Ct l Γ y cc9 maxL ret d av [wXo hx (a 1) (a 2) (a 5) (a 7) (a 14) (a 19) (a 21) (a 27) (code) (mk) (lfa) (lfi), (a 1, .inl (Γ.2.2.2, 8, .inr (.inr (.inr (.inr f))))), (sh j, .inr (5, [.ref (it j), .int (ln j), .int (nI (sz j))])), (it j, .inl (Γ.2.1, 60, .inl (itf j))), (sh j1, .inr (5, [.ref (it j1), .int (ln j1), .int (nI (sz j1))])), (it j1, .inl (Γ.2.1, 60, .inl (itf j1)))] rv [wXo hx (a 1) (a 2) (a 5) (a 7) (a 14) (a 19) (a 21) (a 27) (code1) (mk1) (lfa1) (lfi1), (a 1, .inl (Γ.2.2.2, 8, .inr (.inr (.inr (.inr f))))), (sh j, .inr (5, [.ref (it j), .int (ln j), .int (nI (sz j))])), (it j, .inl (Γ.2.1, 60, .inl (itf j))), (sh j1, .inr (5, [.ref (it j1), .int (ln j1), .int (nI (sz j1))])), (it j1, .inl (Γ.2.1, 60, .inl (itf j1)))]) : Ct l Γ y cc9 maxL ret d av (WX Γ hx (a) (sh) (it) (f) (lw) (up) (ua) (code) (mk) (lfa) (lfi) (lk) (dr) (un) (ms) (u) (tb) (nx) (RI) (T) (uT) (TA) (z) (cs) (en) (al) (he) (σ) (n) (Bf) (n') (B') (ln) (sz) (itf)) rv (WX Γ hx (a) (sh) (it) (f) (lw) (up) (ua) (code1) (mk1) (lfa1) (lfi1) (lk) (dr) (un) (ms) (u) (tb) (nx) (RI) (T) (uT) (TA) (z) (cs) (en) (al) (he) (σ) (n) (Bf) (n') (B') (ln) (sz) (itf)) := by
  have e := h.lift (ws := WX Γ hx (a) (sh) (it) (f) (lw) (up) (ua) (code) (mk) (lfa) (lfi) (lk) (dr) (un) (ms) (u) (tb) (nx) (RI) (T) (uT) (TA) (z) (cs) (en) (al) (he) (σ) (n) (Bf) (n') (B') (ln) (sz) (itf)) [0, 1, 33 + 2 * j, 34 + 2 * j, 33 + 2 * j1, 34 + 2 * j1] (by rcases (show j = 0 ∨ j = 1 ∨ j = 2 ∨ j = 3 ∨ j = 4 ∨ j = 5 ∨ j = 6 ∨ j = 7 by omega) with rfl | rfl | rfl | rfl | rfl | rfl | rfl | rfl <;> rcases (show j1 = 0 ∨ j1 = 1 ∨ j1 = 2 ∨ j1 = 3 ∨ j1 = 4 ∨ j1 = 5 ∨ j1 = 6 ∨ j1 = 7 by omega) with rfl | rfl | rfl | rfl | rfl | rfl | rfl | rfl <;> rfl) (by rcases (show j = 0 ∨ j = 1 ∨ j = 2 ∨ j = 3 ∨ j = 4 ∨ j = 5 ∨ j = 6 ∨ j = 7 by omega) with rfl | rfl | rfl | rfl | rfl | rfl | rfl | rfl <;> rcases (show j1 = 0 ∨ j1 = 1 ∨ j1 = 2 ∨ j1 = 3 ∨ j1 = 4 ∨ j1 = 5 ∨ j1 = 6 ∨ j1 = 7 by omega) with rfl | rfl | rfl | rfl | rfl | rfl | rfl | rfl <;> first | exact absurd rfl hne | decide) rfl
  have e2 : pB (WX Γ hx (a) (sh) (it) (f) (lw) (up) (ua) (code) (mk) (lfa) (lfi) (lk) (dr) (un) (ms) (u) (tb) (nx) (RI) (T) (uT) (TA) (z) (cs) (en) (al) (he) (σ) (n) (Bf) (n') (B') (ln) (sz) (itf)) [0, 1, 33 + 2 * j, 34 + 2 * j, 33 + 2 * j1, 34 + 2 * j1] [wXo hx (a 1) (a 2) (a 5) (a 7) (a 14) (a 19) (a 21) (a 27) (code1) (mk1) (lfa1) (lfi1), (a 1, .inl (Γ.2.2.2, 8, .inr (.inr (.inr (.inr f))))), (sh j, .inr (5, [.ref (it j), .int (ln j), .int (nI (sz j))])), (it j, .inl (Γ.2.1, 60, .inl (itf j))), (sh j1, .inr (5, [.ref (it j1), .int (ln j1), .int (nI (sz j1))])), (it j1, .inl (Γ.2.1, 60, .inl (itf j1)))] = WX Γ hx (a) (sh) (it) (f) (lw) (up) (ua) (code1) (mk1) (lfa1) (lfi1) (lk) (dr) (un) (ms) (u) (tb) (nx) (RI) (T) (uT) (TA) (z) (cs) (en) (al) (he) (σ) (n) (Bf) (n') (B') (ln) (sz) (itf) := by rcases (show j = 0 ∨ j = 1 ∨ j = 2 ∨ j = 3 ∨ j = 4 ∨ j = 5 ∨ j = 6 ∨ j = 7 by omega) with rfl | rfl | rfl | rfl | rfl | rfl | rfl | rfl <;> rcases (show j1 = 0 ∨ j1 = 1 ∨ j1 = 2 ∨ j1 = 3 ∨ j1 = 4 ∨ j1 = 5 ∨ j1 = 6 ∨ j1 = 7 by omega) with rfl | rfl | rfl | rfl | rfl | rfl | rfl | rfl <;> first | exact absurd rfl hne | rfl
  rw [e2] at e
  exact e
theorem lift_2i {l : Launch} {Γ : Gm} {y : MethodName} {cc9 : ByteArray} {maxL : Nat} {ret : Option FieldType} {d : Nat} {av : List Value} {rv : Option Value} {hx : Nat} {a : Nat → Nat} {sh : Nat → Nat} {it : Nat → Nat} {f : Nat → Option Nat} {lw : Nat → Int64} {up : Nat → Int64} {ua : Int64} {code : Int32} {mk : Int64} {lfa : Int32} {lfi : Int32} {lk : Int32} {dr : Int64} {un : Int64} {ms : Ms} {u : Nat} {tb : Nat → Int32} {nx : Nat} {RI : Nat → Int32} {T : Nat} {uT : Nat} {TA : Nat → Nat → Int32} {z : Nat} {cs : Nat → Int64} {en : Nat → Int32} {al : Nat → Int32} {he : Nat → Int32} {σ : TrS} {n : Nat} {Bf : Nat → Nat → Int32} {n' : Nat} {B' : Nat → Nat → Int32} {ln : Nat → Int32} {sz : Nat → Nat} {itf : Nat → Nat → Int32} {code1 : Int32} {mk1 : Int64} {lfa1 lfi1 : Int32} {j j1 : Nat} {g : Nat → Int32} (hj : j < 8) (hj1 : j1 < 8) (hne : ¬ j = j1) (h : Ct l Γ y cc9 maxL ret d av [wXo hx (a 1) (a 2) (a 5) (a 7) (a 14) (a 19) (a 21) (a 27) (code) (mk) (lfa) (lfi), (a 1, .inl (Γ.2.2.2, 8, .inr (.inr (.inr (.inr f))))), (sh j, .inr (5, [.ref (it j), .int (ln j), .int (nI (sz j))])), (it j, .inl (Γ.2.1, 60, .inl (itf j))), (sh j1, .inr (5, [.ref (it j1), .int (ln j1), .int (nI (sz j1))])), (it j1, .inl (Γ.2.1, 60, .inl (itf j1)))] rv [wXo hx (a 1) (a 2) (a 5) (a 7) (a 14) (a 19) (a 21) (a 27) (code1) (mk1) (lfa1) (lfi1), (a 1, .inl (Γ.2.2.2, 8, .inr (.inr (.inr (.inr f))))), (sh j, .inr (5, [.ref (it j), .int (ln j), .int (nI (sz j))])), (it j, .inl (Γ.2.1, 60, .inl (itf j))), (sh j1, .inr (5, [.ref (it j1), .int (ln j1), .int (nI (sz j1))])), (it j1, .inl (Γ.2.1, 60, .inl (g)))]) : Ct l Γ y cc9 maxL ret d av (WX Γ hx (a) (sh) (it) (f) (lw) (up) (ua) (code) (mk) (lfa) (lfi) (lk) (dr) (un) (ms) (u) (tb) (nx) (RI) (T) (uT) (TA) (z) (cs) (en) (al) (he) (σ) (n) (Bf) (n') (B') (ln) (sz) (itf)) rv (WX Γ hx (a) (sh) (it) (f) (lw) (up) (ua) (code1) (mk1) (lfa1) (lfi1) (lk) (dr) (un) (ms) (u) (tb) (nx) (RI) (T) (uT) (TA) (z) (cs) (en) (al) (he) (σ) (n) (Bf) (n') (B') (ln) (sz) (updF itf j1 g)) := by
  have e := h.lift (ws := WX Γ hx (a) (sh) (it) (f) (lw) (up) (ua) (code) (mk) (lfa) (lfi) (lk) (dr) (un) (ms) (u) (tb) (nx) (RI) (T) (uT) (TA) (z) (cs) (en) (al) (he) (σ) (n) (Bf) (n') (B') (ln) (sz) (itf)) [0, 1, 33 + 2 * j, 34 + 2 * j, 33 + 2 * j1, 34 + 2 * j1] (by rcases (show j = 0 ∨ j = 1 ∨ j = 2 ∨ j = 3 ∨ j = 4 ∨ j = 5 ∨ j = 6 ∨ j = 7 by omega) with rfl | rfl | rfl | rfl | rfl | rfl | rfl | rfl <;> rcases (show j1 = 0 ∨ j1 = 1 ∨ j1 = 2 ∨ j1 = 3 ∨ j1 = 4 ∨ j1 = 5 ∨ j1 = 6 ∨ j1 = 7 by omega) with rfl | rfl | rfl | rfl | rfl | rfl | rfl | rfl <;> rfl) (by rcases (show j = 0 ∨ j = 1 ∨ j = 2 ∨ j = 3 ∨ j = 4 ∨ j = 5 ∨ j = 6 ∨ j = 7 by omega) with rfl | rfl | rfl | rfl | rfl | rfl | rfl | rfl <;> rcases (show j1 = 0 ∨ j1 = 1 ∨ j1 = 2 ∨ j1 = 3 ∨ j1 = 4 ∨ j1 = 5 ∨ j1 = 6 ∨ j1 = 7 by omega) with rfl | rfl | rfl | rfl | rfl | rfl | rfl | rfl <;> first | exact absurd rfl hne | decide) rfl
  have e2 : pB (WX Γ hx (a) (sh) (it) (f) (lw) (up) (ua) (code) (mk) (lfa) (lfi) (lk) (dr) (un) (ms) (u) (tb) (nx) (RI) (T) (uT) (TA) (z) (cs) (en) (al) (he) (σ) (n) (Bf) (n') (B') (ln) (sz) (itf)) [0, 1, 33 + 2 * j, 34 + 2 * j, 33 + 2 * j1, 34 + 2 * j1] [wXo hx (a 1) (a 2) (a 5) (a 7) (a 14) (a 19) (a 21) (a 27) (code1) (mk1) (lfa1) (lfi1), (a 1, .inl (Γ.2.2.2, 8, .inr (.inr (.inr (.inr f))))), (sh j, .inr (5, [.ref (it j), .int (ln j), .int (nI (sz j))])), (it j, .inl (Γ.2.1, 60, .inl (itf j))), (sh j1, .inr (5, [.ref (it j1), .int (ln j1), .int (nI (sz j1))])), (it j1, .inl (Γ.2.1, 60, .inl (g)))] = WX Γ hx (a) (sh) (it) (f) (lw) (up) (ua) (code1) (mk1) (lfa1) (lfi1) (lk) (dr) (un) (ms) (u) (tb) (nx) (RI) (T) (uT) (TA) (z) (cs) (en) (al) (he) (σ) (n) (Bf) (n') (B') (ln) (sz) (updF itf j1 g) := by rcases (show j = 0 ∨ j = 1 ∨ j = 2 ∨ j = 3 ∨ j = 4 ∨ j = 5 ∨ j = 6 ∨ j = 7 by omega) with rfl | rfl | rfl | rfl | rfl | rfl | rfl | rfl <;> rcases (show j1 = 0 ∨ j1 = 1 ∨ j1 = 2 ∨ j1 = 3 ∨ j1 = 4 ∨ j1 = 5 ∨ j1 = 6 ∨ j1 = 7 by omega) with rfl | rfl | rfl | rfl | rfl | rfl | rfl | rfl <;> first | exact absurd rfl hne | rfl
  rw [e2] at e
  exact e
theorem Rsh_copy {ln : Nat → Int32} {sz : Nat → Nat} {itf : Nat → Nat → Int32} {mmn mit : Nat → Int32} {j j1 a b n : Nat} (h : Rsh ln sz itf ln mmn mit) (hj : j < 8) (hj1 : j1 < 8) (ha : a + n ≤ 60) (hb : b + n ≤ 60) : Rsh ln sz (updF itf j1 (va_cpy (itf j) (itf j1) a b n)) ln mmn (cpU mit (60 * j + a) (60 * j1 + b) n) := by
  obtain ⟨-, h2, h3, h4, h5⟩ := h
  refine ⟨rfl, h2, h3, h4, fun k hk i hi => ?_⟩
  by_cases e : k = j1
  · subst e
    rw [updF_s]
    unfold va_cpy cpU
    by_cases c : b ≤ i ∧ i < b + n
    · rw [if_pos c, if_pos ⟨by omega, by omega⟩, h5 j hj _ (by omega)]
      congr 1
      omega
    · rw [if_neg c, if_neg (by omega)]
      exact h5 k hk i hi
  · rw [updF_n _ e, h5 k hk i hi]
    exact (if_neg (by omega)).symm
theorem cpf_0 {la lb : Int32} {sa sb : Nat} {x y z : Int32} (hs : sa ≤ 60) (hs1 : sb ≤ 60) (h : s_cpf la lb sa sb x y z = 0) : ¬ la = -1 ∧ la = lb ∧ ∃ a b n, x = nI a ∧ y = nI b ∧ z = nI n ∧ a + n ≤ sa ∧ b + n ≤ sb := by
  unfold s_cpf at h
  by_cases c1 : la = -1
  · rw [if_pos c1] at h; exact absurd h (by decide)
  rw [if_neg c1] at h
  by_cases c2 : lb = -1
  · rw [if_pos c2] at h; exact absurd h (by decide)
  rw [if_neg c2] at h
  by_cases c3 : la = lb
  · rw [if_neg (fun q => q c3)] at h
    by_cases c4 : s_has sa x z
    · rw [if_neg (fun q => q c4)] at h
      by_cases c5 : s_has sb y z
      · obtain ⟨a, k, e1, e2, e3⟩ := (s_has_iff hs).mp c4
        obtain ⟨b, k1, f1, f2, f3⟩ := (s_has_iff hs1).mp c5
        have : k = k1 := (nI_eq (by omega) (by omega)).mp (e2.symm.trans f2)
        subst this
        exact ⟨c1, c3, a, b, k, e1, f1, e2, e3, f3⟩
      · rw [if_pos c5] at h; exact absurd h (by decide)
    · rw [if_pos c4] at h; exact absurd h (by decide)
  · rw [if_pos c3] at h; exact absurd h (by decide)
theorem o_copy (l : Launch) (Γ : Gm) {hx hm : Nat} {a : Nat → Nat} {sh : Nat → Nat} {it : Nat → Nat} {f : Nat → Option Nat} {lw : Nat → Int64} {up : Nat → Int64} {ua : Int64} {code : Int32} {mk : Int64} {lfa : Int32} {lfi : Int32} {lk : Int32} {dr : Int64} {un : Int64} {ms : Ms} {u : Nat} {tb : Nat → Int32} {nx : Nat} {RI : Nat → Int32} {T : Nat} {uT : Nat} {TA : Nat → Nat → Int32} {z : Nat} {cs : Nat → Int64} {en : Nat → Int32} {al : Nat → Int32} {he : Nat → Int32} {σ : TrS} {n : Nat} {Bf : Nat → Nat → Int32} {n' : Nat} {B' : Nat → Nat → Int32} {ln : Nat → Int32} {sz : Nat → Nat} {itf : Nat → Nat → Int32} {q : Nat → Nat} {I : Nat → Int32} {mln : Nat → Int32} {mmn : Nat → Int32} {mit : Nat → Int32} {pl : Nat → Int32} {te : Nat → Int32} {ts : Nat → Int32} {sy : Nat → Int32} {a2 : Nat → Int32} {rt : Nat → Int32} {s2 : Nat → Int32} {tp : Nat → Int32} {cc : Nat → Int32} {ce : Nat → Int32} {tr : Nat → Int32} {c0 : Nat} {tn : Nat → Nat} {cn : Nat → Nat} (hk : Rk (sh) (f) (lw) (up) (ua)) (hch : Rch (code) (mk) ((I) 5) (c0)) (hst : Rst ((I) 1) ((I) 17) (lfa) (lfi)) (hme : Rme (lw) (up) (ua) (lk) (dr) (un) (ms)) (htp : Rtp (u) (tb) ((I) 16) (tp)) (hru : Rru (n) (Bf) ((I) 7) (te) (ts) (sy) (tn)) (hbk : Rbk (z) (cs) (en) (al) ((I) 25) (cc) (ce) (cn)) (hbd : Rbd (σ) ((I) 29) (tr)) (hsh : Rsh (ln) (sz) (itf) (mln) (mmn) (mit)) (v1 : Int32) (v2 : Int32) (v3 : Int32) (v4 : Int32) (v5 : Int32) : OpR l Γ hx hm (WX Γ hx (a) (sh) (it) (f) (lw) (up) (ua) (code) (mk) (lfa) (lfi) (lk) (dr) (un) (ms) (u) (tb) (nx) (RI) (T) (uT) (TA) (z) (cs) (en) (al) (he) (σ) (n) (Bf) (n') (B') (ln) (sz) (itf)) (WM Γ hm (q) (I) (mln) (mmn) (mit) (pl) (te) (ts) (sy) (a2) (rt) (s2) (tp) (cc) (ce) (tr)) yX10_copy cX10_copy 8 5 yX11_copy cX11_copy 9 4 [.int v1, .int v2, .int v3, .int v4, .int v5] := by
  have hln := hsh.1
  subst hln
  have hs2 := hsh.2.1
  have hs3 := hsh.2.2.1
  have hs4 := hsh.2.2.2.1
  have hs5 := hsh.2.2.2.2
  rcases i32_cases v1 8 (by decide) with c | ⟨j, hj, rfl⟩
  · skip
    refine ⟨-1000001, WX Γ hx (a) (sh) (it) (f) (lw) (up) (ua) (code) (mk) (lfa) (lfi) (lk) (dr) (un) (ms) (u) (tb) (nx) (RI) (T) (uT) (TA) (z) (cs) (en) (al) (he) (σ) (n) (Bf) (n') (B') (mln) (sz) (itf), WM Γ hm (q) (upd I 0 0) (mln) (mmn) (mit) (pl) (te) (ts) (sy) (a2) (rt) (s2) (tp) (cc) (ce) (tr), ?_, ?_, ?_⟩
    · exact ⟨a, sh, it, f, lw, up, ua, code, mk, lfa, lfi, lk, dr, un, ms, u, tb, nx, RI, T, uT, TA, z, cs, en, al, he, σ, n, Bf, n', B', mln, sz, itf, q, upd I 0 0, mln, mmn, mit, pl, te, ts, sy, a2, rt, s2, tp, cc, ce, tr, c0, tn, cn, rfl, rfl, hk, hch, hst, hme, htp, hru, hbk, hbd, hsh⟩
    · exact (c_X10_copy_bad l Γ (Or.inl c)).lift [0] rfl (by decide) rfl
    · exact (c_X11_copy_bad l Γ (Or.inl (sh7 c))).lift [0] rfl (by decide) rfl
  rcases i32_cases v3 8 (by decide) with c | ⟨j1, hj1, rfl⟩
  · skip
    refine ⟨-1000001, WX Γ hx (a) (sh) (it) (f) (lw) (up) (ua) (code) (mk) (lfa) (lfi) (lk) (dr) (un) (ms) (u) (tb) (nx) (RI) (T) (uT) (TA) (z) (cs) (en) (al) (he) (σ) (n) (Bf) (n') (B') (mln) (sz) (itf), WM Γ hm (q) (upd I 0 0) (mln) (mmn) (mit) (pl) (te) (ts) (sy) (a2) (rt) (s2) (tp) (cc) (ce) (tr), ?_, ?_, ?_⟩
    · exact ⟨a, sh, it, f, lw, up, ua, code, mk, lfa, lfi, lk, dr, un, ms, u, tb, nx, RI, T, uT, TA, z, cs, en, al, he, σ, n, Bf, n', B', mln, sz, itf, q, upd I 0 0, mln, mmn, mit, pl, te, ts, sy, a2, rt, s2, tp, cc, ce, tr, c0, tn, cn, rfl, rfl, hk, hch, hst, hme, htp, hru, hbk, hbd, hsh⟩
    · exact (c_X10_copy_bad l Γ (Or.inr c)).lift [0] rfl (by decide) rfl
    · exact (c_X11_copy_bad l Γ (Or.inr (sh7 c))).lift [0] rfl (by decide) rfl
  by_cases cg : s_cpf (mln j) (mln j1) (sz j) (sz j1) v2 v4 v5 = 0
  · obtain ⟨hl, hll, a9, b9, n9, rfl, rfl, rfl, ha, hb⟩ := cpf_0 (hs3 j hj) (hs3 j1 hj1) cg
    have h60 := hs3 j hj
    have h61 := hs3 j1 hj1
    have hmc : Ct l Γ yX11_copy cX11_copy 9 (some .int) 4 [.ref hm, .int (nI j), .int (nI a9), .int (nI j1), .int (nI b9), .int (nI n9)] [wMo hm q I, (q 2, .inl (Γ.2.1, 8, .inl mln)), (q 3, .inl (Γ.2.1, 8, .inl mmn)), (q 4, .inl (Γ.2.1, 480, .inl mit))] (some (.int (nI n9))) [wMo hm q (upd (upd I 0 0) 1 0), (q 2, .inl (Γ.2.1, 8, .inl mln)), (q 3, .inl (Γ.2.1, 8, .inl mmn)), (q 4, .inl (Γ.2.1, 480, .inl (cpU mit (60 * j + a9) (60 * j1 + b9) n9)))] := by
      by_cases cd : nI a9 < nI b9
      · exact c_X11_copy_D l Γ hj hj1 hs2 (hs4 j hj) (hs4 j1 hj1) h60 h61 hl hll ha hb cd
      · exact c_X11_copy_U l Γ hj hj1 hs2 (hs4 j hj) (hs4 j1 hj1) h60 h61 hl hll ha hb cd
    by_cases hne : j = j1
    · subst hne
      refine ⟨nI n9, WX Γ hx (a) (sh) (it) (f) (lw) (up) (ua) (code) (mk) (lfa) (0) (lk) (dr) (un) (ms) (u) (tb) (nx) (RI) (T) (uT) (TA) (z) (cs) (en) (al) (he) (σ) (n) (Bf) (n') (B') (mln) (sz) (updF itf j (va_cpy (itf j) (itf j) a9 b9 n9)), WM Γ hm (q) (upd (upd I 0 0) 1 0) (mln) (mmn) (cpU mit (60 * j + a9) (60 * j + b9) n9) (pl) (te) (ts) (sy) (a2) (rt) (s2) (tp) (cc) (ce) (tr), ?_, ?_, ?_⟩
      · exact ⟨a, sh, it, f, lw, up, ua, code, mk, lfa, 0, lk, dr, un, ms, u, tb, nx, RI, T, uT, TA, z, cs, en, al, he, σ, n, Bf, n', B', mln, sz, updF itf j (va_cpy (itf j) (itf j) a9 b9 n9), q, upd (upd I 0 0) 1 0, mln, mmn, cpU mit (60 * j + a9) (60 * j + b9) n9, pl, te, ts, sy, a2, rt, s2, tp, cc, ce, tr, c0, tn, cn, rfl, rfl, hk, hch, ⟨rfl, hst.2⟩, hme, htp, hru, hbk, hbd, Rsh_copy hsh hj hj (by omega) (by omega)⟩
      · exact lift_i hj (c_X10_copy_ok1 l Γ hj (hk.1 j hj) hj (hk.1 j hj) hl rfl h60 h60 ha hb)
      · exact (hmc).lift [0, 1, 2, 3] rfl (by decide) rfl
    · skip
      refine ⟨nI n9, WX Γ hx (a) (sh) (it) (f) (lw) (up) (ua) (code) (mk) (lfa) (0) (lk) (dr) (un) (ms) (u) (tb) (nx) (RI) (T) (uT) (TA) (z) (cs) (en) (al) (he) (σ) (n) (Bf) (n') (B') (mln) (sz) (updF itf j1 (va_cpy (itf j) (itf j1) a9 b9 n9)), WM Γ hm (q) (upd (upd I 0 0) 1 0) (mln) (mmn) (cpU mit (60 * j + a9) (60 * j1 + b9) n9) (pl) (te) (ts) (sy) (a2) (rt) (s2) (tp) (cc) (ce) (tr), ?_, ?_, ?_⟩
      · exact ⟨a, sh, it, f, lw, up, ua, code, mk, lfa, 0, lk, dr, un, ms, u, tb, nx, RI, T, uT, TA, z, cs, en, al, he, σ, n, Bf, n', B', mln, sz, updF itf j1 (va_cpy (itf j) (itf j1) a9 b9 n9), q, upd (upd I 0 0) 1 0, mln, mmn, cpU mit (60 * j + a9) (60 * j1 + b9) n9, pl, te, ts, sy, a2, rt, s2, tp, cc, ce, tr, c0, tn, cn, rfl, rfl, hk, hch, ⟨rfl, hst.2⟩, hme, htp, hru, hbk, hbd, Rsh_copy hsh hj hj1 (by omega) (by omega)⟩
      · exact lift_2i hj hj1 hne (c_X10_copy_ok2 l Γ hj (hk.1 j hj) hj1 (hk.1 j1 hj1) hl hll h60 h61 ha hb)
      · exact (hmc).lift [0, 1, 2, 3] rfl (by decide) rfl
  · by_cases hne : j = j1
    · subst hne
      refine ⟨-1000010 - s_cpf (mln j) (mln j) (sz j) (sz j) v2 v4 v5, WX Γ hx (a) (sh) (it) (f) (lw) (up) (ua) (code) (mk) (lfa) (s_cpf (mln j) (mln j) (sz j) (sz j) v2 v4 v5) (lk) (dr) (un) (ms) (u) (tb) (nx) (RI) (T) (uT) (TA) (z) (cs) (en) (al) (he) (σ) (n) (Bf) (n') (B') (mln) (sz) (itf), WM Γ hm (q) (upd (upd (upd I 0 0) 1 0) 1 (s_cpf (mln j) (mln j) (sz j) (sz j) v2 v4 v5)) (mln) (mmn) (mit) (pl) (te) (ts) (sy) (a2) (rt) (s2) (tp) (cc) (ce) (tr), ?_, ?_, ?_⟩
      · exact ⟨a, sh, it, f, lw, up, ua, code, mk, lfa, s_cpf (mln j) (mln j) (sz j) (sz j) v2 v4 v5, lk, dr, un, ms, u, tb, nx, RI, T, uT, TA, z, cs, en, al, he, σ, n, Bf, n', B', mln, sz, itf, q, upd (upd (upd I 0 0) 1 0) 1 (s_cpf (mln j) (mln j) (sz j) (sz j) v2 v4 v5), mln, mmn, mit, pl, te, ts, sy, a2, rt, s2, tp, cc, ce, tr, c0, tn, cn, rfl, rfl, hk, hch, ⟨rfl, hst.2⟩, hme, htp, hru, hbk, hbd, hsh⟩
      · exact lift_r hj (c_X10_copy_no1 l Γ hj (hk.1 j hj) hj (hk.1 j hj) rfl cg)
      · exact (c_X11_copy_no l Γ hj hj hs2 (hs4 j hj) (hs4 j hj) (hs3 j hj) (hs3 j hj) rfl cg).lift [0, 1, 2] rfl (by decide) rfl
    · skip
      refine ⟨-1000010 - s_cpf (mln j) (mln j1) (sz j) (sz j1) v2 v4 v5, WX Γ hx (a) (sh) (it) (f) (lw) (up) (ua) (code) (mk) (lfa) (s_cpf (mln j) (mln j1) (sz j) (sz j1) v2 v4 v5) (lk) (dr) (un) (ms) (u) (tb) (nx) (RI) (T) (uT) (TA) (z) (cs) (en) (al) (he) (σ) (n) (Bf) (n') (B') (mln) (sz) (itf), WM Γ hm (q) (upd (upd (upd I 0 0) 1 0) 1 (s_cpf (mln j) (mln j1) (sz j) (sz j1) v2 v4 v5)) (mln) (mmn) (mit) (pl) (te) (ts) (sy) (a2) (rt) (s2) (tp) (cc) (ce) (tr), ?_, ?_, ?_⟩
      · exact ⟨a, sh, it, f, lw, up, ua, code, mk, lfa, s_cpf (mln j) (mln j1) (sz j) (sz j1) v2 v4 v5, lk, dr, un, ms, u, tb, nx, RI, T, uT, TA, z, cs, en, al, he, σ, n, Bf, n', B', mln, sz, itf, q, upd (upd (upd I 0 0) 1 0) 1 (s_cpf (mln j) (mln j1) (sz j) (sz j1) v2 v4 v5), mln, mmn, mit, pl, te, ts, sy, a2, rt, s2, tp, cc, ce, tr, c0, tn, cn, rfl, rfl, hk, hch, ⟨rfl, hst.2⟩, hme, htp, hru, hbk, hbd, hsh⟩
      · exact lift_2r hj hj1 hne (c_X10_copy_no2 l Γ hj (hk.1 j hj) hj1 (hk.1 j1 hj1) rfl cg)
      · exact (c_X11_copy_no l Γ hj hj1 hs2 (hs4 j hj) (hs4 j1 hj1) (hs3 j hj) (hs3 j1 hj1) rfl cg).lift [0, 1, 2] rfl (by decide) rfl