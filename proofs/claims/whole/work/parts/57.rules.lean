theorem num_fig {κ ν : Nat → Int32} {t : Nat} (h : gN κ ν t 0 15 = 0) : ∃ y, y < 16 ∧ ν t = nI y := by
  obtain ⟨-, h1, h2⟩ := gN_k h
  exact fig_nat ⟨h1, Int32.not_lt.mpr h2⟩
theorem tsr {κ ν : Nat → Int32} {B : Nat → Nat → Int32} {rt : Nat → Int32} {i i' t : Nat} (h : TestAt κ ν B i t) (g : MTest κ ν rt i' t) : TsR (B 0 i) (B 1 i) (B 2 i) (rt i') (rt (i' + 1)) (rt (i' + 2)) := by
  obtain ⟨h0, h1, h2, h3, h4⟩ := h
  obtain ⟨g1, g2, g3⟩ := g
  unfold gT at h0
  by_cases c1 : κ t = 6711655
  · rw [if_pos c1] at h0
    by_cases d1 : gN κ ν (t + 1) 0 15 = 0
    · rw [if_neg (fun z => z d1)] at h0
      by_cases d2 : κ (t + 2) = 24948
      · rw [if_neg (fun z => z d2)] at h0
        by_cases d3 : gN κ ν (t + 3) 0 15 = 0
        · left
          refine ⟨h1.trans c1, by rw [g1, oc, if_pos c1], by rw [g2, h2], by rw [g3, b9, if_pos c1, h3 c1], ?_⟩
          rw [h3 c1]; exact num_fig d3
        · rw [if_pos d3] at h0; exact absurd h0 d3
      · rw [if_pos d2] at h0; exact absurd h0 (show ¬ (1 : Int32) = 0 by decide)
    · rw [if_pos d1] at h0; exact absurd h0 d1
  rw [if_neg c1] at h0
  by_cases c2 : κ t = 1935764837
  · rw [if_pos c2] at h0
    by_cases d1 : gN κ ν (t + 1) 0 15 = 0
    · rw [if_neg (fun z => z d1)] at h0
      by_cases d3 : gN κ ν (t + 2) 0 15 = 0
      · right; left
        refine ⟨h1.trans c2, by rw [g1, oc, if_neg c1, if_pos c2], by rw [g2, h2], by rw [g3, b9, if_neg c1, if_pos c2, h4 c2], ?_, ?_⟩
        · rw [h2]; exact num_fig d1
        · rw [h4 c2]; exact num_fig d3
      · rw [if_pos d3] at h0; exact absurd h0 d3
    · rw [if_pos d1] at h0; exact absurd h0 d1
  rw [if_neg c2] at h0
  by_cases c3 : κ t = 1885434739
  · right; right; left
    exact ⟨h1.trans c3, by rw [g1, oc, if_neg c1, if_neg c2, if_pos c3], by rw [g2, h2]⟩
  rw [if_neg c3] at h0
  by_cases c4 : κ t = 1702258030
  · rw [if_pos c4] at h0
    by_cases d1 : gN κ ν (t + 1) 0 15 = 0
    · right; right; right
      exact ⟨h1.trans c4, by rw [g1, oc, if_neg c1, if_neg c2, if_neg c3], by rw [g2, h2], by rw [h2]; exact num_fig d1⟩
    · rw [if_pos d1] at h0; exact absurd h0 d1
  rw [if_neg c4] at h0
  exact absurd h0 (show ¬ (1 : Int32) = 0 by decide)
theorem rru_of {κ ν : Nat → Int32} {B : Nat → Nat → Int32} {te ts sy : Nat → Int32} {n : Nat} {q : RuX} {i7 : Int32} (hn : n ≤ 15) (h7 : i7 = nI n) (h : RepS κ ν B n q) (g : MRep κ ν te ts sy n q) : Rru n B i7 te ts sy q.1 := by
  refine ⟨hn, h7, fun r hr => ?_⟩
  obtain ⟨a1, a2, a3, a4⟩ := h r hr
  obtain ⟨b1, b2, b3, b4, b5⟩ := g r hr
  exact ⟨a3.1, a2, b3, fun j hj => tsr (a3.2 j hj) (b4 j hj), b5.trans a4.symm⟩
theorem ps_sa {b : Nat → Int32} {u T : Nat} {st ln : Nat → Nat} {A : Nat → Nat → Int32} (h : TokE b u T st ln A) (t : Nat) : ps T u A t = nI (sa T u st t) := by
  unfold ps sa
  by_cases c : t < T
  · rw [if_pos c, if_pos c]; exact (h.2 t c).1
  · rw [if_neg c, if_neg c]
def RXv (x : RiX) : Int32 := if x.1 = 1 then nI x.2.2.2 else -1000100 - x.2.2.1.2.1 2
def swA (a : Nat → Nat) (k : Nat) : Nat := if 21 ≤ k ∧ k < 27 then a (k + 6) else if 27 ≤ k ∧ k < 33 then a (k - 6) else a k
/-- the class behind rules -/
abbrev WR (Γ : Gm) (hx : Nat) (a : Nat → Nat) (sh : Nat → Nat) (it : Nat → Nat) (f : Nat → Option Nat) (lw : Nat → Int64) (up : Nat → Int64) (ua : Int64) (code : Int32) (mk : Int64) (lfa : Int32) (lfi : Int32) (lk : Int32) (dr : Int64) (un : Int64) (ms : Ms) (u : Nat) (tb : Nat → Int32) (nx : Nat) (RI : Nat → Int32) (T : Nat) (uT : Nat) (TA : Nat → Nat → Int32) (z : Nat) (cs : Nat → Int64) (en : Nat → Int32) (al : Nat → Int32) (he : Nat → Int32) (σ : TrS) (n : Nat) (Bf : Nat → Nat → Int32) (n' : Nat) (B' : Nat → Nat → Int32) (ln : Nat → Int32) (sz : Nat → Nat) (itf : Nat → Nat → Int32) (x : RiX) : va_W := [wXo hx (a 1) (a 2) (a 5) (a 7) (a 14) (a 19) (if x.1 = 1 then a 27 else a 21) (if x.1 = 1 then a 21 else a 27) code mk (if x.1 = 1 then lfa else x.2.2.1.2.1 1) lfi, (a 1, .inl (Γ.2.2.2, 8, .inr (.inr (.inr (.inr f))))), wMe (a 2) (a 3) (a 4) ua lk dr un ms, (a 3, .inl (Γ.2.2.1, 256, .inr (.inl lw))), (a 4, .inl (Γ.2.2.1, 256, .inr (.inl up))), (a 5, .inr (6, [.ref (a 6), .int (nI 0)])), (a 6, .inl (Γ.2.1, 400, .inl tb)), wRd Γ (a 7) (a 8) x.2.2.1.1 x.2.2.1.2.1, (a 8, .inr (7, [.ref (a 9), .ref (a 10), .ref (a 11), .ref (a 12), .ref (a 13), .int (nI x.2.1.1), .int (nI u)])), (a 9, .inl (Γ.2.1, 401, .inl (x.2.1.2.2.2 0))), (a 10, .inl (Γ.2.1, 401, .inl (x.2.1.2.2.2 1))), (a 11, .inl (Γ.2.1, 401, .inl (x.2.1.2.2.2 2))), (a 12, .inl (Γ.2.1, 401, .inl (x.2.1.2.2.2 3))), (a 13, .inl (Γ.2.1, 401, .inl (x.2.1.2.2.2 4))), (a 14, .inr (1, [.ref (a 15), .ref (a 16), .ref (a 17), .ref (a 18), .int (nI z)])), (a 15, .inl (Γ.2.2.1, 100, .inr (.inl cs))), (a 16, .inl (Γ.2.1, 100, .inl en)), (a 17, .inl (Γ.2.1, 3, .inl al)), (a 18, .inl (Γ.2.1, 3, .inl he)), (a 19, .inr (0, [.ref (a 20), .int (nI σ.2)])), (a 20, .inl (Γ.2.1, 16, .inl σ.1)), (a 21, .inr (4, [.ref (a 22), .ref (a 23), .ref (a 24), .ref (a 25), .ref (a 26), .int (nI n)])), (a 22, .inl (Γ.2.1, 60, .inl (Bf 0))), (a 23, .inl (Γ.2.1, 60, .inl (Bf 1))), (a 24, .inl (Γ.2.1, 60, .inl (Bf 2))), (a 25, .inl (Γ.2.1, 15, .inl (Bf 3))), (a 26, .inl (Γ.2.1, 15, .inl (Bf 4))), (a 27, .inr (4, [.ref (a 28), .ref (a 29), .ref (a 30), .ref (a 31), .ref (a 32), .int (nI x.2.2.2)])), (a 28, .inl (Γ.2.1, 60, .inl (x.2.2.1.2.2 0))), (a 29, .inl (Γ.2.1, 60, .inl (x.2.2.1.2.2 1))), (a 30, .inl (Γ.2.1, 60, .inl (x.2.2.1.2.2 2))), (a 31, .inl (Γ.2.1, 15, .inl (x.2.2.1.2.2 3))), (a 32, .inl (Γ.2.1, 15, .inl (x.2.2.1.2.2 4))), (sh 0, .inr (5, [.ref (it 0), .int (ln 0), .int (nI (sz 0))])), (it 0, .inl (Γ.2.1, 60, .inl (itf 0))), (sh 1, .inr (5, [.ref (it 1), .int (ln 1), .int (nI (sz 1))])), (it 1, .inl (Γ.2.1, 60, .inl (itf 1))), (sh 2, .inr (5, [.ref (it 2), .int (ln 2), .int (nI (sz 2))])), (it 2, .inl (Γ.2.1, 60, .inl (itf 2))), (sh 3, .inr (5, [.ref (it 3), .int (ln 3), .int (nI (sz 3))])), (it 3, .inl (Γ.2.1, 60, .inl (itf 3))), (sh 4, .inr (5, [.ref (it 4), .int (ln 4), .int (nI (sz 4))])), (it 4, .inl (Γ.2.1, 60, .inl (itf 4))), (sh 5, .inr (5, [.ref (it 5), .int (ln 5), .int (nI (sz 5))])), (it 5, .inl (Γ.2.1, 60, .inl (itf 5))), (sh 6, .inr (5, [.ref (it 6), .int (ln 6), .int (nI (sz 6))])), (it 6, .inl (Γ.2.1, 60, .inl (itf 6))), (sh 7, .inr (5, [.ref (it 7), .int (ln 7), .int (nI (sz 7))])), (it 7, .inl (Γ.2.1, 60, .inl (itf 7)))]
theorem o_rulX (l : Launch) (Γ : Gm) {hx : Nat} {a : Nat → Nat} {sh : Nat → Nat} {it : Nat → Nat} {f : Nat → Option Nat} {lw : Nat → Int64} {up : Nat → Int64} {ua : Int64} {code : Int32} {mk : Int64} {lfa : Int32} {lfi : Int32} {lk : Int32} {dr : Int64} {un : Int64} {ms : Ms} {u : Nat} {tb : Nat → Int32} {nx : Nat} {RI : Nat → Int32} {T : Nat} {uT : Nat} {TA : Nat → Nat → Int32} {z : Nat} {cs : Nat → Int64} {en : Nat → Int32} {al : Nat → Int32} {he : Nat → Int32} {σ : TrS} {n : Nat} {Bf : Nat → Nat → Int32} {n' : Nat} {B' : Nat → Nat → Int32} {ln : Nat → Int32} {sz : Nat → Nat} {itf : Nat → Nat → Int32} (hu : u ≤ 400) : Ce (α := RiX) l Γ yX10_rules cX10_rules 3 (some .int) 6 [.ref hx] (WX Γ hx (a) (sh) (it) (f) (lw) (up) (ua) (code) (mk) (lfa) (lfi) (lk) (dr) (un) (ms) (u) (tb) (nx) (RI) (T) (uT) (TA) (z) (cs) (en) (al) (he) (σ) (n) (Bf) (n') (B') (ln) (sz) (itf)) (fun x => RiQ tb u x) (fun x => some (.int (RXv x))) (fun x => WR Γ hx a sh it f lw up ua code mk lfa lfi lk dr un ms u tb nx RI T uT TA z cs en al he σ n Bf n' B' ln sz itf x) :=
  (c_X10_rules l Γ hu).lift [0, 7, 8, 9, 10, 11, 12, 13, 27, 28, 29, 30, 31, 32, 5, 6] rfl (by decide) (fun _ => rfl)
theorem o_rulM (l : Launch) (Γ : Gm) {hm : Nat} {q : Nat → Nat} {I : Nat → Int32} {mln : Nat → Int32} {mmn : Nat → Int32} {mit : Nat → Int32} {pl : Nat → Int32} {te : Nat → Int32} {ts : Nat → Int32} {sy : Nat → Int32} {a2 : Nat → Int32} {rt : Nat → Int32} {s2 : Nat → Int32} {tp : Nat → Int32} {cc : Nat → Int32} {ce : Nat → Int32} {tr : Nat → Int32} {u T : Nat} {st ln : Nat → Nat} {A : Nat → Nat → Int32} (h16 : I 16 = nI u) (hu : u ≤ 400) (hTk : TokE tp u T st ln A) (hby : ∀ x, x < u → ∃ y, y < 256 ∧ tp x = nI y) : Ce (α := MuX) l Γ yX11_rules cX11_rules 3 (some .int) 6 [.ref hm] (WM Γ hm (q) (I) (mln) (mmn) (mit) (pl) (te) (ts) (sy) (a2) (rt) (s2) (tp) (cc) (ce) (tr)) (fun y => MuQ T u st A I te ts sy y) (fun y => some (.int y.1)) (fun y => WM Γ hm q y.2.1 mln mmn mit pl (y.2.2 3) (y.2.2 4) (y.2.2 5) (y.2.2 0) (y.2.2 1) (y.2.2 2) tp cc ce tr) :=
  (c_X11_rules l Γ h16 hu hTk hby).lift [0, 11, 8, 9, 10, 5, 6, 7] rfl (by decide) (fun _ => rfl)
theorem o_rulR (Γ : Gm) {hx hm : Nat} {a : Nat → Nat} {sh : Nat → Nat} {it : Nat → Nat} {f : Nat → Option Nat} {lw : Nat → Int64} {up : Nat → Int64} {ua : Int64} {code : Int32} {mk : Int64} {lfa : Int32} {lfi : Int32} {lk : Int32} {dr : Int64} {un : Int64} {ms : Ms} {u : Nat} {tb : Nat → Int32} {nx : Nat} {RI : Nat → Int32} {T : Nat} {uT : Nat} {TA : Nat → Nat → Int32} {z : Nat} {cs : Nat → Int64} {en : Nat → Int32} {al : Nat → Int32} {he : Nat → Int32} {σ : TrS} {n : Nat} {Bf : Nat → Nat → Int32} {n' : Nat} {B' : Nat → Nat → Int32} {ln : Nat → Int32} {sz : Nat → Nat} {itf : Nat → Nat → Int32} {q : Nat → Nat} {I : Nat → Int32} {mln : Nat → Int32} {mmn : Nat → Int32} {mit : Nat → Int32} {pl : Nat → Int32} {te : Nat → Int32} {ts : Nat → Int32} {sy : Nat → Int32} {a2 : Nat → Int32} {rt : Nat → Int32} {s2 : Nat → Int32} {tp : Nat → Int32} {cc : Nat → Int32} {ce : Nat → Int32} {tr : Nat → Int32} {c0 : Nat} {tn : Nat → Nat} {cn : Nat → Nat} (hk : Rk (sh) (f) (lw) (up) (ua)) (hch : Rch (code) (mk) ((I) 5) (c0)) (hst : Rst ((I) 1) ((I) 17) (lfa) (lfi)) (hme : Rme (lw) (up) (ua) (lk) (dr) (un) (ms)) (htp : Rtp (u) (tb) ((I) 16) (tp)) (hru : Rru (n) (Bf) ((I) 7) (te) (ts) (sy) (tn)) (hbk : Rbk (z) (cs) (en) (al) ((I) 25) (cc) (ce) (cn)) (hbd : Rbd (σ) ((I) 29) (tr)) (hsh : Rsh (ln) (sz) (itf) (mln) (mmn) (mit)) (x : RiX) (y : MuX) (hx9 : RiQ tb u x) (hy : MuQ x.2.1.1 u x.2.1.2.1 x.2.1.2.2.2 I te ts sy y) : y.1 = RXv x ∧ ∃ (wx' : va_W) (is : List Nat), va_nd is = true ∧ is.map (fun i => (WR Γ hx a sh it f lw up ua code mk lfa lfi lk dr un ms u tb nx RI T uT TA z cs en al he σ n Bf n' B' ln sz itf x)[i]?) = wx'.map some ∧ RelW Γ hx hm wx' (WM Γ hm q y.2.1 mln mmn mit pl (y.2.2 3) (y.2.2 4) (y.2.2 5) (y.2.2 0) (y.2.2 1) (y.2.2 2) tp cc ce tr) := by
  obtain ⟨x1, x2, x3, x4⟩ := x
  obtain ⟨hTk, hn15, hcase⟩ := hx9
  obtain ⟨⟨i1, i5, i25, i29, i16⟩, hm9⟩ := hy
  dsimp only at hTk hn15 hcase hm9
  rcases hcase with ⟨e1, t, q9, hG, hrep⟩ | ⟨e1, hG, hr1, hr2⟩
  · rcases hm9 with ⟨t2, n2, q2, hG2, hn2, hy1, h7, h17, hmr⟩ | ⟨hG2, _⟩
    · have hE := hG.symm.trans hG2
      obtain ⟨-, hE1⟩ := Prod.mk.inj hE
      obtain ⟨-, hE2⟩ := Prod.mk.inj hE1
      obtain ⟨hE3, hE4⟩ := Prod.mk.inj hE2
      subst hE3; subst hE4
      subst e1
      refine ⟨hy1.trans (if_pos rfl).symm, WX Γ hx (swA a) (sh) (it) (f) (lw) (up) (ua) (code) (mk) (lfa) (lfi) (lk) (dr) (un) (ms) (0) (tb) (x3.1) (x3.2.1) (x2.1) (u) (x2.2.2.2) (z) (cs) (en) (al) (he) (σ) (x4) (x3.2.2) (n) (Bf) (ln) (sz) (itf), [0, 1, 2, 3, 4, 5, 6, 7, 8, 9, 10, 11, 12, 13, 14, 15, 16, 17, 18, 19, 20, 27, 28, 29, 30, 31, 32, 21, 22, 23, 24, 25, 26, 33, 34, 35, 36, 37, 38, 39, 40, 41, 42, 43, 44, 45, 46, 47, 48], by decide, rfl, ?_⟩
      exact ⟨swA a, sh, it, f, lw, up, ua, code, mk, lfa, lfi, lk, dr, un, ms, 0, tb, x3.1, x3.2.1, x2.1, u, x2.2.2.2, z, cs, en, al, he, σ, x4, x3.2.2, n, Bf, ln, sz, itf, q, y.2.1, mln, mmn, mit, pl, y.2.2 3, y.2.2 4, y.2.2 5, y.2.2 0, y.2.2 1, y.2.2 2, tp, cc, ce, tr, c0, q9.1, cn, rfl, rfl, hk, ⟨hch.1, hch.2.1, hch.2.2.1, i5.trans hch.2.2.2⟩, ⟨i1.trans hst.1, h17.trans hst.2⟩, hme, ⟨Nat.zero_le _, i16, htp.2.2.1, htp.2.2.2⟩, rru_of hn15 h7 hrep hmr, ⟨hbk.1, i25.trans hbk.2.1, hbk.2.2⟩, ⟨hbd.1, i29.trans hbd.2.1, hbd.2.2⟩, hsh⟩
    · rw [hG] at hG2; exact absurd rfl hG2
  · rcases hm9 with ⟨t2, n2, q2, hG2, hn2, hy1, h7, h17, hmr⟩ | ⟨hG2, hy1, h7, h17, ete, ets, esy⟩
    · rw [hG2] at hG; exact absurd rfl hG
    · subst e1
      refine ⟨hy1.trans ?_, WX Γ hx (a) (sh) (it) (f) (lw) (up) (ua) (code) (mk) (x3.2.1 1) (lfi) (lk) (dr) (un) (ms) (0) (tb) (x3.1) (x3.2.1) (x2.1) (u) (x2.2.2.2) (z) (cs) (en) (al) (he) (σ) (n) (Bf) (x4) (x3.2.2) (ln) (sz) (itf), [0, 1, 2, 3, 4, 5, 6, 7, 8, 9, 10, 11, 12, 13, 14, 15, 16, 17, 18, 19, 20, 21, 22, 23, 24, 25, 26, 27, 28, 29, 30, 31, 32, 33, 34, 35, 36, 37, 38, 39, 40, 41, 42, 43, 44, 45, 46, 47, 48], by decide, rfl, ?_⟩
      · rw [RXv, if_neg (show ¬ (0 : Int32) = 1 by decide), hr2, ps_sa hTk]
      · exact ⟨a, sh, it, f, lw, up, ua, code, mk, x3.2.1 1, lfi, lk, dr, un, ms, 0, tb, x3.1, x3.2.1, x2.1, u, x2.2.2.2, z, cs, en, al, he, σ, n, Bf, x4, x3.2.2, ln, sz, itf, q, y.2.1, mln, mmn, mit, pl, y.2.2 3, y.2.2 4, y.2.2 5, y.2.2 0, y.2.2 1, y.2.2 2, tp, cc, ce, tr, c0, tn, cn, rfl, rfl, hk, ⟨hch.1, hch.2.1, hch.2.2.1, i5.trans hch.2.2.2⟩, ⟨i1.trans hst.1, h17.trans hr1.symm⟩, hme, ⟨Nat.zero_le _, i16, htp.2.2.1, htp.2.2.2⟩, ⟨hru.1, h7.trans hru.2.1, by rw [ete, ets, esy]; exact hru.2.2⟩, ⟨hbk.1, i25.trans hbk.2.1, hbk.2.2⟩, ⟨hbd.1, i29.trans hbd.2.1, hbd.2.2⟩, hsh⟩