theorem o_sheet (l : Launch) (Γ : Gm) {hx hm : Nat} {a : Nat → Nat} {sh : Nat → Nat} {it : Nat → Nat} {f : Nat → Option Nat} {lw : Nat → Int64} {up : Nat → Int64} {ua : Int64} {code : Int32} {mk : Int64} {lfa : Int32} {lfi : Int32} {lk : Int32} {dr : Int64} {un : Int64} {ms : Ms} {u : Nat} {tb : Nat → Int32} {nx : Nat} {RI : Nat → Int32} {T : Nat} {uT : Nat} {TA : Nat → Nat → Int32} {z : Nat} {cs : Nat → Int64} {en : Nat → Int32} {al : Nat → Int32} {he : Nat → Int32} {σ : TrS} {n : Nat} {Bf : Nat → Nat → Int32} {n' : Nat} {B' : Nat → Nat → Int32} {ln : Nat → Int32} {sz : Nat → Nat} {itf : Nat → Nat → Int32} {q : Nat → Nat} {I : Nat → Int32} {mln : Nat → Int32} {mmn : Nat → Int32} {mit : Nat → Int32} {pl : Nat → Int32} {te : Nat → Int32} {ts : Nat → Int32} {sy : Nat → Int32} {a2 : Nat → Int32} {rt : Nat → Int32} {s2 : Nat → Int32} {tp : Nat → Int32} {cc : Nat → Int32} {ce : Nat → Int32} {tr : Nat → Int32} {c0 : Nat} {tn : Nat → Nat} {cn : Nat → Nat} (hk : Rk (sh) (f) (lw) (up) (ua)) (hch : Rch (code) (mk) ((I) 5) (c0)) (hst : Rst ((I) 1) ((I) 17) (lfa) (lfi)) (hme : Rme (lw) (up) (ua) (lk) (dr) (un) (ms)) (htp : Rtp (u) (tb) ((I) 16) (tp)) (hru : Rru (n) (Bf) ((I) 7) (te) (ts) (sy) (tn)) (hbk : Rbk (z) (cs) (en) (al) ((I) 25) (cc) (ce) (cn)) (hbd : Rbd (σ) ((I) 29) (tr)) (hsh : Rsh (ln) (sz) (itf) (mln) (mmn) (mit)) (v1 : Int32) (v2 : Int32) (v3 : Int32) : OpR l Γ hx hm (WX Γ hx (a) (sh) (it) (f) (lw) (up) (ua) (code) (mk) (lfa) (lfi) (lk) (dr) (un) (ms) (u) (tb) (nx) (RI) (T) (uT) (TA) (z) (cs) (en) (al) (he) (σ) (n) (Bf) (n') (B') (ln) (sz) (itf)) (WM Γ hm (q) (I) (mln) (mmn) (mit) (pl) (te) (ts) (sy) (a2) (rt) (s2) (tp) (cc) (ce) (tr)) yX10_sheet cX10_sheet 4 5 yX11_sheet cX11_sheet 5 4 [.int v1, .int v2, .int v3] := by
  have hln := hsh.1
  subst hln
  have hs2 := hsh.2.1
  have hs3 := hsh.2.2.1
  have hs4 := hsh.2.2.2.1
  have hs5 := hsh.2.2.2.2
  rcases i32_cases v1 8 (by decide) with c | ⟨j, hj, rfl⟩
  · skip
    refine ⟨-1000001, WX Γ hx (a) (sh) (it) (f) (lw) (up) (ua) (code) (mk) (lfa) (lfi) (lk) (dr) (un) (ms) (u) (tb) (nx) (RI) (T) (uT) (TA) (z) (cs) (en) (al) (he) (σ) (n) (Bf) (n') (B') (mln) (sz) (itf), WM Γ hm (q) (upd I 0 0) (mln) (mmn) (mit) (pl) (te) (ts) (sy) (a2) (rt) (s2) (tp) (cc) (ce) (tr), ?_, ?_, ?_⟩
    · exact ⟨a, sh, it, f, lw, up, ua, code, mk, lfa, lfi, lk, dr, un, ms, u, tb, nx, RI, T, uT, TA, z, cs, en, al, he, σ, n, Bf, n', B', mln, sz, itf, q, upd I 0 0, mln, mmn, mit, pl, te, ts, sy, a2, rt, s2, tp, cc, ce, tr, c0, tn, cn, rfl, rfl, hk, hch, hst, hme, htp, hru, hbk, hbd, hsh⟩
    · exact (c_X10_sheet_bad l Γ (Or.inl c)).lift [0] rfl (by decide) rfl
    · exact (c_X11_sheet_bad l Γ (Or.inl (sh7 c))).lift [0] rfl (by decide) rfl
  · by_cases c2 : ¬ (¬ v2 < 0 ∧ ¬ 2 < v2) ∨ ¬ v3 ≤ 60
    · skip
      refine ⟨-1000001, WX Γ hx (a) (sh) (it) (f) (lw) (up) (ua) (code) (mk) (lfa) (lfi) (lk) (dr) (un) (ms) (u) (tb) (nx) (RI) (T) (uT) (TA) (z) (cs) (en) (al) (he) (σ) (n) (Bf) (n') (B') (mln) (sz) (itf), WM Γ hm (q) (upd I 0 0) (mln) (mmn) (mit) (pl) (te) (ts) (sy) (a2) (rt) (s2) (tp) (cc) (ce) (tr), ?_, ?_, ?_⟩
      · exact ⟨a, sh, it, f, lw, up, ua, code, mk, lfa, lfi, lk, dr, un, ms, u, tb, nx, RI, T, uT, TA, z, cs, en, al, he, σ, n, Bf, n', B', mln, sz, itf, q, upd I 0 0, mln, mmn, mit, pl, te, ts, sy, a2, rt, s2, tp, cc, ce, tr, c0, tn, cn, rfl, rfl, hk, hch, hst, hme, htp, hru, hbk, hbd, hsh⟩
      · exact (c_X10_sheet_bad l Γ (Or.inr c2)).lift [0] rfl (by decide) rfl
      · exact (c_X11_sheet_bad l Γ (Or.inr c2)).lift [0] rfl (by decide) rfl
    · have hl : ¬ v2 < 0 ∧ ¬ 2 < v2 := Decidable.byContradiction fun z => c2 (Or.inl z)
      have hn0 : v3 ≤ 60 := Decidable.byContradiction fun z => c2 (Or.inr z)
      by_cases c3 : v3 < 0
      · skip
        refine ⟨-1000014, WX Γ hx (a) (sh) (it) (f) (lw) (up) (ua) (code) (mk) (lfa) (4) (lk) (dr) (un) (ms) (u) (tb) (nx) (RI) (T) (uT) (TA) (z) (cs) (en) (al) (he) (σ) (n) (Bf) (n') (B') (mln) (sz) (itf), WM Γ hm (q) (upd (upd (upd I 0 0) 1 0) 1 4) (mln) (mmn) (mit) (pl) (te) (ts) (sy) (a2) (rt) (s2) (tp) (cc) (ce) (tr), ?_, ?_, ?_⟩
        · exact ⟨a, sh, it, f, lw, up, ua, code, mk, lfa, 4, lk, dr, un, ms, u, tb, nx, RI, T, uT, TA, z, cs, en, al, he, σ, n, Bf, n', B', mln, sz, itf, q, upd (upd (upd I 0 0) 1 0) 1 4, mln, mmn, mit, pl, te, ts, sy, a2, rt, s2, tp, cc, ce, tr, c0, tn, cn, rfl, rfl, hk, hch, ⟨rfl, hst.2⟩, hme, htp, hru, hbk, hbd, hsh⟩
        · exact (c_X10_sheet_size l Γ hj hl c3).lift [0] rfl (by decide) rfl
        · exact (c_X11_sheet_size l Γ hj hl c3).lift [0] rfl (by decide) rfl
      · obtain ⟨n9, hn9, rfl⟩ := i32_nat c3
        have hn : n9 ≤ 60 := (nI_leI hn9 (by decide)).mp hn0
        refine ⟨nI n9, WX Γ hx (a) (sh) (it) (f) (lw) (up) (ua) (code) (mk) (lfa) (0) (lk) (dr) (un) (ms) (u) (tb) (nx) (RI) (T) (uT) (TA) (z) (cs) (en) (al) (he) (σ) (n) (Bf) (n') (B') (upd mln j v2) (upN sz j n9) (updF itf j (s_zf (itf j) 60)), WM Γ hm (q) (upd (upd I 0 0) 1 0) (upd mln j v2) (upd mmn j (nI n9)) (s_zr mit j 60) (pl) (te) (ts) (sy) (a2) (rt) (s2) (tp) (cc) (ce) (tr), ?_, ?_, ?_⟩
        · exact ⟨a, sh, it, f, lw, up, ua, code, mk, lfa, 0, lk, dr, un, ms, u, tb, nx, RI, T, uT, TA, z, cs, en, al, he, σ, n, Bf, n', B', upd mln j v2, upN sz j n9, updF itf j (s_zf (itf j) 60), q, upd (upd I 0 0) 1 0, upd mln j v2, upd mmn j (nI n9), s_zr mit j 60, pl, te, ts, sy, a2, rt, s2, tp, cc, ce, tr, c0, tn, cn, rfl, rfl, hk, hch, ⟨rfl, hst.2⟩, hme, htp, hru, hbk, hbd, Rsh_sheet hsh hj hn hl.1⟩
        · exact lift_s hj (c_X10_sheet_ok l Γ hj (hk.1 j hj) hl hn)
        · exact (c_X11_sheet_ok l Γ hj hl hn).lift [0, 1, 2, 3] rfl (by decide) rfl
theorem o_set (l : Launch) (Γ : Gm) {hx hm : Nat} {a : Nat → Nat} {sh : Nat → Nat} {it : Nat → Nat} {f : Nat → Option Nat} {lw : Nat → Int64} {up : Nat → Int64} {ua : Int64} {code : Int32} {mk : Int64} {lfa : Int32} {lfi : Int32} {lk : Int32} {dr : Int64} {un : Int64} {ms : Ms} {u : Nat} {tb : Nat → Int32} {nx : Nat} {RI : Nat → Int32} {T : Nat} {uT : Nat} {TA : Nat → Nat → Int32} {z : Nat} {cs : Nat → Int64} {en : Nat → Int32} {al : Nat → Int32} {he : Nat → Int32} {σ : TrS} {n : Nat} {Bf : Nat → Nat → Int32} {n' : Nat} {B' : Nat → Nat → Int32} {ln : Nat → Int32} {sz : Nat → Nat} {itf : Nat → Nat → Int32} {q : Nat → Nat} {I : Nat → Int32} {mln : Nat → Int32} {mmn : Nat → Int32} {mit : Nat → Int32} {pl : Nat → Int32} {te : Nat → Int32} {ts : Nat → Int32} {sy : Nat → Int32} {a2 : Nat → Int32} {rt : Nat → Int32} {s2 : Nat → Int32} {tp : Nat → Int32} {cc : Nat → Int32} {ce : Nat → Int32} {tr : Nat → Int32} {c0 : Nat} {tn : Nat → Nat} {cn : Nat → Nat} (hk : Rk (sh) (f) (lw) (up) (ua)) (hch : Rch (code) (mk) ((I) 5) (c0)) (hst : Rst ((I) 1) ((I) 17) (lfa) (lfi)) (hme : Rme (lw) (up) (ua) (lk) (dr) (un) (ms)) (htp : Rtp (u) (tb) ((I) 16) (tp)) (hru : Rru (n) (Bf) ((I) 7) (te) (ts) (sy) (tn)) (hbk : Rbk (z) (cs) (en) (al) ((I) 25) (cc) (ce) (cn)) (hbd : Rbd (σ) ((I) 29) (tr)) (hsh : Rsh (ln) (sz) (itf) (mln) (mmn) (mit)) (v1 : Int32) (v2 : Int32) (v3 : Int32) : OpR l Γ hx hm (WX Γ hx (a) (sh) (it) (f) (lw) (up) (ua) (code) (mk) (lfa) (lfi) (lk) (dr) (un) (ms) (u) (tb) (nx) (RI) (T) (uT) (TA) (z) (cs) (en) (al) (he) (σ) (n) (Bf) (n') (B') (ln) (sz) (itf)) (WM Γ hm (q) (I) (mln) (mmn) (mit) (pl) (te) (ts) (sy) (a2) (rt) (s2) (tp) (cc) (ce) (tr)) yX10_set cX10_set 5 5 yX11_set cX11_set 4 4 [.int v1, .int v2, .int v3] := by
  have hln := hsh.1
  subst hln
  have hs2 := hsh.2.1
  have hs3 := hsh.2.2.1
  have hs4 := hsh.2.2.2.1
  have hs5 := hsh.2.2.2.2
  rcases i32_cases v1 8 (by decide) with c | ⟨j, hj, rfl⟩
  · skip
    refine ⟨-1000001, WX Γ hx (a) (sh) (it) (f) (lw) (up) (ua) (code) (mk) (lfa) (lfi) (lk) (dr) (un) (ms) (u) (tb) (nx) (RI) (T) (uT) (TA) (z) (cs) (en) (al) (he) (σ) (n) (Bf) (n') (B') (mln) (sz) (itf), WM Γ hm (q) (upd I 0 0) (mln) (mmn) (mit) (pl) (te) (ts) (sy) (a2) (rt) (s2) (tp) (cc) (ce) (tr), ?_, ?_, ?_⟩
    · exact ⟨a, sh, it, f, lw, up, ua, code, mk, lfa, lfi, lk, dr, un, ms, u, tb, nx, RI, T, uT, TA, z, cs, en, al, he, σ, n, Bf, n', B', mln, sz, itf, q, upd I 0 0, mln, mmn, mit, pl, te, ts, sy, a2, rt, s2, tp, cc, ce, tr, c0, tn, cn, rfl, rfl, hk, hch, hst, hme, htp, hru, hbk, hbd, hsh⟩
    · exact (c_X10_set_bad l Γ c).lift [0] rfl (by decide) rfl
    · exact (c_X11_set_bad l Γ (sh7 c)).lift [0] rfl (by decide) rfl
  · rcases find_1 (lane := mln j) (x := v2) (hs3 j hj) with ⟨cn9, e⟩ | ⟨cn9, e, ne⟩ | ⟨cn9, k, hk9, rfl⟩
    · skip
      refine ⟨-1000011, WX Γ hx (a) (sh) (it) (f) (lw) (up) (ua) (code) (mk) (lfa) (1) (lk) (dr) (un) (ms) (u) (tb) (nx) (RI) (T) (uT) (TA) (z) (cs) (en) (al) (he) (σ) (n) (Bf) (n') (B') (mln) (sz) (itf), WM Γ hm (q) (upd (upd (upd I 0 0) 1 0) 1 1) (mln) (mmn) (mit) (pl) (te) (ts) (sy) (a2) (rt) (s2) (tp) (cc) (ce) (tr), ?_, ?_, ?_⟩
      · exact ⟨a, sh, it, f, lw, up, ua, code, mk, lfa, 1, lk, dr, un, ms, u, tb, nx, RI, T, uT, TA, z, cs, en, al, he, σ, n, Bf, n', B', mln, sz, itf, q, upd (upd (upd I 0 0) 1 0) 1 1, mln, mmn, mit, pl, te, ts, sy, a2, rt, s2, tp, cc, ce, tr, c0, tn, cn, rfl, rfl, hk, hch, ⟨rfl, hst.2⟩, hme, htp, hru, hbk, hbd, hsh⟩
      · exact lift_r hj ((c_X10_set_no l Γ hj (hk.1 j hj) e (by decide)).to (show (-1000010 - 1 : Int32) = -1000011 by decide))
      · exact (c_X11_set_null l Γ hj ((hs2 j hj).mpr cn9)).lift [0, 1] rfl (by decide) rfl
    · skip
      refine ⟨-1000012, WX Γ hx (a) (sh) (it) (f) (lw) (up) (ua) (code) (mk) (lfa) (2) (lk) (dr) (un) (ms) (u) (tb) (nx) (RI) (T) (uT) (TA) (z) (cs) (en) (al) (he) (σ) (n) (Bf) (n') (B') (mln) (sz) (itf), WM Γ hm (q) (upd (upd (upd I 0 0) 1 0) 1 2) (mln) (mmn) (mit) (pl) (te) (ts) (sy) (a2) (rt) (s2) (tp) (cc) (ce) (tr), ?_, ?_, ?_⟩
      · exact ⟨a, sh, it, f, lw, up, ua, code, mk, lfa, 2, lk, dr, un, ms, u, tb, nx, RI, T, uT, TA, z, cs, en, al, he, σ, n, Bf, n', B', mln, sz, itf, q, upd (upd (upd I 0 0) 1 0) 1 2, mln, mmn, mit, pl, te, ts, sy, a2, rt, s2, tp, cc, ce, tr, c0, tn, cn, rfl, rfl, hk, hch, ⟨rfl, hst.2⟩, hme, htp, hru, hbk, hbd, hsh⟩
      · exact lift_r hj ((c_X10_set_no l Γ hj (hk.1 j hj) e (by decide)).to (show (-1000010 - 2 : Int32) = -1000012 by decide))
      · exact (c_X11_set_place l Γ hj (fun z => cn9 ((hs2 j hj).mp z)) (hs4 j hj cn9) (hs3 j hj) ne).lift [0, 1, 2] rfl (by decide) rfl
    · skip
      refine ⟨s_nar (mln j) v3, WX Γ hx (a) (sh) (it) (f) (lw) (up) (ua) (code) (mk) (lfa) (0) (lk) (dr) (un) (ms) (u) (tb) (nx) (RI) (T) (uT) (TA) (z) (cs) (en) (al) (he) (σ) (n) (Bf) (n') (B') (mln) (sz) (updF itf j (upd (itf j) k (s_nar (mln j) v3))), WM Γ hm (q) (upd (upd I 0 0) 1 0) (mln) (mmn) (upd mit (60 * j + k) (s_nar (mln j) v3)) (pl) (te) (ts) (sy) (a2) (rt) (s2) (tp) (cc) (ce) (tr), ?_, ?_, ?_⟩
      · exact ⟨a, sh, it, f, lw, up, ua, code, mk, lfa, 0, lk, dr, un, ms, u, tb, nx, RI, T, uT, TA, z, cs, en, al, he, σ, n, Bf, n', B', mln, sz, updF itf j (upd (itf j) k (s_nar (mln j) v3)), q, upd (upd I 0 0) 1 0, mln, mmn, upd mit (60 * j + k) (s_nar (mln j) v3), pl, te, ts, sy, a2, rt, s2, tp, cc, ce, tr, c0, tn, cn, rfl, rfl, hk, hch, ⟨rfl, hst.2⟩, hme, htp, hru, hbk, hbd, Rsh_set hsh hj (by have := hs3 j hj; omega)⟩
      · exact lift_i hj (c_X10_set_ok l Γ hj (hk.1 j hj) cn9 hk9 (hs3 j hj))
      · exact (c_X11_set_ok l Γ hj (fun z => cn9 ((hs2 j hj).mp z)) (hs4 j hj cn9) (hs3 j hj) hk9).lift [0, 1, 2, 3] rfl (by decide) rfl
theorem o_drop (l : Launch) (Γ : Gm) {hx hm : Nat} {a : Nat → Nat} {sh : Nat → Nat} {it : Nat → Nat} {f : Nat → Option Nat} {lw : Nat → Int64} {up : Nat → Int64} {ua : Int64} {code : Int32} {mk : Int64} {lfa : Int32} {lfi : Int32} {lk : Int32} {dr : Int64} {un : Int64} {ms : Ms} {u : Nat} {tb : Nat → Int32} {nx : Nat} {RI : Nat → Int32} {T : Nat} {uT : Nat} {TA : Nat → Nat → Int32} {z : Nat} {cs : Nat → Int64} {en : Nat → Int32} {al : Nat → Int32} {he : Nat → Int32} {σ : TrS} {n : Nat} {Bf : Nat → Nat → Int32} {n' : Nat} {B' : Nat → Nat → Int32} {ln : Nat → Int32} {sz : Nat → Nat} {itf : Nat → Nat → Int32} {q : Nat → Nat} {I : Nat → Int32} {mln : Nat → Int32} {mmn : Nat → Int32} {mit : Nat → Int32} {pl : Nat → Int32} {te : Nat → Int32} {ts : Nat → Int32} {sy : Nat → Int32} {a2 : Nat → Int32} {rt : Nat → Int32} {s2 : Nat → Int32} {tp : Nat → Int32} {cc : Nat → Int32} {ce : Nat → Int32} {tr : Nat → Int32} {c0 : Nat} {tn : Nat → Nat} {cn : Nat → Nat} (hk : Rk (sh) (f) (lw) (up) (ua)) (hch : Rch (code) (mk) ((I) 5) (c0)) (hst : Rst ((I) 1) ((I) 17) (lfa) (lfi)) (hme : Rme (lw) (up) (ua) (lk) (dr) (un) (ms)) (htp : Rtp (u) (tb) ((I) 16) (tp)) (hru : Rru (n) (Bf) ((I) 7) (te) (ts) (sy) (tn)) (hbk : Rbk (z) (cs) (en) (al) ((I) 25) (cc) (ce) (cn)) (hbd : Rbd (σ) ((I) 29) (tr)) (hsh : Rsh (ln) (sz) (itf) (mln) (mmn) (mit)) (v1 : Int32) : OpR l Γ hx hm (WX Γ hx (a) (sh) (it) (f) (lw) (up) (ua) (code) (mk) (lfa) (lfi) (lk) (dr) (un) (ms) (u) (tb) (nx) (RI) (T) (uT) (TA) (z) (cs) (en) (al) (he) (σ) (n) (Bf) (n') (B') (ln) (sz) (itf)) (WM Γ hm (q) (I) (mln) (mmn) (mit) (pl) (te) (ts) (sy) (a2) (rt) (s2) (tp) (cc) (ce) (tr)) yX10_drop cX10_drop 3 5 yX11_drop cX11_drop 2 4 [.int v1] := by
  have hln := hsh.1
  subst hln
  have hs2 := hsh.2.1
  have hs3 := hsh.2.2.1
  have hs4 := hsh.2.2.2.1
  have hs5 := hsh.2.2.2.2
  rcases i32_cases v1 8 (by decide) with c | ⟨j, hj, rfl⟩
  · skip
    refine ⟨-1000001, WX Γ hx (a) (sh) (it) (f) (lw) (up) (ua) (code) (mk) (lfa) (lfi) (lk) (dr) (un) (ms) (u) (tb) (nx) (RI) (T) (uT) (TA) (z) (cs) (en) (al) (he) (σ) (n) (Bf) (n') (B') (mln) (sz) (itf), WM Γ hm (q) (upd I 0 0) (mln) (mmn) (mit) (pl) (te) (ts) (sy) (a2) (rt) (s2) (tp) (cc) (ce) (tr), ?_, ?_, ?_⟩
    · exact ⟨a, sh, it, f, lw, up, ua, code, mk, lfa, lfi, lk, dr, un, ms, u, tb, nx, RI, T, uT, TA, z, cs, en, al, he, σ, n, Bf, n', B', mln, sz, itf, q, upd I 0 0, mln, mmn, mit, pl, te, ts, sy, a2, rt, s2, tp, cc, ce, tr, c0, tn, cn, rfl, rfl, hk, hch, hst, hme, htp, hru, hbk, hbd, hsh⟩
    · exact (c_X10_drop_bad l Γ c).lift [0] rfl (by decide) rfl
    · exact (c_X11_drop_bad l Γ (sh7 c)).lift [0] rfl (by decide) rfl
  · by_cases cn9 : mln j = -1
    · skip
      refine ⟨-1000011, WX Γ hx (a) (sh) (it) (f) (lw) (up) (ua) (code) (mk) (lfa) (1) (lk) (dr) (un) (ms) (u) (tb) (nx) (RI) (T) (uT) (TA) (z) (cs) (en) (al) (he) (σ) (n) (Bf) (n') (B') (mln) (sz) (itf), WM Γ hm (q) (upd (upd (upd I 0 0) 1 0) 1 1) (mln) (mmn) (mit) (pl) (te) (ts) (sy) (a2) (rt) (s2) (tp) (cc) (ce) (tr), ?_, ?_, ?_⟩
      · exact ⟨a, sh, it, f, lw, up, ua, code, mk, lfa, 1, lk, dr, un, ms, u, tb, nx, RI, T, uT, TA, z, cs, en, al, he, σ, n, Bf, n', B', mln, sz, itf, q, upd (upd (upd I 0 0) 1 0) 1 1, mln, mmn, mit, pl, te, ts, sy, a2, rt, s2, tp, cc, ce, tr, c0, tn, cn, rfl, rfl, hk, hch, ⟨rfl, hst.2⟩, hme, htp, hru, hbk, hbd, hsh⟩
      · exact lift_r hj (c_X10_drop_no l Γ hj (hk.1 j hj) cn9)
      · exact (c_X11_drop_null l Γ hj ((hs2 j hj).mpr cn9)).lift [0, 1] rfl (by decide) rfl
    · skip
      refine ⟨nI (sz j), WX Γ hx (a) (sh) (it) (f) (lw) (up) (ua) (code) (mk) (lfa) (0) (lk) (dr) (un) (ms) (u) (tb) (nx) (RI) (T) (uT) (TA) (z) (cs) (en) (al) (he) (σ) (n) (Bf) (n') (B') (upd mln j (-1)) (upN sz j 0) (updF itf j (itf j)), WM Γ hm (q) (upd (upd I 0 0) 1 0) (upd mln j (-1)) (mmn) (mit) (pl) (te) (ts) (sy) (a2) (rt) (s2) (tp) (cc) (ce) (tr), ?_, ?_, ?_⟩
      · exact ⟨a, sh, it, f, lw, up, ua, code, mk, lfa, 0, lk, dr, un, ms, u, tb, nx, RI, T, uT, TA, z, cs, en, al, he, σ, n, Bf, n', B', upd mln j (-1), upN sz j 0, updF itf j (itf j), q, upd (upd I 0 0) 1 0, upd mln j (-1), mmn, mit, pl, te, ts, sy, a2, rt, s2, tp, cc, ce, tr, c0, tn, cn, rfl, rfl, hk, hch, ⟨rfl, hst.2⟩, hme, htp, hru, hbk, hbd, Rsh_drop hsh hj⟩
      · exact lift_s hj (c_X10_drop_ok l Γ hj (hk.1 j hj) cn9)
      · exact ((c_X11_drop_ok l Γ hj (fun z => cn9 ((hs2 j hj).mp z))).to (hs4 j hj cn9)).lift [0, 1, 2] rfl (by decide) rfl
theorem o_cast (l : Launch) (Γ : Gm) {hx hm : Nat} {a : Nat → Nat} {sh : Nat → Nat} {it : Nat → Nat} {f : Nat → Option Nat} {lw : Nat → Int64} {up : Nat → Int64} {ua : Int64} {code : Int32} {mk : Int64} {lfa : Int32} {lfi : Int32} {lk : Int32} {dr : Int64} {un : Int64} {ms : Ms} {u : Nat} {tb : Nat → Int32} {nx : Nat} {RI : Nat → Int32} {T : Nat} {uT : Nat} {TA : Nat → Nat → Int32} {z : Nat} {cs : Nat → Int64} {en : Nat → Int32} {al : Nat → Int32} {he : Nat → Int32} {σ : TrS} {n : Nat} {Bf : Nat → Nat → Int32} {n' : Nat} {B' : Nat → Nat → Int32} {ln : Nat → Int32} {sz : Nat → Nat} {itf : Nat → Nat → Int32} {q : Nat → Nat} {I : Nat → Int32} {mln : Nat → Int32} {mmn : Nat → Int32} {mit : Nat → Int32} {pl : Nat → Int32} {te : Nat → Int32} {ts : Nat → Int32} {sy : Nat → Int32} {a2 : Nat → Int32} {rt : Nat → Int32} {s2 : Nat → Int32} {tp : Nat → Int32} {cc : Nat → Int32} {ce : Nat → Int32} {tr : Nat → Int32} {c0 : Nat} {tn : Nat → Nat} {cn : Nat → Nat} (hk : Rk (sh) (f) (lw) (up) (ua)) (hch : Rch (code) (mk) ((I) 5) (c0)) (hst : Rst ((I) 1) ((I) 17) (lfa) (lfi)) (hme : Rme (lw) (up) (ua) (lk) (dr) (un) (ms)) (htp : Rtp (u) (tb) ((I) 16) (tp)) (hru : Rru (n) (Bf) ((I) 7) (te) (ts) (sy) (tn)) (hbk : Rbk (z) (cs) (en) (al) ((I) 25) (cc) (ce) (cn)) (hbd : Rbd (σ) ((I) 29) (tr)) (hsh : Rsh (ln) (sz) (itf) (mln) (mmn) (mit)) (v1 : Int32) (v2 : Int32) : OpR l Γ hx hm (WX Γ hx (a) (sh) (it) (f) (lw) (up) (ua) (code) (mk) (lfa) (lfi) (lk) (dr) (un) (ms) (u) (tb) (nx) (RI) (T) (uT) (TA) (z) (cs) (en) (al) (he) (σ) (n) (Bf) (n') (B') (ln) (sz) (itf)) (WM Γ hm (q) (I) (mln) (mmn) (mit) (pl) (te) (ts) (sy) (a2) (rt) (s2) (tp) (cc) (ce) (tr)) yX10_cast cX10_cast 4 5 yX11_cast cX11_cast 6 4 [.int v1, .int v2] := by
  have hln := hsh.1
  subst hln
  have hs2 := hsh.2.1
  have hs3 := hsh.2.2.1
  have hs4 := hsh.2.2.2.1
  have hs5 := hsh.2.2.2.2
  rcases i32_cases v1 8 (by decide) with c | ⟨j, hj, rfl⟩
  · skip
    refine ⟨-1000001, WX Γ hx (a) (sh) (it) (f) (lw) (up) (ua) (code) (mk) (lfa) (lfi) (lk) (dr) (un) (ms) (u) (tb) (nx) (RI) (T) (uT) (TA) (z) (cs) (en) (al) (he) (σ) (n) (Bf) (n') (B') (mln) (sz) (itf), WM Γ hm (q) (upd I 0 0) (mln) (mmn) (mit) (pl) (te) (ts) (sy) (a2) (rt) (s2) (tp) (cc) (ce) (tr), ?_, ?_, ?_⟩
    · exact ⟨a, sh, it, f, lw, up, ua, code, mk, lfa, lfi, lk, dr, un, ms, u, tb, nx, RI, T, uT, TA, z, cs, en, al, he, σ, n, Bf, n', B', mln, sz, itf, q, upd I 0 0, mln, mmn, mit, pl, te, ts, sy, a2, rt, s2, tp, cc, ce, tr, c0, tn, cn, rfl, rfl, hk, hch, hst, hme, htp, hru, hbk, hbd, hsh⟩
    · exact (c_X10_cast_bad l Γ c).lift [0] rfl (by decide) rfl
    · exact (c_X11_cast_bad l Γ (sh7 c)).lift [0] rfl (by decide) rfl
  · rcases find_16 (lane := mln j) (x := v2) (hs3 j hj) with ⟨cn9, e⟩ | ⟨cn9, e, ne⟩ | ⟨cn9, k, hk9, rfl⟩
    · skip
      refine ⟨-1000011, WX Γ hx (a) (sh) (it) (f) (lw) (up) (ua) (code) (mk) (lfa) (1) (lk) (dr) (un) (ms) (u) (tb) (nx) (RI) (T) (uT) (TA) (z) (cs) (en) (al) (he) (σ) (n) (Bf) (n') (B') (mln) (sz) (itf), WM Γ hm (q) (upd (upd I 0 0) 1 1) (mln) (mmn) (mit) (pl) (te) (ts) (sy) (a2) (rt) (s2) (tp) (cc) (ce) (tr), ?_, ?_, ?_⟩
      · exact ⟨a, sh, it, f, lw, up, ua, code, mk, lfa, 1, lk, dr, un, ms, u, tb, nx, RI, T, uT, TA, z, cs, en, al, he, σ, n, Bf, n', B', mln, sz, itf, q, upd (upd I 0 0) 1 1, mln, mmn, mit, pl, te, ts, sy, a2, rt, s2, tp, cc, ce, tr, c0, tn, cn, rfl, rfl, hk, hch, ⟨rfl, hst.2⟩, hme, htp, hru, hbk, hbd, hsh⟩
      · exact lift_r hj ((c_X10_cast_no l Γ hj (hk.1 j hj) e (by decide)).to (show (-1000010 - 1 : Int32) = -1000011 by decide))
      · exact (c_X11_cast_null l Γ hj ((hs2 j hj).mpr cn9)).lift [0, 1] rfl (by decide) rfl
    · skip
      refine ⟨-1000012, WX Γ hx (a) (sh) (it) (f) (lw) (up) (ua) (code) (mk) (lfa) (2) (lk) (dr) (un) (ms) (u) (tb) (nx) (RI) (T) (uT) (TA) (z) (cs) (en) (al) (he) (σ) (n) (Bf) (n') (B') (mln) (sz) (itf), WM Γ hm (q) (upd (upd I 0 0) 1 2) (mln) (mmn) (mit) (pl) (te) (ts) (sy) (a2) (rt) (s2) (tp) (cc) (ce) (tr), ?_, ?_, ?_⟩
      · exact ⟨a, sh, it, f, lw, up, ua, code, mk, lfa, 2, lk, dr, un, ms, u, tb, nx, RI, T, uT, TA, z, cs, en, al, he, σ, n, Bf, n', B', mln, sz, itf, q, upd (upd I 0 0) 1 2, mln, mmn, mit, pl, te, ts, sy, a2, rt, s2, tp, cc, ce, tr, c0, tn, cn, rfl, rfl, hk, hch, ⟨rfl, hst.2⟩, hme, htp, hru, hbk, hbd, hsh⟩
      · exact lift_r hj ((c_X10_cast_no l Γ hj (hk.1 j hj) e (by decide)).to (show (-1000010 - 2 : Int32) = -1000012 by decide))
      · exact (c_X11_cast_place l Γ hj (fun z => cn9 ((hs2 j hj).mp z)) (hs4 j hj cn9) (hs3 j hj) ne).lift [0, 1, 2] rfl (by decide) rfl
    · have hsz := hs3 j hj
      have hsame : ∀ i, i < 16 → s_off mit j (k + i) = itf j (k + i) := fun i hi => (hs5 j hj (k + i) (by omega)).symm
      by_cases cw : s_within (itf j) k 0 2147483647 16
      · obtain ⟨c1, hc1, e⟩ := odd_lt (itf j) k 16 (Nat.le_refl _)
        have eo : s_odd (s_off mit j) k 16 = s_odd (itf j) k 16 := odd_cong hsame
        refine ⟨s_odd (itf j) k 16, WX Γ hx (a) (sh) (it) (f) (lw) (up) (ua) (s_odd (itf j) k 16) (s_ofc (s_odd (itf j) k 16)) (lfa) (0) (lk) (dr) (un) (ms) (u) (tb) (nx) (RI) (T) (uT) (TA) (z) (cs) (en) (al) (he) (σ) (n) (Bf) (n') (B') (mln) (sz) (itf), WM Γ hm (q) (upd (upd (upd I 0 0) 1 0) 5 (s_odd (s_off mit j) k 16)) (mln) (mmn) (mit) (pl) (te) (ts) (sy) (a2) (rt) (s2) (tp) (cc) (ce) (tr), ?_, ?_, ?_⟩
        · exact ⟨a, sh, it, f, lw, up, ua, s_odd (itf j) k 16, s_ofc (s_odd (itf j) k 16), lfa, 0, lk, dr, un, ms, u, tb, nx, RI, T, uT, TA, z, cs, en, al, he, σ, n, Bf, n', B', mln, sz, itf, q, upd (upd (upd I 0 0) 1 0) 5 (s_odd (s_off mit j) k 16), mln, mmn, mit, pl, te, ts, sy, a2, rt, s2, tp, cc, ce, tr, c1, tn, cn, rfl, rfl, hk, ⟨e, hc1, by rw [e, s_ofc_N hc1], eo.trans e⟩, ⟨rfl, hst.2⟩, hme, htp, hru, hbk, hbd, hsh⟩
        · exact lift_r hj (c_X10_cast_ok l Γ hj (hk.1 j hj) cn9 hk9 hsz cw)
        · exact ((c_X11_cast_ok l Γ hj (fun z => cn9 ((hs2 j hj).mp z)) (hs4 j hj cn9) hsz hk9 ((wi_cong hsame).mpr cw)).to eo).lift [0, 1, 2, 3] rfl (by decide) rfl
      · skip
        refine ⟨-1000001, WX Γ hx (a) (sh) (it) (f) (lw) (up) (ua) (code) (mk) (lfa) (lfi) (lk) (dr) (un) (ms) (u) (tb) (nx) (RI) (T) (uT) (TA) (z) (cs) (en) (al) (he) (σ) (n) (Bf) (n') (B') (mln) (sz) (itf), WM Γ hm (q) (upd I 0 0) (mln) (mmn) (mit) (pl) (te) (ts) (sy) (a2) (rt) (s2) (tp) (cc) (ce) (tr), ?_, ?_, ?_⟩
        · exact ⟨a, sh, it, f, lw, up, ua, code, mk, lfa, lfi, lk, dr, un, ms, u, tb, nx, RI, T, uT, TA, z, cs, en, al, he, σ, n, Bf, n', B', mln, sz, itf, q, upd I 0 0, mln, mmn, mit, pl, te, ts, sy, a2, rt, s2, tp, cc, ce, tr, c0, tn, cn, rfl, rfl, hk, hch, hst, hme, htp, hru, hbk, hbd, hsh⟩
        · exact lift_r hj (c_X10_cast_neg l Γ hj (hk.1 j hj) cn9 hk9 hsz cw)
        · exact (c_X11_cast_neg l Γ hj (fun z => cn9 ((hs2 j hj).mp z)) (hs4 j hj cn9) hsz hk9 (fun z => cw ((wi_cong hsame).mp z))).lift [0, 1, 2, 3] rfl (by decide) rfl
theorem o_drawing (l : Launch) (Γ : Gm) {hx hm : Nat} {a : Nat → Nat} {sh : Nat → Nat} {it : Nat → Nat} {f : Nat → Option Nat} {lw : Nat → Int64} {up : Nat → Int64} {ua : Int64} {code : Int32} {mk : Int64} {lfa : Int32} {lfi : Int32} {lk : Int32} {dr : Int64} {un : Int64} {ms : Ms} {u : Nat} {tb : Nat → Int32} {nx : Nat} {RI : Nat → Int32} {T : Nat} {uT : Nat} {TA : Nat → Nat → Int32} {z : Nat} {cs : Nat → Int64} {en : Nat → Int32} {al : Nat → Int32} {he : Nat → Int32} {σ : TrS} {n : Nat} {Bf : Nat → Nat → Int32} {n' : Nat} {B' : Nat → Nat → Int32} {ln : Nat → Int32} {sz : Nat → Nat} {itf : Nat → Nat → Int32} {q : Nat → Nat} {I : Nat → Int32} {mln : Nat → Int32} {mmn : Nat → Int32} {mit : Nat → Int32} {pl : Nat → Int32} {te : Nat → Int32} {ts : Nat → Int32} {sy : Nat → Int32} {a2 : Nat → Int32} {rt : Nat → Int32} {s2 : Nat → Int32} {tp : Nat → Int32} {cc : Nat → Int32} {ce : Nat → Int32} {tr : Nat → Int32} {c0 : Nat} {tn : Nat → Nat} {cn : Nat → Nat} (hk : Rk (sh) (f) (lw) (up) (ua)) (hch : Rch (code) (mk) ((I) 5) (c0)) (hst : Rst ((I) 1) ((I) 17) (lfa) (lfi)) (hme : Rme (lw) (up) (ua) (lk) (dr) (un) (ms)) (htp : Rtp (u) (tb) ((I) 16) (tp)) (hru : Rru (n) (Bf) ((I) 7) (te) (ts) (sy) (tn)) (hbk : Rbk (z) (cs) (en) (al) ((I) 25) (cc) (ce) (cn)) (hbd : Rbd (σ) ((I) 29) (tr)) (hsh : Rsh (ln) (sz) (itf) (mln) (mmn) (mit)) (v1 : Int32) (v2 : Int32) (v3 : Int32) : OpR l Γ hx hm (WX Γ hx (a) (sh) (it) (f) (lw) (up) (ua) (code) (mk) (lfa) (lfi) (lk) (dr) (un) (ms) (u) (tb) (nx) (RI) (T) (uT) (TA) (z) (cs) (en) (al) (he) (σ) (n) (Bf) (n') (B') (ln) (sz) (itf)) (WM Γ hm (q) (I) (mln) (mmn) (mit) (pl) (te) (ts) (sy) (a2) (rt) (s2) (tp) (cc) (ce) (tr)) yX10_drawing cX10_drawing 6 5 yX11_drawing cX11_drawing 14 4 [.int v1, .int v2, .int v3] := by
  have hln := hsh.1
  subst hln
  have hs2 := hsh.2.1
  have hs3 := hsh.2.2.1
  have hs4 := hsh.2.2.2.1
  have hs5 := hsh.2.2.2.2
  rcases i32_cases v1 8 (by decide) with c | ⟨j, hj, rfl⟩
  · skip
    refine ⟨-1000001, WX Γ hx (a) (sh) (it) (f) (lw) (up) (ua) (code) (mk) (lfa) (lfi) (lk) (dr) (un) (ms) (u) (tb) (nx) (RI) (T) (uT) (TA) (z) (cs) (en) (al) (he) (σ) (n) (Bf) (n') (B') (mln) (sz) (itf), WM Γ hm (q) (upd I 0 0) (mln) (mmn) (mit) (pl) (te) (ts) (sy) (a2) (rt) (s2) (tp) (cc) (ce) (tr), ?_, ?_, ?_⟩
    · exact ⟨a, sh, it, f, lw, up, ua, code, mk, lfa, lfi, lk, dr, un, ms, u, tb, nx, RI, T, uT, TA, z, cs, en, al, he, σ, n, Bf, n', B', mln, sz, itf, q, upd I 0 0, mln, mmn, mit, pl, te, ts, sy, a2, rt, s2, tp, cc, ce, tr, c0, tn, cn, rfl, rfl, hk, hch, hst, hme, htp, hru, hbk, hbd, hsh⟩
    · exact (c_X10_draw_bad l Γ (Or.inl c)).lift [0] rfl (by decide) rfl
    · exact (c_X11_draw_bad l Γ (Or.inl (sh7 c))).lift [0] rfl (by decide) rfl
  · by_cases c2 : v3 < 0 ∨ ¬ v3 ≤ 4
    · skip
      refine ⟨-1000001, WX Γ hx (a) (sh) (it) (f) (lw) (up) (ua) (code) (mk) (lfa) (lfi) (lk) (dr) (un) (ms) (u) (tb) (nx) (RI) (T) (uT) (TA) (z) (cs) (en) (al) (he) (σ) (n) (Bf) (n') (B') (mln) (sz) (itf), WM Γ hm (q) (upd I 0 0) (mln) (mmn) (mit) (pl) (te) (ts) (sy) (a2) (rt) (s2) (tp) (cc) (ce) (tr), ?_, ?_, ?_⟩
      · exact ⟨a, sh, it, f, lw, up, ua, code, mk, lfa, lfi, lk, dr, un, ms, u, tb, nx, RI, T, uT, TA, z, cs, en, al, he, σ, n, Bf, n', B', mln, sz, itf, q, upd I 0 0, mln, mmn, mit, pl, te, ts, sy, a2, rt, s2, tp, cc, ce, tr, c0, tn, cn, rfl, rfl, hk, hch, hst, hme, htp, hru, hbk, hbd, hsh⟩
      · exact (c_X10_draw_bad l Γ (Or.inr c2)).lift [0] rfl (by decide) rfl
      · exact (c_X11_draw_bad l Γ (Or.inr c2)).lift [0] rfl (by decide) rfl
    · have hv : ¬ v3 < 0 ∧ v3 ≤ 4 := ⟨fun z => c2 (Or.inl z), Decidable.byContradiction fun z => c2 (Or.inr z)⟩
      have hx9 : v3 = 0 ∨ v3 = 1 ∨ v3 = 2 ∨ v3 = 3 ∨ v3 = 4 := by
        obtain ⟨j9, h9, rfl⟩ := i32_nat hv.1
        have := (nI_leI (b := 4) h9 (by decide)).mp hv.2
        rcases (show j9 = 0 ∨ j9 = 1 ∨ j9 = 2 ∨ j9 = 3 ∨ j9 = 4 by omega) with rfl | rfl | rfl | rfl | rfl
        · exact Or.inl rfl
        · exact Or.inr (Or.inl rfl)
        · exact Or.inr (Or.inr (Or.inl rfl))
        · exact Or.inr (Or.inr (Or.inr (Or.inl rfl)))
        · exact Or.inr (Or.inr (Or.inr (Or.inr rfl)))
      rcases find_16 (lane := mln j) (x := v2) (hs3 j hj) with ⟨cn9, e⟩ | ⟨cn9, e, ne⟩ | ⟨cn9, k, hk9, rfl⟩
      · skip
        refine ⟨-1000011, WX Γ hx (a) (sh) (it) (f) (lw) (up) (ua) (code) (mk) (lfa) (1) (lk) (dr) (un) (ms) (u) (tb) (nx) (RI) (T) (uT) (TA) (z) (cs) (en) (al) (he) (σ) (n) (Bf) (n') (B') (mln) (sz) (itf), WM Γ hm (q) (upd (upd I 0 0) 1 1) (mln) (mmn) (mit) (pl) (te) (ts) (sy) (a2) (rt) (s2) (tp) (cc) (ce) (tr), ?_, ?_, ?_⟩
        · exact ⟨a, sh, it, f, lw, up, ua, code, mk, lfa, 1, lk, dr, un, ms, u, tb, nx, RI, T, uT, TA, z, cs, en, al, he, σ, n, Bf, n', B', mln, sz, itf, q, upd (upd I 0 0) 1 1, mln, mmn, mit, pl, te, ts, sy, a2, rt, s2, tp, cc, ce, tr, c0, tn, cn, rfl, rfl, hk, hch, ⟨rfl, hst.2⟩, hme, htp, hru, hbk, hbd, hsh⟩
        · exact lift_r hj ((c_X10_draw_no l Γ hj (hk.1 j hj) hv e (by decide)).to (show (-1000010 - 1 : Int32) = -1000011 by decide))
        · exact (c_X11_draw_null l Γ hj hv ((hs2 j hj).mpr cn9)).lift [0, 1] rfl (by decide) rfl
      · skip
        refine ⟨-1000012, WX Γ hx (a) (sh) (it) (f) (lw) (up) (ua) (code) (mk) (lfa) (2) (lk) (dr) (un) (ms) (u) (tb) (nx) (RI) (T) (uT) (TA) (z) (cs) (en) (al) (he) (σ) (n) (Bf) (n') (B') (mln) (sz) (itf), WM Γ hm (q) (upd (upd I 0 0) 1 2) (mln) (mmn) (mit) (pl) (te) (ts) (sy) (a2) (rt) (s2) (tp) (cc) (ce) (tr), ?_, ?_, ?_⟩
        · exact ⟨a, sh, it, f, lw, up, ua, code, mk, lfa, 2, lk, dr, un, ms, u, tb, nx, RI, T, uT, TA, z, cs, en, al, he, σ, n, Bf, n', B', mln, sz, itf, q, upd (upd I 0 0) 1 2, mln, mmn, mit, pl, te, ts, sy, a2, rt, s2, tp, cc, ce, tr, c0, tn, cn, rfl, rfl, hk, hch, ⟨rfl, hst.2⟩, hme, htp, hru, hbk, hbd, hsh⟩
        · exact lift_r hj ((c_X10_draw_no l Γ hj (hk.1 j hj) hv e (by decide)).to (show (-1000010 - 2 : Int32) = -1000012 by decide))
        · exact (c_X11_draw_place l Γ hj hv (fun z => cn9 ((hs2 j hj).mp z)) (hs4 j hj cn9) (hs3 j hj) ne).lift [0, 1, 2] rfl (by decide) rfl
      · have hsz := hs3 j hj
        have hsame : ∀ i, i < 16 → s_off mit j (k + i) = itf j (k + i) := fun i hi => (hs5 j hj (k + i) (by omega)).symm
        by_cases cw : s_within (itf j) k (-1) 15 16
        · have hw' : s_within (s_off mit j) k (-1) 15 16 := (wi_cong hsame).mpr cw
          have hq : m_dan (m_dr (s_off mit j) k 65536) v3 = s_mans (s_la lw up ua (s_drw (itf j) k 16) (s_unt (itf j) k 16) 256) v3 := by
            rw [← draw_eq hw' hk.2.1 hk.2.2.1 hk.2.2.2 hx9, (drw_cong hsame).1, (drw_cong hsame).2]
          by_cases cs9 : lk = 0 ∨ ¬ dr = s_drw (itf j) k 16 ∨ ¬ un = s_unt (itf j) k 16
          · skip
            refine ⟨s_mans (s_la lw up ua (s_drw (itf j) k 16) (s_unt (itf j) k 16) 256) v3, WX Γ hx (a) (sh) (it) (f) (lw) (up) (ua) (code) (mk) (lfa) (0) (1) (s_drw (itf j) k 16) (s_unt (itf j) k 16) (s_la lw up ua (s_drw (itf j) k 16) (s_unt (itf j) k 16) 256) (u) (tb) (nx) (RI) (T) (uT) (TA) (z) (cs) (en) (al) (he) (σ) (n) (Bf) (n') (B') (mln) (sz) (itf), WM Γ hm (q) (upd (upd I 0 0) 1 0) (mln) (mmn) (mit) (pz pl (fun k => k) 65536) (te) (ts) (sy) (a2) (rt) (s2) (tp) (cc) (ce) (tr), ?_, ?_, ?_⟩
            · exact ⟨a, sh, it, f, lw, up, ua, code, mk, lfa, 0, 1, s_drw (itf j) k 16, s_unt (itf j) k 16, s_la lw up ua (s_drw (itf j) k 16) (s_unt (itf j) k 16) 256, u, tb, nx, RI, T, uT, TA, z, cs, en, al, he, σ, n, Bf, n', B', mln, sz, itf, q, upd (upd I 0 0) 1 0, mln, mmn, mit, pz pl (fun k => k) 65536, te, ts, sy, a2, rt, s2, tp, cc, ce, tr, c0, tn, cn, rfl, rfl, hk, hch, ⟨rfl, hst.2⟩, Or.inr rfl, htp, hru, hbk, hbd, hsh⟩
            · exact lift_d hj (c_X10_draw_new l Γ hj (hk.1 j hj) hv cn9 hk9 hsz cw cs9)
            · exact ((c_X11_draw_ok l Γ hj hv (fun z => cn9 ((hs2 j hj).mp z)) (hs4 j hj cn9) hsz hk9 hw').to hq).lift [0, 1, 2, 3, 4] rfl (by decide) rfl
          · have d1 : ¬ lk = 0 := fun z => cs9 (Or.inl z)
            have d2 : dr = s_drw (itf j) k 16 := Decidable.byContradiction fun z => cs9 (Or.inr (Or.inl z))
            have d3 : un = s_unt (itf j) k 16 := Decidable.byContradiction fun z => cs9 (Or.inr (Or.inr z))
            have d4 : ms = s_la lw up ua dr un 256 := hme.resolve_left d1
            have hq2 : m_dan (m_dr (s_off mit j) k 65536) v3 = s_mans ms v3 := by rw [hq, d4, d2, d3]
            refine ⟨s_mans ms v3, WX Γ hx (a) (sh) (it) (f) (lw) (up) (ua) (code) (mk) (lfa) (0) (lk) (dr) (un) (ms) (u) (tb) (nx) (RI) (T) (uT) (TA) (z) (cs) (en) (al) (he) (σ) (n) (Bf) (n') (B') (mln) (sz) (itf), WM Γ hm (q) (upd (upd I 0 0) 1 0) (mln) (mmn) (mit) (pz pl (fun k => k) 65536) (te) (ts) (sy) (a2) (rt) (s2) (tp) (cc) (ce) (tr), ?_, ?_, ?_⟩
            · exact ⟨a, sh, it, f, lw, up, ua, code, mk, lfa, 0, lk, dr, un, ms, u, tb, nx, RI, T, uT, TA, z, cs, en, al, he, σ, n, Bf, n', B', mln, sz, itf, q, upd (upd I 0 0) 1 0, mln, mmn, mit, pz pl (fun k => k) 65536, te, ts, sy, a2, rt, s2, tp, cc, ce, tr, c0, tn, cn, rfl, rfl, hk, hch, ⟨rfl, hst.2⟩, hme, htp, hru, hbk, hbd, hsh⟩
            · exact lift_d hj (c_X10_draw_same l Γ hj (hk.1 j hj) hv cn9 hk9 hsz cw d1 d2 d3 (by rw [d4]; exact s_la_le))
            · exact ((c_X11_draw_ok l Γ hj hv (fun z => cn9 ((hs2 j hj).mp z)) (hs4 j hj cn9) hsz hk9 hw').to hq2).lift [0, 1, 2, 3, 4] rfl (by decide) rfl
        · skip
          refine ⟨-1000001, WX Γ hx (a) (sh) (it) (f) (lw) (up) (ua) (code) (mk) (lfa) (lfi) (lk) (dr) (un) (ms) (u) (tb) (nx) (RI) (T) (uT) (TA) (z) (cs) (en) (al) (he) (σ) (n) (Bf) (n') (B') (mln) (sz) (itf), WM Γ hm (q) (upd I 0 0) (mln) (mmn) (mit) (pl) (te) (ts) (sy) (a2) (rt) (s2) (tp) (cc) (ce) (tr), ?_, ?_, ?_⟩
          · exact ⟨a, sh, it, f, lw, up, ua, code, mk, lfa, lfi, lk, dr, un, ms, u, tb, nx, RI, T, uT, TA, z, cs, en, al, he, σ, n, Bf, n', B', mln, sz, itf, q, upd I 0 0, mln, mmn, mit, pl, te, ts, sy, a2, rt, s2, tp, cc, ce, tr, c0, tn, cn, rfl, rfl, hk, hch, hst, hme, htp, hru, hbk, hbd, hsh⟩
          · exact lift_r hj (c_X10_draw_neg l Γ hj (hk.1 j hj) hv cn9 hk9 hsz cw)
          · exact (c_X11_draw_neg l Γ hj hv (fun z => cn9 ((hs2 j hj).mp z)) (hs4 j hj cn9) hsz hk9 (fun z => cw ((wi_cong hsame).mp z))).lift [0, 1, 2, 3] rfl (by decide) rfl