theorem o_fault (l : Launch) (Γ : Gm) {hx hm : Nat} {wx wm : va_W} (h : RelW Γ hx hm wx wm)  : OpR l Γ hx hm wx wm yX10_fault cX10_fault 1 0 yX11_fault cX11_fault 1 0 [] := by
  obtain ⟨a, sh, it, f, lw, up, ua, code, mk, lfa, lfi, lk, dr, un, ms, u, tb, nx, RI, T, uT, TA, z, cs, en, al, he, σ, n, Bf, n', B', ln, sz, itf, q, I, mln, mmn, mit, pl, te, ts, sy, a2, rt, s2, tp, cc, ce, tr, c0, tn, cn, rfl, rfl, hk, hch, hst, hme, htp, hru, hbk, hbd, hsh⟩ := h
  obtain ⟨rfl, rfl⟩ := hst
  refine ⟨I 17, WX Γ hx (a) (sh) (it) (f) (lw) (up) (ua) (code) (mk) (I 17) (I 1) (lk) (dr) (un) (ms) (u) (tb) (nx) (RI) (T) (uT) (TA) (z) (cs) (en) (al) (he) (σ) (n) (Bf) (n') (B') (ln) (sz) (itf), WM Γ hm (q) (upd I 0 0) (mln) (mmn) (mit) (pl) (te) (ts) (sy) (a2) (rt) (s2) (tp) (cc) (ce) (tr), ?_, ?_, ?_⟩
  · exact ⟨a, sh, it, f, lw, up, ua, code, mk, I 17, I 1, lk, dr, un, ms, u, tb, nx, RI, T, uT, TA, z, cs, en, al, he, σ, n, Bf, n', B', ln, sz, itf, q, upd I 0 0, mln, mmn, mit, pl, te, ts, sy, a2, rt, s2, tp, cc, ce, tr, c0, tn, cn, rfl, rfl, hk, hch, ⟨rfl, rfl⟩, hme, htp, hru, hbk, hbd, hsh⟩
  · exact (c_X10_fault l Γ).lift [0] rfl (by decide) rfl
  · exact (c_X11_fault l Γ).lift [0] rfl (by decide) rfl
theorem o_status (l : Launch) (Γ : Gm) {hx hm : Nat} {wx wm : va_W} (h : RelW Γ hx hm wx wm)  : OpR l Γ hx hm wx wm yX10_status cX10_status 1 0 yX11_status cX11_status 1 0 [] := by
  obtain ⟨a, sh, it, f, lw, up, ua, code, mk, lfa, lfi, lk, dr, un, ms, u, tb, nx, RI, T, uT, TA, z, cs, en, al, he, σ, n, Bf, n', B', ln, sz, itf, q, I, mln, mmn, mit, pl, te, ts, sy, a2, rt, s2, tp, cc, ce, tr, c0, tn, cn, rfl, rfl, hk, hch, hst, hme, htp, hru, hbk, hbd, hsh⟩ := h
  obtain ⟨rfl, rfl⟩ := hst
  refine ⟨I 1, WX Γ hx (a) (sh) (it) (f) (lw) (up) (ua) (code) (mk) (I 17) (I 1) (lk) (dr) (un) (ms) (u) (tb) (nx) (RI) (T) (uT) (TA) (z) (cs) (en) (al) (he) (σ) (n) (Bf) (n') (B') (ln) (sz) (itf), WM Γ hm (q) (upd I 0 0) (mln) (mmn) (mit) (pl) (te) (ts) (sy) (a2) (rt) (s2) (tp) (cc) (ce) (tr), ?_, ?_, ?_⟩
  · exact ⟨a, sh, it, f, lw, up, ua, code, mk, I 17, I 1, lk, dr, un, ms, u, tb, nx, RI, T, uT, TA, z, cs, en, al, he, σ, n, Bf, n', B', ln, sz, itf, q, upd I 0 0, mln, mmn, mit, pl, te, ts, sy, a2, rt, s2, tp, cc, ce, tr, c0, tn, cn, rfl, rfl, hk, hch, ⟨rfl, rfl⟩, hme, htp, hru, hbk, hbd, hsh⟩
  · exact (c_X10_status l Γ).lift [0] rfl (by decide) rfl
  · exact (c_X11_status l Γ).lift [0] rfl (by decide) rfl
theorem o_add (l : Launch) (Γ : Gm) {hx hm : Nat} {wx wm : va_W} (h : RelW Γ hx hm wx wm) (v1 : Int32) (v2 : Int32) : OpR l Γ hx hm wx wm yX10_add cX10_add 3 1 yX11_add cX11_add 3 4 [.int v1, .int v2] := by
  obtain ⟨a, sh, it, f, lw, up, ua, code, mk, lfa, lfi, lk, dr, un, ms, u, tb, nx, RI, T, uT, TA, z, cs, en, al, he, σ, n, Bf, n', B', ln, sz, itf, q, I, mln, mmn, mit, pl, te, ts, sy, a2, rt, s2, tp, cc, ce, tr, c0, tn, cn, rfl, rfl, hk, hch, hst, hme, htp, hru, hbk, hbd, hsh⟩ := h
  refine ⟨if (¬ v1 < 0 ∧ ¬ 15 < v1) then if (¬ v2 < 0 ∧ ¬ 15 < v2) then v1 ^^^ v2 else -1000001 else -1000001, WX Γ hx (a) (sh) (it) (f) (lw) (up) (ua) (code) (mk) (lfa) (lfi) (lk) (dr) (un) (ms) (u) (tb) (nx) (RI) (T) (uT) (TA) (z) (cs) (en) (al) (he) (σ) (n) (Bf) (n') (B') (ln) (sz) (itf), WM Γ hm (q) (upd I 0 0) (mln) (mmn) (mit) (pl) (te) (ts) (sy) (a2) (rt) (s2) (tp) (cc) (ce) (tr), ?_, ?_, ?_⟩
  · exact ⟨a, sh, it, f, lw, up, ua, code, mk, lfa, lfi, lk, dr, un, ms, u, tb, nx, RI, T, uT, TA, z, cs, en, al, he, σ, n, Bf, n', B', ln, sz, itf, q, upd I 0 0, mln, mmn, mit, pl, te, ts, sy, a2, rt, s2, tp, cc, ce, tr, c0, tn, cn, rfl, rfl, hk, hch, hst, hme, htp, hru, hbk, hbd, hsh⟩
  · exact (c_X10_add l Γ).lift [0] rfl (by decide) rfl
  · exact (c_X11_add l Γ).lift [0] rfl (by decide) rfl
theorem Ct.to {l : Launch} {Γ : Gm} {y : MethodName} {cc : ByteArray} {maxL : Nat} {ret : Option FieldType} {d : Nat} {av : List Value} {wc wc' : va_W} {r r' : Int32} (h : Ct l Γ y cc maxL ret d av wc (some (.int r)) wc') (e : r = r') : Ct l Γ y cc maxL ret d av wc (some (.int r')) wc' := by
  subst e; exact h
theorem fig_nat {x : Int32} (h : ¬ x < 0 ∧ ¬ 15 < x) : ∃ j, j < 16 ∧ x = nI j := by
  obtain ⟨j, hj, rfl⟩ := i32_nat h.1
  refine ⟨j, ?_, rfl⟩
  have := h.2
  rw [show (15 : Int32) = nI 15 from rfl, nI_ltI (by decide) hj] at this
  omega
theorem kO_nat : ∀ j, j < 16 → s_kO (nI j) = s_told (nI j) := by decide +kernel
theorem told_nat : ∀ j, j < 16 → s_told (nI j) = 1 ∨ s_told (nI j) = 2 ∨ s_told (nI j) = 3 := by decide +kernel
theorem kO_fig {x : Int32} (h : ¬ x < 0 ∧ ¬ 15 < x) : s_kO x = s_told x := by obtain ⟨j, hj, rfl⟩ := fig_nat h; exact kO_nat j hj
theorem told_fig {x : Int32} (h : ¬ x < 0 ∧ ¬ 15 < x) : s_told x = 1 ∨ s_told x = 2 ∨ s_told x = 3 := by obtain ⟨j, hj, rfl⟩ := fig_nat h; exact told_nat j hj
theorem sg_fig {x : Int32} (h : ¬ x < 0 ∧ ¬ 15 < x) : s_sg x = s_bc32 x := by obtain ⟨j, hj, rfl⟩ := fig_nat h; exact sg_bc j hj
theorem o_kind (l : Launch) (Γ : Gm) {hx hm : Nat} {wx wm : va_W} (h : RelW Γ hx hm wx wm) (v1 : Int32) : OpR l Γ hx hm wx wm yX10_kind cX10_kind 2 3 yX11_kind cX11_kind 2 4 [.int v1] := by
  obtain ⟨a, sh, it, f, lw, up, ua, code, mk, lfa, lfi, lk, dr, un, ms, u, tb, nx, RI, T, uT, TA, z, cs, en, al, he, σ, n, Bf, n', B', ln, sz, itf, q, I, mln, mmn, mit, pl, te, ts, sy, a2, rt, s2, tp, cc, ce, tr, c0, tn, cn, rfl, rfl, hk, hch, hst, hme, htp, hru, hbk, hbd, hsh⟩ := h
  have hq : (if (¬ v1 < 0 ∧ ¬ 15 < v1) then s_kO v1 else (-1000001 : Int32)) = if (¬ v1 < 0 ∧ ¬ 15 < v1) then s_told v1 else -1000001 := by
    by_cases c : ¬ v1 < 0 ∧ ¬ 15 < v1
    · rw [if_pos c, if_pos c, kO_fig c]
    · rw [if_neg c, if_neg c]
  refine ⟨if (¬ v1 < 0 ∧ ¬ 15 < v1) then s_told v1 else -1000001, WX Γ hx (a) (sh) (it) (f) (lw) (up) (ua) (code) (mk) (lfa) (lfi) (lk) (dr) (un) (ms) (u) (tb) (nx) (RI) (T) (uT) (TA) (z) (cs) (en) (al) (he) (σ) (n) (Bf) (n') (B') (ln) (sz) (itf), WM Γ hm (q) (upd I 0 0) (mln) (mmn) (mit) (pl) (te) (ts) (sy) (a2) (rt) (s2) (tp) (cc) (ce) (tr), ?_, ?_, ?_⟩
  · exact ⟨a, sh, it, f, lw, up, ua, code, mk, lfa, lfi, lk, dr, un, ms, u, tb, nx, RI, T, uT, TA, z, cs, en, al, he, σ, n, Bf, n', B', ln, sz, itf, q, upd I 0 0, mln, mmn, mit, pl, te, ts, sy, a2, rt, s2, tp, cc, ce, tr, c0, tn, cn, rfl, rfl, hk, hch, hst, hme, htp, hru, hbk, hbd, hsh⟩
  · exact (c_X10_kind l Γ).lift [0] rfl (by decide) rfl
  · exact ((c_X11_kind l Γ (a := v1)).to hq).lift [0] rfl (by decide) rfl
theorem o_as (l : Launch) (Γ : Gm) {hx hm : Nat} {wx wm : va_W} (h : RelW Γ hx hm wx wm) (v1 : Int32) (v2 : Int32) : OpR l Γ hx hm wx wm yX10_as cX10_as 3 4 yX11_as cX11_as 4 4 [.int v1, .int v2] := by
  obtain ⟨a, sh, it, f, lw, up, ua, code, mk, lfa, lfi, lk, dr, un, ms, u, tb, nx, RI, T, uT, TA, z, cs, en, al, he, σ, n, Bf, n', B', ln, sz, itf, q, I, mln, mmn, mit, pl, te, ts, sy, a2, rt, s2, tp, cc, ce, tr, c0, tn, cn, rfl, rfl, hk, hch, hst, hme, htp, hru, hbk, hbd, hsh⟩ := h
  by_cases c : ¬ v1 < 0 ∧ ¬ 15 < v1
  · by_cases c2 : v2 < 0 ∨ ¬ v2 ≤ 3
    · skip
      refine ⟨-1000001, WX Γ hx (a) (sh) (it) (f) (lw) (up) (ua) (code) (mk) (lfa) (lfi) (lk) (dr) (un) (ms) (u) (tb) (nx) (RI) (T) (uT) (TA) (z) (cs) (en) (al) (he) (σ) (n) (Bf) (n') (B') (ln) (sz) (itf), WM Γ hm (q) (upd I 0 0) (mln) (mmn) (mit) (pl) (te) (ts) (sy) (a2) (rt) (s2) (tp) (cc) (ce) (tr), ?_, ?_, ?_⟩
      · exact ⟨a, sh, it, f, lw, up, ua, code, mk, lfa, lfi, lk, dr, un, ms, u, tb, nx, RI, T, uT, TA, z, cs, en, al, he, σ, n, Bf, n', B', ln, sz, itf, q, upd I 0 0, mln, mmn, mit, pl, te, ts, sy, a2, rt, s2, tp, cc, ce, tr, c0, tn, cn, rfl, rfl, hk, hch, hst, hme, htp, hru, hbk, hbd, hsh⟩
      · exact (c_X10_as_bad l Γ (Or.inr c2)).lift [0] rfl (by decide) rfl
      · exact (c_X11_as_bad l Γ (Or.inr c2)).lift [0] rfl (by decide) rfl
    · have c3 : ¬ v2 < 0 := fun z => c2 (Or.inl z)
      have c4 : v2 ≤ 3 := Decidable.byContradiction fun z => c2 (Or.inr z)
      by_cases c5 : s_isk v1 v2 = 0
      · skip
        refine ⟨-1000013, WX Γ hx (a) (sh) (it) (f) (lw) (up) (ua) (code) (mk) (lfa) (3) (lk) (dr) (un) (ms) (u) (tb) (nx) (RI) (T) (uT) (TA) (z) (cs) (en) (al) (he) (σ) (n) (Bf) (n') (B') (ln) (sz) (itf), WM Γ hm (q) (upd (upd (upd I 0 0) 1 0) 1 3) (mln) (mmn) (mit) (pl) (te) (ts) (sy) (a2) (rt) (s2) (tp) (cc) (ce) (tr), ?_, ?_, ?_⟩
        · exact ⟨a, sh, it, f, lw, up, ua, code, mk, lfa, 3, lk, dr, un, ms, u, tb, nx, RI, T, uT, TA, z, cs, en, al, he, σ, n, Bf, n', B', ln, sz, itf, q, upd (upd (upd I 0 0) 1 0) 1 3, mln, mmn, mit, pl, te, ts, sy, a2, rt, s2, tp, cc, ce, tr, c0, tn, cn, rfl, rfl, hk, hch, ⟨rfl, hst.2⟩, hme, htp, hru, hbk, hbd, hsh⟩
        · exact (c_X10_as_no l Γ c c3 c4 c5).lift [0] rfl (by decide) rfl
        · exact (c_X11_as_no l Γ c c3 c4 (kO_fig c) (sg_fig c) c5).lift [0] rfl (by decide) rfl
      · skip
        refine ⟨8 - s_bc32 v1, WX Γ hx (a) (sh) (it) (f) (lw) (up) (ua) (code) (mk) (lfa) (0) (lk) (dr) (un) (ms) (u) (tb) (nx) (RI) (T) (uT) (TA) (z) (cs) (en) (al) (he) (σ) (n) (Bf) (n') (B') (ln) (sz) (itf), WM Γ hm (q) (upd (upd I 0 0) 1 0) (mln) (mmn) (mit) (pl) (te) (ts) (sy) (a2) (rt) (s2) (tp) (cc) (ce) (tr), ?_, ?_, ?_⟩
        · exact ⟨a, sh, it, f, lw, up, ua, code, mk, lfa, 0, lk, dr, un, ms, u, tb, nx, RI, T, uT, TA, z, cs, en, al, he, σ, n, Bf, n', B', ln, sz, itf, q, upd (upd I 0 0) 1 0, mln, mmn, mit, pl, te, ts, sy, a2, rt, s2, tp, cc, ce, tr, c0, tn, cn, rfl, rfl, hk, hch, ⟨rfl, hst.2⟩, hme, htp, hru, hbk, hbd, hsh⟩
        · exact (c_X10_as_ok l Γ c c3 c4 c5).lift [0] rfl (by decide) rfl
        · exact (c_X11_as_ok l Γ c c3 c4 (kO_fig c) (sg_fig c) c5).lift [0] rfl (by decide) rfl
  · skip
    refine ⟨-1000001, WX Γ hx (a) (sh) (it) (f) (lw) (up) (ua) (code) (mk) (lfa) (lfi) (lk) (dr) (un) (ms) (u) (tb) (nx) (RI) (T) (uT) (TA) (z) (cs) (en) (al) (he) (σ) (n) (Bf) (n') (B') (ln) (sz) (itf), WM Γ hm (q) (upd I 0 0) (mln) (mmn) (mit) (pl) (te) (ts) (sy) (a2) (rt) (s2) (tp) (cc) (ce) (tr), ?_, ?_, ?_⟩
    · exact ⟨a, sh, it, f, lw, up, ua, code, mk, lfa, lfi, lk, dr, un, ms, u, tb, nx, RI, T, uT, TA, z, cs, en, al, he, σ, n, Bf, n', B', ln, sz, itf, q, upd I 0 0, mln, mmn, mit, pl, te, ts, sy, a2, rt, s2, tp, cc, ce, tr, c0, tn, cn, rfl, rfl, hk, hch, hst, hme, htp, hru, hbk, hbd, hsh⟩
    · exact (c_X10_as_bad l Γ (Or.inl c)).lift [0] rfl (by decide) rfl
    · exact (c_X11_as_bad l Γ (Or.inl c)).lift [0] rfl (by decide) rfl
theorem o_chart (l : Launch) (Γ : Gm) {hx hm : Nat} {wx wm : va_W} (h : RelW Γ hx hm wx wm) (v1 : Int32) : OpR l Γ hx hm wx wm yX10_chart cX10_chart 3 3 yX11_chart cX11_chart 3 4 [.int v1] := by
  obtain ⟨a, sh, it, f, lw, up, ua, code, mk, lfa, lfi, lk, dr, un, ms, u, tb, nx, RI, T, uT, TA, z, cs, en, al, he, σ, n, Bf, n', B', ln, sz, itf, q, I, mln, mmn, mit, pl, te, ts, sy, a2, rt, s2, tp, cc, ce, tr, c0, tn, cn, rfl, rfl, hk, hch, hst, hme, htp, hru, hbk, hbd, hsh⟩ := h
  obtain ⟨hc1, hc2, hc3, hc4⟩ := hch
  rcases i32_cases v1 65536 (by decide) with c | ⟨j, hj, rfl⟩
  · skip
    refine ⟨-1000001, WX Γ hx (a) (sh) (it) (f) (lw) (up) (ua) (code) (mk) (lfa) (lfi) (lk) (dr) (un) (ms) (u) (tb) (nx) (RI) (T) (uT) (TA) (z) (cs) (en) (al) (he) (σ) (n) (Bf) (n') (B') (ln) (sz) (itf), WM Γ hm (q) (upd I 0 0) (mln) (mmn) (mit) (pl) (te) (ts) (sy) (a2) (rt) (s2) (tp) (cc) (ce) (tr), ?_, ?_, ?_⟩
    · exact ⟨a, sh, it, f, lw, up, ua, code, mk, lfa, lfi, lk, dr, un, ms, u, tb, nx, RI, T, uT, TA, z, cs, en, al, he, σ, n, Bf, n', B', ln, sz, itf, q, upd I 0 0, mln, mmn, mit, pl, te, ts, sy, a2, rt, s2, tp, cc, ce, tr, c0, tn, cn, rfl, rfl, hk, ⟨hc1, hc2, hc3, hc4⟩, hst, hme, htp, hru, hbk, hbd, hsh⟩
    · exact (c_X10_chart_bad l Γ c).lift [0] rfl (by decide) rfl
    · exact (c_X11_chart_bad l Γ (c.imp_right (i32_up 65535 (by decide)).mpr)).lift [0] rfl (by decide) rfl
  · skip
    refine ⟨code, WX Γ hx (a) (sh) (it) (f) (lw) (up) (ua) (nI j) (s_ofc (nI j)) (lfa) (lfi) (lk) (dr) (un) (ms) (u) (tb) (nx) (RI) (T) (uT) (TA) (z) (cs) (en) (al) (he) (σ) (n) (Bf) (n') (B') (ln) (sz) (itf), WM Γ hm (q) (upd (upd I 0 0) 5 (nI j)) (mln) (mmn) (mit) (pl) (te) (ts) (sy) (a2) (rt) (s2) (tp) (cc) (ce) (tr), ?_, ?_, ?_⟩
    · exact ⟨a, sh, it, f, lw, up, ua, nI j, s_ofc (nI j), lfa, lfi, lk, dr, un, ms, u, tb, nx, RI, T, uT, TA, z, cs, en, al, he, σ, n, Bf, n', B', ln, sz, itf, q, upd (upd I 0 0) 5 (nI j), mln, mmn, mit, pl, te, ts, sy, a2, rt, s2, tp, cc, ce, tr, j, tn, cn, rfl, rfl, hk, ⟨rfl, hj, s_ofc_N hj, rfl⟩, hst, hme, htp, hru, hbk, hbd, hsh⟩
    · exact (c_X10_chart_ok l Γ hj).lift [0] rfl (by decide) rfl
    · exact ((c_X11_chart_ok l Γ hj).to (hc4.trans hc1.symm)).lift [0] rfl (by decide) rfl
theorem o_at (l : Launch) (Γ : Gm) {hx hm : Nat} {wx wm : va_W} (h : RelW Γ hx hm wx wm) (v1 : Int32) : OpR l Γ hx hm wx wm yX10_at cX10_at 2 1 yX11_at cX11_at 2 4 [.int v1] := by
  obtain ⟨a, sh, it, f, lw, up, ua, code, mk, lfa, lfi, lk, dr, un, ms, u, tb, nx, RI, T, uT, TA, z, cs, en, al, he, σ, n, Bf, n', B', ln, sz, itf, q, I, mln, mmn, mit, pl, te, ts, sy, a2, rt, s2, tp, cc, ce, tr, c0, tn, cn, rfl, rfl, hk, hch, hst, hme, htp, hru, hbk, hbd, hsh⟩ := h
  obtain ⟨hc1, hc2, rfl, hc4⟩ := hch
  by_cases c : ¬ v1 < 0 ∧ ¬ 15 < v1
  · obtain ⟨j, hj, rfl⟩ := fig_nat c
    refine ⟨nI (fg c0 j), WX Γ hx (a) (sh) (it) (f) (lw) (up) (ua) (code) (lN (CH c0)) (lfa) (lfi) (lk) (dr) (un) (ms) (u) (tb) (nx) (RI) (T) (uT) (TA) (z) (cs) (en) (al) (he) (σ) (n) (Bf) (n') (B') (ln) (sz) (itf), WM Γ hm (q) (upd I 0 0) (mln) (mmn) (mit) (s_lay pl c0) (te) (ts) (sy) (a2) (rt) (s2) (tp) (cc) (ce) (tr), ?_, ?_, ?_⟩
    · exact ⟨a, sh, it, f, lw, up, ua, code, lN (CH c0), lfa, lfi, lk, dr, un, ms, u, tb, nx, RI, T, uT, TA, z, cs, en, al, he, σ, n, Bf, n', B', ln, sz, itf, q, upd I 0 0, mln, mmn, mit, s_lay pl c0, te, ts, sy, a2, rt, s2, tp, cc, ce, tr, c0, tn, cn, rfl, rfl, hk, ⟨hc1, hc2, rfl, hc4⟩, hst, hme, htp, hru, hbk, hbd, hsh⟩
    · exact ((c_X10_at l Γ (mk := lN (CH c0)) (a := nI j)).to (by rw [if_pos ⟨c.1, nI_ge hj (by decide)⟩, s_fa_CH hj])).lift [0] rfl (by decide) rfl
    · exact (c_X11_at_ok l Γ hc4 hc2 hj).lift [0, 4] rfl (by decide) rfl
  · skip
    refine ⟨-1000001, WX Γ hx (a) (sh) (it) (f) (lw) (up) (ua) (code) (lN (CH c0)) (lfa) (lfi) (lk) (dr) (un) (ms) (u) (tb) (nx) (RI) (T) (uT) (TA) (z) (cs) (en) (al) (he) (σ) (n) (Bf) (n') (B') (ln) (sz) (itf), WM Γ hm (q) (upd I 0 0) (mln) (mmn) (mit) (s_lay pl c0) (te) (ts) (sy) (a2) (rt) (s2) (tp) (cc) (ce) (tr), ?_, ?_, ?_⟩
    · exact ⟨a, sh, it, f, lw, up, ua, code, lN (CH c0), lfa, lfi, lk, dr, un, ms, u, tb, nx, RI, T, uT, TA, z, cs, en, al, he, σ, n, Bf, n', B', ln, sz, itf, q, upd I 0 0, mln, mmn, mit, s_lay pl c0, te, ts, sy, a2, rt, s2, tp, cc, ce, tr, c0, tn, cn, rfl, rfl, hk, ⟨hc1, hc2, rfl, hc4⟩, hst, hme, htp, hru, hbk, hbd, hsh⟩
    · exact ((c_X10_at l Γ (mk := lN (CH c0)) (a := v1)).to (if_neg (fun z => c ⟨z.1, fun y => z.2 ((i32_up 15 (by decide)).mp y)⟩))).lift [0] rfl (by decide) rfl
    · exact (c_X11_at_bad l Γ hc4 hc2 c).lift [0, 4] rfl (by decide) rfl
theorem o_seen (l : Launch) (Γ : Gm) {hx hm : Nat} {wx wm : va_W} (h : RelW Γ hx hm wx wm) (v1 : Int32) : OpR l Γ hx hm wx wm yX10_seen cX10_seen 2 2 yX11_seen cX11_seen 4 4 [.int v1] := by
  obtain ⟨a, sh, it, f, lw, up, ua, code, mk, lfa, lfi, lk, dr, un, ms, u, tb, nx, RI, T, uT, TA, z, cs, en, al, he, σ, n, Bf, n', B', ln, sz, itf, q, I, mln, mmn, mit, pl, te, ts, sy, a2, rt, s2, tp, cc, ce, tr, c0, tn, cn, rfl, rfl, hk, hch, hst, hme, htp, hru, hbk, hbd, hsh⟩ := h
  obtain ⟨hc1, hc2, rfl, hc4⟩ := hch
  by_cases c : ¬ v1 < 0 ∧ ¬ 15 < v1
  · skip
    refine ⟨s_seen (lN (CH c0)) v1 0 16, WX Γ hx (a) (sh) (it) (f) (lw) (up) (ua) (code) (lN (CH c0)) (lfa) (lfi) (lk) (dr) (un) (ms) (u) (tb) (nx) (RI) (T) (uT) (TA) (z) (cs) (en) (al) (he) (σ) (n) (Bf) (n') (B') (ln) (sz) (itf), WM Γ hm (q) (upd I 0 0) (mln) (mmn) (mit) (s_lay pl c0) (te) (ts) (sy) (a2) (rt) (s2) (tp) (cc) (ce) (tr), ?_, ?_, ?_⟩
    · exact ⟨a, sh, it, f, lw, up, ua, code, lN (CH c0), lfa, lfi, lk, dr, un, ms, u, tb, nx, RI, T, uT, TA, z, cs, en, al, he, σ, n, Bf, n', B', ln, sz, itf, q, upd I 0 0, mln, mmn, mit, s_lay pl c0, te, ts, sy, a2, rt, s2, tp, cc, ce, tr, c0, tn, cn, rfl, rfl, hk, ⟨hc1, hc2, rfl, hc4⟩, hst, hme, htp, hru, hbk, hbd, hsh⟩
    · exact ((c_X10_seen l Γ (mk := lN (CH c0)) (a := v1)).to (if_pos c)).lift [0] rfl (by decide) rfl
    · exact (c_X11_seen_ok l Γ hc4 hc2 c).lift [0, 4] rfl (by decide) rfl
  · skip
    refine ⟨-1000001, WX Γ hx (a) (sh) (it) (f) (lw) (up) (ua) (code) (lN (CH c0)) (lfa) (lfi) (lk) (dr) (un) (ms) (u) (tb) (nx) (RI) (T) (uT) (TA) (z) (cs) (en) (al) (he) (σ) (n) (Bf) (n') (B') (ln) (sz) (itf), WM Γ hm (q) (upd I 0 0) (mln) (mmn) (mit) (pl) (te) (ts) (sy) (a2) (rt) (s2) (tp) (cc) (ce) (tr), ?_, ?_, ?_⟩
    · exact ⟨a, sh, it, f, lw, up, ua, code, lN (CH c0), lfa, lfi, lk, dr, un, ms, u, tb, nx, RI, T, uT, TA, z, cs, en, al, he, σ, n, Bf, n', B', ln, sz, itf, q, upd I 0 0, mln, mmn, mit, pl, te, ts, sy, a2, rt, s2, tp, cc, ce, tr, c0, tn, cn, rfl, rfl, hk, ⟨hc1, hc2, rfl, hc4⟩, hst, hme, htp, hru, hbk, hbd, hsh⟩
    · exact ((c_X10_seen l Γ (mk := lN (CH c0)) (a := v1)).to (if_neg c)).lift [0] rfl (by decide) rfl
    · exact (c_X11_seen_bad l Γ c).lift [0] rfl (by decide) rfl
theorem o_point (l : Launch) (Γ : Gm) {hx hm : Nat} {wx wm : va_W} (h : RelW Γ hx hm wx wm)  : OpR l Γ hx hm wx wm yX10_point cX10_point 1 3 yX11_point cX11_point 7 4 [] := by
  obtain ⟨a, sh, it, f, lw, up, ua, code, mk, lfa, lfi, lk, dr, un, ms, u, tb, nx, RI, T, uT, TA, z, cs, en, al, he, σ, n, Bf, n', B', ln, sz, itf, q, I, mln, mmn, mit, pl, te, ts, sy, a2, rt, s2, tp, cc, ce, tr, c0, tn, cn, rfl, rfl, hk, hch, hst, hme, htp, hru, hbk, hbd, hsh⟩ := h
  obtain ⟨hc1, hc2, rfl, hc4⟩ := hch
  refine ⟨(s_ep (lN (CH c0)) 15).2, WX Γ hx (a) (sh) (it) (f) (lw) (up) (ua) (code) (lN (CH c0)) (lfa) (lfi) (lk) (dr) (un) (ms) (u) (tb) (nx) (RI) (T) (uT) (TA) (z) (cs) (en) (al) (he) (σ) (n) (Bf) (n') (B') (ln) (sz) (itf), WM Γ hm (q) (upd I 0 0) (mln) (mmn) (mit) (s_lay pl c0) (te) (ts) (sy) (a2) (rt) (s2) (tp) (cc) (ce) (tr), ?_, ?_, ?_⟩
  · exact ⟨a, sh, it, f, lw, up, ua, code, lN (CH c0), lfa, lfi, lk, dr, un, ms, u, tb, nx, RI, T, uT, TA, z, cs, en, al, he, σ, n, Bf, n', B', ln, sz, itf, q, upd I 0 0, mln, mmn, mit, s_lay pl c0, te, ts, sy, a2, rt, s2, tp, cc, ce, tr, c0, tn, cn, rfl, rfl, hk, ⟨hc1, hc2, rfl, hc4⟩, hst, hme, htp, hru, hbk, hbd, hsh⟩
  · exact (c_X10_point l Γ).lift [0] rfl (by decide) rfl
  · exact (c_X11_point l Γ hc4 hc2).lift [0, 4] rfl (by decide) rfl