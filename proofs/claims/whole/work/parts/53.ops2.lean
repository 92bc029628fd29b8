theorem cnt_cong {en en' : Nat → Int32} {P P' : Nat → Bool} {c : Int32} : ∀ {z : Nat}, (∀ k, k < z → en k = en' k ∧ P k = P' k) → s_cnt en P c z = s_cnt en' P' c z
  | 0, _ => rfl
  | z + 1, h => by rw [s_cnt, s_cnt, (h z (by omega)).1, (h z (by omega)).2, cnt_cong (fun k hk => h k (by omega))]
theorem Rbk_step {z : Nat} {cs : Nat → Int64} {en al : Nat → Int32} {i25 : Int32} {cc ce : Nat → Int32} {cn : Nat → Nat} {k c0 : Nat} {mk : Int64} {i5 : Int32} (h : Rbk z cs en al i25 cc ce cn) (hz : z < 100) (hk : k < 3) (h5 : i5 = nI c0) (hc : c0 < 65536) (hm : mk = lN (CH c0)) : Rbk (z + 1) (vp_updL cs z mk) (upd en z (nI k)) (upd al k (al k + 1)) (nI (z + 1)) (upd cc z i5) (upd ce z (nI k)) (upN cn z c0) := by
  obtain ⟨h1, h2, h3, h4, h6⟩ := h
  refine ⟨by omega, rfl, by rw [h3], fun j hj => ?_, fun c hc3 => ?_⟩
  · by_cases e : j = z
    · subst e
      rw [pk_us, upN_s, pk_us]
      exact ⟨h5, hc, (if_pos rfl).trans hm, k, hk, rfl⟩
    · rw [pk_un e, upN_n _ _ e, pk_un e, show vp_updL cs z mk j = cs j from if_neg e]
      exact h4 j (by omega)
  · have e0 : s_cnt (upd en z (nI k)) (fun _ => true) (nI c) z = s_cnt en (fun _ => true) (nI c) z := cnt_cong (fun j hj => ⟨pk_un (by omega), rfl⟩)
    rw [s_cnt, pk_us, e0]
    by_cases e : c = k
    · subst e
      rw [pk_us, if_pos ⟨rfl, rfl⟩, h6 c hc3]
    · rw [pk_un e, if_neg (fun y => e ((nI_eq (by omega) (by omega)).mp y.1).symm), h6 c hc3]
theorem bst_cong {w w' : Nat → Int32} : ∀ {n : Nat}, (∀ r, r < n → w r = w' r) → s_bst w n = s_bst w' n
  | 0, _ => rfl
  | n + 1, h => by rw [s_bst, s_bst, bst_cong (fun r hr => h r (by omega)), h n (by omega)]
theorem least_b (P : Nat → Bool) : ∀ n, (∀ j, j < n → P j = false) ∨ ∃ r, r < n ∧ P r = true ∧ ∀ j, j < r → P j = false
  | 0 => Or.inl (fun j hj => absurd hj (Nat.not_lt_zero j))
  | n + 1 => by
    rcases least_b P n with h | ⟨r, h1, h2, h3⟩
    · cases hp : P n with
      | false =>
        left
        intro j hj
        by_cases e : j = n
        · rw [e]; exact hp
        · exact h j (by omega)
      | true => exact Or.inr ⟨n, by omega, hp, h⟩
    · exact Or.inr ⟨r, by omega, h2, h3⟩
theorem byte_u {w : Int64} {m : Nat} (hm : m ≤ 7) : ∃ y, y < 256 ∧ (lushrI w (8 * nI m)).toInt32 &&& 255 = nI y := by
  obtain ⟨W, hW, rfl⟩ := lN_of w
  refine ⟨W / 2 ^ (8 * m) % 256, Nat.mod_lt _ (by decide), ?_⟩
  rw [show (8 : Int32) = nI 8 from rfl, pk_mul, ushL hW (by omega), lN_i, show (255 : Int32) = nI 255 from rfl, nandI, show (255 : Nat) = 2 ^ 8 - 1 from rfl, Nat.and_two_pow_sub_one_eq_mod]
theorem b255 : ∀ i, i < 64 → (255#64).getLsbD i = decide (i < 8) := by decide +kernel
theorem b255s : ∀ i, i < 32 → (255#32).getLsbD i = decide (i < 8) := by decide +kernel
theorem sh_ok : ∀ m, m ≤ 7 → (((8 * nI m).toInt64 &&& 63).toBitVec.smod 64).toNat = 8 * m ∧ (((8 * nI m).toInt64.toUInt64 &&& Int64.toUInt64 63).toBitVec % 64).toNat = 8 * m := by decide +kernel
theorem byte_eq {w : Int64} {m : Nat} (hm : m ≤ 7) : ((w >>> ((8 * nI m).toInt64 &&& 63)) &&& 255).toInt32 = (lushrI w (8 * nI m)).toInt32 &&& 255 := by
  apply Int32.toBitVec_inj.1
  apply BitVec.eq_of_getLsbD_eq
  intro i hi
  have hl : ∀ v : Int64, v.toInt32.toBitVec.getLsbD i = v.toBitVec.getLsbD i := fun v => by
    rw [Int64.toBitVec_toInt32, BitVec.getLsbD_signExtend, if_pos (by omega)]
    simp [hi]
  rw [Int32.toBitVec_and, BitVec.getLsbD_and, hl, hl, Int64.toBitVec_and, BitVec.getLsbD_and]
  show ((w >>> ((8 * nI m).toInt64 &&& 63)).toBitVec.getLsbD i && (255#64).getLsbD i) = ((w.toUInt64 >>> ((8 * nI m).toInt64.toUInt64 &&& Int64.toUInt64 63)).toBitVec.getLsbD i && (255#32).getLsbD i)
  rw [b255 i (by omega), b255s i hi]
  by_cases c : i < 8
  · rw [Int64.toBitVec_shiftRight, UInt64.toBitVec_shiftRight, show ∀ (x y : BitVec 64), BitVec.sshiftRight' x y = x.sshiftRight y.toNat from fun _ _ => rfl, BitVec.ushiftRight_eq', (sh_ok m hm).1, (sh_ok m hm).2, BitVec.getLsbD_sshiftRight, BitVec.getLsbD_ushiftRight, if_pos (show 8 * m + i < 64 by omega)]
    have h64 : decide (64 ≤ i) = false := decide_eq_false (by omega)
    rw [h64]
    rfl
  · rw [decide_eq_false c, Bool.and_false, Bool.and_false]
theorem ap_eq {tp : Nat → Int32} {u k : Nat} {w : Int64} (hk : k ≤ 8) : ∀ j, j ≤ k → m_apb tp u w k j = s_apb tp u w k j
  | 0, _ => rfl
  | j + 1, h => by rw [m_apb, s_apb, ap_eq hk j (by omega), byte_eq (by omega)]
theorem ap_by {tp : Nat → Int32} {u k : Nat} {w : Int64} (hk : k ≤ 8) (h0 : ∀ x, ∃ y, y < 256 ∧ tp x = nI y) : ∀ j, j ≤ k → ∀ x, ∃ y, y < 256 ∧ s_apb tp u w k j x = nI y
  | 0, _ => h0
  | j + 1, h => fun x => by
    rw [s_apb]
    by_cases e : x = u + j
    · subst e
      rw [pk_us]
      exact byte_u (by omega)
    · rw [pk_un e]
      exact ap_by hk h0 j (by omega) x
theorem o_ask (l : Launch) (Γ : Gm) {hx hm : Nat} {a : Nat → Nat} {sh : Nat → Nat} {it : Nat → Nat} {f : Nat → Option Nat} {lw : Nat → Int64} {up : Nat → Int64} {ua : Int64} {code : Int32} {mk : Int64} {lfa : Int32} {lfi : Int32} {lk : Int32} {dr : Int64} {un : Int64} {ms : Ms} {u : Nat} {tb : Nat → Int32} {nx : Nat} {RI : Nat → Int32} {T : Nat} {uT : Nat} {TA : Nat → Nat → Int32} {z : Nat} {cs : Nat → Int64} {en : Nat → Int32} {al : Nat → Int32} {he : Nat → Int32} {σ : TrS} {n : Nat} {Bf : Nat → Nat → Int32} {n' : Nat} {B' : Nat → Nat → Int32} {ln : Nat → Int32} {sz : Nat → Nat} {itf : Nat → Nat → Int32} {q : Nat → Nat} {I : Nat → Int32} {mln : Nat → Int32} {mmn : Nat → Int32} {mit : Nat → Int32} {pl : Nat → Int32} {te : Nat → Int32} {ts : Nat → Int32} {sy : Nat → Int32} {a2 : Nat → Int32} {rt : Nat → Int32} {s2 : Nat → Int32} {tp : Nat → Int32} {cc : Nat → Int32} {ce : Nat → Int32} {tr : Nat → Int32} {c0 : Nat} {tn : Nat → Nat} {cn : Nat → Nat} (hk : Rk (sh) (f) (lw) (up) (ua)) (hch : Rch (code) (mk) ((I) 5) (c0)) (hst : Rst ((I) 1) ((I) 17) (lfa) (lfi)) (hme : Rme (lw) (up) (ua) (lk) (dr) (un) (ms)) (htp : Rtp (u) (tb) ((I) 16) (tp)) (hru : Rru (n) (Bf) ((I) 7) (te) (ts) (sy) (tn)) (hbk : Rbk (z) (cs) (en) (al) ((I) 25) (cc) (ce) (cn)) (hbd : Rbd (σ) ((I) 29) (tr)) (hsh : Rsh (ln) (sz) (itf) (mln) (mmn) (mit)) (v1 : Int32) (v2 : Int32) : OpR l Γ hx hm (WX Γ hx (a) (sh) (it) (f) (lw) (up) (ua) (code) (mk) (lfa) (lfi) (lk) (dr) (un) (ms) (u) (tb) (nx) (RI) (T) (uT) (TA) (z) (cs) (en) (al) (he) (σ) (n) (Bf) (n') (B') (ln) (sz) (itf)) (WM Γ hm (q) (I) (mln) (mmn) (mit) (pl) (te) (ts) (sy) (a2) (rt) (s2) (tp) (cc) (ce) (tr)) yX10_ask cX10_ask 3 6 yX11_ask cX11_ask 3 5 [.int v1, .int v2] := by
  obtain ⟨hb1, hb2, rfl⟩ := hbd
  by_cases c : ¬ v1 < 0 ∧ ¬ 15 < v1
  · by_cases c2 : v2 = 0
    · subst c2
      refine ⟨s_szV v1, WX Γ hx (a) (sh) (it) (f) (lw) (up) (ua) (code) (mk) (lfa) (lfi) (lk) (dr) (un) (ms) (u) (tb) (nx) (RI) (T) (uT) (TA) (z) (cs) (en) (al) (he) (s_szT v1 (σ.1, 0)) (n) (Bf) (n') (B') (ln) (sz) (itf), WM Γ hm (q) (upd (upd I 0 0) 29 (nI (s_szT v1 (σ.1, 0)).2)) (mln) (mmn) (mit) (pl) (te) (ts) (sy) (a2) (rt) (s2) (tp) (cc) (ce) ((s_szT v1 (σ.1, 0)).1), ?_, ?_, ?_⟩
      · exact ⟨a, sh, it, f, lw, up, ua, code, mk, lfa, lfi, lk, dr, un, ms, u, tb, nx, RI, T, uT, TA, z, cs, en, al, he, s_szT v1 (σ.1, 0), n, Bf, n', B', ln, sz, itf, q, upd (upd I 0 0) 29 (nI (s_szT v1 (σ.1, 0)).2), mln, mmn, mit, pl, te, ts, sy, a2, rt, s2, tp, cc, ce, (s_szT v1 (σ.1, 0)).1, c0, tn, cn, rfl, rfl, hk, hch, hst, hme, htp, hru, hbk, ⟨s_szT_le (Nat.zero_le _), rfl, rfl⟩, hsh⟩
      · exact (c_X10_ask_0 l Γ c).lift [0, 19, 20] rfl (by decide) rfl
      · exact (c_X11_ask_0 l Γ (σ := σ) c (kO_fig c) (sg_fig c) (told_fig c)).lift [0, 14] rfl (by decide) rfl
    · by_cases c3 : v2 = 1
      · subst c3
        refine ⟨s_mkV v1, WX Γ hx (a) (sh) (it) (f) (lw) (up) (ua) (code) (mk) (lfa) (lfi) (lk) (dr) (un) (ms) (u) (tb) (nx) (RI) (T) (uT) (TA) (z) (cs) (en) (al) (he) (s_mkT v1 (σ.1, 0)) (n) (Bf) (n') (B') (ln) (sz) (itf), WM Γ hm (q) (upd (upd I 0 0) 29 (nI (s_mkT v1 (σ.1, 0)).2)) (mln) (mmn) (mit) (pl) (te) (ts) (sy) (a2) (rt) (s2) (tp) (cc) (ce) ((s_mkT v1 (σ.1, 0)).1), ?_, ?_, ?_⟩
        · exact ⟨a, sh, it, f, lw, up, ua, code, mk, lfa, lfi, lk, dr, un, ms, u, tb, nx, RI, T, uT, TA, z, cs, en, al, he, s_mkT v1 (σ.1, 0), n, Bf, n', B', ln, sz, itf, q, upd (upd I 0 0) 29 (nI (s_mkT v1 (σ.1, 0)).2), mln, mmn, mit, pl, te, ts, sy, a2, rt, s2, tp, cc, ce, (s_mkT v1 (σ.1, 0)).1, c0, tn, cn, rfl, rfl, hk, hch, hst, hme, htp, hru, hbk, ⟨s_mkT_le (Nat.zero_le _), rfl, rfl⟩, hsh⟩
        · exact (c_X10_ask_1 l Γ c).lift [0, 19, 20] rfl (by decide) rfl
        · exact (c_X11_ask_1 l Γ (σ := σ) c (kO_fig c) (sg_fig c) (told_fig c)).lift [0, 14] rfl (by decide) rfl
      · skip
        refine ⟨-1000001, WX Γ hx (a) (sh) (it) (f) (lw) (up) (ua) (code) (mk) (lfa) (lfi) (lk) (dr) (un) (ms) (u) (tb) (nx) (RI) (T) (uT) (TA) (z) (cs) (en) (al) (he) (σ) (n) (Bf) (n') (B') (ln) (sz) (itf), WM Γ hm (q) (upd I 0 0) (mln) (mmn) (mit) (pl) (te) (ts) (sy) (a2) (rt) (s2) (tp) (cc) (ce) (σ.1), ?_, ?_, ?_⟩
        · exact ⟨a, sh, it, f, lw, up, ua, code, mk, lfa, lfi, lk, dr, un, ms, u, tb, nx, RI, T, uT, TA, z, cs, en, al, he, σ, n, Bf, n', B', ln, sz, itf, q, upd I 0 0, mln, mmn, mit, pl, te, ts, sy, a2, rt, s2, tp, cc, ce, σ.1, c0, tn, cn, rfl, rfl, hk, hch, hst, hme, htp, hru, hbk, ⟨hb1, hb2, rfl⟩, hsh⟩
        · exact (c_X10_ask_bad l Γ (Or.inr ⟨c2, c3⟩)).lift [0] rfl (by decide) rfl
        · exact (c_X11_ask_bad l Γ (Or.inr ⟨c2, c3⟩)).lift [0] rfl (by decide) rfl
  · skip
    refine ⟨-1000001, WX Γ hx (a) (sh) (it) (f) (lw) (up) (ua) (code) (mk) (lfa) (lfi) (lk) (dr) (un) (ms) (u) (tb) (nx) (RI) (T) (uT) (TA) (z) (cs) (en) (al) (he) (σ) (n) (Bf) (n') (B') (ln) (sz) (itf), WM Γ hm (q) (upd I 0 0) (mln) (mmn) (mit) (pl) (te) (ts) (sy) (a2) (rt) (s2) (tp) (cc) (ce) (σ.1), ?_, ?_, ?_⟩
    · exact ⟨a, sh, it, f, lw, up, ua, code, mk, lfa, lfi, lk, dr, un, ms, u, tb, nx, RI, T, uT, TA, z, cs, en, al, he, σ, n, Bf, n', B', ln, sz, itf, q, upd I 0 0, mln, mmn, mit, pl, te, ts, sy, a2, rt, s2, tp, cc, ce, σ.1, c0, tn, cn, rfl, rfl, hk, hch, hst, hme, htp, hru, hbk, ⟨hb1, hb2, rfl⟩, hsh⟩
    · exact (c_X10_ask_bad l Γ (Or.inl c)).lift [0] rfl (by decide) rfl
    · exact (c_X11_ask_bad l Γ (Or.inl c)).lift [0] rfl (by decide) rfl
theorem o_trace (l : Launch) (Γ : Gm) {hx hm : Nat} {a : Nat → Nat} {sh : Nat → Nat} {it : Nat → Nat} {f : Nat → Option Nat} {lw : Nat → Int64} {up : Nat → Int64} {ua : Int64} {code : Int32} {mk : Int64} {lfa : Int32} {lfi : Int32} {lk : Int32} {dr : Int64} {un : Int64} {ms : Ms} {u : Nat} {tb : Nat → Int32} {nx : Nat} {RI : Nat → Int32} {T : Nat} {uT : Nat} {TA : Nat → Nat → Int32} {z : Nat} {cs : Nat → Int64} {en : Nat → Int32} {al : Nat → Int32} {he : Nat → Int32} {σ : TrS} {n : Nat} {Bf : Nat → Nat → Int32} {n' : Nat} {B' : Nat → Nat → Int32} {ln : Nat → Int32} {sz : Nat → Nat} {itf : Nat → Nat → Int32} {q : Nat → Nat} {I : Nat → Int32} {mln : Nat → Int32} {mmn : Nat → Int32} {mit : Nat → Int32} {pl : Nat → Int32} {te : Nat → Int32} {ts : Nat → Int32} {sy : Nat → Int32} {a2 : Nat → Int32} {rt : Nat → Int32} {s2 : Nat → Int32} {tp : Nat → Int32} {cc : Nat → Int32} {ce : Nat → Int32} {tr : Nat → Int32} {c0 : Nat} {tn : Nat → Nat} {cn : Nat → Nat} (hk : Rk (sh) (f) (lw) (up) (ua)) (hch : Rch (code) (mk) ((I) 5) (c0)) (hst : Rst ((I) 1) ((I) 17) (lfa) (lfi)) (hme : Rme (lw) (up) (ua) (lk) (dr) (un) (ms)) (htp : Rtp (u) (tb) ((I) 16) (tp)) (hru : Rru (n) (Bf) ((I) 7) (te) (ts) (sy) (tn)) (hbk : Rbk (z) (cs) (en) (al) ((I) 25) (cc) (ce) (cn)) (hbd : Rbd (σ) ((I) 29) (tr)) (hsh : Rsh (ln) (sz) (itf) (mln) (mmn) (mit)) (v1 : Int32) : OpR l Γ hx hm (WX Γ hx (a) (sh) (it) (f) (lw) (up) (ua) (code) (mk) (lfa) (lfi) (lk) (dr) (un) (ms) (u) (tb) (nx) (RI) (T) (uT) (TA) (z) (cs) (en) (al) (he) (σ) (n) (Bf) (n') (B') (ln) (sz) (itf)) (WM Γ hm (q) (I) (mln) (mmn) (mit) (pl) (te) (ts) (sy) (a2) (rt) (s2) (tp) (cc) (ce) (tr)) yX10_trace cX10_trace 2 1 yX11_trace cX11_trace 2 4 [.int v1] := by
  obtain ⟨hb1, hb2, rfl⟩ := hbd
  refine ⟨if v1 < 0 then -1000000 else if nI σ.2 ≤ v1 then -1000000 else σ.1 v1.toNatClampNeg, WX Γ hx (a) (sh) (it) (f) (lw) (up) (ua) (code) (mk) (lfa) (lfi) (lk) (dr) (un) (ms) (u) (tb) (nx) (RI) (T) (uT) (TA) (z) (cs) (en) (al) (he) (σ) (n) (Bf) (n') (B') (ln) (sz) (itf), WM Γ hm (q) (upd I 0 0) (mln) (mmn) (mit) (pl) (te) (ts) (sy) (a2) (rt) (s2) (tp) (cc) (ce) (σ.1), ?_, ?_, ?_⟩
  · exact ⟨a, sh, it, f, lw, up, ua, code, mk, lfa, lfi, lk, dr, un, ms, u, tb, nx, RI, T, uT, TA, z, cs, en, al, he, σ, n, Bf, n', B', ln, sz, itf, q, upd I 0 0, mln, mmn, mit, pl, te, ts, sy, a2, rt, s2, tp, cc, ce, σ.1, c0, tn, cn, rfl, rfl, hk, hch, hst, hme, htp, hru, hbk, ⟨hb1, hb2, rfl⟩, hsh⟩
  · exact (c_X10_trace l Γ hb1).lift [0, 19, 20] rfl (by decide) rfl
  · exact (c_X11_trace l Γ (σ := σ) hb1 hb2).lift [0, 14] rfl (by decide) rfl
theorem o_count (l : Launch) (Γ : Gm) {hx hm : Nat} {a : Nat → Nat} {sh : Nat → Nat} {it : Nat → Nat} {f : Nat → Option Nat} {lw : Nat → Int64} {up : Nat → Int64} {ua : Int64} {code : Int32} {mk : Int64} {lfa : Int32} {lfi : Int32} {lk : Int32} {dr : Int64} {un : Int64} {ms : Ms} {u : Nat} {tb : Nat → Int32} {nx : Nat} {RI : Nat → Int32} {T : Nat} {uT : Nat} {TA : Nat → Nat → Int32} {z : Nat} {cs : Nat → Int64} {en : Nat → Int32} {al : Nat → Int32} {he : Nat → Int32} {σ : TrS} {n : Nat} {Bf : Nat → Nat → Int32} {n' : Nat} {B' : Nat → Nat → Int32} {ln : Nat → Int32} {sz : Nat → Nat} {itf : Nat → Nat → Int32} {q : Nat → Nat} {I : Nat → Int32} {mln : Nat → Int32} {mmn : Nat → Int32} {mit : Nat → Int32} {pl : Nat → Int32} {te : Nat → Int32} {ts : Nat → Int32} {sy : Nat → Int32} {a2 : Nat → Int32} {rt : Nat → Int32} {s2 : Nat → Int32} {tp : Nat → Int32} {cc : Nat → Int32} {ce : Nat → Int32} {tr : Nat → Int32} {c0 : Nat} {tn : Nat → Nat} {cn : Nat → Nat} (hk : Rk (sh) (f) (lw) (up) (ua)) (hch : Rch (code) (mk) ((I) 5) (c0)) (hst : Rst ((I) 1) ((I) 17) (lfa) (lfi)) (hme : Rme (lw) (up) (ua) (lk) (dr) (un) (ms)) (htp : Rtp (u) (tb) ((I) 16) (tp)) (hru : Rru (n) (Bf) ((I) 7) (te) (ts) (sy) (tn)) (hbk : Rbk (z) (cs) (en) (al) ((I) 25) (cc) (ce) (cn)) (hbd : Rbd (σ) ((I) 29) (tr)) (hsh : Rsh (ln) (sz) (itf) (mln) (mmn) (mit)) (v1 : Int32) : OpR l Γ hx hm (WX Γ hx (a) (sh) (it) (f) (lw) (up) (ua) (code) (mk) (lfa) (lfi) (lk) (dr) (un) (ms) (u) (tb) (nx) (RI) (T) (uT) (TA) (z) (cs) (en) (al) (he) (σ) (n) (Bf) (n') (B') (ln) (sz) (itf)) (WM Γ hm (q) (I) (mln) (mmn) (mit) (pl) (te) (ts) (sy) (a2) (rt) (s2) (tp) (cc) (ce) (tr)) yX10_count cX10_count 2 2 yX11_count cX11_count 4 4 [.int v1] := by
  obtain ⟨rfl, hs2, hs3, hs4, hs5⟩ := hsh
  obtain ⟨hz1, hz2, rfl, hz4, hz5⟩ := hbk
  rcases i32_cases v1 7 (by decide) with c | ⟨j, hj, rfl⟩
  · skip
    refine ⟨-1000001, WX Γ hx (a) (sh) (it) (f) (lw) (up) (ua) (code) (mk) (lfa) (lfi) (lk) (dr) (un) (ms) (u) (tb) (nx) (RI) (T) (uT) (TA) (z) (cs) (ce) (al) (he) (σ) (n) (Bf) (n') (B') (mln) (sz) (itf), WM Γ hm (q) (upd I 0 0) (mln) (mmn) (mit) (pl) (te) (ts) (sy) (a2) (rt) (s2) (tp) (cc) (ce) (tr), ?_, ?_, ?_⟩
    · exact ⟨a, sh, it, f, lw, up, ua, code, mk, lfa, lfi, lk, dr, un, ms, u, tb, nx, RI, T, uT, TA, z, cs, ce, al, he, σ, n, Bf, n', B', mln, sz, itf, q, upd I 0 0, mln, mmn, mit, pl, te, ts, sy, a2, rt, s2, tp, cc, ce, tr, c0, tn, cn, rfl, rfl, hk, hch, hst, hme, htp, hru, ⟨hz1, hz2, rfl, hz4, hz5⟩, hbd, ⟨rfl, hs2, hs3, hs4, hs5⟩⟩
    · exact (c_X10_count_bad l Γ c).lift [0] rfl (by decide) rfl
    · exact (c_X11_count_bad l Γ c).lift [0] rfl (by decide) rfl
  · rcases (show j = 0 ∨ j = 1 ∨ j = 2 ∨ j = 3 ∨ j = 4 ∨ j = 5 ∨ j = 6 by omega) with rfl | rfl | rfl | rfl | rfl | rfl | rfl
    · skip
      refine ⟨s_there mln 8, WX Γ hx (a) (sh) (it) (f) (lw) (up) (ua) (code) (mk) (lfa) (lfi) (lk) (dr) (un) (ms) (u) (tb) (nx) (RI) (T) (uT) (TA) (z) (cs) (ce) (al) (he) (σ) (n) (Bf) (n') (B') (mln) (sz) (itf), WM Γ hm (q) (upd I 0 0) (mln) (mmn) (mit) (pl) (te) (ts) (sy) (a2) (rt) (s2) (tp) (cc) (ce) (tr), ?_, ?_, ?_⟩
      · exact ⟨a, sh, it, f, lw, up, ua, code, mk, lfa, lfi, lk, dr, un, ms, u, tb, nx, RI, T, uT, TA, z, cs, ce, al, he, σ, n, Bf, n', B', mln, sz, itf, q, upd I 0 0, mln, mmn, mit, pl, te, ts, sy, a2, rt, s2, tp, cc, ce, tr, c0, tn, cn, rfl, rfl, hk, hch, hst, hme, htp, hru, ⟨hz1, hz2, rfl, hz4, hz5⟩, hbd, ⟨rfl, hs2, hs3, hs4, hs5⟩⟩
      · exact (c_X10_count_0 l Γ (ln := mln) (sz := sz) (hk.1 0 (by decide)) (hk.1 1 (by decide)) (hk.1 2 (by decide)) (hk.1 3 (by decide)) (hk.1 4 (by decide)) (hk.1 5 (by decide)) (hk.1 6 (by decide)) (hk.1 7 (by decide))).lift [0, 1, 33, 35, 37, 39, 41, 43, 45, 47] rfl (by decide) rfl
      · exact (c_X11_count_0 l Γ hs2).lift [0, 1] rfl (by decide) rfl
    · skip
      refine ⟨nI n, WX Γ hx (a) (sh) (it) (f) (lw) (up) (ua) (code) (mk) (lfa) (lfi) (lk) (dr) (un) (ms) (u) (tb) (nx) (RI) (T) (uT) (TA) (z) (cs) (ce) (al) (he) (σ) (n) (Bf) (n') (B') (mln) (sz) (itf), WM Γ hm (q) (upd I 0 0) (mln) (mmn) (mit) (pl) (te) (ts) (sy) (a2) (rt) (s2) (tp) (cc) (ce) (tr), ?_, ?_, ?_⟩
      · exact ⟨a, sh, it, f, lw, up, ua, code, mk, lfa, lfi, lk, dr, un, ms, u, tb, nx, RI, T, uT, TA, z, cs, ce, al, he, σ, n, Bf, n', B', mln, sz, itf, q, upd I 0 0, mln, mmn, mit, pl, te, ts, sy, a2, rt, s2, tp, cc, ce, tr, c0, tn, cn, rfl, rfl, hk, hch, hst, hme, htp, hru, ⟨hz1, hz2, rfl, hz4, hz5⟩, hbd, ⟨rfl, hs2, hs3, hs4, hs5⟩⟩
      · exact (c_X10_count_1 l Γ).lift [0, 21] rfl (by decide) rfl
      · exact ((c_X11_count_1 l Γ).to hru.2.1).lift [0] rfl (by decide) rfl
    · skip
      refine ⟨nI z, WX Γ hx (a) (sh) (it) (f) (lw) (up) (ua) (code) (mk) (lfa) (lfi) (lk) (dr) (un) (ms) (u) (tb) (nx) (RI) (T) (uT) (TA) (z) (cs) (ce) (al) (he) (σ) (n) (Bf) (n') (B') (mln) (sz) (itf), WM Γ hm (q) (upd I 0 0) (mln) (mmn) (mit) (pl) (te) (ts) (sy) (a2) (rt) (s2) (tp) (cc) (ce) (tr), ?_, ?_, ?_⟩
      · exact ⟨a, sh, it, f, lw, up, ua, code, mk, lfa, lfi, lk, dr, un, ms, u, tb, nx, RI, T, uT, TA, z, cs, ce, al, he, σ, n, Bf, n', B', mln, sz, itf, q, upd I 0 0, mln, mmn, mit, pl, te, ts, sy, a2, rt, s2, tp, cc, ce, tr, c0, tn, cn, rfl, rfl, hk, hch, hst, hme, htp, hru, ⟨hz1, hz2, rfl, hz4, hz5⟩, hbd, ⟨rfl, hs2, hs3, hs4, hs5⟩⟩
      · exact (c_X10_count_2 l Γ).lift [0, 14] rfl (by decide) rfl
      · exact ((c_X11_count_2 l Γ).to hz2).lift [0] rfl (by decide) rfl
    · skip
      refine ⟨al 0 + al 1, WX Γ hx (a) (sh) (it) (f) (lw) (up) (ua) (code) (mk) (lfa) (lfi) (lk) (dr) (un) (ms) (u) (tb) (nx) (RI) (T) (uT) (TA) (z) (cs) (ce) (al) (he) (σ) (n) (Bf) (n') (B') (mln) (sz) (itf), WM Γ hm (q) (upd I 0 0) (mln) (mmn) (mit) (pl) (te) (ts) (sy) (a2) (rt) (s2) (tp) (cc) (ce) (tr), ?_, ?_, ?_⟩
      · exact ⟨a, sh, it, f, lw, up, ua, code, mk, lfa, lfi, lk, dr, un, ms, u, tb, nx, RI, T, uT, TA, z, cs, ce, al, he, σ, n, Bf, n', B', mln, sz, itf, q, upd I 0 0, mln, mmn, mit, pl, te, ts, sy, a2, rt, s2, tp, cc, ce, tr, c0, tn, cn, rfl, rfl, hk, hch, hst, hme, htp, hru, ⟨hz1, hz2, rfl, hz4, hz5⟩, hbd, ⟨rfl, hs2, hs3, hs4, hs5⟩⟩
      · exact (c_X10_count_3 l Γ).lift [0, 14, 17] rfl (by decide) rfl
      · exact ((c_X11_count_3 l Γ hz2 hz1).to (by rw [hz5 0 (by decide), hz5 1 (by decide)]; rfl)).lift [0, 13] rfl (by decide) rfl
    · skip
      refine ⟨al 1, WX Γ hx (a) (sh) (it) (f) (lw) (up) (ua) (code) (mk) (lfa) (lfi) (lk) (dr) (un) (ms) (u) (tb) (nx) (RI) (T) (uT) (TA) (z) (cs) (ce) (al) (he) (σ) (n) (Bf) (n') (B') (mln) (sz) (itf), WM Γ hm (q) (upd I 0 0) (mln) (mmn) (mit) (pl) (te) (ts) (sy) (a2) (rt) (s2) (tp) (cc) (ce) (tr), ?_, ?_, ?_⟩
      · exact ⟨a, sh, it, f, lw, up, ua, code, mk, lfa, lfi, lk, dr, un, ms, u, tb, nx, RI, T, uT, TA, z, cs, ce, al, he, σ, n, Bf, n', B', mln, sz, itf, q, upd I 0 0, mln, mmn, mit, pl, te, ts, sy, a2, rt, s2, tp, cc, ce, tr, c0, tn, cn, rfl, rfl, hk, hch, hst, hme, htp, hru, ⟨hz1, hz2, rfl, hz4, hz5⟩, hbd, ⟨rfl, hs2, hs3, hs4, hs5⟩⟩
      · exact (c_X10_count_4 l Γ).lift [0, 14, 17] rfl (by decide) rfl
      · exact ((c_X11_count_4 l Γ hz2 hz1).to (by rw [hz5 1 (by decide)]; rfl)).lift [0, 13] rfl (by decide) rfl
    · skip
      refine ⟨nI u, WX Γ hx (a) (sh) (it) (f) (lw) (up) (ua) (code) (mk) (lfa) (lfi) (lk) (dr) (un) (ms) (u) (tb) (nx) (RI) (T) (uT) (TA) (z) (cs) (ce) (al) (he) (σ) (n) (Bf) (n') (B') (mln) (sz) (itf), WM Γ hm (q) (upd I 0 0) (mln) (mmn) (mit) (pl) (te) (ts) (sy) (a2) (rt) (s2) (tp) (cc) (ce) (tr), ?_, ?_, ?_⟩
      · exact ⟨a, sh, it, f, lw, up, ua, code, mk, lfa, lfi, lk, dr, un, ms, u, tb, nx, RI, T, uT, TA, z, cs, ce, al, he, σ, n, Bf, n', B', mln, sz, itf, q, upd I 0 0, mln, mmn, mit, pl, te, ts, sy, a2, rt, s2, tp, cc, ce, tr, c0, tn, cn, rfl, rfl, hk, hch, hst, hme, htp, hru, ⟨hz1, hz2, rfl, hz4, hz5⟩, hbd, ⟨rfl, hs2, hs3, hs4, hs5⟩⟩
      · exact (c_X10_count_5 l Γ).lift [0, 5] rfl (by decide) rfl
      · exact ((c_X11_count_5 l Γ).to htp.2.1).lift [0] rfl (by decide) rfl
    · skip
      refine ⟨code, WX Γ hx (a) (sh) (it) (f) (lw) (up) (ua) (code) (mk) (lfa) (lfi) (lk) (dr) (un) (ms) (u) (tb) (nx) (RI) (T) (uT) (TA) (z) (cs) (ce) (al) (he) (σ) (n) (Bf) (n') (B') (mln) (sz) (itf), WM Γ hm (q) (upd I 0 0) (mln) (mmn) (mit) (pl) (te) (ts) (sy) (a2) (rt) (s2) (tp) (cc) (ce) (tr), ?_, ?_, ?_⟩
      · exact ⟨a, sh, it, f, lw, up, ua, code, mk, lfa, lfi, lk, dr, un, ms, u, tb, nx, RI, T, uT, TA, z, cs, ce, al, he, σ, n, Bf, n', B', mln, sz, itf, q, upd I 0 0, mln, mmn, mit, pl, te, ts, sy, a2, rt, s2, tp, cc, ce, tr, c0, tn, cn, rfl, rfl, hk, hch, hst, hme, htp, hru, ⟨hz1, hz2, rfl, hz4, hz5⟩, hbd, ⟨rfl, hs2, hs3, hs4, hs5⟩⟩
      · exact (c_X10_count_6 l Γ).lift [0] rfl (by decide) rfl
      · exact ((c_X11_count_6 l Γ).to (hch.2.2.2.trans hch.1.symm)).lift [0] rfl (by decide) rfl
theorem o_record (l : Launch) (Γ : Gm) {hx hm : Nat} {a : Nat → Nat} {sh : Nat → Nat} {it : Nat → Nat} {f : Nat → Option Nat} {lw : Nat → Int64} {up : Nat → Int64} {ua : Int64} {code : Int32} {mk : Int64} {lfa : Int32} {lfi : Int32} {lk : Int32} {dr : Int64} {un : Int64} {ms : Ms} {u : Nat} {tb : Nat → Int32} {nx : Nat} {RI : Nat → Int32} {T : Nat} {uT : Nat} {TA : Nat → Nat → Int32} {z : Nat} {cs : Nat → Int64} {en : Nat → Int32} {al : Nat → Int32} {he : Nat → Int32} {σ : TrS} {n : Nat} {Bf : Nat → Nat → Int32} {n' : Nat} {B' : Nat → Nat → Int32} {ln : Nat → Int32} {sz : Nat → Nat} {itf : Nat → Nat → Int32} {q : Nat → Nat} {I : Nat → Int32} {mln : Nat → Int32} {mmn : Nat → Int32} {mit : Nat → Int32} {pl : Nat → Int32} {te : Nat → Int32} {ts : Nat → Int32} {sy : Nat → Int32} {a2 : Nat → Int32} {rt : Nat → Int32} {s2 : Nat → Int32} {tp : Nat → Int32} {cc : Nat → Int32} {ce : Nat → Int32} {tr : Nat → Int32} {c0 : Nat} {tn : Nat → Nat} {cn : Nat → Nat} (hk : Rk (sh) (f) (lw) (up) (ua)) (hch : Rch (code) (mk) ((I) 5) (c0)) (hst : Rst ((I) 1) ((I) 17) (lfa) (lfi)) (hme : Rme (lw) (up) (ua) (lk) (dr) (un) (ms)) (htp : Rtp (u) (tb) ((I) 16) (tp)) (hru : Rru (n) (Bf) ((I) 7) (te) (ts) (sy) (tn)) (hbk : Rbk (z) (cs) (en) (al) ((I) 25) (cc) (ce) (cn)) (hbd : Rbd (σ) ((I) 29) (tr)) (hsh : Rsh (ln) (sz) (itf) (mln) (mmn) (mit)) (v1 : Int32) : OpR l Γ hx hm (WX Γ hx (a) (sh) (it) (f) (lw) (up) (ua) (code) (mk) (lfa) (lfi) (lk) (dr) (un) (ms) (u) (tb) (nx) (RI) (T) (uT) (TA) (z) (cs) (en) (al) (he) (σ) (n) (Bf) (n') (B') (ln) (sz) (itf)) (WM Γ hm (q) (I) (mln) (mmn) (mit) (pl) (te) (ts) (sy) (a2) (rt) (s2) (tp) (cc) (ce) (tr)) yX10_record cX10_record 2 5 yX11_record cX11_record 2 4 [.int v1] := by
  have hz := hbk.1
  have hz2 := hbk.2.1
  rcases i32_cases v1 3 (by decide) with c | ⟨k, hk3, rfl⟩
  · skip
    refine ⟨-1000001, WX Γ hx (a) (sh) (it) (f) (lw) (up) (ua) (code) (mk) (lfa) (lfi) (lk) (dr) (un) (ms) (u) (tb) (nx) (RI) (T) (uT) (TA) (z) (cs) (en) (al) (he) (σ) (n) (Bf) (n') (B') (ln) (sz) (itf), WM Γ hm (q) (upd I 0 0) (mln) (mmn) (mit) (pl) (te) (ts) (sy) (a2) (rt) (s2) (tp) (cc) (ce) (tr), ?_, ?_, ?_⟩
    · exact ⟨a, sh, it, f, lw, up, ua, code, mk, lfa, lfi, lk, dr, un, ms, u, tb, nx, RI, T, uT, TA, z, cs, en, al, he, σ, n, Bf, n', B', ln, sz, itf, q, upd I 0 0, mln, mmn, mit, pl, te, ts, sy, a2, rt, s2, tp, cc, ce, tr, c0, tn, cn, rfl, rfl, hk, hch, hst, hme, htp, hru, hbk, hbd, hsh⟩
    · exact (c_X10_rec_bad l Γ (fun z => c.elim z.1 (fun y => z.2 ((i32_up 2 (by decide)).mpr y)))).lift [0] rfl (by decide) rfl
    · exact (c_X11_rec_bad l Γ (fun z => c.elim z.1 (fun y => z.2 ((i32_up 2 (by decide)).mpr y)))).lift [0] rfl (by decide) rfl
  · rcases Nat.lt_or_ge z 100 with q9 | q9
    · skip
      refine ⟨nI (z + 1), WX Γ hx (a) (sh) (it) (f) (lw) (up) (ua) (code) (mk) (lfa) (lfi) (lk) (dr) (un) (ms) (u) (tb) (nx) (RI) (T) (uT) (TA) (z + 1) (vp_updL cs z mk) (upd en z (nI k)) (upd al k (al k + 1)) (he) (σ) (n) (Bf) (n') (B') (ln) (sz) (itf), WM Γ hm (q) (upd (upd I 0 0) 25 (nI (z + 1))) (mln) (mmn) (mit) (pl) (te) (ts) (sy) (a2) (rt) (s2) (tp) (upd cc z (I 5)) (upd ce z (nI k)) (tr), ?_, ?_, ?_⟩
      · exact ⟨a, sh, it, f, lw, up, ua, code, mk, lfa, lfi, lk, dr, un, ms, u, tb, nx, RI, T, uT, TA, z + 1, vp_updL cs z mk, upd en z (nI k), upd al k (al k + 1), he, σ, n, Bf, n', B', ln, sz, itf, q, upd (upd I 0 0) 25 (nI (z + 1)), mln, mmn, mit, pl, te, ts, sy, a2, rt, s2, tp, upd cc z (I 5), upd ce z (nI k), tr, c0, tn, upN cn z c0, rfl, rfl, hk, hch, hst, hme, htp, hru, Rbk_step hbk q9 hk3 hch.2.2.2 hch.2.1 hch.2.2.1, hbd, hsh⟩
      · exact (c_X10_rec_ok l Γ hk3 q9).lift [0, 14, 15, 16, 17] rfl (by decide) rfl
      · exact (c_X11_rec_ok l Γ hk3 hz2 q9).lift [0, 12, 13] rfl (by decide) rfl
    · skip
      refine ⟨-1000003, WX Γ hx (a) (sh) (it) (f) (lw) (up) (ua) (code) (mk) (lfa) (lfi) (lk) (dr) (un) (ms) (u) (tb) (nx) (RI) (T) (uT) (TA) (z) (cs) (en) (al) (he) (σ) (n) (Bf) (n') (B') (ln) (sz) (itf), WM Γ hm (q) (upd I 0 0) (mln) (mmn) (mit) (pl) (te) (ts) (sy) (a2) (rt) (s2) (tp) (cc) (ce) (tr), ?_, ?_, ?_⟩
      · exact ⟨a, sh, it, f, lw, up, ua, code, mk, lfa, lfi, lk, dr, un, ms, u, tb, nx, RI, T, uT, TA, z, cs, en, al, he, σ, n, Bf, n', B', ln, sz, itf, q, upd I 0 0, mln, mmn, mit, pl, te, ts, sy, a2, rt, s2, tp, cc, ce, tr, c0, tn, cn, rfl, rfl, hk, hch, hst, hme, htp, hru, hbk, hbd, hsh⟩
      · exact (c_X10_rec_full l Γ (z := z) hk3 (by omega)).lift [0, 14, 15, 16, 17] rfl (by decide) rfl
      · exact (c_X11_rec_full l Γ (z := z) hk3 hz2 (by omega)).lift [0] rfl (by decide) rfl
theorem o_feed (l : Launch) (Γ : Gm) {hx hm : Nat} {a : Nat → Nat} {sh : Nat → Nat} {it : Nat → Nat} {f : Nat → Option Nat} {lw : Nat → Int64} {up : Nat → Int64} {ua : Int64} {code : Int32} {mk : Int64} {lfa : Int32} {lfi : Int32} {lk : Int32} {dr : Int64} {un : Int64} {ms : Ms} {u : Nat} {tb : Nat → Int32} {nx : Nat} {RI : Nat → Int32} {T : Nat} {uT : Nat} {TA : Nat → Nat → Int32} {z : Nat} {cs : Nat → Int64} {en : Nat → Int32} {al : Nat → Int32} {he : Nat → Int32} {σ : TrS} {n : Nat} {Bf : Nat → Nat → Int32} {n' : Nat} {B' : Nat → Nat → Int32} {ln : Nat → Int32} {sz : Nat → Nat} {itf : Nat → Nat → Int32} {q : Nat → Nat} {I : Nat → Int32} {mln : Nat → Int32} {mmn : Nat → Int32} {mit : Nat → Int32} {pl : Nat → Int32} {te : Nat → Int32} {ts : Nat → Int32} {sy : Nat → Int32} {a2 : Nat → Int32} {rt : Nat → Int32} {s2 : Nat → Int32} {tp : Nat → Int32} {cc : Nat → Int32} {ce : Nat → Int32} {tr : Nat → Int32} {c0 : Nat} {tn : Nat → Nat} {cn : Nat → Nat} (hk : Rk (sh) (f) (lw) (up) (ua)) (hch : Rch (code) (mk) ((I) 5) (c0)) (hst : Rst ((I) 1) ((I) 17) (lfa) (lfi)) (hme : Rme (lw) (up) (ua) (lk) (dr) (un) (ms)) (htp : Rtp (u) (tb) ((I) 16) (tp)) (hru : Rru (n) (Bf) ((I) 7) (te) (ts) (sy) (tn)) (hbk : Rbk (z) (cs) (en) (al) ((I) 25) (cc) (ce) (cn)) (hbd : Rbd (σ) ((I) 29) (tr)) (hsh : Rsh (ln) (sz) (itf) (mln) (mmn) (mit)) (v1 : Int64) (v2 : Int32) : OpR l Γ hx hm (WX Γ hx (a) (sh) (it) (f) (lw) (up) (ua) (code) (mk) (lfa) (lfi) (lk) (dr) (un) (ms) (u) (tb) (nx) (RI) (T) (uT) (TA) (z) (cs) (en) (al) (he) (σ) (n) (Bf) (n') (B') (ln) (sz) (itf)) (WM Γ hm (q) (I) (mln) (mmn) (mit) (pl) (te) (ts) (sy) (a2) (rt) (s2) (tp) (cc) (ce) (tr)) yX10_feed cX10_feed 4 5 yX11_feed cX11_feed 5 4 [.long v1, .int v2] := by
  obtain ⟨hu, h16, rfl, hby⟩ := htp
  have c0 : (v2 < 1 ∨ ¬ v2 ≤ 8) ∨ ∃ n, 1 ≤ n ∧ n ≤ 8 ∧ v2 = nI n := by
    rcases i32_cases v2 9 (by decide) with c | ⟨j, hj, rfl⟩
    · left
      rcases c with c | c
      · exact Or.inl (Int32.lt_trans c (by decide))
      · exact Or.inr (fun z => absurd (Int32.le_trans c z) (by decide))
    · rcases (show j = 0 ∨ 1 ≤ j by omega) with rfl | q9
      · exact Or.inl (Or.inl (by decide))
      · exact Or.inr ⟨j, q9, by omega, rfl⟩
  rcases c0 with c | ⟨n9, h1, h8, rfl⟩
  · skip
    refine ⟨-1000001, WX Γ hx (a) (sh) (it) (f) (lw) (up) (ua) (code) (mk) (lfa) (lfi) (lk) (dr) (un) (ms) (u) (tp) (nx) (RI) (T) (uT) (TA) (z) (cs) (en) (al) (he) (σ) (n) (Bf) (n') (B') (ln) (sz) (itf), WM Γ hm (q) (upd I 0 0) (mln) (mmn) (mit) (pl) (te) (ts) (sy) (a2) (rt) (s2) (tp) (cc) (ce) (tr), ?_, ?_, ?_⟩
    · exact ⟨a, sh, it, f, lw, up, ua, code, mk, lfa, lfi, lk, dr, un, ms, u, tp, nx, RI, T, uT, TA, z, cs, en, al, he, σ, n, Bf, n', B', ln, sz, itf, q, upd I 0 0, mln, mmn, mit, pl, te, ts, sy, a2, rt, s2, tp, cc, ce, tr, c0, tn, cn, rfl, rfl, hk, hch, hst, hme, ⟨hu, h16, rfl, hby⟩, hru, hbk, hbd, hsh⟩
    · exact (c_X10_feed_bad l Γ c).lift [0] rfl (by decide) rfl
    · exact (c_X11_feed_bad l Γ c).lift [0] rfl (by decide) rfl
  · by_cases c : u + n9 ≤ 400
    · skip
      refine ⟨nI (u + n9), WX Γ hx (a) (sh) (it) (f) (lw) (up) (ua) (code) (mk) (lfa) (lfi) (lk) (dr) (un) (ms) (u + n9) (s_apb tp u v1 n9 n9) (nx) (RI) (T) (uT) (TA) (z) (cs) (en) (al) (he) (σ) (n) (Bf) (n') (B') (ln) (sz) (itf), WM Γ hm (q) (upd (upd I 0 0) 16 (nI (u + n9))) (mln) (mmn) (mit) (pl) (te) (ts) (sy) (a2) (rt) (s2) (m_apb tp u v1 n9 n9) (cc) (ce) (tr), ?_, ?_, ?_⟩
      · exact ⟨a, sh, it, f, lw, up, ua, code, mk, lfa, lfi, lk, dr, un, ms, u + n9, s_apb tp u v1 n9 n9, nx, RI, T, uT, TA, z, cs, en, al, he, σ, n, Bf, n', B', ln, sz, itf, q, upd (upd I 0 0) 16 (nI (u + n9)), mln, mmn, mit, pl, te, ts, sy, a2, rt, s2, m_apb tp u v1 n9 n9, cc, ce, tr, c0, tn, cn, rfl, rfl, hk, hch, hst, hme, ⟨c, rfl, ap_eq h8 n9 (Nat.le_refl _), ap_by h8 hby n9 (Nat.le_refl _)⟩, hru, hbk, hbd, hsh⟩
      · exact (c_X10_feed_ok l Γ h1 h8 hu c).lift [0, 5, 6] rfl (by decide) rfl
      · exact (c_X11_feed_ok l Γ h16 h1 h8 c).lift [0, 11] rfl (by decide) rfl
    · skip
      refine ⟨-1000003, WX Γ hx (a) (sh) (it) (f) (lw) (up) (ua) (code) (mk) (lfa) (lfi) (lk) (dr) (un) (ms) (u) (tp) (nx) (RI) (T) (uT) (TA) (z) (cs) (en) (al) (he) (σ) (n) (Bf) (n') (B') (ln) (sz) (itf), WM Γ hm (q) (upd I 0 0) (mln) (mmn) (mit) (pl) (te) (ts) (sy) (a2) (rt) (s2) (tp) (cc) (ce) (tr), ?_, ?_, ?_⟩
      · exact ⟨a, sh, it, f, lw, up, ua, code, mk, lfa, lfi, lk, dr, un, ms, u, tp, nx, RI, T, uT, TA, z, cs, en, al, he, σ, n, Bf, n', B', ln, sz, itf, q, upd I 0 0, mln, mmn, mit, pl, te, ts, sy, a2, rt, s2, tp, cc, ce, tr, c0, tn, cn, rfl, rfl, hk, hch, hst, hme, ⟨hu, h16, rfl, hby⟩, hru, hbk, hbd, hsh⟩
      · exact (c_X10_feed_full l Γ h1 h8 hu c).lift [0, 5, 6] rfl (by decide) rfl
      · exact (c_X11_feed_full l Γ h16 h1 h8 hu c).lift [0] rfl (by decide) rfl
theorem o_holds (l : Launch) (Γ : Gm) {hx hm : Nat} {a : Nat → Nat} {sh : Nat → Nat} {it : Nat → Nat} {f : Nat → Option Nat} {lw : Nat → Int64} {up : Nat → Int64} {ua : Int64} {code : Int32} {mk : Int64} {lfa : Int32} {lfi : Int32} {lk : Int32} {dr : Int64} {un : Int64} {ms : Ms} {u : Nat} {tb : Nat → Int32} {nx : Nat} {RI : Nat → Int32} {T : Nat} {uT : Nat} {TA : Nat → Nat → Int32} {z : Nat} {cs : Nat → Int64} {en : Nat → Int32} {al : Nat → Int32} {he : Nat → Int32} {σ : TrS} {n : Nat} {Bf : Nat → Nat → Int32} {n' : Nat} {B' : Nat → Nat → Int32} {ln : Nat → Int32} {sz : Nat → Nat} {itf : Nat → Nat → Int32} {q : Nat → Nat} {I : Nat → Int32} {mln : Nat → Int32} {mmn : Nat → Int32} {mit : Nat → Int32} {pl : Nat → Int32} {te : Nat → Int32} {ts : Nat → Int32} {sy : Nat → Int32} {a2 : Nat → Int32} {rt : Nat → Int32} {s2 : Nat → Int32} {tp : Nat → Int32} {cc : Nat → Int32} {ce : Nat → Int32} {tr : Nat → Int32} {c0 : Nat} {tn : Nat → Nat} {cn : Nat → Nat} (hk : Rk (sh) (f) (lw) (up) (ua)) (hch : Rch (code) (mk) ((I) 5) (c0)) (hst : Rst ((I) 1) ((I) 17) (lfa) (lfi)) (hme : Rme (lw) (up) (ua) (lk) (dr) (un) (ms)) (htp : Rtp (u) (tb) ((I) 16) (tp)) (hru : Rru (n) (Bf) ((I) 7) (te) (ts) (sy) (tn)) (hbk : Rbk (z) (cs) (en) (al) ((I) 25) (cc) (ce) (cn)) (hbd : Rbd (σ) ((I) 29) (tr)) (hsh : Rsh (ln) (sz) (itf) (mln) (mmn) (mit)) (v1 : Int32) : OpR l Γ hx hm (WX Γ hx (a) (sh) (it) (f) (lw) (up) (ua) (code) (mk) (lfa) (lfi) (lk) (dr) (un) (ms) (u) (tb) (nx) (RI) (T) (uT) (TA) (z) (cs) (en) (al) (he) (σ) (n) (Bf) (n') (B') (ln) (sz) (itf)) (WM Γ hm (q) (I) (mln) (mmn) (mit) (pl) (te) (ts) (sy) (a2) (rt) (s2) (tp) (cc) (ce) (tr)) yX10_holds cX10_holds 2 5 yX11_holds cX11_holds 2 4 [.int v1] := by
  obtain ⟨hc1, hc2, rfl, hc4⟩ := hch
  have hn := hru.1
  have h7 := hru.2.1
  rcases i32_cases v1 n (by omega) with c | ⟨r, hr, rfl⟩
  · skip
    refine ⟨-1000001, WX Γ hx (a) (sh) (it) (f) (lw) (up) (ua) (code) (lN (CH c0)) (lfa) (lfi) (lk) (dr) (un) (ms) (u) (tb) (nx) (RI) (T) (uT) (TA) (z) (cs) (en) (al) (he) (σ) (n) (Bf) (n') (B') (ln) (sz) (itf), WM Γ hm (q) (upd I 0 0) (mln) (mmn) (mit) (pl) (te) (ts) (sy) (a2) (rt) (s2) (tp) (cc) (ce) (tr), ?_, ?_, ?_⟩
    · exact ⟨a, sh, it, f, lw, up, ua, code, lN (CH c0), lfa, lfi, lk, dr, un, ms, u, tb, nx, RI, T, uT, TA, z, cs, en, al, he, σ, n, Bf, n', B', ln, sz, itf, q, upd I 0 0, mln, mmn, mit, pl, te, ts, sy, a2, rt, s2, tp, cc, ce, tr, c0, tn, cn, rfl, rfl, hk, ⟨hc1, hc2, rfl, hc4⟩, hst, hme, htp, hru, hbk, hbd, hsh⟩
    · exact (c_X10_holds_bad l Γ (n := n) (fun z => c.elim z.1 z.2)).lift [0, 21, 22, 23, 24, 25] rfl (by decide) rfl
    · exact (c_X11_holds_bad l Γ h7 hn (fun z => c.elim z.1 z.2)).lift [0] rfl (by decide) rfl
  · obtain ⟨e1, e2, e3, e4, e5⟩ := hru.2.2 r hr
    refine ⟨bI (s_tr (Bf 0) (Bf 1) (Bf 2) r (lN (CH c0)) (tn r) = true), WX Γ hx (a) (sh) (it) (f) (lw) (up) (ua) (code) (lN (CH c0)) (lfa) (lfi) (lk) (dr) (un) (ms) (u) (tb) (nx) (RI) (T) (uT) (TA) (z) (cs) (en) (al) (he) (σ) (n) (Bf) (n') (B') (ln) (sz) (itf), WM Γ hm (q) (upd I 0 0) (mln) (mmn) (mit) (s_lay pl c0) (te) (ts) (sy) (a2) (rt) (s2) (tp) (cc) (ce) (tr), ?_, ?_, ?_⟩
    · exact ⟨a, sh, it, f, lw, up, ua, code, lN (CH c0), lfa, lfi, lk, dr, un, ms, u, tb, nx, RI, T, uT, TA, z, cs, en, al, he, σ, n, Bf, n', B', ln, sz, itf, q, upd I 0 0, mln, mmn, mit, s_lay pl c0, te, ts, sy, a2, rt, s2, tp, cc, ce, tr, c0, tn, cn, rfl, rfl, hk, ⟨hc1, hc2, rfl, hc4⟩, hst, hme, htp, hru, hbk, hbd, hsh⟩
    · exact (c_X10_holds_ok l Γ hr hn e1 e2).lift [0, 21, 22, 23, 24, 25] rfl (by decide) rfl
    · exact (c_X11_holds_ok l Γ hc4 hc2 h7 hn hr e3 e2 e4).lift [0, 4, 5, 6] rfl (by decide) rfl
theorem o_said (l : Launch) (Γ : Gm) {hx hm : Nat} {a : Nat → Nat} {sh : Nat → Nat} {it : Nat → Nat} {f : Nat → Option Nat} {lw : Nat → Int64} {up : Nat → Int64} {ua : Int64} {code : Int32} {mk : Int64} {lfa : Int32} {lfi : Int32} {lk : Int32} {dr : Int64} {un : Int64} {ms : Ms} {u : Nat} {tb : Nat → Int32} {nx : Nat} {RI : Nat → Int32} {T : Nat} {uT : Nat} {TA : Nat → Nat → Int32} {z : Nat} {cs : Nat → Int64} {en : Nat → Int32} {al : Nat → Int32} {he : Nat → Int32} {σ : TrS} {n : Nat} {Bf : Nat → Nat → Int32} {n' : Nat} {B' : Nat → Nat → Int32} {ln : Nat → Int32} {sz : Nat → Nat} {itf : Nat → Nat → Int32} {q : Nat → Nat} {I : Nat → Int32} {mln : Nat → Int32} {mmn : Nat → Int32} {mit : Nat → Int32} {pl : Nat → Int32} {te : Nat → Int32} {ts : Nat → Int32} {sy : Nat → Int32} {a2 : Nat → Int32} {rt : Nat → Int32} {s2 : Nat → Int32} {tp : Nat → Int32} {cc : Nat → Int32} {ce : Nat → Int32} {tr : Nat → Int32} {c0 : Nat} {tn : Nat → Nat} {cn : Nat → Nat} (hk : Rk (sh) (f) (lw) (up) (ua)) (hch : Rch (code) (mk) ((I) 5) (c0)) (hst : Rst ((I) 1) ((I) 17) (lfa) (lfi)) (hme : Rme (lw) (up) (ua) (lk) (dr) (un) (ms)) (htp : Rtp (u) (tb) ((I) 16) (tp)) (hru : Rru (n) (Bf) ((I) 7) (te) (ts) (sy) (tn)) (hbk : Rbk (z) (cs) (en) (al) ((I) 25) (cc) (ce) (cn)) (hbd : Rbd (σ) ((I) 29) (tr)) (hsh : Rsh (ln) (sz) (itf) (mln) (mmn) (mit)) (v1 : Int32) : OpR l Γ hx hm (WX Γ hx (a) (sh) (it) (f) (lw) (up) (ua) (code) (mk) (lfa) (lfi) (lk) (dr) (un) (ms) (u) (tb) (nx) (RI) (T) (uT) (TA) (z) (cs) (en) (al) (he) (σ) (n) (Bf) (n') (B') (ln) (sz) (itf)) (WM Γ hm (q) (I) (mln) (mmn) (mit) (pl) (te) (ts) (sy) (a2) (rt) (s2) (tp) (cc) (ce) (tr)) yX10_said cX10_said 3 6 yX11_said cX11_said 3 4 [.int v1] := by
  obtain ⟨hc1, hc2, rfl, hc4⟩ := hch
  have hn := hru.1
  have h7 := hru.2.1
  by_cases c : v1 = 0 ∨ v1 = 1
  · rcases least_b (fun r => s_tr (Bf 0) (Bf 1) (Bf 2) r (lN (CH c0)) (tn r)) n with h0 | ⟨r, hr, h1, h0⟩
    · skip
      refine ⟨-1000000, WX Γ hx (a) (sh) (it) (f) (lw) (up) (ua) (code) (lN (CH c0)) (lfa) (lfi) (lk) (dr) (un) (ms) (u) (tb) (nx) (RI) (T) (uT) (TA) (z) (cs) (en) (al) (he) (σ) (n) (Bf) (n') (B') (ln) (sz) (itf), WM Γ hm (q) (upd I 0 0) (mln) (mmn) (mit) (s_lay pl c0) (te) (ts) (sy) (a2) (rt) (s2) (tp) (cc) (ce) (tr), ?_, ?_, ?_⟩
      · exact ⟨a, sh, it, f, lw, up, ua, code, lN (CH c0), lfa, lfi, lk, dr, un, ms, u, tb, nx, RI, T, uT, TA, z, cs, en, al, he, σ, n, Bf, n', B', ln, sz, itf, q, upd I 0 0, mln, mmn, mit, s_lay pl c0, te, ts, sy, a2, rt, s2, tp, cc, ce, tr, c0, tn, cn, rfl, rfl, hk, ⟨hc1, hc2, rfl, hc4⟩, hst, hme, htp, hru, hbk, hbd, hsh⟩
      · exact (c_X10_said_none l Γ hn (fun r hr => ⟨(hru.2.2 r hr).1, (hru.2.2 r hr).2.1⟩) c h0).lift [0, 21, 22, 23, 24, 25] rfl (by decide) rfl
      · exact (c_X11_said_none l Γ hc4 hc2 h7 hn (fun r hr => ⟨(hru.2.2 r hr).2.2.1, (hru.2.2 r hr).2.1⟩) (fun r hr => (hru.2.2 r hr).2.2.2.1) c h0).lift [0, 4, 5, 6, 7] rfl (by decide) rfl
    · skip
      refine ⟨if v1 = 0 then Bf 4 r else nI r, WX Γ hx (a) (sh) (it) (f) (lw) (up) (ua) (code) (lN (CH c0)) (lfa) (lfi) (lk) (dr) (un) (ms) (u) (tb) (nx) (RI) (T) (uT) (TA) (z) (cs) (en) (al) (he) (σ) (n) (Bf) (n') (B') (ln) (sz) (itf), WM Γ hm (q) (upd I 0 0) (mln) (mmn) (mit) (s_lay pl c0) (te) (ts) (sy) (a2) (rt) (s2) (tp) (cc) (ce) (tr), ?_, ?_, ?_⟩
      · exact ⟨a, sh, it, f, lw, up, ua, code, lN (CH c0), lfa, lfi, lk, dr, un, ms, u, tb, nx, RI, T, uT, TA, z, cs, en, al, he, σ, n, Bf, n', B', ln, sz, itf, q, upd I 0 0, mln, mmn, mit, s_lay pl c0, te, ts, sy, a2, rt, s2, tp, cc, ce, tr, c0, tn, cn, rfl, rfl, hk, ⟨hc1, hc2, rfl, hc4⟩, hst, hme, htp, hru, hbk, hbd, hsh⟩
      · exact (c_X10_said_ok l Γ hn (fun r hr => ⟨(hru.2.2 r hr).1, (hru.2.2 r hr).2.1⟩) c hr h1 h0).lift [0, 21, 22, 23, 24, 25, 26] rfl (by decide) rfl
      · exact ((c_X11_said_ok l Γ hc4 hc2 h7 hn (fun r hr => ⟨(hru.2.2 r hr).2.2.1, (hru.2.2 r hr).2.1⟩) (fun r hr => (hru.2.2 r hr).2.2.2.1) c hr h1 h0).to (by rw [(hru.2.2 r hr).2.2.2.2])).lift [0, 4, 5, 6, 7] rfl (by decide) rfl
  · skip
    refine ⟨-1000001, WX Γ hx (a) (sh) (it) (f) (lw) (up) (ua) (code) (lN (CH c0)) (lfa) (lfi) (lk) (dr) (un) (ms) (u) (tb) (nx) (RI) (T) (uT) (TA) (z) (cs) (en) (al) (he) (σ) (n) (Bf) (n') (B') (ln) (sz) (itf), WM Γ hm (q) (upd I 0 0) (mln) (mmn) (mit) (pl) (te) (ts) (sy) (a2) (rt) (s2) (tp) (cc) (ce) (tr), ?_, ?_, ?_⟩
    · exact ⟨a, sh, it, f, lw, up, ua, code, lN (CH c0), lfa, lfi, lk, dr, un, ms, u, tb, nx, RI, T, uT, TA, z, cs, en, al, he, σ, n, Bf, n', B', ln, sz, itf, q, upd I 0 0, mln, mmn, mit, pl, te, ts, sy, a2, rt, s2, tp, cc, ce, tr, c0, tn, cn, rfl, rfl, hk, ⟨hc1, hc2, rfl, hc4⟩, hst, hme, htp, hru, hbk, hbd, hsh⟩
    · exact (c_X10_said_bad l Γ (n := n) ⟨fun z => c (Or.inl z), fun z => c (Or.inr z)⟩).lift [0, 21, 22, 23, 24, 25] rfl (by decide) rfl
    · exact (c_X11_said_bad l Γ ⟨fun z => c (Or.inl z), fun z => c (Or.inr z)⟩).lift [0] rfl (by decide) rfl
theorem o_worth (l : Launch) (Γ : Gm) {hx hm : Nat} {a : Nat → Nat} {sh : Nat → Nat} {it : Nat → Nat} {f : Nat → Option Nat} {lw : Nat → Int64} {up : Nat → Int64} {ua : Int64} {code : Int32} {mk : Int64} {lfa : Int32} {lfi : Int32} {lk : Int32} {dr : Int64} {un : Int64} {ms : Ms} {u : Nat} {tb : Nat → Int32} {nx : Nat} {RI : Nat → Int32} {T : Nat} {uT : Nat} {TA : Nat → Nat → Int32} {z : Nat} {cs : Nat → Int64} {en : Nat → Int32} {al : Nat → Int32} {he : Nat → Int32} {σ : TrS} {n : Nat} {Bf : Nat → Nat → Int32} {n' : Nat} {B' : Nat → Nat → Int32} {ln : Nat → Int32} {sz : Nat → Nat} {itf : Nat → Nat → Int32} {q : Nat → Nat} {I : Nat → Int32} {mln : Nat → Int32} {mmn : Nat → Int32} {mit : Nat → Int32} {pl : Nat → Int32} {te : Nat → Int32} {ts : Nat → Int32} {sy : Nat → Int32} {a2 : Nat → Int32} {rt : Nat → Int32} {s2 : Nat → Int32} {tp : Nat → Int32} {cc : Nat → Int32} {ce : Nat → Int32} {tr : Nat → Int32} {c0 : Nat} {tn : Nat → Nat} {cn : Nat → Nat} (hk : Rk (sh) (f) (lw) (up) (ua)) (hch : Rch (code) (mk) ((I) 5) (c0)) (hst : Rst ((I) 1) ((I) 17) (lfa) (lfi)) (hme : Rme (lw) (up) (ua) (lk) (dr) (un) (ms)) (htp : Rtp (u) (tb) ((I) 16) (tp)) (hru : Rru (n) (Bf) ((I) 7) (te) (ts) (sy) (tn)) (hbk : Rbk (z) (cs) (en) (al) ((I) 25) (cc) (ce) (cn)) (hbd : Rbd (σ) ((I) 29) (tr)) (hsh : Rsh (ln) (sz) (itf) (mln) (mmn) (mit)) (v1 : Int32) (v2 : Int32) : OpR l Γ hx hm (WX Γ hx (a) (sh) (it) (f) (lw) (up) (ua) (code) (mk) (lfa) (lfi) (lk) (dr) (un) (ms) (u) (tb) (nx) (RI) (T) (uT) (TA) (z) (cs) (en) (al) (he) (σ) (n) (Bf) (n') (B') (ln) (sz) (itf)) (WM Γ hm (q) (I) (mln) (mmn) (mit) (pl) (te) (ts) (sy) (a2) (rt) (s2) (tp) (cc) (ce) (tr)) yX10_worth cX10_worth 3 6 yX11_worth cX11_worth 3 4 [.int v1, .int v2] := by
  obtain ⟨hz1, hz2, rfl, hz4, hz5⟩ := hbk
  have hn := hru.1
  have h7 := hru.2.1
  have hbad : ¬ (¬ v1 < 0 ∧ ¬ nI n ≤ v1) ∨ v2 < 0 ∨ ¬ v2 ≤ 3 ∨ True := Or.inr (Or.inr (Or.inr trivial))
  clear hbad
  have hen : ∀ k, k < z → ∃ c, c < 3 ∧ ce k = nI c := fun k hk => (hz4 k hk).2.2.2
  have hcc : ∀ k, k < z → cc k = nI (cn k) ∧ cn k < 65536 := fun k hk => ⟨(hz4 k hk).1, (hz4 k hk).2.1⟩
  by_cases c : ¬ (¬ v1 < 0 ∧ ¬ nI n ≤ v1) ∨ v2 < 0 ∨ ¬ v2 ≤ 3
  · skip
    refine ⟨-1000001, WX Γ hx (a) (sh) (it) (f) (lw) (up) (ua) (code) (mk) (lfa) (lfi) (lk) (dr) (un) (ms) (u) (tb) (nx) (RI) (T) (uT) (TA) (z) (cs) (ce) (al) (he) (σ) (n) (Bf) (n') (B') (ln) (sz) (itf), WM Γ hm (q) (upd I 0 0) (mln) (mmn) (mit) (pl) (te) (ts) (sy) (a2) (rt) (s2) (tp) (cc) (ce) (tr), ?_, ?_, ?_⟩
    · exact ⟨a, sh, it, f, lw, up, ua, code, mk, lfa, lfi, lk, dr, un, ms, u, tb, nx, RI, T, uT, TA, z, cs, ce, al, he, σ, n, Bf, n', B', ln, sz, itf, q, upd I 0 0, mln, mmn, mit, pl, te, ts, sy, a2, rt, s2, tp, cc, ce, tr, c0, tn, cn, rfl, rfl, hk, hch, hst, hme, htp, hru, ⟨hz1, hz2, rfl, hz4, hz5⟩, hbd, hsh⟩
    · exact (c_X10_worth_bad l Γ (n := n) c).lift [0, 14, 15, 16, 17, 18, 21, 22, 23, 24, 25] rfl (by decide) rfl
    · exact (c_X11_worth_bad l Γ h7 hn c).lift [0] rfl (by decide) rfl
  · have hv2 : ¬ v2 < 0 ∧ v2 ≤ 3 := ⟨fun z => c (Or.inr (Or.inl z)), Decidable.byContradiction fun z => c (Or.inr (Or.inr z))⟩
    rcases i32_cases v1 n (by omega) with q9 | ⟨r, hr, rfl⟩
    · exact absurd (Or.inl (fun z => q9.elim z.1 z.2)) c
    obtain ⟨e1, e2, e3, e4, e5⟩ := hru.2.2 r hr
    have hP : ∀ c9 : Int32, s_cnt ce (fun k => s_tr (Bf 0) (Bf 1) (Bf 2) r (lN (CH (cn k))) (tn r)) c9 z = s_cnt ce (fun k => s_tr (Bf 0) (Bf 1) (Bf 2) r (cs k) (tn r)) c9 z := fun c9 => cnt_cong (fun k hk => ⟨rfl, by rw [(hz4 k hk).2.2.1]⟩)
    have hA : ∀ c9 : Nat, c9 < 3 → s_hf he ce (fun k => s_tr (Bf 0) (Bf 1) (Bf 2) r (cs k) (tn r)) z c9 = s_cnt ce (fun k => s_tr (Bf 0) (Bf 1) (Bf 2) r (cs k) (tn r)) (nI c9) z := fun c9 h9 => if_pos h9
    have hq : m_wor ce (fun k => s_tr (Bf 0) (Bf 1) (Bf 2) r (lN (CH (cn k))) (tn r)) z v2 = s_bans al (s_hf he ce (fun k => s_tr (Bf 0) (Bf 1) (Bf 2) r (cs k) (tn r)) z) v2 := by
      unfold m_wor s_bans
      rw [hP, hP, hP]
      have a0 := hA 0 (by decide)
      have a1 := hA 1 (by decide)
      have a2 := hA 2 (by decide)
      by_cases k0 : v2 = 0
      · rw [if_pos k0, if_pos k0, a0, a1, a2]; rfl
      · rw [if_neg k0, if_neg k0]
        by_cases k1 : v2 = 1
        · rw [if_pos k1, if_pos k1, a1]; rfl
        · rw [if_neg k1, if_neg k1]
          by_cases k2 : v2 = 2
          · rw [if_pos k2, if_pos k2, a0]; rfl
          · have k3 : v2 = 3 := by
              rcases i32_cases v2 4 (by decide) with q9 | ⟨j, hj, rfl⟩
              · rcases q9 with q9 | q9
                · exact absurd q9 hv2.1
                · exact absurd (Int32.le_trans q9 hv2.2) (by decide)
              · rcases (show j = 0 ∨ j = 1 ∨ j = 2 ∨ j = 3 by omega) with rfl | rfl | rfl | rfl
                · exact absurd rfl k0
                · exact absurd rfl k1
                · exact absurd rfl k2
                · rfl
            rw [if_neg k2, if_neg k2, if_pos k3, s_wh, a0, a1, hz5 0 (by decide), hz5 1 (by decide)]
            rfl
    refine ⟨s_bans al (s_hf he ce (fun k => s_tr (Bf 0) (Bf 1) (Bf 2) r (cs k) (tn r)) z) v2, WX Γ hx (a) (sh) (it) (f) (lw) (up) (ua) (code) (mk) (lfa) (lfi) (lk) (dr) (un) (ms) (u) (tb) (nx) (RI) (T) (uT) (TA) (z) (cs) (ce) (al) (s_hf he ce (fun k => s_tr (Bf 0) (Bf 1) (Bf 2) r (cs k) (tn r)) z) (σ) (n) (Bf) (n') (B') (ln) (sz) (itf), WM Γ hm (q) (upd I 0 0) (mln) (mmn) (mit) (pz pl cn z) (te) (ts) (sy) (a2) (rt) (s2) (tp) (cc) (ce) (tr), ?_, ?_, ?_⟩
    · exact ⟨a, sh, it, f, lw, up, ua, code, mk, lfa, lfi, lk, dr, un, ms, u, tb, nx, RI, T, uT, TA, z, cs, ce, al, s_hf he ce (fun k => s_tr (Bf 0) (Bf 1) (Bf 2) r (cs k) (tn r)) z, σ, n, Bf, n', B', ln, sz, itf, q, upd I 0 0, mln, mmn, mit, pz pl cn z, te, ts, sy, a2, rt, s2, tp, cc, ce, tr, c0, tn, cn, rfl, rfl, hk, hch, hst, hme, htp, hru, ⟨hz1, hz2, rfl, hz4, hz5⟩, hbd, hsh⟩
    · exact (c_X10_worth_ok l Γ hz1 hen hn hr e1 e2 hv2).lift [0, 14, 15, 16, 17, 18, 21, 22, 23, 24, 25] rfl (by decide) rfl
    · exact ((c_X11_worth_ok l Γ h7 hn hz2 hz1 hcc hr e3 e2 e4 hv2).to hq).lift [0, 4, 5, 6, 12, 13] rfl (by decide) rfl
theorem o_best (l : Launch) (Γ : Gm) {hx hm : Nat} {a : Nat → Nat} {sh : Nat → Nat} {it : Nat → Nat} {f : Nat → Option Nat} {lw : Nat → Int64} {up : Nat → Int64} {ua : Int64} {code : Int32} {mk : Int64} {lfa : Int32} {lfi : Int32} {lk : Int32} {dr : Int64} {un : Int64} {ms : Ms} {u : Nat} {tb : Nat → Int32} {nx : Nat} {RI : Nat → Int32} {T : Nat} {uT : Nat} {TA : Nat → Nat → Int32} {z : Nat} {cs : Nat → Int64} {en : Nat → Int32} {al : Nat → Int32} {he : Nat → Int32} {σ : TrS} {n : Nat} {Bf : Nat → Nat → Int32} {n' : Nat} {B' : Nat → Nat → Int32} {ln : Nat → Int32} {sz : Nat → Nat} {itf : Nat → Nat → Int32} {q : Nat → Nat} {I : Nat → Int32} {mln : Nat → Int32} {mmn : Nat → Int32} {mit : Nat → Int32} {pl : Nat → Int32} {te : Nat → Int32} {ts : Nat → Int32} {sy : Nat → Int32} {a2 : Nat → Int32} {rt : Nat → Int32} {s2 : Nat → Int32} {tp : Nat → Int32} {cc : Nat → Int32} {ce : Nat → Int32} {tr : Nat → Int32} {c0 : Nat} {tn : Nat → Nat} {cn : Nat → Nat} (hk : Rk (sh) (f) (lw) (up) (ua)) (hch : Rch (code) (mk) ((I) 5) (c0)) (hst : Rst ((I) 1) ((I) 17) (lfa) (lfi)) (hme : Rme (lw) (up) (ua) (lk) (dr) (un) (ms)) (htp : Rtp (u) (tb) ((I) 16) (tp)) (hru : Rru (n) (Bf) ((I) 7) (te) (ts) (sy) (tn)) (hbk : Rbk (z) (cs) (en) (al) ((I) 25) (cc) (ce) (cn)) (hbd : Rbd (σ) ((I) 29) (tr)) (hsh : Rsh (ln) (sz) (itf) (mln) (mmn) (mit))  : OpR l Γ hx hm (WX Γ hx (a) (sh) (it) (f) (lw) (up) (ua) (code) (mk) (lfa) (lfi) (lk) (dr) (un) (ms) (u) (tb) (nx) (RI) (T) (uT) (TA) (z) (cs) (en) (al) (he) (σ) (n) (Bf) (n') (B') (ln) (sz) (itf)) (WM Γ hm (q) (I) (mln) (mmn) (mit) (pl) (te) (ts) (sy) (a2) (rt) (s2) (tp) (cc) (ce) (tr)) yX10_best cX10_best 5 6 yX11_best cX11_best 5 4 [] := by
  obtain ⟨hz1, hz2, rfl, hz4, hz5⟩ := hbk
  have hn := hru.1
  have h7 := hru.2.1
  have hen : ∀ k, k < z → ∃ c, c < 3 ∧ ce k = nI c := fun k hk => (hz4 k hk).2.2.2
  have hcc : ∀ k, k < z → cc k = nI (cn k) ∧ cn k < 65536 := fun k hk => ⟨(hz4 k hk).1, (hz4 k hk).2.1⟩
  have hq : (s_bst (s_wv ce (fun c => s_cnt ce (fun _ => true) (nI c) z) (fun r k => s_tr (Bf 0) (Bf 1) (Bf 2) r (lN (CH (cn k))) (tn r)) z) n).1 = (s_bst (s_wv ce al (fun r k => s_tr (Bf 0) (Bf 1) (Bf 2) r (cs k) (tn r)) z) n).1 := by
    congr 1
    refine bst_cong (fun r hr => ?_)
    have hP : ∀ c9 : Int32, s_cnt ce ((fun r k => s_tr (Bf 0) (Bf 1) (Bf 2) r (lN (CH (cn k))) (tn r)) r) c9 z = s_cnt ce ((fun r k => s_tr (Bf 0) (Bf 1) (Bf 2) r (cs k) (tn r)) r) c9 z := fun c9 => cnt_cong (fun k hk => ⟨rfl, by dsimp only; rw [(hz4 k hk).2.2.1]⟩)
    unfold s_wv
    rw [hP, hP, hz5 0 (by decide), hz5 1 (by decide)]
  refine ⟨(s_bst (s_wv ce al (fun r k => s_tr (Bf 0) (Bf 1) (Bf 2) r (cs k) (tn r)) z) n).1, WX Γ hx (a) (sh) (it) (f) (lw) (up) (ua) (code) (mk) (lfa) (lfi) (lk) (dr) (un) (ms) (u) (tb) (nx) (RI) (T) (uT) (TA) (z) (cs) (ce) (al) (s_bh he ce (fun r k => s_tr (Bf 0) (Bf 1) (Bf 2) r (cs k) (tn r)) z n) (σ) (n) (Bf) (n') (B') (ln) (sz) (itf), WM Γ hm (q) (upd I 0 0) (mln) (mmn) (mit) (pbr pl cn z n) (te) (ts) (sy) (a2) (rt) (s2) (tp) (cc) (ce) (tr), ?_, ?_, ?_⟩
  · exact ⟨a, sh, it, f, lw, up, ua, code, mk, lfa, lfi, lk, dr, un, ms, u, tb, nx, RI, T, uT, TA, z, cs, ce, al, s_bh he ce (fun r k => s_tr (Bf 0) (Bf 1) (Bf 2) r (cs k) (tn r)) z n, σ, n, Bf, n', B', ln, sz, itf, q, upd I 0 0, mln, mmn, mit, pbr pl cn z n, te, ts, sy, a2, rt, s2, tp, cc, ce, tr, c0, tn, cn, rfl, rfl, hk, hch, hst, hme, htp, hru, ⟨hz1, hz2, rfl, hz4, hz5⟩, hbd, hsh⟩
  · exact (c_X10_best l Γ hz1 hen hn (fun r hr => ⟨(hru.2.2 r hr).1, (hru.2.2 r hr).2.1⟩)).lift [0, 14, 15, 16, 17, 18, 21, 22, 23, 24, 25] rfl (by decide) rfl
  · exact ((c_X11_best l Γ h7 hn hz2 hz1 hcc (fun r hr => ⟨(hru.2.2 r hr).2.2.1, (hru.2.2 r hr).2.1⟩) (fun r hr => (hru.2.2 r hr).2.2.2.1)).to hq).lift [0, 4, 5, 6, 12, 13] rfl (by decide) rfl