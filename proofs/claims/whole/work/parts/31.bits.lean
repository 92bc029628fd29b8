theorem nxorI (a b : Nat) : nI a ^^^ nI b = nI (a ^^^ b) := by
  apply Int32.toBitVec_inj.1
  show BitVec.ofNat 32 a ^^^ BitVec.ofNat 32 b = BitVec.ofNat 32 (a ^^^ b)
  apply BitVec.eq_of_getLsbD_eq
  intro i hi
  simp [hi]
theorem norI (a b : Nat) : nI a ||| nI b = nI (a ||| b) := by
  apply Int32.toBitVec_inj.1
  show BitVec.ofNat 32 a ||| BitVec.ofNat 32 b = BitVec.ofNat 32 (a ||| b)
  apply BitVec.eq_of_getLsbD_eq
  intro i hi
  simp [hi]
theorem nandI (a b : Nat) : nI a &&& nI b = nI (a &&& b) := by
  apply Int32.toBitVec_inj.1
  show BitVec.ofNat 32 a &&& BitVec.ofNat 32 b = BitVec.ofNat 32 (a &&& b)
  apply BitVec.eq_of_getLsbD_eq
  intro i hi
  simp [hi]
theorem nxorL (a b : Nat) : lN a ^^^ lN b = lN (a ^^^ b) := by
  apply Int64.toBitVec_inj.1
  show BitVec.ofNat 64 a ^^^ BitVec.ofNat 64 b = BitVec.ofNat 64 (a ^^^ b)
  apply BitVec.eq_of_getLsbD_eq
  intro i hi
  simp [hi]
theorem norL (a b : Nat) : lN a ||| lN b = lN (a ||| b) := by
  apply Int64.toBitVec_inj.1
  show BitVec.ofNat 64 a ||| BitVec.ofNat 64 b = BitVec.ofNat 64 (a ||| b)
  apply BitVec.eq_of_getLsbD_eq
  intro i hi
  simp [hi]
theorem nandL (a b : Nat) : lN a &&& lN b = lN (a &&& b) := by
  apply Int64.toBitVec_inj.1
  show BitVec.ofNat 64 a &&& BitVec.ofNat 64 b = BitVec.ofNat 64 (a &&& b)
  apply BitVec.eq_of_getLsbD_eq
  intro i hi
  simp [hi]
theorem shr_ok : ∀ j, j < 32 → ((nI j &&& 31).toBitVec.smod 32).toNat = j := by decide +kernel
theorem shrI {n j : Nat} (hn : n < 2 ^ 31) (hj : j < 32) : nI n >>> (nI j &&& 31) = nI (n / 2 ^ j) := pk_shrN hn _ j (shr_ok j hj)
theorem shlI {n j : Nat} (hj : j < 32) (h : n * 2 ^ j < 2 ^ 32) : nI n <<< (nI j &&& 31) = nI (n * 2 ^ j) := pk_shlN _ j (shr_ok j hj) h
theorem and15 (n : Nat) : nI n &&& 15 = nI (n % 16) := by
  rw [show (15 : Int32) = nI 15 from rfl, nandI, show (15 : Nat) = 2 ^ 4 - 1 from rfl, Nat.and_two_pow_sub_one_eq_mod]
theorem and1 (n : Nat) : nI n &&& 1 = nI (n % 2) := by
  rw [show (1 : Int32) = nI 1 from rfl, nandI, show (1 : Nat) = 2 ^ 1 - 1 from rfl, Nat.and_two_pow_sub_one_eq_mod]
theorem or_sumI {a k : Nat} (b : Nat) (h : a < 2 ^ k) : nI a ||| nI (b * 2 ^ k) = nI (a + b * 2 ^ k) := by
  rw [norI, Nat.mul_comm b, Nat.or_comm, ← Nat.two_pow_add_eq_or_of_lt h, Nat.add_comm]
theorem or_sumL {a k : Nat} (b : Nat) (h : a < 2 ^ k) : lN a ||| lN (b * 2 ^ k) = lN (a + b * 2 ^ k) := by
  rw [norL, Nat.mul_comm b, Nat.or_comm, ← Nat.two_pow_add_eq_or_of_lt h, Nat.add_comm]
theorem ush_ok : ∀ j, j < 64 → (((nI j).toInt64.toUInt64 &&& Int64.toUInt64 63).toBitVec % 64).toNat = j := by decide +kernel
theorem ushL {S j : Nat} (hS : S < 2 ^ 64) (hj : j < 64) : lushrI (lN S) (nI j) = lN (S / 2 ^ j) := by
  apply Int64.toBitVec_inj.1
  show ((lN S).toUInt64 >>> ((nI j).toInt64.toUInt64 &&& Int64.toUInt64 63)).toBitVec = BitVec.ofNat 64 (S / 2 ^ j)
  rw [UInt64.toBitVec_shiftRight]
  apply BitVec.eq_of_toNat_eq
  rw [BitVec.ushiftRight_eq', BitVec.toNat_ushiftRight, ush_ok j hj, Nat.shiftRight_eq_div_pow, BitVec.toNat_ofNat]
  show (BitVec.ofNat 64 S).toNat / 2 ^ j = S / 2 ^ j % 2 ^ 64
  rw [BitVec.toNat_ofNat, Nat.mod_eq_of_lt hS, Nat.mod_eq_of_lt (Nat.lt_of_le_of_lt (Nat.div_le_self _ _) hS)]
theorem lsh_ok : ∀ j, j < 64 → (((nI j).toInt64 &&& 63).toBitVec.smod 64).toNat = j := by decide +kernel
theorem shlL (f : Nat) {j : Nat} (hj : j < 64) : lN f <<< ((nI j).toInt64 &&& 63) = lN (f * 2 ^ j) := by
  apply Int64.toBitVec_inj.1
  rw [Int64.toBitVec_shiftLeft]
  apply BitVec.eq_of_toNat_eq
  rw [BitVec.shiftLeft_eq', BitVec.toNat_shiftLeft, lsh_ok j hj, Nat.shiftLeft_eq]
  show (BitVec.ofNat 64 f).toNat * 2 ^ j % 2 ^ 64 = (BitVec.ofNat 64 (f * 2 ^ j)).toNat
  rw [BitVec.toNat_ofNat, BitVec.toNat_ofNat, Nat.mod_mul_mod]
theorem i4 (p : Nat) : (4 : Int32) * nI p = nI (4 * p) := by rw [show (4 : Int32) = nI 4 from rfl, pk_mul]
theorem s_fa_N {S p : Nat} (hS : S < 2 ^ 64) (hp : p < 16) : s_fa (lN S) (nI p) = nI (S / 2 ^ (4 * p) % 16) := by
  rw [s_fa, i4, ushL hS (by omega), lN_i, and15]
theorem s_wf_N {S p f : Nat} (hS : S < 2 ^ (4 * p)) (hp : p < 16) (hf : f < 2 ^ 31) : s_wf (lN S) (nI p) (nI f) = lN (S + f * 2 ^ (4 * p)) := by
  rw [s_wf, i4, nI_l hf, shlL f (by omega), or_sumL f hS]
/-- the figures of the chart of a code: mothers, daughters, nieces, witnesses, judge, end -/
def mN (n i : Nat) : Nat := n / 2 ^ (4 * i) % 16
def dN (n j : Nat) : Nat → Nat
  | 0 => 0
  | i + 1 => dN n j i + (n / 2 ^ (4 * i + j) % 2) * 2 ^ i
theorem dN_lt (n j : Nat) : ∀ i, dN n j i < 2 ^ i
  | 0 => (by decide : 0 < 1)
  | i + 1 => by
    have h := dN_lt n j i
    have h2 : n / 2 ^ (4 * i + j) % 2 < 2 := Nat.mod_lt _ (by decide)
    rw [dN, Nat.pow_succ]
    have h3 : n / 2 ^ (4 * i + j) % 2 * 2 ^ i ≤ 1 * 2 ^ i := Nat.mul_le_mul_right _ (by omega)
    omega
def b8 (n x : Nat) : Nat := if x < 4 then mN n x else dN n (x - 4) 4
def nie (n k : Nat) : Nat := b8 n (2 * k) ^^^ b8 n (2 * k + 1)
def fg (n k : Nat) : Nat := if k < 8 then b8 n k else if k < 12 then nie n (k - 8) else if k = 12 then nie n 0 ^^^ nie n 1 else if k = 13 then nie n 2 ^^^ nie n 3 else if k = 14 then (nie n 0 ^^^ nie n 1) ^^^ (nie n 2 ^^^ nie n 3) else ((nie n 0 ^^^ nie n 1) ^^^ (nie n 2 ^^^ nie n 3)) ^^^ b8 n 0
theorem b8_lt (n x : Nat) : b8 n x < 2 ^ 4 := by
  unfold b8
  split
  · exact Nat.mod_lt _ (by decide)
  · exact dN_lt n _ 4
theorem nie_lt (n k : Nat) : nie n k < 2 ^ 4 := Nat.xor_lt_two_pow (b8_lt _ _) (b8_lt _ _)
theorem fg_lt4 (n k : Nat) : fg n k < 2 ^ 4 := by
  unfold fg
  repeat' split
  · exact b8_lt _ _
  · exact nie_lt _ _
  · exact Nat.xor_lt_two_pow (nie_lt _ _) (nie_lt _ _)
  · exact Nat.xor_lt_two_pow (nie_lt _ _) (nie_lt _ _)
  · exact Nat.xor_lt_two_pow (Nat.xor_lt_two_pow (nie_lt _ _) (nie_lt _ _)) (Nat.xor_lt_two_pow (nie_lt _ _) (nie_lt _ _))
  · exact Nat.xor_lt_two_pow (Nat.xor_lt_two_pow (Nat.xor_lt_two_pow (nie_lt _ _) (nie_lt _ _)) (Nat.xor_lt_two_pow (nie_lt _ _) (nie_lt _ _))) (b8_lt _ _)
theorem fg_lt (n k : Nat) : fg n k < 16 := fg_lt4 n k
theorem fg_up (n : Nat) : ∀ k, k < 7 → fg n (8 + k) = fg n (2 * k) ^^^ fg n (2 * k + 1)
  | 0, _ => rfl
  | 1, _ => rfl
  | 2, _ => rfl
  | 3, _ => rfl
  | 4, _ => rfl
  | 5, _ => rfl
  | 6, _ => rfl
  | k + 7, h => absurd h (by omega)
theorem fg_15 (n : Nat) : fg n 15 = fg n 14 ^^^ fg n 0 := rfl
/-- the first p places of a chart, as one number -/
def SC (n : Nat) : Nat → Nat
  | 0 => 0
  | p + 1 => SC n p + fg n p * 2 ^ (4 * p)
theorem SC_lt (n : Nat) : ∀ p, SC n p < 2 ^ (4 * p)
  | 0 => (by decide : 0 < 1)
  | p + 1 => by
    have h := SC_lt n p
    have h2 := fg_lt n p
    rw [SC, show 4 * (p + 1) = 4 * p + 4 from rfl, Nat.pow_add]
    have h3 : fg n p * 2 ^ (4 * p) ≤ 15 * 2 ^ (4 * p) := Nat.mul_le_mul_right _ (by omega)
    omega
theorem SC_lt64 (n : Nat) {p : Nat} (h : p ≤ 16) : SC n p < 2 ^ 64 := Nat.lt_of_lt_of_le (SC_lt n p) (Nat.pow_le_pow_right (by decide) (by omega))
theorem SC_fig (n : Nat) : ∀ (p k : Nat), k < p → SC n p / 2 ^ (4 * k) % 16 = fg n k
  | 0, k, h => absurd h (Nat.not_lt_zero k)
  | p + 1, k, h => by
    have hl := SC_lt n p
    have hf := fg_lt n p
    rw [SC]
    rcases Nat.lt_or_ge k p with q | q
    · have ih := SC_fig n p k q
      have e : fg n p * 2 ^ (4 * p) = 2 ^ (4 * k) * (16 * (fg n p * 2 ^ (4 * (p - k - 1)))) := by
        have : 2 ^ (4 * p) = 2 ^ (4 * k) * (16 * 2 ^ (4 * (p - k - 1))) := by
          rw [show (16 : Nat) = 2 ^ 4 from rfl, ← Nat.pow_add, ← Nat.pow_add]
          congr 1
          omega
        rw [this, Nat.mul_left_comm, Nat.mul_left_comm (fg n p)]
      rw [e, Nat.add_mul_div_left _ _ (Nat.two_pow_pos _), Nat.add_mul_mod_self_left]
      exact ih
    · obtain rfl : k = p := by omega
      rw [Nat.add_mul_div_right _ _ (Nat.two_pow_pos _), Nat.div_eq_of_lt hl]
      omega
theorem SC_4 {n : Nat} (h : n < 65536) : SC n 4 = n := by
  show 0 + b8 n 0 * 1 + b8 n 1 * 16 + b8 n 2 * 256 + b8 n 3 * 4096 = n
  show 0 + n / 1 % 16 * 1 + n / 16 % 16 * 16 + n / 256 % 16 * 256 + n / 4096 % 16 * 4096 = n
  omega
theorem bit_m {n : Nat} (i : Nat) {j : Nat} (hj : j < 4) : mN n i / 2 ^ j % 2 = n / 2 ^ (4 * i + j) % 2 := by
  rw [mN, Nat.pow_add, ← Nat.div_div_eq_div_mul]
  generalize n / 2 ^ (4 * i) = y
  rcases (show j = 0 ∨ j = 1 ∨ j = 2 ∨ j = 3 by omega) with rfl | rfl | rfl | rfl
  · show y % 16 / 1 % 2 = y / 1 % 2; omega
  · show y % 16 / 2 % 2 = y / 2 % 2; omega
  · show y % 16 / 4 % 2 = y / 4 % 2; omega
  · show y % 16 / 8 % 2 = y / 8 % 2; omega
theorem s_daug_N {n j : Nat} (hn : n < 65536) (hj : j < 4) : ∀ i, i ≤ 4 → s_daug (nI n) (nI j) i = nI (dN n j i)
  | 0, _ => rfl
  | i + 1, h => by
    have h2 : n / 2 ^ (4 * i + j) % 2 < 2 := Nat.mod_lt _ (by decide)
    rw [s_daug, s_daug_N hn hj i (by omega), i4, nI_add, shrI (by omega) (by omega), and1, shlI (by omega) (by
      rcases (show i = 0 ∨ i = 1 ∨ i = 2 ∨ i = 3 by omega) with rfl | rfl | rfl | rfl <;> omega), or_sumI _ (dN_lt n j i), dN]
theorem s_ofc1_N {n : Nat} (hn : n < 65536) : ∀ k, k ≤ 4 → s_ofc1 (nI n) k = lN (SC n (4 + k))
  | 0, _ => by
    rw [s_ofc1, SC_4 hn, show (65535 : Int32) = nI 65535 from rfl, nandI, show (65535 : Nat) = 2 ^ 16 - 1 from rfl, Nat.and_two_pow_sub_one_eq_mod, Nat.mod_eq_of_lt hn, nI_l (by omega)]
  | k + 1, h => by
    rw [s_ofc1, s_ofc1_N hn k (by omega), s_daug_N hn (by omega) 4 (by omega), show (4 : Int32) = nI 4 from rfl, nI_add, s_wf_N (SC_lt n _) (by omega) (Nat.lt_trans (dN_lt n k 4) (by decide))]
    show lN (SC n (4 + k) + dN n k 4 * 2 ^ (4 * (4 + k))) = lN (SC n (4 + k) + fg n (4 + k) * 2 ^ (4 * (4 + k)))
    rw [fg, if_pos (by omega), b8, if_neg (by omega), show 4 + k - 4 = k by omega]
theorem s_ofc2_N {n : Nat} (hn : n < 65536) : ∀ k, k ≤ 7 → s_ofc2 (nI n) k = lN (SC n (8 + k))
  | 0, _ => by rw [s_ofc2, s_ofc1_N hn 4 (by omega)]
  | k + 1, h => by
    have e1 : (2 : Int32) * (nI (8 + k) - 8) = nI (2 * k) := by
      rw [show (8 : Int32) = nI 8 from rfl, pk_sub (by omega), show 8 + k - 8 = k by omega, show (2 : Int32) = nI 2 from rfl, pk_mul]
    rw [s_ofc2, s_ofc2_N hn k (by omega), e1, nI_1, s_fa_N (SC_lt64 n (by omega)) (by omega), s_fa_N (SC_lt64 n (by omega)) (by omega), SC_fig n _ _ (by omega), SC_fig n _ _ (by omega), nxorI, s_wf_N (SC_lt n _) (by omega) (Nat.lt_trans (Nat.xor_lt_two_pow (fg_lt4 _ _) (fg_lt4 _ _)) (by decide))]
    show _ = lN (SC n (8 + k) + fg n (8 + k) * 2 ^ (4 * (8 + k)))
    rw [fg_up n k (by omega)]
/-- the chart of a code, as one number -/
def CH (n : Nat) : Nat := SC n 16
theorem s_ofc_N {n : Nat} (hn : n < 65536) : s_ofc (nI n) = lN (CH n) := by
  rw [s_ofc, s_ofc2_N hn 7 (by omega), show (14 : Int32) = nI 14 from rfl, show (0 : Int32) = nI 0 from rfl, show (15 : Int32) = nI 15 from rfl, s_fa_N (SC_lt64 n (by omega)) (by omega), s_fa_N (SC_lt64 n (by omega)) (by omega), SC_fig n _ _ (by omega), SC_fig n _ _ (by omega), nxorI, ← fg_15, s_wf_N (SC_lt n _) (by omega) (Nat.lt_trans (fg_lt4 _ _) (by decide))]
  rfl
theorem CH_lt (n : Nat) : CH n < 2 ^ 64 := SC_lt64 n (Nat.le_refl 16)
theorem s_fa_CH {n p : Nat} (hp : p < 16) : s_fa (lN (CH n)) (nI p) = nI (fg n p) := by
  rw [s_fa_N (CH_lt n) hp, CH, SC_fig n 16 p hp]
