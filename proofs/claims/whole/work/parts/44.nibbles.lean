def pc4 (v : Nat) : Nat := v % 2 + v / 2 % 2 + v / 4 % 2 + v / 8 % 2
/-- the k-th nibble of a word -/
def nb (w k : Nat) : Nat := w / 2 ^ (4 * k) % 16
/-- the strokes in the first n nibbles -/
def PC (w : Nat) : Nat → Nat
  | 0 => 0
  | n + 1 => PC w n + pc4 (nb w n)
theorem pc4_le : ∀ v, v < 16 → pc4 v ≤ 4 := by decide
theorem nb_lt (w k : Nat) : nb w k < 16 := Nat.mod_lt _ (by decide)
theorem PC_le (w : Nat) : ∀ n, PC w n ≤ 4 * n
  | 0 => Nat.le_refl _
  | n + 1 => by
    have := PC_le w n
    have := pc4_le _ (nb_lt w n)
    rw [PC]; omega
theorem nb_succ (w k : Nat) : nb w (k + 1) = nb (w / 16) k := by
  unfold nb
  rw [Nat.div_div_eq_div_mul, show (16 : Nat) = 2 ^ 4 from rfl, ← Nat.pow_add]
  congr 3; omega
theorem PC_front (w : Nat) : ∀ n, PC w (n + 1) = pc4 (w % 16) + PC (w / 16) n
  | 0 => by
    rw [PC, PC, PC, nb, show 2 ^ (4 * 0) = 1 from rfl, Nat.div_one]; omega
  | n + 1 => by
    rw [PC, PC_front w n, PC, nb_succ]; omega
theorem and16 {a c : Nat} (b d : Nat) (ha : a < 16) (hc : c < 16) : (a + 16 * b) &&& (c + 16 * d) = (a &&& c) + 16 * (b &&& d) := by
  have h1 : ((a + 16 * b) &&& (c + 16 * d)) % 2 ^ 4 = a &&& c := by
    rw [Nat.and_mod_two_pow]
    rw [show (a + 16 * b) % 2 ^ 4 = a by omega, show (c + 16 * d) % 2 ^ 4 = c by omega]
  have h2 : ((a + 16 * b) &&& (c + 16 * d)) / 2 ^ 4 = b &&& d := by
    rw [Nat.and_div_two_pow]
    rw [show (a + 16 * b) / 2 ^ 4 = b by omega, show (c + 16 * d) / 2 ^ 4 = d by omega]
  generalize (a + 16 * b) &&& (c + 16 * d) = z at h1 h2
  rw [← h1, ← h2]
  omega
/-- a word, nibble by nibble -/
def rep (f : Nat → Nat) : Nat → Nat → Nat
  | 0, _ => 0
  | n + 1, w => f (w % 16) + 16 * rep f n (w / 16)
def msk (c : Nat) : Nat → Nat
  | 0 => 0
  | n + 1 => c + 16 * msk c n
theorem rep_id : ∀ (n w : Nat), w < 16 ^ n → rep (fun v => v) n w = w
  | 0, w, h => by rw [rep]; rw [Nat.pow_zero] at h; omega
  | n + 1, w, h => by
    rw [rep, rep_id n (w / 16) (by rw [Nat.pow_succ] at h; omega)]
    omega
theorem rep_shift (s c : Nat) (hs : s ≤ 2) (hc : c < 16) (hh : ∀ a, a < 16 → ∀ b, b < 4 → ((a + 16 * b) / 2 ^ s % 16) &&& c = (a / 2 ^ s) &&& c) {f : Nat → Nat} (hf : ∀ v, v < 16 → f v < 16) : ∀ (n w : Nat), (rep f n w / 2 ^ s) &&& msk c n = rep (fun v => (f v / 2 ^ s) &&& c) n w
  | 0, w => by rw [rep, msk, rep, Nat.and_zero]
  | n + 1, w => by
    rw [rep, msk, rep, ← rep_shift s c hs hc hh hf n (w / 16)]
    have ha := hf (w % 16) (Nat.mod_lt _ (by decide))
    generalize f (w % 16) = a at ha
    generalize rep f n (w / 16) = y
    have e : (a + 16 * y) / 2 ^ s = (a + 16 * (y % 4)) / 2 ^ s % 16 + 16 * (y / 2 ^ s) := by
      rcases (show s = 0 ∨ s = 1 ∨ s = 2 by omega) with rfl | rfl | rfl
      · show (a + 16 * y) / 1 = (a + 16 * (y % 4)) / 1 % 16 + 16 * (y / 1); omega
      · show (a + 16 * y) / 2 = (a + 16 * (y % 4)) / 2 % 16 + 16 * (y / 2); omega
      · show (a + 16 * y) / 4 = (a + 16 * (y % 4)) / 4 % 16 + 16 * (y / 4); omega
    rw [e, and16 _ _ (Nat.mod_lt _ (by decide)) hc, hh a ha _ (Nat.mod_lt _ (by decide))]
theorem rep_sub {f g : Nat → Nat} (h : ∀ v, v < 16 → g v ≤ f v) : ∀ (n w : Nat), rep f n w - rep g n w = rep (fun v => f v - g v) n w ∧ rep g n w ≤ rep f n w
  | 0, w => ⟨rfl, Nat.le_refl _⟩
  | n + 1, w => by
    obtain ⟨a, b⟩ := rep_sub h n (w / 16)
    have hv := h (w % 16) (Nat.mod_lt _ (by decide))
    rw [rep, rep, rep, ← a]
    omega
theorem rep_add {f g : Nat → Nat} : ∀ (n w : Nat), rep f n w + rep g n w = rep (fun v => f v + g v) n w
  | 0, w => rfl
  | n + 1, w => by
    rw [rep, rep, rep, ← rep_add n (w / 16)]
    omega
theorem rep_cong {f g : Nat → Nat} (h : ∀ v, v < 16 → f v = g v) : ∀ (n w : Nat), rep f n w = rep g n w
  | 0, w => rfl
  | n + 1, w => by rw [rep, rep, h _ (Nat.mod_lt _ (by decide)), rep_cong h n]
def bcA (w : Nat) : Nat := w - ((w / 2 ^ 1) &&& 6148914691236517205)
def bcB (x : Nat) : Nat := (x &&& 3689348814741910323) + ((x / 2 ^ 2) &&& 3689348814741910323)
theorem msk5 : msk 5 16 = 6148914691236517205 := by decide
theorem msk3 : msk 3 16 = 3689348814741910323 := by decide
theorem bcA_eq {w : Nat} (h : w < 2 ^ 64) : bcA w = rep (fun v => v - ((v / 2 ^ 1) &&& 5)) 16 w ∧ (w / 2 ^ 1) &&& 6148914691236517205 ≤ w := by
  have hid := rep_id 16 w (by rw [show (16 : Nat) ^ 16 = 2 ^ 64 by decide]; exact h)
  have e := rep_shift 1 5 (by decide) (by decide) (by decide) (f := fun v => v) (fun v hv => hv) 16 w
  rw [hid, msk5] at e
  have s := rep_sub (f := fun v => v) (g := fun v => (v / 2 ^ 1) &&& 5) (by decide) 16 w
  rw [hid, ← e] at s
  exact ⟨s.1, s.2⟩
theorem bcB_eq {w : Nat} (h : w < 2 ^ 64) : bcB (bcA w) = rep pc4 16 w := by
  rw [(bcA_eq h).1, bcB]
  have e1 := rep_shift 0 3 (by decide) (by decide) (by decide) (f := fun v => v - ((v / 2 ^ 1) &&& 5)) (by decide) 16 w
  have e2 := rep_shift 2 3 (by decide) (by decide) (by decide) (f := fun v => v - ((v / 2 ^ 1) &&& 5)) (by decide) 16 w
  rw [msk3] at e1 e2
  rw [Nat.pow_zero, Nat.div_one] at e1
  rw [e1, e2, rep_add]
  exact rep_cong (by decide) 16 w
/-- every second nibble: bytes -/
def rep2 : Nat → Nat → Nat
  | 0, _ => 0
  | n + 1, w => (pc4 (w % 16) + pc4 (w / 16 % 16)) + 256 * rep2 n (w / 16 / 16)
def mskF : Nat → Nat
  | 0 => 0
  | n + 1 => 15 + 256 * mskF n
theorem and256 {a c : Nat} (b d : Nat) (ha : a < 256) (hc : c < 256) : (a + 256 * b) &&& (c + 256 * d) = (a &&& c) + 256 * (b &&& d) := by
  have h1 : ((a + 256 * b) &&& (c + 256 * d)) % 2 ^ 8 = a &&& c := by
    rw [Nat.and_mod_two_pow, show (a + 256 * b) % 2 ^ 8 = a by omega, show (c + 256 * d) % 2 ^ 8 = c by omega]
  have h2 : ((a + 256 * b) &&& (c + 256 * d)) / 2 ^ 8 = b &&& d := by
    rw [Nat.and_div_two_pow, show (a + 256 * b) / 2 ^ 8 = b by omega, show (c + 256 * d) / 2 ^ 8 = d by omega]
  generalize (a + 256 * b) &&& (c + 256 * d) = z at h1 h2
  rw [← h1, ← h2]
  omega
theorem rep_even (n w : Nat) : rep pc4 (2 * (n + 1)) w = pc4 (w % 16) + 16 * pc4 (w / 16 % 16) + 256 * rep pc4 (2 * n) (w / 16 / 16) := by
  rw [show 2 * (n + 1) = 2 * n + 1 + 1 by omega, rep, rep]; omega
theorem rep_lo (n w : Nat) : ∃ a b, a ≤ 4 ∧ rep pc4 (2 * n) w = a + 16 * b := by
  cases n with
  | zero => exact ⟨0, 0, by decide, rfl⟩
  | succ n =>
    refine ⟨pc4 (w % 16), pc4 (w / 16 % 16) + 16 * rep pc4 (2 * n) (w / 16 / 16), pc4_le _ (Nat.mod_lt _ (by decide)), ?_⟩
    rw [rep_even]; omega
theorem dec15 : ∀ s, s ≤ 8 → ∀ t, t ≤ 8 → (s + 16 * t) &&& 15 = s := by decide
theorem bc3 : ∀ (n w : Nat), ((rep pc4 (2 * n) w + rep pc4 (2 * n) w / 16) &&& mskF n) = rep2 n w
  | 0, w => by rw [mskF, rep2, Nat.and_zero]
  | n + 1, w => by
    rw [rep_even, mskF, rep2, ← bc3 n (w / 16 / 16)]
    have ha := pc4_le (w % 16) (Nat.mod_lt _ (by decide))
    have hb := pc4_le (w / 16 % 16) (Nat.mod_lt _ (by decide))
    obtain ⟨c, d, hc, hd⟩ := rep_lo n (w / 16 / 16)
    generalize rep pc4 (2 * n) (w / 16 / 16) = y at hd
    generalize pc4 (w % 16) = a at ha
    generalize pc4 (w / 16 % 16) = b at hb
    have e : a + 16 * b + 256 * y + (a + 16 * b + 256 * y) / 16 = (a + b + 16 * (b + c)) + 256 * (y + y / 16) := by omega
    rw [e, and256 _ _ (by omega) (by decide), dec15 _ (by omega) _ (by omega)]
theorem bc_by {b0 b1 b2 b3 b4 b5 b6 b7 y1 y2 y3 y4 y5 y6 y7 x : Nat} (h : b0 + b1 + b2 + b3 + b4 + b5 + b6 + b7 ≤ 64) (e : x = b0 + 256 * y1) (e1 : y1 = b1 + 256 * y2) (e2 : y2 = b2 + 256 * y3) (e3 : y3 = b3 + 256 * y4) (e4 : y4 = b4 + 256 * y5) (e5 : y5 = b5 + 256 * y6) (e6 : y6 = b6 + 256 * y7) (e7 : y7 = b7) :
    (x + x / 2 ^ 8 + (x + x / 2 ^ 8) / 2 ^ 16 + (x + x / 2 ^ 8 + (x + x / 2 ^ 8) / 2 ^ 16) / 2 ^ 32) % 128 = b0 + b1 + b2 + b3 + b4 + b5 + b6 + b7 := by
  have f1 : x / 2 ^ 8 = y1 := by omega
  rw [f1]
  have f2 : x + y1 = (b0 + b1) + 256 * (b1 + b2) + 65536 * (y2 + y3) := by omega
  have f3 : (x + y1) / 2 ^ 16 = y2 + y3 := by rw [f2]; clear e e1 e2 e3 e4 e5 e6 e7 f1 f2; omega
  rw [f3]
  have f4 : y2 + y3 = (b2 + b3) + 256 * (b3 + b4) + 65536 * (y4 + y5) := by omega
  have f5 : y2 + y3 + y4 + y5 = (b2 + b3 + b4 + b5) + 256 * (b3 + b4 + b5 + b6) + 65536 * (y4 + y5 + y6 + y7) := by omega
  have f6 : x + y1 + (y2 + y3) = (b0 + b1 + b2 + b3) + 256 * (b1 + b2 + b3 + b4) + 65536 * (y2 + y3 + y4 + y5) := by omega
  have f7 : (x + y1 + (y2 + y3)) / 2 ^ 32 = y4 + y5 + y6 + y7 := by
    rw [f6, f5]; clear e e1 e2 e3 e4 e5 e6 e7 f1 f2 f3 f4 f5 f6; omega
  rw [f7]
  have f8 : y4 + y5 + y6 + y7 = (b4 + b5 + b6 + b7) + 256 * (y5 + y6 + y7) := by omega
  rw [f6, f8]
  clear e e1 e2 e3 e4 e5 e6 e7 f1 f2 f3 f4 f5 f6 f7 f8
  omega
theorem mskF8 : mskF 8 = 1085102592571150095 := by decide
def bcC (x : Nat) : Nat := (x + x / 2 ^ 4) &&& 1085102592571150095
def bcD (x : Nat) : Nat := (x + x / 2 ^ 8 + (x + x / 2 ^ 8) / 2 ^ 16 + (x + x / 2 ^ 8 + (x + x / 2 ^ 8) / 2 ^ 16) / 2 ^ 32) % 128
theorem PC16 (w : Nat) : PC w 16 = (pc4 (w % 16) + pc4 (w / 16 % 16)) + PC (w / 16 / 16) 14 ∧ True := by
  refine ⟨?_, trivial⟩
  rw [PC_front, PC_front]; omega
theorem PC2 (n w : Nat) : PC w (n + 1 + 1) = (pc4 (w % 16) + pc4 (w / 16 % 16)) + PC (w / 16 / 16) n := by
  rw [PC_front, PC_front]; omega
theorem bc_sum (w : Nat) : bcD (rep2 8 w) = PC w 16 := by
  have hp := PC_le w 16
  rw [bcD]
  rw [PC2 14, PC2 12, PC2 10, PC2 8, PC2 6, PC2 4, PC2 2, PC2 0, show ∀ x, PC x 0 = 0 from fun _ => rfl] at hp ⊢
  rw [show ∀ w, rep2 8 w = (pc4 (w % 16) + pc4 (w / 16 % 16)) + 256 * rep2 7 (w / 16 / 16) from fun _ => rfl]
  refine (bc_by ?_ rfl (show rep2 7 _ = _ + 256 * rep2 6 _ from rfl) (show rep2 6 _ = _ + 256 * rep2 5 _ from rfl) (show rep2 5 _ = _ + 256 * rep2 4 _ from rfl) (show rep2 4 _ = _ + 256 * rep2 3 _ from rfl) (show rep2 3 _ = _ + 256 * rep2 2 _ from rfl) (show rep2 2 _ = _ + 256 * rep2 1 _ from rfl) (show rep2 1 _ = (pc4 _ + pc4 _) from rfl)).trans ?_
  · omega
  · omega
theorem bc_all {w : Nat} (h : w < 2 ^ 64) : bcD (bcC (bcB (bcA w))) = PC w 16 := by
  rw [bcB_eq h, bcC, ← mskF8]
  rw [show rep pc4 16 w + rep pc4 16 w / 2 ^ 4 = rep pc4 (2 * 8) w + rep pc4 (2 * 8) w / 16 from rfl, bc3 8 w]
  exact bc_sum w
theorem nb_xor (a b k : Nat) : nb (a ^^^ b) k = nb a k ^^^ nb b k := by
  unfold nb
  rw [Nat.xor_div_two_pow, show (16 : Nat) = 2 ^ 4 from rfl, Nat.xor_mod_two_pow]
theorem nb_and (a b k : Nat) : nb (a &&& b) k = nb a k &&& nb b k := by
  unfold nb
  rw [Nat.and_div_two_pow, show (16 : Nat) = 2 ^ 4 from rfl, Nat.and_mod_two_pow]
/-- a word of nibbles -/
def NW (g : Nat → Nat) : Nat → Nat
  | 0 => 0
  | p + 1 => NW g p + g p * 2 ^ (4 * p)
theorem NW_lt {g : Nat → Nat} (hg : ∀ k, g k < 16) : ∀ p, NW g p < 2 ^ (4 * p)
  | 0 => (by decide : 0 < 1)
  | p + 1 => by
    have h := NW_lt hg p
    have h2 := hg p
    rw [NW, show 4 * (p + 1) = 4 * p + 4 from rfl, Nat.pow_add]
    have h3 : g p * 2 ^ (4 * p) ≤ 15 * 2 ^ (4 * p) := Nat.mul_le_mul_right _ (by omega)
    omega
theorem NW_nb {g : Nat → Nat} (hg : ∀ k, g k < 16) : ∀ (p k : Nat), k < p → nb (NW g p) k = g k
  | 0, k, h => absurd h (Nat.not_lt_zero k)
  | p + 1, k, h => by
    have hl := NW_lt hg p
    have hf := hg p
    rw [NW, nb]
    rcases Nat.lt_or_ge k p with q | q
    · have ih := NW_nb hg p k q
      have e : g p * 2 ^ (4 * p) = 2 ^ (4 * k) * (16 * (g p * 2 ^ (4 * (p - k - 1)))) := by
        have : 2 ^ (4 * p) = 2 ^ (4 * k) * (16 * 2 ^ (4 * (p - k - 1))) := by
          rw [show (16 : Nat) = 2 ^ 4 from rfl, ← Nat.pow_add, ← Nat.pow_add]
          congr 1
          omega
        rw [this, Nat.mul_left_comm, Nat.mul_left_comm (g p)]
      rw [e, Nat.add_mul_div_left _ _ (Nat.two_pow_pos _), Nat.add_mul_mod_self_left]
      exact ih
    · obtain rfl : k = p := by omega
      rw [Nat.add_mul_div_right _ _ (Nat.two_pow_pos _), Nat.div_eq_of_lt hl]
      omega
theorem nb_CH (n : Nat) {k : Nat} (h : k < 16) : nb (CH n) k = fg n k := SC_fig n 16 k h
/-- halves of a code are added -/
theorem dN4 (n j : Nat) : dN n j 4 = n / 2 ^ j % 2 + n / 2 ^ (4 + j) % 2 * 2 + n / 2 ^ (8 + j) % 2 * 4 + n / 2 ^ (12 + j) % 2 * 8 := by
  show 0 + n / 2 ^ (0 + j) % 2 * 1 + n / 2 ^ (4 + j) % 2 * 2 + n / 2 ^ (8 + j) % 2 * 4 + n / 2 ^ (12 + j) % 2 * 8 = _
  rw [Nat.zero_add j]; omega
theorem xor4 : ∀ a, a < 2 → ∀ b, b < 2 → ∀ c, c < 2 → ∀ d, d < 2 → (c * 4 + d * 8) ^^^ (a + b * 2) = a + b * 2 + c * 4 + d * 8 := by decide
theorem dN_add {h l j : Nat} (hh : h < 256) (hl : l < 256) (hj : j < 4) : dN (256 * h + l) j 4 = dN (256 * h) j 4 ^^^ dN l j 4 := by
  rw [dN4, dN4, dN4]
  have p : ∀ e, 2 ^ (4 + e) = 16 * 2 ^ e ∧ 2 ^ (8 + e) = 256 * 2 ^ e ∧ 2 ^ (12 + e) = 4096 * 2 ^ e := fun e => ⟨Nat.pow_add 2 4 e, Nat.pow_add 2 8 e, Nat.pow_add 2 12 e⟩
  rw [(p j).1, (p j).2.1, (p j).2.2]
  have e : (256 * h) / 2 ^ j % 2 + (256 * h) / (16 * 2 ^ j) % 2 * 2 + (256 * h) / (256 * 2 ^ j) % 2 * 4 + (256 * h) / (4096 * 2 ^ j) % 2 * 8 = (256 * h + l) / (256 * 2 ^ j) % 2 * 4 + (256 * h + l) / (4096 * 2 ^ j) % 2 * 8 := by
    rcases (show j = 0 ∨ j = 1 ∨ j = 2 ∨ j = 3 by omega) with rfl | rfl | rfl | rfl
    · show (256 * h) / 1 % 2 + (256 * h) / 16 % 2 * 2 + (256 * h) / 256 % 2 * 4 + (256 * h) / 4096 % 2 * 8 = (256 * h + l) / 256 % 2 * 4 + (256 * h + l) / 4096 % 2 * 8; omega
    · show (256 * h) / 2 % 2 + (256 * h) / 32 % 2 * 2 + (256 * h) / 512 % 2 * 4 + (256 * h) / 8192 % 2 * 8 = (256 * h + l) / 512 % 2 * 4 + (256 * h + l) / 8192 % 2 * 8; omega
    · show (256 * h) / 4 % 2 + (256 * h) / 64 % 2 * 2 + (256 * h) / 1024 % 2 * 4 + (256 * h) / 16384 % 2 * 8 = (256 * h + l) / 1024 % 2 * 4 + (256 * h + l) / 16384 % 2 * 8; omega
    · show (256 * h) / 8 % 2 + (256 * h) / 128 % 2 * 2 + (256 * h) / 2048 % 2 * 4 + (256 * h) / 32768 % 2 * 8 = (256 * h + l) / 2048 % 2 * 4 + (256 * h + l) / 32768 % 2 * 8; omega
  have f : l / 2 ^ j % 2 + l / (16 * 2 ^ j) % 2 * 2 + l / (256 * 2 ^ j) % 2 * 4 + l / (4096 * 2 ^ j) % 2 * 8 = (256 * h + l) / 2 ^ j % 2 + (256 * h + l) / (16 * 2 ^ j) % 2 * 2 := by
    clear e p
    rcases (show j = 0 ∨ j = 1 ∨ j = 2 ∨ j = 3 by omega) with rfl | rfl | rfl | rfl
    · show l / 1 % 2 + l / 16 % 2 * 2 + l / 256 % 2 * 4 + l / 4096 % 2 * 8 = (256 * h + l) / 1 % 2 + (256 * h + l) / 16 % 2 * 2; omega
    · show l / 2 % 2 + l / 32 % 2 * 2 + l / 512 % 2 * 4 + l / 8192 % 2 * 8 = (256 * h + l) / 2 % 2 + (256 * h + l) / 32 % 2 * 2; omega
    · show l / 4 % 2 + l / 64 % 2 * 2 + l / 1024 % 2 * 4 + l / 16384 % 2 * 8 = (256 * h + l) / 4 % 2 + (256 * h + l) / 64 % 2 * 2; omega
    · show l / 8 % 2 + l / 128 % 2 * 2 + l / 2048 % 2 * 4 + l / 32768 % 2 * 8 = (256 * h + l) / 8 % 2 + (256 * h + l) / 128 % 2 * 2; omega
  rw [e, f]
  have m : ∀ x, x % 2 < 2 := fun x => Nat.mod_lt _ (by decide)
  exact (xor4 _ (m _) _ (m _) _ (m _) _ (m _)).symm
theorem b8_add {h l x : Nat} (hh : h < 256) (hl : l < 256) (hx : x < 8) : b8 (256 * h + l) x = b8 (256 * h) x ^^^ b8 l x := by
  unfold b8
  by_cases hx4 : x < 4
  · rw [if_pos hx4, if_pos hx4, if_pos hx4]
    unfold mN
    rcases (show x = 0 ∨ x = 1 ∨ x = 2 ∨ x = 3 by omega) with rfl | rfl | rfl | rfl
    · show (256 * h + l) / 1 % 16 = ((256 * h) / 1 % 16) ^^^ (l / 1 % 16)
      rw [show (256 * h) / 1 % 16 = 0 by omega, Nat.zero_xor]; omega
    · show (256 * h + l) / 16 % 16 = ((256 * h) / 16 % 16) ^^^ (l / 16 % 16)
      rw [show (256 * h) / 16 % 16 = 0 by omega, Nat.zero_xor]; omega
    · show (256 * h + l) / 256 % 16 = ((256 * h) / 256 % 16) ^^^ (l / 256 % 16)
      rw [show l / 256 % 16 = 0 by omega, Nat.xor_zero]; omega
    · show (256 * h + l) / 4096 % 16 = ((256 * h) / 4096 % 16) ^^^ (l / 4096 % 16)
      rw [show l / 4096 % 16 = 0 by omega, Nat.xor_zero]; omega
  · rw [if_neg hx4, if_neg hx4, if_neg hx4]
    exact dN_add hh hl (by omega)
theorem xor_mid (a b c d : Nat) : (a ^^^ b) ^^^ (c ^^^ d) = (a ^^^ c) ^^^ (b ^^^ d) := by
  rw [Nat.xor_assoc, Nat.xor_assoc, ← Nat.xor_assoc b, Nat.xor_comm b c, Nat.xor_assoc c]
theorem nie_add {h l k : Nat} (hh : h < 256) (hl : l < 256) (hk : k < 4) : nie (256 * h + l) k = nie (256 * h) k ^^^ nie l k := by
  unfold nie
  rw [b8_add hh hl (by omega), b8_add hh hl (by omega), xor_mid]
theorem fg_add {h l k : Nat} (hh : h < 256) (hl : l < 256) : fg (256 * h + l) k = fg (256 * h) k ^^^ fg l k := by
  unfold fg
  have b0 := b8_add (x := 0) hh hl (by decide)
  have n0 := nie_add (k := 0) hh hl (by decide)
  have n1 := nie_add (k := 1) hh hl (by decide)
  have n2 := nie_add (k := 2) hh hl (by decide)
  have n3 := nie_add (k := 3) hh hl (by decide)
  by_cases c1 : k < 8
  · simp only [if_pos c1]; exact b8_add hh hl c1
  · simp only [if_neg c1]
    by_cases c2 : k < 12
    · simp only [if_pos c2]; exact nie_add hh hl (by omega)
    · simp only [if_neg c2]
      by_cases c3 : k = 12
      · simp only [if_pos c3]; rw [n0, n1, xor_mid]
      · simp only [if_neg c3]
        by_cases c4 : k = 13
        · simp only [if_pos c4]; rw [n2, n3, xor_mid]
        · simp only [if_neg c4]
          have e : (nie (256 * h + l) 0 ^^^ nie (256 * h + l) 1) ^^^ (nie (256 * h + l) 2 ^^^ nie (256 * h + l) 3) = ((nie (256 * h) 0 ^^^ nie (256 * h) 1) ^^^ (nie (256 * h) 2 ^^^ nie (256 * h) 3)) ^^^ ((nie l 0 ^^^ nie l 1) ^^^ (nie l 2 ^^^ nie l 3)) := by
            rw [n0, n1, n2, n3, xor_mid (nie (256 * h) 0), xor_mid (nie (256 * h) 2), xor_mid (nie (256 * h) 0 ^^^ nie (256 * h) 1)]
          by_cases c5 : k = 14
          · simp only [if_pos c5]; exact e
          · simp only [if_neg c5]; rw [e, b0, xor_mid]
/-- strokes and first wrong place of a word's nibbles -/
def PCg (g : Nat → Nat) : Nat → Nat
  | 0 => 0
  | n + 1 => PCg g n + pc4 (g n)
def MTg (g : Nat → Nat) : Nat → Nat
  | 0 => 16
  | m + 1 => if g (15 - m) = 0 then MTg g m else 15 - m
theorem PC_g (w : Nat) (g : Nat → Nat) : ∀ n, (∀ k, k < n → nb w k = g k) → PC w n = PCg g n
  | 0, _ => rfl
  | n + 1, h => by rw [PC, PCg, PC_g w g n (fun k hk => h k (by omega)), h n (by omega)]
theorem PCg_le {g f : Nat → Nat} (h : ∀ k, pc4 (g k) ≤ pc4 (f k)) : ∀ n, PCg g n ≤ PCg f n
  | 0 => Nat.le_refl _
  | n + 1 => by
    have := PCg_le h n
    have := h n
    rw [PCg, PCg]; omega
theorem pc4_0 : ∀ v, v < 16 → (pc4 v = 0 ↔ v = 0) := by decide
theorem pc4_and : ∀ a, a < 16 → ∀ b, b < 16 → pc4 (a &&& b) ≤ pc4 a := by decide +kernel
theorem PCg_0 {g : Nat → Nat} (hg : ∀ k, g k < 16) : ∀ n, PCg g n = 0 ↔ ∀ k, k < n → g k = 0
  | 0 => ⟨fun _ k hk => absurd hk (Nat.not_lt_zero k), fun _ => rfl⟩
  | n + 1 => by
    rw [PCg]
    constructor
    · intro h k hk
      rcases Nat.lt_or_ge k n with q | q
      · exact (PCg_0 hg n).mp (by omega) k q
      · obtain rfl : k = n := by omega
        exact (pc4_0 _ (hg _)).mp (by omega)
    · intro h
      rw [(PCg_0 hg n).mpr (fun k hk => h k (by omega)), (pc4_0 _ (hg _)).mpr (h n (by omega))]
theorem MTg_spec (g : Nat → Nat) : ∀ m, m ≤ 16 → MTg g m ≤ 16 ∧ 16 - m ≤ MTg g m ∧ (∀ k, 16 - m ≤ k → k < MTg g m → g k = 0) ∧ (MTg g m < 16 → ¬ g (MTg g m) = 0)
  | 0, _ => ⟨Nat.le_refl _, Nat.le_refl _, fun k h1 h2 => absurd h2 (by rw [MTg]; omega), fun h => absurd h (by rw [MTg]; omega)⟩
  | m + 1, h => by
    obtain ⟨a, b, c, d⟩ := MTg_spec g m (by omega)
    rw [MTg]
    split
    · next z =>
      refine ⟨a, by omega, fun k h1 h2 => ?_, d⟩
      rcases Nat.lt_or_ge k (16 - m) with q | q
      · rw [show k = 15 - m by omega]; exact z
      · exact c k q h2
    · next z =>
      exact ⟨by omega, by omega, fun k h1 h2 => absurd h2 (by omega), fun _ => z⟩
theorem MTg_cong {g f : Nat → Nat} (h : ∀ k, k < 16 → g k = f k) : ∀ m, m ≤ 16 → MTg g m = MTg f m
  | 0, _ => rfl
  | m + 1, hm => by rw [MTg, MTg, h (15 - m) (by omega), MTg_cong h m (by omega)]
theorem MT_lt {g : Nat → Nat} {k : Nat} (hk : k < 16) : (∀ j, j ≤ k → g j = 0) ↔ k < MTg g 16 := by
  obtain ⟨a, b, c, d⟩ := MTg_spec g 16 (Nat.le_refl _)
  constructor
  · intro h
    rcases Nat.lt_or_ge k (MTg g 16) with q | q
    · exact q
    · exact absurd (h _ q) (d (by omega))
  · intro h j hj
    exact c j (by omega) (by omega)
def STg (g : Nat → Nat) : Nat → Nat
  | 0 => 0
  | m + 1 => STg g m + pc4 (g (15 - m))
theorem STg_eq (g : Nat → Nat) : STg g 16 = PCg g 16 := by
  show 0 + pc4 (g 15) + pc4 (g 14) + pc4 (g 13) + pc4 (g 12) + pc4 (g 11) + pc4 (g 10) + pc4 (g 9) + pc4 (g 8) + pc4 (g 7) + pc4 (g 6) + pc4 (g 5) + pc4 (g 4) + pc4 (g 3) + pc4 (g 2) + pc4 (g 1) + pc4 (g 0) = 0 + pc4 (g 0) + pc4 (g 1) + pc4 (g 2) + pc4 (g 3) + pc4 (g 4) + pc4 (g 5) + pc4 (g 6) + pc4 (g 7) + pc4 (g 8) + pc4 (g 9) + pc4 (g 10) + pc4 (g 11) + pc4 (g 12) + pc4 (g 13) + pc4 (g 14) + pc4 (g 15)
  omega
theorem low0 {w : Nat} : ∀ k, (∀ j, j < k → nb w j = 0) ↔ w % 2 ^ (4 * k) = 0
  | 0 => ⟨fun _ => Nat.mod_one w, fun _ j hj => absurd hj (Nat.not_lt_zero j)⟩
  | k + 1 => by
    have e : w % 2 ^ (4 * (k + 1)) = w % 2 ^ (4 * k) + 2 ^ (4 * k) * nb w k := by
      rw [show 4 * (k + 1) = 4 * k + 4 from rfl, Nat.pow_add, Nat.mod_mul, nb]
    have hp : 0 < 2 ^ (4 * k) := Nat.two_pow_pos _
    rw [e]
    constructor
    · intro h
      rw [(low0 k).mp (fun j hj => h j (by omega)), h k (by omega), Nat.mul_zero]
    · intro h j hj
      have h1 : w % 2 ^ (4 * k) = 0 := by omega
      have h2 : 2 ^ (4 * k) * nb w k = 0 := by omega
      rcases Nat.lt_or_ge j k with q | q
      · exact (low0 k).mpr h1 j q
      · obtain rfl : j = k := by omega
        rcases Nat.mul_eq_zero.mp h2 with z | z
        · omega
        · exact z
