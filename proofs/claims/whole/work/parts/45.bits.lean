/-! ===== bits (the wb_ rows are the kit's, pasted) ===== -/
theorem wb_tb (n : Nat) : (lN n).toBitVec = BitVec.ofNat 64 n := rfl
theorem wb_inj {a b : Int64} (h : a.toBitVec = b.toBitVec) : a = b := Int64.toBitVec_inj.mp h
theorem wb_tn {n : Nat} (h : n < 2 ^ 64) : (lN n).toBitVec.toNat = n := by rw [wb_tb, BitVec.toNat_ofNat, Nat.mod_eq_of_lt h]
theorem wb_c : ∀ k, k < 64 → ((nI k).toInt64 &&& 63) = lN k := by decide +kernel
theorem wb_cu : ∀ k, k < 64 → ((nI k).toInt64.toUInt64 &&& Int64.toUInt64 63) = UInt64.ofNat k := by decide +kernel
theorem wb_sm : ∀ k, k < 64 → (BitVec.ofNat 64 k).smod 64 = BitVec.ofNat 64 k := by decide +kernel
theorem wb_shr {n k : Nat} (hn : n < 2 ^ 64) (hk : k < 64) : ((lN n).toUInt64 >>> ((nI k).toInt64.toUInt64 &&& Int64.toUInt64 63)).toInt64 = lN (n / 2 ^ k) := by
  rw [wb_cu k hk]
  apply wb_inj
  apply BitVec.eq_of_toNat_eq
  show ((lN n).toUInt64 >>> UInt64.ofNat k).toNat = (BitVec.ofNat 64 _).toNat
  have h1 : (UInt64.ofNat k).toNat = k := by
    show (BitVec.ofNat 64 k).toNat = k
    rw [BitVec.toNat_ofNat, Nat.mod_eq_of_lt (by omega)]
  have h2 : (lN n).toUInt64.toNat = n := wb_tn hn
  rw [UInt64.toNat_shiftRight, h1, h2, Nat.mod_eq_of_lt hk, Nat.shiftRight_eq_div_pow, BitVec.toNat_ofNat, Nat.mod_eq_of_lt (Nat.lt_of_le_of_lt (Nat.div_le_self _ _) hn)]
theorem wb_shl (n : Nat) {k : Nat} (hk : k < 64) : lN n <<< ((nI k).toInt64 &&& 63) = lN (n * 2 ^ k) := by
  rw [wb_c k hk]
  apply wb_inj
  rw [Int64.toBitVec_shiftLeft, wb_tb, wb_tb, wb_tb, wb_sm k hk]
  apply BitVec.eq_of_toNat_eq
  rw [BitVec.shiftLeft_eq', BitVec.toNat_shiftLeft, BitVec.toNat_ofNat, BitVec.toNat_ofNat, BitVec.toNat_ofNat, Nat.mod_eq_of_lt (show k < 2 ^ 64 by omega), Nat.shiftLeft_eq, Nat.mul_mod, Nat.mod_mod, ← Nat.mul_mod]
theorem wb_and {a b : Nat} (ha : a < 2 ^ 64) (hb : b < 2 ^ 64) : lN a &&& lN b = lN (a &&& b) := by
  apply wb_inj
  rw [Int64.toBitVec_and, wb_tb, wb_tb, wb_tb]
  apply BitVec.eq_of_toNat_eq
  rw [BitVec.toNat_and, BitVec.toNat_ofNat, BitVec.toNat_ofNat, BitVec.toNat_ofNat, Nat.mod_eq_of_lt ha, Nat.mod_eq_of_lt hb, Nat.mod_eq_of_lt (Nat.and_lt_two_pow _ hb)]
theorem wb_or {a b : Nat} (ha : a < 2 ^ 64) (hb : b < 2 ^ 64) : lN a ||| lN b = lN (a ||| b) := by
  apply wb_inj
  rw [Int64.toBitVec_or, wb_tb, wb_tb, wb_tb]
  apply BitVec.eq_of_toNat_eq
  rw [BitVec.toNat_or, BitVec.toNat_ofNat, BitVec.toNat_ofNat, BitVec.toNat_ofNat, Nat.mod_eq_of_lt ha, Nat.mod_eq_of_lt hb, Nat.mod_eq_of_lt (Nat.or_lt_two_pow ha hb)]
theorem wb_i (n : Nat) : Int64.ofInt (n : Int) = lN n := by
  apply wb_inj
  rw [wb_tb]
  show BitVec.ofInt 64 (n : Int) = _
  exact BitVec.ofInt_natCast 64 n
theorem wb_t {n : Nat} (h : n < 9223372036854775808) : (lN n).toInt = (n : Int) := by
  show (lN n).toBitVec.toInt = _
  rw [BitVec.toInt_eq_toNat_of_lt (by rw [wb_tn (by omega)]; omega), wb_tn (by omega)]
theorem wb_n (k : Nat) : Int32.ofInt (k : Int) = nI k := by
  apply Int32.toBitVec_inj.mp
  show BitVec.ofInt 32 (k : Int) = BitVec.ofNat 32 k
  exact BitVec.ofInt_natCast 32 k
theorem lsl_n {n k : Nat} (hk : k < 64) (h : n * 2 ^ k < 9223372036854775808) : lsl' (n : Int) (k : Int) = ((n * 2 ^ k : Nat) : Int) := by
  unfold lsl'
  rw [wb_i, wb_n, wb_shl n hk, wb_t h]
theorem lus_n {n k : Nat} (hk : k < 64) (h : n < 9223372036854775808) : lus (n : Int) (k : Int) = ((n / 2 ^ k : Nat) : Int) := by
  unfold lus
  rw [wb_i, wb_n, wb_shr (by omega) hk, wb_t (Nat.lt_of_le_of_lt (Nat.div_le_self _ _) h)]
theorem lnd_n {a b : Nat} (ha : a < 9223372036854775808) (hb : b < 9223372036854775808) : lnd (a : Int) (b : Int) = ((a &&& b : Nat) : Int) := by
  unfold lnd
  rw [wb_i, wb_i, wb_and (by omega) (by omega), wb_t (Nat.lt_of_le_of_lt Nat.and_le_left ha)]
theorem lor_n {a b : Nat} (ha : a < 9223372036854775808) (hb : b < 9223372036854775808) : lor' (a : Int) (b : Int) = ((a ||| b : Nat) : Int) := by
  unfold lor'
  rw [wb_i, wb_i, wb_or (by omega) (by omega), wb_t (Nat.or_lt_two_pow (n := 63) ha hb)]
/-- the bits that hold -/
def bsum (f : Nat → Bool) : Nat → Nat
  | 0 => 0
  | v + 1 => bsum f v + if f v = true then 2 ^ v else 0
def cntF (f : Nat → Bool) : Nat → Nat
  | 0 => 0
  | v + 1 => cntF f v + if f v = true then 1 else 0
/-- the least that holds, from v on -/
def lstF (f : Nat → Bool) : Nat → Nat → Int
  | 0, _ => -1
  | m + 1, v => if f v = true then (v : Int) else lstF f m (v + 1)
theorem bsum_lt (f : Nat → Bool) : ∀ v, bsum f v < 2 ^ v
  | 0 => by unfold bsum; omega
  | v + 1 => by
    have h := bsum_lt f v
    unfold bsum
    rw [Nat.pow_succ]
    split <;> omega
theorem lor_bit {x v : Nat} (hv : v < 62) (h : x < 2 ^ v) : lor' (x : Int) (lsl' 1 (v : Int)) = ((x + 2 ^ v : Nat) : Int) := by
  have h62 : 2 ^ v < 4611686018427387904 := Nat.pow_lt_pow_right (by decide) hv
  rw [show (1 : Int) = ((1 : Nat) : Int) from rfl, lsl_n (by omega) (by omega), lor_n (by omega) (by omega), Nat.one_mul, Nat.or_comm]
  have := Nat.two_pow_add_eq_or_of_lt h 1
  rw [Nat.mul_one] at this
  rw [← this, Nat.add_comm]
def pop : Nat → Nat → Nat
  | 0, _ => 0
  | k + 1, x => x % 2 + pop k (x / 2)
theorem pop_0 : ∀ k, pop k 0 = 0
  | 0 => rfl
  | k + 1 => by unfold pop; rw [show 0 / 2 = 0 from rfl, pop_0 k]
theorem pop_add : ∀ (k v x b : Nat), v < k → x < 2 ^ v → b ≤ 1 → pop k (x + 2 ^ v * b) = pop k x + b
  | 0, v, _, _, h, _, _ => by omega
  | k + 1, 0, x, b, h, hx, hb => by
    have hx0 : x = 0 := by omega
    subst hx0
    unfold pop
    rw [show (0 + 2 ^ 0 * b) = b by omega, show b / 2 = 0 by omega, show 0 / 2 = 0 from rfl, pop_0]
    omega
  | k + 1, v + 1, x, b, h, hx, hb => by
    have e : x + 2 ^ (v + 1) * b = x + 2 * (2 ^ v * b) := by rw [Nat.pow_succ, Nat.mul_comm (2 ^ v) 2, Nat.mul_assoc]
    unfold pop
    rw [e, show (x + 2 * (2 ^ v * b)) % 2 = x % 2 by omega, show (x + 2 * (2 ^ v * b)) / 2 = x / 2 + 2 ^ v * b by omega, pop_add k v (x / 2) b (by omega) (by rw [Nat.pow_succ] at hx; omega) hb]
    omega
theorem pop_bsum (f : Nat → Bool) (k : Nat) : ∀ h, h ≤ k → pop k (bsum f h) = cntF f h
  | 0, _ => pop_0 k
  | v + 1, hv => by
    unfold bsum cntF
    have ih := pop_bsum f k v (by omega)
    split
    · have := pop_add k v (bsum f v) 1 (by omega) (bsum_lt f v) (by omega)
      rw [Nat.mul_one] at this
      rw [this, ih]
    · rw [Nat.add_zero, Nat.add_zero]; exact ih
/-! the count of bits, byte by byte -/
theorem and_b {a m b n : Nat} (ha : a < 256) (hm : m < 256) : (a + 256 * b) &&& (m + 256 * n) = (a &&& m) + 256 * (b &&& n) := by
  have h1 : a &&& m < 256 := Nat.lt_of_le_of_lt Nat.and_le_left ha
  apply Nat.eq_of_testBit_eq
  intro i
  rw [Nat.testBit_and, Nat.add_comm a, Nat.add_comm m, Nat.add_comm (a &&& m), show 256 = 2 ^ 8 from rfl, Nat.testBit_two_pow_mul_add _ (by omega), Nat.testBit_two_pow_mul_add _ (by omega), Nat.testBit_two_pow_mul_add _ (by omega)]
  split
  · rw [Nat.testBit_and]
  · rw [Nat.testBit_and]
def rep (m : Nat) : Nat → Nat
  | 0 => 0
  | k + 1 => m + 256 * rep m k
def g1 (m x : Nat) : Nat := x - (x / 2 &&& m)
def g2 (m x : Nat) : Nat := (x &&& m) + (x / 4 &&& m)
def g3 (m x : Nat) : Nat := (x + x / 16) &&& m
theorem s1 : ∀ c, c < 256 → ∀ t, t < 2 → (c / 2 + 128 * t) &&& 85 = c / 2 &&& 85 := by decide +kernel
theorem s2 : ∀ c, c < 256 → ∀ t, t < 4 → (c / 4 + 64 * t) &&& 51 = c / 4 &&& 51 := by decide +kernel
theorem s3 : ∀ c, c < 256 → g1 85 c < 256 ∧ g2 51 (g1 85 c) < 69 ∧ g2 51 (g1 85 c) % 16 ≤ 4 ∧ g3 15 (g2 51 (g1 85 c)) = pop 8 c ∧ pop 8 c ≤ 8 := by decide +kernel
theorem s4 : ∀ c, c < 69 → ∀ t, t < 5 → (c + c / 16 + 16 * t) &&& 15 = (c + c / 16) &&& 15 := by decide +kernel
theorem g1_b {c r m : Nat} (hc : c < 256) : g1 (85 + 256 * m) (c + 256 * r) = g1 85 c + 256 * g1 m r := by
  unfold g1
  have e : (c + 256 * r) / 2 = (c / 2 + 128 * (r % 2)) + 256 * (r / 2) := by omega
  have h1 : c / 2 &&& 85 ≤ c / 2 := Nat.and_le_left
  have h2 : r / 2 &&& m ≤ r / 2 := Nat.and_le_left
  rw [e, and_b (by omega) (by omega), s1 c hc _ (by omega)]
  omega
theorem g2_b {c r m : Nat} (hc : c < 256) : g2 (51 + 256 * m) (c + 256 * r) = g2 51 c + 256 * g2 m r := by
  unfold g2
  have e : (c + 256 * r) / 4 = (c / 4 + 64 * (r % 4)) + 256 * (r / 4) := by omega
  rw [e, and_b hc (by omega), and_b (by omega) (by omega), s2 c hc _ (by omega)]
  omega
theorem g3_b {c r m : Nat} (hc : c < 69) (hr : r % 16 ≤ 4) : g3 (15 + 256 * m) (c + 256 * r) = g3 15 c + 256 * g3 m r := by
  unfold g3
  have e : (c + 256 * r) + (c + 256 * r) / 16 = (c + c / 16 + 16 * (r % 16)) + 256 * (r + r / 16) := by omega
  rw [e, and_b (by omega) (by omega), s4 c hc _ (by omega)]
def byts : Nat → Nat → Nat
  | 0, _ => 0
  | k + 1, x => pop 8 (x % 256) + 256 * byts k (x / 256)
theorem g_all : ∀ (k x : Nat), x < 256 ^ k → g2 (rep 51 k) (g1 (rep 85 k) x) % 16 ≤ 4 ∧ g3 (rep 15 k) (g2 (rep 51 k) (g1 (rep 85 k) x)) = byts k x
  | 0, x, h => by
    have hx : x = 0 := by omega
    subst hx
    exact ⟨by decide, by decide⟩
  | k + 1, x, h => by
    have ih := g_all k (x / 256) (by rw [Nat.pow_succ] at h; omega)
    have hc : x % 256 < 256 := by omega
    obtain ⟨q1, q2, q3, q4, -⟩ := s3 (x % 256) hc
    have ex : x = x % 256 + 256 * (x / 256) := by omega
    have e1 : g2 (rep 51 (k + 1)) (g1 (rep 85 (k + 1)) x) = g2 51 (g1 85 (x % 256)) + 256 * g2 (rep 51 k) (g1 (rep 85 k) (x / 256)) := by
      have e0 : g1 (rep 85 (k + 1)) x = g1 85 (x % 256) + 256 * g1 (rep 85 k) (x / 256) := by
        conv => lhs; rw [ex]
        exact g1_b hc
      rw [e0]
      exact g2_b q1
    refine ⟨by rw [e1]; omega, ?_⟩
    rw [e1]
    have := g3_b (c := g2 51 (g1 85 (x % 256))) (r := g2 (rep 51 k) (g1 (rep 85 k) (x / 256))) (m := rep 15 k) q2 ih.1
    show g3 (15 + 256 * rep 15 k) _ = pop 8 (x % 256) + 256 * byts k (x / 256)
    rw [this, ih.2, q4]
theorem pop_split : ∀ (j k x : Nat), pop (j + k) x = pop j (x % 2 ^ j) + pop k (x / 2 ^ j)
  | 0, k, x => by
    rw [Nat.zero_add, Nat.pow_zero, Nat.div_one]
    show _ = 0 + _
    rw [Nat.zero_add]
  | j + 1, k, x => by
    rw [show j + 1 + k = (j + k) + 1 by omega]
    show x % 2 + pop (j + k) (x / 2) = x % 2 ^ (j + 1) % 2 + pop j (x % 2 ^ (j + 1) / 2) + pop k (x / 2 ^ (j + 1))
    rw [pop_split j k (x / 2), Nat.pow_succ, Nat.mul_comm (2 ^ j) 2, Nat.mod_mul_right_div_self, Nat.mod_mul_right_mod, Nat.div_div_eq_div_mul, Nat.add_assoc]
theorem byts_r : ∀ c, c < 256 → pop 8 c ≤ 8 := fun c h => (s3 c h).2.2.2.2
