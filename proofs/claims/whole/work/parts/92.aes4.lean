/-! slices: the mix; E and D as the reference has them -/
theorem mN0 : ∀ i, i < 64 → (-1229782938247303442 : Int64).toBitVec.getLsbD i = decide (i % 4 ≠ 0) := by decide
theorem mN1 : ∀ i, i < 64 → (1229782938247303441 : Int64).toBitVec.getLsbD i = decide (i % 4 = 0) := by decide
theorem mA0 : ∀ i, i < 64 → (-3689348814741910324 : Int64).toBitVec.getLsbD i = decide (2 ≤ i % 4) := by decide
theorem mA1 : ∀ i, i < 64 → (3689348814741910323 : Int64).toBitVec.getLsbD i = decide (i % 4 < 2) := by decide
def nxL (b : Nat) : Nat := if b % 4 = 0 then b + 3 else b - 1
def axL (b : Nat) : Nat := if b % 4 < 2 then b + 2 else b - 2
theorem next_bit (x : Int64) {i b : Nat} (hi : i < 4) (hb : b < 16) : (vX8_nextOctets x).toBitVec.getLsbD (16 * i + b) = x.toBitVec.getLsbD (16 * i + nxL b) := by
  unfold vX8_nextOctets nxL
  simp only [show (1 : Int32) = nI 1 from rfl, show (3 : Int32) = nI 3 from rfl]
  rw [Int64.toBitVec_or, BitVec.getLsbD_or, Int64.toBitVec_and, BitVec.getLsbD_and, Int64.toBitVec_and, BitVec.getLsbD_and, jl_bits _ (by omega) (by omega), ju_bits _ (by omega), mN0 _ (by omega), mN1 _ (by omega)]
  by_cases c : b % 4 = 0
  · rw [if_pos c, show 3 + (16 * i + b) = 16 * i + (b + 3) by omega]
    simp [show (16 * i + b) % 4 = 0 by omega]
  · rw [if_neg c, show 16 * i + b - 1 = 16 * i + (b - 1) by omega]
    simp [show ¬ (16 * i + b) % 4 = 0 by omega, show 1 ≤ 16 * i + b by omega]
theorem across_bit (x : Int64) {i b : Nat} (hi : i < 4) (hb : b < 16) : (vX8_acrossOctets x).toBitVec.getLsbD (16 * i + b) = x.toBitVec.getLsbD (16 * i + axL b) := by
  unfold vX8_acrossOctets axL
  simp only [show (2 : Int32) = nI 2 from rfl]
  rw [Int64.toBitVec_or, BitVec.getLsbD_or, Int64.toBitVec_and, BitVec.getLsbD_and, Int64.toBitVec_and, BitVec.getLsbD_and, jl_bits _ (by omega) (by omega), ju_bits _ (by omega), mA0 _ (by omega), mA1 _ (by omega)]
  by_cases c : b % 4 < 2
  · rw [if_pos c, show 2 + (16 * i + b) = 16 * i + (b + 2) by omega]
    simp [show (16 * i + b) % 4 < 2 by omega, show ¬ 2 ≤ (16 * i + b) % 4 by omega]
  · rw [if_neg c, show 16 * i + b - 2 = 16 * i + (b - 2) by omega]
    simp [show ¬ (16 * i + b) % 4 < 2 by omega, show 2 ≤ (16 * i + b) % 4 by omega, show 2 ≤ 16 * i + b by omega]
theorem mulC (v : Int64) (hv : v.toBitVec.toNat < 65536) {i b : Nat} (hi : i < 4) (hb : b < 16) : (v * 281474976776193).toBitVec.getLsbD (16 * i + b) = if i = 2 then false else v.toBitVec.getLsbD b := by
  have hn : (v * 281474976776193).toBitVec.toNat = v.toBitVec.toNat * 281474976776193 := by
    rw [Int64.toBitVec_mul, BitVec.toNat_mul, show (281474976776193 : Int64).toBitVec.toNat = 281474976776193 by decide, Nat.mod_eq_of_lt (by omega)]
  have hd : ∀ n : Nat, n.testBit (16 * i + b) = (n / 2 ^ (16 * i) % 2 ^ 16).testBit b := fun n => by
    rw [Nat.testBit_mod_two_pow, ← Nat.shiftRight_eq_div_pow, Nat.testBit_shiftRight]
    simp [hb]
  show (v * 281474976776193).toBitVec.toNat.testBit (16 * i + b) = if i = 2 then false else v.toBitVec.toNat.testBit b
  rw [hn, hd]
  generalize v.toBitVec.toNat = m at hv
  rcases (show i = 0 ∨ i = 1 ∨ i = 2 ∨ i = 3 by omega) with rfl | rfl | rfl | rfl
  · rw [if_neg (by omega), show m * 281474976776193 / 2 ^ (16 * 0) % 2 ^ 16 = m by omega]
  · have e1 : m * 281474976776193 / 2 ^ (16 * 1) = m * 4294967297 := by
      rw [show m * 281474976776193 = m + (m * 4294967297) * 2 ^ (16 * 1) by omega, Nat.add_mul_div_right _ _ (by decide), Nat.div_eq_of_lt (by omega), Nat.zero_add]
    have e2 : m * 4294967297 % 2 ^ 16 = m := by
      rw [show m * 4294967297 = m + (m * 65536) * 2 ^ 16 by omega, Nat.add_mul_mod_self_right, Nat.mod_eq_of_lt (by omega)]
    rw [if_neg (by omega), e1, e2]
  · have e1 : m * 281474976776193 / 2 ^ (16 * 2) = m * 65536 := by
      rw [show m * 281474976776193 = (m * 65537) + (m * 65536) * 2 ^ (16 * 2) by omega, Nat.add_mul_div_right _ _ (by decide), Nat.div_eq_of_lt (by omega), Nat.zero_add]
    have e2 : m * 65536 % 2 ^ 16 = 0 := Nat.mul_mod_left _ _
    rw [if_pos rfl, e1, e2]
    simp
  · have e1 : m * 281474976776193 / 2 ^ (16 * 3) = m := by
      rw [show m * 281474976776193 = (m * 65537) + m * 2 ^ (16 * 3) by omega, Nat.add_mul_div_right _ _ (by decide), Nat.div_eq_of_lt (by omega), Nat.zero_add]
    rw [if_neg (by omega), e1, Nat.mod_eq_of_lt (by omega)]
theorem top16 (v : Int64) : (jlushr v 48).toBitVec.toNat < 65536 := by
  rw [show (48 : Int32) = nI 48 from rfl, ju_bv _ (by omega), BitVec.toNat_ushiftRight, Nat.shiftRight_eq_div_pow]
  have := v.toBitVec.isLt
  omega
theorem mix_bit (q : bP) {i b : Nat} (hi : i < 8) (hb : b < 16) : sbt (mW q) i b = ((((decide (i ≠ 0) && (sbt q (i - 1) b ^^ sbt q (i - 1) (nxL b))) ^^ ((sbt q 7 b ^^ sbt q 7 (nxL b)) && (27 : BitVec 8).getLsbD i)) ^^ sbt q i (nxL b)) ^^ (sbt q i (axL b) ^^ sbt q i (nxL (axL b)))) := by
  obtain ⟨lo, hi'⟩ := q
  have ha : axL b < 16 := by unfold axL; by_cases c : b % 4 < 2 <;> simp only [c, if_true, if_false] <;> omega
  have e3 : ∀ i b, i < 4 → b < 16 → (lo ^^^ vX8_nextOctets lo).toBitVec.getLsbD (16 * i + b) = (lo.toBitVec.getLsbD (16 * i + b) ^^ lo.toBitVec.getLsbD (16 * i + nxL b)) := fun i b h1 h2 => by
    rw [Int64.toBitVec_xor, BitVec.getLsbD_xor, next_bit _ h1 h2]
  have e4 : ∀ i b, i < 4 → b < 16 → (hi' ^^^ vX8_nextOctets hi').toBitVec.getLsbD (16 * i + b) = (hi'.toBitVec.getLsbD (16 * i + b) ^^ hi'.toBitVec.getLsbD (16 * i + nxL b)) := fun i b h1 h2 => by
    rw [Int64.toBitVec_xor, BitVec.getLsbD_xor, next_bit _ h1 h2]
  have n1 := fun i b (h1 : i < 4) (h2 : b < 16) => next_bit lo h1 h2
  have n2 := fun i b (h1 : i < 4) (h2 : b < 16) => next_bit hi' h1 h2
  unfold sbt mW vX8_mixWords
  simp only
  generalize lo ^^^ vX8_nextOctets lo = v3 at e3 ⊢
  generalize hi' ^^^ vX8_nextOctets hi' = v4 at e4 ⊢
  generalize vX8_nextOctets lo = v1 at n1 ⊢
  generalize vX8_nextOctets hi' = v2 at n2 ⊢
  have t5 : ∀ j, (jlushr v4 48).toBitVec.getLsbD j = v4.toBitVec.getLsbD (48 + j) := fun j => by rw [show (48 : Int32) = nI 48 from rfl, ju_bits _ (by omega)]
  have t7 : v4.toBitVec.getLsbD (48 + b) = (hi'.toBitVec.getLsbD (48 + b) ^^ hi'.toBitVec.getLsbD (48 + nxL b)) := e4 3 b (by omega) hb
  have h16 := top16 v4
  by_cases h4 : i < 4
  · simp only [if_pos h4, if_neg (show ¬ 7 < 4 by omega), if_pos (show i - 1 < 4 by omega)]
    rw [Int64.toBitVec_xor, BitVec.getLsbD_xor, Int64.toBitVec_xor, BitVec.getLsbD_xor, Int64.toBitVec_xor, BitVec.getLsbD_xor, across_bit _ h4 hb, e3 i _ h4 ha, n1 i b h4 hb, mulC _ h16 h4 hb, t5, t7, show (16 : Int32) = nI 16 from rfl, jl_bits _ (by omega) (by omega)]
    rcases (show i = 0 ∨ i = 1 ∨ i = 2 ∨ i = 3 by omega) with rfl | rfl | rfl | rfl
    · simp [show ¬ 16 ≤ b by omega]
    · rw [show 16 * 1 + b - 16 = 16 * 0 + b by omega, e3 0 b (by omega) hb]
      simp
    · rw [show 16 * 2 + b - 16 = 16 * 1 + b by omega, e3 1 b (by omega) hb]
      simp [show 16 ≤ 32 + b by omega]
    · rw [show 16 * 3 + b - 16 = 16 * 2 + b by omega, e3 2 b (by omega) hb]
      simp [show 16 ≤ 48 + b by omega]
  · simp only [if_neg h4, if_neg (show ¬ 7 < 4 by omega)]
    rw [Int64.toBitVec_xor, BitVec.getLsbD_xor, Int64.toBitVec_xor, BitVec.getLsbD_xor, Int64.toBitVec_xor, BitVec.getLsbD_xor, Int64.toBitVec_or, BitVec.getLsbD_or, across_bit _ (by omega) hb, e4 (i - 4) _ (by omega) ha, n2 (i - 4) b (by omega) hb, t5, show (16 : Int32) = nI 16 from rfl, jl_bits _ (by omega) (by omega), show (48 : Int32) = nI 48 from rfl, ju_bits _ (by omega)]
    rcases (show i = 4 ∨ i = 5 ∨ i = 6 ∨ i = 7 by omega) with rfl | rfl | rfl | rfl
    · have e33 := e3 3 b (by omega) hb
      simp only [Nat.reduceMul] at e33
      simp [show ¬ 16 ≤ b by omega, e33, t7]
    · rw [BitVec.getLsbD_of_ge v4.toBitVec (48 + _) (by omega), BitVec.getLsbD_of_ge v3.toBitVec (48 + _) (by omega), show 16 * (5 - 4) + b - 16 = 16 * 0 + b by omega, e4 0 b (by omega) hb]
      simp
    · rw [BitVec.getLsbD_of_ge v4.toBitVec (48 + _) (by omega), BitVec.getLsbD_of_ge v3.toBitVec (48 + _) (by omega), show 16 * (6 - 4) + b - 16 = 16 * 1 + b by omega, e4 1 b (by omega) hb]
      simp [show 16 ≤ 32 + b by omega]
    · rw [BitVec.getLsbD_of_ge v4.toBitVec (48 + _) (by omega), BitVec.getLsbD_of_ge v3.toBitVec (48 + _) (by omega), show 16 * (7 - 4) + b - 16 = 16 * 2 + b by omega, e4 2 b (by omega) hb]
      simp [show 16 ≤ 48 + b by omega]
theorem gB2_bit : ∀ x : BitVec 8, ∀ i, i < 8 → (gB x 2).getLsbD i = ((decide (i ≠ 0) && x.getLsbD (i - 1)) ^^ (x.getLsbD 7 && (27 : BitVec 8).getLsbD i)) := by decide +kernel
theorem gB_13 : ∀ x : BitVec 8, gB x 1 = x ∧ gB x 3 = gB x 2 ^^^ x := by decide +kernel
theorem SO.mix {q : bP} {s : sT} (h : SO q s) : SO (mW q) (mxB 2 3 1 1 s) := fun k hk i hi => by
  rw [mix_bit q hi (by omega)]
  unfold mxB
  rw [(gB_13 _).2, (gB_13 (s (4 * (k / 4) + (k % 4 + 2) % 4))).1, (gB_13 (s (4 * (k / 4) + (k % 4 + 3) % 4))).1]
  simp only [BitVec.getLsbD_xor]
  rw [gB2_bit _ i hi, gB2_bit _ i hi]
  have b1 : nxL (15 - k) = 15 - (4 * (k / 4) + (k % 4 + 1) % 4) := by
    unfold nxL
    by_cases c : (15 - k) % 4 = 0
    · rw [if_pos c]; omega
    · rw [if_neg c]; omega
  have b2 : axL (15 - k) = 15 - (4 * (k / 4) + (k % 4 + 2) % 4) := by
    unfold axL
    by_cases c : (15 - k) % 4 < 2
    · rw [if_pos c]; omega
    · rw [if_neg c]; omega
  have b3 : nxL (axL (15 - k)) = 15 - (4 * (k / 4) + (k % 4 + 3) % 4) := by
    rw [b2]
    unfold nxL
    by_cases c : (15 - (4 * (k / 4) + (k % 4 + 2) % 4)) % 4 = 0
    · rw [if_pos c]; omega
    · rw [if_neg c]; omega
  rw [b3, b1, b2]
  have a0 := fun i hi => h k hk i hi
  have a1 := fun i hi => h (4 * (k / 4) + (k % 4 + 1) % 4) (by omega) i hi
  have a2 := fun i hi => h (4 * (k / 4) + (k % 4 + 2) % 4) (by omega) i hi
  have a3 := fun i hi => h (4 * (k / 4) + (k % 4 + 3) % 4) (by omega) i hi
  rw [a0 7 (by omega), a1 7 (by omega), a1 i hi, a2 i hi, a3 i hi, a0 (i - 1) (by omega), a1 (i - 1) (by omega)]
  generalize sbt q 7 (15 - k) = c1
  generalize sbt q 7 (15 - (4 * (k / 4) + (k % 4 + 1) % 4)) = c2
  generalize sbt q (i - 1) (15 - k) = c3
  generalize sbt q (i - 1) (15 - (4 * (k / 4) + (k % 4 + 1) % 4)) = c4
  generalize sbt q i (15 - (4 * (k / 4) + (k % 4 + 1) % 4)) = c5
  generalize sbt q i (15 - (4 * (k / 4) + (k % 4 + 2) % 4)) = c6
  generalize sbt q i (15 - (4 * (k / 4) + (k % 4 + 3) % 4)) = c7
  generalize (27 : BitVec 8).getLsbD i = c8
  generalize decide (i ≠ 0) = c9
  revert c1 c2 c3 c4 c5 c6 c7 c8 c9
  decide
