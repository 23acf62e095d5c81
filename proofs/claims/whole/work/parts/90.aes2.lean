/-! slices: split, join, the linear layers -/
def tsw (M : Int64) (k i : Nat) : Nat := if M.toBitVec.getLsbD i then i + k else if k ≤ i ∧ M.toBitVec.getLsbD (i - k) then i - k else i
theorem dswap (x M : Int64) {k : Nat} (hk : k < 64) (h1 : ∀ i, i < 64 → M.toBitVec.getLsbD i = true → k ≤ i → M.toBitVec.getLsbD (i - k) = false) (h2 : ∀ i, i < 64 → M.toBitVec.getLsbD i = true → i + k < 64) {i : Nat} (hi : i < 64) : ((x ^^^ ((x ^^^ jlushr x (nI k)) &&& M)) ^^^ (jlshl ((x ^^^ jlushr x (nI k)) &&& M) (nI k))).toBitVec.getLsbD i = x.toBitVec.getLsbD (tsw M k i) := by
  have e : ∀ j, ((x ^^^ jlushr x (nI k)) &&& M).toBitVec.getLsbD j = ((x.toBitVec.getLsbD j ^^ x.toBitVec.getLsbD (k + j)) && M.toBitVec.getLsbD j) := fun j => by
    rw [Int64.toBitVec_and, BitVec.getLsbD_and, Int64.toBitVec_xor, BitVec.getLsbD_xor, ju_bits _ hk]
  rw [Int64.toBitVec_xor, BitVec.getLsbD_xor, Int64.toBitVec_xor, BitVec.getLsbD_xor, jl_bits _ hk hi, e, e]
  unfold tsw
  by_cases c1 : M.toBitVec.getLsbD i = true
  · rw [if_pos c1, c1, Nat.add_comm k i]
    by_cases c2 : k ≤ i
    · rw [h1 i hi c1 c2]
      simp
    · simp [c2]
  · rw [if_neg c1, Bool.eq_false_iff.mpr c1]
    by_cases c2 : k ≤ i ∧ M.toBitVec.getLsbD (i - k) = true
    · rw [if_pos c2, c2.2, show k + (i - k) = i by omega]
      simp [c2.1]
      cases x.toBitVec.getLsbD i <;> simp
    · rw [if_neg c2]
      by_cases c3 : k ≤ i
      · have : M.toBitVec.getLsbD (i - k) = false := Bool.eq_false_iff.mpr (fun q => c2 ⟨c3, q⟩)
        rw [this]
        simp
      · simp [c3]
theorem tsw_lt {M : Int64} {k : Nat} (h2 : ∀ i, i < 64 → M.toBitVec.getLsbD i = true → i + k < 64) {i : Nat} (hi : i < 64) : tsw M k i < 64 := by
  unfold tsw
  by_cases c1 : M.toBitVec.getLsbD i = true
  · rw [if_pos c1]
    exact h2 i hi c1
  · rw [if_neg c1]
    by_cases c2 : k ≤ i ∧ M.toBitVec.getLsbD (i - k) = true
    · rw [if_pos c2]
      omega
    · rw [if_neg c2]
      exact hi
theorem trA1 : ∀ i, i < 64 → (47851476196393130 : Int64).toBitVec.getLsbD i = true → 7 ≤ i → (47851476196393130 : Int64).toBitVec.getLsbD (i - 7) = false := by decide
theorem trA2 : ∀ i, i < 64 → (47851476196393130 : Int64).toBitVec.getLsbD i = true → i + 7 < 64 := by decide
theorem trB1 : ∀ i, i < 64 → (225176545447116 : Int64).toBitVec.getLsbD i = true → 14 ≤ i → (225176545447116 : Int64).toBitVec.getLsbD (i - 14) = false := by decide
theorem trB2 : ∀ i, i < 64 → (225176545447116 : Int64).toBitVec.getLsbD i = true → i + 14 < 64 := by decide
theorem trC1 : ∀ i, i < 64 → (4042322160 : Int64).toBitVec.getLsbD i = true → 28 ≤ i → (4042322160 : Int64).toBitVec.getLsbD (i - 28) = false := by decide
theorem trC2 : ∀ i, i < 64 → (4042322160 : Int64).toBitVec.getLsbD i = true → i + 28 < 64 := by decide
theorem tr_all : ∀ i, i < 64 → tsw 47851476196393130 7 (tsw 225176545447116 14 (tsw 4042322160 28 i)) = 8 * (i % 8) + i / 8 := by decide
theorem turned_bit (x : Int64) {i : Nat} (hi : i < 64) : (vX8_turned x).toBitVec.getLsbD i = x.toBitVec.getLsbD (8 * (i % 8) + i / 8) := by
  rw [← tr_all i hi]
  have l3 := tsw_lt trC2 hi
  have l2 := tsw_lt trB2 l3
  unfold vX8_turned
  rw [← dswap x _ (by omega) trA1 trA2 l2]
  rw [← dswap _ _ (by omega) trB1 trB2 l3]
  rw [← dswap _ _ (by omega) trC1 trC2 hi]
  rfl
theorem mFF0 : ∀ i, i < 64 → (4294901760 : Int64).toBitVec.getLsbD i = decide (16 ≤ i ∧ i < 32) := by decide
theorem mFF1 : ∀ i, i < 64 → (65535 : Int64).toBitVec.getLsbD i = decide (i < 16) := by decide
theorem mFF2 : ∀ i, i < 64 → (280375465148160 : Int64).toBitVec.getLsbD i = decide ((8 ≤ i ∧ i < 16) ∨ (40 ≤ i ∧ i < 48)) := by decide
theorem mFF3 : ∀ i, i < 64 → (1095216660735 : Int64).toBitVec.getLsbD i = decide (i < 8 ∨ (32 ≤ i ∧ i < 40)) := by decide
theorem spread_bit (x : Int64) {m c : Nat} (hm : m < 4) (hc : c < 16) : (vX8_spread x).toBitVec.getLsbD (16 * m + c) = (decide (c < 8) && x.toBitVec.getLsbD (8 * m + c)) := by
  have e1 : ∀ j, j < 64 → ((jlshl (x &&& (4294901760 : Int64)) 16) ||| (x &&& (65535 : Int64))).toBitVec.getLsbD j = ((decide (32 ≤ j ∧ j < 48) && x.toBitVec.getLsbD (j - 16)) || (decide (j < 16) && x.toBitVec.getLsbD j)) := fun j hj => by
    rw [Int64.toBitVec_or, BitVec.getLsbD_or, show (16 : Int32) = nI 16 from rfl, jl_bits _ (by omega) hj, Int64.toBitVec_and, Int64.toBitVec_and, BitVec.getLsbD_and, BitVec.getLsbD_and, mFF1 j hj]
    by_cases c16 : 16 ≤ j
    · rw [mFF0 _ (by omega)]
      simp only [c16, decide_true, Bool.true_and, show ¬ j < 16 by omega, decide_false, Bool.and_false, Bool.or_false, Bool.false_and]
      rw [Bool.and_comm, show decide (16 ≤ j - 16 ∧ j - 16 < 32) = decide (32 ≤ j ∧ j < 48) from decide_eq_decide.mpr (by omega)]
    · simp only [c16, decide_false, Bool.false_and, Bool.false_or, show j < 16 by omega, decide_true, Bool.and_true, Bool.true_and, show ¬ (32 ≤ j ∧ j < 48) by omega]
  unfold vX8_spread
  simp only
  generalize (jlshl (x &&& (4294901760 : Int64)) 16) ||| (x &&& (65535 : Int64)) = v at e1 ⊢
  rw [Int64.toBitVec_or, BitVec.getLsbD_or, show (8 : Int32) = nI 8 from rfl, jl_bits _ (by omega) (by omega), Int64.toBitVec_and, Int64.toBitVec_and, BitVec.getLsbD_and, BitVec.getLsbD_and, mFF3 _ (by omega), e1 _ (by omega)]
  by_cases c8 : 8 ≤ 16 * m + c
  · rw [mFF2 _ (by omega), e1 _ (by omega)]
    rcases (show m = 0 ∨ m = 1 ∨ m = 2 ∨ m = 3 by omega) with rfl | rfl | rfl | rfl
    · simp [show ¬ c < 8 by omega, show ¬ 32 ≤ c by omega, show 8 ≤ c by omega]
      intro h
      omega
    · by_cases d : c < 8
      · simp [d, show 16 + c - 8 = 8 + c by omega, show 8 + c < 16 by omega, show ¬ 32 ≤ 8 + c by omega, show ¬ 16 + c < 8 by omega, show ¬ 32 ≤ 16 + c by omega, show 8 ≤ 16 + c by omega]
      · simp [d, show ¬ 16 + c - 8 < 16 by omega, show ¬ 40 ≤ 16 + c - 8 by omega, show ¬ 16 + c < 8 by omega, show ¬ 32 ≤ 16 + c by omega]
    · by_cases d : c < 8
      · simp [d, show ¬ 32 + c < 16 by omega, show 32 + c < 40 by omega, show 32 + c < 48 by omega, show 32 + c - 16 = 16 + c by omega, show ¬ 32 + c - 8 < 16 by omega, show ¬ 40 ≤ 32 + c - 8 by omega]
      · simp [d, show ¬ 32 + c < 40 by omega, show ¬ 32 + c - 8 < 16 by omega, show ¬ 40 ≤ 32 + c - 8 by omega, show ¬ 32 + c < 8 by omega]
    · by_cases d : c < 8
      · simp [d, show 48 + c - 8 = 40 + c by omega, show 40 + c < 48 by omega, show 40 + c - 16 = 24 + c by omega, show ¬ 40 + c < 16 by omega, show ¬ 48 + c < 40 by omega, show 8 ≤ 48 + c by omega, show 32 ≤ 40 + c by omega, show ¬ 48 + c < 48 by omega, show ¬ 48 + c < 16 by omega, show ¬ 48 + c < 8 by omega]
      · simp [d, show ¬ 48 + c - 8 < 16 by omega, show ¬ 48 + c - 8 < 48 by omega, show ¬ 48 + c < 40 by omega, show ¬ 48 + c < 8 by omega]
  · obtain rfl : m = 0 := by omega
    have e3 := e1 c (by omega)
    simp [show c < 8 by omega, show ¬ 8 ≤ c by omega, show c < 16 by omega, show ¬ 32 ≤ c by omega] at e3 ⊢
    exact e3
theorem split_lo (p q : Int64) {i b : Nat} (hi : i < 4) (hb : b < 16) : ((jlshl (vX8_spread p) 8) ||| (vX8_spread q)).toBitVec.getLsbD (16 * i + b) = if 8 ≤ b then p.toBitVec.getLsbD (8 * i + (b - 8)) else q.toBitVec.getLsbD (8 * i + b) := by
  rw [Int64.toBitVec_or, BitVec.getLsbD_or, show (8 : Int32) = nI 8 from rfl, jl_bits _ (by omega) (by omega), spread_bit q hi hb]
  by_cases h : 8 ≤ b
  · rw [if_pos h, show 16 * i + b - 8 = 16 * i + (b - 8) by omega, spread_bit p hi (by omega)]
    simp [show 8 ≤ 16 * i + b by omega, show b - 8 < 8 by omega, show ¬ b < 8 by omega]
  · rw [if_neg h]
    by_cases c : 8 ≤ 16 * i + b
    · rw [show 16 * i + b - 8 = 16 * (i - 1) + (8 + b) by omega, spread_bit p (by omega) (by omega)]
      simp [show b < 8 by omega, show ¬ 8 + b < 8 by omega]
    · simp [c, show b < 8 by omega]
theorem SO.split (p q : Int64) : SO (vX8_split 0 0 p q) (ob (p, q)) := fun k hk i hi => by
  unfold sbt vX8_split
  rw [ob_bit _ hk hi]
  by_cases h4 : i < 4
  · rw [if_pos h4, split_lo _ _ h4 (by omega)]
    by_cases h8 : 8 ≤ k
    · rw [if_pos h8, if_neg (by omega), turned_bit _ (by omega)]
      congr 1
      omega
    · rw [if_neg h8, if_pos (by omega), turned_bit _ (by omega)]
      congr 1
      omega
  · rw [if_neg h4, split_lo _ _ (by omega) (by omega)]
    simp only [show (32 : Int32) = nI 32 from rfl]
    by_cases h8 : 8 ≤ k
    · rw [if_pos h8, if_neg (by omega), ju_bits _ (by omega), turned_bit _ (by omega)]
      congr 1
      omega
    · rw [if_neg h8, if_pos (by omega), ju_bits _ (by omega), turned_bit _ (by omega)]
      congr 1
      omega
theorem mGA : ∀ i, i < 64 → (71777214294589695 : Int64).toBitVec.getLsbD i = decide (i % 16 < 8) := by decide
theorem mGB : ∀ i, i < 64 → (281470681808895 : Int64).toBitVec.getLsbD i = decide (i % 32 < 16) := by decide
theorem mGC : ∀ i, i < 64 → (4294967295 : Int64).toBitVec.getLsbD i = decide (i < 32) := by decide
theorem gath_bit (x : Int64) {j : Nat} (hj : j < 64) : (vX8_gathered x).toBitVec.getLsbD j = (decide (j < 32) && x.toBitVec.getLsbD (16 * (j / 8) + j % 8)) := by
  have z : ∀ (v : Int64) (j : Nat), 64 ≤ j → v.toBitVec.getLsbD j = false := fun v j h => BitVec.getLsbD_of_ge _ _ h
  have e1 : ∀ j, j < 64 → (x &&& (71777214294589695 : Int64)).toBitVec.getLsbD j = (decide (j % 16 < 8) && x.toBitVec.getLsbD j) := fun j hj => by
    rw [Int64.toBitVec_and, BitVec.getLsbD_and, mGA j hj, Bool.and_comm]
  unfold vX8_gathered
  simp only
  generalize x &&& (71777214294589695 : Int64) = v at e1 ⊢
  have e2 : ∀ j, j < 48 → ((v ||| (jlushr v 8)) &&& (281470681808895 : Int64)).toBitVec.getLsbD j = (decide (j % 32 < 16) && ((decide (j % 16 < 8) && x.toBitVec.getLsbD j) || (decide ((8 + j) % 16 < 8) && x.toBitVec.getLsbD (8 + j)))) := fun j hj => by
    rw [Int64.toBitVec_and, BitVec.getLsbD_and, Int64.toBitVec_or, BitVec.getLsbD_or, show (8 : Int32) = nI 8 from rfl, ju_bits _ (by omega), mGB j (by omega), e1 j (by omega), e1 (8 + j) (by omega), Bool.and_comm]
  generalize (v ||| (jlushr v 8)) &&& (281470681808895 : Int64) = u at e2 ⊢
  rw [Int64.toBitVec_and, BitVec.getLsbD_and, Int64.toBitVec_or, BitVec.getLsbD_or, show (16 : Int32) = nI 16 from rfl, ju_bits _ (by omega), mGC j hj, Bool.and_comm]
  by_cases h : j < 32
  · rw [e2 j (by omega), e2 (16 + j) (by omega)]
    simp only [h, decide_true, Bool.true_and]
    rcases (show j / 8 = 0 ∨ j / 8 = 1 ∨ j / 8 = 2 ∨ j / 8 = 3 by omega) with c | c | c | c
    · rw [c]
      simp [show j % 32 < 16 by omega, show j % 16 < 8 by omega, show ¬ (8 + j) % 16 < 8 by omega, show ¬ (16 + j) % 32 < 16 by omega, show j % 8 = j by omega]
    · rw [c]
      simp [show j % 32 < 16 by omega, show ¬ j % 16 < 8 by omega, show (8 + j) % 16 < 8 by omega, show ¬ (16 + j) % 32 < 16 by omega, show 16 + j % 8 = 8 + j by omega]
    · rw [c]
      simp [show ¬ j % 32 < 16 by omega, show (16 + j) % 32 < 16 by omega, show (16 + j) % 16 < 8 by omega, show ¬ (8 + (16 + j)) % 16 < 8 by omega, show 32 + j % 8 = 16 + j by omega, show j % 16 < 8 by omega]
    · rw [c]
      simp [show ¬ j % 32 < 16 by omega, show (16 + j) % 32 < 16 by omega, show ¬ (16 + j) % 16 < 8 by omega, show (8 + (16 + j)) % 16 < 8 by omega, show 48 + j % 8 = 8 + (16 + j) by omega, show ¬ j % 16 < 8 by omega]
  · simp [h]
theorem join_bit (lo hi : Int64) {j : Nat} (hj : j < 64) : (vX8_turned ((vX8_gathered lo) ||| (jlshl (vX8_gathered hi) 32))).toBitVec.getLsbD j = if j % 8 < 4 then lo.toBitVec.getLsbD (16 * (j % 8) + j / 8) else hi.toBitVec.getLsbD (16 * (j % 8 - 4) + j / 8) := by
  rw [turned_bit _ hj, Int64.toBitVec_or, BitVec.getLsbD_or, show (32 : Int32) = nI 32 from rfl, jl_bits _ (by omega) (by omega), gath_bit _ (by omega)]
  by_cases h : j % 8 < 4
  · rw [if_pos h, show (8 * (j % 8) + j / 8) / 8 = j % 8 by omega, show (8 * (j % 8) + j / 8) % 8 = j / 8 by omega]
    simp [show 8 * (j % 8) + j / 8 < 32 by omega]
    intro h2
    omega
  · rw [if_neg h, gath_bit _ (by omega), show (8 * (j % 8) + j / 8 - 32) / 8 = j % 8 - 4 by omega, show (8 * (j % 8) + j / 8 - 32) % 8 = j / 8 by omega]
    simp [show ¬ 8 * (j % 8) + j / 8 < 32 by omega, show 32 ≤ 8 * (j % 8) + j / 8 by omega, show 8 * (j % 8) + j / 8 - 32 < 32 by omega]
theorem SO.join {q : bP} {s : sT} (h : SO q s) {k : Nat} (hk : k < 16) : ob (jN q) k = s k := by
  apply BitVec.eq_of_getLsbD_eq
  intro i hi
  rw [h k hk i hi, ob_bit _ hk hi]
  unfold jN vX8_joinFirst vX8_joinSecond sbt
  by_cases h8 : 8 ≤ k
  · simp only [if_pos h8]
    rw [join_bit _ _ (by omega)]
    by_cases h4 : i < 4
    · rw [if_pos (by omega), if_pos h4]
      congr 1
      omega
    · rw [if_neg (by omega), if_neg h4]
      congr 1
      omega
  · simp only [if_neg h8]
    rw [join_bit _ _ (by omega)]
    simp only [show (8 : Int32) = nI 8 from rfl]
    by_cases h4 : i < 4
    · rw [if_pos (by omega), if_pos h4, ju_bits _ (by omega)]
      congr 1
      omega
    · rw [if_neg (by omega), if_neg h4, ju_bits _ (by omega)]
      congr 1
      omega
theorem SO.xor {p q : bP} {s t : sT} (h : SO p s) (g : SO q t) : SO (p.1 ^^^ q.1, p.2 ^^^ q.2) (fun k => s k ^^^ t k) := fun k hk i hi => by
  rw [BitVec.getLsbD_xor, h k hk i hi, g k hk i hi]
  unfold sbt
  by_cases h4 : i < 4
  · simp only [if_pos h4, Int64.toBitVec_xor, BitVec.getLsbD_xor]
  · simp only [if_neg h4, Int64.toBitVec_xor, BitVec.getLsbD_xor]
