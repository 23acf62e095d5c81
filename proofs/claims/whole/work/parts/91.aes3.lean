/-! slices: the rows' shift, the mix, the box backwards -/
theorem mS0 : ∀ i, i < 64 → (-8608480567731124088 : Int64).toBitVec.getLsbD i = decide (i % 4 = 3) := by decide
theorem mS1 : ∀ i, i < 64 → (4918005835902239808 : Int64).toBitVec.getLsbD i = decide (i % 4 = 2 ∧ 4 ≤ i % 16) := by decide
theorem mS3 : ∀ i, i < 64 → (1125917086973956 : Int64).toBitVec.getLsbD i = decide (i % 16 = 2) := by decide
theorem mS4 : ∀ i, i < 64 → (2449995581255328256 : Int64).toBitVec.getLsbD i = decide (i % 4 = 1 ∧ 8 ≤ i % 16) := by decide
theorem mS5 : ∀ i, i < 64 → (9570295239278626 : Int64).toBitVec.getLsbD i = decide (i % 4 = 1 ∧ i % 16 < 8) := by decide
theorem mS6 : ∀ i, i < 64 → (1152939097061330944 : Int64).toBitVec.getLsbD i = decide (i % 16 = 12) := by decide
theorem mS8 : ∀ i, i < 64 → (76843841185972497 : Int64).toBitVec.getLsbD i = decide (i % 4 = 0 ∧ i % 16 < 12) := by decide
theorem mB1 : ∀ i, i < 64 → (307375364743889988 : Int64).toBitVec.getLsbD i = decide (i % 4 = 2 ∧ i % 16 < 12) := by decide
theorem mB3 : ∀ i, i < 64 → (4611756388245323776 : Int64).toBitVec.getLsbD i = decide (i % 16 = 14) := by decide
theorem mB6 : ∀ i, i < 64 → (281479271743489 : Int64).toBitVec.getLsbD i = decide (i % 16 = 0) := by decide
theorem mB8 : ∀ i, i < 64 → (1229501458975559952 : Int64).toBitVec.getLsbD i = decide (i % 4 = 0 ∧ 4 ≤ i % 16) := by decide
theorem shifted_bit (x : Int64) {i : Nat} (hi : i < 64) : (vX8_shifted x).toBitVec.getLsbD i = x.toBitVec.getLsbD (if i % 4 = 3 then i else if i % 4 = 2 then (if 4 ≤ i % 16 then i - 4 else i + 12) else if i % 4 = 1 then (if 8 ≤ i % 16 then i - 8 else i + 8) else if i % 16 = 12 then i - 12 else i + 4) := by
  unfold vX8_shifted
  simp only [show (4 : Int32) = nI 4 from rfl, show (12 : Int32) = nI 12 from rfl, show (8 : Int32) = nI 8 from rfl]
  simp only [Int64.toBitVec_or, BitVec.getLsbD_or, Int64.toBitVec_and, BitVec.getLsbD_and]
  rw [jl_bits _ (by omega) hi, jl_bits _ (by omega) hi, jl_bits _ (by omega) hi, ju_bits _ (by omega), ju_bits _ (by omega), ju_bits _ (by omega), mS0 i hi, mS1 i hi, mS3 i hi, mS4 i hi, mS5 i hi, mS6 i hi, mS8 i hi]
  rcases (show i % 4 = 3 ∨ i % 4 = 2 ∨ i % 4 = 1 ∨ i % 4 = 0 by omega) with c | c | c | c
  · simp [c, show ¬ i % 16 = 2 by omega, show ¬ i % 16 = 12 by omega]
  · by_cases d : 4 ≤ i % 16
    · simp [c, d, show ¬ i % 16 = 2 by omega, show ¬ i % 16 = 12 by omega, show 4 ≤ i by omega]
    · simp [c, d, show i % 16 = 2 by omega, Nat.add_comm]
  · by_cases d : 8 ≤ i % 16
    · simp [c, d, show ¬ i % 16 = 2 by omega, show ¬ i % 16 = 12 by omega, show ¬ i % 16 < 8 by omega, show 8 ≤ i by omega]
    · simp [c, d, show ¬ i % 16 = 2 by omega, show ¬ i % 16 = 12 by omega, show i % 16 < 8 by omega, Nat.add_comm]
  · by_cases d : i % 16 = 12
    · simp [c, d, show 12 ≤ i by omega]
    · simp [c, d, show ¬ i % 16 = 2 by omega, show i % 16 < 12 by omega, Nat.add_comm]
theorem shiftedBack_bit (x : Int64) {i : Nat} (hi : i < 64) : (vX8_shiftedBack x).toBitVec.getLsbD i = x.toBitVec.getLsbD (if i % 4 = 3 then i else if i % 4 = 2 then (if i % 16 < 12 then i + 4 else i - 12) else if i % 4 = 1 then (if 8 ≤ i % 16 then i - 8 else i + 8) else if i % 16 = 0 then i + 12 else i - 4) := by
  unfold vX8_shiftedBack
  simp only [show (4 : Int32) = nI 4 from rfl, show (12 : Int32) = nI 12 from rfl, show (8 : Int32) = nI 8 from rfl]
  simp only [Int64.toBitVec_or, BitVec.getLsbD_or, Int64.toBitVec_and, BitVec.getLsbD_and]
  rw [jl_bits _ (by omega) hi, jl_bits _ (by omega) hi, jl_bits _ (by omega) hi, ju_bits _ (by omega), ju_bits _ (by omega), ju_bits _ (by omega), mS0 i hi, mB1 i hi, mB3 i hi, mS5 i hi, mS4 i hi, mB6 i hi, mB8 i hi]
  rcases (show i % 4 = 3 ∨ i % 4 = 2 ∨ i % 4 = 1 ∨ i % 4 = 0 by omega) with c | c | c | c
  · simp [c, show ¬ i % 16 = 14 by omega, show ¬ i % 16 = 0 by omega]
  · by_cases d : i % 16 < 12
    · simp [c, d, show ¬ i % 16 = 14 by omega, show ¬ i % 16 = 0 by omega, Nat.add_comm]
    · simp [c, d, show i % 16 = 14 by omega, show 12 ≤ i by omega]
  · by_cases d : 8 ≤ i % 16
    · simp [c, d, show ¬ i % 16 = 14 by omega, show ¬ i % 16 = 0 by omega, show ¬ i % 16 < 8 by omega, show 8 ≤ i by omega]
    · simp [c, d, show ¬ i % 16 = 14 by omega, show ¬ i % 16 = 0 by omega, show i % 16 < 8 by omega, Nat.add_comm]
  · by_cases d : i % 16 = 0
    · simp [c, d, Nat.add_comm]
    · simp [c, d, show ¬ i % 16 = 14 by omega, show 4 ≤ i % 16 by omega, show 4 ≤ i by omega]
theorem SO.shift {q : bP} {s : sT} (h : SO q s) : SO (sR q) (fun k => s ((k + 4 * (k % 4)) % 16)) := fun k hk i hi => by
  rw [h _ (by omega) i hi]
  unfold sbt sR vX8_shiftRows
  by_cases h4 : i < 4
  · rw [if_pos h4, if_pos h4, shifted_bit _ (by omega)]
    congr 1
    rcases (show k % 4 = 0 ∨ k % 4 = 1 ∨ k % 4 = 2 ∨ k % 4 = 3 by omega) with c | c | c | c
    · rw [if_pos (by omega)]
      omega
    · rw [if_neg (by omega), if_pos (by omega)]
      by_cases d : 4 ≤ (16 * i + (15 - k)) % 16
      · rw [if_pos d]
        omega
      · rw [if_neg d]
        omega
    · rw [if_neg (by omega), if_neg (by omega), if_pos (by omega)]
      by_cases d : 8 ≤ (16 * i + (15 - k)) % 16
      · rw [if_pos d]
        omega
      · rw [if_neg d]
        omega
    · rw [if_neg (by omega), if_neg (by omega), if_neg (by omega)]
      by_cases d : (16 * i + (15 - k)) % 16 = 12
      · rw [if_pos d]
        omega
      · rw [if_neg d]
        omega
  · rw [if_neg h4, if_neg h4, shifted_bit _ (by omega)]
    congr 1
    rcases (show k % 4 = 0 ∨ k % 4 = 1 ∨ k % 4 = 2 ∨ k % 4 = 3 by omega) with c | c | c | c
    · rw [if_pos (by omega)]
      omega
    · rw [if_neg (by omega), if_pos (by omega)]
      by_cases d : 4 ≤ (16 * (i - 4) + (15 - k)) % 16
      · rw [if_pos d]
        omega
      · rw [if_neg d]
        omega
    · rw [if_neg (by omega), if_neg (by omega), if_pos (by omega)]
      by_cases d : 8 ≤ (16 * (i - 4) + (15 - k)) % 16
      · rw [if_pos d]
        omega
      · rw [if_neg d]
        omega
    · rw [if_neg (by omega), if_neg (by omega), if_neg (by omega)]
      by_cases d : (16 * (i - 4) + (15 - k)) % 16 = 12
      · rw [if_pos d]
        omega
      · rw [if_neg d]
        omega
theorem SO.shiftB {q : bP} {s : sT} (h : SO q s) : SO (sB q) (fun k => s (iv k)) := fun k hk i hi => by
  unfold iv
  rw [h _ (by omega) i hi]
  unfold sbt sB vX8_shiftRowsBack
  by_cases h4 : i < 4
  · rw [if_pos h4, if_pos h4, shiftedBack_bit _ (by omega)]
    congr 1
    rcases (show k % 4 = 0 ∨ k % 4 = 1 ∨ k % 4 = 2 ∨ k % 4 = 3 by omega) with c | c | c | c
    · rw [if_pos (by omega)]
      omega
    · rw [if_neg (by omega), if_pos (by omega)]
      by_cases d : (16 * i + (15 - k)) % 16 < 12
      · rw [if_pos d]
        omega
      · rw [if_neg d]
        omega
    · rw [if_neg (by omega), if_neg (by omega), if_pos (by omega)]
      by_cases d : 8 ≤ (16 * i + (15 - k)) % 16
      · rw [if_pos d]
        omega
      · rw [if_neg d]
        omega
    · rw [if_neg (by omega), if_neg (by omega), if_neg (by omega)]
      by_cases d : (16 * i + (15 - k)) % 16 = 0
      · rw [if_pos d]
        omega
      · rw [if_neg d]
        omega
  · rw [if_neg h4, if_neg h4, shiftedBack_bit _ (by omega)]
    congr 1
    rcases (show k % 4 = 0 ∨ k % 4 = 1 ∨ k % 4 = 2 ∨ k % 4 = 3 by omega) with c | c | c | c
    · rw [if_pos (by omega)]
      omega
    · rw [if_neg (by omega), if_pos (by omega)]
      by_cases d : (16 * (i - 4) + (15 - k)) % 16 < 12
      · rw [if_pos d]
        omega
      · rw [if_neg d]
        omega
    · rw [if_neg (by omega), if_neg (by omega), if_pos (by omega)]
      by_cases d : 8 ≤ (16 * (i - 4) + (15 - k)) % 16
      · rw [if_pos d]
        omega
      · rw [if_neg d]
        omega
    · rw [if_neg (by omega), if_neg (by omega), if_neg (by omega)]
      by_cases d : (16 * (i - 4) + (15 - k)) % 16 = 0
      · rw [if_pos d]
        omega
      · rw [if_neg d]
        omega
/-- the octet behind the affine end -/
def ulo (x : BitVec 8) : BitVec 8 := (x ^^^ 99).rotateRight 2 ^^^ (x ^^^ 99).rotateRight 5 ^^^ (x ^^^ 99).rotateRight 7
theorem ulo_bit : ∀ x : BitVec 8, ∀ i, i < 8 → (ulo x).getLsbD i = ((x.getLsbD ((i + 2) % 8) ^^ (99 : BitVec 8).getLsbD ((i + 2) % 8)) ^^ (x.getLsbD ((i + 5) % 8) ^^ (99 : BitVec 8).getLsbD ((i + 5) % 8)) ^^ (x.getLsbD ((i + 7) % 8) ^^ (99 : BitVec 8).getLsbD ((i + 7) % 8))) := by decide +kernel
theorem ulo_C : ∀ x : BitVec 8, ulo (Bx (ulo x)) = Cx x := by decide +kernel
theorem fun2 (a c : Int64) {m : Nat} (h0 : 0 < m) (hm : m < 64) {j : Nat} (hj : j < 64) : ((jlushr a (nI m)) ||| (jlshl c (nI (64 - m)))).toBitVec.getLsbD j = if j + m < 64 then a.toBitVec.getLsbD (j + m) else c.toBitVec.getLsbD (j + m - 64) := by
  rw [Int64.toBitVec_or, BitVec.getLsbD_or, ju_bits _ hm, jl_bits _ (by omega) hj]
  by_cases h : j + m < 64
  · rw [if_pos h, Nat.add_comm]
    simp [show ¬ 64 - m ≤ j by omega]
  · rw [if_neg h, BitVec.getLsbD_of_ge _ _ (by omega), show j - (64 - m) = j + m - 64 by omega]
    simp [show 64 - m ≤ j by omega]
theorem cU1 : ∀ i, i < 4 → ∀ b, b < 16 → (4294967295 : Int64).toBitVec.getLsbD (16 * i + b) = (99 : BitVec 8).getLsbD i := by decide
theorem cU2 : ∀ i, i < 4 → ∀ b, b < 16 → (281474976645120 : Int64).toBitVec.getLsbD (16 * i + b) = (99 : BitVec 8).getLsbD (4 + i) := by decide
theorem undo_bit (lo hi : Int64) {b : Nat} (hb : b < 16) (x : BitVec 8) (hx : ∀ i, i < 8 → x.getLsbD i = sbt (lo, hi) i b) : ∀ i, i < 8 → sbt (vX8_undoLinearEnd lo hi) i b = (ulo x).getLsbD i := by
  intro i hi8
  have e1 : ∀ i, i < 4 → (lo ^^^ (4294967295 : Int64)).toBitVec.getLsbD (16 * i + b) = (x.getLsbD i ^^ (99 : BitVec 8).getLsbD i) := fun i h => by
    rw [Int64.toBitVec_xor, BitVec.getLsbD_xor, cU1 i h b hb, hx i (by omega)]
    unfold sbt
    rw [if_pos h]
  have e2 : ∀ i, 4 ≤ i → i < 8 → (hi ^^^ (281474976645120 : Int64)).toBitVec.getLsbD (16 * (i - 4) + b) = (x.getLsbD i ^^ (99 : BitVec 8).getLsbD i) := fun i h4 h8 => by
    rw [Int64.toBitVec_xor, BitVec.getLsbD_xor, cU2 (i - 4) (by omega) b hb, hx i h8, show 4 + (i - 4) = i by omega]
    unfold sbt
    rw [if_neg (by omega)]
  rw [ulo_bit x i hi8]
  unfold sbt vX8_undoLinearEnd
  simp only [show (32 : Int32) = nI 32 from rfl, show (16 : Int32) = nI 16 from rfl, show (48 : Int32) = nI 48 from rfl]
  generalize lo ^^^ (4294967295 : Int64) = u at e1 ⊢
  generalize hi ^^^ (281474976645120 : Int64) = v at e2 ⊢
  have f32 : ∀ a c : Int64, ∀ j, j < 64 → ((jlushr a (nI 32)) ||| (jlshl c (nI 32))).toBitVec.getLsbD j = if j + 32 < 64 then a.toBitVec.getLsbD (j + 32) else c.toBitVec.getLsbD (j + 32 - 64) := fun a c j hj => fun2 a c (m := 32) (by omega) (by omega) hj
  have f16 : ∀ a c : Int64, ∀ j, j < 64 → ((jlushr a (nI 16)) ||| (jlshl c (nI 48))).toBitVec.getLsbD j = if j + 16 < 64 then a.toBitVec.getLsbD (j + 16) else c.toBitVec.getLsbD (j + 16 - 64) := fun a c j hj => fun2 a c (m := 16) (by omega) (by omega) hj
  have f48 : ∀ a c : Int64, ∀ j, j < 64 → ((jlushr a (nI 48)) ||| (jlshl c (nI 16))).toBitVec.getLsbD j = if j + 48 < 64 then a.toBitVec.getLsbD (j + 48) else c.toBitVec.getLsbD (j + 48 - 64) := fun a c j hj => fun2 a c (m := 48) (by omega) (by omega) hj
  have g1 : ∀ (i j : Nat), i < 4 → j = 16 * i + b → u.toBitVec.getLsbD j = (x.getLsbD i ^^ (99 : BitVec 8).getLsbD i) := fun i j h e => by rw [e]; exact e1 i h
  have g2 : ∀ (i j : Nat), 4 ≤ i → i < 8 → j = 16 * (i - 4) + b → v.toBitVec.getLsbD j = (x.getLsbD i ^^ (99 : BitVec 8).getLsbD i) := fun i j h h' e => by rw [e]; exact e2 i h h'
  rcases (show i = 0 ∨ i = 1 ∨ i = 2 ∨ i = 3 ∨ i = 4 ∨ i = 5 ∨ i = 6 ∨ i = 7 by omega) with rfl | rfl | rfl | rfl | rfl | rfl | rfl | rfl
  · rw [if_pos (by omega), Int64.toBitVec_xor, BitVec.getLsbD_xor, Int64.toBitVec_xor, BitVec.getLsbD_xor, f32 _ _ _ (by omega), f16 _ _ _ (by omega), f48 _ _ _ (by omega), if_pos (by omega), if_pos (by omega), if_pos (by omega), g1 2 _ (by omega) (by omega), g2 5 _ (by omega) (by omega) (by omega), g2 7 _ (by omega) (by omega) (by omega)]
  · rw [if_pos (by omega), Int64.toBitVec_xor, BitVec.getLsbD_xor, Int64.toBitVec_xor, BitVec.getLsbD_xor, f32 _ _ _ (by omega), f16 _ _ _ (by omega), f48 _ _ _ (by omega), if_pos (by omega), if_pos (by omega), if_neg (by omega), g1 3 _ (by omega) (by omega), g2 6 _ (by omega) (by omega) (by omega), g1 0 _ (by omega) (by omega)]
  · rw [if_pos (by omega), Int64.toBitVec_xor, BitVec.getLsbD_xor, Int64.toBitVec_xor, BitVec.getLsbD_xor, f32 _ _ _ (by omega), f16 _ _ _ (by omega), f48 _ _ _ (by omega), if_neg (by omega), if_pos (by omega), if_neg (by omega), g2 4 _ (by omega) (by omega) (by omega), g2 7 _ (by omega) (by omega) (by omega), g1 1 _ (by omega) (by omega)]
  · rw [if_pos (by omega), Int64.toBitVec_xor, BitVec.getLsbD_xor, Int64.toBitVec_xor, BitVec.getLsbD_xor, f32 _ _ _ (by omega), f16 _ _ _ (by omega), f48 _ _ _ (by omega), if_neg (by omega), if_neg (by omega), if_neg (by omega), g2 5 _ (by omega) (by omega) (by omega), g1 0 _ (by omega) (by omega), g1 2 _ (by omega) (by omega)]
  · rw [if_neg (by omega), Int64.toBitVec_xor, BitVec.getLsbD_xor, Int64.toBitVec_xor, BitVec.getLsbD_xor, f32 _ _ _ (by omega), f16 _ _ _ (by omega), f48 _ _ _ (by omega), if_pos (by omega), if_pos (by omega), if_pos (by omega), g2 6 _ (by omega) (by omega) (by omega), g1 1 _ (by omega) (by omega), g1 3 _ (by omega) (by omega)]
  · rw [if_neg (by omega), Int64.toBitVec_xor, BitVec.getLsbD_xor, Int64.toBitVec_xor, BitVec.getLsbD_xor, f32 _ _ _ (by omega), f16 _ _ _ (by omega), f48 _ _ _ (by omega), if_pos (by omega), if_pos (by omega), if_neg (by omega), g2 7 _ (by omega) (by omega) (by omega), g1 2 _ (by omega) (by omega), g2 4 _ (by omega) (by omega) (by omega)]
  · rw [if_neg (by omega), Int64.toBitVec_xor, BitVec.getLsbD_xor, Int64.toBitVec_xor, BitVec.getLsbD_xor, f32 _ _ _ (by omega), f16 _ _ _ (by omega), f48 _ _ _ (by omega), if_neg (by omega), if_pos (by omega), if_neg (by omega), g1 0 _ (by omega) (by omega), g1 3 _ (by omega) (by omega), g2 5 _ (by omega) (by omega) (by omega)]
  · rw [if_neg (by omega), Int64.toBitVec_xor, BitVec.getLsbD_xor, Int64.toBitVec_xor, BitVec.getLsbD_xor, f32 _ _ _ (by omega), f16 _ _ _ (by omega), f48 _ _ _ (by omega), if_neg (by omega), if_neg (by omega), if_neg (by omega), g1 1 _ (by omega) (by omega), g2 4 _ (by omega) (by omega) (by omega), g2 6 _ (by omega) (by omega) (by omega)]
theorem SO.undo {q : bP} {s : sT} (h : SO q s) : SO (vX8_undoLinearEnd q.1 q.2) (fun k => ulo (s k)) := fun k hk i hi => (undo_bit q.1 q.2 (b := 15 - k) (by omega) (s k) (fun i hi => h k hk i hi) i hi).symm
theorem SO.boxB {q : bP} {s : sT} (h : SO q s) : SO (bB q) (fun k => Cx (s k)) := by
  have h1 := (SO.undo (SO.box (SO.undo h)))
  have e : (fun k => ulo (Bx (ulo (s k)))) = fun k => Cx (s k) := by
    funext k
    exact ulo_C (s k)
  rw [e] at h1
  exact h1
