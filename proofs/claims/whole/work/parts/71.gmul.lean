/-! the product: mulN's steps as octets -/
theorem oc_or (a b : BitVec 8) : oc a ||| oc b = oc (a ||| b) := by
  apply Int32.toBitVec_inj.mp
  rw [Int32.toBitVec_or, oc_tb, oc_tb, oc_tb]
  apply BitVec.eq_of_getLsbD_eq
  intro i hi
  simp only [BitVec.getLsbD_or, BitVec.getLsbD_setWidth]
  cases decide (i < 32) <;> simp
theorem sr1_8 : ∀ a : BitVec 8, oc a >>> ((1 : Int32) &&& 31) = oc (a >>> (1 : Nat)) := by decide +kernel
theorem sl7_8 : ∀ a : BitVec 8, (oc a &&& 1) <<< ((7 : Int32) &&& 31) = oc (a <<< (7 : Nat)) := by decide +kernel
theorem lo225 : ∀ a : BitVec 8, (oc a &&& 1) * 225 = oc (if a.getLsbD 0 then (225 : BitVec 8) else 0) := by decide +kernel
theorem bit_8 : ∀ m, m < 8 → ∀ a : BitVec 8, ((oc a >>> (nI m &&& 31)) &&& 1 = 1) ↔ a.getLsbD m = true := by decide +kernel
def shr1 (f : oA) (k : Nat) : BitVec 8 := (f k >>> (1 : Nat)) ||| (if k = 0 then (0 : BitVec 8) else f (k - 1) <<< (7 : Nat))
def hvo (f : oA) (k : Nat) : BitVec 8 := shr1 f k ^^^ (if k = 0 then (if (f 15).getLsbD 0 then (225 : BitVec 8) else 0) else 0)
def hv (q : bP) : bP := ((jlushr q.1 1) ^^^ ((-(q.2 &&& 1)) &&& (-2233785415175766016 : Int64)), (jlushr q.2 1) ||| (jlshl q.1 63))
theorem low1 (x : Int64) : -(x &&& 1) = if x.toBitVec.getLsbD 0 then -1 else 0 := by
  have : x &&& 1 = if x.toBitVec.getLsbD 0 then 1 else 0 := by
    apply Int64.toBitVec_inj.mp
    apply BitVec.eq_of_getLsbD_eq
    intro i hi
    rw [Int64.toBitVec_and, BitVec.getLsbD_and]
    have e1 : ∀ i, i < 64 → (1 : Int64).toBitVec.getLsbD i = decide (i = 0) := by decide
    rw [e1 i hi]
    by_cases h0 : i = 0
    · subst h0
      cases h : x.toBitVec.getLsbD 0 <;> simp
    · cases h : x.toBitVec.getLsbD 0
      · simp [h0]
      · simp only [if_true]
        rw [e1 i hi]
        simp [h0]
  rw [this]
  cases x.toBitVec.getLsbD 0 <;> decide
theorem cE1 : ∀ i, i < 64 → (-2233785415175766016 : Int64).toBitVec.getLsbD i = (decide (56 ≤ i) && (225#8).getLsbD (i - 56)) := by decide
theorem ob_hv (q : bP) {k : Nat} (hk : k < 16) : ob (hv q) k = hvo (ob q) k := by
  apply BitVec.eq_of_getLsbD_eq
  intro m hm
  rw [ob_bit _ hk hm]
  unfold hvo shr1 hv
  rw [low1]
  simp only [show (1 : Int32) = nI 1 from rfl, show (63 : Int32) = nI 63 from rfl]
  have e15 : (ob q 15).getLsbD 0 = q.2.toBitVec.getLsbD 0 := ob_bit q (by omega) (by omega)
  rw [e15]
  have em : ∀ x : Int64, (-1 : Int64) &&& x = x := fun x => by
    apply Int64.toBitVec_inj.mp
    rw [Int64.toBitVec_and, show (-1 : Int64).toBitVec = BitVec.allOnes 64 by decide, BitVec.allOnes_and]
  simp only [BitVec.getLsbD_xor, BitVec.getLsbD_or, BitVec.getLsbD_ushiftRight]
  by_cases h8 : 8 ≤ k
  · simp only [if_pos h8, if_neg (show ¬ k = 0 by omega), BitVec.getLsbD_shiftLeft]
    rw [Int64.toBitVec_or, BitVec.getLsbD_or, ju_bits _ (by omega), jl_bits _ (by omega) (by omega)]
    by_cases m7 : m = 7
    · subst m7
      rw [BitVec.getLsbD_of_ge (ob q k) _ (by omega)]
      by_cases k8 : k = 8
      · subst k8
        have e7 : (ob q (8 - 1)).getLsbD (7 - 7) = q.1.toBitVec.getLsbD 0 := ob_bit q (by omega) (by omega)
        rw [e7, BitVec.getLsbD_of_ge q.2.toBitVec _ (by omega)]
        simp
      · have e7 : (ob q (k - 1)).getLsbD (7 - 7) = q.2.toBitVec.getLsbD (56 - 8 * ((k - 1) % 8) + (7 - 7)) := by rw [ob_bit q (by omega) (by omega), if_pos (by omega)]
        rw [e7, show 1 + (56 - 8 * (k % 8) + 7) = 56 - 8 * ((k - 1) % 8) + (7 - 7) by omega]
        simp [show ¬ 63 ≤ 56 - 8 * (k % 8) + 7 by omega]
    · have ek : (ob q k).getLsbD (1 + m) = q.2.toBitVec.getLsbD (56 - 8 * (k % 8) + (1 + m)) := by rw [ob_bit q hk (by omega), if_pos h8]
      rw [ek, show 1 + (56 - 8 * (k % 8) + m) = 56 - 8 * (k % 8) + (1 + m) by omega]
      simp [show ¬ 63 ≤ 56 - 8 * (k % 8) + m by omega, show m < 7 by omega]
  · simp only [if_neg h8]
    rw [Int64.toBitVec_xor, BitVec.getLsbD_xor, ju_bits _ (by omega)]
    by_cases k0 : k = 0
    · subst k0
      simp only [if_true]
      refine xor_c ?_ ?_
      · by_cases m7 : m = 7
        · subst m7
          rw [BitVec.getLsbD_of_ge q.1.toBitVec _ (by omega), BitVec.getLsbD_of_ge (ob q 0) _ (by omega)]
          simp
        · have ek : (ob q 0).getLsbD (1 + m) = q.1.toBitVec.getLsbD (56 - 8 * (0 % 8) + (1 + m)) := by rw [ob_bit q hk (by omega), if_neg h8]
          rw [ek, show 1 + (56 - 8 * (0 % 8) + m) = 56 - 8 * (0 % 8) + (1 + m) by omega]
          simp
      · cases h : q.2.toBitVec.getLsbD 0
        · simp
        · simp only [if_true]
          rw [em, cE1 _ (by omega)]
          simp
    · simp only [if_neg k0, BitVec.getLsbD_shiftLeft]
      have z : ∀ c : Bool, ((if c = true then (-1 : Int64) else 0) &&& (-2233785415175766016 : Int64)).toBitVec.getLsbD (56 - 8 * (k % 8) + m) = false := by
        intro c
        cases c
        · simp
        · simp only [if_true]
          rw [em, cE1 _ (by omega)]
          simp [show ¬ 56 ≤ 56 - 8 * (k % 8) + m by omega]
      rw [z]
      by_cases m7 : m = 7
      · subst m7
        have e7 : (ob q (k - 1)).getLsbD (7 - 7) = q.1.toBitVec.getLsbD (56 - 8 * ((k - 1) % 8) + (7 - 7)) := by rw [ob_bit q (by omega) (by omega), if_neg (by omega)]
        rw [e7, BitVec.getLsbD_of_ge (ob q k) _ (by omega), show 1 + (56 - 8 * (k % 8) + 7) = 56 - 8 * ((k - 1) % 8) + (7 - 7) by omega]
        simp
      · have ek : (ob q k).getLsbD (1 + m) = q.1.toBitVec.getLsbD (56 - 8 * (k % 8) + (1 + m)) := by rw [ob_bit q hk (by omega), if_neg h8]
        rw [ek, show 1 + (56 - 8 * (k % 8) + m) = 56 - 8 * (k % 8) + (1 + m) by omega]
        simp [show m < 7 by omega]
theorem hv_gt (f : oA) {g : oA} (h0 : g 0 = shr1 f 0 ^^^ (if (f 15).getLsbD 0 then (225 : BitVec 8) else 0)) (h1 : ∀ j, j ≠ 0 → j < 16 → g j = shr1 f j) : gt g 0 = hv (gt f 0) := ob_ext fun k hk => by
  have e : ∀ k, k < 16 → ob (gt f 0) k = f k := fun k hk => (ob_gt f 0 hk).trans (by rw [Nat.zero_add])
  rw [ob_gt _ _ hk, Nat.zero_add, ob_hv _ hk]
  unfold hvo shr1
  by_cases h : k = 0
  · subst h
    rw [h0]
    unfold shr1
    simp only [if_true, e 0 (by omega), e 15 (by omega)]
  · rw [h1 k h hk]
    unfold shr1
    simp only [if_neg h, e k hk, e (k - 1) (by omega)]
    simp
/-- bit m from the top -/
def tb (q : bP) (m : Nat) : Bool := if m < 64 then q.1.toBitVec.getLsbD (63 - m) else q.2.toBitVec.getLsbD (127 - m)
theorem tb_ob (q : bP) {k : Nat} (hk : k < 128) : tb q k = (ob q (k / 8)).getLsbD (7 - k % 8) := by
  unfold tb
  rw [ob_bit _ (by omega) (by omega)]
  by_cases h : k < 64
  · rw [if_pos h, if_neg (by omega)]
    congr 1
    omega
  · rw [if_neg h, if_pos (by omega)]
    congr 1
    omega
theorem tb_sh (a b : Int64) {m : Nat} (hm : m + 1 < 128) : tb ((jlshl a 1) ||| (jlushr b 63), jlshl b 1) m = tb (a, b) (m + 1) := by
  unfold tb
  simp only [show (1 : Int32) = nI 1 from rfl, show (63 : Int32) = nI 63 from rfl]
  by_cases h : m < 64
  · rw [if_pos h, Int64.toBitVec_or, BitVec.getLsbD_or, jl_bits _ (by omega) (by omega), ju_bits _ (by omega)]
    by_cases h2 : m + 1 < 64
    · rw [if_pos h2, BitVec.getLsbD_of_ge b.toBitVec _ (by omega)]
      simp [show 1 ≤ 63 - m by omega, show 63 - m - 1 = 63 - (m + 1) by omega]
    · rw [if_neg h2]
      obtain rfl : m = 63 := by omega
      simp
  · rw [if_neg h, if_neg (by omega), jl_bits _ (by omega) (by omega)]
    simp [show 1 ≤ 127 - m by omega, show 127 - m - 1 = 127 - (m + 1) by omega]
theorem sgn_top (x : Int64) : jlshr x 63 = if x.toBitVec.getLsbD 63 then -1 else 0 := by
  rw [sgn63]
  have hm : (0 ≤ x.toInt) ↔ x.toBitVec.getLsbD 63 = false := by
    show 0 ≤ x.toBitVec.toInt ↔ _
    have e : x.toBitVec.msb = x.toBitVec.getLsbD 63 := BitVec.msb_eq_getLsbD_last _
    rw [BitVec.toInt_eq_msb_cond, e]
    cases h : x.toBitVec.getLsbD 63
    · simp
    · have := x.toBitVec.isLt
      simp
      omega
  cases h : x.toBitVec.getLsbD 63
  · rw [if_pos (hm.mpr h)]
    rfl
  · rw [if_neg (fun q => by rw [hm.mp q] at h; exact absurd h (by decide))]
    rfl
theorem mulN_tb (p q : bP) : ∀ t m, t + m < 128 → tb ((mulN p.1 p.2 q.1 q.2 t).1, (mulN p.1 p.2 q.1 q.2 t).2.1) m = tb p (t + m)
  | 0, m, _ => by rw [Nat.zero_add]; rfl
  | t + 1, m, h => by
    have ih := mulN_tb p q t (m + 1) (by omega)
    show tb ((jlshl (mulN p.1 p.2 q.1 q.2 t).1 1) ||| (jlushr (mulN p.1 p.2 q.1 q.2 t).2.1 63), jlshl (mulN p.1 p.2 q.1 q.2 t).2.1 1) m = _
    rw [tb_sh _ _ (by omega), ih]
    congr 1
    omega
def gV (p q : bP) (t : Nat) : bP := ((mulN p.1 p.2 q.1 q.2 t).2.2.1, (mulN p.1 p.2 q.1 q.2 t).2.2.2.1)
def gA (p q : bP) (t : Nat) : bP := ((mulN p.1 p.2 q.1 q.2 t).2.2.2.2.1, (mulN p.1 p.2 q.1 q.2 t).2.2.2.2.2)
theorem gV_0 (p q : bP) : gV p q 0 = q := rfl
theorem gA_0 (p q : bP) : gA p q 0 = (0, 0) := rfl
theorem gmu_A (p q : bP) : gmu p q = gA p q 128 := rfl
theorem gV_s (p q : bP) (t : Nat) : gV p q (t + 1) = hv (gV p q t) := rfl
theorem gA_s (p q : bP) {t : Nat} (ht : t < 128) : gA p q (t + 1) = if (ob p (t / 8)).getLsbD (7 - t % 8) = true then xb (gA p q t) (gV p q t) else gA p q t := by
  have hb := mulN_tb p q t 0 (by omega)
  rw [Nat.add_zero, tb_ob p ht] at hb
  have e : gA p q (t + 1) = ((gA p q t).1 ^^^ ((gV p q t).1 &&& jlshr (mulN p.1 p.2 q.1 q.2 t).1 63), (gA p q t).2 ^^^ ((gV p q t).2 &&& jlshr (mulN p.1 p.2 q.1 q.2 t).1 63)) := rfl
  have hb2 : (mulN p.1 p.2 q.1 q.2 t).1.toBitVec.getLsbD 63 = (ob p (t / 8)).getLsbD (7 - t % 8) := hb
  have em : ∀ x : Int64, x &&& (-1 : Int64) = x := fun x => by
    apply Int64.toBitVec_inj.mp
    rw [Int64.toBitVec_and, show (-1 : Int64).toBitVec = BitVec.allOnes 64 by decide, BitVec.and_allOnes]
  rw [e, sgn_top, hb2]
  cases (ob p (t / 8)).getLsbD (7 - t % 8)
  · simp
  · simp only [if_true, em]
    rfl
