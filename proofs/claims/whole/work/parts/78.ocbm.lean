/-! the offsets: octets and bits -/
def dbN : Nat → bP → bP
  | 0, q => q
  | k + 1, q => dbl (dbN k q)
theorem dbN_c (k : Nat) (q : bP) : dbN k (dbl q) = dbN (k + 1) q := by
  induction k with
  | zero => rfl
  | succ k ih =>
    show dbl (dbN k (dbl q)) = dbl (dbN (k + 1) q)
    rw [ih]
def tzG : Nat → Nat → Nat
  | 0, _ => 0
  | f + 1, i => if i % 2 = 0 then tzG f (i / 2) + 1 else 0
def tzc (v : Int32) : Nat → Nat → Nat
  | _, 0 => 0
  | b, d + 1 => if (v >>> (nI b &&& 31)) &&& 1 = 0 then tzc v (b + 1) d + 1 else 0
theorem mvN_db (v : Int32) : ∀ d b x, mvN v b d x = dbN (tzc v b d) x
  | 0, b, x => by cases b <;> rfl
  | d + 1, b, x => by
    show (if (v >>> (nI b &&& 31)) &&& 1 = 0 then mvN v (b + 1) d (dbl x) else x) = dbN (if (v >>> (nI b &&& 31)) &&& 1 = 0 then tzc v (b + 1) d + 1 else 0) x
    by_cases h : (v >>> (nI b &&& 31)) &&& 1 = 0
    · rw [if_pos h, if_pos h, mvN_db v d (b + 1) (dbl x), dbN_c]
    · rw [if_neg h, if_neg h]
      rfl
theorem tz_eq : ∀ i, i < 65 → 1 ≤ i → tzc (nI i) 0 16 = tzG 7 i := by decide +kernel
theorem tz_le : ∀ i, i < 65 → tzG 7 i ≤ 7 := by decide +kernel
theorem mvZ_db {i : Nat} (h1 : 1 ≤ i) (h : i < 65) (x : bP) : mvZ (nI i) x = dbN (tzG 7 i) x := by
  unfold mvZ
  rw [mvN_db, tz_eq i h h1]
theorem dbN_add (a b : Nat) (q : bP) : dbN a (dbN b q) = dbN (a + b) q := by
  induction a with
  | zero => rw [Nat.zero_add]; rfl
  | succ a ih =>
    show dbl (dbN a (dbN b q)) = _
    rw [ih, show a + 1 + b = (a + b) + 1 by omega]
    rfl
theorem xb_assoc (p q r : bP) : xb (xb p q) r = xb p (xb q r) := by
  unfold xb
  rw [Int64.xor_assoc, Int64.xor_assoc]
theorem xb_self0 (p : bP) : xb p (0, 0) = p := by rw [xb_comm, xb_00]
theorem ahN_1 (F : bP → bP) (dl : bP) (A : List (BitVec 8)) (g : bP) : ∀ i, (ahN F dl A g i).1 = (ahN F dl A (0, 0) i).1
  | 0 => rfl
  | i + 1 => by
    show xb (ahN F dl A g i).1 _ = xb (ahN F dl A (0, 0) i).1 _
    rw [ahN_1 F dl A g i]
theorem ahN_2 (F : bP → bP) (dl : bP) (A : List (BitVec 8)) (g : bP) : ∀ i, (ahN F dl A g i).2 = xb g (ahN F dl A (0, 0) i).2
  | 0 => (xb_self0 g).symm
  | i + 1 => by
    show xb (ahN F dl A g i).2 (F (xb (rd A (16 * i)) (xb (ahN F dl A g i).1 _))) = xb g (xb (ahN F dl A (0, 0) i).2 (F (xb (rd A (16 * i)) (xb (ahN F dl A (0, 0) i).1 _))))
    rw [ahN_1 F dl A g i, ahN_2 F dl A g i, xb_assoc]
theorem ahT_g (F : bP → bP) (dl star : bP) (A : List (BitVec 8)) (g : bP) : ahT F dl star A g = xb g (ahT F dl star A (0, 0)) := by
  unfold ahT
  by_cases h : nI (A.length % 16) = 0
  · rw [if_pos h, if_pos h, ahN_2]
  · rw [if_neg h, if_neg h, ahN_2, ahN_1, xb_assoc]
/-- 63 and 192 -/
theorem oc_63 : ∀ a : BitVec 8, oc a &&& 63 = nI (a.toNat % 64) := by decide +kernel
theorem oc_192 : ∀ a : BitVec 8, oc a &&& 192 = oc (a &&& 192) := by decide +kernel
theorem i63 : ∀ i, i < 32 → (63 : Int32).toBitVec.getLsbD i = decide (i < 6) := by decide
theorem lo63 (B : bP) : B.2.toInt32 &&& 63 = nI ((ob B 15).toNat % 64) := by
  rw [← oc_63]
  apply Int32.toBitVec_inj.mp
  rw [Int32.toBitVec_and, Int32.toBitVec_and]
  apply BitVec.eq_of_getLsbD_eq
  intro j hj
  rw [BitVec.getLsbD_and, BitVec.getLsbD_and, i63 j hj]
  by_cases h6 : j < 6
  · have e : (oc (ob B 15)).toBitVec.getLsbD j = (ob B 15).getLsbD j := by
      rw [oc_tb, BitVec.getLsbD_setWidth]
      simp [hj]
    rw [e, ob_bit B (by omega) (by omega), Int64.toBitVec_toInt32, BitVec.getLsbD_signExtend]
    have h64 : j < 64 := by omega
    simp [h6, hj, h64]
  · simp [h6]
theorem m64 : ∀ i, i < 64 → (-64 : Int64).toBitVec.getLsbD i = decide (6 ≤ i) := by decide
theorem b192 : ∀ i, i < 8 → (192 : BitVec 8).getLsbD i = decide (6 ≤ i) := by decide
theorem ob_m64 (B : bP) {k : Nat} (hk : k < 16) : ob (B.1, B.2 &&& (-64)) k = if k = 15 then ob B k &&& 192 else ob B k := by
  apply BitVec.eq_of_getLsbD_eq
  intro m hm
  rw [ob_bit _ hk hm]
  by_cases h8 : 8 ≤ k
  · simp only [if_pos h8, Int64.toBitVec_and, BitVec.getLsbD_and]
    rw [m64 _ (by omega)]
    by_cases c : k = 15
    · subst c
      rw [if_pos rfl, BitVec.getLsbD_and, b192 m hm, ob_bit _ hk hm, if_pos h8]
      simp
    · rw [if_neg c, ob_bit _ hk hm, if_pos h8, decide_eq_true (show 6 ≤ 56 - 8 * (k % 8) + m by omega), Bool.and_true]
  · rw [if_neg h8, if_neg (by omega), ob_bit _ hk hm, if_neg h8]
/-- bits of win -/
theorem sv63 : ∀ v, v < 64 → (63 : Int32) - nI v = nI (63 - v) := by decide
theorem win_bit (a b : Int64) {v : Nat} (hv : v < 64) {m : Nat} (hm : m < 64) : (win a b (nI v)).toBitVec.getLsbD (63 - m) = if m + v < 64 then a.toBitVec.getLsbD (63 - (m + v)) else b.toBitVec.getLsbD (127 - (m + v)) := by
  unfold win
  rw [Int64.toBitVec_or, BitVec.getLsbD_or, jl_bits _ hv (by omega), sv63 v hv, ju_bits _ (by omega), show (1 : Int32) = nI 1 from rfl, ju_bits _ (by omega)]
  by_cases h : m + v < 64
  · rw [if_pos h, BitVec.getLsbD_of_ge b.toBitVec _ (by omega), show 63 - m - v = 63 - (m + v) by omega]
    simp [show v ≤ 63 - m by omega]
  · rw [if_neg h, show 1 + (63 - v + (63 - m)) = 127 - (m + v) by omega]
    simp [show ¬ v ≤ 63 - m by omega]
/-- the stretched block -/
def wdB (K : bP) (j : Nat) : BitVec 8 := if j < 16 then ob K j else ob K (j - 16) ^^^ ob K (j - 15)
theorem w3_ob (K : bP) {j : Nat} (hj : j < 8) : ob (K.1 ^^^ ((jlshl K.1 8) ||| (jlushr K.2 56)), 0) j = ob K j ^^^ ob K (j + 1) := by
  have e : ob ((jlshl K.1 8) ||| (jlushr K.2 56), 0) j = ob K (j + 1) := by
    have := ob_bci K 0 (k := j) (by omega)
    rw [if_neg (by omega)] at this
    rw [← this]
    unfold bci vX0_comeIn
    exact (ob_l _ _ hj).symm
  have e2 : ob (K.1 ^^^ ((jlshl K.1 8) ||| (jlushr K.2 56)), 0) j = ob (xb (K.1, 0) ((jlshl K.1 8) ||| (jlushr K.2 56), 0)) j := by
    unfold xb
    rw [Int64.xor_zero]
  rw [e2, ob_xb _ _ (by omega), e]
  congr 1
  exact (ob_l K.1 K.2 hj).symm
/-- bit s of the stretched block, from the top -/
theorem st_bit (K : bP) {s : Nat} (hs : s < 192) : (wdB K (s / 8)).getLsbD (7 - s % 8) = if s < 64 then K.1.toBitVec.getLsbD (63 - s) else if s < 128 then K.2.toBitVec.getLsbD (127 - s) else (K.1 ^^^ ((jlshl K.1 8) ||| (jlushr K.2 56))).toBitVec.getLsbD (191 - s) := by
  unfold wdB
  by_cases h1 : s < 64
  · rw [if_pos (by omega), if_pos h1, ob_bit _ (by omega) (by omega), if_neg (by omega)]
    congr 1
    omega
  · rw [if_neg h1]
    by_cases h2 : s < 128
    · rw [if_pos (by omega), if_pos h2, ob_bit _ (by omega) (by omega), if_pos (by omega)]
      congr 1
      omega
    · rw [if_neg (by omega), if_neg h2]
      have e := w3_ob K (j := s / 8 - 16) (by omega)
      rw [show s / 8 - 15 = s / 8 - 16 + 1 by omega, ← e, ob_bit _ (by omega) (by omega), if_neg (by omega)]
      congr 1
      omega
theorem bgW_bit (K : bP) {b : Nat} (hb : b < 64) {k : Nat} (hk : k < 16) {i : Nat} (hi : i < 8) : (ob (bgW K (nI b)) k).getLsbD i = (wdB K ((b + 8 * k + (7 - i)) / 8)).getLsbD (7 - (b + 8 * k + (7 - i)) % 8) := by
  rw [st_bit K (by omega), ob_bit _ hk hi]
  unfold bgW
  by_cases h8 : 8 ≤ k
  · simp only [if_pos h8]
    have := win_bit K.2 (K.1 ^^^ ((jlshl K.1 8) ||| (jlushr K.2 56))) hb (m := 8 * (k - 8) + (7 - i)) (by omega)
    rw [show 63 - (8 * (k - 8) + (7 - i)) = 56 - 8 * (k % 8) + i by omega] at this
    rw [this, if_neg (show ¬ b + 8 * k + (7 - i) < 64 by omega)]
    by_cases c : 8 * (k - 8) + (7 - i) + b < 64
    · rw [if_pos c, if_pos (by omega)]
      congr 1
      omega
    · rw [if_neg c, if_neg (by omega)]
      congr 1
      omega
  · simp only [if_neg h8]
    have := win_bit K.1 K.2 hb (m := 8 * k + (7 - i)) (by omega)
    rw [show 63 - (8 * k + (7 - i)) = 56 - 8 * (k % 8) + i by omega] at this
    rw [this]
    by_cases c : 8 * k + (7 - i) + b < 64
    · rw [if_pos c, if_pos (by omega)]
      congr 1
      omega
    · rw [if_neg c, if_neg (by omega), if_pos (by omega)]
      congr 1
      omega
theorem sh8r : ∀ r, r < 8 → (nI (8 - r) &&& 31).toBitVec.smod 32 = BitVec.ofNat 32 (8 - r) := by decide
theorem sh8c : ((8 : Int32) &&& 31).toBitVec.smod 32 = 8#32 := by decide
theorem two_bit (x y : BitVec 8) {r : Nat} (hr : r < 8) {i : Nat} (hi : i < 8) : (t8 (((oc x <<< ((8 : Int32) &&& 31)) ||| oc y) >>> (nI (8 - r) &&& 31))).getLsbD i = if r ≤ i then x.getLsbD (i - r) else y.getLsbD (i + 8 - r) := by
  unfold t8
  rw [BitVec.getLsbD_setWidth, Int32.toBitVec_shiftRight, sh8r r hr, BitVec.sshiftRight_eq', BitVec.toNat_ofNat, Nat.mod_eq_of_lt (show 8 - r < 2 ^ 32 by omega), BitVec.getLsbD_sshiftRight, if_pos (by omega), Int32.toBitVec_or, BitVec.getLsbD_or, Int32.toBitVec_shiftLeft, sh8c, oc_tb, oc_tb, BitVec.shiftLeft_eq', BitVec.getLsbD_shiftLeft, BitVec.getLsbD_setWidth, BitVec.getLsbD_setWidth]
  have e8 : (8#32).toNat = 8 := rfl
  rw [e8]
  by_cases h : r ≤ i
  · rw [if_pos h, BitVec.getLsbD_of_ge y _ (by omega)]
    simp [hi, show 8 - r + i < 32 by omega, show ¬ 32 ≤ i by omega, show ¬ 8 - r + i < 8 by omega, show 8 - r + i - 8 = i - r by omega, show i - r < 32 by omega]
  · rw [if_neg h, show 8 - r + i = i + 8 - r by omega]
    simp [hi, show i + 8 - r < 32 by omega, show ¬ 32 ≤ i by omega, show i + 8 - r < 8 by omega]
theorem bgW_ob (K : bP) {b : Nat} (hb : b < 64) {k : Nat} (hk : k < 16) : ob (bgW K (nI b)) k = t8 (((oc (wdB K (b / 8 + k)) <<< ((8 : Int32) &&& 31)) ||| oc (wdB K (b / 8 + k + 1))) >>> (nI (8 - b % 8) &&& 31)) := by
  apply BitVec.eq_of_getLsbD_eq
  intro i hi
  rw [bgW_bit K hb hk hi, two_bit _ _ (by omega) hi]
  by_cases h : b % 8 ≤ i
  · rw [if_pos h, show (b + 8 * k + (7 - i)) / 8 = b / 8 + k by omega]
    congr 1
    omega
  · rw [if_neg h, show (b + 8 * k + (7 - i)) / 8 = b / 8 + k + 1 by omega]
    congr 1
    omega
theorem bg_ob (st : List (BitVec 8)) (x : bP) : ∀ m, m ≤ st.length → st.length ≤ 15 → ∀ k, k < 16 → ob (cyN (bgS st) x m) k = if 16 - st.length ≤ k ∧ k < 16 - st.length + m then ob x k ^^^ og st (k - (16 - st.length)) else ob x k
  | 0, _, _, k, _ => by rw [if_neg (by omega)]; rfl
  | m + 1, hm, hs, k, hk => by
    show ob (aoc (cyN (bgS st) x m) (nI (16 - st.length + m)) (oc (og st m))) k = _
    rw [ob_aoc _ (by omega) _ hk, t8_oc, bg_ob st x m (by omega) hs k hk]
    by_cases h : k = 16 - st.length + m
    · rw [if_pos h, if_neg (by omega), if_pos (by omega), show k - (16 - st.length) = m by omega]
    · rw [if_neg h]
      by_cases h2 : 16 - st.length ≤ k ∧ k < 16 - st.length + m
      · rw [if_pos h2, if_pos (by omega)]
      · rw [if_neg h2, if_neg (by omega)]
theorem mt16 : ∀ m, m < 17 → t8 (((8 * nI m) &&& 127) <<< ((1 : Int32) &&& 31)) = t8 (nI (8 * m % 128 * 2)) := by decide
/-- the block before the mask: what the reference writes into one -/
theorem bgN_gt {f r : oA} {st : List (BitVec 8)} {mm : Nat} (hs1 : 1 ≤ st.length) (hs : st.length ≤ 15) (hm : mm ≤ 16) (h : sg f 0 st) {m1 : oA} (e1 : m1 = cpB f 0 (updB (pt r 0 (0, 0)) 0 (t8 (nI (8 * mm % 128 * 2)))) (16 - st.length) st.length) : gt (updB m1 (15 - st.length) (m1 (15 - st.length) ^^^ t8 1)) 0 = bgN st (nI mm) := ob_ext fun k hk => by
  unfold bgN
  rw [ob_gt _ _ hk, Nat.zero_add, bg_ob _ _ _ (Nat.le_refl _) hs k hk, ob_aoc _ (by omega) _ hk, show (0 : Int32) = nI 0 from rfl, ob_aoc _ (by omega) _ hk, ob_0 hk, mt16 mm (by omega)]
  have z : ∀ k, k < 16 - st.length → m1 k = if k = 0 then t8 (nI (8 * mm % 128 * 2)) else 0 := fun k hk => by
    rw [e1, cpB_out _ _ _ (by omega)]
    by_cases c : k = 0
    · rw [if_pos c, c, updB_s]
    · rw [if_neg c, updB_n c, pt_at0 _ _ (by omega), ob_0 (by omega)]
  by_cases c : k = 15 - st.length
  · rw [c, updB_s, if_neg (by omega), if_pos rfl, z _ (by omega)]
    by_cases c0 : 15 - st.length = 0
    · rw [if_pos c0, if_pos c0]
      simp
    · rw [if_neg c0, if_neg c0]
  · rw [updB_n c]
    by_cases c2 : k < 16 - st.length
    · rw [z k c2, if_neg (show ¬ (16 - st.length ≤ k ∧ k < 16 - st.length + st.length) by omega), if_neg c]
      by_cases c0 : k = 0
      · rw [if_pos c0, if_pos c0]
        simp
      · rw [if_neg c0, if_neg c0]
    · rw [if_pos (by omega), if_neg c, if_neg (by omega), e1]
      unfold cpB
      rw [if_pos (by omega), Nat.zero_add, sg0 h (by omega)]
      simp
