/-! octets of blocks: the block operations of the class, octet by octet -/
theorem shA : ∀ s, s < 64 → ((nI s).toInt64.toUInt64 &&& Int64.toUInt64 63).toBitVec.toNat % 64 = s := by decide
theorem shB' : ∀ s, s < 64 → ((nI s).toInt64 &&& 63).toBitVec.smod 64 = BitVec.ofNat 64 s := by decide
theorem ju_bv (x : Int64) {s : Nat} (hs : s < 64) : (jlushr x (nI s)).toBitVec = x.toBitVec >>> s := by
  have h := shA s hs
  show (x.toUInt64 >>> _).toBitVec = _
  rw [UInt64.toBitVec_shiftRight]
  show x.toBitVec >>> (_ % 64#64) = _
  rw [BitVec.ushiftRight_eq']
  congr 1
theorem js_bv (x : Int64) {s : Nat} (hs : s < 64) : (jlshl x (nI s)).toBitVec = x.toBitVec <<< s := by
  have h := shB' s hs
  show (x <<< _).toBitVec = _
  rw [Int64.toBitVec_shiftLeft, h, BitVec.shiftLeft_eq', BitVec.toNat_ofNat, Nat.mod_eq_of_lt (by omega)]
theorem oct_sh : ∀ k, k < 16 → 56 - 8 * (nI k &&& 7) = nI (56 - 8 * (k % 8)) := by decide
theorem oct_8 : ∀ k, k < 16 → (8 ≤ nI k ↔ 8 ≤ k) := by decide
/-- octet k of a block -/
def ob (q : bP) (k : Nat) : BitVec 8 := bo q.1 q.2 k
theorem ob_eq (q : bP) {k : Nat} (hk : k < 16) : ob q k = ((if 8 ≤ k then q.2 else q.1).toBitVec >>> (56 - 8 * (k % 8))).setWidth 8 := by
  unfold ob bo vX0_octetAt
  rw [oct_sh k hk, show (if 8 ≤ nI k then q.2 else q.1) = (if 8 ≤ k then q.2 else q.1) by simp only [oct_8 k hk]]
  generalize (if 8 ≤ k then q.2 else q.1) = x
  have e := ju_bv x (s := 56 - 8 * (k % 8)) (by omega)
  generalize jlushr x (nI (56 - 8 * (k % 8))) = y at e ⊢
  rw [← e]
  unfold t8
  rw [Int32.toBitVec_and]
  apply BitVec.eq_of_getLsbD_eq
  intro i hi
  have e2 : (255 : Int32).toBitVec = 255#32 := by decide
  have e3 : ∀ i, i < 8 → (255#32).getLsbD i = true := by decide
  have h32 : i < 32 := by omega
  have h64 : i < 64 := by omega
  simp only [BitVec.getLsbD_setWidth, BitVec.getLsbD_and, Int64.toBitVec_toInt32, e2, e3 i hi, BitVec.getLsbD_signExtend, hi, h32, h64, decide_true, Bool.true_and, Bool.and_true, if_true]
theorem ob_bit (q : bP) {k : Nat} (hk : k < 16) {m : Nat} (hm : m < 8) : (ob q k).getLsbD m = (if 8 ≤ k then q.2 else q.1).toBitVec.getLsbD (56 - 8 * (k % 8) + m) := by
  rw [ob_eq q hk, BitVec.getLsbD_setWidth, BitVec.getLsbD_ushiftRight]
  simp [hm]
theorem ob_ext {p q : bP} (h : ∀ k, k < 16 → ob p k = ob q k) : p = q := by
  obtain ⟨p1, p2⟩ := p
  obtain ⟨q1, q2⟩ := q
  have h1 : p1 = q1 := by
    apply Int64.toBitVec_inj.mp
    apply BitVec.eq_of_getLsbD_eq
    intro i hi
    have a := ob_bit (p1, p2) (k := 7 - i / 8) (by omega) (m := i % 8) (by omega)
    have b := ob_bit (q1, q2) (k := 7 - i / 8) (by omega) (m := i % 8) (by omega)
    rw [h _ (by omega), b] at a
    rw [if_neg (by omega), if_neg (by omega), show 56 - 8 * ((7 - i / 8) % 8) + i % 8 = i by omega] at a
    exact a.symm
  have h2 : p2 = q2 := by
    apply Int64.toBitVec_inj.mp
    apply BitVec.eq_of_getLsbD_eq
    intro i hi
    have a := ob_bit (p1, p2) (k := 15 - i / 8) (by omega) (m := i % 8) (by omega)
    have b := ob_bit (q1, q2) (k := 15 - i / 8) (by omega) (m := i % 8) (by omega)
    rw [h _ (by omega), b] at a
    rw [if_pos (by omega), if_pos (by omega), show 56 - 8 * ((15 - i / 8) % 8) + i % 8 = i by omega] at a
    exact a.symm
  rw [h1, h2]
theorem ob_xb (p q : bP) {k : Nat} (hk : k < 16) : ob (xb p q) k = ob p k ^^^ ob q k := by
  apply BitVec.eq_of_getLsbD_eq
  intro m hm
  rw [BitVec.getLsbD_xor, ob_bit _ hk hm, ob_bit _ hk hm, ob_bit _ hk hm]
  unfold xb
  by_cases h8 : 8 ≤ k
  · simp only [if_pos h8, Int64.toBitVec_xor, BitVec.getLsbD_xor]
  · simp only [if_neg h8, Int64.toBitVec_xor, BitVec.getLsbD_xor]
theorem ob_0 {k : Nat} (hk : k < 16) : ob (0, 0) k = 0 := by
  rw [ob_eq _ hk]
  simp
theorem e8p_bit (L : List (BitVec 8)) (j : Nat) : ∀ t, t ≤ 8 → ∀ i, i < 64 → (e8p L j t).toBitVec.getLsbD i = (if i < 8 * t then (og L (j + (t - 1 - i / 8))).getLsbD (i % 8) else false)
  | 0, _, i, _ => by
    rw [if_neg (by omega)]
    show (0 : Int64).toBitVec.getLsbD i = false
    simp
  | t + 1, ht, i, hi => by
    show (jlshl (e8p L j t) 8 ||| (oc (og L (j + t))).toInt64).toBitVec.getLsbD i = _
    rw [Int64.toBitVec_or, BitVec.getLsbD_or, show (8 : Int32) = nI 8 from rfl, js_bv _ (by omega), BitVec.getLsbD_shiftLeft]
    have e : (oc (og L (j + t))).toInt64.toBitVec.getLsbD i = (if i < 8 then (og L (j + t)).getLsbD i else false) := by
      rw [Int32.toBitVec_toInt64, BitVec.getLsbD_signExtend]
      show (decide (i < 64) && if i < 32 then ((og L (j + t)).setWidth 32).getLsbD i else ((og L (j + t)).setWidth 32).msb) = _
      have em : ((og L (j + t)).setWidth 32).msb = false := by simp [BitVec.msb_setWidth]
      by_cases h8 : i < 8
      · simp [h8, hi, show i < 32 by omega]
      · by_cases h32 : i < 32
        · simp [h8, h32, BitVec.getLsbD_of_ge _ _ (show 8 ≤ i by omega)]
        · simp [h8, h32, em]
    rw [e]
    by_cases h8 : i < 8
    · rw [if_pos h8, if_pos (by omega)]
      simp only [h8, decide_true, Bool.not_true, Bool.and_false, Bool.false_and, Bool.false_or]
      rw [show i / 8 = 0 by omega, show i % 8 = i by omega]
      rfl
    · rw [if_neg h8]
      rw [e8p_bit L j t (by omega) (i - 8) (by omega)]
      simp only [h8, decide_false, Bool.not_false, Bool.and_true, Bool.or_false, hi, decide_true, Bool.true_and]
      by_cases h9 : i < 8 * (t + 1)
      · rw [if_pos (by omega), if_pos h9, show (i - 8) % 8 = i % 8 by omega, show t - 1 - (i - 8) / 8 = t + 1 - 1 - i / 8 by omega]
      · rw [if_neg (by omega), if_neg h9]
theorem e8_bit (L : List (BitVec 8)) (j : Nat) {i : Nat} (hi : i < 64) : (e8 L j).toBitVec.getLsbD i = (og L (j + (7 - i / 8))).getLsbD (i % 8) := by
  unfold e8
  rw [e8p_bit L j 8 (by omega) i hi, if_pos (by omega)]
theorem ob_rd (L : List (BitVec 8)) (j : Nat) {k : Nat} (hk : k < 16) : ob (rd L j) k = og L (j + k) := by
  apply BitVec.eq_of_getLsbD_eq
  intro m hm
  rw [ob_bit _ hk hm]
  unfold rd
  by_cases h8 : 8 ≤ k
  · rw [if_pos h8, e8_bit _ _ (by omega), show (56 - 8 * (k % 8) + m) % 8 = m by omega, show j + 8 + (7 - (56 - 8 * (k % 8) + m) / 8) = j + k by omega]
  · rw [if_neg h8, e8_bit _ _ (by omega), show (56 - 8 * (k % 8) + m) % 8 = m by omega, show j + (7 - (56 - 8 * (k % 8) + m) / 8) = j + k by omega]
theorem og_bt (q : bP) {k m : Nat} (h : k < m) : og (bt q m) k = ob q k := by
  unfold og bt bos ob
  rw [List.getD_eq_getElem?_getD, List.getElem?_map, List.getElem?_range h]
  rfl
/-- the block of sixteen octets -/
abbrev oA : Type := Nat → BitVec 8
def mk (s : oA) : bP := rd ((List.range 16).map s) 0
theorem ob_mk (s : oA) {k : Nat} (hk : k < 16) : ob (mk s) k = s k := by
  unfold mk
  rw [ob_rd _ _ hk, Nat.zero_add]
  unfold og
  rw [List.getD_eq_getElem?_getD, List.getElem?_map, List.getElem?_range hk]
  rfl
def gt (f : oA) (t : Nat) : bP := mk (fun k => f (t + k))
def pt (f : oA) (t : Nat) (q : bP) : oA := fun j => if t ≤ j ∧ j < t + 16 then ob q (j - t) else f j
theorem ob_gt (f : oA) (t : Nat) {k : Nat} (hk : k < 16) : ob (gt f t) k = f (t + k) := ob_mk _ hk
theorem gt_pt (f : oA) (t : Nat) (q : bP) : gt (pt f t q) t = q := ob_ext fun k hk => by
  rw [ob_gt _ _ hk]
  unfold pt
  rw [if_pos (by omega), Nat.add_sub_cancel_left]
theorem gt_eq {f g : oA} {t u : Nat} (h : ∀ k, k < 16 → f (t + k) = g (u + k)) : gt f t = gt g u := ob_ext fun k hk => by
  rw [ob_gt _ _ hk, ob_gt _ _ hk, h k hk]
theorem gt_ne (f : oA) {t u : Nat} (q : bP) (h : u + 16 ≤ t ∨ t + 16 ≤ u) : gt (pt f t q) u = gt f u := gt_eq fun k hk => by
  unfold pt
  rw [if_neg (by omega)]
theorem pt_pt (f : oA) (t : Nat) (p q : bP) : pt (pt f t p) t q = pt f t q := by
  funext j
  unfold pt
  by_cases h : t ≤ j ∧ j < t + 16
  · rw [if_pos h, if_pos h]
  · rw [if_neg h, if_neg h, if_neg h]
theorem pt_gt (f : oA) (t : Nat) : pt f t (gt f t) = f := by
  funext j
  unfold pt
  by_cases h : t ≤ j ∧ j < t + 16
  · rw [if_pos h, ob_gt _ _ (by omega), show t + (j - t) = j by omega]
  · rw [if_neg h]
theorem pt_at (f : oA) (t : Nat) (q : bP) {k : Nat} (hk : k < 16) : pt f t q (t + k) = ob q k := by
  unfold pt
  rw [if_pos (by omega), Nat.add_sub_cancel_left]
theorem pt_at0 (f : oA) (q : bP) {k : Nat} (hk : k < 16) : pt f 0 q k = ob q k := by
  unfold pt
  rw [if_pos (by omega), Nat.sub_zero]
theorem pt_out (f : oA) {t : Nat} (q : bP) {j : Nat} (h : j < t ∨ t + 16 ≤ j) : pt f t q j = f j := by
  unfold pt
  rw [if_neg (by omega)]
/-- the list L lies at t -/
def sg (f : oA) (t : Nat) (L : List (BitVec 8)) : Prop := ∀ j, j < L.length → f (t + j) = og L j
theorem og_app_l {L M : List (BitVec 8)} {j : Nat} (h : j < L.length) : og (L ++ M) j = og L j := by
  unfold og
  rw [List.getD_eq_getElem?_getD, List.getD_eq_getElem?_getD, List.getElem?_append_left h]
theorem og_app_r {L M : List (BitVec 8)} {j : Nat} (h : L.length ≤ j) : og (L ++ M) j = og M (j - L.length) := by
  unfold og
  rw [List.getD_eq_getElem?_getD, List.getD_eq_getElem?_getD, List.getElem?_append_right h]
theorem og_rep (n : Nat) (v : BitVec 8) {j : Nat} (h : j < n) : og (List.replicate n v) j = v := by
  unfold og
  rw [List.getD_eq_getElem?_getD, List.getElem?_replicate, if_pos h]
  rfl
theorem og_take (L : List (BitVec 8)) {n j : Nat} (h : j < n) : og (L.take n) j = og L j := by
  unfold og
  rw [List.getD_eq_getElem?_getD, List.getD_eq_getElem?_getD, List.getElem?_take, if_pos h]
theorem og_ext {L M : List (BitVec 8)} (hl : L.length = M.length) (h : ∀ j, j < L.length → og L j = og M j) : L = M := by
  apply List.ext_getElem hl
  intro j h1 h2
  have := h j h1
  unfold og at this
  rw [List.getD_eq_getElem?_getD, List.getD_eq_getElem?_getD, List.getElem?_eq_getElem h1, List.getElem?_eq_getElem h2] at this
  exact this
theorem sg.nil (f : oA) (t : Nat) : sg f t [] := fun j hj => absurd hj (by simp)
theorem sg.app {f : oA} {t : Nat} {L M : List (BitVec 8)} (h : sg f t L) (k : sg f (t + L.length) M) : sg f t (L ++ M) := fun j hj => by
  by_cases e : j < L.length
  · rw [og_app_l e]
    exact h j e
  · rw [List.length_append] at hj
    rw [og_app_r (by omega), ← k _ (by omega), show t + L.length + (j - L.length) = t + j by omega]
theorem sg.l {f : oA} {t : Nat} {L M : List (BitVec 8)} (h : sg f t (L ++ M)) : sg f t L := fun j hj => by
  rw [h j (by rw [List.length_append]; omega), og_app_l hj]
theorem sg.mv {f g : oA} {t : Nat} {L : List (BitVec 8)} (h : sg f t L) (e : ∀ j, j < L.length → g (t + j) = f (t + j)) : sg g t L := fun j hj => (e j hj).trans (h j hj)
theorem sg.rd {f : oA} {t : Nat} {L : List (BitVec 8)} (h : sg f t L) {j : Nat} (hj : j + 16 ≤ L.length) : rd L j = gt f (t + j) := ob_ext fun k hk => by
  rw [ob_rd _ _ hk, ob_gt _ _ hk, Nat.add_assoc, h _ (by omega)]
theorem sg.pt {f : oA} {t : Nat} {L : List (BitVec 8)} (h : sg f t L) {u : Nat} (q : bP) (hu : u = t + L.length) {M : List (BitVec 8)} (hM : M = bt q 16) : sg (pt f u q) t (L ++ M) := by
  subst hu
  subst hM
  refine sg.app (h.mv fun j hj => pt_out _ _ (by omega)) fun j hj => ?_
  have hb : (bt q 16).length = 16 := by simp [bt, bos]
  rw [hb] at hj
  rw [pt_at _ _ _ hj, og_bt _ hj]
theorem jl_bits (x : Int64) {s : Nat} (hs : s < 64) {i : Nat} (hi : i < 64) : (jlshl x (nI s)).toBitVec.getLsbD i = (decide (s ≤ i) && x.toBitVec.getLsbD (i - s)) := by
  rw [js_bv x hs, BitVec.getLsbD_shiftLeft]
  by_cases h : s ≤ i
  · simp [hi, h, show ¬ i < s by omega]
  · simp [h, show i < s by omega]
theorem ju_bits (x : Int64) {s : Nat} (hs : s < 64) (i : Nat) : (jlushr x (nI s)).toBitVec.getLsbD i = x.toBitVec.getLsbD (s + i) := by
  rw [ju_bv x hs, BitVec.getLsbD_ushiftRight]
theorem top1 (x : Int64) : jlushr x 63 = if x.toBitVec.getLsbD 63 then 1 else 0 := by
  apply Int64.toBitVec_inj.mp
  apply BitVec.eq_of_getLsbD_eq
  intro i hi
  rw [show (63 : Int32) = nI 63 from rfl, ju_bits x (by omega)]
  have e1 : ∀ i, i < 64 → (1 : Int64).toBitVec.getLsbD i = decide (i = 0) := by decide
  by_cases h0 : i = 0
  · subst h0
    cases h : x.toBitVec.getLsbD 63 <;> simp [h]
  · rw [BitVec.getLsbD_of_ge _ _ (by omega)]
    cases h : x.toBitVec.getLsbD 63
    · simp
    · have := e1 i hi
      simp only [if_true]
      rw [this]
      simp [h0]
theorem sh1_8 : ∀ a : BitVec 8, t8 (oc a <<< ((1 : Int32) &&& 31)) = a <<< 1 := by decide +kernel
theorem sh7_8 : ∀ a : BitVec 8, t8 (oc a >>> ((7 : Int32) &&& 31)) = a >>> 7 := by decide +kernel
theorem hi135 : ∀ a : BitVec 8, (oc a >>> ((7 : Int32) &&& 31)) * 135 = oc (if a.getLsbD 7 then 135 else 0) := by decide +kernel
theorem t8_or (x y : Int32) : t8 (x ||| y) = t8 x ||| t8 y := by
  unfold t8
  rw [Int32.toBitVec_or, BitVec.setWidth_or]
theorem t8_0 : t8 0 = 0 := by decide
theorem dbG_oc (f : oA) {k : Nat} (hk : k < 16) : dbG (fun j => oc (f j)) k = oc ((f k <<< (1 : Nat)) ||| (if k = 15 then (0 : BitVec 8) else f (k + 1) >>> (7 : Nat))) := by
  unfold dbG
  rw [oc_t8, t8_or, sh1_8]
  congr 2
  have e : ∀ k, k < 16 → ((15 ≤ nI k) ↔ k = 15) := by decide
  by_cases h : k = 15
  · rw [if_pos h, if_pos ((e k hk).mpr h), t8_0]
  · rw [if_neg h, if_neg (fun q => h ((e k hk).mp q)), sh7_8]
def dbo (f : oA) (k : Nat) : BitVec 8 := ((f k <<< (1 : Nat)) ||| (if k = 15 then (0 : BitVec 8) else f (k + 1) >>> (7 : Nat))) ^^^ (if k = 15 then (if (f 0).getLsbD 7 then (135 : BitVec 8) else 0) else 0)
theorem b135 : ∀ i, i < 64 → ((1 : Int64) * 135).toBitVec.getLsbD i = (decide (i < 8) && (135#8).getLsbD i) := by decide
theorem ob_dbl (q : bP) {k : Nat} (hk : k < 16) : ob (dbl q) k = dbo (ob q) k := by
  apply BitVec.eq_of_getLsbD_eq
  intro m hm
  rw [ob_bit _ hk hm]
  unfold dbo dbl vX0_makeDouble
  rw [top1 q.1]
  simp only [show (1 : Int32) = nI 1 from rfl, show (63 : Int32) = nI 63 from rfl]
  have e0 : (ob q 0).getLsbD 7 = q.1.toBitVec.getLsbD 63 := ob_bit q (by omega) (by omega)
  rw [e0]
  have ek := fun m (hm : m < 8) => ob_bit q hk hm
  simp only [BitVec.getLsbD_xor, BitVec.getLsbD_or, BitVec.getLsbD_shiftLeft]
  by_cases h8 : 8 ≤ k
  · simp only [if_pos h8]
    rw [Int64.toBitVec_xor, BitVec.getLsbD_xor, jl_bits _ (by omega) (by omega)]
    have ek : ∀ m, m < 8 → (ob q k).getLsbD m = q.2.toBitVec.getLsbD (56 - 8 * (k % 8) + m) := fun m hm => by rw [ob_bit q hk hm, if_pos h8]
    by_cases h15 : k = 15
    · subst h15
      simp only [if_true]
      congr 1
      · by_cases hm0 : m = 0
        · subst hm0; simp
        · rw [ek _ (by omega)]
          simp [hm, show 1 ≤ m by omega, show ¬ m < 1 by omega]
      · cases h : q.1.toBitVec.getLsbD 63
        · simp [h]
        · simp only [if_true]
          rw [b135 _ (by omega)]
          simp [hm, show 56 - 8 * (15 % 8) = 0 from rfl]
    · have ek1 : ∀ m, m < 8 → (ob q (k + 1)).getLsbD m = q.2.toBitVec.getLsbD (56 - 8 * ((k + 1) % 8) + m) := fun m hm => by rw [ob_bit q (by omega) hm, if_pos (by omega)]
      simp only [if_neg h15, BitVec.getLsbD_ushiftRight]
      have z : ∀ c : Bool, ((if c = true then (1 : Int64) else 0) * 135).toBitVec.getLsbD (56 - 8 * (k % 8) + m) = false := by
        intro c
        cases c
        · simp
        · simp only [if_true]
          rw [b135 _ (by omega)]
          simp [show ¬ 56 - 8 * (k % 8) + m < 8 by omega]
      rw [z]
      by_cases hm0 : m = 0
      · subst hm0
        rw [ek1 _ (by omega)]
        simp [show 1 ≤ 56 - 8 * (k % 8) by omega, show 56 - 8 * (k % 8) - 1 = 56 - 8 * ((k + 1) % 8) + 7 by omega]
      · rw [ek _ (by omega), BitVec.getLsbD_of_ge _ _ (show 8 ≤ 7 + m by omega)]
        simp [hm, show 1 ≤ 56 - 8 * (k % 8) + m by omega, show ¬ m < 1 by omega, show 56 - 8 * (k % 8) + m - 1 = 56 - 8 * (k % 8) + (m - 1) by omega]
  · have h15 : ¬ k = 15 := by omega
    simp only [if_neg h8, if_neg h15, BitVec.getLsbD_ushiftRight]
    rw [Int64.toBitVec_or, BitVec.getLsbD_or, jl_bits _ (by omega) (by omega), ju_bits _ (by omega)]
    have ek : ∀ m, m < 8 → (ob q k).getLsbD m = q.1.toBitVec.getLsbD (56 - 8 * (k % 8) + m) := fun m hm => by rw [ob_bit q hk hm, if_neg h8]
    by_cases hm0 : m = 0
    · subst hm0
      by_cases h7 : k = 7
      · subst h7
        have e1 : (ob q (7 + 1)).getLsbD (7 + 0) = q.2.toBitVec.getLsbD 63 := ob_bit q (by omega) (by omega)
        rw [e1]
        simp
      · have ek1 : ∀ m, m < 8 → (ob q (k + 1)).getLsbD m = q.1.toBitVec.getLsbD (56 - 8 * ((k + 1) % 8) + m) := fun m hm => by rw [ob_bit q (by omega) hm, if_neg (by omega)]
        rw [ek1 _ (by omega), BitVec.getLsbD_of_ge _ _ (show 64 ≤ 63 + (56 - 8 * (k % 8) + 0) by omega)]
        simp [show 1 ≤ 56 - 8 * (k % 8) by omega, show 56 - 8 * (k % 8) - 1 = 56 - 8 * ((k + 1) % 8) + 7 by omega]
    · rw [ek _ (by omega), BitVec.getLsbD_of_ge _ _ (show 8 ≤ 7 + m by omega), BitVec.getLsbD_of_ge _ _ (show 64 ≤ 63 + (56 - 8 * (k % 8) + m) by omega)]
      simp [hm, show 1 ≤ 56 - 8 * (k % 8) + m by omega, show ¬ m < 1 by omega, show 56 - 8 * (k % 8) + m - 1 = 56 - 8 * (k % 8) + (m - 1) by omega]
theorem dbF_oc (f : oA) (j : Nat) : dbF (fun j => oc (f j)) j = oc (pt f 0 (dbl (gt f 0)) j) := by
  have hob : ∀ k, k < 16 → ob (dbl (gt f 0)) k = dbo f k := fun k hk => by
    rw [ob_dbl _ hk]
    unfold dbo
    have e : ∀ k, k < 16 → ob (gt f 0) k = f k := fun k hk => (ob_gt f 0 hk).trans (by rw [Nat.zero_add])
    by_cases h : k = 15
    · simp only [if_pos h, e k hk, e 0 (by omega)]
    · simp only [if_neg h, e k hk, e (k + 1) (by omega)]
  unfold dbF upd pgF pt
  by_cases h15 : j = 15
  · subst h15
    rw [if_pos rfl, if_pos (by omega), hob _ (by omega), dbG_oc f (by omega), hi135, oc_xor]
    rfl
  · rw [if_neg h15]
    by_cases h16 : j < 16
    · rw [if_pos (by omega), if_pos (by omega), Nat.sub_zero, hob _ h16, dbG_oc f h16]
      unfold dbo
      simp only [if_neg h15]
      congr 1
      simp
    · rw [if_neg (by omega), if_neg (by omega)]
theorem xor_c {a b c d : Bool} (h : a = c) (k : b = d) : (a ^^ b) = (c ^^ d) := by rw [h, k]
theorem nsG_oc (f : oA) {k : Nat} (hk : k < 16) : nsG (fun j => oc (f j)) k = oc ((f k <<< (1 : Nat)) ||| (if k = 0 then (0 : BitVec 8) else f (k - 1) >>> (7 : Nat))) := by
  unfold nsG
  rw [oc_t8, t8_or, sh1_8]
  congr 2
  have e : ∀ k, k < 16 → ((nI k ≤ 0) ↔ k = 0) := by decide
  by_cases h : k = 0
  · rw [if_pos h, if_pos ((e k hk).mpr h), t8_0]
  · rw [if_neg h, if_neg (fun q => h ((e k hk).mp q)), sh7_8]
def dlo (f : oA) (k : Nat) : BitVec 8 := ((f k <<< (1 : Nat)) ||| (if k = 0 then (0 : BitVec 8) else f (k - 1) >>> (7 : Nat))) ^^^ (if k = 0 then (if (f 15).getLsbD 7 then (135 : BitVec 8) else 0) else 0)
theorem m7f : ∀ i, i < 64 → (9187201950435737471 : Int64).toBitVec.getLsbD i = decide (i % 8 ≠ 7) := by decide
theorem m80 : ∀ i, i < 64 → (-9187201950435737472 : Int64).toBitVec.getLsbD i = decide (i % 8 = 7) := by decide
theorem low7 (x : Int64) : (jlushr x 7) &&& 1 = if x.toBitVec.getLsbD 7 then 1 else 0 := by
  apply Int64.toBitVec_inj.mp
  apply BitVec.eq_of_getLsbD_eq
  intro i hi
  rw [Int64.toBitVec_and, BitVec.getLsbD_and, show (7 : Int32) = nI 7 from rfl, ju_bits x (by omega)]
  have e1 : ∀ i, i < 64 → (1 : Int64).toBitVec.getLsbD i = decide (i = 0) := by decide
  rw [e1 i hi]
  by_cases h0 : i = 0
  · subst h0
    cases h : x.toBitVec.getLsbD 7 <;> simp [h]
  · cases h : x.toBitVec.getLsbD 7
    · simp [h0]
    · simp only [if_true]
      rw [e1 i hi]
      simp [h0]
theorem b135s : ∀ i, i < 64 → (jlshl (1 * 135) 56).toBitVec.getLsbD i = (decide (56 ≤ i) && (135#8).getLsbD (i - 56)) := by decide
theorem b1s : ∀ i, i < 64 → (jlshl 1 56).toBitVec.getLsbD i = decide (i = 56) := by decide
theorem half (x : Int64) {k : Nat} (hk : k < 8) {m : Nat} (hm : m < 8) : (jlshl (x &&& (9187201950435737471 : Int64)) 1 ||| jlushr (x &&& (-9187201950435737472 : Int64)) 15).toBitVec.getLsbD (56 - 8 * k + m) = (if m = 0 then (if k = 0 then false else x.toBitVec.getLsbD (56 - 8 * (k - 1) + 7)) else x.toBitVec.getLsbD (56 - 8 * k + (m - 1))) := by
  rw [Int64.toBitVec_or, BitVec.getLsbD_or, show (1 : Int32) = nI 1 from rfl, show (15 : Int32) = nI 15 from rfl, jl_bits _ (by omega) (by omega), ju_bits _ (by omega), Int64.toBitVec_and, Int64.toBitVec_and, BitVec.getLsbD_and, BitVec.getLsbD_and]
  by_cases hm0 : m = 0
  · subst hm0
    rw [if_pos rfl]
    have e1 : (decide (1 ≤ 56 - 8 * k + 0) && (x.toBitVec.getLsbD (56 - 8 * k + 0 - 1) && (9187201950435737471 : Int64).toBitVec.getLsbD (56 - 8 * k + 0 - 1))) = false := by
      by_cases h : k = 7
      · subst h; simp
      · rw [m7f _ (by omega)]
        simp [show (56 - 8 * k - 1) % 8 = 7 by omega]
    rw [e1, Bool.false_or]
    by_cases h0 : k = 0
    · subst h0
      rw [if_pos rfl, BitVec.getLsbD_of_ge _ _ (by omega), Bool.false_and]
    · rw [if_neg h0, m80 _ (by omega), show 15 + (56 - 8 * k + 0) = 56 - 8 * (k - 1) + 7 by omega]
      simp [show (56 - 8 * (k - 1) + 7) % 8 = 7 by omega]
  · rw [if_neg hm0, m7f _ (by omega)]
    have e1 : (x.toBitVec.getLsbD (15 + (56 - 8 * k + m)) && (-9187201950435737472 : Int64).toBitVec.getLsbD (15 + (56 - 8 * k + m))) = false := by
      by_cases h : 15 + (56 - 8 * k + m) < 64
      · rw [m80 _ h]
        simp [show ¬ (15 + (56 - 8 * k + m)) % 8 = 7 by omega]
      · rw [BitVec.getLsbD_of_ge _ _ (by omega), Bool.false_and]
    rw [e1, Bool.or_false, show 56 - 8 * k + m - 1 = 56 - 8 * k + (m - 1) by omega]
    simp [show 1 ≤ 56 - 8 * k + m by omega, show ¬ (56 - 8 * k + (m - 1)) % 8 = 7 by omega]
theorem ob_dblL (q : bP) {k : Nat} (hk : k < 16) : ob (dblL q) k = dlo (ob q) k := by
  apply BitVec.eq_of_getLsbD_eq
  intro m hm
  rw [ob_bit _ hk hm]
  unfold dlo dblL vX0_makeDoubleLowFirst
  rw [low7 q.1, low7 q.2]
  have e15 : (ob q 15).getLsbD 7 = q.2.toBitVec.getLsbD 7 := ob_bit q (by omega) (by omega)
  rw [e15]
  simp only [BitVec.getLsbD_xor, BitVec.getLsbD_or, BitVec.getLsbD_shiftLeft]
  by_cases h8 : 8 ≤ k
  · simp only [if_pos h8, if_neg (show ¬ k = 0 by omega)]
    rw [Int64.toBitVec_xor, BitVec.getLsbD_xor, half _ (show k % 8 < 8 by omega) hm]
    have ek : ∀ m, m < 8 → (ob q k).getLsbD m = q.2.toBitVec.getLsbD (56 - 8 * (k % 8) + m) := fun m hm => by rw [ob_bit q hk hm, if_pos h8]
    rw [BitVec.getLsbD_ushiftRight]
    by_cases hm0 : m = 0
    · subst hm0
      rw [if_pos rfl]
      by_cases hk8 : k = 8
      · subst hk8
        have e7 : (ob q (8 - 1)).getLsbD (7 + 0) = q.1.toBitVec.getLsbD 7 := ob_bit q (by omega) (by omega)
        rw [e7]
        cases h : q.1.toBitVec.getLsbD 7
        · simp
        · simp only [if_true]
          rw [b1s _ (by omega)]
          simp
      · have e7 : (ob q (k - 1)).getLsbD (7 + 0) = q.2.toBitVec.getLsbD (56 - 8 * ((k - 1) % 8) + (7 + 0)) := by rw [ob_bit q (by omega) (by omega), if_pos (by omega)]
        rw [e7, if_neg (by omega), show (k - 1) % 8 = k % 8 - 1 by omega]
        have z : ∀ c : Bool, (jlshl (if c = true then (1 : Int64) else 0) 56).toBitVec.getLsbD (56 - 8 * (k % 8) + 0) = false := by
          intro c
          cases c
          · simp
          · simp only [if_true]
            rw [b1s _ (by omega)]
            simp [show ¬ 56 - 8 * (k % 8) = 56 by omega]
        rw [z]
        simp
    · have z : ∀ c : Bool, (jlshl (if c = true then (1 : Int64) else 0) 56).toBitVec.getLsbD (56 - 8 * (k % 8) + m) = false := by
        intro c
        cases c
        · simp
        · simp only [if_true]
          rw [b1s _ (by omega)]
          simp only [decide_eq_false_iff_not]
          omega
      rw [z, if_neg hm0, ek _ (by omega), BitVec.getLsbD_of_ge _ _ (show 8 ≤ 7 + m by omega)]
      simp [hm, show ¬ m < 1 by omega]
  · simp only [if_neg h8]
    rw [Int64.toBitVec_xor, BitVec.getLsbD_xor, half _ (show k % 8 < 8 by omega) hm]
    have ek : ∀ m, m < 8 → (ob q k).getLsbD m = q.1.toBitVec.getLsbD (56 - 8 * (k % 8) + m) := fun m hm => by rw [ob_bit q hk hm, if_neg h8]
    by_cases hk0 : k = 0
    · subst hk0
      simp only [if_true]
      refine xor_c ?_ ?_
      · by_cases hm0 : m = 0
        · subst hm0; simp
        · rw [if_neg hm0, ek _ (by omega)]
          simp [hm, show ¬ m < 1 by omega]
      · cases h : q.2.toBitVec.getLsbD 7
        · simp
        · simp only [if_true]
          rw [b135s _ (by omega)]
          simp
    · simp only [if_neg hk0]
      have z : ∀ c : Bool, (jlshl ((if c = true then (1 : Int64) else 0) * 135) 56).toBitVec.getLsbD (56 - 8 * (k % 8) + m) = false := by
        intro c
        cases c
        · simp
        · simp only [if_true]
          rw [b135s _ (by omega)]
          simp [show ¬ 56 ≤ 56 - 8 * (k % 8) + m by omega]
      rw [z, BitVec.getLsbD_ushiftRight]
      by_cases hm0 : m = 0
      · subst hm0
        have e7 : (ob q (k - 1)).getLsbD (7 + 0) = q.1.toBitVec.getLsbD (56 - 8 * ((k - 1) % 8) + (7 + 0)) := by rw [ob_bit q (by omega) (by omega), if_neg (by omega)]
        rw [e7, if_pos rfl, if_neg (by omega), show (k - 1) % 8 = k % 8 - 1 by omega]
        simp
      · rw [if_neg hm0, ek _ (by omega), BitVec.getLsbD_of_ge _ _ (show 8 ≤ 7 + m by omega)]
        simp [hm, show ¬ m < 1 by omega]
theorem nsF_oc (f : oA) (j : Nat) : nsF (fun j => oc (f j)) j = oc (pt f 0 (dblL (gt f 0)) j) := by
  have hob : ∀ k, k < 16 → ob (dblL (gt f 0)) k = dlo f k := fun k hk => by
    rw [ob_dblL _ hk]
    unfold dlo
    have e : ∀ k, k < 16 → ob (gt f 0) k = f k := fun k hk => (ob_gt f 0 hk).trans (by rw [Nat.zero_add])
    by_cases h : k = 0
    · simp only [if_pos h, e k hk, e 15 (by omega)]
    · simp only [if_neg h, e k hk, e (k - 1) (by omega)]
  unfold nsF upd sdF pt
  by_cases h0 : j = 0
  · subst h0
    rw [if_pos rfl, if_pos (by omega), hob _ (by omega), nsG_oc f (by omega), hi135, oc_xor]
    rfl
  · rw [if_neg h0]
    by_cases h16 : j < 16
    · rw [if_pos (by omega), if_pos (by omega), Nat.sub_zero, hob _ h16, nsG_oc f h16]
      unfold dlo
      simp only [if_neg h0]
      congr 1
      simp
    · rw [if_neg (by omega), if_neg (by omega)]
theorem a255 (v : Int32) (j : Nat) : (v.toInt64 &&& 255).toBitVec.getLsbD j = (t8 v).getLsbD j := by
  rw [Int64.toBitVec_and, BitVec.getLsbD_and, Int32.toBitVec_toInt64, BitVec.getLsbD_signExtend]
  unfold t8
  rw [BitVec.getLsbD_setWidth]
  have e1 : ∀ i, i < 64 → (255 : Int64).toBitVec.getLsbD i = decide (i < 8) := by decide
  by_cases h : j < 64
  · rw [e1 j h]
    by_cases h8 : j < 8
    · simp [h, h8, show j < 32 by omega]
    · simp [h8]
  · simp [h, show ¬ j < 8 by omega]
theorem ob_aoc (q : bP) {i : Nat} (hi : i < 16) (v : Int32) {k : Nat} (hk : k < 16) : ob (aoc q (nI i) v) k = if k = i then ob q k ^^^ t8 v else ob q k := by
  apply BitVec.eq_of_getLsbD_eq
  intro m hm
  rw [ob_bit _ hk hm]
  unfold aoc vX0_addOctet
  rw [oct_sh i hi, show (if 8 ≤ nI i then (q.1, q.2 ^^^ jlshl (v.toInt64 &&& 255) (nI (56 - 8 * (i % 8)))) else (q.1 ^^^ jlshl (v.toInt64 &&& 255) (nI (56 - 8 * (i % 8))), q.2)) = (if 8 ≤ i then (q.1, q.2 ^^^ jlshl (v.toInt64 &&& 255) (nI (56 - 8 * (i % 8)))) else (q.1 ^^^ jlshl (v.toInt64 &&& 255) (nI (56 - 8 * (i % 8))), q.2)) by simp only [oct_8 i hi]]
  have eb : ∀ b, b < 64 → (jlshl (v.toInt64 &&& 255) (nI (56 - 8 * (i % 8)))).toBitVec.getLsbD b = (decide (56 - 8 * (i % 8) ≤ b) && (t8 v).getLsbD (b - (56 - 8 * (i % 8)))) := fun b hb => by rw [jl_bits _ (by omega) hb, a255]
  have ek := ob_bit q hk hm
  by_cases hki : k = i
  · subst hki
    rw [if_pos rfl, BitVec.getLsbD_xor, ek]
    by_cases h8 : 8 ≤ k
    · simp only [if_pos h8, Int64.toBitVec_xor, BitVec.getLsbD_xor]
      rw [eb _ (by omega)]
      simp
    · simp only [if_neg h8, Int64.toBitVec_xor, BitVec.getLsbD_xor]
      rw [eb _ (by omega)]
      simp
  · rw [if_neg hki, ek]
    by_cases h8 : 8 ≤ k
    · by_cases i8 : 8 ≤ i
      · simp only [if_pos h8, if_pos i8, Int64.toBitVec_xor, BitVec.getLsbD_xor]
        rw [eb _ (by omega)]
        by_cases hh : 56 - 8 * (i % 8) ≤ 56 - 8 * (k % 8) + m
        · rw [BitVec.getLsbD_of_ge _ _ (show 8 ≤ 56 - 8 * (k % 8) + m - (56 - 8 * (i % 8)) by omega)]
          simp
        · simp [hh]
      · simp only [if_pos h8, if_neg i8]
    · by_cases i8 : 8 ≤ i
      · simp only [if_neg h8, if_pos i8]
      · simp only [if_neg h8, if_neg i8, Int64.toBitVec_xor, BitVec.getLsbD_xor]
        rw [eb _ (by omega)]
        by_cases hh : 56 - 8 * (i % 8) ≤ 56 - 8 * (k % 8) + m
        · rw [BitVec.getLsbD_of_ge _ _ (show 8 ≤ 56 - 8 * (k % 8) + m - (56 - 8 * (i % 8)) by omega)]
          simp
        · simp [hh]
theorem fo_a : ∀ m, m < 17 → ∀ b, b < 64 → (vX0_firstOctets (nI m)).toBitVec.getLsbD b = decide (64 ≤ b + 8 * m) := by decide +kernel
theorem fo_b : ∀ m, m < 17 → ∀ b, b < 64 → (vX0_firstOctets (nI m - 8)).toBitVec.getLsbD b = decide (128 ≤ b + 8 * m) := by decide +kernel
theorem ob_kf (q : bP) {i : Nat} (hi : i ≤ 16) {k : Nat} (hk : k < 16) : ob (kf q (nI i)) k = if k < i then ob q k else 0 := by
  apply BitVec.eq_of_getLsbD_eq
  intro m hm
  rw [ob_bit _ hk hm]
  unfold kf vX0_keepFirst
  have e : (if k < i then ob q k else 0).getLsbD m = (decide (k < i) && (ob q k).getLsbD m) := by
    by_cases h : k < i <;> simp [h]
  rw [e, ob_bit _ hk hm]
  by_cases h8 : 8 ≤ k
  · simp only [if_pos h8, Int64.toBitVec_and, BitVec.getLsbD_and]
    rw [fo_b i (by omega) _ (by omega), Bool.and_comm, show decide (128 ≤ 56 - 8 * (k % 8) + m + 8 * i) = decide (k < i) from decide_eq_decide.mpr (by omega)]
  · simp only [if_neg h8, Int64.toBitVec_and, BitVec.getLsbD_and]
    rw [fo_a i (by omega) _ (by omega), Bool.and_comm, show decide (64 ≤ 56 - 8 * (k % 8) + m + 8 * i) = decide (k < i) from decide_eq_decide.mpr (by omega)]
theorem ob_df (q : bP) {i : Nat} (hi : i ≤ 16) {k : Nat} (hk : k < 16) : ob (df q (nI i)) k = if k < i then 0 else ob q k := by
  apply BitVec.eq_of_getLsbD_eq
  intro m hm
  rw [ob_bit _ hk hm]
  unfold df vX0_dropFirst
  have e : (if k < i then 0 else ob q k).getLsbD m = (!decide (k < i) && (ob q k).getLsbD m) := by
    by_cases h : k < i <;> simp [h]
  have e1 : ∀ i, i < 64 → (-1 : Int64).toBitVec.getLsbD i = true := by decide
  rw [e, ob_bit _ hk hm]
  by_cases h8 : 8 ≤ k
  · simp only [if_pos h8, Int64.toBitVec_and, BitVec.getLsbD_and, Int64.toBitVec_xor, BitVec.getLsbD_xor]
    rw [fo_b i (by omega) _ (by omega), e1 _ (by omega), Bool.and_comm, show decide (128 ≤ 56 - 8 * (k % 8) + m + 8 * i) = decide (k < i) from decide_eq_decide.mpr (by omega), Bool.xor_true]
  · simp only [if_neg h8, Int64.toBitVec_and, BitVec.getLsbD_and, Int64.toBitVec_xor, BitVec.getLsbD_xor]
    rw [fo_a i (by omega) _ (by omega), e1 _ (by omega), Bool.and_comm, show decide (64 ≤ 56 - 8 * (k % 8) + m + 8 * i) = decide (k < i) from decide_eq_decide.mpr (by omega), Bool.xor_true]
theorem oc64 (b : BitVec 8) {i : Nat} (hi : i < 64) : (oc b).toInt64.toBitVec.getLsbD i = b.getLsbD i := by
  rw [Int32.toBitVec_toInt64, BitVec.getLsbD_signExtend]
  show (decide (i < 64) && if i < 32 then (b.setWidth 32).getLsbD i else (b.setWidth 32).msb) = _
  have em : (b.setWidth 32).msb = false := by simp [BitVec.msb_setWidth]
  by_cases h32 : i < 32
  · simp [hi, h32]
  · simp [h32, em, BitVec.getLsbD_of_ge _ _ (show 8 ≤ i by omega)]
theorem ob_bci (q : bP) (v : Int32) {k : Nat} (hk : k < 16) : ob (bci q v) k = if k = 15 then t8 v else ob q (k + 1) := by
  apply BitVec.eq_of_getLsbD_eq
  intro m hm
  rw [ob_bit _ hk hm]
  unfold bci vX0_comeIn
  rw [oc_t8]
  simp only [show (8 : Int32) = nI 8 from rfl, show (56 : Int32) = nI 56 from rfl]
  by_cases h8 : 8 ≤ k
  · simp only [if_pos h8]
    rw [Int64.toBitVec_or, BitVec.getLsbD_or, jl_bits _ (by omega) (by omega), oc64 _ (by omega)]
    by_cases h15 : k = 15
    · subst h15
      rw [if_pos rfl]
      simp [show ¬ 8 ≤ m by omega]
    · rw [if_neg h15, ob_bit q (by omega) hm, if_pos (by omega), BitVec.getLsbD_of_ge _ _ (show 8 ≤ 56 - 8 * (k % 8) + m by omega)]
      simp [show 8 ≤ 56 - 8 * (k % 8) + m by omega, show 56 - 8 * (k % 8) + m - 8 = 56 - 8 * ((k + 1) % 8) + m by omega]
  · simp only [if_neg h8, if_neg (show ¬ k = 15 by omega)]
    rw [Int64.toBitVec_or, BitVec.getLsbD_or, jl_bits _ (by omega) (by omega), ju_bits _ (by omega)]
    by_cases h7 : k = 7
    · subst h7
      rw [ob_bit q (by omega) hm, if_pos (by omega)]
      simp [show ¬ 8 ≤ m by omega]
    · rw [ob_bit q (by omega) hm, if_neg (by omega), BitVec.getLsbD_of_ge _ _ (show 64 ≤ 56 + (56 - 8 * (k % 8) + m) by omega)]
      simp [show 8 ≤ 56 - 8 * (k % 8) + m by omega, show 56 - 8 * (k % 8) + m - 8 = 56 - 8 * ((k + 1) % 8) + m by omega]
theorem sh8k : ∀ k, k < 4 → (((8 : Int32) * nI k) &&& 31).toBitVec.smod 32 = BitVec.ofNat 32 (8 * k) := by decide
theorem anG_oc (v : Int32) (k : Nat) : anG v k = oc (t8 (v >>> ((8 * nI k) &&& 31))) := oc_t8 _
theorem ob_num {n : Nat} (hn : n < 2 ^ 31) {k : Nat} (hk : k < 16) : ob ((nI n).toInt64, 0) k = if 4 ≤ k ∧ k < 8 then t8 (nI n >>> ((8 * nI (7 - k)) &&& 31)) else 0 := by
  have hmsb : (nI n).toBitVec.msb = false := by
    rw [BitVec.msb_eq_false_iff_two_mul_lt]
    show 2 * (BitVec.ofNat 32 n).toNat < 2 ^ 32
    rw [BitVec.toNat_ofNat, Nat.mod_eq_of_lt (by omega)]
    omega
  apply BitVec.eq_of_getLsbD_eq
  intro m hm
  rw [ob_bit _ hk hm]
  by_cases h8 : 8 ≤ k
  · rw [if_pos h8, if_neg (by omega)]
    simp
  · rw [if_neg h8, Int32.toBitVec_toInt64, BitVec.getLsbD_signExtend]
    by_cases h4 : 4 ≤ k
    · rw [if_pos (show 4 ≤ k ∧ k < 8 from ⟨h4, by omega⟩), if_pos (show 56 - 8 * (k % 8) + m < 32 by omega)]
      unfold t8
      rw [BitVec.getLsbD_setWidth, Int32.toBitVec_shiftRight, sh8k _ (by omega), BitVec.sshiftRight_eq', BitVec.toNat_ofNat, Nat.mod_eq_of_lt (show 8 * (7 - k) < 2 ^ 32 by omega), BitVec.getLsbD_sshiftRight]
      by_cases hh : 8 * (7 - k) + m < 32
      · rw [show 56 - 8 * (k % 8) + m = 8 * (7 - k) + m by omega]
        simp [hm, hh, show 8 * (7 - k) + m < 64 by omega, show ¬ 32 ≤ m by omega]
      · omega
    · rw [if_neg (show ¬ (4 ≤ k ∧ k < 8) by omega), if_neg (show ¬ 56 - 8 * (k % 8) + m < 32 by omega), hmsb]
      simp
theorem anF_oc (f : oA) {n : Nat} (hn : n < 2 ^ 31) (j : Nat) : anF (nI n) (fun j => oc (f j)) 4 j = oc (pt f 0 (xb (gt f 0) ((nI n).toInt64, 0)) j) := by
  unfold anF pt
  by_cases h16 : j < 16
  · rw [if_pos (show 0 ≤ j ∧ j < 0 + 16 by omega), Nat.sub_zero, ob_xb _ _ h16, ob_gt _ _ h16, ob_num hn h16, Nat.zero_add]
    by_cases h : 4 ≤ j ∧ j < 8
    · rw [if_pos h, if_pos (by omega), anG_oc, oc_xor]
    · rw [if_neg h, if_neg (by omega)]
      simp
  · rw [if_neg (by omega), if_neg (by omega)]
def updB (f : oA) (k : Nat) (b : BitVec 8) : oA := fun x => if x = k then b else f x
theorem upd_oc (f : oA) (k : Nat) (b : BitVec 8) : upd (fun j => oc (f j)) k (oc b) = fun j => oc (updB f k b j) := by
  funext x
  unfold upd updB
  by_cases h : x = k
  · rw [if_pos h, if_pos h]
  · rw [if_neg h, if_neg h]
theorem updB_s (f : oA) (k : Nat) (b : BitVec 8) : updB f k b k = b := if_pos rfl
theorem updB_n {f : oA} {k x : Nat} {b : BitVec 8} (h : x ≠ k) : updB f k b x = f x := if_neg h
def omB (t : Nat) : Nat → oA → oA
  | 0, f => f
  | k + 1, f => if k < t then f else if f k + 1 = 0 then omB t k (updB f k 0) else updB f k (f k + 1)
theorem oc_p1 : ∀ a : BitVec 8, (oc a + 1) &&& 255 = oc (a + 1) := by decide +kernel
theorem oc_z : ∀ a : BitVec 8, (oc a = 0) ↔ a = 0 := by decide +kernel
theorem omF_oc (t : Nat) : ∀ (k : Nat) (f : oA), omF t k (fun j => oc (f j)) = fun j => oc (omB t k f j)
  | 0, f => rfl
  | k + 1, f => by
    unfold omF omB
    simp only [oc_p1, oc_z, upd_oc]
    by_cases h : k < t
    · rw [if_pos h, if_pos h]
    · rw [if_neg h, if_neg h]
      by_cases h2 : f k + 1 = 0
      · rw [if_pos h2, if_pos h2, omF_oc t k, h2]
      · rw [if_neg h2, if_neg h2]
/-- k octets from t on as a number -/
def nv (f : oA) (t : Nat) : Nat → Nat
  | 0 => 0
  | k + 1 => 256 * nv f t k + (f (t + k)).toNat
theorem nv_lt (f : oA) (t : Nat) : ∀ k, nv f t k < 256 ^ k
  | 0 => by simp [nv]
  | k + 1 => by
    have h := nv_lt f t k
    have := (f (t + k)).isLt
    rw [Nat.pow_succ]
    show 256 * nv f t k + (f (t + k)).toNat < _
    omega
theorem nv_eq {f g : oA} {t : Nat} : ∀ k, (∀ j, j < k → f (t + j) = g (t + j)) → nv f t k = nv g t k
  | 0, _ => rfl
  | k + 1, h => by
    show 256 * nv f t k + (f (t + k)).toNat = 256 * nv g t k + (g (t + k)).toNat
    rw [nv_eq k (fun j hj => h j (by omega)), h k (by omega)]
theorem nv_app (f : oA) (t a : Nat) : ∀ k, nv f t (a + k) = nv f t a * 256 ^ k + nv f (t + a) k
  | 0 => by simp [nv]
  | k + 1 => by
    show 256 * nv f t (a + k) + (f (t + (a + k))).toNat = _ + (256 * nv f (t + a) k + (f (t + a + k)).toNat)
    rw [nv_app f t a k, Nat.pow_succ, Nat.add_assoc t a k, Nat.mul_add, ← Nat.mul_assoc, Nat.mul_comm 256 (nv f t a), Nat.mul_comm (256 ^ k) 256, ← Nat.mul_assoc]
    omega
theorem omB_hi (t : Nat) : ∀ (k : Nat) (f : oA) (j : Nat), k ≤ j → omB t k f j = f j
  | 0, f, j, _ => rfl
  | k + 1, f, j, h => by
    unfold omB
    by_cases h1 : k < t
    · rw [if_pos h1]
    · rw [if_neg h1]
      by_cases h2 : f k + 1 = 0
      · rw [if_pos h2, omB_hi t k _ j (by omega), updB_n (by omega)]
      · rw [if_neg h2, updB_n (by omega)]
theorem omB_lo (t : Nat) : ∀ (k : Nat) (f : oA) (j : Nat), j < t → omB t k f j = f j
  | 0, f, j, _ => rfl
  | k + 1, f, j, h => by
    unfold omB
    by_cases h1 : k < t
    · rw [if_pos h1]
    · rw [if_neg h1]
      by_cases h2 : f k + 1 = 0
      · rw [if_pos h2, omB_lo t k _ j h, updB_n (by omega)]
      · rw [if_neg h2, updB_n (by omega)]
theorem nv_om (t : Nat) : ∀ (k : Nat) (f : oA), nv (omB t (t + k) f) t k = (nv f t k + 1) % 256 ^ k
  | 0, f => by simp [nv, Nat.mod_one]
  | k + 1, f => by
    have hl := nv_lt f t k
    have ha := (f (t + k)).isLt
    show 256 * nv (omB t (t + k + 1) f) t k + (omB t (t + k + 1) f (t + k)).toNat = (256 * nv f t k + (f (t + k)).toNat + 1) % 256 ^ (k + 1)
    have e : omB t (t + k + 1) f = if f (t + k) + 1 = 0 then omB t (t + k) (updB f (t + k) 0) else updB f (t + k) (f (t + k) + 1) := by
      show (if t + k < t then f else _) = _
      rw [if_neg (by omega)]
    rw [e]
    have hp : (f (t + k) + 1).toNat = ((f (t + k)).toNat + 1) % 256 := by
      rw [BitVec.toNat_add]
      rfl
    by_cases h2 : f (t + k) + 1 = 0
    · have h255 : (f (t + k)).toNat = 255 := by
        rw [h2] at hp
        have : (0 : BitVec 8).toNat = 0 := rfl
        omega
      rw [if_pos h2, nv_om t k, omB_hi _ _ _ _ (Nat.le_refl _), updB_s, nv_eq (g := f) k (fun j hj => updB_n (by omega)), h255, Nat.pow_succ, Nat.mul_comm (256 ^ k) 256, show 256 * nv f t k + 255 + 1 = 256 * (nv f t k + 1) by omega, Nat.mul_mod_mul_left]
      rfl
    · have h255 : (f (t + k)).toNat ≠ 255 := fun q => h2 (by
        apply BitVec.eq_of_toNat_eq
        rw [hp, q]
        rfl)
      rw [if_neg h2, updB_s, nv_eq (g := f) k (fun j hj => updB_n (by omega)), hp, Nat.mod_eq_of_lt (show (f (t + k)).toNat + 1 < 256 by omega), Nat.mod_eq_of_lt (by rw [Nat.pow_succ]; omega)]
      omega
theorem nv_e8p (L : List (BitVec 8)) (j : Nat) : ∀ t, t ≤ 8 → (e8p L j t).toBitVec.toNat = nv (og L) j t
  | 0, _ => rfl
  | t + 1, ht => by
    have ih := nv_e8p L j t (by omega)
    have hl := nv_lt (og L) j t
    have hp : 256 ^ t ≤ 256 ^ 7 := Nat.pow_le_pow_right (by decide) (by omega)
    have h7 : (256 : Nat) ^ 7 = 2 ^ 56 := by decide
    have ho := (og L (j + t)).isLt
    show (jlshl (e8p L j t) 8 ||| (oc (og L (j + t))).toInt64).toBitVec.toNat = 256 * nv (og L) j t + (og L (j + t)).toNat
    have eo : (oc (og L (j + t))).toInt64.toBitVec = (og L (j + t)).setWidth 64 := by
      apply BitVec.eq_of_getLsbD_eq
      intro i hi
      rw [oc64 _ hi, BitVec.getLsbD_setWidth]
      simp [hi]
    rw [Int64.toBitVec_or, show (8 : Int32) = nI 8 from rfl, js_bv _ (by omega), eo, BitVec.toNat_or, BitVec.toNat_shiftLeft, BitVec.toNat_setWidth, ih, Nat.mod_eq_of_lt (show (og L (j + t)).toNat < 2 ^ 64 by omega), Nat.mod_eq_of_lt (by rw [Nat.shiftLeft_eq]; omega), ← Nat.shiftLeft_add_eq_or_of_lt (by omega), Nat.shiftLeft_eq]
    omega
theorem gt_nv (f : oA) (t : Nat) : (gt f t).1.toBitVec.toNat = nv f t 8 ∧ (gt f t).2.toBitVec.toNat = nv f (t + 8) 8 := by
  have e : ∀ k, k < 16 → og ((List.range 16).map (fun k => f (t + k))) k = f (t + k) := fun k hk => by
    unfold og
    rw [List.getD_eq_getElem?_getD, List.getElem?_map, List.getElem?_range hk]
    rfl
  have sh : ∀ (g h : oA) (a b k : Nat), (∀ j, j < k → g (a + j) = h (b + j)) → nv g a k = nv h b k := by
    intro g h a b k
    induction k with
    | zero => intro _; rfl
    | succ k ih =>
      intro q
      show 256 * nv g a k + (g (a + k)).toNat = 256 * nv h b k + (h (b + k)).toNat
      rw [ih (fun j hj => q j (by omega)), q k (by omega)]
  constructor
  · show (e8p _ 0 8).toBitVec.toNat = _
    rw [nv_e8p _ _ _ (by omega)]
    exact sh _ _ _ _ _ (fun j hj => by rw [Nat.zero_add, e j (by omega)])
  · show (e8p _ (0 + 8) 8).toBitVec.toNat = _
    rw [nv_e8p _ _ _ (by omega)]
    exact sh _ _ _ _ _ (fun j hj => by rw [e _ (by omega), Nat.add_assoc]; congr 1; omega)
theorem carry1 (y : Int64) : (jlushr (y ||| (-y)) 63) ^^^ 1 = if y.toBitVec.toNat = 0 then 1 else 0 := by
  have hm : (y ||| (-y)).toBitVec.getLsbD 63 = !decide (y.toBitVec.toNat = 0) := by
    rw [Int64.toBitVec_or, BitVec.getLsbD_or, Int64.toBitVec_neg]
    have h1 : ∀ x : BitVec 64, x.getLsbD 63 = decide (2 ^ 63 ≤ x.toNat) := fun x => by
      have := BitVec.msb_eq_decide x
      rw [BitVec.msb_eq_getLsbD_last] at this
      exact this
    rw [h1, h1, BitVec.toNat_neg]
    have := y.toBitVec.isLt
    by_cases h0 : y.toBitVec.toNat = 0
    · simp [h0]
    · simp only [h0, decide_false, Bool.not_false]
      rw [Nat.mod_eq_of_lt (by omega)]
      by_cases h2 : 2 ^ 63 ≤ y.toBitVec.toNat
      · simp [h2]
      · simp [h2]; omega
  rw [top1, hm]
  by_cases h0 : y.toBitVec.toNat = 0
  · simp only [h0, decide_true, Bool.not_true, if_true]; rfl
  · simp only [h0, decide_false, Bool.not_false, if_true, if_false]; rfl
theorem one1_nv (f g : oA) (h : nv g 0 16 = (nv f 0 16 + 1) % 2 ^ 128) : gt g 0 = one1 (gt f 0) := by
  obtain ⟨f1, f2⟩ := gt_nv f 0
  obtain ⟨g1, g2⟩ := gt_nv g 0
  rw [show (16 : Nat) = 8 + 8 from rfl, nv_app f 0 8 8, nv_app g 0 8 8, ← f1, ← f2, ← g1, ← g2] at h
  generalize gt f 0 = q at h
  generalize gt g 0 = r at h
  obtain ⟨a, b⟩ := q
  obtain ⟨c, d⟩ := r
  unfold one1 vX0_addOne
  show (c, d) = (a + _, b + 1)
  rw [carry1]
  simp only at h
  have ha := a.toBitVec.isLt
  have hb := b.toBitVec.isLt
  have hc := c.toBitVec.isLt
  have hd := d.toBitVec.isLt
  have e8 : (256 : Nat) ^ 8 = 2 ^ 64 := by decide
  rw [e8] at h
  have eb : (b + 1).toBitVec.toNat = (b.toBitVec.toNat + 1) % 2 ^ 64 := by
    rw [Int64.toBitVec_add, BitVec.toNat_add]
    rfl
  have ea : (a + 1).toBitVec.toNat = (a.toBitVec.toNat + 1) % 2 ^ 64 := by
    rw [Int64.toBitVec_add, BitVec.toNat_add]
    rfl
  have hd1 : d = b + 1 := by
    apply Int64.toBitVec_inj.mp
    apply BitVec.eq_of_toNat_eq
    rw [eb]
    omega
  rw [hd1]
  congr 1
  by_cases h0 : (b + 1).toBitVec.toNat = 0
  · rw [if_pos h0]
    apply Int64.toBitVec_inj.mp
    apply BitVec.eq_of_toNat_eq
    rw [ea]
    omega
  · rw [if_neg h0, Int64.add_zero]
    apply Int64.toBitVec_inj.mp
    apply BitVec.eq_of_toNat_eq
    omega
theorem om_one1 (f : oA) {t : Nat} (ht : t ≤ 16) (h : t = 0 ∨ nv f t (16 - t) + 1 < 256 ^ (16 - t)) : gt (omB t 16 f) 0 = one1 (gt f 0) := by
  apply one1_nv
  have hn := nv_om t (16 - t) f
  rw [show t + (16 - t) = 16 by omega] at hn
  have e16 : (256 : Nat) ^ 16 = 2 ^ 128 := by decide
  rcases h with rfl | h
  · rw [hn, ← e16]
  · rw [Nat.mod_eq_of_lt h] at hn
    have a := nv_app (omB t 16 f) 0 t (16 - t)
    have b := nv_app f 0 t (16 - t)
    rw [Nat.zero_add, show t + (16 - t) = 16 by omega] at a b
    have hl := nv_lt (omB t 16 f) 0 16
    rw [hn, nv_eq (g := f) t (fun j hj => omB_lo _ _ _ _ (by omega))] at a
    rw [e16] at hl
    rw [Nat.mod_eq_of_lt (by omega)]
    omega
theorem om_one4 (f : oA) : gt (omB 12 16 f) 0 = one4 (gt f 0) := by
  have hn := nv_om 12 4 f
  obtain ⟨f1, f2⟩ := gt_nv f 0
  obtain ⟨g1, g2⟩ := gt_nv (omB 12 16 f) 0
  rw [nv_eq (g := f) 8 (fun j hj => omB_lo _ _ _ _ (by omega)), ← f1] at g1
  have ef := nv_app f 8 4 4
  have eg := nv_app (omB 12 16 f) 8 4 4
  rw [nv_eq (g := f) 4 (fun j hj => omB_lo _ _ _ _ (by omega))] at eg
  have l1 := nv_lt f 12 4
  have l2 := nv_lt f 8 4
  rw [show 8 + 4 = 12 from rfl] at ef eg
  rw [show 12 + 4 = 16 from rfl] at hn
  rw [hn] at eg
  rw [show 0 + 8 = 8 from rfl] at f2 g2
  rw [show 4 + 4 = 8 from rfl] at ef eg
  rw [ef] at f2
  rw [eg] at g2
  generalize gt f 0 = q at g1 f1 f2
  generalize gt (omB 12 16 f) 0 = r at g1 g2
  obtain ⟨a, b⟩ := q
  obtain ⟨c, d⟩ := r
  simp only at g1 g2 f1 f2
  have e4 : (256 : Nat) ^ 4 = 2 ^ 32 := by decide
  rw [e4] at f2 g2 l1 l2
  unfold one4 vX0_addOneToLastFour
  have h1 : c = a := Int64.toBitVec_inj.mp (BitVec.eq_of_toNat_eq g1)
  rw [h1]
  show (a, d) = (a, _)
  congr 1
  have eb : (b + 1).toBitVec.toNat = (b.toBitVec.toNat + 1) % 2 ^ 64 := by
    rw [Int64.toBitVec_add, BitVec.toNat_add]
    rfl
  have k1 : ∀ i, i < 64 → (-4294967296 : Int64).toBitVec.getLsbD i = decide (32 ≤ i) := by decide
  have k2 : ∀ i, i < 64 → (4294967295 : Int64).toBitVec.getLsbD i = decide (i < 32) := by decide
  have lo : ∀ x : BitVec 64, ∀ i, i < 32 → x.getLsbD i = (BitVec.ofNat 32 x.toNat).getLsbD i := fun x i hi => by
    rw [BitVec.getLsbD_ofNat]
    simp [hi, BitVec.getLsbD]
  have hi' : ∀ x : BitVec 64, ∀ i, 32 ≤ i → x.getLsbD i = (x.toNat / 2 ^ 32).testBit (i - 32) := fun x i hi => by
    rw [← Nat.shiftRight_eq_div_pow, Nat.testBit_shiftRight, show 32 + (i - 32) = i by omega]
    rfl
  apply Int64.toBitVec_inj.mp
  apply BitVec.eq_of_getLsbD_eq
  intro i hi
  rw [Int64.toBitVec_or, Int64.toBitVec_and, Int64.toBitVec_and, BitVec.getLsbD_or, BitVec.getLsbD_and, BitVec.getLsbD_and, k1 i hi, k2 i hi]
  by_cases h32 : i < 32
  · simp only [h32, show ¬ 32 ≤ i by omega, decide_true, decide_false, Bool.and_false, Bool.and_true, Bool.false_or]
    rw [lo _ i h32, lo _ i h32]
    congr 1
    apply BitVec.eq_of_toNat_eq
    rw [BitVec.toNat_ofNat, BitVec.toNat_ofNat, eb, g2, f2]
    omega
  · simp only [h32, show 32 ≤ i by omega, decide_true, decide_false, Bool.and_false, Bool.and_true, Bool.or_false]
    rw [hi' _ i (by omega), hi' _ i (by omega), g2, f2]
    congr 1
    omega
