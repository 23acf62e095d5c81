/-! octets: an octet as an int, rows as lists of octets -/
def oc (b : BitVec 8) : Int32 := Int32.ofBitVec (b.setWidth 32)
def t8 (v : Int32) : BitVec 8 := v.toBitVec.setWidth 8
theorem oc_tb (b : BitVec 8) : (oc b).toBitVec = b.setWidth 32 := rfl
theorem oc_inj {a b : BitVec 8} (h : oc a = oc b) : a = b := by
  have h1 := congrArg (fun x : Int32 => x.toBitVec.toNat) h
  simp only [oc_tb, BitVec.toNat_setWidth] at h1
  apply BitVec.eq_of_toNat_eq
  have := a.isLt
  have := b.isLt
  omega
theorem oc_t8 (v : Int32) : v &&& 255 = oc (t8 v) := by
  apply Int32.toBitVec_inj.mp
  rw [Int32.toBitVec_and, oc_tb]
  apply BitVec.eq_of_toNat_eq
  have e : (255 : Int32).toBitVec.toNat = 2 ^ 8 - 1 := by decide
  rw [BitVec.toNat_and, e, Nat.and_two_pow_sub_one_eq_mod]
  simp only [t8, BitVec.toNat_setWidth]
  omega
theorem t8_oc (b : BitVec 8) : t8 (oc b) = b := by
  unfold t8
  rw [oc_tb]
  apply BitVec.eq_of_toNat_eq
  simp only [BitVec.toNat_setWidth]
  have := b.isLt
  omega
theorem oc_xor (a b : BitVec 8) : oc a ^^^ oc b = oc (a ^^^ b) := by
  apply Int32.toBitVec_inj.mp
  rw [Int32.toBitVec_xor, oc_tb, oc_tb, oc_tb]
  apply BitVec.eq_of_getLsbD_eq
  intro i hi
  simp only [BitVec.getLsbD_xor, BitVec.getLsbD_setWidth]
  cases decide (i < 32) <;> simp
theorem oc_0 : oc 0 = 0 := by decide
theorem oc_nI (b : BitVec 8) : oc b = nI b.toNat := by
  apply Int32.toBitVec_inj.mp
  rw [oc_tb]
  apply BitVec.eq_of_toNat_eq
  have h := pk_tn (n := b.toNat) (by have := b.isLt; omega)
  rw [h, BitVec.toNat_setWidth]
  have := b.isLt
  omega
theorem oc_and (b : BitVec 8) : oc b &&& 255 = oc b := by rw [oc_t8, t8_oc]
theorem t8_nI (v : Nat) : t8 (nI v) = BitVec.ofNat 8 v := by
  apply BitVec.eq_of_toNat_eq
  unfold t8
  rw [BitVec.toNat_setWidth, BitVec.toNat_ofNat]
  show (BitVec.ofNat 32 v).toNat % 2 ^ 8 = _
  rw [BitVec.toNat_ofNat]
  omega
/-- octet j of a row, 0 where it has none -/
def og (L : List (BitVec 8)) (j : Nat) : BitVec 8 := L.getD j 0
theorem og_out {L : List (BitVec 8)} {j : Nat} (h : L.length ≤ j) : og L j = 0 := by
  unfold og
  rw [List.getD_eq_getElem?_getD, List.getElem?_eq_none h]
  rfl
def atI (L : List (BitVec 8)) (i : Int32) : Int32 := if i < 0 then 0 else if nI L.length ≤ i then 0 else oc (og L i.toNatClampNeg)
/-- a Row at r, its array behind it, of N places, with the octets L -/
def rowAt (h : am_H) (r N : Nat) (L : List (BitVec 8)) : Prop := L.length ≤ N ∧ N ≤ 1000 ∧ h r = .inr (.inr (6, [.ref (r + 1), .int (nI L.length)])) ∧ ∃ f : Nat → Int32, h (r + 1) = .inl (N, f) ∧ ∀ j, j < L.length → f j = oc (og L j)
theorem rowAt.move {h h' : am_H} {r N : Nat} {L : List (BitVec 8)} (hR : rowAt h r N L) (h1 : h' r = h r) (h2 : h' (r + 1) = h (r + 1)) : rowAt h' r N L := by
  obtain ⟨a, b, c, f, d, e⟩ := hR
  exact ⟨a, b, h1.trans c, f, h2.trans d, e⟩
theorem am_pos {i : Int32} {k : Nat} (hk : k < 2 ^ 31) (h1 : ¬ i < 0) (h2 : ¬ nI k ≤ i) : i = nI i.toNatClampNeg ∧ i.toNatClampNeg < k := by
  obtain ⟨j, hj, rfl⟩ := nI_of h1
  rw [nI_clamp hj]
  refine ⟨rfl, ?_⟩
  rw [nI_leI hk hj] at h2
  omega
theorem atI_nI (L : List (BitVec 8)) {j : Nat} (hj : j < 2 ^ 31) (hL : L.length < 2 ^ 31) : atI L (nI j) = oc (og L j) := by
  unfold atI
  rw [if_neg (nI_pos hj), nI_clamp hj]
  by_cases h : L.length ≤ j
  · rw [if_pos ((nI_leI hL hj).mpr h), og_out h, oc_0]
  · rw [if_neg (fun q => h ((nI_leI hL hj).mp q))]
def e8p (L : List (BitVec 8)) (j : Nat) : Nat → Int64
  | 0 => 0
  | t + 1 => jlshl (e8p L j t) 8 ||| (oc (og L (j + t))).toInt64
/-- eight octets from j on as a number -/
def e8 (L : List (BitVec 8)) (j : Nat) : Int64 := e8p L j 8
