/-! the end of a padded wrap: what weN asks, octet by octet -/
theorem sgn63 (x : Int64) : jlshr x 63 = if 0 ≤ x.toInt then 0 else -1 := by
  have h2 : (jlshr x 63).toBitVec = x.toBitVec.sshiftRight 63 := by
    show (x >>> ((63 : Int32).toInt64 &&& 63)).toBitVec = _
    rw [Int64.toBitVec_shiftRight]
    rfl
  have hm : (0 ≤ x.toInt) ↔ x.toBitVec.msb = false := by
    show 0 ≤ x.toBitVec.toInt ↔ _
    rw [BitVec.toInt_eq_msb_cond]
    cases h : x.toBitVec.msb
    · simp
    · have := x.toBitVec.isLt
      simp
      omega
  apply Int64.toBitVec_inj.mp
  rw [h2]
  apply BitVec.eq_of_getLsbD_eq
  intro j hj
  have e1 : ∀ i, i < 64 → (-1 : Int64).toBitVec.getLsbD i = true := by decide
  have e63 : (63 + j < 64) ↔ j = 0 := by omega
  rw [BitVec.getLsbD_sshiftRight]
  by_cases h : 0 ≤ x.toInt
  · have hf := hm.mp h
    rw [if_pos h, hf]
    by_cases h0 : j = 0
    · subst h0
      rw [BitVec.msb_eq_getLsbD_last] at hf
      simp
      simpa using hf
    · simp
      intro _
      omega
  · have hf : x.toBitVec.msb = true := by
      cases q : x.toBitVec.msb
      · exact absurd (hm.mpr q) h
      · rfl
    rw [if_neg h, hf, e1 j hj]
    by_cases h0 : j = 0
    · subst h0
      rw [BitVec.msb_eq_getLsbD_last] at hf
      simp
      simpa using hf
    · simp [hj]
      omega
theorem or_toInt' {x y : Int64} (hx : 0 ≤ x.toInt) (hy : 0 ≤ y.toInt) : 0 ≤ (x ||| y).toInt := by
  have m : ∀ v : Int64, 0 ≤ v.toInt ↔ v.toBitVec.msb = false := fun v => by
    show 0 ≤ v.toBitVec.toInt ↔ _
    rw [BitVec.toInt_eq_msb_cond]
    cases h : v.toBitVec.msb
    · simp
    · have := v.toBitVec.isLt
      simp
      omega
  rw [m, Int64.toBitVec_or, BitVec.msb_or, (m x).mp hx, (m y).mp hy]
  rfl
theorem lN_subT {a b : Nat} (ha : a < 2 ^ 33) (hb : b < 2 ^ 33) : (lN a - lN b).toInt = (a : Int) - b := by
  rw [Int64.toInt_sub, pk_lT (by omega), pk_lT (by omega)]
  rw [Int.bmod_eq_of_le] <;> omega
theorem num8 (a : Int64) : a.toBitVec.toNat = nv (ob (a, 0)) 0 8 := by
  have e : gt (ob (a, 0)) 0 = (a, 0) := ob_ext fun k hk => by rw [ob_gt _ _ hk, Nat.zero_add]
  have := (gt_nv (ob (a, 0)) 0).1
  rw [e] at this
  exact this
theorem num4 (f : oA) (t : Nat) : nv f t 4 = 256 * (256 * (256 * (f t).toNat + (f (t + 1)).toNat) + (f (t + 2)).toNat) + (f (t + 3)).toNat := by
  show 256 * (256 * (256 * (256 * 0 + (f (t + 0)).toNat) + (f (t + 1)).toNat) + (f (t + 2)).toNat) + (f (t + 3)).toNat = _
  rw [Nat.add_zero]
  omega
theorem lo32 (a : Int64) : a &&& 4294967295 = lN (nv (ob (a, 0)) 4 4) := by
  obtain ⟨m, hm, e⟩ := and32 a
  rw [e]
  congr 1
  have h : (a &&& 4294967295).toBitVec.toNat = a.toBitVec.toNat % 2 ^ 32 := by
    rw [Int64.toBitVec_and, BitVec.toNat_and, show (4294967295 : Int64).toBitVec.toNat = 2 ^ 32 - 1 by decide, Nat.and_two_pow_sub_one_eq_mod]
  rw [e] at h
  have h2 : (lN m).toBitVec.toNat = m := by
    show (BitVec.ofNat 64 m).toNat = m
    rw [BitVec.toNat_ofNat]
    omega
  rw [h2, num8, show (8 : Nat) = 4 + 4 from rfl, nv_app] at h
  have := nv_lt (ob (a, 0)) 4 4
  rw [show (256 : Nat) ^ 4 = 2 ^ 32 by decide] at h this
  rw [show 0 + 4 = 4 from rfl] at h
  omega
theorem hi32 (a : Int64) : ((jlushr a 32) ^^^ 2790873510 = 0) ↔ nv (ob (a, 0)) 0 4 = 2790873510 := by
  have h : (jlushr a 32).toBitVec.toNat = nv (ob (a, 0)) 0 4 := by
    rw [show (32 : Int32) = nI 32 from rfl, ju_bv a (by omega), BitVec.toNat_ushiftRight, Nat.shiftRight_eq_div_pow, num8, show (8 : Nat) = 4 + 4 from rfl, nv_app]
    have := nv_lt (ob (a, 0)) (0 + 4) 4
    rw [show (256 : Nat) ^ 4 = 2 ^ 32 by decide] at this ⊢
    omega
  rw [← h]
  have ec : (2790873510 : Int64).toBitVec.toNat = 2790873510 := by decide
  constructor
  · intro q
    have := congrArg (fun v => v ^^^ 2790873510) q
    simp only [Int64.xor_assoc, Int64.xor_self, Int64.xor_zero, Int64.zero_xor] at this
    rw [this, ec]
  · intro q
    have : jlushr a 32 = 2790873510 := Int64.toBitVec_inj.mp (BitVec.eq_of_toNat_eq (by rw [q, ec]))
    rw [this, Int64.xor_self]
theorem we0_iff (a : Int64) {len : Nat} (hl : len < 2 ^ 30) (h8 : 8 ≤ len) : we0 a len = 0 ↔ nv (ob (a, 0)) 0 4 = 2790873510 ∧ len < nv (ob (a, 0)) 4 4 + 8 ∧ nv (ob (a, 0)) 4 4 ≤ len := by
  have hM := nv_lt (ob (a, 0)) 4 4
  rw [show (256 : Nat) ^ 4 = 2 ^ 32 by decide] at hM
  unfold we0
  rw [lo32, nI_l (by omega), nI_l (by omega), sgn63]
  have e1 : (lN (nv (ob (a, 0)) 4 4) - lN (len - 7)).toInt = (nv (ob (a, 0)) 4 4 : Int) - (len - 7 : Nat) := lN_subT (by omega) (by omega)
  have e2 : (lN len - lN (nv (ob (a, 0)) 4 4)).toInt = (len : Int) - (nv (ob (a, 0)) 4 4 : Nat) := lN_subT (by omega) (by omega)
  constructor
  · intro q
    obtain ⟨q1, q2⟩ := or0_64 q
    have q3 : 0 ≤ ((lN (nv (ob (a, 0)) 4 4) - lN (len - 7)) ||| (lN len - lN (nv (ob (a, 0)) 4 4))).toInt := by
      by_cases c : 0 ≤ ((lN (nv (ob (a, 0)) 4 4) - lN (len - 7)) ||| (lN len - lN (nv (ob (a, 0)) 4 4))).toInt
      · exact c
      · rw [if_neg c] at q2
        exact absurd q2 (by decide)
    obtain ⟨q4, q5⟩ := or_toInt q3
    rw [e1] at q4
    rw [e2] at q5
    exact ⟨(hi32 a).mp q1, by omega, by omega⟩
  · intro ⟨q1, q2, q3⟩
    rw [(hi32 a).mpr q1, if_pos (or_toInt' (by rw [e1]; omega) (by rw [e2]; omega))]
    rfl
theorem weN_iff (a : Int64) (L : List (BitVec 8)) (hl : L.length < 2 ^ 30) (h8 : 8 ≤ L.length) : ∀ i, i ≤ 8 → (weN a L i = 0 ↔ we0 a L.length = 0 ∧ ∀ j, j < i → nv (ob (a, 0)) 4 4 ≤ L.length - 8 + j → og L (L.length - 8 + j) = 0)
  | 0, _ => ⟨fun q => ⟨q, fun j hj => absurd hj (Nat.not_lt_zero j)⟩, fun q => q.1⟩
  | i + 1, hi => by
    have ih := weN_iff a L hl h8 i (by omega)
    have hM := nv_lt (ob (a, 0)) 4 4
    rw [show (256 : Nat) ^ 4 = 2 ^ 32 by decide] at hM
    show (weN a L i ||| ((jlshr (((a &&& 4294967295) - 1) - (nI (L.length - 8 + i)).toInt64) 63) &&& (oc (og L (L.length - 8 + i))).toInt64)) = 0 ↔ _
    have e1 : ((lN (nv (ob (a, 0)) 4 4) - 1) - lN (L.length - 8 + i)).toInt = (nv (ob (a, 0)) 4 4 : Int) - 1 - (L.length - 8 + i : Nat) := by
      have := lN_subT (a := nv (ob (a, 0)) 4 4) (b := L.length - 8 + i + 1) (by omega) (by omega)
      have e : (lN (nv (ob (a, 0)) 4 4) - 1) - lN (L.length - 8 + i) = lN (nv (ob (a, 0)) 4 4) - lN (L.length - 8 + i + 1) := by
        rw [show lN (L.length - 8 + i + 1) = lN (L.length - 8 + i) + 1 from Int64.ofNat_add _ 1, Int64.sub_sub, Int64.add_comm]
      rw [e, this]
      omega
    have em : ∀ x : Int64, (-1 : Int64) &&& x = x := fun x => by
      apply Int64.toBitVec_inj.mp
      rw [Int64.toBitVec_and, show (-1 : Int64).toBitVec = BitVec.allOnes 64 by decide, BitVec.allOnes_and]
    have eo : ∀ b : BitVec 8, (oc b).toInt64 = 0 ↔ b = 0 := fun b => by
      constructor
      · intro q
        apply BitVec.eq_of_getLsbD_eq
        intro m hm
        rw [← oc64 b (by omega), q]
        simp
      · intro q
        rw [q]
        decide
    rw [lo32, nI_l (by omega), sgn63, e1]
    constructor
    · intro q
      obtain ⟨q1, q2⟩ := or0_64 q
      refine ⟨(ih.mp q1).1, fun j hj hM2 => ?_⟩
      rcases Nat.lt_or_ge j i with c | c
      · exact (ih.mp q1).2 j c hM2
      · obtain rfl : j = i := by omega
        rw [if_neg (by omega), em] at q2
        exact (eo _).mp q2
    · intro ⟨q1, q2⟩
      rw [ih.mpr ⟨q1, fun j hj hM2 => q2 j (by omega) hM2⟩]
      by_cases c : nv (ob (a, 0)) 4 4 ≤ L.length - 8 + i
      · rw [if_neg (by omega), em, q2 i (by omega) c]
        decide
      · rw [if_pos (by omega), Int64.zero_and]
        rfl
