/-! the joint: the reference's use, kind by kind, in the class's words -/
section JU
variable {l : Launch} {w : am_W} {h : am_H} {n : Nat} {ψ : Nat → oA} {z : fA} {i : mI} {A N D : List (BitVec 8)} {mm m : Nat} {κ : Nat → kT}
theorem Us_1 (S : MO h ψ z i) (hn : 90 ≤ n) (U : UB ψ z i A N D mm) (hz0 : z 0 = nI (4 * m)) (hm : m = 4 ∨ m = 6 ∨ m = 8) (H0 : HKp ψ 0 0 m (eK (κ 16)) (dK (κ 16))) (hP : ftP 1 0 D.length N.length mm) (y : bP) : RH l w mX12_use h n [.ref 61, .int 1, .int 0] (uQ h ψ z i (nI (slO κ 1 A N D mm y).length) (some (slO κ 1 A N D mm y))) := by
  obtain ⟨hA, hN, hD, h4, h16, hi, z1, z2, z3, s1, s2, s3, hB⟩ := U
  rw [slO_1]
  exact oX12_use_1s S hn A N D mm m hA hN hD h4 h16 hi hz0 hm z1 z2 z3 s1 s2 s3 Bx hB H0 hP
theorem Uo_1 (S : MO h ψ z i) (hn : 90 ≤ n) (U : UB ψ z i A N D mm) (hz0 : z 0 = nI (4 * m)) (hm : m = 4 ∨ m = 6 ∨ m = 8) (H0 : HKp ψ 0 0 m (eK (κ 16)) (dK (κ 16))) (hP : ftP 1 1 D.length N.length mm) : RH l w mX12_use h n [.ref 61, .int 1, .int 1] (uQ h ψ z i (if uoC κ 1 A N D mm = 0 then -6 else nI (uoL κ 1 N D mm).length) (if uoC κ 1 A N D mm = 0 then none else some (uoL κ 1 N D mm))) := by
  obtain ⟨hA, hN, hD, h4, h16, hi, z1, z2, z3, s1, s2, s3, hB⟩ := U
  rw [uoL_1, uoC_1]
  rw [if_neg (by decide), if_neg (by decide)]
  exact oX12_use_1o S hn A N D mm m hA hN hD h4 h16 hi hz0 hm z1 z2 z3 s1 s2 s3 Bx hB H0 hP
theorem UsF_1 (S : MO h ψ z i) (hn : 90 ≤ n) (U : UB ψ z i A N D mm) (hz0 : z 0 = nI (4 * m)) (hm : m = 4 ∨ m = 6 ∨ m = 8) (hP : ¬ ftP 1 0 D.length N.length mm) : RH l w mX12_use h n [.ref 61, .int 1, .int 0] (uQ h ψ z i (-2) none) := by
  obtain ⟨hA, hN, hD, h4, h16, hi, z1, z2, z3, s1, s2, s3, hB⟩ := U
  exact oX12_use_1sF S hn D.length N.length mm m hD hN h16 hi hz0 hm z1 z2 Bx hB hP
theorem UoF_1 (S : MO h ψ z i) (hn : 90 ≤ n) (U : UB ψ z i A N D mm) (hz0 : z 0 = nI (4 * m)) (hm : m = 4 ∨ m = 6 ∨ m = 8) (hP : ¬ ftP 1 1 D.length N.length mm) : RH l w mX12_use h n [.ref 61, .int 1, .int 1] (uQ h ψ z i (-2) none) := by
  obtain ⟨hA, hN, hD, h4, h16, hi, z1, z2, z3, s1, s2, s3, hB⟩ := U
  exact oX12_use_1oF S hn D.length N.length mm m hD hN h16 hi hz0 hm z1 z2 Bx hB hP
theorem Us_2 (S : MO h ψ z i) (hn : 90 ≤ n) (U : UB ψ z i A N D mm) (hz0 : z 0 = nI (4 * m)) (hm : m = 4 ∨ m = 6 ∨ m = 8) (H0 : HKp ψ 0 0 m (eK (κ 16)) (dK (κ 16))) (hP : ftP 2 0 D.length N.length mm) (y : bP) : RH l w mX12_use h n [.ref 61, .int 2, .int 0] (uQ h ψ z i (nI (slO κ 2 A N D mm y).length) (some (slO κ 2 A N D mm y))) := by
  obtain ⟨hA, hN, hD, h4, h16, hi, z1, z2, z3, s1, s2, s3, hB⟩ := U
  rw [slO_2]
  exact oX12_use_2s S hn A N D mm m hA hN hD h4 h16 hi hz0 hm z1 z2 z3 s1 s2 s3 Bx hB H0 hP
theorem Uo_2 (S : MO h ψ z i) (hn : 90 ≤ n) (U : UB ψ z i A N D mm) (hz0 : z 0 = nI (4 * m)) (hm : m = 4 ∨ m = 6 ∨ m = 8) (H0 : HKp ψ 0 0 m (eK (κ 16)) (dK (κ 16))) (hP : ftP 2 1 D.length N.length mm) : RH l w mX12_use h n [.ref 61, .int 2, .int 1] (uQ h ψ z i (if uoC κ 2 A N D mm = 0 then -6 else nI (uoL κ 2 N D mm).length) (if uoC κ 2 A N D mm = 0 then none else some (uoL κ 2 N D mm))) := by
  obtain ⟨hA, hN, hD, h4, h16, hi, z1, z2, z3, s1, s2, s3, hB⟩ := U
  rw [uoL_2, uoC_2]
  rw [if_neg (by decide), if_neg (by decide)]
  exact oX12_use_2o S hn A N D mm m hA hN hD h4 h16 hi hz0 hm z1 z2 z3 s1 s2 s3 Bx hB H0 hP
theorem UsF_2 (S : MO h ψ z i) (hn : 90 ≤ n) (U : UB ψ z i A N D mm) (hz0 : z 0 = nI (4 * m)) (hm : m = 4 ∨ m = 6 ∨ m = 8) (hP : ¬ ftP 2 0 D.length N.length mm) : RH l w mX12_use h n [.ref 61, .int 2, .int 0] (uQ h ψ z i (-2) none) := by
  obtain ⟨hA, hN, hD, h4, h16, hi, z1, z2, z3, s1, s2, s3, hB⟩ := U
  exact oX12_use_2sF S hn D.length N.length mm m hD hN h16 hi hz0 hm z1 z2 Bx hB hP
theorem UoF_2 (S : MO h ψ z i) (hn : 90 ≤ n) (U : UB ψ z i A N D mm) (hz0 : z 0 = nI (4 * m)) (hm : m = 4 ∨ m = 6 ∨ m = 8) (hP : ¬ ftP 2 1 D.length N.length mm) : RH l w mX12_use h n [.ref 61, .int 2, .int 1] (uQ h ψ z i (-2) none) := by
  obtain ⟨hA, hN, hD, h4, h16, hi, z1, z2, z3, s1, s2, s3, hB⟩ := U
  exact oX12_use_2oF S hn D.length N.length mm m hD hN h16 hi hz0 hm z1 z2 Bx hB hP
theorem Us_3 (S : MO h ψ z i) (hn : 90 ≤ n) (U : UB ψ z i A N D mm) (hz0 : z 0 = nI (4 * m)) (hm : m = 4 ∨ m = 6 ∨ m = 8) (H0 : HKp ψ 0 0 m (eK (κ 16)) (dK (κ 16))) (hP : ftP 3 0 D.length N.length mm) (y : bP) : RH l w mX12_use h n [.ref 61, .int 3, .int 0] (uQ h ψ z i (nI (slO κ 3 A N D mm y).length) (some (slO κ 3 A N D mm y))) := by
  obtain ⟨hA, hN, hD, h4, h16, hi, z1, z2, z3, s1, s2, s3, hB⟩ := U
  rw [slO_3]
  exact oX12_use_3s S hn A N D mm m hA hN hD h4 h16 hi hz0 hm z1 z2 z3 s1 s2 s3 Bx hB H0 hP
theorem Uo_3 (S : MO h ψ z i) (hn : 90 ≤ n) (U : UB ψ z i A N D mm) (hz0 : z 0 = nI (4 * m)) (hm : m = 4 ∨ m = 6 ∨ m = 8) (H0 : HKp ψ 0 0 m (eK (κ 16)) (dK (κ 16))) (hP : ftP 3 1 D.length N.length mm) : RH l w mX12_use h n [.ref 61, .int 3, .int 1] (uQ h ψ z i (if uoC κ 3 A N D mm = 0 then -6 else nI (uoL κ 3 N D mm).length) (if uoC κ 3 A N D mm = 0 then none else some (uoL κ 3 N D mm))) := by
  obtain ⟨hA, hN, hD, h4, h16, hi, z1, z2, z3, s1, s2, s3, hB⟩ := U
  rw [uoL_3, uoC_3]
  have Q := oX12_use_3o (l := l) (w := w) S hn A N D mm m hA hN hD h4 h16 hi hz0 hm z1 z2 z3 s1 s2 s3 Bx hB H0 hP
  by_cases c : upW (chD (dK (κ 16)) (rd N 0) D) 16 = 0
  · rw [if_pos c, if_pos c] at Q
    rw [if_pos c, if_neg (by decide), if_neg (by decide)]
    exact Q
  · rw [if_neg c, if_neg c] at Q
    rw [if_neg c, if_pos rfl, if_pos rfl]
    exact Q
theorem UsF_3 (S : MO h ψ z i) (hn : 90 ≤ n) (U : UB ψ z i A N D mm) (hz0 : z 0 = nI (4 * m)) (hm : m = 4 ∨ m = 6 ∨ m = 8) (hP : ¬ ftP 3 0 D.length N.length mm) : RH l w mX12_use h n [.ref 61, .int 3, .int 0] (uQ h ψ z i (-2) none) := by
  obtain ⟨hA, hN, hD, h4, h16, hi, z1, z2, z3, s1, s2, s3, hB⟩ := U
  exact oX12_use_3sF S hn D.length N.length mm m hD hN h16 hi hz0 hm z1 z2 Bx hB hP
theorem UoF_3 (S : MO h ψ z i) (hn : 90 ≤ n) (U : UB ψ z i A N D mm) (hz0 : z 0 = nI (4 * m)) (hm : m = 4 ∨ m = 6 ∨ m = 8) (hP : ¬ ftP 3 1 D.length N.length mm) : RH l w mX12_use h n [.ref 61, .int 3, .int 1] (uQ h ψ z i (-2) none) := by
  obtain ⟨hA, hN, hD, h4, h16, hi, z1, z2, z3, s1, s2, s3, hB⟩ := U
  exact oX12_use_3oF S hn D.length N.length mm m hD hN h16 hi hz0 hm z1 z2 Bx hB hP
theorem Us_4 (S : MO h ψ z i) (hn : 90 ≤ n) (U : UB ψ z i A N D mm) (hz0 : z 0 = nI (4 * m)) (hm : m = 4 ∨ m = 6 ∨ m = 8) (H0 : HKp ψ 0 0 m (eK (κ 16)) (dK (κ 16))) (hP : ftP 4 0 D.length N.length mm) (y : bP) : RH l w mX12_use h n [.ref 61, .int 4, .int 0] (uQ h ψ z i (nI (slO κ 4 A N D mm y).length) (some (slO κ 4 A N D mm y))) := by
  obtain ⟨hA, hN, hD, h4, h16, hi, z1, z2, z3, s1, s2, s3, hB⟩ := U
  rw [slO_4]
  exact oX12_use_4s S hn A N D mm m hA hN hD h4 h16 hi hz0 hm z1 z2 z3 s1 s2 s3 Bx hB H0 hP
theorem Uo_4 (S : MO h ψ z i) (hn : 90 ≤ n) (U : UB ψ z i A N D mm) (hz0 : z 0 = nI (4 * m)) (hm : m = 4 ∨ m = 6 ∨ m = 8) (H0 : HKp ψ 0 0 m (eK (κ 16)) (dK (κ 16))) (hP : ftP 4 1 D.length N.length mm) : RH l w mX12_use h n [.ref 61, .int 4, .int 1] (uQ h ψ z i (if uoC κ 4 A N D mm = 0 then -6 else nI (uoL κ 4 N D mm).length) (if uoC κ 4 A N D mm = 0 then none else some (uoL κ 4 N D mm))) := by
  obtain ⟨hA, hN, hD, h4, h16, hi, z1, z2, z3, s1, s2, s3, hB⟩ := U
  rw [uoL_4, uoC_4]
  rw [if_neg (by decide), if_neg (by decide)]
  exact oX12_use_4o S hn A N D mm m hA hN hD h4 h16 hi hz0 hm z1 z2 z3 s1 s2 s3 Bx hB H0 hP
theorem UsF_4 (S : MO h ψ z i) (hn : 90 ≤ n) (U : UB ψ z i A N D mm) (hz0 : z 0 = nI (4 * m)) (hm : m = 4 ∨ m = 6 ∨ m = 8) (hP : ¬ ftP 4 0 D.length N.length mm) : RH l w mX12_use h n [.ref 61, .int 4, .int 0] (uQ h ψ z i (-2) none) := by
  obtain ⟨hA, hN, hD, h4, h16, hi, z1, z2, z3, s1, s2, s3, hB⟩ := U
  exact oX12_use_4sF S hn D.length N.length mm m hD hN h16 hi hz0 hm z1 z2 Bx hB hP
theorem UoF_4 (S : MO h ψ z i) (hn : 90 ≤ n) (U : UB ψ z i A N D mm) (hz0 : z 0 = nI (4 * m)) (hm : m = 4 ∨ m = 6 ∨ m = 8) (hP : ¬ ftP 4 1 D.length N.length mm) : RH l w mX12_use h n [.ref 61, .int 4, .int 1] (uQ h ψ z i (-2) none) := by
  obtain ⟨hA, hN, hD, h4, h16, hi, z1, z2, z3, s1, s2, s3, hB⟩ := U
  exact oX12_use_4oF S hn D.length N.length mm m hD hN h16 hi hz0 hm z1 z2 Bx hB hP
theorem Us_5 (S : MO h ψ z i) (hn : 90 ≤ n) (U : UB ψ z i A N D mm) (hz0 : z 0 = nI (4 * m)) (hm : m = 4 ∨ m = 6 ∨ m = 8) (H0 : HKp ψ 0 0 m (eK (κ 16)) (dK (κ 16))) (hP : ftP 5 0 D.length N.length mm) (y : bP) : RH l w mX12_use h n [.ref 61, .int 5, .int 0] (uQ h ψ z i (nI (slO κ 5 A N D mm y).length) (some (slO κ 5 A N D mm y))) := by
  obtain ⟨hA, hN, hD, h4, h16, hi, z1, z2, z3, s1, s2, s3, hB⟩ := U
  rw [slO_5]
  exact oX12_use_5s S hn A N D mm m hA hN hD h4 h16 hi hz0 hm z1 z2 z3 s1 s2 s3 Bx hB H0 hP
theorem Uo_5 (S : MO h ψ z i) (hn : 90 ≤ n) (U : UB ψ z i A N D mm) (hz0 : z 0 = nI (4 * m)) (hm : m = 4 ∨ m = 6 ∨ m = 8) (H0 : HKp ψ 0 0 m (eK (κ 16)) (dK (κ 16))) (hP : ftP 5 1 D.length N.length mm) : RH l w mX12_use h n [.ref 61, .int 5, .int 1] (uQ h ψ z i (if uoC κ 5 A N D mm = 0 then -6 else nI (uoL κ 5 N D mm).length) (if uoC κ 5 A N D mm = 0 then none else some (uoL κ 5 N D mm))) := by
  obtain ⟨hA, hN, hD, h4, h16, hi, z1, z2, z3, s1, s2, s3, hB⟩ := U
  rw [uoL_5, uoC_5]
  rw [if_neg (by decide), if_neg (by decide)]
  exact oX12_use_5o S hn A N D mm m hA hN hD h4 h16 hi hz0 hm z1 z2 z3 s1 s2 s3 Bx hB H0 hP
theorem UsF_5 (S : MO h ψ z i) (hn : 90 ≤ n) (U : UB ψ z i A N D mm) (hz0 : z 0 = nI (4 * m)) (hm : m = 4 ∨ m = 6 ∨ m = 8) (hP : ¬ ftP 5 0 D.length N.length mm) : RH l w mX12_use h n [.ref 61, .int 5, .int 0] (uQ h ψ z i (-2) none) := by
  obtain ⟨hA, hN, hD, h4, h16, hi, z1, z2, z3, s1, s2, s3, hB⟩ := U
  exact oX12_use_5sF S hn D.length N.length mm m hD hN h16 hi hz0 hm z1 z2 Bx hB hP
theorem UoF_5 (S : MO h ψ z i) (hn : 90 ≤ n) (U : UB ψ z i A N D mm) (hz0 : z 0 = nI (4 * m)) (hm : m = 4 ∨ m = 6 ∨ m = 8) (hP : ¬ ftP 5 1 D.length N.length mm) : RH l w mX12_use h n [.ref 61, .int 5, .int 1] (uQ h ψ z i (-2) none) := by
  obtain ⟨hA, hN, hD, h4, h16, hi, z1, z2, z3, s1, s2, s3, hB⟩ := U
  exact oX12_use_5oF S hn D.length N.length mm m hD hN h16 hi hz0 hm z1 z2 Bx hB hP
theorem Us_6 (S : MO h ψ z i) (hn : 90 ≤ n) (U : UB ψ z i A N D mm) (hz0 : z 0 = nI (4 * m)) (hm : m = 4 ∨ m = 6 ∨ m = 8) (H0 : HKp ψ 0 0 m (eK (κ 16)) (dK (κ 16))) (hP : ftP 6 0 D.length N.length mm) (y : bP) : RH l w mX12_use h n [.ref 61, .int 6, .int 0] (uQ h ψ z i (nI (slO κ 6 A N D mm y).length) (some (slO κ 6 A N D mm y))) := by
  obtain ⟨hA, hN, hD, h4, h16, hi, z1, z2, z3, s1, s2, s3, hB⟩ := U
  rw [slO_6]
  exact oX12_use_6s S hn A N D mm m hA hN hD h4 h16 hi hz0 hm z1 z2 z3 s1 s2 s3 Bx hB H0 hP
theorem Uo_6 (S : MO h ψ z i) (hn : 90 ≤ n) (U : UB ψ z i A N D mm) (hz0 : z 0 = nI (4 * m)) (hm : m = 4 ∨ m = 6 ∨ m = 8) (H0 : HKp ψ 0 0 m (eK (κ 16)) (dK (κ 16))) (hP : ftP 6 1 D.length N.length mm) : RH l w mX12_use h n [.ref 61, .int 6, .int 1] (uQ h ψ z i (if uoC κ 6 A N D mm = 0 then -6 else nI (uoL κ 6 N D mm).length) (if uoC κ 6 A N D mm = 0 then none else some (uoL κ 6 N D mm))) := by
  obtain ⟨hA, hN, hD, h4, h16, hi, z1, z2, z3, s1, s2, s3, hB⟩ := U
  rw [uoL_6, uoC_6]
  rw [if_neg (by decide), if_neg (by decide)]
  exact oX12_use_6o S hn A N D mm m hA hN hD h4 h16 hi hz0 hm z1 z2 z3 s1 s2 s3 Bx hB H0 hP
theorem UsF_6 (S : MO h ψ z i) (hn : 90 ≤ n) (U : UB ψ z i A N D mm) (hz0 : z 0 = nI (4 * m)) (hm : m = 4 ∨ m = 6 ∨ m = 8) (hP : ¬ ftP 6 0 D.length N.length mm) : RH l w mX12_use h n [.ref 61, .int 6, .int 0] (uQ h ψ z i (-2) none) := by
  obtain ⟨hA, hN, hD, h4, h16, hi, z1, z2, z3, s1, s2, s3, hB⟩ := U
  exact oX12_use_6sF S hn D.length N.length mm m hD hN h16 hi hz0 hm z1 z2 Bx hB hP
theorem UoF_6 (S : MO h ψ z i) (hn : 90 ≤ n) (U : UB ψ z i A N D mm) (hz0 : z 0 = nI (4 * m)) (hm : m = 4 ∨ m = 6 ∨ m = 8) (hP : ¬ ftP 6 1 D.length N.length mm) : RH l w mX12_use h n [.ref 61, .int 6, .int 1] (uQ h ψ z i (-2) none) := by
  obtain ⟨hA, hN, hD, h4, h16, hi, z1, z2, z3, s1, s2, s3, hB⟩ := U
  exact oX12_use_6oF S hn D.length N.length mm m hD hN h16 hi hz0 hm z1 z2 Bx hB hP
theorem Us_7 (S : MO h ψ z i) (hn : 90 ≤ n) (U : UB ψ z i A N D mm) (hz0 : z 0 = nI (4 * m)) (hm : m = 4 ∨ m = 6 ∨ m = 8) (H0 : HKp ψ 0 0 m (eK (κ 16)) (dK (κ 16))) (hP : ftP 7 0 D.length N.length mm) (y : bP) : RH l w mX12_use h n [.ref 61, .int 7, .int 0] (uQ h ψ z i (nI (slO κ 7 A N D mm y).length) (some (slO κ 7 A N D mm y))) := by
  obtain ⟨hA, hN, hD, h4, h16, hi, z1, z2, z3, s1, s2, s3, hB⟩ := U
  rw [slO_7]
  exact oX12_use_7s S hn A N D mm m hA hN hD h4 h16 hi hz0 hm z1 z2 z3 s1 s2 s3 Bx hB H0 hP
theorem Uo_7 (S : MO h ψ z i) (hn : 90 ≤ n) (U : UB ψ z i A N D mm) (hz0 : z 0 = nI (4 * m)) (hm : m = 4 ∨ m = 6 ∨ m = 8) (H0 : HKp ψ 0 0 m (eK (κ 16)) (dK (κ 16))) (hP : ftP 7 1 D.length N.length mm) : RH l w mX12_use h n [.ref 61, .int 7, .int 1] (uQ h ψ z i (if uoC κ 7 A N D mm = 0 then -6 else nI (uoL κ 7 N D mm).length) (if uoC κ 7 A N D mm = 0 then none else some (uoL κ 7 N D mm))) := by
  obtain ⟨hA, hN, hD, h4, h16, hi, z1, z2, z3, s1, s2, s3, hB⟩ := U
  rw [uoL_7, uoC_7]
  rw [if_neg (by decide), if_neg (by decide)]
  exact oX12_use_7o S hn A N D mm m hA hN hD h4 h16 hi hz0 hm z1 z2 z3 s1 s2 s3 Bx hB H0 hP
theorem UsF_7 (S : MO h ψ z i) (hn : 90 ≤ n) (U : UB ψ z i A N D mm) (hz0 : z 0 = nI (4 * m)) (hm : m = 4 ∨ m = 6 ∨ m = 8) (hP : ¬ ftP 7 0 D.length N.length mm) : RH l w mX12_use h n [.ref 61, .int 7, .int 0] (uQ h ψ z i (-2) none) := by
  obtain ⟨hA, hN, hD, h4, h16, hi, z1, z2, z3, s1, s2, s3, hB⟩ := U
  exact oX12_use_7sF S hn D.length N.length mm m hD hN h16 hi hz0 hm z1 z2 Bx hB hP
theorem UoF_7 (S : MO h ψ z i) (hn : 90 ≤ n) (U : UB ψ z i A N D mm) (hz0 : z 0 = nI (4 * m)) (hm : m = 4 ∨ m = 6 ∨ m = 8) (hP : ¬ ftP 7 1 D.length N.length mm) : RH l w mX12_use h n [.ref 61, .int 7, .int 1] (uQ h ψ z i (-2) none) := by
  obtain ⟨hA, hN, hD, h4, h16, hi, z1, z2, z3, s1, s2, s3, hB⟩ := U
  exact oX12_use_7oF S hn D.length N.length mm m hD hN h16 hi hz0 hm z1 z2 Bx hB hP
theorem Us_8 (S : MO h ψ z i) (hn : 90 ≤ n) (U : UB ψ z i A N D mm) (hz0 : z 0 = nI (4 * m)) (hm : m = 4 ∨ m = 6 ∨ m = 8) (H0 : HKp ψ 0 0 m (eK (κ 16)) (dK (κ 16))) (hP : ftP 8 0 D.length N.length mm) (y : bP) : RH l w mX12_use h n [.ref 61, .int 8, .int 0] (uQ h ψ z i (nI (slO κ 8 A N D mm y).length) (some (slO κ 8 A N D mm y))) := by
  obtain ⟨hA, hN, hD, h4, h16, hi, z1, z2, z3, s1, s2, s3, hB⟩ := U
  rw [slO_8]
  exact oX12_use_8s S hn A N D mm m hA hN hD h4 h16 hi hz0 hm z1 z2 z3 s1 s2 s3 Bx hB H0 hP
theorem Uo_8 (S : MO h ψ z i) (hn : 90 ≤ n) (U : UB ψ z i A N D mm) (hz0 : z 0 = nI (4 * m)) (hm : m = 4 ∨ m = 6 ∨ m = 8) (H0 : HKp ψ 0 0 m (eK (κ 16)) (dK (κ 16))) (hP : ftP 8 1 D.length N.length mm) : RH l w mX12_use h n [.ref 61, .int 8, .int 1] (uQ h ψ z i (if uoC κ 8 A N D mm = 0 then -6 else nI (uoL κ 8 N D mm).length) (if uoC κ 8 A N D mm = 0 then none else some (uoL κ 8 N D mm))) := by
  obtain ⟨hA, hN, hD, h4, h16, hi, z1, z2, z3, s1, s2, s3, hB⟩ := U
  rw [uoL_8, uoC_8]
  rw [if_neg (by decide), if_neg (by decide)]
  exact oX12_use_8o S hn A N D mm m hA hN hD h4 h16 hi hz0 hm z1 z2 z3 s1 s2 s3 Bx hB H0 hP
theorem UsF_8 (S : MO h ψ z i) (hn : 90 ≤ n) (U : UB ψ z i A N D mm) (hz0 : z 0 = nI (4 * m)) (hm : m = 4 ∨ m = 6 ∨ m = 8) (hP : ¬ ftP 8 0 D.length N.length mm) : RH l w mX12_use h n [.ref 61, .int 8, .int 0] (uQ h ψ z i (-2) none) := by
  obtain ⟨hA, hN, hD, h4, h16, hi, z1, z2, z3, s1, s2, s3, hB⟩ := U
  exact oX12_use_8sF S hn D.length N.length mm m hD hN h16 hi hz0 hm z1 z2 Bx hB hP
theorem UoF_8 (S : MO h ψ z i) (hn : 90 ≤ n) (U : UB ψ z i A N D mm) (hz0 : z 0 = nI (4 * m)) (hm : m = 4 ∨ m = 6 ∨ m = 8) (hP : ¬ ftP 8 1 D.length N.length mm) : RH l w mX12_use h n [.ref 61, .int 8, .int 1] (uQ h ψ z i (-2) none) := by
  obtain ⟨hA, hN, hD, h4, h16, hi, z1, z2, z3, s1, s2, s3, hB⟩ := U
  exact oX12_use_8oF S hn D.length N.length mm m hD hN h16 hi hz0 hm z1 z2 Bx hB hP
theorem Us_9 (S : MO h ψ z i) (hn : 90 ≤ n) (U : UB ψ z i A N D mm) (hz0 : z 0 = nI (8 * m)) (hm : m = 4 ∨ m = 6 ∨ m = 8) (H0 : HKp ψ 0 0 m (eK (κ 16)) (dK (κ 16))) (H1 : HKp ψ 1 (4 * m) m (eK (κ 20)) (dK (κ 20))) (hP : ftP 9 0 D.length N.length mm) (y : bP) : RH l w mX12_use h n [.ref 61, .int 9, .int 0] (uQ h ψ z i (nI (slO κ 9 A N D mm y).length) (some (slO κ 9 A N D mm y))) := by
  obtain ⟨hA, hN, hD, h4, h16, hi, z1, z2, z3, s1, s2, s3, hB⟩ := U
  rw [slO_9]
  by_cases r : D.length % 16 = 0
  · exact oX12_use_9s0 S hn A N D mm m hA hN hD h4 h16 hi hz0 hm z1 z2 z3 s1 s2 s3 Bx hB H0 H1 hP y r
  · exact oX12_use_9sr S hn A N D mm m hA hN hD h4 h16 hi hz0 hm z1 z2 z3 s1 s2 s3 Bx hB H0 H1 hP y r
theorem Uo_9 (S : MO h ψ z i) (hn : 90 ≤ n) (U : UB ψ z i A N D mm) (hz0 : z 0 = nI (8 * m)) (hm : m = 4 ∨ m = 6 ∨ m = 8) (H0 : HKp ψ 0 0 m (eK (κ 16)) (dK (κ 16))) (H1 : HKp ψ 1 (4 * m) m (eK (κ 20)) (dK (κ 20))) (hP : ftP 9 1 D.length N.length mm) : RH l w mX12_use h n [.ref 61, .int 9, .int 1] (uQ h ψ z i (if uoC κ 9 A N D mm = 0 then -6 else nI (uoL κ 9 N D mm).length) (if uoC κ 9 A N D mm = 0 then none else some (uoL κ 9 N D mm))) := by
  obtain ⟨hA, hN, hD, h4, h16, hi, z1, z2, z3, s1, s2, s3, hB⟩ := U
  rw [uoL_9, uoC_9]
  rw [if_neg (by decide), if_neg (by decide)]
  by_cases r : D.length % 16 = 0
  · exact oX12_use_9o0 S hn A N D mm m hA hN hD h4 h16 hi hz0 hm z1 z2 z3 s1 s2 s3 Bx hB H0 H1 hP r
  · exact oX12_use_9or S hn A N D mm m hA hN hD h4 h16 hi hz0 hm z1 z2 z3 s1 s2 s3 Bx hB H0 H1 hP r
theorem UsF_9 (S : MO h ψ z i) (hn : 90 ≤ n) (U : UB ψ z i A N D mm) (hz0 : z 0 = nI (8 * m)) (hm : m = 4 ∨ m = 6 ∨ m = 8) (hP : ¬ ftP 9 0 D.length N.length mm) : RH l w mX12_use h n [.ref 61, .int 9, .int 0] (uQ h ψ z i (-2) none) := by
  obtain ⟨hA, hN, hD, h4, h16, hi, z1, z2, z3, s1, s2, s3, hB⟩ := U
  exact oX12_use_9sF S hn D.length N.length mm m hD hN h16 hi hz0 hm z1 z2 Bx hB hP
theorem UoF_9 (S : MO h ψ z i) (hn : 90 ≤ n) (U : UB ψ z i A N D mm) (hz0 : z 0 = nI (8 * m)) (hm : m = 4 ∨ m = 6 ∨ m = 8) (hP : ¬ ftP 9 1 D.length N.length mm) : RH l w mX12_use h n [.ref 61, .int 9, .int 1] (uQ h ψ z i (-2) none) := by
  obtain ⟨hA, hN, hD, h4, h16, hi, z1, z2, z3, s1, s2, s3, hB⟩ := U
  exact oX12_use_9oF S hn D.length N.length mm m hD hN h16 hi hz0 hm z1 z2 Bx hB hP
theorem Us_10 (S : MO h ψ z i) (hn : 90 ≤ n) (U : UB ψ z i A N D mm) (hz0 : z 0 = nI (4 * m)) (hm : m = 4 ∨ m = 6 ∨ m = 8) (H0 : HKp ψ 0 0 m (eK (κ 16)) (dK (κ 16))) (hP : ftP 10 0 D.length N.length mm) (y : bP) : RH l w mX12_use h n [.ref 61, .int 10, .int 0] (uQ h ψ z i (nI (slO κ 10 A N D mm y).length) (some (slO κ 10 A N D mm y))) := by
  obtain ⟨hA, hN, hD, h4, h16, hi, z1, z2, z3, s1, s2, s3, hB⟩ := U
  rw [slO_10]
  exact oX12_use_10s S hn A N D mm m hA hN hD h4 h16 hi hz0 hm z1 z2 z3 s1 s2 s3 Bx hB H0 hP
theorem Uo_10 (S : MO h ψ z i) (hn : 90 ≤ n) (U : UB ψ z i A N D mm) (hz0 : z 0 = nI (4 * m)) (hm : m = 4 ∨ m = 6 ∨ m = 8) (H0 : HKp ψ 0 0 m (eK (κ 16)) (dK (κ 16))) (hP : ftP 10 1 D.length N.length mm) : RH l w mX12_use h n [.ref 61, .int 10, .int 1] (uQ h ψ z i (if uoC κ 10 A N D mm = 0 then -6 else nI (uoL κ 10 N D mm).length) (if uoC κ 10 A N D mm = 0 then none else some (uoL κ 10 N D mm))) := by
  obtain ⟨hA, hN, hD, h4, h16, hi, z1, z2, z3, s1, s2, s3, hB⟩ := U
  rw [uoL_10, uoC_10]
  have Q := oX12_use_10o (l := l) (w := w) S hn A N D mm m hA hN hD h4 h16 hi hz0 hm z1 z2 z3 s1 s2 s3 Bx hB H0 hP
  by_cases c : lg_cmp (uOut (dK (κ 16)) (D.length / 8 - 1) (e8 D 0, D) 6).1 (-6438275382588823898) = 0
  · rw [if_pos c, if_pos c] at Q
    rw [if_pos c, if_neg (by decide), if_neg (by decide)]
    exact Q
  · rw [if_neg c, if_neg c] at Q
    rw [if_neg c, if_pos rfl, if_pos rfl]
    exact Q
theorem UsF_10 (S : MO h ψ z i) (hn : 90 ≤ n) (U : UB ψ z i A N D mm) (hz0 : z 0 = nI (4 * m)) (hm : m = 4 ∨ m = 6 ∨ m = 8) (hP : ¬ ftP 10 0 D.length N.length mm) : RH l w mX12_use h n [.ref 61, .int 10, .int 0] (uQ h ψ z i (-2) none) := by
  obtain ⟨hA, hN, hD, h4, h16, hi, z1, z2, z3, s1, s2, s3, hB⟩ := U
  exact oX12_use_10sF S hn D.length N.length mm m hD hN h16 hi hz0 hm z1 z2 Bx hB hP
theorem UoF_10 (S : MO h ψ z i) (hn : 90 ≤ n) (U : UB ψ z i A N D mm) (hz0 : z 0 = nI (4 * m)) (hm : m = 4 ∨ m = 6 ∨ m = 8) (hP : ¬ ftP 10 1 D.length N.length mm) : RH l w mX12_use h n [.ref 61, .int 10, .int 1] (uQ h ψ z i (-2) none) := by
  obtain ⟨hA, hN, hD, h4, h16, hi, z1, z2, z3, s1, s2, s3, hB⟩ := U
  exact oX12_use_10oF S hn D.length N.length mm m hD hN h16 hi hz0 hm z1 z2 Bx hB hP
theorem Us_11 (S : MO h ψ z i) (hn : 90 ≤ n) (U : UB ψ z i A N D mm) (hz0 : z 0 = nI (4 * m)) (hm : m = 4 ∨ m = 6 ∨ m = 8) (H0 : HKp ψ 0 0 m (eK (κ 16)) (dK (κ 16))) (hP : ftP 11 0 D.length N.length mm) (y : bP) : RH l w mX12_use h n [.ref 61, .int 11, .int 0] (uQ h ψ z i (nI (slO κ 11 A N D mm y).length) (some (slO κ 11 A N D mm y))) := by
  obtain ⟨hA, hN, hD, h4, h16, hi, z1, z2, z3, s1, s2, s3, hB⟩ := U
  rw [slO_11]
  exact oX12_use_11s S hn A N D mm m hA hN hD h4 h16 hi hz0 hm z1 z2 z3 s1 s2 s3 Bx hB H0 hP
theorem Uo_11 (S : MO h ψ z i) (hn : 90 ≤ n) (U : UB ψ z i A N D mm) (hz0 : z 0 = nI (4 * m)) (hm : m = 4 ∨ m = 6 ∨ m = 8) (H0 : HKp ψ 0 0 m (eK (κ 16)) (dK (κ 16))) (hP : ftP 11 1 D.length N.length mm) : RH l w mX12_use h n [.ref 61, .int 11, .int 1] (uQ h ψ z i (if uoC κ 11 A N D mm = 0 then -6 else nI (uoL κ 11 N D mm).length) (if uoC κ 11 A N D mm = 0 then none else some (uoL κ 11 N D mm))) := by
  obtain ⟨hA, hN, hD, h4, h16, hi, z1, z2, z3, s1, s2, s3, hB⟩ := U
  rw [uoL_11, uoC_11]
  have Q := oX12_use_11o (l := l) (w := w) S hn A N D mm m hA hN hD h4 h16 hi hz0 hm z1 z2 z3 s1 s2 s3 Bx hB H0 hP
  by_cases c : pwC (dK (κ 16)) D = 0
  · rw [if_pos c, if_pos c] at Q
    rw [if_pos c, if_neg (by decide), if_neg (by decide)]
    exact Q
  · rw [if_neg c, if_neg c] at Q
    rw [if_neg c, if_pos rfl, if_pos rfl]
    exact Q
theorem UsF_11 (S : MO h ψ z i) (hn : 90 ≤ n) (U : UB ψ z i A N D mm) (hz0 : z 0 = nI (4 * m)) (hm : m = 4 ∨ m = 6 ∨ m = 8) (hP : ¬ ftP 11 0 D.length N.length mm) : RH l w mX12_use h n [.ref 61, .int 11, .int 0] (uQ h ψ z i (-2) none) := by
  obtain ⟨hA, hN, hD, h4, h16, hi, z1, z2, z3, s1, s2, s3, hB⟩ := U
  exact oX12_use_11sF S hn D.length N.length mm m hD hN h16 hi hz0 hm z1 z2 Bx hB hP
theorem UoF_11 (S : MO h ψ z i) (hn : 90 ≤ n) (U : UB ψ z i A N D mm) (hz0 : z 0 = nI (4 * m)) (hm : m = 4 ∨ m = 6 ∨ m = 8) (hP : ¬ ftP 11 1 D.length N.length mm) : RH l w mX12_use h n [.ref 61, .int 11, .int 1] (uQ h ψ z i (-2) none) := by
  obtain ⟨hA, hN, hD, h4, h16, hi, z1, z2, z3, s1, s2, s3, hB⟩ := U
  exact oX12_use_11oF S hn D.length N.length mm m hD hN h16 hi hz0 hm z1 z2 Bx hB hP
theorem Us_12 (S : MO h ψ z i) (hn : 90 ≤ n) (U : UB ψ z i A N D mm) (hz0 : z 0 = nI (4 * m)) (hm : m = 4 ∨ m = 6 ∨ m = 8) (H0 : HKp ψ 0 0 m (eK (κ 16)) (dK (κ 16))) (hP : ftP 12 0 D.length N.length mm) (y : bP) : RH l w mX12_use h n [.ref 61, .int 12, .int 0] (uQ h ψ z i (nI (slO κ 12 A N D mm y).length) (some (slO κ 12 A N D mm y))) := by
  obtain ⟨hA, hN, hD, h4, h16, hi, z1, z2, z3, s1, s2, s3, hB⟩ := U
  rw [slO_12]
  exact oX12_use_12s S hn A N D mm m hA hN hD h4 h16 hi hz0 hm z1 z2 z3 s1 s2 s3 Bx hB H0 hP
theorem Uo_12 (S : MO h ψ z i) (hn : 90 ≤ n) (U : UB ψ z i A N D mm) (hz0 : z 0 = nI (4 * m)) (hm : m = 4 ∨ m = 6 ∨ m = 8) (H0 : HKp ψ 0 0 m (eK (κ 16)) (dK (κ 16))) (hP : ftP 12 1 D.length N.length mm) : RH l w mX12_use h n [.ref 61, .int 12, .int 1] (uQ h ψ z i (if uoC κ 12 A N D mm = 0 then -6 else nI (uoL κ 12 N D mm).length) (if uoC κ 12 A N D mm = 0 then none else some (uoL κ 12 N D mm))) := by
  obtain ⟨hA, hN, hD, h4, h16, hi, z1, z2, z3, s1, s2, s3, hB⟩ := U
  rw [uoL_12, uoC_12]
  exact oX12_use_12o S hn A N D mm m hA hN hD h4 h16 hi hz0 hm z1 z2 z3 s1 s2 s3 Bx hB H0 hP
theorem UsF_12 (S : MO h ψ z i) (hn : 90 ≤ n) (U : UB ψ z i A N D mm) (hz0 : z 0 = nI (4 * m)) (hm : m = 4 ∨ m = 6 ∨ m = 8) (hP : ¬ ftP 12 0 D.length N.length mm) : RH l w mX12_use h n [.ref 61, .int 12, .int 0] (uQ h ψ z i (-2) none) := by
  obtain ⟨hA, hN, hD, h4, h16, hi, z1, z2, z3, s1, s2, s3, hB⟩ := U
  exact oX12_use_12sF S hn D.length N.length mm m hD hN h16 hi hz0 hm z1 z2 Bx hB hP
theorem UoF_12 (S : MO h ψ z i) (hn : 90 ≤ n) (U : UB ψ z i A N D mm) (hz0 : z 0 = nI (4 * m)) (hm : m = 4 ∨ m = 6 ∨ m = 8) (hP : ¬ ftP 12 1 D.length N.length mm) : RH l w mX12_use h n [.ref 61, .int 12, .int 1] (uQ h ψ z i (-2) none) := by
  obtain ⟨hA, hN, hD, h4, h16, hi, z1, z2, z3, s1, s2, s3, hB⟩ := U
  exact oX12_use_12oF S hn D.length N.length mm m hD hN h16 hi hz0 hm z1 z2 Bx hB hP
theorem Us_13 (S : MO h ψ z i) (hn : 90 ≤ n) (U : UB ψ z i A N D mm) (hz0 : z 0 = nI (4 * m)) (hm : m = 4 ∨ m = 6 ∨ m = 8) (H0 : HKp ψ 0 0 m (eK (κ 16)) (dK (κ 16))) (hP : ftP 13 0 D.length N.length mm) (y : bP) : RH l w mX12_use h n [.ref 61, .int 13, .int 0] (uQ h ψ z i (nI (slO κ 13 A N D mm y).length) (some (slO κ 13 A N D mm y))) := by
  obtain ⟨hA, hN, hD, h4, h16, hi, z1, z2, z3, s1, s2, s3, hB⟩ := U
  rw [slO_13]
  exact oX12_use_13s S hn A N D mm m hA hN hD h4 h16 hi hz0 hm z1 z2 z3 s1 s2 s3 Bx hB H0 hP
theorem Uo_13 (S : MO h ψ z i) (hn : 90 ≤ n) (U : UB ψ z i A N D mm) (hz0 : z 0 = nI (4 * m)) (hm : m = 4 ∨ m = 6 ∨ m = 8) (H0 : HKp ψ 0 0 m (eK (κ 16)) (dK (κ 16))) (hP : ftP 13 1 D.length N.length mm) : RH l w mX12_use h n [.ref 61, .int 13, .int 1] (uQ h ψ z i (if uoC κ 13 A N D mm = 0 then -6 else nI (uoL κ 13 N D mm).length) (if uoC κ 13 A N D mm = 0 then none else some (uoL κ 13 N D mm))) := by
  obtain ⟨hA, hN, hD, h4, h16, hi, z1, z2, z3, s1, s2, s3, hB⟩ := U
  rw [uoL_13, uoC_13]
  exact oX12_use_13o S hn A N D mm m hA hN hD h4 h16 hi hz0 hm z1 z2 z3 s1 s2 s3 Bx hB H0 hP
theorem UsF_13 (S : MO h ψ z i) (hn : 90 ≤ n) (U : UB ψ z i A N D mm) (hz0 : z 0 = nI (4 * m)) (hm : m = 4 ∨ m = 6 ∨ m = 8) (hP : ¬ ftP 13 0 D.length N.length mm) : RH l w mX12_use h n [.ref 61, .int 13, .int 0] (uQ h ψ z i (-2) none) := by
  obtain ⟨hA, hN, hD, h4, h16, hi, z1, z2, z3, s1, s2, s3, hB⟩ := U
  exact oX12_use_13sF S hn D.length N.length mm m hD hN h16 hi hz0 hm z1 z2 Bx hB hP
theorem UoF_13 (S : MO h ψ z i) (hn : 90 ≤ n) (U : UB ψ z i A N D mm) (hz0 : z 0 = nI (4 * m)) (hm : m = 4 ∨ m = 6 ∨ m = 8) (hP : ¬ ftP 13 1 D.length N.length mm) : RH l w mX12_use h n [.ref 61, .int 13, .int 1] (uQ h ψ z i (-2) none) := by
  obtain ⟨hA, hN, hD, h4, h16, hi, z1, z2, z3, s1, s2, s3, hB⟩ := U
  exact oX12_use_13oF S hn D.length N.length mm m hD hN h16 hi hz0 hm z1 z2 Bx hB hP
theorem Us_14 (S : MO h ψ z i) (hn : 90 ≤ n) (U : UB ψ z i A N D mm) (hz0 : z 0 = nI (4 * m)) (hm : m = 4 ∨ m = 6 ∨ m = 8) (H0 : HKp ψ 0 0 m (eK (κ 16)) (dK (κ 16))) (hP : ftP 14 0 D.length N.length mm) (y : bP) : RH l w mX12_use h n [.ref 61, .int 14, .int 0] (uQ h ψ z i (nI (slO κ 14 A N D mm y).length) (some (slO κ 14 A N D mm y))) := by
  obtain ⟨hA, hN, hD, h4, h16, hi, z1, z2, z3, s1, s2, s3, hB⟩ := U
  rw [slO_14]
  exact oX12_use_14s S hn A N D mm m hA hN hD h4 h16 hi hz0 hm z1 z2 z3 s1 s2 s3 Bx hB H0 hP
theorem Uo_14 (S : MO h ψ z i) (hn : 90 ≤ n) (U : UB ψ z i A N D mm) (hz0 : z 0 = nI (4 * m)) (hm : m = 4 ∨ m = 6 ∨ m = 8) (H0 : HKp ψ 0 0 m (eK (κ 16)) (dK (κ 16))) (hP : ftP 14 1 D.length N.length mm) : RH l w mX12_use h n [.ref 61, .int 14, .int 1] (uQ h ψ z i (if uoC κ 14 A N D mm = 0 then -6 else nI (uoL κ 14 N D mm).length) (if uoC κ 14 A N D mm = 0 then none else some (uoL κ 14 N D mm))) := by
  obtain ⟨hA, hN, hD, h4, h16, hi, z1, z2, z3, s1, s2, s3, hB⟩ := U
  rw [uoL_14, uoC_14]
  exact oX12_use_14o S hn A N D mm m hA hN hD h4 h16 hi hz0 hm z1 z2 z3 s1 s2 s3 Bx hB H0 hP
theorem UoF_14 (S : MO h ψ z i) (hn : 90 ≤ n) (U : UB ψ z i A N D mm) (hz0 : z 0 = nI (4 * m)) (hm : m = 4 ∨ m = 6 ∨ m = 8) (hP : ¬ ftP 14 1 D.length N.length mm) : RH l w mX12_use h n [.ref 61, .int 14, .int 1] (uQ h ψ z i (-2) none) := by
  obtain ⟨hA, hN, hD, h4, h16, hi, z1, z2, z3, s1, s2, s3, hB⟩ := U
  exact oX12_use_14oF S hn D.length N.length mm m hD hN h16 hi hz0 hm z1 z2 Bx hB hP
theorem Us_15 (S : MO h ψ z i) (hn : 90 ≤ n) (U : UB ψ z i A N D mm) (hz0 : z 0 = nI (8 * m)) (hm : m = 4 ∨ m = 6 ∨ m = 8) (H0 : HKp ψ 0 0 m (eK (κ 16)) (dK (κ 16))) (H1 : HKp ψ 1 (4 * m) m (eK (κ 20)) (dK (κ 20))) (hP : ftP 15 0 D.length N.length mm) (y : bP) : RH l w mX12_use h n [.ref 61, .int 15, .int 0] (uQ h ψ z i (nI (slO κ 15 A N D mm y).length) (some (slO κ 15 A N D mm y))) := by
  obtain ⟨hA, hN, hD, h4, h16, hi, z1, z2, z3, s1, s2, s3, hB⟩ := U
  rw [slO_15]
  exact oX12_use_15s S hn A N D mm m hA hN hD h4 h16 hi hz0 hm z1 z2 z3 s1 s2 s3 Bx hB H0 H1 hP
theorem Uo_15 (S : MO h ψ z i) (hn : 90 ≤ n) (U : UB ψ z i A N D mm) (hz0 : z 0 = nI (8 * m)) (hm : m = 4 ∨ m = 6 ∨ m = 8) (H0 : HKp ψ 0 0 m (eK (κ 16)) (dK (κ 16))) (H1 : HKp ψ 1 (4 * m) m (eK (κ 20)) (dK (κ 20))) (hP : ftP 15 1 D.length N.length mm) : RH l w mX12_use h n [.ref 61, .int 15, .int 1] (uQ h ψ z i (if uoC κ 15 A N D mm = 0 then -6 else nI (uoL κ 15 N D mm).length) (if uoC κ 15 A N D mm = 0 then none else some (uoL κ 15 N D mm))) := by
  obtain ⟨hA, hN, hD, h4, h16, hi, z1, z2, z3, s1, s2, s3, hB⟩ := U
  rw [uoL_15, uoC_15]
  exact oX12_use_15o S hn A N D mm m hA hN hD h4 h16 hi hz0 hm z1 z2 z3 s1 s2 s3 Bx hB H0 H1 hP
theorem UoF_15 (S : MO h ψ z i) (hn : 90 ≤ n) (U : UB ψ z i A N D mm) (hz0 : z 0 = nI (8 * m)) (hm : m = 4 ∨ m = 6 ∨ m = 8) (hP : ¬ ftP 15 1 D.length N.length mm) : RH l w mX12_use h n [.ref 61, .int 15, .int 1] (uQ h ψ z i (-2) none) := by
  obtain ⟨hA, hN, hD, h4, h16, hi, z1, z2, z3, s1, s2, s3, hB⟩ := U
  exact oX12_use_15oF S hn D.length N.length mm m hD hN h16 hi hz0 hm z1 z2 Bx hB hP
theorem Us_16 (S : MO h ψ z i) (hn : 90 ≤ n) (U : UB ψ z i A N D mm) (hz0 : z 0 = nI (4 * m)) (hm : m = 4 ∨ m = 6 ∨ m = 8) (H0 : HKp ψ 0 0 m (eK (κ 16)) (dK (κ 16))) (hP : ftP 16 0 D.length N.length mm) (y : bP) : RH l w mX12_use h n [.ref 61, .int 16, .int 0] (uQ h ψ z i (nI (slO κ 16 A N D mm y).length) (some (slO κ 16 A N D mm y))) := by
  obtain ⟨hA, hN, hD, h4, h16, hi, z1, z2, z3, s1, s2, s3, hB⟩ := U
  rw [slO_16]
  exact oX12_use_16s S hn A N D mm m hA hN hD h4 h16 hi hz0 hm z1 z2 z3 s1 s2 s3 Bx hB H0 hP
theorem Uo_16 (S : MO h ψ z i) (hn : 90 ≤ n) (U : UB ψ z i A N D mm) (hz0 : z 0 = nI (4 * m)) (hm : m = 4 ∨ m = 6 ∨ m = 8) (H0 : HKp ψ 0 0 m (eK (κ 16)) (dK (κ 16))) (hP : ftP 16 1 D.length N.length mm) : RH l w mX12_use h n [.ref 61, .int 16, .int 1] (uQ h ψ z i (if uoC κ 16 A N D mm = 0 then -6 else nI (uoL κ 16 N D mm).length) (if uoC κ 16 A N D mm = 0 then none else some (uoL κ 16 N D mm))) := by
  obtain ⟨hA, hN, hD, h4, h16, hi, z1, z2, z3, s1, s2, s3, hB⟩ := U
  rw [uoL_16, uoC_16]
  exact oX12_use_16o S hn A N D mm m hA hN hD h4 h16 hi hz0 hm z1 z2 z3 s1 s2 s3 Bx hB H0 hP
theorem UsF_16 (S : MO h ψ z i) (hn : 90 ≤ n) (U : UB ψ z i A N D mm) (hz0 : z 0 = nI (4 * m)) (hm : m = 4 ∨ m = 6 ∨ m = 8) (hP : ¬ ftP 16 0 D.length N.length mm) : RH l w mX12_use h n [.ref 61, .int 16, .int 0] (uQ h ψ z i (-2) none) := by
  obtain ⟨hA, hN, hD, h4, h16, hi, z1, z2, z3, s1, s2, s3, hB⟩ := U
  exact oX12_use_16sF S hn D.length N.length mm m hD hN h16 hi hz0 hm z1 z2 Bx hB hP
theorem UoF_16 (S : MO h ψ z i) (hn : 90 ≤ n) (U : UB ψ z i A N D mm) (hz0 : z 0 = nI (4 * m)) (hm : m = 4 ∨ m = 6 ∨ m = 8) (hP : ¬ ftP 16 1 D.length N.length mm) : RH l w mX12_use h n [.ref 61, .int 16, .int 1] (uQ h ψ z i (-2) none) := by
  obtain ⟨hA, hN, hD, h4, h16, hi, z1, z2, z3, s1, s2, s3, hB⟩ := U
  exact oX12_use_16oF S hn D.length N.length mm m hD hN h16 hi hz0 hm z1 z2 Bx hB hP
end JU
