/-! the joint: what is refused -/
theorem d7 : ∀ d, d < 513 → (nI d &&& 7 = 0 ↔ d % 8 = 0) := by decide +kernel
theorem d1 : ∀ d, d < 17 → (nI d &&& 1 = 0 ↔ d % 2 = 0) := by decide +kernel
theorem n13 : ∀ k, k < 17 → (nI k = 13 ↔ k = 13) := by decide +kernel
theorem lt_lit {m : Nat} (hm : m < 2 ^ 31) (c : Nat) (hc : c < 2 ^ 31) : (nI m < nI c ↔ m < c) ∧ (nI c < nI m ↔ c < m) := ⟨nI_ltI hm hc, nI_ltI hc hm⟩
set_option maxHeartbeats 1000000 in
theorem rfT_ft {k op s d t : Nat} (hk : 1 ≤ k ∧ k ≤ 16) (ho : op = 0 ∨ op = 1) (hs : s ≤ 64) (hd : d ≤ 512) (ht : t ≤ 16) : (ftP k op d s t → rfT (nI k) (nI op) k s d t = 0) ∧ (¬ ftP k op d s t → rfT (nI k) (nI op) k s d t = -2) := by
  have a1 : nI s < 1 ↔ s < 1 := (lt_lit (by omega) 1 (by omega)).1
  have a2 : nI s < 7 ↔ s < 7 := (lt_lit (by omega) 7 (by omega)).1
  have a3 : 13 < nI s ↔ 13 < s := (lt_lit (by omega) 13 (by omega)).2
  have a4 : 15 < nI s ↔ 15 < s := (lt_lit (by omega) 15 (by omega)).2
  have a5 : nI s = 16 ↔ s = 16 := nI_eq (a := s) (b := 16) (by omega) (by omega)
  have b1 : nI d < 1 ↔ d < 1 := (lt_lit (by omega) 1 (by omega)).1
  have b2 : nI d < 16 ↔ d < 16 := (lt_lit (by omega) 16 (by omega)).1
  have b3 : nI d < 17 ↔ d < 17 := (lt_lit (by omega) 17 (by omega)).1
  have b4 : nI d < 24 ↔ d < 24 := (lt_lit (by omega) 24 (by omega)).1
  have b5 : nI d < nI t ↔ d < t := nI_ltI (by omega) (by omega)
  have b6 := d16 d (by omega)
  have b7 := d7 d (by omega)
  have t1 := d1 t (by omega)
  have k13 := n13 k (by omega)
  have o0 : nI op = 0 ↔ op = 0 := nI_eq (a := op) (b := 0) (by omega) (by omega)
  have z10 : ¬ (1 : Int32) = 0 := by decide
  generalize nI op = u at o0 ⊢
  generalize nI k = v at k13 ⊢
  rcases (show k = 1 ∨ k = 2 ∨ k = 3 ∨ k = 4 ∨ k = 5 ∨ k = 6 ∨ k = 7 ∨ k = 8 ∨ k = 9 ∨ k = 10 ∨ k = 11 ∨ k = 12 ∨ k = 13 ∨ k = 14 ∨ k = 15 ∨ k = 16 by omega) with rfl | rfl | rfl | rfl | rfl | rfl | rfl | rfl | rfl | rfl | rfl | rfl | rfl | rfl | rfl | rfl <;> rcases ho with rfl | rfl <;> simp only [rfT, stF, dtF, tgF, ftP, a1, a2, a3, a4, a5, b1, b2, b3, b4, b5, b6, b7, t1, k13, o0, z10, if_true, if_false] <;> refine ⟨fun hp => ?_, fun hp => ?_⟩ <;> (repeat' split) <;> first | rfl | (exfalso; omega) | (exfalso; exact hp trivial) | simp_all
