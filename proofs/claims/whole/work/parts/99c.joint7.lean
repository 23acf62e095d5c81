/-! the joint: seal and open, kind by kind -/
def UB (ψ : Nat → oA) (z : fA) (i : mI) (A N D : List (BitVec 8)) (mm : Nat) : Prop := A.length ≤ 256 ∧ N.length ≤ 64 ∧ D.length ≤ 512 ∧ 4 ≤ mm ∧ mm ≤ 16 ∧ i 1 = nI mm ∧ z 1 = nI D.length ∧ z 2 = nI N.length ∧ z 3 = nI A.length ∧ sg (ψ 62) 512 D ∧ sg (ψ 62) 1024 N ∧ sg (ψ 62) 1536 A ∧ (∀ v : BitVec 8, ψ 65 v.toNat = Bx v)
def HKp (ψ : Nat → oA) (u a m : Nat) (F G : bP → bP) : Prop := ∀ ψ2, FR [67, 68, 71, 72, 73, 74, 75, 76, 77, 78, 79, 80, 81, 82, 83, 84, 85, 86, 87, 88, 89, 90] ψ ψ2 → exK ψ2 Bx u a m → Kh ψ2 u F G
theorem slO_1 (κ : Nat → kT) (A N D : List (BitVec 8)) (mm : Nat) (y : bP) : slO κ 1 A N D mm y = bkN (eK (κ 16)) D (nbk D) := by
  unfold slO
  rw [if_pos (by decide), if_neg (by decide)]
  rfl
theorem slO_2 (κ : Nat → kT) (A N D : List (BitVec 8)) (mm : Nat) (y : bP) : slO κ 2 A N D mm y = (stN (chS (eK (κ 16)) D) (rd N 0) (nbk D)).2 := by
  unfold slO
  rw [if_pos (by decide), if_neg (by decide)]
  rfl
theorem slO_3 (κ : Nat → kT) (A N D : List (BitVec 8)) (mm : Nat) (y : bP) : slO κ 3 A N D mm y = chE (eK (κ 16)) (rd N 0) (pdP D) := by
  unfold slO
  rw [if_pos (by decide), if_neg (by decide)]
  rfl
theorem slO_4 (κ : Nat → kT) (A N D : List (BitVec 8)) (mm : Nat) (y : bP) : slO κ 4 A N D mm y = stE (chE (eK (κ 16)) (rd N 0) D) D.length := by
  unfold slO
  rw [if_pos (by decide), if_neg (by decide)]
  rfl
theorem slO_5 (κ : Nat → kT) (A N D : List (BitVec 8)) (mm : Nat) (y : bP) : slO κ 5 A N D mm y = (stN (fbS (eK (κ 16)) 0 D) (rd N 0) (nbk D)).2 := by
  unfold slO
  rw [if_pos (by decide), if_neg (by decide)]
  rfl
theorem slO_6 (κ : Nat → kT) (A N D : List (BitVec 8)) (mm : Nat) (y : bP) : slO κ 6 A N D mm y = (stN (foS (eK (κ 16)) 0 D) (rd N 0) D.length).2 := by
  unfold slO
  rw [if_pos (by decide), if_neg (by decide)]
  rfl
theorem slO_7 (κ : Nat → kT) (A N D : List (BitVec 8)) (mm : Nat) (y : bP) : slO κ 7 A N D mm y = (stN (toS (eK (κ 16)) D) (rd N 0) (nbk D)).2 := by
  unfold slO
  rw [if_pos (by decide), if_neg (by decide)]
  rfl
theorem slO_8 (κ : Nat → kT) (A N D : List (BitVec 8)) (mm : Nat) (y : bP) : slO κ 8 A N D mm y = (stN (ctS (eK (κ 16)) D) (rd N 0) (nbk D)).2 := by
  unfold slO
  rw [if_pos (by decide), if_neg (by decide)]
  rfl
theorem slO_9 (κ : Nat → kT) (A N D : List (BitVec 8)) (mm : Nat) (y : bP) : slO κ 9 A N D mm y = scE (eK (κ 16)) D ((eK (κ 20)) (rd N 0)) y := by
  unfold slO
  rw [if_pos (by decide), if_neg (by decide)]
  rfl
theorem slO_10 (κ : Nat → kT) (A N D : List (BitVec 8)) (mm : Nat) (y : bP) : slO κ 10 A N D mm y = wr10 (eK (κ 16)) D := by
  unfold slO
  rw [if_pos (by decide), if_neg (by decide)]
  rfl
theorem slO_11 (κ : Nat → kT) (A N D : List (BitVec 8)) (mm : Nat) (y : bP) : slO κ 11 A N D mm y = pwE (eK (κ 16)) D := by
  unfold slO
  rw [if_pos (by decide), if_neg (by decide)]
  rfl
theorem slO_12 (κ : Nat → kT) (A N D : List (BitVec 8)) (mm : Nat) (y : bP) : slO κ 12 A N D mm y = (gcO (eK (κ 16)) D (gJ ((eK (κ 16)) (0, 0)) N)) ++ bt (gTag (eK (κ 16)) A (gcO (eK (κ 16)) D (gJ ((eK (κ 16)) (0, 0)) N)) D N) mm := by
  unfold slO
  rw [if_neg (by decide)]
  rfl
theorem slO_13 (κ : Nat → kT) (A N D : List (BitVec 8)) (mm : Nat) (y : bP) : slO κ 13 A N D mm y = (ctO (eK (κ 16)) D (one1 (cnB N (15 - N.length)))) ++ bt (cnT (eK (κ 16)) A N D (15 - N.length) mm) mm := by
  unfold slO
  rw [if_neg (by decide)]
  rfl
theorem slO_14 (κ : Nat → kT) (A N D : List (BitVec 8)) (mm : Nat) (y : bP) : slO κ 14 A N D mm y = (ctO (eK (κ 16)) D (macV (eK (κ 16)) (layN 0 N))) ++ bt (twT (eK (κ 16)) A N (ctO (eK (κ 16)) D (macV (eK (κ 16)) (layN 0 N)))) mm := by
  unfold slO
  rw [if_neg (by decide)]
  rfl
theorem slO_15 (κ : Nat → kT) (A N D : List (BitVec 8)) (mm : Nat) (y : bP) : slO κ 15 A N D mm y = bt (mdV (eK (κ 16)) A N D) 16 ++ ctO (eK (κ 20)) D (cfm (mdV (eK (κ 16)) A N D)) := by
  unfold slO
  rw [if_pos (by decide), if_pos rfl]
theorem slO_16 (κ : Nat → kT) (A N D : List (BitVec 8)) (mm : Nat) (y : bP) : slO κ 16 A N D mm y = (osF (eK (κ 16)) (dK (κ 16)) false D (bgO (eK (κ 16)) N (nI mm))).2.2 ++ bt (osTag (eK (κ 16)) (dK (κ 16)) false D A (bgO (eK (κ 16)) N (nI mm))) mm := by
  unfold slO
  rw [if_neg (by decide)]
  rfl
theorem uoL_1 (κ : Nat → kT) (N D : List (BitVec 8)) (mm : Nat) : uoL κ 1 N D mm = bkN (dK (κ 16)) D (nbk D) := by
  unfold uoL
  rw [if_pos (by decide), if_neg (by decide)]
  rfl
theorem uoC_1 (κ : Nat → kT) (A N D : List (BitVec 8)) (mm : Nat) : uoC κ 1 A N D mm = 1 := by
  unfold uoC
  rw [if_pos (by decide), if_neg (by decide)]
  rfl
theorem uoL_2 (κ : Nat → kT) (N D : List (BitVec 8)) (mm : Nat) : uoL κ 2 N D mm = (stN (ucS (dK (κ 16)) D) (rd N 0) (nbk D)).2 := by
  unfold uoL
  rw [if_pos (by decide), if_neg (by decide)]
  rfl
theorem uoC_2 (κ : Nat → kT) (A N D : List (BitVec 8)) (mm : Nat) : uoC κ 2 A N D mm = 1 := by
  unfold uoC
  rw [if_pos (by decide), if_neg (by decide)]
  rfl
theorem uoL_3 (κ : Nat → kT) (N D : List (BitVec 8)) (mm : Nat) : uoL κ 3 N D mm = upR (chD (dK (κ 16)) (rd N 0) D) := by
  unfold uoL
  rw [if_pos (by decide), if_neg (by decide)]
  rfl
theorem uoC_3 (κ : Nat → kT) (A N D : List (BitVec 8)) (mm : Nat) : uoC κ 3 A N D mm = if upW (chD (dK (κ 16)) (rd N 0) D) 16 = 0 then 1 else 0 := by
  unfold uoC
  rw [if_pos (by decide), if_neg (by decide)]
  rfl
theorem uoL_4 (κ : Nat → kT) (N D : List (BitVec 8)) (mm : Nat) : uoL κ 4 N D mm = (chD (dK (κ 16)) (rd N 0) (stT (dK (κ 16)) D)).take D.length := by
  unfold uoL
  rw [if_pos (by decide), if_neg (by decide)]
  rfl
theorem uoC_4 (κ : Nat → kT) (A N D : List (BitVec 8)) (mm : Nat) : uoC κ 4 A N D mm = 1 := by
  unfold uoC
  rw [if_pos (by decide), if_neg (by decide)]
  rfl
theorem uoL_5 (κ : Nat → kT) (N D : List (BitVec 8)) (mm : Nat) : uoL κ 5 N D mm = (stN (fbS (eK (κ 16)) 1 D) (rd N 0) (nbk D)).2 := by
  unfold uoL
  rw [if_pos (by decide), if_neg (by decide)]
  rfl
theorem uoC_5 (κ : Nat → kT) (A N D : List (BitVec 8)) (mm : Nat) : uoC κ 5 A N D mm = 1 := by
  unfold uoC
  rw [if_pos (by decide), if_neg (by decide)]
  rfl
theorem uoL_6 (κ : Nat → kT) (N D : List (BitVec 8)) (mm : Nat) : uoL κ 6 N D mm = (stN (foS (eK (κ 16)) 1 D) (rd N 0) D.length).2 := by
  unfold uoL
  rw [if_pos (by decide), if_neg (by decide)]
  rfl
theorem uoC_6 (κ : Nat → kT) (A N D : List (BitVec 8)) (mm : Nat) : uoC κ 6 A N D mm = 1 := by
  unfold uoC
  rw [if_pos (by decide), if_neg (by decide)]
  rfl
theorem uoL_7 (κ : Nat → kT) (N D : List (BitVec 8)) (mm : Nat) : uoL κ 7 N D mm = (stN (toS (eK (κ 16)) D) (rd N 0) (nbk D)).2 := by
  unfold uoL
  rw [if_pos (by decide), if_neg (by decide)]
  rfl
theorem uoC_7 (κ : Nat → kT) (A N D : List (BitVec 8)) (mm : Nat) : uoC κ 7 A N D mm = 1 := by
  unfold uoC
  rw [if_pos (by decide), if_neg (by decide)]
  rfl
theorem uoL_8 (κ : Nat → kT) (N D : List (BitVec 8)) (mm : Nat) : uoL κ 8 N D mm = (stN (ctS (eK (κ 16)) D) (rd N 0) (nbk D)).2 := by
  unfold uoL
  rw [if_pos (by decide), if_neg (by decide)]
  rfl
theorem uoC_8 (κ : Nat → kT) (A N D : List (BitVec 8)) (mm : Nat) : uoC κ 8 A N D mm = 1 := by
  unfold uoC
  rw [if_pos (by decide), if_neg (by decide)]
  rfl
theorem uoL_9 (κ : Nat → kT) (N D : List (BitVec 8)) (mm : Nat) : uoL κ 9 N D mm = scD (dK (κ 16)) D ((eK (κ 20)) (rd N 0)) := by
  unfold uoL
  rw [if_pos (by decide), if_neg (by decide)]
  rfl
theorem uoC_9 (κ : Nat → kT) (A N D : List (BitVec 8)) (mm : Nat) : uoC κ 9 A N D mm = 1 := by
  unfold uoC
  rw [if_pos (by decide), if_neg (by decide)]
  rfl
theorem uoL_10 (κ : Nat → kT) (N D : List (BitVec 8)) (mm : Nat) : uoL κ 10 N D mm = tk8 (uOut (dK (κ 16)) (D.length / 8 - 1) (e8 D 0, D) 6).2 := by
  unfold uoL
  rw [if_pos (by decide), if_neg (by decide)]
  rfl
theorem uoC_10 (κ : Nat → kT) (A N D : List (BitVec 8)) (mm : Nat) : uoC κ 10 A N D mm = if lg_cmp (uOut (dK (κ 16)) (D.length / 8 - 1) (e8 D 0, D) 6).1 (-6438275382588823898) = 0 then 1 else 0 := by
  unfold uoC
  rw [if_pos (by decide), if_neg (by decide)]
  rfl
theorem uoL_11 (κ : Nat → kT) (N D : List (BitVec 8)) (mm : Nat) : uoL κ 11 N D mm = pwR (dK (κ 16)) D := by
  unfold uoL
  rw [if_pos (by decide), if_neg (by decide)]
  rfl
theorem uoC_11 (κ : Nat → kT) (A N D : List (BitVec 8)) (mm : Nat) : uoC κ 11 A N D mm = if pwC (dK (κ 16)) D = 0 then 1 else 0 := by
  unfold uoC
  rw [if_pos (by decide), if_neg (by decide)]
  rfl
theorem uoL_12 (κ : Nat → kT) (N D : List (BitVec 8)) (mm : Nat) : uoL κ 12 N D mm = gcO (eK (κ 16)) (sl D 0 (D.length - mm)) (gJ ((eK (κ 16)) (0, 0)) N) := by
  unfold uoL
  rw [if_neg (by decide)]
  rfl
theorem uoC_12 (κ : Nat → kT) (A N D : List (BitVec 8)) (mm : Nat) : uoC κ 12 A N D mm = smI (kf (gTag (eK (κ 16)) A (sl D 0 (D.length - mm)) (sl D 0 (D.length - mm)) N) (nI mm)) (rd D (D.length - mm)) := by
  unfold uoC
  rw [if_neg (by decide)]
  rfl
theorem uoL_13 (κ : Nat → kT) (N D : List (BitVec 8)) (mm : Nat) : uoL κ 13 N D mm = ctO (eK (κ 16)) (sl D 0 (D.length - mm)) (one1 (cnB N (15 - N.length))) := by
  unfold uoL
  rw [if_neg (by decide)]
  rfl
theorem uoC_13 (κ : Nat → kT) (A N D : List (BitVec 8)) (mm : Nat) : uoC κ 13 A N D mm = smI (kf (cnT (eK (κ 16)) A N (ctO (eK (κ 16)) (sl D 0 (D.length - mm)) (one1 (cnB N (15 - N.length)))) (15 - N.length) mm) (nI mm)) (rd D (D.length - mm)) := by
  unfold uoC
  rw [if_neg (by decide)]
  rfl
theorem uoL_14 (κ : Nat → kT) (N D : List (BitVec 8)) (mm : Nat) : uoL κ 14 N D mm = ctO (eK (κ 16)) (sl D 0 (D.length - mm)) (macV (eK (κ 16)) (layN 0 N)) := by
  unfold uoL
  rw [if_neg (by decide)]
  rfl
theorem uoC_14 (κ : Nat → kT) (A N D : List (BitVec 8)) (mm : Nat) : uoC κ 14 A N D mm = smI (kf (twT (eK (κ 16)) A N (sl D 0 (D.length - mm))) (nI mm)) (rd D (D.length - mm)) := by
  unfold uoC
  rw [if_neg (by decide)]
  rfl
theorem uoL_15 (κ : Nat → kT) (N D : List (BitVec 8)) (mm : Nat) : uoL κ 15 N D mm = ctO (eK (κ 20)) (sl D 16 (D.length - 16)) (cfm (rd D 0)) := by
  unfold uoL
  rw [if_pos (by decide), if_pos rfl]
theorem uoC_15 (κ : Nat → kT) (A N D : List (BitVec 8)) (mm : Nat) : uoC κ 15 A N D mm = smI (mdV (eK (κ 16)) A N (ctO (eK (κ 20)) (sl D 16 (D.length - 16)) (cfm (rd D 0)))) (rd D 0) := by
  unfold uoC
  rw [if_pos (by decide), if_pos rfl]
theorem uoL_16 (κ : Nat → kT) (N D : List (BitVec 8)) (mm : Nat) : uoL κ 16 N D mm = (osF (eK (κ 16)) (dK (κ 16)) true (sl D 0 (D.length - mm)) (bgO (eK (κ 16)) N (nI mm))).2.2 := by
  unfold uoL
  rw [if_neg (by decide)]
  rfl
theorem uoC_16 (κ : Nat → kT) (A N D : List (BitVec 8)) (mm : Nat) : uoC κ 16 A N D mm = smI (kf (osTag (eK (κ 16)) (dK (κ 16)) true (sl D 0 (D.length - mm)) A (bgO (eK (κ 16)) N (nI mm))) (nI mm)) (rd D (D.length - mm)) := by
  unfold uoC
  rw [if_neg (by decide)]
  rfl
