/-! the whole object: rows, blocks, ciphers at their places -/
abbrev bP : Type := Int64 × Int64
abbrev B2 (q : bP) : am_C := .inr (.inr (0, [.long q.1, .long q.2]))
def isRw (r : Nat) : Bool := r == 2 || r == 4 || r == 6 || r == 8 || r == 10 || r == 12 || r == 14 || r == 24
def rwN (r : Nat) : Nat := if r = 2 then 64 else if r = 4 then 512 else if r = 6 then 64 else if r = 8 then 256 else if r = 10 then 512 else if r = 12 then 528 else if r = 14 then 528 else 800
def isBk (a : Nat) : Bool := Nat.ble 27 a && Nat.ble a 60 && !(a == 30) && !(a == 34) && !(a == 39) && !(a == 41) && !(a == 47) && !(a == 51)
theorem rw_cases {r : Nat} (h : isRw r = true) : r = 2 ∨ r = 4 ∨ r = 6 ∨ r = 8 ∨ r = 10 ∨ r = 12 ∨ r = 14 ∨ r = 24 := by
  simp only [isRw, Bool.or_eq_true, beq_iff_eq] at h
  omega
theorem bk_cases {a : Nat} (h : isBk a = true) : 27 ≤ a ∧ a ≤ 60 ∧ a ≠ 30 ∧ a ≠ 34 ∧ a ≠ 39 ∧ a ≠ 41 ∧ a ≠ 47 ∧ a ≠ 51 := by
  simp only [isBk, Bool.and_eq_true, Nat.ble_eq, Bool.not_eq_true', beq_eq_false_iff_ne] at h
  omega
theorem rwN_le (r : Nat) : rwN r ≤ 1000 := by
  unfold rwN
  repeat' split
  all_goals omega
abbrev kT : Type := (Nat → Int32) × (Nat → Int64) × Nat
abbrev o26 : am_C := .inr (.inr (1, [.ref 16, .ref 6, .ref 24, .ref 27, .ref 28, .ref 29]))
abbrev o30 : am_C := .inr (.inr (9, [.ref 16, .ref 6, .ref 31, .ref 32, .ref 33]))
abbrev o34 : am_C := .inr (.inr (7, [.ref 16, .ref 20, .ref 6, .ref 35, .ref 36, .ref 37, .ref 38]))
abbrev o39 : am_C := .inr (.inr (10, [.ref 16, .ref 40]))
abbrev o41 : am_C := .inr (.inr (3, [.ref 16, .ref 6, .ref 8, .ref 42, .ref 43, .ref 44, .ref 45, .ref 46]))
abbrev o47 : am_C := .inr (.inr (4, [.ref 16, .ref 20, .ref 30, .ref 6, .ref 8, .ref 24, .ref 48, .ref 49, .ref 50]))
abbrev o51 : am_C := .inr (.inr (5, [.ref 16, .ref 6, .ref 8, .ref 52, .ref 53, .ref 54, .ref 55, .ref 56, .ref 57, .ref 58]))
abbrev o1 (τ : Nat × Nat × Nat) : am_C := .inr (.inr (11, [.ref 2, .ref 4, .ref 6, .ref 8, .ref 10, .ref τ.1, .ref τ.2.1, .int (nI τ.2.2), .ref 16, .ref 20, .ref 26, .ref 30, .ref 34, .ref 39, .ref 41, .ref 47, .ref 51, .ref 59, .ref 60]))
def objOk (h : am_H) (τ : Nat × Nat × Nat) : Prop := h 26 = o26 ∧ h 30 = o30 ∧ h 34 = o34 ∧ h 39 = o39 ∧ h 41 = o41 ∧ h 47 = o47 ∧ h 51 = o51 ∧ h 1 = o1 τ
def Sys (h : am_H) (ρ : Nat → List (BitVec 8)) (β : Nat → bP) (κ : Nat → kT) (τ : Nat × Nat × Nat) : Prop :=
  (∀ r, isRw r = true → rowAt h r (rwN r) (ρ r)) ∧ (∀ a, isBk a = true → h a = B2 (β a)) ∧ (∀ c, c = 16 ∨ c = 20 → cipAt h c (κ c).1 (κ c).2.1 (κ c).2.2) ∧ objOk h τ
/-- nothing behind the class's own cells has changed -/
def Fr (h h' : am_H) : Prop := ∀ x, 60 < x → h' x = h x
theorem Fr.rf (h : am_H) : Fr h h := fun _ _ => rfl
theorem Fr.tr {h h1 h2 : am_H} (a : Fr h h1) (b : Fr h1 h2) : Fr h h2 := fun x hx => (b x hx).trans (a x hx)
def ub (β : Nat → bP) (a : Nat) (v : bP) : Nat → bP := fun x => if x = a then v else β x
def ur (ρ : Nat → List (BitVec 8)) (r : Nat) (L : List (BitVec 8)) : Nat → List (BitVec 8) := fun x => if x = r then L else ρ x
def uk (κ : Nat → kT) (c : Nat) (v : kT) : Nat → kT := fun x => if x = c then v else κ x
theorem ub_s (β : Nat → bP) (a : Nat) (v : bP) : ub β a v a = v := if_pos rfl
theorem ub_n {β : Nat → bP} {a x : Nat} {v : bP} (h : x ≠ a) : ub β a v x = β x := if_neg h
theorem ur_s (ρ : Nat → List (BitVec 8)) (r : Nat) (L : List (BitVec 8)) : ur ρ r L r = L := if_pos rfl
theorem ur_n {ρ : Nat → List (BitVec 8)} {r x : Nat} {L : List (BitVec 8)} (h : x ≠ r) : ur ρ r L x = ρ x := if_neg h
theorem ur_ur (ρ : Nat → List (BitVec 8)) (r : Nat) (L L' : List (BitVec 8)) : ur (ur ρ r L) r L' = ur ρ r L' := by
  funext x
  unfold ur
  by_cases h : x = r <;> simp [h]
theorem ur_id (ρ : Nat → List (BitVec 8)) (r : Nat) : ur ρ r (ρ r) = ρ := by
  funext x
  unfold ur
  by_cases h : x = r <;> simp [h]
theorem ur_sw {ρ : Nat → List (BitVec 8)} {r s : Nat} (hrs : r ≠ s) (L L' : List (BitVec 8)) : ur (ur ρ r L) s L' = ur (ur ρ s L') r L := by
  funext x
  unfold ur
  by_cases h : x = r
  · subst h
    simp [hrs]
  · by_cases h2 : x = s
    · subst h2
      simp [h]
    · simp [h, h2]
theorem objOk.mv {h h' : am_H} {τ : Nat × Nat × Nat} (o : objOk h τ) (hf : ∀ x, x = 26 ∨ x = 30 ∨ x = 34 ∨ x = 39 ∨ x = 41 ∨ x = 47 ∨ x = 51 ∨ x = 1 → h' x = h x) : objOk h' τ := by
  obtain ⟨a1, a2, a3, a4, a5, a6, a7, a8⟩ := o
  exact ⟨(hf 26 (by decide)).trans a1, (hf 30 (by decide)).trans a2, (hf 34 (by decide)).trans a3, (hf 39 (by decide)).trans a4, (hf 41 (by decide)).trans a5, (hf 47 (by decide)).trans a6, (hf 51 (by decide)).trans a7, (hf 1 (by decide)).trans a8⟩
section SYS
variable {h h' : am_H} {ρ : Nat → List (BitVec 8)} {β : Nat → bP} {κ : Nat → kT} {τ : Nat × Nat × Nat}
theorem Sys.setB (S : Sys h ρ β κ τ) {a : Nat} {v : bP} (ha : isBk a = true) (h1 : h' a = B2 v) (hF : ∀ x, x ≠ a → h' x = h x) : Sys h' ρ (ub β a v) κ τ := by
  obtain ⟨s1, s2, s3, s4⟩ := S
  have hb := bk_cases ha
  refine ⟨fun r hr => ?_, fun b hb' => ?_, fun c hc => ?_, s4.mv (fun x hx => hF x (by omega))⟩
  · have := rw_cases hr
    exact (s1 r hr).move (hF r (by omega)) (hF (r + 1) (by omega))
  · by_cases hba : b = a
    · subst hba
      rw [ub_s]
      exact h1
    · rw [ub_n hba]
      exact (hF b hba).trans (s2 b hb')
  · exact (s3 c hc).move (hF c (by omega)) (hF (c + 1) (by omega)) (hF (c + 2) (by omega)) (hF (c + 3) (by omega))
theorem Sys.setR (S : Sys h ρ β κ τ) {r : Nat} {L : List (BitVec 8)} (hr : isRw r = true) (h1 : rowAt h' r (rwN r) L) (hF : ∀ x, x ≠ r → x ≠ r + 1 → h' x = h x) : Sys h' (ur ρ r L) β κ τ := by
  obtain ⟨s1, s2, s3, s4⟩ := S
  have hb := rw_cases hr
  refine ⟨fun q hq => ?_, fun b hb' => ?_, fun c hc => ?_, s4.mv (fun x hx => hF x (by omega) (by omega))⟩
  · by_cases hqr : q = r
    · subst hqr
      rw [ur_s]
      exact h1
    · rw [ur_n hqr]
      have := rw_cases hq
      exact (s1 q hq).move (hF q (by omega) (by omega)) (hF (q + 1) (by omega) (by omega))
  · have := bk_cases hb'
    exact (hF b (by omega) (by omega)).trans (s2 b hb')
  · exact (s3 c hc).move (hF c (by omega) (by omega)) (hF (c + 1) (by omega) (by omega)) (hF (c + 2) (by omega) (by omega)) (hF (c + 3) (by omega) (by omega))
theorem Sys.setE (S : Sys h ρ β κ τ) {c b : Nat} {v : bP} (hc : c = 16 ∨ c = 20) (hb : isBk b = true) (h1 : h' b = B2 v) (h2 : ∃ x y, h' (c + 3) = .inr (.inr (8, [.long x, .long y]))) (hF : ∀ x, x ≠ c + 3 → x ≠ b → h' x = h x) : Sys h' ρ (ub β b v) κ τ := by
  obtain ⟨s1, s2, s3, s4⟩ := S
  have hbb := bk_cases hb
  refine ⟨fun r hr => ?_, fun b' hb' => ?_, fun c' hc' => ?_, s4.mv (fun x hx => hF x (by omega) (by omega))⟩
  · have := rw_cases hr
    exact (s1 r hr).move (hF r (by omega) (by omega)) (hF (r + 1) (by omega) (by omega))
  · by_cases hba : b' = b
    · subst hba
      rw [ub_s]
      exact h1
    · rw [ub_n hba]
      have := bk_cases hb'
      exact (hF b' (by omega) hba).trans (s2 b' hb')
  · by_cases hcc : c' = c
    · subst hcc
      obtain ⟨q1, q2, q3, q4⟩ := s3 c' hc'
      exact ⟨(hF c' (by omega) (by omega)).trans q1, (hF _ (by omega) (by omega)).trans q2, (hF _ (by omega) (by omega)).trans q3, h2⟩
    · exact (s3 c' hc').move (hF c' (by omega) (by omega)) (hF _ (by omega) (by omega)) (hF _ (by omega) (by omega)) (hF _ (by omega) (by omega))
theorem Sys.setC (S : Sys h ρ β κ τ) {c : Nat} {v : kT} (hc : c = 16 ∨ c = 20) (h1 : cipAt h' c v.1 v.2.1 v.2.2) (hF : ∀ x, x ≠ c → x ≠ c + 1 → x ≠ c + 2 → x ≠ c + 3 → h' x = h x) : Sys h' ρ β (uk κ c v) τ := by
  obtain ⟨s1, s2, s3, s4⟩ := S
  refine ⟨fun r hr => ?_, fun b' hb' => ?_, fun c' hc' => ?_, s4.mv (fun x hx => hF x (by omega) (by omega) (by omega) (by omega))⟩
  · have := rw_cases hr
    exact (s1 r hr).move (hF r (by omega) (by omega) (by omega) (by omega)) (hF (r + 1) (by omega) (by omega) (by omega) (by omega))
  · have := bk_cases hb'
    exact (hF b' (by omega) (by omega) (by omega) (by omega)).trans (s2 b' hb')
  · by_cases hcc : c' = c
    · subst hcc
      unfold uk
      rw [if_pos rfl]
      exact h1
    · unfold uk
      rw [if_neg hcc]
      exact (s3 c' hc').move (hF c' (by omega) (by omega) (by omega) (by omega)) (hF _ (by omega) (by omega) (by omega) (by omega)) (hF _ (by omega) (by omega) (by omega) (by omega)) (hF _ (by omega) (by omega) (by omega) (by omega))
theorem Sys.rowO (S : Sys h ρ β κ τ) (r : Nat) (hr : isRw r = true) : h r = .inr (.inr (6, [.ref (r + 1), .int (nI (ρ r).length)])) := (S.1 r hr).2.2.1
theorem Sys.rowL (S : Sys h ρ β κ τ) (r : Nat) (hr : isRw r = true) : (ρ r).length ≤ rwN r := (S.1 r hr).1
theorem Sys.len (S : Sys h ρ β κ τ) (r : Nat) (hr : isRw r = true) : (ρ r).length ≤ 1000 := Nat.le_trans (S.1 r hr).1 (rwN_le r)
theorem Sys.blk (S : Sys h ρ β κ τ) (a : Nat) (ha : isBk a = true) : h a = B2 (β a) := S.2.1 a ha
end SYS
section SCALL
variable {l : Launch} {w : am_W} {h : am_H} {n : Nat} {ρ : Nat → List (BitVec 8)} {β : Nat → bP} {κ : Nat → kT} {τ : Nat × Nat × Nat}
theorem RH.mono {μ : am_M} {as : List Value} {Q Q' : am_H → Option Value → Prop} (hM : RH l w μ h n as Q) (hq : ∀ h' r, Q h' r → Q' h' r) : RH l w μ h n as Q' := RC.mono hM (fun _ _ _ q => ⟨q.1, hq _ _ q.2⟩)
/-- what a call leaves behind: an answer, a new state of the object -/
def SQ (h : am_H) (τ : Nat × Nat × Nat) (v : Option Value) (ρ : Nat → List (BitVec 8)) (β : Nat → bP) (κ : Nat → kT) : am_H → Option Value → Prop := fun h' q => q = v ∧ Sys h' ρ β κ τ ∧ Fr h h'
theorem frB {h' : am_H} {a : Nat} (ha : isBk a = true) (hF : ∀ x, x ≠ a → h' x = h x) : Fr h h' := fun x hx => hF x (by have := bk_cases ha; omega)
theorem frR {h' : am_H} {r : Nat} (hr : isRw r = true) (hF : ∀ x, x ≠ r → x ≠ r + 1 → h' x = h x) : Fr h h' := fun x hx => hF x (by have := rw_cases hr; omega) (by have := rw_cases hr; omega)
/-- the row r as a list: the facts that Row's contracts want -/
theorem rwB {r : Nat} (hr : isRw r = true) (hn : 60 ≤ n) : 0 < r ∧ r + 1 ≤ n := by have := rw_cases hr; omega
theorem bkB {a : Nat} (ha : isBk a = true) (hn : 60 ≤ n) : 0 < a ∧ a ≤ n := by have := bk_cases ha; omega
theorem bkR {a r : Nat} (ha : isBk a = true) (hr : isRw r = true) : a ≠ r ∧ a ≠ r + 1 := by have := bk_cases ha; have := rw_cases hr; omega
theorem rwR {r s : Nat} (hr : isRw r = true) (hs : isRw s = true) (h : s ≠ r) : s ≠ r ∧ s ≠ r + 1 ∧ s + 1 ≠ r := by have := rw_cases hr; have := rw_cases hs; omega
end SCALL
