/-! the reference's state: the object at place 61, its arrays at 62 .. 90 -/
abbrev mI : Type := Nat → Int32
/-- the numbers: 0 code, 1 tagSize, 2 resultSize, 3 n, 4 size, 5 startSize, 6 asideSize, 7 messageSize -/
def ui (i : mI) (k : Nat) (v : Int32) : mI := fun x => if x = k then v else i x
theorem ui_s (i : mI) (k : Nat) (v : Int32) : ui i k v k = v := if_pos rfl
theorem ui_n {i : mI} {k x : Nat} {v : Int32} (h : x ≠ k) : ui i k v x = i x := if_neg h
def isA (p : Nat) : Bool := Nat.ble 62 p && Nat.ble p 90
theorem isA_b {p : Nat} (h : isA p = true) : 62 ≤ p ∧ p ≤ 90 := by
  simp only [isA, Bool.and_eq_true, Nat.ble_eq] at h
  exact h
def mN (p : Nat) : Nat := if p = 62 then 2048 else if p = 63 then 4 else if p = 64 then 700 else if p = 65 then 256 else if p = 66 then 256 else if p = 67 then 480 else if p = 68 then 2 else if p = 71 then 700 else if p = 72 then 700 else if p = 73 then 64 else if p = 74 then 256 else if p = 84 then 700 else if p = 87 then 160 else if p = 90 then 24 else 16
theorem le_ite {c : Prop} [Decidable c] {a b m : Nat} (ha : a ≤ m) (hb : b ≤ m) : (if c then a else b) ≤ m := by
  by_cases h : c
  · rw [if_pos h]; exact ha
  · rw [if_neg h]; exact hb
theorem mN_le (p : Nat) : mN p ≤ 2048 := by
  unfold mN
  iterate 14 (refine le_ite (by omega) ?_)
  omega
abbrev oM (i : mI) : am_C := .inr (.inr (12, [.int (i 0), .ref 62, .ref 63, .int (i 1), .ref 64, .int (i 2), .ref 65, .ref 66, .ref 67, .ref 68, .ref 69, .ref 70, .ref 71, .int (i 3), .ref 72, .int (i 4), .ref 73, .int (i 5), .ref 74, .int (i 6), .ref 75, .ref 76, .ref 77, .ref 78, .ref 79, .ref 80, .ref 81, .ref 82, .ref 83, .ref 84, .int (i 7), .ref 85, .ref 86, .ref 87, .ref 88, .ref 89, .ref 90]))
abbrev fA : Type := Nat → Int32
def MS (h : am_H) (φ : Nat → fA) (i : mI) : Prop := (∀ p, isA p = true → h p = .inl (mN p, φ p)) ∧ h 61 = oM i
def uf (φ : Nat → fA) (p : Nat) (f : fA) : Nat → fA := fun x => if x = p then f else φ x
theorem uf_s (φ : Nat → fA) (p : Nat) (f : fA) : uf φ p f p = f := if_pos rfl
theorem uf_n {φ : Nat → fA} {p x : Nat} {f : fA} (h : x ≠ p) : uf φ p f x = φ x := if_neg h
theorem uf_uf (φ : Nat → fA) (p : Nat) (f g : fA) : uf (uf φ p f) p g = uf φ p g := by
  funext x
  unfold uf
  by_cases h : x = p <;> simp [h]
theorem uf_id (φ : Nat → fA) (p : Nat) : uf φ p (φ p) = φ := by
  funext x
  unfold uf
  by_cases h : x = p <;> simp [h]
/-- nothing of the class has changed -/
def FM (h h' : am_H) : Prop := ∀ x, x ≤ 60 → h' x = h x
theorem FM.rf (h : am_H) : FM h h := fun _ _ => rfl
theorem FM.tr {h h1 h2 : am_H} (a : FM h h1) (b : FM h1 h2) : FM h h2 := fun x hx => (b x hx).trans (a x hx)
def mQ (h : am_H) (v : Option Value) (φ : Nat → fA) (i : mI) : am_H → Option Value → Prop := fun h' q => q = v ∧ MS h' φ i ∧ FM h h'
theorem MS.setA {h h' : am_H} {φ : Nat → fA} {i : mI} {p : Nat} {f : fA} (S : MS h φ i) (hp : isA p = true) (h1 : h' p = .inl (mN p, f)) (hF : ∀ x, x ≠ p → h' x = h x) : MS h' (uf φ p f) i := by
  have hb := isA_b hp
  refine ⟨fun x hx => ?_, (hF 61 (by omega)).trans S.2⟩
  by_cases e : x = p
  · subst e
    rw [uf_s]
    exact h1
  · rw [uf_n e]
    exact (hF x e).trans (S.1 x hx)
theorem MS.setI {h h' : am_H} {φ : Nat → fA} {i j : mI} (S : MS h φ i) (h1 : h' 61 = oM j) (hF : ∀ x, x ≠ 61 → h' x = h x) : MS h' φ j :=
  ⟨fun x hx => (hF x (by have := isA_b hx; omega)).trans (S.1 x hx), h1⟩
theorem fmA {h h' : am_H} {p : Nat} (hp : isA p = true) (hF : ∀ x, x ≠ p → h' x = h x) : FM h h' := fun x hx => hF x (by have := isA_b hp; omega)
theorem fmI {h h' : am_H} (hF : ∀ x, x ≠ 61 → h' x = h x) : FM h h' := fun x hx => hF x (by omega)
/-- copy, add and clear -/
def cpF (f : fA) (b : Nat) (g : fA) (t n : Nat) : fA := fun i => if t ≤ i ∧ i < t + n then f (b + (i - t)) else g i
def adF (f : fA) (b : Nat) (g : fA) (t n : Nat) : fA := fun i => if t ≤ i ∧ i < t + n then g i ^^^ f (b + (i - t)) else g i
def clF (g : fA) (b t : Nat) : fA := fun i => if b ≤ i ∧ i < t then 0 else g i
theorem cpF_0 (f : fA) (b : Nat) (g : fA) (t : Nat) : cpF f b g t 0 = g := by
  funext i
  unfold cpF
  rw [if_neg (by omega)]
theorem adF_0 (f : fA) (b : Nat) (g : fA) (t : Nat) : adF f b g t 0 = g := by
  funext i
  unfold adF
  rw [if_neg (by omega)]
theorem clF_0 (g : fA) (b : Nat) : clF g b b = g := by
  funext i
  unfold clF
  rw [if_neg (by omega)]
theorem cpF_up (f : fA) (b : Nat) (g : fA) (t k : Nat) {v : Int32} (hv : v = f (b + k)) : upd (cpF f b g t k) (t + k) v = cpF f b g t (k + 1) := by
  funext i
  unfold upd cpF
  by_cases e : i = t + k
  · rw [if_pos e, if_pos (by omega), hv, show i - t = k by omega]
  · rw [if_neg e]
    by_cases e2 : t ≤ i ∧ i < t + k
    · rw [if_pos e2, if_pos (by omega)]
    · rw [if_neg e2, if_neg (by omega)]
theorem adF_up (f : fA) (b : Nat) (g : fA) (t k : Nat) : upd (adF f b g t k) (t + k) (adF f b g t k (t + k) ^^^ f (b + k)) = adF f b g t (k + 1) := by
  have e0 : adF f b g t k (t + k) = g (t + k) := by unfold adF; rw [if_neg (by omega)]
  rw [e0]
  funext i
  unfold upd adF
  by_cases e : i = t + k
  · rw [if_pos e, if_pos (by omega), show i - t = k by omega, e]
  · rw [if_neg e]
    by_cases e2 : t ≤ i ∧ i < t + k
    · rw [if_pos e2, if_pos (by omega)]
    · rw [if_neg e2, if_neg (by omega)]
theorem clF_up (g : fA) (b k : Nat) (h : b ≤ k) : upd (clF g b k) k 0 = clF g b (k + 1) := by
  funext i
  unfold upd clF
  by_cases e : i = k
  · rw [if_pos e, if_pos (by omega)]
  · rw [if_neg e]
    by_cases e2 : b ≤ i ∧ i < k
    · rw [if_pos e2, if_pos (by omega)]
    · rw [if_neg e2, if_neg (by omega)]
