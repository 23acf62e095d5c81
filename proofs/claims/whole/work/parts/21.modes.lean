/-! words for blocks and modes, as the class makes them -/
def xb (p q : bP) : bP := (p.1 ^^^ q.1, p.2 ^^^ q.2)
def rd (L : List (BitVec 8)) (j : Nat) : bP := (e8 L j, e8 L (j + 8))
def eK (k : kT) (q : bP) : bP := vE k.2.1 k.2.2 q.1 q.2
def dK (k : kT) (q : bP) : bP := vD k.2.1 k.2.2 q.1 q.2
def bt (q : bP) (m : Nat) : List (BitVec 8) := bos q.1 q.2 m
def bs (q : bP) : List (BitVec 8) := bt q 16
theorem bt_len (q : bP) (m : Nat) : (bt q m).length = m := bos_len _ _ _
def pdd (k : Nat) (L : List (BitVec 8)) : List (BitVec 8) := L ++ List.replicate (pad2 L.length k) 0
def bo2 (q : bP) (i : Int32) : Int32 := vX0_octetAt q.1 q.2 i
def smI (p q : bP) : Int32 := vX0_same p.1 p.2 q.1 q.2
def bci (q : bP) (v : Int32) : bP := vX0_comeIn q.1 q.2 v
def dbl (q : bP) : bP := vX0_makeDouble q.1 q.2
def dblL (q : bP) : bP := vX0_makeDoubleLowFirst q.1 q.2
def one1 (q : bP) : bP := vX0_addOne q.1 q.2
def one4 (q : bP) : bP := vX0_addOneToLastFour q.1 q.2
def kf (q : bP) (v : Int32) : bP := vX0_keepFirst q.1 q.2 v
def df (q : bP) (v : Int32) : bP := vX0_dropFirst q.1 q.2 v
def aoc (q : bP) (i v : Int32) : bP := vX0_addOctet q.1 q.2 i v
def gmu (p q : bP) : bP := vX0_multiply p.1 p.2 q.1 q.2
theorem ur_up2 {ρ : Nat → List (BitVec 8)} {r s : Nat} (hrs : s ≠ r) (A B C : List (BitVec 8)) : ur (ur (ur ρ r A) s B) r C = ur (ur ρ r C) s B := by
  rw [ur_sw hrs, ur_ur]
/-- a cipher that has its rounds -/
def kOk (k : kT) : Prop := 1 ≤ k.2.2 ∧ k.2.2 ≤ 14
/-- what a call leaves behind, the blocks of sc being free -/
def SX (h : am_H) (τ : Nat × Nat × Nat) (v : Option Value) (ρ : Nat → List (BitVec 8)) (β : Nat → bP) (κ : Nat → kT) (sc : List Nat) : am_H → Option Value → Prop := fun h' q => ∃ β' : Nat → bP, (∀ a, a ∉ sc → β' a = β a) ∧ SQ h τ v ρ β' κ h' q
def nbk (L : List (BitVec 8)) : Nat := (L.length + 15) / 16
theorem nbk_b (L : List (BitVec 8)) : 16 * nbk L ≤ L.length + 15 ∧ L.length ≤ 16 * nbk L := by unfold nbk; omega
def bkN (F : bP → bP) (L : List (BitVec 8)) : Nat → List (BitVec 8)
  | 0 => []
  | t + 1 => bkN F L t ++ bt (F (rd L (16 * t))) 16
theorem bkN_len (F : bP → bP) (L : List (BitVec 8)) : ∀ t, (bkN F L t).length = 16 * t
  | 0 => rfl
  | t + 1 => by
    show (bkN F L t ++ bt _ 16).length = _
    rw [List.length_append, bkN_len F L t, bt_len]
    omega
/-- steps that carry a block and lay octets -/
def stN (f : Nat → bP → bP × List (BitVec 8)) (x : bP) : Nat → bP × List (BitVec 8)
  | 0 => (x, [])
  | i + 1 => ((f i (stN f x i).1).1, (stN f x i).2 ++ (f i (stN f x i).1).2)
theorem ub_id (β : Nat → bP) (a : Nat) : ub β a (β a) = β := by
  funext x
  unfold ub
  by_cases h : x = a <;> simp [h]
theorem Sys.know {h : am_H} {ρ : Nat → List (BitVec 8)} {β : Nat → bP} {κ : Nat → kT} {τ : Nat × Nat × Nat} (S : Sys h ρ β κ τ) {a : Nat} {v : bP} (e : β a = v) : Sys h ρ (ub β a v) κ τ := by
  subst e
  rw [ub_id]
  exact S
theorem stN_len {f : Nat → bP → bP × List (BitVec 8)} {x : bP} (hf : ∀ i y, (f i y).2.length = 16) : ∀ t, (stN f x t).2.length = 16 * t
  | 0 => rfl
  | t + 1 => by
    show ((stN f x t).2 ++ (f t (stN f x t).1).2).length = _
    rw [List.length_append, stN_len hf t, hf]
    omega
/-- how many octets of block i there are -/
def mnb (L : List (BitVec 8)) (i : Nat) : Nat := min 16 (L.length - 16 * i)
theorem stN_lenM {f : Nat → bP → bP × List (BitVec 8)} {x : bP} (L : List (BitVec 8)) (hf : ∀ i y, (f i y).2.length = mnb L i) : ∀ t, (stN f x t).2.length = min L.length (16 * t)
  | 0 => by simp [stN]
  | t + 1 => by
    show ((stN f x t).2 ++ (f t (stN f x t).1).2).length = _
    rw [List.length_append, stN_lenM L hf t, hf]
    unfold mnb
    omega
theorem mnb_I {L : List (BitVec 8)} {i : Nat} (h : 16 * i ≤ L.length) (hL : L.length < 2 ^ 30) : (if nI L.length - nI (16 * i) < 16 then nI L.length - nI (16 * i) else 16) = nI (mnb L i) := by
  rw [pk_sub h, show (16 : Int32) = nI 16 from rfl]
  unfold mnb
  by_cases hc : L.length - 16 * i < 16
  · rw [if_pos (show nI (L.length - 16 * i) < nI 16 from nI_lt hc (by omega)), Nat.min_eq_right (by omega)]
  · rw [if_neg (show ¬ nI (L.length - 16 * i) < nI 16 from nI_nlt (by omega) (by omega)), Nat.min_eq_left (by omega)]
def chS (F : bP → bP) (L : List (BitVec 8)) (i : Nat) (x : bP) : bP × List (BitVec 8) := let c := F (xb (rd L (16 * i)) x); (c, bt c 16)
def ucS (G : bP → bP) (L : List (BitVec 8)) (i : Nat) (x : bP) : bP × List (BitVec 8) := (rd L (16 * i), bt (xb (G (rd L (16 * i))) x) 16)
def fbS (F : bP → bP) (op : Int32) (L : List (BitVec 8)) (i : Nat) (x : bP) : bP × List (BitVec 8) := (if op = 0 then xb (rd L (16 * i)) (F x) else rd L (16 * i), bt (xb (rd L (16 * i)) (F x)) (mnb L i))
def toS (F : bP → bP) (L : List (BitVec 8)) (i : Nat) (x : bP) : bP × List (BitVec 8) := (F x, bt (xb (rd L (16 * i)) (F x)) (mnb L i))
def ctS (F : bP → bP) (L : List (BitVec 8)) (i : Nat) (x : bP) : bP × List (BitVec 8) := (one1 x, bt (xb (rd L (16 * i)) (F x)) (mnb L i))
def gcS (F : bP → bP) (L : List (BitVec 8)) (i : Nat) (x : bP) : bP × List (BitVec 8) := (one4 x, bt (xb (rd L (16 * i)) (F (one4 x))) (mnb L i))
theorem chS_len (F : bP → bP) (L : List (BitVec 8)) (i : Nat) (x : bP) : (chS F L i x).2.length = 16 := bt_len _ _
theorem ucS_len (G : bP → bP) (L : List (BitVec 8)) (i : Nat) (x : bP) : (ucS G L i x).2.length = 16 := bt_len _ _
theorem fbS_len (F : bP → bP) (op : Int32) (L : List (BitVec 8)) (i : Nat) (x : bP) : (fbS F op L i x).2.length = mnb L i := bt_len _ _
theorem toS_len (F : bP → bP) (L : List (BitVec 8)) (i : Nat) (x : bP) : (toS F L i x).2.length = mnb L i := bt_len _ _
theorem ctS_len (F : bP → bP) (L : List (BitVec 8)) (i : Nat) (x : bP) : (ctS F L i x).2.length = mnb L i := bt_len _ _
theorem gcS_len (F : bP → bP) (L : List (BitVec 8)) (i : Nat) (x : bP) : (gcS F L i x).2.length = mnb L i := bt_len _ _
