/-! words for blocks and modes, as the class makes them -/
def xb (p q : bP) : bP := (p.1 ^^^ q.1, p.2 ^^^ q.2)
def rd (L : List (BitVec 8)) (j : Nat) : bP := (e8 L j, e8 L (j + 8))
def eK (k : kT) (q : bP) : bP := vE k.2.1 k.2.2 q.1 q.2
def dK (k : kT) (q : bP) : bP := vD k.2.1 k.2.2 q.1 q.2
def bt (q : bP) (m : Nat) : List (BitVec 8) := bos q.1 q.2 m
def bs (q : bP) : List (BitVec 8) := bt q 16
theorem bt_len (q : bP) (m : Nat) : (bt q m).length = m := bos_len _ _ _
def pdd (k : Nat) (L : List (BitVec 8)) : List (BitVec 8) := L ++ List.replicate (pad2 L.length k) 0
def bo2 (q : bP) (i : Int32) : Int32 := vX0_octetAt q.1 q.2 i
def smI (p q : bP) : Int32 := vX0_same p.1 p.2 q.1 q.2
def bci (q : bP) (v : Int32) : bP := vX0_comeIn q.1 q.2 v
def dbl (q : bP) : bP := vX0_makeDouble q.1 q.2
def dblL (q : bP) : bP := vX0_makeDoubleLowFirst q.1 q.2
def one1 (q : bP) : bP := vX0_addOne q.1 q.2
def one4 (q : bP) : bP := vX0_addOneToLastFour q.1 q.2
def kf (q : bP) (v : Int32) : bP := vX0_keepFirst q.1 q.2 v
def df (q : bP) (v : Int32) : bP := vX0_dropFirst q.1 q.2 v
def aoc (q : bP) (i v : Int32) : bP := vX0_addOctet q.1 q.2 i v
def gmu (p q : bP) : bP := vX0_multiply p.1 p.2 q.1 q.2
theorem ur_up2 {ρ : Nat → List (BitVec 8)} {r s : Nat} (hrs : s ≠ r) (A B C : List (BitVec 8)) : ur (ur (ur ρ r A) s B) r C = ur (ur ρ r C) s B := by
  rw [ur_sw hrs, ur_ur]
/-- a cipher that has its rounds -/
def kOk (k : kT) : Prop := 1 ≤ k.2.2 ∧ k.2.2 ≤ 14
/-- what a call leaves behind, the blocks of sc being free -/
def SX (h : am_H) (τ : Nat × Nat × Nat) (v : Option Value) (ρ : Nat → List (BitVec 8)) (β : Nat → bP) (κ : Nat → kT) (sc : List Nat) : am_H → Option Value → Prop := fun h' q => ∃ β' : Nat → bP, (∀ a, a ∉ sc → β' a = β a) ∧ SQ h τ v ρ β' κ h' q
def nbk (L : List (BitVec 8)) : Nat := (L.length + 15) / 16
theorem nbk_b (L : List (BitVec 8)) : 16 * nbk L ≤ L.length + 15 ∧ L.length ≤ 16 * nbk L := by unfold nbk; omega
def bkN (F : bP → bP) (L : List (BitVec 8)) : Nat → List (BitVec 8)
  | 0 => []
  | t + 1 => bkN F L t ++ bt (F (rd L (16 * t))) 16
theorem bkN_len (F : bP → bP) (L : List (BitVec 8)) : ∀ t, (bkN F L t).length = 16 * t
  | 0 => rfl
  | t + 1 => by
    show (bkN F L t ++ bt _ 16).length = _
    rw [List.length_append, bkN_len F L t, bt_len]
    omega
def chN (F : bP → bP) (iv : bP) (L : List (BitVec 8)) : Nat → bP × List (BitVec 8)
  | 0 => (iv, [])
  | t + 1 => let c := F (xb (rd L (16 * t)) (chN F iv L t).1)
    (c, (chN F iv L t).2 ++ bt c 16)
theorem chN_len (F : bP → bP) (iv : bP) (L : List (BitVec 8)) : ∀ t, (chN F iv L t).2.length = 16 * t
  | 0 => rfl
  | t + 1 => by
    show ((chN F iv L t).2 ++ bt _ 16).length = _
    rw [List.length_append, chN_len F iv L t, bt_len]
    omega
def ucN (G : bP → bP) (iv : bP) (L : List (BitVec 8)) : Nat → bP × List (BitVec 8)
  | 0 => (iv, [])
  | t + 1 => (rd L (16 * t), (ucN G iv L t).2 ++ bt (xb (G (rd L (16 * t))) (ucN G iv L t).1) 16)
theorem ucN_len (G : bP → bP) (iv : bP) (L : List (BitVec 8)) : ∀ t, (ucN G iv L t).2.length = 16 * t
  | 0 => rfl
  | t + 1 => by
    show ((ucN G iv L t).2 ++ bt _ 16).length = _
    rw [List.length_append, ucN_len G iv L t, bt_len]
    omega
