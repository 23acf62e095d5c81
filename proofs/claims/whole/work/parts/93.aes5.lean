/-! E and D of the class are the reference's -/
theorem SO.cg {q : bP} {s t : sT} (h : SO q s) (e : ∀ k, k < 16 → s k = t k) : SO q t := fun k hk i hi => by rw [← e k hk]; exact h k hk i hi
theorem gB2_xor (x y : BitVec 8) : gB (x ^^^ y) 2 = gB x 2 ^^^ gB y 2 := by
  apply BitVec.eq_of_getLsbD_eq
  intro i hi
  rw [BitVec.getLsbD_xor, gB2_bit _ i hi, gB2_bit _ i hi, gB2_bit _ i hi, BitVec.getLsbD_xor, BitVec.getLsbD_xor]
  generalize x.getLsbD (i - 1) = c1
  generalize y.getLsbD (i - 1) = c2
  generalize x.getLsbD 7 = c3
  generalize y.getLsbD 7 = c4
  generalize (27 : BitVec 8).getLsbD i = c5
  generalize decide (i ≠ 0) = c6
  revert c1 c2 c3 c4 c5 c6
  decide
theorem gB_inv : ∀ x : BitVec 8, (gB x 14 = gB (gB (gB x 2) 2) 2 ^^^ gB (gB x 2) 2 ^^^ gB x 2 ∧ gB x 11 = gB (gB (gB x 2) 2) 2 ^^^ gB x 2 ^^^ x) ∧ (gB x 13 = gB (gB (gB x 2) 2) 2 ^^^ gB (gB x 2) 2 ^^^ x ∧ gB x 9 = gB (gB (gB x 2) 2) 2 ^^^ x) := by decide +kernel
def cl (k d : Nat) : Nat := 4 * (k / 4) + (k % 4 + d) % 4
def mx1 (s : sT) (k : Nat) : BitVec 8 := gB (s k) 2 ^^^ (gB (s (cl k 1)) 2 ^^^ s (cl k 1)) ^^^ s (cl k 2) ^^^ s (cl k 3)
theorem mx_1 (s : sT) : mxB 2 3 1 1 s = mx1 s := by
  funext k
  unfold mxB mx1 cl
  rw [(gB_13 _).2, (gB_13 (s (4 * (k / 4) + (k % 4 + 2) % 4))).1, (gB_13 (s (4 * (k / 4) + (k % 4 + 3) % 4))).1]
theorem cl_cl (k d e : Nat) : cl (cl k d) e = cl k (d + e) := by
  unfold cl
  omega
theorem cl_4 (k : Nat) : cl k 4 = k := by
  unfold cl
  omega
theorem cl_5 (k : Nat) : cl k 5 = cl k 1 := by
  unfold cl
  omega
theorem cl_6 (k : Nat) : cl k 6 = cl k 2 := by
  unfold cl
  omega
theorem mx_2 (s : sT) (k : Nat) : mx1 (mx1 s) k = gB (gB (s k) 2) 2 ^^^ s k ^^^ gB (gB (s (cl k 2)) 2) 2 := by
  unfold mx1
  simp only [cl_cl, Nat.reduceAdd, cl_4, cl_5, cl_6, gB2_xor]
  generalize s k = a
  generalize s (cl k 1) = b
  generalize s (cl k 2) = c
  generalize s (cl k 3) = d
  generalize gB (gB a 2) 2 = aa
  generalize gB (gB b 2) 2 = bb
  generalize gB (gB c 2) 2 = cc
  generalize gB a 2 = a1
  generalize gB b 2 = b1
  generalize gB c 2 = c1
  generalize gB d 2 = d1
  apply BitVec.eq_of_getLsbD_eq
  intro i hi
  simp only [BitVec.getLsbD_xor]
  generalize a.getLsbD i = x1
  generalize b.getLsbD i = x2
  generalize c.getLsbD i = x3
  generalize d.getLsbD i = x4
  generalize aa.getLsbD i = x5
  generalize bb.getLsbD i = x6
  generalize cc.getLsbD i = x7
  generalize a1.getLsbD i = x8
  generalize b1.getLsbD i = x9
  generalize c1.getLsbD i = y1
  generalize d1.getLsbD i = y2
  revert x1 x2 x3 x4 x5 x6 x7 x8 x9 y1 y2
  decide +kernel
theorem mx_3 (s : sT) : mxB 2 3 1 1 (mxB 2 3 1 1 (mxB 2 3 1 1 s)) = mxB 14 11 13 9 s := by
  rw [mx_1, mx_1, mx_1]
  have e : mx1 (mx1 s) = fun k => gB (gB (s k) 2) 2 ^^^ s k ^^^ gB (gB (s (cl k 2)) 2) 2 := by
    funext k
    exact mx_2 s k
  have e2 : mx1 (mx1 (mx1 s)) = mx1 (fun k => gB (gB (s k) 2) 2 ^^^ s k ^^^ gB (gB (s (cl k 2)) 2) 2) := by
    have r : ∀ t : sT, mx1 (mx1 (mx1 t)) = mx1 (mx1 (mx1 t)) := fun _ => rfl
    exact congrArg mx1 e
  rw [e2]
  funext k
  unfold mxB
  rw [(gB_inv (s k)).1.1, (gB_inv _).1.2, (gB_inv _).2.1, (gB_inv _).2.2]
  show mx1 _ k = _ ^^^ (gB (gB (gB (s (cl k 1)) 2) 2) 2 ^^^ gB (s (cl k 1)) 2 ^^^ s (cl k 1)) ^^^ (gB (gB (gB (s (cl k 2)) 2) 2) 2 ^^^ gB (gB (s (cl k 2)) 2) 2 ^^^ s (cl k 2)) ^^^ (gB (gB (gB (s (cl k 3)) 2) 2) 2 ^^^ s (cl k 3))
  unfold mx1
  simp only [cl_cl, Nat.reduceAdd, cl_4, cl_5, cl_6, gB2_xor]
  generalize s k = a
  generalize s (cl k 1) = b
  generalize s (cl k 2) = c
  generalize s (cl k 3) = d
  generalize gB (gB (gB a 2) 2) 2 = a3
  generalize gB (gB (gB b 2) 2) 2 = b3
  generalize gB (gB (gB c 2) 2) 2 = c3
  generalize gB (gB (gB d 2) 2) 2 = d3
  generalize gB (gB a 2) 2 = a2
  generalize gB (gB b 2) 2 = b2
  generalize gB (gB c 2) 2 = c2
  generalize gB (gB d 2) 2 = d2
  generalize gB a 2 = a1
  generalize gB b 2 = b1
  apply BitVec.eq_of_getLsbD_eq
  intro i hi
  simp only [BitVec.getLsbD_xor]
  generalize a.getLsbD i = x1
  generalize b.getLsbD i = x2
  generalize c.getLsbD i = x3
  generalize d.getLsbD i = x4
  generalize a3.getLsbD i = x5
  generalize b3.getLsbD i = x6
  generalize c3.getLsbD i = x7
  generalize d3.getLsbD i = x8
  generalize a2.getLsbD i = x9
  generalize b2.getLsbD i = y1
  generalize c2.getLsbD i = y2
  generalize d2.getLsbD i = y3
  generalize a1.getLsbD i = y4
  generalize b1.getLsbD i = y5
  revert x1 x2 x3 x4 x5 x6 x7 x8 x9 y1 y2 y3 y4 y5
  decide +kernel
theorem SO.mix3 {q : bP} {s : sT} (h : SO q s) : SO (mW (mW (mW q))) (mxB 14 11 13 9 s) := by
  have := h.mix.mix.mix
  rw [mx_3] at this
  exact this
/-- the slices of the round keys -/
def GK (g : Nat → Int64) (rk : sT) (R : Nat) : Prop := ∀ r, r ≤ R → SO (g (2 * r), g (2 * r + 1)) (fun k => rk (16 * r + k))
theorem SO.key {g : Nat → Int64} {rk : sT} {R : Nat} (G : GK g rk R) {q : bP} {s : sT} (h : SO q s) {r : Nat} (hr : r ≤ R) : SO (aK g r q) (arB rk r s) := by
  have h1 := SO.xor h (G r hr)
  have e1 : aK g r q = (q.1 ^^^ (g (2 * r), g (2 * r + 1)).1, q.2 ^^^ (g (2 * r), g (2 * r + 1)).2) := rfl
  have e2 : arB rk r s = fun k => s k ^^^ rk (16 * r + k) := rfl
  rw [e1, e2]
  exact h1
theorem E_SO {g : Nat → Int64} {rk : sT} {R : Nat} (G : GK g rk R) {q : bP} {s : sT} (h : SO q s) : ∀ r, r < R → SO (eR g q r) (sqR Bx rk R s r)
  | 0, hr => SO.key G h (by omega)
  | r + 1, hr => by
    show SO (aK g (r + 1) (mW (sR (bX (eR g q r))))) (arB rk (r + 1) (if r + 1 < R then mxB 2 3 1 1 (shB Bx (sqR Bx rk R s r)) else shB Bx (sqR Bx rk R s r)))
    rw [if_pos hr]
    exact SO.key G (SO.mix (SO.shift (SO.box (E_SO G h r (by omega))))) (by omega)
theorem E_ok {g : Nat → Int64} {rk : sT} {R : Nat} (hR : 1 ≤ R) (G : GK g rk R) (s : sT) {k : Nat} (hk : k < 16) : sqR Bx rk R s R k = ob (vE g R (mk s).1 (mk s).2) k := by
  have h0 : SO (vX8_split 0 0 (mk s).1 (mk s).2) s := (SO.split _ _).cg (fun k hk => ob_mk s hk)
  have h1 := SO.shift (SO.box (E_SO G h0 (R - 1) (by omega)))
  have h2 := SO.join (SO.key G h1 (Nat.le_refl R)) hk
  have e : sqR Bx rk R s R = arB rk R (shB Bx (sqR Bx rk R s (R - 1))) := by
    obtain ⟨r, rfl⟩ : ∃ r, R = r + 1 := ⟨R - 1, by omega⟩
    show arB rk (r + 1) (if r + 1 < r + 1 then _ else _) = _
    rw [if_neg (by omega)]
    rfl
  rw [e]
  exact h2.symm
def dX (rk : sT) (R : Nat) (s : sT) : Nat → sT
  | 0 => arB rk R s
  | t + 1 => mxB 14 11 13 9 (arB rk (R - 1 - t) (ush Cx (dX rk R s t)))
theorem D_SO {g : Nat → Int64} {rk : sT} {R : Nat} (G : GK g rk R) {q : bP} {s : sT} (h : SO q s) : ∀ t, t < R → SO (dR g R q t) (dX rk R s t)
  | 0, _ => SO.key G h (Nat.le_refl R)
  | t + 1, ht => SO.mix3 (SO.key G (SO.boxB (SO.shiftB (D_SO G h t (by omega)))) (by omega))
theorem dX_q (rk : sT) (R : Nat) (s : sT) : ∀ t, t < R → dqR Cx rk R s (t + 1) = ush Cx (dX rk R s t)
  | 0, h => by
    show ush Cx (if R - 0 < R then _ else arB rk (R - 0) s) = _
    rw [if_neg (by omega)]
    rfl
  | t + 1, h => by
    show ush Cx (if R - (t + 1) < R then mxB 14 11 13 9 (arB rk (R - (t + 1)) (dqR Cx rk R s (t + 1))) else _) = _
    rw [if_pos (by omega), dX_q rk R s t (by omega), show R - (t + 1) = R - 1 - t by omega]
    rfl
theorem D_ok {g : Nat → Int64} {rk : sT} {R : Nat} (hR : 1 ≤ R) (G : GK g rk R) (s : sT) {k : Nat} (hk : k < 16) : arB rk 0 (dqR Cx rk R s R) k = ob (vD g R (mk s).1 (mk s).2) k := by
  have h0 : SO (vX8_split 0 0 (mk s).1 (mk s).2) s := (SO.split _ _).cg (fun k hk => ob_mk s hk)
  have h1 := SO.boxB (SO.shiftB (D_SO G h0 (R - 1) (by omega)))
  have h2 := SO.join (SO.key G h1 (Nat.zero_le R)) hk
  have e := dX_q rk R s (R - 1) (by omega)
  rw [show R - 1 + 1 = R by omega] at e
  rw [e]
  exact h2.symm
theorem Kh_of {ψ : Nat → oA} {u R : Nat} {g : Nat → Int64} (hB : ∀ v : BitVec 8, ψ 65 v.toNat = Bx v) (hC : ∀ v : BitVec 8, ψ 66 v.toNat = Cx v) (hR : 1 ≤ R ∧ R ≤ 14) (h68 : oc (ψ 68 u) = nI R) (hu : u < 2) (G : GK g (fun j => ψ 67 (240 * u + j)) R) {κ : kT} (h1 : κ.2.1 = g) (h2 : κ.2.2 = R) : Kh ψ u (eK κ) (dK κ) := by
  refine ⟨Bx, Cx, fun j => ψ 67 (240 * u + j), R, hB, hC, fun _ _ => rfl, h68, hR, hu, fun s k hk => ?_, fun s k hk => ?_⟩
  · unfold eK
    rw [h1, h2]
    exact E_ok hR.1 G s hk
  · unfold dK
    rw [h1, h2]
    exact D_ok hR.1 G s hk
