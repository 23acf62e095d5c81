/-! the law: rows for the script -/
section RSCR
variable {l : Launch} {w : am_W} {μ : am_M} {h : am_H} {n k z pc : Nat} {lv : List (Nat × Value)} {st : List Value} {Q : am_H → Nat → Option Value → Prop}
theorem R_sld {i : Int32} {j : Nat} (hd : decode (m_b μ) pc = .ok (.iaload, 1)) (hj : i = nI j ∧ j < w.2.2.1 ∧ w.2.2.1 < 2 ^ 31) (kk : RW l w μ h n k z (pc + 1) lv (.int (w.2.2.2.1 j) :: st) Q) : RW l w μ h n k z pc lv (.int i :: .ref 0 :: st) Q := by
  intro p e s m args below meth c H locs ls X K R hL hl
  obtain ⟨scr, h1, h2, h3, h4, h5⟩ := R.2.2.1
  have hin := (am_ix hj).1
  have hx := (am_ix hj).2
  have h6 := kk p e s m args below meth c H locs ls X K R hL hl
  exact W.iald (v := .int (w.2.2.2.1 j)) X.1 X.2.1 h1 h2 h3 (by rw [h4]; exact hin) (by rw [← hx]; exact h5 _ (by rw [hx]; exact hj.2.1)) rfl rfl hd h6
theorem R_slen (hd : decode (m_b μ) pc = .ok (.arraylength, 1)) (kk : RW l w μ h n k z (pc + 1) lv (.int (nI w.2.2.1) :: st) Q) : RW l w μ h n k z pc lv (.ref 0 :: st) Q := by
  intro p e s m args below meth c H locs ls X K R hL hl
  obtain ⟨scr, h1, h2, h3, h4, h5⟩ := R.2.2.1
  have h6 := kk p e s m args below meth c H locs ls X K R hL hl
  exact W.alen (n := Int32.ofNat w.2.2.1) X.1 X.2.1 h1 h2 (by rw [h4] <;> rfl) rfl rfl hd h6
end RSCR
