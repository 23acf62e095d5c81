/-! the law: the loop itself -/
theorem gt5 {L c : Nat} (hL : L ≤ 2560) (hc : c ≤ 3000) (h : ¬ nI L - 5 < nI c) : c + 5 ≤ L := by
  rcases Nat.lt_or_ge L 5 with q | q
  · have n5 : nI L - 5 < 0 := by
      rcases (show L = 0 ∨ L = 1 ∨ L = 2 ∨ L = 3 ∨ L = 4 by omega) with rfl | rfl | rfl | rfl | rfl <;> decide
    exact absurd (Int32.lt_of_lt_of_le n5 ((nI_leI (a := 0) (b := c) (by omega) (by omega)).mpr (by omega))) h
  · have e : nI L - 5 = nI (L - 5) := nI_sub (a := L) (b := 5) q
    rw [e] at h
    have := mt (nI_ltI (a := L - 5) (b := c) (by omega) (by omega)).mpr h
    omega
theorem and15 (x : Int32) : ∃ t, t < 16 ∧ x &&& 15 = nI t := by
  refine ⟨x.toBitVec.toNat % 16, Nat.mod_lt _ (by omega), ?_⟩
  apply Int32.toBitVec_inj.mp
  rw [Int32.toBitVec_and]
  apply BitVec.eq_of_toNat_eq
  rw [BitVec.toNat_and, show (15 : Int32).toBitVec.toNat = 2 ^ 4 - 1 by decide, Nat.and_two_pow_sub_one_eq_mod]
  have e : (nI (x.toBitVec.toNat % 16)).toBitVec = BitVec.ofNat 32 (x.toBitVec.toNat % 16) := rfl
  rw [e, BitVec.toNat_ofNat]
  omega
section LAWL
variable {nm : String} {l : Launch} {w : am_W} {k z : Nat}
set_option maxHeartbeats 1000000 in
theorem L_loop (hL : w.2.2.1 ≤ 2560) (hk : k ≤ 600000 ∧ z ≤ 7302250) : ∀ (d c : Nat), w.2.2.1 + 5 ≤ c + d → c ≤ 2600 → ∀ h, Jt h → RW l w (mL_law nm) h 90 k z 18 [(3, .int (nI c)), (2, .ref 61), (1, .ref 1), (0, .ref 0)] [] (fun _ _ q => q = some (.int 1)) := by
  intro d
  induction d with
  | zero =>
    intro c hd hc h J
    refine R_iload_n (pc := 18) 0 dL_law_18 rfl rfl ?_
    refine R_aload_n (pc := 19) 3 dL_law_19 rfl rfl ?_
    refine R_slen (pc := 20) dL_law_20 ?_
    refine R_iconst (pc := 21) (v := 5) dL_law_21 (by decide) ?_
    refine R_isub (pc := 22) dL_law_22 ?_
    refine R_icmp_gt (pc := 23) (tgt := 488) dL_law_23 (by decide) (fun _ => ?_) (fun q => absurd (gt5 hL (by omega) q) (by omega))
    refine R_iconst (pc := 488) (v := 1) dL_law_488 (by decide) ?_
    exact R_zreturn (pc := 489) dL_law_489 rfl rfl hk.1 hk.2 rfl
  | succ d ih =>
    intro c hd hc h J
    refine R_iload_n (pc := 18) 0 dL_law_18 rfl rfl ?_
    refine R_aload_n (pc := 19) 3 dL_law_19 rfl rfl ?_
    refine R_slen (pc := 20) dL_law_20 ?_
    refine R_iconst (pc := 21) (v := 5) dL_law_21 (by decide) ?_
    refine R_isub (pc := 22) dL_law_22 ?_
    refine R_icmp_gt (pc := 23) (tgt := 488) dL_law_23 (by decide) (fun _ => ?_) (fun q => ?_)
    · refine R_iconst (pc := 488) (v := 1) dL_law_488 (by decide) ?_
      exact R_zreturn (pc := 489) dL_law_489 rfl rfl hk.1 hk.2 rfl
    · have h5 := gt5 hL (by omega) q
      have K : ∀ h2, Jt h2 → RW l w (mL_law nm) h2 90 k z 482 [(3, .int (nI c)), (2, .ref 61), (1, .ref 1), (0, .ref 0)] [] (fun _ _ q => q = some (.int 1)) := fun h2 J2 => by
        refine R_iinc (pc := 482) (j := 0) (v := nI (c + 5)) (lv' := [(3, .int (nI (c + 5))), (2, .ref 61), (1, .ref 1), (0, .ref 0)]) dL_law_482 rfl (nI_p c 5) (Nat.le_of_ble_eq_true rfl) rfl ?_
        refine R_goto (pc := 485) (tgt := 18) dL_law_485 (by decide) ?_
        exact ih (c + 5) (by omega) (by omega) h2 J2
      refine R_aload_n (pc := 26) 3 dL_law_26 rfl rfl ?_
      refine R_iload_n (pc := 27) 0 dL_law_27 rfl rfl ?_
      refine R_sld (pc := 28) (j := c) dL_law_28 ⟨rfl, by omega, by omega⟩ ?_
      refine R_bipush (pc := 29) (v := 15) dL_law_29 (by decide) ?_
      refine R_iand (pc := 31) dL_law_31 ?_
      obtain ⟨t, ht, et⟩ := and15 (w.2.2.2.1 c)
      refine R_eqi (y := nI t) et ?_
      rcases (show t = 0 ∨ t = 1 ∨ t = 2 ∨ t = 3 ∨ t = 4 ∨ t = 5 ∨ t = 6 ∨ t = 7 ∨ t = 8 ∨ t = 9 ∨ t = 10 ∨ t = 11 ∨ t = 12 ∨ t = 13 ∨ t = 14 ∨ t = 15 by omega) with rfl | rfl | rfl | rfl | rfl | rfl | rfl | rfl | rfl | rfl | rfl | rfl | rfl | rfl | rfl | rfl
      · exact R_tableIn (pc := 32) (tgt := 96) dL_law_32 (by decide) (by decide) rfl (by decide) (L_feed hL hk h5 J K)
      · exact R_tableIn (pc := 32) (tgt := 169) dL_law_32 (by decide) (by decide) rfl (by decide) (L_fill hL hk h5 J K)
      · exact R_tableIn (pc := 32) (tgt := 212) dL_law_32 (by decide) (by decide) rfl (by decide) (L_alter hL hk h5 J K)
      · exact R_tableIn (pc := 32) (tgt := 255) dL_law_32 (by decide) (by decide) rfl (by decide) (L_octet hL hk h5 J K)
      · exact R_tableIn (pc := 32) (tgt := 288) dL_law_32 (by decide) (by decide) rfl (by decide) (L_cut hL hk h5 J K)
      · exact R_tableIn (pc := 32) (tgt := 321) dL_law_32 (by decide) (by decide) rfl (by decide) (L_tag hL hk h5 J K)
      · exact R_tableIn (pc := 32) (tgt := 344) dL_law_32 (by decide) (by decide) rfl (by decide) (L_seal hL hk h5 J K)
      · exact R_tableIn (pc := 32) (tgt := 367) dL_law_32 (by decide) (by decide) rfl (by decide) (L_open hL hk h5 J K)
      · exact R_tableIn (pc := 32) (tgt := 390) dL_law_32 (by decide) (by decide) rfl (by decide) (L_sum hL hk h5 J K)
      · exact R_tableIn (pc := 32) (tgt := 413) dL_law_32 (by decide) (by decide) rfl (by decide) (L_out hL hk h5 J K)
      · exact R_tableIn (pc := 32) (tgt := 436) dL_law_32 (by decide) (by decide) rfl (by decide) (L_take hL hk h5 J K)
      · exact R_tableIn (pc := 32) (tgt := 459) dL_law_32 (by decide) (by decide) rfl (by decide) (L_roundKey hL hk h5 J K)
      · exact R_tableOut (pc := 32) (tgt := 482) dL_law_32 (by decide) (by decide) (K h J)
      · exact R_tableOut (pc := 32) (tgt := 482) dL_law_32 (by decide) (by decide) (K h J)
      · exact R_tableOut (pc := 32) (tgt := 482) dL_law_32 (by decide) (by decide) (K h J)
      · exact R_tableOut (pc := 32) (tgt := 482) dL_law_32 (by decide) (by decide) (K h J)
end LAWL
