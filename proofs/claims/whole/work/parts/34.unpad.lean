theorem or0_32 {x y : Int32} (h : x ||| y = 0) : x = 0 ∧ y = 0 := by
  have h1 : x.toBitVec ||| y.toBitVec = 0#32 := by rw [← Int32.toBitVec_or, h]; rfl
  constructor
  · apply Int32.toBitVec_inj.mp
    apply BitVec.eq_of_getLsbD_eq
    intro i hi
    have h2 := congrArg (fun z => z.getLsbD i) h1
    simp only [BitVec.getLsbD_or, BitVec.getLsbD_zero, Bool.or_eq_false_iff] at h2
    rw [h2.1]
    exact (BitVec.getLsbD_zero (w := 32) (i := i)).symm
  · apply Int32.toBitVec_inj.mp
    apply BitVec.eq_of_getLsbD_eq
    intro i hi
    have h2 := congrArg (fun z => z.getLsbD i) h1
    simp only [BitVec.getLsbD_or, BitVec.getLsbD_zero, Bool.or_eq_false_iff] at h2
    rw [h2.2]
    exact (BitVec.getLsbD_zero (w := 32) (i := i)).symm
theorem or0_64 {x y : Int64} (h : x ||| y = 0) : x = 0 ∧ y = 0 := by
  have h1 : x.toBitVec ||| y.toBitVec = 0#64 := by rw [← Int64.toBitVec_or, h]; rfl
  constructor
  · apply Int64.toBitVec_inj.mp
    apply BitVec.eq_of_getLsbD_eq
    intro i hi
    have h2 := congrArg (fun z => z.getLsbD i) h1
    simp only [BitVec.getLsbD_or, BitVec.getLsbD_zero, Bool.or_eq_false_iff] at h2
    rw [h2.1]
    exact (BitVec.getLsbD_zero (w := 64) (i := i)).symm
  · apply Int64.toBitVec_inj.mp
    apply BitVec.eq_of_getLsbD_eq
    intro i hi
    have h2 := congrArg (fun z => z.getLsbD i) h1
    simp only [BitVec.getLsbD_or, BitVec.getLsbD_zero, Bool.or_eq_false_iff] at h2
    rw [h2.2]
    exact (BitVec.getLsbD_zero (w := 64) (i := i)).symm
def upT (C : List (BitVec 8)) : Int32 := oc (og C (C.length - 1))
def upW (C : List (BitVec 8)) : Nat → Int32
  | 0 => ((upT C - 1) ||| (16 - upT C)) >>> (31 &&& 31)
  | i + 1 => upW C i ||| ((((nI (i + 1) - 1) - upT C) >>> (31 &&& 31)) &&& (oc (og C (C.length - (i + 1))) ^^^ upT C))
theorem upW0 (C : List (BitVec 8)) : ∀ i, upW C i = 0 → upW C 0 = 0
  | 0, h => h
  | i + 1, h => upW0 C i (or0_32 h).1
theorem upW_16 : ∀ k, k < 256 → ((nI k - 1) ||| (16 - nI k)) >>> ((31 : Int32) &&& 31) = 0 → 1 ≤ k ∧ k ≤ 16 := by decide +kernel
theorem upW_b {C : List (BitVec 8)} {i : Nat} (h : upW C i = 0) : 1 ≤ (og C (C.length - 1)).toNat ∧ (og C (C.length - 1)).toNat ≤ 16 := by
  have h0 := upW0 C i h
  unfold upW upT at h0
  rw [oc_nI] at h0
  exact upW_16 _ (og C (C.length - 1)).isLt h0
def upR (C : List (BitVec 8)) : List (BitVec 8) := if upW C 16 = 0 then C.take (C.length - (og C (C.length - 1)).toNat) else C
set_option maxHeartbeats 4000000 in
set_option maxRecDepth 100000 in
theorem qX1_unlockPadded_loop {l : Launch} {w : am_W} {h : am_H} {n : Nat} {ρ : Nat → List (BitVec 8)} {β : Nat → bP} {κ : Nat → kT} {τ : Nat × Nat × Nat} (S : Sys h ρ β κ τ) (hn : 60 ≤ n) {t m : Nat} (ht : isRw t = true) (hm : isRw m = true) (htm : t ≠ m) (hm6 : (6 : Nat) ≠ m) (hk : kOk (κ 16)) (hm0 : ρ m = []) (hlen : 16 ≤ (ρ t).length) (hr : (ρ t).length + 15 ≤ rwN m) (kk : ∀ h2 β2, Sys h2 (ur ρ m (chD (dK (κ 16)) (rd (ρ 6) 0) (ρ t))) β2 κ τ → (∀ a, a ∉ [27, 28, 29] → β2 a = β a) → Fr h h2 → RW l w mX1_unlockPadded h2 n 0 0 78 [(5, .int (nI ((16) + 1))), (4, .int (upW (chD (dK (κ 16)) (rd (ρ 6) 0) (ρ t)) (16))), (3, .int (upT (chD (dK (κ 16)) (rd (ρ 6) 0) (ρ t)))), (0, .ref 26), (1, .ref t), (2, .ref m)] [] (fun h' n' r_ => n' = n ∧ (SX h τ (some (.int (if upW (chD (dK (κ 16)) (rd (ρ 6) 0) (ρ t)) 16 = 0 then 1 else 0))) (ur ρ m (upR (chD (dK (κ 16)) (rd (ρ 6) 0) (ρ t)))) β κ [27, 28, 29]) h' r_)) : ∀ (d i : Nat), i + d = 16 → ∀ h2 β2, Sys h2 (ur ρ m (chD (dK (κ 16)) (rd (ρ 6) 0) (ρ t))) β2 κ τ → (∀ a, a ∉ [27, 28, 29] → β2 a = β a) → Fr h h2 → RW l w mX1_unlockPadded h2 n 0 0 33 [(5, .int (nI (i + 1))), (4, .int (upW (chD (dK (κ 16)) (rd (ρ 6) 0) (ρ t)) i)), (3, .int (upT (chD (dK (κ 16)) (rd (ρ 6) 0) (ρ t)))), (0, .ref 26), (1, .ref t), (2, .ref m)] [] (fun h' n' r_ => n' = n ∧ (SX h τ (some (.int (if upW (chD (dK (κ 16)) (rd (ρ 6) 0) (ρ t)) 16 = 0 then 1 else 0))) (ur ρ m (upR (chD (dK (κ 16)) (rd (ρ 6) 0) (ρ t)))) β κ [27, 28, 29]) h' r_) := by
  have hlt := S.len t ht
  have htc := rw_cases ht
  have hmc := rw_cases hm
  have hnb := nbk_b (ρ t)
  have hCl := chD_len (dK (κ 16)) (rd (ρ 6) 0) (ρ t)
  intro d
  induction d with
  | zero =>
    intro i hd h2 β2 S2 hB hF
    refine R_iload (pc := 33) 0 dX1_unlockPadded_33 rfl ?_
    refine R_bipush (pc := 35) (v := 16) dX1_unlockPadded_35 (by decide) ?_
    refine R_icmp_gt (pc := 37) (tgt := 78) dX1_unlockPadded_37 (by decide) (fun c_1 => ?_) (fun c_1 => absurd (nI_lt (a := 16) (by omega) (by omega)) c_1)
    obtain rfl : i = 16 := by omega
    exact kk h2 β2 S2 hB hF
  | succ d ih =>
    intro i hd h2 β2 S2 hB hF
    refine R_iload (pc := 33) 0 dX1_unlockPadded_33 rfl ?_
    refine R_bipush (pc := 35) (v := 16) dX1_unlockPadded_35 (by decide) ?_
    refine R_icmp_gt (pc := 37) (tgt := 78) dX1_unlockPadded_37 (by decide) (fun c_1 => absurd c_1 (nI_nlt (a := 16) (by omega) (by omega))) (fun c_1 => ?_)
    refine R_iload (pc := 40) 0 dX1_unlockPadded_40 rfl ?_
    refine R_iconst (pc := 42) (v := 1) dX1_unlockPadded_42 (by decide) ?_
    refine R_isub (pc := 43) dX1_unlockPadded_43 ?_
    refine R_iload_n (pc := 44) 2 dX1_unlockPadded_44 rfl rfl ?_
    refine R_isub (pc := 45) dX1_unlockPadded_45 ?_
    refine R_bipush (pc := 46) (v := 31) dX1_unlockPadded_46 (by decide) ?_
    refine R_ishr (pc := 48) dX1_unlockPadded_48 ?_
    refine R_istore (pc := 49) (lv' := [(6, .int ((((nI (i + 1)) - 1) - (upT (chD (dK (κ 16)) (rd (ρ 6) 0) (ρ t)))) >>> (31 &&& 31))), (5, .int (nI (i + 1))), (4, .int (upW (chD (dK (κ 16)) (rd (ρ 6) 0) (ρ t)) i)), (3, .int (upT (chD (dK (κ 16)) (rd (ρ 6) 0) (ρ t)))), (0, .ref 26), (1, .ref t), (2, .ref m)]) dX1_unlockPadded_49 (by decide) rfl ?_
    refine R_iload (pc := 51) 2 dX1_unlockPadded_51 rfl ?_
    refine R_iload (pc := 53) 0 dX1_unlockPadded_53 rfl ?_
    refine R_aload_n (pc := 55) 6 dX1_unlockPadded_55 rfl rfl ?_
    refine R_aload_n (pc := 56) 6 dX1_unlockPadded_56 rfl rfl ?_
    have := rw_cases (r := m) hm
    refine R_get (pc := 57) dX1_unlockPadded_57 fX1_33 (S2.rowO m hm) (by omega) rfl ?_
    refine R_eqi (y := nI (chD (dK (κ 16)) (rd (ρ 6) 0) (ρ t)).length) (by first | rfl | (simp only [ur_s, ur_ur, ur_n (x := t) (r := m) htm, ur_n (x := 6) (r := m) hm6])) ?_
    refine R_iload (pc := 60) 1 dX1_unlockPadded_60 rfl ?_
    refine R_isub (pc := 62) dX1_unlockPadded_62 ?_
    refine R_eqi (y := nI ((chD (dK (κ 16)) (rd (ρ 6) 0) (ρ t)).length - (i + 1))) (pk_sub (by omega)) ?_
    refine R_callVp (pc := 63) (μ' := mX6_at) (As := [.int (nI ((chD (dK (κ 16)) (rd (ρ 6) 0) (ρ t)).length - (i + 1)))]) (st := [.int ((((nI (i + 1)) - 1) - (upT (chD (dK (κ 16)) (rd (ρ 6) 0) (ρ t)))) >>> (31 &&& 31)), .int (upW (chD (dK (κ 16)) (rd (ρ 6) 0) (ρ t)) i)]) dX1_unlockPadded_63 zX6_at lX1_77 ⟨by decide, by decide⟩ rfl rfl ⟨by decide, by decide⟩ (S2.rowO m hm) (by omega) rfl (Nat.le_of_ble_eq_true rfl) (S_at S2 hn hm _) ?_
    refine R_eqi (y := atI (chD (dK (κ 16)) (rd (ρ 6) 0) (ρ t)) (nI ((chD (dK (κ 16)) (rd (ρ 6) 0) (ρ t)).length - (i + 1)))) (by first | rfl | (simp only [ur_s, ur_ur, ur_n (x := t) (r := m) htm, ur_n (x := 6) (r := m) hm6])) ?_
    refine R_eqi (y := oc (og (chD (dK (κ 16)) (rd (ρ 6) 0) (ρ t)) ((chD (dK (κ 16)) (rd (ρ 6) 0) (ρ t)).length - (i + 1)))) (atI_nI _ (by omega) (by omega)) ?_
    refine R_iload_n (pc := 66) 3 dX1_unlockPadded_66 rfl rfl ?_
    refine R_ixor (pc := 67) dX1_unlockPadded_67 ?_
    refine R_iand (pc := 68) dX1_unlockPadded_68 ?_
    refine R_ior (pc := 69) dX1_unlockPadded_69 ?_
    refine R_istore (pc := 70) (lv' := [(4, .int ((upW (chD (dK (κ 16)) (rd (ρ 6) 0) (ρ t)) i) ||| (((((nI (i + 1)) - 1) - (upT (chD (dK (κ 16)) (rd (ρ 6) 0) (ρ t)))) >>> (31 &&& 31)) &&& ((oc (og (chD (dK (κ 16)) (rd (ρ 6) 0) (ρ t)) ((chD (dK (κ 16)) (rd (ρ 6) 0) (ρ t)).length - (i + 1)))) ^^^ (upT (chD (dK (κ 16)) (rd (ρ 6) 0) (ρ t))))))), (6, .int ((((nI (i + 1)) - 1) - (upT (chD (dK (κ 16)) (rd (ρ 6) 0) (ρ t)))) >>> (31 &&& 31))), (5, .int (nI (i + 1))), (3, .int (upT (chD (dK (κ 16)) (rd (ρ 6) 0) (ρ t)))), (0, .ref 26), (1, .ref t), (2, .ref m)]) dX1_unlockPadded_70 (by decide) rfl ?_
    refine R_iinc (pc := 72) (j := 2) (v := nI (i + 1 + 1)) (lv' := [(5, .int (nI (i + 1 + 1))), (4, .int ((upW (chD (dK (κ 16)) (rd (ρ 6) 0) (ρ t)) i) ||| (((((nI (i + 1)) - 1) - (upT (chD (dK (κ 16)) (rd (ρ 6) 0) (ρ t)))) >>> (31 &&& 31)) &&& ((oc (og (chD (dK (κ 16)) (rd (ρ 6) 0) (ρ t)) ((chD (dK (κ 16)) (rd (ρ 6) 0) (ρ t)).length - (i + 1)))) ^^^ (upT (chD (dK (κ 16)) (rd (ρ 6) 0) (ρ t))))))), (6, .int ((((nI (i + 1)) - 1) - (upT (chD (dK (κ 16)) (rd (ρ 6) 0) (ρ t)))) >>> (31 &&& 31))), (3, .int (upT (chD (dK (κ 16)) (rd (ρ 6) 0) (ρ t)))), (0, .ref 26), (1, .ref t), (2, .ref m)]) dX1_unlockPadded_72 rfl (nI_1 (i + 1)) (by decide) rfl ?_
    refine R_goto (pc := 75) (tgt := 33) dX1_unlockPadded_75 (by decide) ?_
    refine R_sub [0, 1, 3, 4, 5, 6] rfl ?_
    refine ih (i + 1) (by omega) h2 β2 (by have z_ := S2; skip; exact z_)  (fun a_ n_ => ?_) (hF.tr (Fr.rf _))
    have q_ := hB a_ n_; simp only [List.mem_cons, List.not_mem_nil, or_false, not_or] at n_
    (try simp only [ub, if_neg, n_, if_false])
    first | exact q_ | (simp only [ub_k]; exact q_) | (rw [q_]; simp only [ub_k]) | (repeat' split) <;> first | exact q_ | (rename_i e_; rw [e_])
set_option maxHeartbeats 4000000 in
set_option maxRecDepth 100000 in
theorem qX1_unlockPadded {l : Launch} {w : am_W} {h : am_H} {n : Nat} {ρ : Nat → List (BitVec 8)} {β : Nat → bP} {κ : Nat → kT} {τ : Nat × Nat × Nat} (S : Sys h ρ β κ τ) (hn : 60 ≤ n) {t m : Nat} (ht : isRw t = true) (hm : isRw m = true) (htm : t ≠ m) (hm6 : (6 : Nat) ≠ m) (hk : kOk (κ 16)) (hm0 : ρ m = []) (hlen : 16 ≤ (ρ t).length) (hr : (ρ t).length + 15 ≤ rwN m) : RH l w mX1_unlockPadded h n [.ref 26, .ref t, .ref m] (SX h τ (some (.int (if upW (chD (dK (κ 16)) (rd (ρ 6) 0) (ρ t)) 16 = 0 then 1 else 0))) (ur ρ m (upR (chD (dK (κ 16)) (rd (ρ 6) 0) (ρ t)))) β κ [27, 28, 29]) := by
  refine RC.of [(0, .ref 26), (1, .ref t), (2, .ref m)] (by decide +kernel) rfl (Nat.le_of_ble_eq_true rfl) ?_
  have hlt := S.len t ht
  have htc := rw_cases ht
  have hmc := rw_cases hm
  have hnb := nbk_b (ρ t)
  have hCl := chD_len (dK (κ 16)) (rd (ρ 6) 0) (ρ t)
  refine R_aload_n (pc := 0) 0 dX1_unlockPadded_0 rfl rfl ?_
  refine R_aload_n (pc := 1) 1 dX1_unlockPadded_1 rfl rfl ?_
  refine R_aload_n (pc := 2) 2 dX1_unlockPadded_2 rfl rfl ?_
  refine R_callVh (pc := 3) (μ' := mX1_unlockChain) (As := [.ref t, .ref m]) (st := []) dX1_unlockPadded_3 zX1_unlockChain lX1_74 ⟨by decide, by decide⟩ rfl rfl ⟨by decide, by decide⟩ S.2.2.2.1 (by omega) rfl (Nat.le_of_ble_eq_true rfl) (qX1_unlockChain S hn ht hm htm hk (by rw [hm0]; simp only [List.length_nil]; omega)) (fun h_1 r_ q_2 => ?_)
  obtain ⟨β_6, B_7, rfl, S_3, F_5⟩ := q_2
  have S_4 : Sys h_1 (ur ρ m ((ρ m) ++ chD (dK (κ 16)) (rd (ρ 6) 0) (ρ t))) β_6 κ τ := by have z_ := S_3; (try simp only [ub, Nat.reduceEqDiff, ↓reduceIte, ur_s, ur_ur, ur_n (x := t) (r := m) htm, ur_n (x := 6) (r := m) hm6] at z_); exact z_
  rw [hm0, List.nil_append] at S_4
  refine R_aload_n (pc := 6) 2 dX1_unlockPadded_6 rfl rfl ?_
  refine R_aload_n (pc := 7) 2 dX1_unlockPadded_7 rfl rfl ?_
  have := rw_cases (r := m) hm
  refine R_get (pc := 8) dX1_unlockPadded_8 fX1_33 (S_4.rowO m hm) (by omega) rfl ?_
  refine R_eqi (y := nI (chD (dK (κ 16)) (rd (ρ 6) 0) (ρ t)).length) (by first | rfl | (simp only [ur_s, ur_ur, ur_n (x := t) (r := m) htm, ur_n (x := 6) (r := m) hm6])) ?_
  refine R_iconst (pc := 11) (v := 1) dX1_unlockPadded_11 (by decide) ?_
  refine R_isub (pc := 12) dX1_unlockPadded_12 ?_
  refine R_eqi (y := nI ((chD (dK (κ 16)) (rd (ρ 6) 0) (ρ t)).length - 1)) (pk_sub (b := 1) (by omega)) ?_
  refine R_callVp (pc := 13) (μ' := mX6_at) (As := [.int (nI ((chD (dK (κ 16)) (rd (ρ 6) 0) (ρ t)).length - 1))]) (st := []) dX1_unlockPadded_13 zX6_at lX1_77 ⟨by decide, by decide⟩ rfl rfl ⟨by decide, by decide⟩ (S_4.rowO m hm) (by omega) rfl (Nat.le_of_ble_eq_true rfl) (S_at S_4 hn hm _) ?_
  refine R_eqi (y := atI (chD (dK (κ 16)) (rd (ρ 6) 0) (ρ t)) (nI ((chD (dK (κ 16)) (rd (ρ 6) 0) (ρ t)).length - 1))) (by first | rfl | (simp only [ur_s, ur_ur, ur_n (x := t) (r := m) htm, ur_n (x := 6) (r := m) hm6])) ?_
  refine R_eqi (y := upT (chD (dK (κ 16)) (rd (ρ 6) 0) (ρ t))) (atI_nI _ (by omega) (by omega)) ?_
  refine R_istore_n (pc := 16) (lv' := [(3, .int (upT (chD (dK (κ 16)) (rd (ρ 6) 0) (ρ t)))), (0, .ref 26), (1, .ref t), (2, .ref m)]) dX1_unlockPadded_16 rfl (by decide) rfl ?_
  refine R_iload_n (pc := 17) 0 dX1_unlockPadded_17 rfl rfl ?_
  refine R_iconst (pc := 18) (v := 1) dX1_unlockPadded_18 (by decide) ?_
  refine R_isub (pc := 19) dX1_unlockPadded_19 ?_
  refine R_bipush (pc := 20) (v := 16) dX1_unlockPadded_20 (by decide) ?_
  refine R_iload_n (pc := 22) 0 dX1_unlockPadded_22 rfl rfl ?_
  refine R_isub (pc := 23) dX1_unlockPadded_23 ?_
  refine R_ior (pc := 24) dX1_unlockPadded_24 ?_
  refine R_bipush (pc := 25) (v := 31) dX1_unlockPadded_25 (by decide) ?_
  refine R_ishr (pc := 27) dX1_unlockPadded_27 ?_
  refine R_eqi (y := upW (chD (dK (κ 16)) (rd (ρ 6) 0) (ρ t)) 0) (rfl) ?_
  refine R_istore (pc := 28) (lv' := [(4, .int (upW (chD (dK (κ 16)) (rd (ρ 6) 0) (ρ t)) 0)), (3, .int (upT (chD (dK (κ 16)) (rd (ρ 6) 0) (ρ t)))), (0, .ref 26), (1, .ref t), (2, .ref m)]) dX1_unlockPadded_28 (by decide) rfl ?_
  refine R_iconst (pc := 30) (v := 1) dX1_unlockPadded_30 (by decide) ?_
  refine R_eqi (y := nI (0 + 1)) (rfl) ?_
  refine R_istore (pc := 31) (lv' := [(5, .int (nI (0 + 1))), (4, .int (upW (chD (dK (κ 16)) (rd (ρ 6) 0) (ρ t)) 0)), (3, .int (upT (chD (dK (κ 16)) (rd (ρ 6) 0) (ρ t)))), (0, .ref 26), (1, .ref t), (2, .ref m)]) dX1_unlockPadded_31 (by decide) rfl ?_
  refine R_sub [0, 1, 2, 3, 4, 5] rfl ?_
  refine qX1_unlockPadded_loop S hn ht hm htm hm6 hk hm0 hlen hr ?_ 16 0 (by omega) h_1 β_6 S_4 B_7 F_5
  intro h2 β2 S2 hB hF
  refine R_iload (pc := 78) 1 dX1_unlockPadded_78 rfl ?_
  refine R_if_eq (pc := 80) (tgt := 85) dX1_unlockPadded_80 (by decide) (fun c_8 => ?_) (fun c_8 => ?_)
  · skip
    refine R_aload_n (pc := 85) 5 dX1_unlockPadded_85 rfl rfl ?_
    refine R_aload_n (pc := 86) 5 dX1_unlockPadded_86 rfl rfl ?_
    have := rw_cases (r := m) hm
    refine R_get (pc := 87) dX1_unlockPadded_87 fX1_33 (S2.rowO m hm) (by omega) rfl ?_
    refine R_eqi (y := nI (chD (dK (κ 16)) (rd (ρ 6) 0) (ρ t)).length) (by first | rfl | (simp only [ur_s, ur_ur, ur_n (x := t) (r := m) htm, ur_n (x := 6) (r := m) hm6])) ?_
    refine R_iload_n (pc := 90) 2 dX1_unlockPadded_90 rfl rfl ?_
    refine R_isub (pc := 91) dX1_unlockPadded_91 ?_
    refine R_eqi (y := nI ((chD (dK (κ 16)) (rd (ρ 6) 0) (ρ t)).length - (og (chD (dK (κ 16)) (rd (ρ 6) 0) (ρ t)) ((chD (dK (κ 16)) (rd (ρ 6) 0) (ρ t)).length - 1)).toNat)) (by unfold upT; rw [oc_nI]; have := upW_b c_8; exact pk_sub (by omega)) ?_
    refine R_callVh (pc := 92) (μ' := mX6_keep) (As := [.int (nI ((chD (dK (κ 16)) (rd (ρ 6) 0) (ρ t)).length - (og (chD (dK (κ 16)) (rd (ρ 6) 0) (ρ t)) ((chD (dK (κ 16)) (rd (ρ 6) 0) (ρ t)).length - 1)).toNat))]) (st := []) dX1_unlockPadded_92 zX6_keep lX1_81 ⟨by decide, by decide⟩ rfl rfl ⟨by decide, by decide⟩ (S2.rowO m hm) (by omega) rfl (Nat.le_of_ble_eq_true rfl) (S_keep S2 hn hm ((chD (dK (κ 16)) (rd (ρ 6) 0) (ρ t)).length - (og (chD (dK (κ 16)) (rd (ρ 6) 0) (ρ t)) ((chD (dK (κ 16)) (rd (ρ 6) 0) (ρ t)).length - 1)).toNat) (by omega)) (fun h_9 r_ q_10 => ?_)
    obtain ⟨rfl, S_11, F_13⟩ := q_10
    have S_12 : Sys h_9 (ur ρ m ((chD (dK (κ 16)) (rd (ρ 6) 0) (ρ t)).take ((chD (dK (κ 16)) (rd (ρ 6) 0) (ρ t)).length - (og (chD (dK (κ 16)) (rd (ρ 6) 0) (ρ t)) ((chD (dK (κ 16)) (rd (ρ 6) 0) (ρ t)).length - 1)).toNat))) β2 κ τ := by have z_ := S_11; (try simp only [ur_s, ur_ur, ur_n (x := t) (r := m) htm, ur_n (x := 6) (r := m) hm6] at z_); exact z_
    refine R_iconst (pc := 95) (v := 1) dX1_unlockPadded_95 (by decide) ?_
    rw [show upR (chD (dK (κ 16)) (rd (ρ 6) 0) (ρ t)) = (chD (dK (κ 16)) (rd (ρ 6) 0) (ρ t)).take ((chD (dK (κ 16)) (rd (ρ 6) 0) (ρ t)).length - (og (chD (dK (κ 16)) (rd (ρ 6) 0) (ρ t)) ((chD (dK (κ 16)) (rd (ρ 6) 0) (ρ t)).length - 1)).toNat) from if_pos c_8, if_pos c_8]
    exact R_zreturn (pc := 96) dX1_unlockPadded_96 rfl rfl (by decide) (by decide) ⟨rfl, β2, hB, rfl, S_12, (hF.tr F_13)⟩
  · skip
    refine R_iconst (pc := 83) (v := 0) dX1_unlockPadded_83 (by decide) ?_
    rw [show upR (chD (dK (κ 16)) (rd (ρ 6) 0) (ρ t)) = chD (dK (κ 16)) (rd (ρ 6) 0) (ρ t) from if_neg c_8, if_neg c_8]
    exact R_zreturn (pc := 84) dX1_unlockPadded_84 rfl rfl (by decide) (by decide) ⟨rfl, β2, hB, rfl, S2, hF⟩
theorem Sys.rowEq {h : am_H} {ρ : Nat → List (BitVec 8)} {β : Nat → bP} {κ : Nat → kT} {τ : Nat × Nat × Nat} {m : Nat} {A B : List (BitVec 8)} (e : A = B) (S : Sys h (ur ρ m B) β κ τ) : Sys h (ur ρ m A) β κ τ := e ▸ S
theorem shr63 {x : Int64} (h : jlshr x 63 = 0) : 0 ≤ x.toInt := by
  have h1 : (jlshr x 63).toBitVec = 0#64 := by rw [h]; rfl
  have h2 : (jlshr x 63).toBitVec = x.toBitVec.sshiftRight 63 := by
    show (x >>> ((63 : Int32).toInt64 &&& 63)).toBitVec = _
    rw [Int64.toBitVec_shiftRight]
    rfl
  rw [h2] at h1
  have h3 := congrArg (fun z => z.getLsbD 0) h1
  simp only [BitVec.getLsbD_sshiftRight] at h3
  have h4 : x.toBitVec.msb = false := by
    simpa [BitVec.msb_eq_getLsbD_last] using h3
  show 0 ≤ x.toBitVec.toInt
  rw [BitVec.toInt_eq_msb_cond, h4]
  simp
theorem or_toInt {x y : Int64} (h : 0 ≤ (x ||| y).toInt) : 0 ≤ x.toInt ∧ 0 ≤ y.toInt := by
  have h1 : 0 ≤ (x ||| y).toBitVec.toInt := h
  rw [Int64.toBitVec_or, BitVec.toInt_eq_msb_cond] at h1
  have hm : (x.toBitVec ||| y.toBitVec).msb = false := by
    cases hc : (x.toBitVec ||| y.toBitVec).msb with
    | false => rfl
    | true =>
      rw [hc] at h1
      have := (x.toBitVec ||| y.toBitVec).isLt
      simp only [if_true] at h1
      omega
  rw [BitVec.msb_or, Bool.or_eq_false_iff] at hm
  constructor
  · show 0 ≤ x.toBitVec.toInt
    rw [BitVec.toInt_eq_msb_cond, hm.1]
    simp
  · show 0 ≤ y.toBitVec.toInt
    rw [BitVec.toInt_eq_msb_cond, hm.2]
    simp
theorem and32 (x : Int64) : ∃ m, m < 2 ^ 32 ∧ x &&& 4294967295 = lN m := by
  refine ⟨x.toBitVec.toNat % 2 ^ 32, Nat.mod_lt _ (by omega), ?_⟩
  apply Int64.toBitVec_inj.mp
  rw [Int64.toBitVec_and]
  apply BitVec.eq_of_toNat_eq
  have e : (4294967295 : Int64).toBitVec.toNat = 2 ^ 32 - 1 := by decide
  rw [BitVec.toNat_and, e, Nat.and_two_pow_sub_one_eq_mod]
  show _ = (BitVec.ofNat 64 (x.toBitVec.toNat % 2 ^ 32)).toNat
  rw [BitVec.toNat_ofNat]
  omega
theorem weN0 (a : Int64) (L : List (BitVec 8)) : ∀ i, weN a L i = 0 → weN a L 0 = 0
  | 0, h => h
  | i + 1, h => weN0 a L i (or0_64 h).1
/-- a right end tells a length that there is -/
theorem we_ok {a : Int64} {L : List (BitVec 8)} {i : Nat} (hL : L.length < 2 ^ 30) (h : weN a L i = 0) : ∃ m, m ≤ L.length ∧ a &&& 4294967295 = lN m := by
  have h0 : we0 a L.length = 0 := weN0 a L i h
  obtain ⟨m, hm, e⟩ := and32 a
  refine ⟨m, ?_, e⟩
  unfold we0 at h0
  have h1 := (or_toInt (shr63 (or0_64 h0).2)).2
  rw [e, nI_l (by omega)] at h1
  have h2 : (lN L.length - lN m).toInt = (L.length : Int) - m := by
    rw [Int64.toInt_sub, pk_lT (by omega), pk_lT (by omega)]
    rw [Int.bmod_eq_of_le] <;> omega
  rw [h2] at h1
  omega
def pwM (a : Int64) : Nat := (a &&& 4294967295).toBitVec.toNat
theorem pwM_eq {a : Int64} {m : Nat} (hm : m < 2 ^ 63) (e : a &&& 4294967295 = lN m) : pwM a = m ∧ (a &&& 4294967295).toInt32 = nI m := by
  unfold pwM
  rw [e]
  refine ⟨?_, lN_i m⟩
  show (BitVec.ofNat 64 m).toNat = m
  rw [BitVec.toNat_ofNat]
  omega
/-- PADDED WRAP, the way back: A and what lies behind it -/
def pwU (G : bP → bP) (L : List (BitVec 8)) : wT := if nI L.length = 16 then ((G (rd L 0)).1, p8 L 8 (G (rd L 0)).2 8) else uOut G (L.length / 8 - 1) (e8 L 0, L) 6
theorem pwU_len (G : bP → bP) (L : List (BitVec 8)) : (pwU G L).2.length = L.length := by
  by_cases h : nI L.length = 16
  · rw [show pwU G L = ((G (rd L 0)).1, p8 L 8 (G (rd L 0)).2 8) from if_pos h]
    simp only [p8_len]
  · rw [show pwU G L = uOut G (L.length / 8 - 1) (e8 L 0, L) 6 from if_neg h, uOut_len]
def pwC (G : bP → bP) (L : List (BitVec 8)) : Int32 := lg_cmp (weN (pwU G L).1 (tk8 (pwU G L).2) 8) 0
def pwR (G : bP → bP) (L : List (BitVec 8)) : List (BitVec 8) := if pwC G L = 0 then (tk8 (pwU G L).2).take (pwM (pwU G L).1) else tk8 (pwU G L).2
theorem lg_cmp0 {x : Int64} (h : lg_cmp x 0 = 0) : x = 0 := by
  unfold lg_cmp at h
  by_cases h1 : 0 < x
  · simp [h1] at h
  · by_cases h2 : x = 0
    · exact h2
    · simp [h1, h2] at h
set_option maxHeartbeats 4000000 in
set_option maxRecDepth 100000 in
theorem qX10_unlockPaddedWrap {l : Launch} {w : am_W} {h : am_H} {n : Nat} {ρ : Nat → List (BitVec 8)} {β : Nat → bP} {κ : Nat → kT} {τ : Nat × Nat × Nat} (S : Sys h ρ β κ τ) (hn : 60 ≤ n) {t m : Nat} (ht : isRw t = true) (hm : isRw m = true) (htm : t ≠ m) (hk : kOk (κ 16)) (hm0 : ρ m = []) (hlen : 16 ≤ (ρ t).length) (hr : (ρ t).length ≤ rwN m) : RH l w mX10_unlockPaddedWrap h n [.ref 39, .ref t, .ref m] (SX h τ (some (.int (if pwC (dK (κ 16)) (ρ t) = 0 then 1 else 0))) (ur ρ m (pwR (dK (κ 16)) (ρ t))) β κ [40]) := by
  refine RC.of [(0, .ref 39), (1, .ref t), (2, .ref m)] (by decide +kernel) rfl (Nat.le_of_ble_eq_true rfl) ?_
  have hlm := S.len m hm
  have hmc := rw_cases hm
  have hlt := S.len t ht
  have hul := uOut_len (dK (κ 16)) ((ρ t).length / 8 - 1) (e8 (ρ t) 0, ρ t) 6
  have hpl := pwU_len (dK (κ 16)) (ρ t)
  have htl := tk8_len (pwU (dK (κ 16)) (ρ t)).2
  refine R_aload_n (pc := 0) 2 dX10_unlockPaddedWrap_0 rfl rfl ?_
  refine R_aload_n (pc := 1) 1 dX10_unlockPaddedWrap_1 rfl rfl ?_
  refine R_callVh (pc := 2) (μ' := mX6_appendRow) (As := [.ref t]) (st := []) dX10_unlockPaddedWrap_2 zX6_appendRow lX10_30 ⟨by decide, by decide⟩ rfl rfl ⟨by decide, by decide⟩ (S.rowO m hm) (by omega) rfl (Nat.le_of_ble_eq_true rfl) (S_appendRow S hn hm ht htm (by rw [hm0]; simp only [List.length_nil]; omega)) (fun h_1 r_ q_2 => ?_)
  obtain ⟨rfl, S_3, F_5⟩ := q_2
  have S_4 : Sys h_1 (ur ρ m ((ρ m) ++ (ρ t))) β κ τ := by have z_ := S_3; (try simp only [ur_s, ur_ur, ur_n (x := t) (r := m) htm] at z_); exact z_
  rw [hm0, List.nil_append] at S_4
  refine R_aload_n (pc := 5) 2 dX10_unlockPaddedWrap_5 rfl rfl ?_
  have := rw_cases (r := m) hm
  refine R_get (pc := 6) dX10_unlockPaddedWrap_6 fX10_45 (S_4.rowO m hm) (by omega) rfl ?_
  refine R_eqi (y := nI (ρ t).length) (by first | rfl | (simp only [ur_s, ur_ur, ur_n (x := t) (r := m) htm])) ?_
  refine R_bipush (pc := 9) (v := 16) dX10_unlockPaddedWrap_9 (by decide) ?_
  refine R_icmp_ne (pc := 11) (tgt := 58) dX10_unlockPaddedWrap_11 (by decide) (fun c_6 => ?_) (fun c_6 => ?_)
  · skip
    refine R_aload_n (pc := 58) 0 dX10_unlockPaddedWrap_58 rfl rfl ?_
    refine R_aload_n (pc := 59) 2 dX10_unlockPaddedWrap_59 rfl rfl ?_
    refine R_callVh (pc := 60) (μ' := mX10_mixOut) (As := [.ref m]) (st := []) dX10_unlockPaddedWrap_60 zX10_mixOut lX10_36 ⟨by decide, by decide⟩ rfl rfl ⟨by decide, by decide⟩ S_4.2.2.2.2.2.2.1 (by omega) rfl (Nat.le_of_ble_eq_true rfl) (qX10_mixOut S_4 hn hm ((ρ t).length / 8 - 1) (by simp only [ur_s]) (by simp only [ur_s]; omega) (by omega) hk) (fun h_7 r_ q_8 => ?_)
    obtain ⟨β_12, B_13, rfl, S_9, F_11⟩ := q_8
    have S_10 : Sys h_7 (ur ρ m ((uOut (dK (κ 16)) ((ρ t).length / 8 - 1) (e8 (ρ t) 0, ρ t) 6).2)) β_12 κ τ := by have z_ := S_9; (try simp only [ub, Nat.reduceEqDiff, ↓reduceIte, ur_s, ur_ur, ur_n (x := t) (r := m) htm] at z_); exact z_
    refine R_eql (y := (uOut (dK (κ 16)) ((ρ t).length / 8 - 1) (e8 (ρ t) 0, ρ t) 6).1) (by first | rfl | (simp only [ur_s, ur_ur, ur_n (x := t) (r := m) htm]) | (simp only [ur_s, ur_ur, ur_n (x := t) (r := m) htm]; rfl)) ?_
    refine R_lstore_n (pc := 63) (lv' := [(3, .long ((uOut (dK (κ 16)) ((ρ t).length / 8 - 1) (e8 (ρ t) 0, ρ t) 6).1)), (0, .ref 39), (1, .ref t), (2, .ref m)]) dX10_unlockPaddedWrap_63 rfl (by decide) rfl ?_
    have eU_ : pwU (dK (κ 16)) (ρ t) = ((uOut (dK (κ 16)) ((ρ t).length / 8 - 1) (e8 (ρ t) 0, ρ t) 6).1, (uOut (dK (κ 16)) ((ρ t).length / 8 - 1) (e8 (ρ t) 0, ρ t) 6).2) := if_neg c_6
    have eU2_ : (pwU (dK (κ 16)) (ρ t)).2 = (uOut (dK (κ 16)) ((ρ t).length / 8 - 1) (e8 (ρ t) 0, ρ t) 6).2 := by rw [eU_]
    have eU1_ : (uOut (dK (κ 16)) ((ρ t).length / 8 - 1) (e8 (ρ t) 0, ρ t) 6).1 = (pwU (dK (κ 16)) (ρ t)).1 := by rw [eU_]
    have S_14 : Sys h_7 (ur ρ m (pwU (dK (κ 16)) (ρ t)).2) β_12 κ τ := Sys.rowEq eU2_ S_10
    rw [eU1_]
    refine R_aload_n (pc := 64) 3 dX10_unlockPaddedWrap_64 rfl rfl ?_
    refine R_callSh (pc := 65) (μ' := mX10_takeOff) (As := [.ref m]) (st := []) dX10_unlockPaddedWrap_65 zX10_takeOff lX10_40 ⟨by decide, by decide⟩ rfl rfl ⟨by decide, by decide⟩ rfl (Nat.le_of_ble_eq_true rfl) (qX10_takeOff S_14 hn hm (by simp only [ur_s]; omega)) (fun h_15 r_ q_16 => ?_)
    obtain ⟨β_20, B_21, rfl, S_17, F_19⟩ := q_16
    have S_18 : Sys h_15 (ur ρ m (tk8 ((pwU (dK (κ 16)) (ρ t)).2))) β_20 κ τ := by have z_ := S_17; (try simp only [ub, Nat.reduceEqDiff, ↓reduceIte, ur_s, ur_ur, ur_n (x := t) (r := m) htm] at z_); exact z_
    refine R_lload_n (pc := 68) 0 dX10_unlockPaddedWrap_68 rfl rfl ?_
    refine R_aload_n (pc := 69) 3 dX10_unlockPaddedWrap_69 rfl rfl ?_
    refine R_callSh (pc := 70) (μ' := mX10_wrongEnd) (As := [.long ((pwU (dK (κ 16)) (ρ t)).1), .ref m]) (st := []) dX10_unlockPaddedWrap_70 zX10_wrongEnd lX10_89 ⟨by decide, by decide⟩ rfl rfl ⟨by decide, by decide⟩ rfl (Nat.le_of_ble_eq_true rfl) (qX10_wrongEnd S_18 hn hm _ (by simp only [ur_s]; rw [htl, hpl]; omega)) (fun h_22 r_ q_23 => ?_)
    obtain ⟨β_27, B_28, rfl, S_24, F_26⟩ := q_23
    have S_25 : Sys h_22 (ur ρ m (tk8 ((pwU (dK (κ 16)) (ρ t)).2))) β_27 κ τ := S_24
    refine R_eql (y := weN ((pwU (dK (κ 16)) (ρ t)).1) (tk8 ((pwU (dK (κ 16)) (ρ t)).2)) 8) (by first | rfl | (simp only [ur_s, ur_ur, ur_n (x := t) (r := m) htm]) | (simp only [ur_s, ur_ur, ur_n (x := t) (r := m) htm]; rfl)) ?_
    refine R_lconst (pc := 73) (v := 0) dX10_unlockPaddedWrap_73 (by decide) ?_
    refine R_lcmp (pc := 74) dX10_unlockPaddedWrap_74 ?_
    refine R_if_eq (pc := 75) (tgt := 80) dX10_unlockPaddedWrap_75 (by decide) (fun c_29 => ?_) (fun c_29 => ?_)
    · skip
      refine R_aload_n (pc := 80) 3 dX10_unlockPaddedWrap_80 rfl rfl ?_
      refine R_lload_n (pc := 81) 0 dX10_unlockPaddedWrap_81 rfl rfl ?_
      refine R_ldc2 (pc := 82) dX10_unlockPaddedWrap_82 cX10_93 ?_
      refine R_land (pc := 85) dX10_unlockPaddedWrap_85 ?_
      refine R_l2i (pc := 86) (v := (((pwU (dK (κ 16)) (ρ t)).1) &&& (4294967295 : Int64)).toInt32) dX10_unlockPaddedWrap_86 rfl ?_
      refine R_eqi (y := nI (pwM (pwU (dK (κ 16)) (ρ t)).1)) (by obtain ⟨m_, h1_, h2_⟩ := we_ok (by rw [htl, hpl]; omega) (lg_cmp0 c_29); rw [(pwM_eq (by rw [htl, hpl] at h1_; omega) h2_).1]; exact (pwM_eq (by rw [htl, hpl] at h1_; omega) h2_).2) ?_
      have hpm_ : pwM (pwU (dK (κ 16)) (ρ t)).1 < 2 ^ 31 := by obtain ⟨m_, h1_, h2_⟩ := we_ok (by rw [htl, hpl]; omega) (lg_cmp0 c_29); rw [(pwM_eq (by rw [htl, hpl] at h1_; omega) h2_).1]; rw [htl, hpl] at h1_; omega
      refine R_callVh (pc := 87) (μ' := mX6_keep) (As := [.int (nI (pwM (pwU (dK (κ 16)) (ρ t)).1))]) (st := []) dX10_unlockPaddedWrap_87 zX6_keep lX10_63 ⟨by decide, by decide⟩ rfl rfl ⟨by decide, by decide⟩ (S_25.rowO m hm) (by omega) rfl (Nat.le_of_ble_eq_true rfl) (S_keep S_25 hn hm (pwM (pwU (dK (κ 16)) (ρ t)).1) (by omega)) (fun h_30 r_ q_31 => ?_)
      obtain ⟨rfl, S_32, F_34⟩ := q_31
      have S_33 : Sys h_30 (ur ρ m ((tk8 ((pwU (dK (κ 16)) (ρ t)).2)).take (pwM (pwU (dK (κ 16)) (ρ t)).1))) β_27 κ τ := by have z_ := S_32; (try simp only [ur_s, ur_ur, ur_n (x := t) (r := m) htm] at z_); exact z_
      refine R_iconst (pc := 90) (v := 1) dX10_unlockPaddedWrap_90 (by decide) ?_
      have hBB : ∀ a, a ∉ [40] → β_27 a = β a := by
        intro a_ n_
        simp only [List.mem_cons, List.not_mem_nil, or_false, not_or] at n_
        (try simp only [ub, if_neg, n_, if_false])
        rw [B_28 a_ (by simp [n_])]
        (try simp only [ub, if_neg, n_, if_false])
        rw [B_21 a_ (by simp [n_])]
        (try simp only [ub, if_neg, n_, if_false])
        rw [B_13 a_ (by simp [n_])]
        (try simp only [ub, if_neg, n_, if_false])
      rw [show pwR (dK (κ 16)) (ρ t) = (tk8 ((pwU (dK (κ 16)) (ρ t)).2)).take (pwM (pwU (dK (κ 16)) (ρ t)).1) from if_pos c_29, show (if pwC (dK (κ 16)) (ρ t) = 0 then (1 : Int32) else 0) = 1 from if_pos c_29]
      exact R_zreturn (pc := 91) dX10_unlockPaddedWrap_91 rfl rfl (by decide) (by decide) ⟨rfl, _, hBB, rfl, S_33, ((((F_5.tr F_11).tr F_19).tr F_26).tr F_34)⟩
    · skip
      refine R_iconst (pc := 78) (v := 0) dX10_unlockPaddedWrap_78 (by decide) ?_
      have hBB : ∀ a, a ∉ [40] → β_27 a = β a := by
        intro a_ n_
        simp only [List.mem_cons, List.not_mem_nil, or_false, not_or] at n_
        (try simp only [ub, if_neg, n_, if_false])
        rw [B_28 a_ (by simp [n_])]
        (try simp only [ub, if_neg, n_, if_false])
        rw [B_21 a_ (by simp [n_])]
        (try simp only [ub, if_neg, n_, if_false])
        rw [B_13 a_ (by simp [n_])]
        (try simp only [ub, if_neg, n_, if_false])
      rw [show pwR (dK (κ 16)) (ρ t) = tk8 ((pwU (dK (κ 16)) (ρ t)).2) from if_neg c_29, show (if pwC (dK (κ 16)) (ρ t) = 0 then (1 : Int32) else 0) = 0 from if_neg c_29]
      exact R_zreturn (pc := 79) dX10_unlockPaddedWrap_79 rfl rfl (by decide) (by decide) ⟨rfl, _, hBB, rfl, S_25, (((F_5.tr F_11).tr F_19).tr F_26)⟩
  · skip
    refine R_aload_n (pc := 14) 0 dX10_unlockPaddedWrap_14 rfl rfl ?_
    refine R_get (pc := 15) dX10_unlockPaddedWrap_15 fX10_16 S_4.2.2.2.2.2.2.1 (by omega) rfl ?_
    refine R_aload_n (pc := 18) 2 dX10_unlockPaddedWrap_18 rfl rfl ?_
    refine R_iconst (pc := 19) (v := 0) dX10_unlockPaddedWrap_19 (by decide) ?_
    refine R_callVh (pc := 20) (μ' := mX0_read) (As := [.ref m, .int (nI 0)]) (st := []) dX10_unlockPaddedWrap_20 zX0_read lX10_71 ⟨by decide, by decide⟩ rfl rfl ⟨by decide, by decide⟩ (S_4.blk 40 rfl) (by omega) rfl (Nat.le_of_ble_eq_true rfl) (S_read S_4 hn rfl hm 0 (by omega)) (fun h_35 r_ q_36 => ?_)
    obtain ⟨rfl, S_37, F_39⟩ := q_36
    have S_38 : Sys h_35 (ur ρ m (ρ t)) (ub β 40 (rd (ρ t) 0)) κ τ := by have z_ := S_37; (try simp only [ur_s, ur_ur, ur_n (x := t) (r := m) htm] at z_); exact z_
    refine R_aload_n (pc := 23) 0 dX10_unlockPaddedWrap_23 rfl rfl ?_
    refine R_get (pc := 24) dX10_unlockPaddedWrap_24 fX10_7 S_38.2.2.2.2.2.2.1 (by omega) rfl ?_
    refine R_aload_n (pc := 27) 0 dX10_unlockPaddedWrap_27 rfl rfl ?_
    refine R_get (pc := 28) dX10_unlockPaddedWrap_28 fX10_16 S_38.2.2.2.2.2.2.1 (by omega) rfl ?_
    refine R_callVh (pc := 31) (μ' := mX2_decrypt) (As := [.ref 40]) (st := []) dX10_unlockPaddedWrap_31 zX2_decrypt lX10_75 ⟨by decide, by decide⟩ rfl rfl ⟨by decide, by decide⟩ (S_38.2.2.1 16 (by decide)).1 (by omega) rfl (Nat.le_of_ble_eq_true rfl) (S_decrypt S_38 hn (by decide) rfl hk.1 hk.2) (fun h_40 r_ q_41 => ?_)
    obtain ⟨rfl, S_42, F_44⟩ := q_41
    have S_43 : Sys h_40 (ur ρ m (ρ t)) (ub (ub β 40 (rd (ρ t) 0)) 40 (dK (κ 16) (rd (ρ t) 0))) κ τ := by have z_ := S_42; (try simp only [ur_s, ur_ur, ur_n (x := t) (r := m) htm] at z_); exact z_
    refine R_aload_n (pc := 34) 0 dX10_unlockPaddedWrap_34 rfl rfl ?_
    refine R_get (pc := 35) dX10_unlockPaddedWrap_35 fX10_16 S_43.2.2.2.2.2.2.1 (by omega) rfl ?_
    skip
    refine R_get (pc := 38) dX10_unlockPaddedWrap_38 fX10_78 (S_43.blk 40 rfl) (by omega) rfl ?_
    refine R_eql (y := (dK (κ 16) (rd (ρ t) 0)).1) rfl ?_
    refine R_lstore_n (pc := 41) (lv' := [(3, .long ((dK (κ 16) (rd (ρ t) 0)).1)), (0, .ref 39), (1, .ref t), (2, .ref m)]) dX10_unlockPaddedWrap_41 rfl (by decide) rfl ?_
    refine R_aload_n (pc := 42) 3 dX10_unlockPaddedWrap_42 rfl rfl ?_
    refine R_bipush (pc := 43) (v := 8) dX10_unlockPaddedWrap_43 (by decide) ?_
    refine R_aload_n (pc := 45) 1 dX10_unlockPaddedWrap_45 rfl rfl ?_
    refine R_get (pc := 46) dX10_unlockPaddedWrap_46 fX10_16 S_43.2.2.2.2.2.2.1 (by omega) rfl ?_
    skip
    refine R_get (pc := 49) dX10_unlockPaddedWrap_49 fX10_82 (S_43.blk 40 rfl) (by omega) rfl ?_
    refine R_eql (y := (dK (κ 16) (rd (ρ t) 0)).2) rfl ?_
    refine R_callVh (pc := 52) (μ' := mX6_putEight) (As := [.int (nI 8), .long ((dK (κ 16) (rd (ρ t) 0)).2)]) (st := []) dX10_unlockPaddedWrap_52 zX6_putEight lX10_85 ⟨by decide, by decide⟩ rfl rfl ⟨by decide, by decide⟩ (S_43.rowO m hm) (by omega) rfl (Nat.le_of_ble_eq_true rfl) (S_putEight S_43 hn hm 8 _ (by omega)) (fun h_45 r_ q_46 => ?_)
    obtain ⟨rfl, S_47, F_49⟩ := q_46
    have S_48 : Sys h_45 (ur ρ m (p8 (ρ t) 8 ((dK (κ 16) (rd (ρ t) 0)).2) 8)) (ub (ub β 40 (rd (ρ t) 0)) 40 (dK (κ 16) (rd (ρ t) 0))) κ τ := by have z_ := S_47; (try simp only [ur_s, ur_ur, ur_n (x := t) (r := m) htm] at z_); exact z_
    refine R_goto (pc := 55) (tgt := 64) dX10_unlockPaddedWrap_55 (by decide) ?_
    have eU_ : pwU (dK (κ 16)) (ρ t) = ((dK (κ 16) (rd (ρ t) 0)).1, p8 (ρ t) 8 ((dK (κ 16) (rd (ρ t) 0)).2) 8) := if_pos c_6
    have eU2_ : (pwU (dK (κ 16)) (ρ t)).2 = p8 (ρ t) 8 ((dK (κ 16) (rd (ρ t) 0)).2) 8 := by rw [eU_]
    have eU1_ : (dK (κ 16) (rd (ρ t) 0)).1 = (pwU (dK (κ 16)) (ρ t)).1 := by rw [eU_]
    have S_50 : Sys h_45 (ur ρ m (pwU (dK (κ 16)) (ρ t)).2) (ub (ub β 40 (rd (ρ t) 0)) 40 (dK (κ 16) (rd (ρ t) 0))) κ τ := Sys.rowEq eU2_ S_48
    rw [eU1_]
    refine R_aload_n (pc := 64) 3 dX10_unlockPaddedWrap_64 rfl rfl ?_
    refine R_callSh (pc := 65) (μ' := mX10_takeOff) (As := [.ref m]) (st := []) dX10_unlockPaddedWrap_65 zX10_takeOff lX10_40 ⟨by decide, by decide⟩ rfl rfl ⟨by decide, by decide⟩ rfl (Nat.le_of_ble_eq_true rfl) (qX10_takeOff S_50 hn hm (by simp only [ur_s]; omega)) (fun h_51 r_ q_52 => ?_)
    obtain ⟨β_56, B_57, rfl, S_53, F_55⟩ := q_52
    have S_54 : Sys h_51 (ur ρ m (tk8 ((pwU (dK (κ 16)) (ρ t)).2))) β_56 κ τ := by have z_ := S_53; (try simp only [ub, Nat.reduceEqDiff, ↓reduceIte, ur_s, ur_ur, ur_n (x := t) (r := m) htm] at z_); exact z_
    refine R_lload_n (pc := 68) 0 dX10_unlockPaddedWrap_68 rfl rfl ?_
    refine R_aload_n (pc := 69) 3 dX10_unlockPaddedWrap_69 rfl rfl ?_
    refine R_callSh (pc := 70) (μ' := mX10_wrongEnd) (As := [.long ((pwU (dK (κ 16)) (ρ t)).1), .ref m]) (st := []) dX10_unlockPaddedWrap_70 zX10_wrongEnd lX10_89 ⟨by decide, by decide⟩ rfl rfl ⟨by decide, by decide⟩ rfl (Nat.le_of_ble_eq_true rfl) (qX10_wrongEnd S_54 hn hm _ (by simp only [ur_s]; rw [htl, hpl]; omega)) (fun h_58 r_ q_59 => ?_)
    obtain ⟨β_63, B_64, rfl, S_60, F_62⟩ := q_59
    have S_61 : Sys h_58 (ur ρ m (tk8 ((pwU (dK (κ 16)) (ρ t)).2))) β_63 κ τ := S_60
    refine R_eql (y := weN ((pwU (dK (κ 16)) (ρ t)).1) (tk8 ((pwU (dK (κ 16)) (ρ t)).2)) 8) (by first | rfl | (simp only [ur_s, ur_ur, ur_n (x := t) (r := m) htm]) | (simp only [ur_s, ur_ur, ur_n (x := t) (r := m) htm]; rfl)) ?_
    refine R_lconst (pc := 73) (v := 0) dX10_unlockPaddedWrap_73 (by decide) ?_
    refine R_lcmp (pc := 74) dX10_unlockPaddedWrap_74 ?_
    refine R_if_eq (pc := 75) (tgt := 80) dX10_unlockPaddedWrap_75 (by decide) (fun c_65 => ?_) (fun c_65 => ?_)
    · skip
      refine R_aload_n (pc := 80) 3 dX10_unlockPaddedWrap_80 rfl rfl ?_
      refine R_lload_n (pc := 81) 0 dX10_unlockPaddedWrap_81 rfl rfl ?_
      refine R_ldc2 (pc := 82) dX10_unlockPaddedWrap_82 cX10_93 ?_
      refine R_land (pc := 85) dX10_unlockPaddedWrap_85 ?_
      refine R_l2i (pc := 86) (v := (((pwU (dK (κ 16)) (ρ t)).1) &&& (4294967295 : Int64)).toInt32) dX10_unlockPaddedWrap_86 rfl ?_
      refine R_eqi (y := nI (pwM (pwU (dK (κ 16)) (ρ t)).1)) (by obtain ⟨m_, h1_, h2_⟩ := we_ok (by rw [htl, hpl]; omega) (lg_cmp0 c_65); rw [(pwM_eq (by rw [htl, hpl] at h1_; omega) h2_).1]; exact (pwM_eq (by rw [htl, hpl] at h1_; omega) h2_).2) ?_
      have hpm_ : pwM (pwU (dK (κ 16)) (ρ t)).1 < 2 ^ 31 := by obtain ⟨m_, h1_, h2_⟩ := we_ok (by rw [htl, hpl]; omega) (lg_cmp0 c_65); rw [(pwM_eq (by rw [htl, hpl] at h1_; omega) h2_).1]; rw [htl, hpl] at h1_; omega
      refine R_callVh (pc := 87) (μ' := mX6_keep) (As := [.int (nI (pwM (pwU (dK (κ 16)) (ρ t)).1))]) (st := []) dX10_unlockPaddedWrap_87 zX6_keep lX10_63 ⟨by decide, by decide⟩ rfl rfl ⟨by decide, by decide⟩ (S_61.rowO m hm) (by omega) rfl (Nat.le_of_ble_eq_true rfl) (S_keep S_61 hn hm (pwM (pwU (dK (κ 16)) (ρ t)).1) (by omega)) (fun h_66 r_ q_67 => ?_)
      obtain ⟨rfl, S_68, F_70⟩ := q_67
      have S_69 : Sys h_66 (ur ρ m ((tk8 ((pwU (dK (κ 16)) (ρ t)).2)).take (pwM (pwU (dK (κ 16)) (ρ t)).1))) β_63 κ τ := by have z_ := S_68; (try simp only [ur_s, ur_ur, ur_n (x := t) (r := m) htm] at z_); exact z_
      refine R_iconst (pc := 90) (v := 1) dX10_unlockPaddedWrap_90 (by decide) ?_
      have hBB : ∀ a, a ∉ [40] → β_63 a = β a := by
        intro a_ n_
        simp only [List.mem_cons, List.not_mem_nil, or_false, not_or] at n_
        (try simp only [ub, if_neg, n_, if_false])
        rw [B_64 a_ (by simp [n_])]
        (try simp only [ub, if_neg, n_, if_false])
        rw [B_57 a_ (by simp [n_])]
        (try simp only [ub, if_neg, n_, if_false])
      rw [show pwR (dK (κ 16)) (ρ t) = (tk8 ((pwU (dK (κ 16)) (ρ t)).2)).take (pwM (pwU (dK (κ 16)) (ρ t)).1) from if_pos c_65, show (if pwC (dK (κ 16)) (ρ t) = 0 then (1 : Int32) else 0) = 1 from if_pos c_65]
      exact R_zreturn (pc := 91) dX10_unlockPaddedWrap_91 rfl rfl (by decide) (by decide) ⟨rfl, _, hBB, rfl, S_69, ((((((F_5.tr F_39).tr F_44).tr F_49).tr F_55).tr F_62).tr F_70)⟩
    · skip
      refine R_iconst (pc := 78) (v := 0) dX10_unlockPaddedWrap_78 (by decide) ?_
      have hBB : ∀ a, a ∉ [40] → β_63 a = β a := by
        intro a_ n_
        simp only [List.mem_cons, List.not_mem_nil, or_false, not_or] at n_
        (try simp only [ub, if_neg, n_, if_false])
        rw [B_64 a_ (by simp [n_])]
        (try simp only [ub, if_neg, n_, if_false])
        rw [B_57 a_ (by simp [n_])]
        (try simp only [ub, if_neg, n_, if_false])
      rw [show pwR (dK (κ 16)) (ρ t) = tk8 ((pwU (dK (κ 16)) (ρ t)).2) from if_neg c_65, show (if pwC (dK (κ 16)) (ρ t) = 0 then (1 : Int32) else 0) = 0 from if_neg c_65]
      exact R_zreturn (pc := 79) dX10_unlockPaddedWrap_79 rfl rfl (by decide) (by decide) ⟨rfl, _, hBB, rfl, S_61, (((((F_5.tr F_39).tr F_44).tr F_49).tr F_55).tr F_62)⟩
