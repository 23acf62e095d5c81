theorem pdd4_len (L : List (BitVec 8)) : (pdd 4 L).length = (L.length + 15) / 16 * 16 := by
  rw [pdd_len]
  unfold pad2
  omega
def lqN (len q : Nat) : Nat → List (BitVec 8)
  | 0 => []
  | s + 1 => lqN len q s ++ [t8 (jlushr (nI len).toInt64 (8 * nI (q - 1 - s))).toInt32]
theorem lqN_len (len q : Nat) : ∀ s, (lqN len q s).length = s
  | 0 => rfl
  | s + 1 => by
    show (lqN len q s ++ [_]).length = _
    rw [List.length_append, lqN_len len q s]
    rfl
def dnq (q s : Nat) : Int32 := nI q - nI (s + 1)
theorem dnq_1 (q s : Nat) : dnq q s + (-1) = dnq q (s + 1) := by
  unfold dnq
  rw [← nI_1 (s + 1)]
  have : ∀ a b : Int32, a - b + (-1) = a - (b + 1) := by
    intro a b
    apply Int32.toBitVec_inj.mp
    simp only [Int32.toBitVec_add, Int32.toBitVec_sub, Int32.toBitVec_neg]
    rw [BitVec.sub_eq_add_neg, BitVec.sub_eq_add_neg, BitVec.neg_add, BitVec.add_assoc, BitVec.sub_eq_add_neg]
  exact this (nI q) (nI (s + 1))
theorem dnq_n {q s : Nat} (h : s < q) : dnq q s = nI (q - 1 - s) := (pk_sub (a := q) (b := s + 1) h).trans (by rw [show q - (s + 1) = q - 1 - s by omega])
theorem dnq_e {q : Nat} (h : q < 100) : dnq q q < 0 := pk_sneg (by omega) (by omega)
def lcF (A : List (BitVec 8)) (q mm : Nat) : Int32 := (if nI A.length ≤ 0 then 0 else 64) + 8 * ((nI mm - 2) / 2) + nI q - 1
def lcB (A st : List (BitVec 8)) (len q mm : Nat) : List (BitVec 8) := [t8 (lcF A q mm)] ++ st ++ lqN len q q
def lcC (A B : List (BitVec 8)) : List (BitVec 8) := if nI A.length ≤ 0 then B else pdd 4 (B ++ [t8 (nI A.length >>> (8 &&& 31))] ++ [t8 (nI A.length)] ++ A)
/-- COUNTED's row to be summed -/
def lcW (A st P : List (BitVec 8)) (q mm : Nat) : List (BitVec 8) := pdd 4 (lcC A (lcB A st P.length q mm) ++ P)
theorem lcC_len (A B : List (BitVec 8)) (h : B.length = 16) (hA : A.length ≤ 256) : (lcC A B).length ≤ 288 := by
  unfold lcC
  split
  · omega
  · rw [pdd4_len]
    simp only [List.length_append, List.length_cons, List.length_nil]
    omega
set_option maxHeartbeats 4000000 in
set_option maxRecDepth 100000 in
theorem qX4_layCounted_loop {l : Launch} {w : am_W} {h : am_H} {n : Nat} {ρ : Nat → List (BitVec 8)} {β : Nat → bP} {κ : Nat → kT} {τ : Nat × Nat × Nat} (S : Sys h ρ β κ τ) (hn : 60 ≤ n) {t : Nat} (ht : isRw t = true) (ht24 : t ≠ 24) (q mm : Nat) (hq : (ρ 6).length + q = 15) (hq1 : 1 ≤ q) (hA : (ρ 8).length ≤ 256) (hr : (ρ t).length ≤ 512) (kk : ∀ h2 β2, Sys h2 (ur ρ 24 ([t8 (lcF (ρ 8) q mm)] ++ ρ 6 ++ lqN (ρ t).length q (q))) β2 κ τ → (∀ a, a ∉ [] → β2 a = β a) → Fr h h2 → RW l w mX4_layCounted h2 n 0 0 90 [(4, .int (dnq q (q))), (0, .ref 47), (1, .ref t), (2, .int (nI q)), (3, .int (nI mm))] [] (fun h' n' r_ => n' = n ∧ (SX h τ none (ur ρ 24 (lcW (ρ 8) (ρ 6) (ρ t) q mm)) β κ []) h' r_)) : ∀ (d i : Nat), i + d = q → ∀ h2 β2, Sys h2 (ur ρ 24 ([t8 (lcF (ρ 8) q mm)] ++ ρ 6 ++ lqN (ρ t).length q i)) β2 κ τ → (∀ a, a ∉ [] → β2 a = β a) → Fr h h2 → RW l w mX4_layCounted h2 n 0 0 60 [(4, .int (dnq q i)), (0, .ref 47), (1, .ref t), (2, .int (nI q)), (3, .int (nI mm))] [] (fun h' n' r_ => n' = n ∧ (SX h τ none (ur ρ 24 (lcW (ρ 8) (ρ 6) (ρ t) q mm)) β κ []) h' r_) := by
  have hlt := S.len t ht
  have htc := rw_cases ht
  have hnb := nbk_b (ρ t)
  intro d
  induction d with
  | zero =>
    intro i hd h2 β2 S2 hB hF
    refine R_iload (pc := 60) 0 dX4_layCounted_60 rfl ?_
    refine R_if_lt (pc := 62) (tgt := 90) dX4_layCounted_62 (by decide) (fun c_1 => ?_) (fun c_1 => absurd (by rw [show i = q by omega]; exact dnq_e (by omega)) c_1)
    obtain rfl : i = q := by omega
    exact kk h2 β2 S2 hB hF
  | succ d ih =>
    intro i hd h2 β2 S2 hB hF
    refine R_iload (pc := 60) 0 dX4_layCounted_60 rfl ?_
    refine R_if_lt (pc := 62) (tgt := 90) dX4_layCounted_62 (by decide) (fun c_1 => absurd c_1 (by rw [dnq_n (by omega)]; exact nI_pos (by omega))) (fun c_1 => ?_)
    refine R_aload_n (pc := 65) 1 dX4_layCounted_65 rfl rfl ?_
    refine R_get (pc := 66) dX4_layCounted_66 fX4_27 S2.2.2.2.2.2.2.2.2.1 (by omega) rfl ?_
    refine R_aload_n (pc := 69) 2 dX4_layCounted_69 rfl rfl ?_
    have := rw_cases (r := t) ht
    refine R_get (pc := 70) dX4_layCounted_70 fX4_47 (S2.rowO t ht) (by omega) rfl ?_
    refine R_eqi (y := nI (ρ t).length) (by first | rfl | (simp only [ur_s, ur_ur, ur_n (x := t) (r := 24) ht24, ur_n (x := 2) (r := 24) (by decide), ur_n (x := 4) (r := 24) (by decide), ur_n (x := 6) (r := 24) (by decide), ur_n (x := 8) (r := 24) (by decide)])) ?_
    refine R_i2l (pc := 73) (v := (nI (ρ t).length).toInt64) dX4_layCounted_73 rfl ?_
    refine R_bipush (pc := 74) (v := 8) dX4_layCounted_74 (by decide) ?_
    refine R_iload (pc := 76) 0 dX4_layCounted_76 rfl ?_
    refine R_eqi (y := nI (q - 1 - i)) (dnq_n (by omega)) ?_
    refine R_imul (pc := 78) dX4_layCounted_78 ?_
    refine R_lushr (pc := 79) (v := jlushr ((nI (ρ t).length).toInt64) (8 * (nI (q - 1 - i)))) dX4_layCounted_79 rfl ?_
    refine R_l2i (pc := 80) (v := (jlushr ((nI (ρ t).length).toInt64) (8 * (nI (q - 1 - i)))).toInt32) dX4_layCounted_80 rfl ?_
    refine R_callVh (pc := 81) (μ' := mX6_append) (As := [.int ((jlushr ((nI (ρ t).length).toInt64) (8 * (nI (q - 1 - i)))).toInt32)]) (st := []) dX4_layCounted_81 zX6_append lX4_101 ⟨by decide, by decide⟩ rfl rfl ⟨by decide, by decide⟩ (S2.rowO 24 rfl) (by omega) rfl (Nat.le_of_ble_eq_true rfl) (S_append S2 hn rfl _ (by simp only [ur_s, List.length_append, lqN_len, List.length_cons, List.length_nil]; show _ < 800; omega)) (fun h_2 r_ q_3 => ?_)
    obtain ⟨rfl, S_4, F_6⟩ := q_3
    have S_5 : Sys h_2 (ur ρ 24 (([t8 (lcF (ρ 8) q mm)] ++ ρ 6 ++ lqN (ρ t).length q i) ++ [t8 ((jlushr ((nI (ρ t).length).toInt64) (8 * (nI (q - 1 - i)))).toInt32)])) β2 κ τ := by have z_ := S_4; (try simp only [ur_s, ur_ur, ur_n (x := t) (r := 24) ht24, ur_n (x := 2) (r := 24) (by decide), ur_n (x := 4) (r := 24) (by decide), ur_n (x := 6) (r := 24) (by decide), ur_n (x := 8) (r := 24) (by decide)] at z_); exact z_
    refine R_iinc (pc := 84) (j := 0) (v := dnq q (i + 1)) (lv' := [(4, .int (dnq q (i + 1))), (0, .ref 47), (1, .ref t), (2, .int (nI q)), (3, .int (nI mm))]) dX4_layCounted_84 rfl (dnq_1 q i) (by decide) rfl ?_
    refine R_goto (pc := 87) (tgt := 60) dX4_layCounted_87 (by decide) ?_
    refine R_sub [0, 1, 2, 3, 4] rfl ?_
    refine ih (i + 1) (by omega) h_2 β2 (by have z_ := S_5; rw [List.append_assoc] at z_; exact z_)  (fun a_ n_ => ?_) (hF.tr F_6)
    have q_ := hB a_ n_; simp only [List.mem_cons, List.not_mem_nil, or_false, not_or] at n_
    (try simp only [ub, if_neg, n_, if_false])
    first | exact q_ | (simp only [ub_k]; exact q_) | (rw [q_]; simp only [ub_k]) | (repeat' split) <;> first | exact q_ | (rename_i e_; rw [e_])
set_option maxHeartbeats 4000000 in
set_option maxRecDepth 100000 in
theorem qX4_layCounted {l : Launch} {w : am_W} {h : am_H} {n : Nat} {ρ : Nat → List (BitVec 8)} {β : Nat → bP} {κ : Nat → kT} {τ : Nat × Nat × Nat} (S : Sys h ρ β κ τ) (hn : 60 ≤ n) {t : Nat} (ht : isRw t = true) (ht24 : t ≠ 24) (q mm : Nat) (hq : (ρ 6).length + q = 15) (hq1 : 1 ≤ q) (hA : (ρ 8).length ≤ 256) (hr : (ρ t).length ≤ 512) : RH l w mX4_layCounted h n [.ref 47, .ref t, .int (nI q), .int (nI mm)] (SX h τ none (ur ρ 24 (lcW (ρ 8) (ρ 6) (ρ t) q mm)) β κ []) := by
  refine RC.of [(0, .ref 47), (1, .ref t), (2, .int (nI q)), (3, .int (nI mm))] (by decide +kernel) rfl (Nat.le_of_ble_eq_true rfl) ?_
  have hlt := S.len t ht
  have htc := rw_cases ht
  have hnb := nbk_b (ρ t)
  refine R_aload_n (pc := 0) 0 dX4_layCounted_0 rfl rfl ?_
  refine R_get (pc := 1) dX4_layCounted_1 fX4_27 S.2.2.2.2.2.2.2.2.1 (by omega) rfl ?_
  refine R_iconst (pc := 4) (v := 0) dX4_layCounted_4 (by decide) ?_
  refine R_callVh (pc := 5) (μ' := mX6_keep) (As := [.int (nI 0)]) (st := []) dX4_layCounted_5 zX6_keep lX4_97 ⟨by decide, by decide⟩ rfl rfl ⟨by decide, by decide⟩ (S.rowO 24 rfl) (by omega) rfl (Nat.le_of_ble_eq_true rfl) (S_keep S hn rfl 0 (by omega)) (fun h_1 r_ q_2 => ?_)
  obtain ⟨rfl, S_3, F_5⟩ := q_2
  have S_4 : Sys h_1 (ur ρ 24 ((ρ 24).take 0)) β κ τ := by have z_ := S_3; (try simp only [ur_s, ur_ur, ur_n (x := t) (r := 24) ht24, ur_n (x := 2) (r := 24) (by decide), ur_n (x := 4) (r := 24) (by decide), ur_n (x := 6) (r := 24) (by decide), ur_n (x := 8) (r := 24) (by decide)] at z_); exact z_
  refine R_aload_n (pc := 8) 0 dX4_layCounted_8 rfl rfl ?_
  refine R_get (pc := 9) dX4_layCounted_9 fX4_27 S_4.2.2.2.2.2.2.2.2.1 (by omega) rfl ?_
  refine R_aload_n (pc := 12) 0 dX4_layCounted_12 rfl rfl ?_
  refine R_get (pc := 13) dX4_layCounted_13 fX4_24 S_4.2.2.2.2.2.2.2.2.1 (by omega) rfl ?_
  skip
  refine R_get (pc := 16) dX4_layCounted_16 fX4_47 (S_4.rowO 8 rfl) (by omega) rfl ?_
  refine R_eqi (y := nI (ρ 8).length) (by first | rfl | (simp only [ur_s, ur_ur, ur_n (x := t) (r := 24) ht24, ur_n (x := 2) (r := 24) (by decide), ur_n (x := 4) (r := 24) (by decide), ur_n (x := 6) (r := 24) (by decide), ur_n (x := 8) (r := 24) (by decide)])) ?_
  refine R_if_le (pc := 19) (tgt := 27) dX4_layCounted_19 (by decide) (fun c_6 => ?_) (fun c_6 => ?_)
  · skip
    refine R_iconst (pc := 27) (v := 0) dX4_layCounted_27 (by decide) ?_
    refine R_bipush (pc := 28) (v := 8) dX4_layCounted_28 (by decide) ?_
    refine R_iload_n (pc := 30) 3 dX4_layCounted_30 rfl rfl ?_
    refine R_iconst (pc := 31) (v := 2) dX4_layCounted_31 (by decide) ?_
    refine R_isub (pc := 32) dX4_layCounted_32 ?_
    refine R_iconst (pc := 33) (v := 2) dX4_layCounted_33 (by decide) ?_
    refine R_idiv (pc := 34) dX4_layCounted_34 (by decide) ?_
    refine R_imul (pc := 35) dX4_layCounted_35 ?_
    refine R_iadd (pc := 36) dX4_layCounted_36 ?_
    refine R_iload_n (pc := 37) 2 dX4_layCounted_37 rfl rfl ?_
    refine R_iadd (pc := 38) dX4_layCounted_38 ?_
    refine R_iconst (pc := 39) (v := 1) dX4_layCounted_39 (by decide) ?_
    refine R_isub (pc := 40) dX4_layCounted_40 ?_
    refine R_eqi (y := lcF (ρ 8) q mm) (by unfold lcF; rw [if_pos c_6]) ?_
    refine R_callVh (pc := 41) (μ' := mX6_append) (As := [.int (lcF (ρ 8) q mm)]) (st := []) dX4_layCounted_41 zX6_append lX4_101 ⟨by decide, by decide⟩ rfl rfl ⟨by decide, by decide⟩ (S_4.rowO 24 rfl) (by omega) rfl (Nat.le_of_ble_eq_true rfl) (S_append S_4 hn rfl _ (by simp only [ur_s, List.take_zero, List.length_nil]; show _ < 800; omega)) (fun h_7 r_ q_8 => ?_)
    obtain ⟨rfl, S_9, F_11⟩ := q_8
    have S_10 : Sys h_7 (ur ρ 24 (((ρ 24).take 0) ++ [t8 (lcF (ρ 8) q mm)])) β κ τ := by have z_ := S_9; (try simp only [ur_s, ur_ur, ur_n (x := t) (r := 24) ht24, ur_n (x := 2) (r := 24) (by decide), ur_n (x := 4) (r := 24) (by decide), ur_n (x := 6) (r := 24) (by decide), ur_n (x := 8) (r := 24) (by decide)] at z_); exact z_
    rw [List.take_zero, List.nil_append] at S_10
    refine R_aload_n (pc := 44) 0 dX4_layCounted_44 rfl rfl ?_
    refine R_get (pc := 45) dX4_layCounted_45 fX4_27 S_10.2.2.2.2.2.2.2.2.1 (by omega) rfl ?_
    refine R_aload_n (pc := 48) 0 dX4_layCounted_48 rfl rfl ?_
    refine R_get (pc := 49) dX4_layCounted_49 fX4_20 S_10.2.2.2.2.2.2.2.2.1 (by omega) rfl ?_
    refine R_callVh (pc := 52) (μ' := mX6_appendRow) (As := [.ref 6]) (st := []) dX4_layCounted_52 zX6_appendRow lX4_104 ⟨by decide, by decide⟩ rfl rfl ⟨by decide, by decide⟩ (S_10.rowO 24 rfl) (by omega) rfl (Nat.le_of_ble_eq_true rfl) (S_appendRow S_10 hn rfl rfl (by decide) (by simp only [ur_s, ur_n (x := 6) (r := 24) (by decide), List.length_append, List.length_cons, List.length_nil]; show _ ≤ 800; omega)) (fun h_12 r_ q_13 => ?_)
    obtain ⟨rfl, S_14, F_16⟩ := q_13
    have S_15 : Sys h_12 (ur ρ 24 (([t8 (lcF (ρ 8) q mm)]) ++ (ρ 6))) β κ τ := by have z_ := S_14; (try simp only [ur_s, ur_ur, ur_n (x := t) (r := 24) ht24, ur_n (x := 2) (r := 24) (by decide), ur_n (x := 4) (r := 24) (by decide), ur_n (x := 6) (r := 24) (by decide), ur_n (x := 8) (r := 24) (by decide)] at z_); exact z_
    refine R_iload_n (pc := 55) 2 dX4_layCounted_55 rfl rfl ?_
    refine R_iconst (pc := 56) (v := 1) dX4_layCounted_56 (by decide) ?_
    refine R_isub (pc := 57) dX4_layCounted_57 ?_
    refine R_eqi (y := dnq q 0) (rfl) ?_
    refine R_istore (pc := 58) (lv' := [(4, .int (dnq q 0)), (0, .ref 47), (1, .ref t), (2, .int (nI q)), (3, .int (nI mm))]) dX4_layCounted_58 (by decide) rfl ?_
    refine R_sub [0, 1, 2, 3, 4] rfl ?_
    refine qX4_layCounted_loop S hn ht ht24 q mm hq hq1 hA hr ?_ q 0 (by omega) h_12 β (by have z_ := S_15; rw [show lqN (ρ t).length q 0 = [] from rfl, List.append_nil]; exact z_) (fun _ _ => rfl) ((F_5.tr F_11).tr F_16)
    intro h2 β2 S2 hB hF
    change Sys h2 (ur ρ 24 (lcB (ρ 8) (ρ 6) (ρ t).length q mm)) β2 κ τ at S2
    have hBl : (lcB (ρ 8) (ρ 6) (ρ t).length q mm).length = 16 := by unfold lcB; simp only [List.length_append, lqN_len, List.length_cons, List.length_nil]; omega
    have hCl := lcC_len (ρ 8) (lcB (ρ 8) (ρ 6) (ρ t).length q mm) hBl hA
    refine R_aload_n (pc := 90) 1 dX4_layCounted_90 rfl rfl ?_
    refine R_get (pc := 91) dX4_layCounted_91 fX4_24 S2.2.2.2.2.2.2.2.2.1 (by omega) rfl ?_
    skip
    refine R_get (pc := 94) dX4_layCounted_94 fX4_47 (S2.rowO 8 rfl) (by omega) rfl ?_
    refine R_eqi (y := nI (ρ 8).length) (by first | rfl | (simp only [ur_s, ur_ur, ur_n (x := t) (r := 24) ht24, ur_n (x := 2) (r := 24) (by decide), ur_n (x := 4) (r := 24) (by decide), ur_n (x := 6) (r := 24) (by decide), ur_n (x := 8) (r := 24) (by decide)])) ?_
    refine R_if_le (pc := 97) (tgt := 151) dX4_layCounted_97 (by decide) (fun c_17 => ?_) (fun c_17 => ?_)
    · skip
      have S_18 : Sys h2 (ur ρ 24 (lcC (ρ 8) (lcB (ρ 8) (ρ 6) (ρ t).length q mm))) β2 κ τ := by rw [show lcC (ρ 8) (lcB (ρ 8) (ρ 6) (ρ t).length q mm) = lcB (ρ 8) (ρ 6) (ρ t).length q mm from if_pos c_17]; exact S2
      refine R_aload_n (pc := 151) 1 dX4_layCounted_151 rfl rfl ?_
      refine R_get (pc := 152) dX4_layCounted_152 fX4_27 S_18.2.2.2.2.2.2.2.2.1 (by omega) rfl ?_
      refine R_aload_n (pc := 155) 2 dX4_layCounted_155 rfl rfl ?_
      refine R_callVh (pc := 156) (μ' := mX6_appendRow) (As := [.ref t]) (st := []) dX4_layCounted_156 zX6_appendRow lX4_104 ⟨by decide, by decide⟩ rfl rfl ⟨by decide, by decide⟩ (S_18.rowO 24 rfl) (by omega) rfl (Nat.le_of_ble_eq_true rfl) (S_appendRow S_18 hn rfl ht ht24 (by simp only [ur_s, ur_n (x := t) (r := 24) ht24]; show _ ≤ 800; omega)) (fun h_19 r_ q_20 => ?_)
      obtain ⟨rfl, S_21, F_23⟩ := q_20
      have S_22 : Sys h_19 (ur ρ 24 ((lcC (ρ 8) (lcB (ρ 8) (ρ 6) (ρ t).length q mm)) ++ (ρ t))) β2 κ τ := by have z_ := S_21; (try simp only [ur_s, ur_ur, ur_n (x := t) (r := 24) ht24, ur_n (x := 2) (r := 24) (by decide), ur_n (x := 4) (r := 24) (by decide), ur_n (x := 6) (r := 24) (by decide), ur_n (x := 8) (r := 24) (by decide)] at z_); exact z_
      refine R_aload_n (pc := 159) 1 dX4_layCounted_159 rfl rfl ?_
      refine R_get (pc := 160) dX4_layCounted_160 fX4_27 S_22.2.2.2.2.2.2.2.2.1 (by omega) rfl ?_
      refine R_bipush (pc := 163) (v := 16) dX4_layCounted_163 (by decide) ?_
      refine R_callVh (pc := 165) (μ' := mX6_padTo) (As := [.int (nI (2 ^ 4))]) (st := []) dX4_layCounted_165 zX6_padTo lX4_108 ⟨by decide, by decide⟩ rfl rfl ⟨by decide, by decide⟩ (S_22.rowO 24 rfl) (by omega) rfl (Nat.le_of_ble_eq_true rfl) (S_padTo S_22 hn rfl 4 (by omega) (by simp only [ur_s]; rw [← pdd_len, pdd4_len]; simp only [List.length_append]; show _ ≤ 800; omega)) (fun h_24 r_ q_25 => ?_)
      obtain ⟨rfl, S_26, F_28⟩ := q_25
      have S_27 : Sys h_24 (ur ρ 24 (pdd 4 ((lcC (ρ 8) (lcB (ρ 8) (ρ 6) (ρ t).length q mm)) ++ (ρ t)))) β2 κ τ := by have z_ := S_26; (try simp only [ur_s, ur_ur, ur_n (x := t) (r := 24) ht24, ur_n (x := 2) (r := 24) (by decide), ur_n (x := 4) (r := 24) (by decide), ur_n (x := 6) (r := 24) (by decide), ur_n (x := 8) (r := 24) (by decide)] at z_); exact z_
      exact R_vreturn (pc := 168) dX4_layCounted_168 rfl (by decide) (by decide) ⟨rfl, β2, hB, rfl, S_27, ((hF.tr F_23).tr F_28)⟩
    · skip
      refine R_aload_n (pc := 100) 1 dX4_layCounted_100 rfl rfl ?_
      refine R_get (pc := 101) dX4_layCounted_101 fX4_27 S2.2.2.2.2.2.2.2.2.1 (by omega) rfl ?_
      refine R_aload_n (pc := 104) 1 dX4_layCounted_104 rfl rfl ?_
      refine R_get (pc := 105) dX4_layCounted_105 fX4_24 S2.2.2.2.2.2.2.2.2.1 (by omega) rfl ?_
      skip
      refine R_get (pc := 108) dX4_layCounted_108 fX4_47 (S2.rowO 8 rfl) (by omega) rfl ?_
      refine R_eqi (y := nI (ρ 8).length) (by first | rfl | (simp only [ur_s, ur_ur, ur_n (x := t) (r := 24) ht24, ur_n (x := 2) (r := 24) (by decide), ur_n (x := 4) (r := 24) (by decide), ur_n (x := 6) (r := 24) (by decide), ur_n (x := 8) (r := 24) (by decide)])) ?_
      refine R_bipush (pc := 111) (v := 8) dX4_layCounted_111 (by decide) ?_
      refine R_ishr (pc := 113) dX4_layCounted_113 ?_
      refine R_callVh (pc := 114) (μ' := mX6_append) (As := [.int ((nI (ρ 8).length) >>> (8 &&& 31))]) (st := []) dX4_layCounted_114 zX6_append lX4_101 ⟨by decide, by decide⟩ rfl rfl ⟨by decide, by decide⟩ (S2.rowO 24 rfl) (by omega) rfl (Nat.le_of_ble_eq_true rfl) (S_append S2 hn rfl _ (by simp only [ur_s, List.length_append, List.length_cons, List.length_nil, hBl]; show _ < 800; omega)) (fun h_29 r_ q_30 => ?_)
      obtain ⟨rfl, S_31, F_33⟩ := q_30
      have S_32 : Sys h_29 (ur ρ 24 ((lcB (ρ 8) (ρ 6) (ρ t).length q mm) ++ [t8 ((nI (ρ 8).length) >>> (8 &&& 31))])) β2 κ τ := by have z_ := S_31; (try simp only [ur_s, ur_ur, ur_n (x := t) (r := 24) ht24, ur_n (x := 2) (r := 24) (by decide), ur_n (x := 4) (r := 24) (by decide), ur_n (x := 6) (r := 24) (by decide), ur_n (x := 8) (r := 24) (by decide)] at z_); exact z_
      refine R_aload_n (pc := 117) 1 dX4_layCounted_117 rfl rfl ?_
      refine R_get (pc := 118) dX4_layCounted_118 fX4_27 S_32.2.2.2.2.2.2.2.2.1 (by omega) rfl ?_
      refine R_aload_n (pc := 121) 1 dX4_layCounted_121 rfl rfl ?_
      refine R_get (pc := 122) dX4_layCounted_122 fX4_24 S_32.2.2.2.2.2.2.2.2.1 (by omega) rfl ?_
      skip
      refine R_get (pc := 125) dX4_layCounted_125 fX4_47 (S_32.rowO 8 rfl) (by omega) rfl ?_
      refine R_eqi (y := nI (ρ 8).length) (by first | rfl | (simp only [ur_s, ur_ur, ur_n (x := t) (r := 24) ht24, ur_n (x := 2) (r := 24) (by decide), ur_n (x := 4) (r := 24) (by decide), ur_n (x := 6) (r := 24) (by decide), ur_n (x := 8) (r := 24) (by decide)])) ?_
      refine R_callVh (pc := 128) (μ' := mX6_append) (As := [.int (nI (ρ 8).length)]) (st := []) dX4_layCounted_128 zX6_append lX4_101 ⟨by decide, by decide⟩ rfl rfl ⟨by decide, by decide⟩ (S_32.rowO 24 rfl) (by omega) rfl (Nat.le_of_ble_eq_true rfl) (S_append S_32 hn rfl _ (by simp only [ur_s, List.length_append, List.length_cons, List.length_nil, hBl]; show _ < 800; omega)) (fun h_34 r_ q_35 => ?_)
      obtain ⟨rfl, S_36, F_38⟩ := q_35
      have S_37 : Sys h_34 (ur ρ 24 (((lcB (ρ 8) (ρ 6) (ρ t).length q mm) ++ [t8 ((nI (ρ 8).length) >>> (8 &&& 31))]) ++ [t8 (nI (ρ 8).length)])) β2 κ τ := by have z_ := S_36; (try simp only [ur_s, ur_ur, ur_n (x := t) (r := 24) ht24, ur_n (x := 2) (r := 24) (by decide), ur_n (x := 4) (r := 24) (by decide), ur_n (x := 6) (r := 24) (by decide), ur_n (x := 8) (r := 24) (by decide)] at z_); exact z_
      refine R_aload_n (pc := 131) 1 dX4_layCounted_131 rfl rfl ?_
      refine R_get (pc := 132) dX4_layCounted_132 fX4_27 S_37.2.2.2.2.2.2.2.2.1 (by omega) rfl ?_
      refine R_aload_n (pc := 135) 1 dX4_layCounted_135 rfl rfl ?_
      refine R_get (pc := 136) dX4_layCounted_136 fX4_24 S_37.2.2.2.2.2.2.2.2.1 (by omega) rfl ?_
      refine R_callVh (pc := 139) (μ' := mX6_appendRow) (As := [.ref 8]) (st := []) dX4_layCounted_139 zX6_appendRow lX4_104 ⟨by decide, by decide⟩ rfl rfl ⟨by decide, by decide⟩ (S_37.rowO 24 rfl) (by omega) rfl (Nat.le_of_ble_eq_true rfl) (S_appendRow S_37 hn rfl rfl (by decide) (by simp only [ur_s, ur_n (x := 8) (r := 24) (by decide), List.length_append, List.length_cons, List.length_nil, hBl]; show _ ≤ 800; omega)) (fun h_39 r_ q_40 => ?_)
      obtain ⟨rfl, S_41, F_43⟩ := q_40
      have S_42 : Sys h_39 (ur ρ 24 ((((lcB (ρ 8) (ρ 6) (ρ t).length q mm) ++ [t8 ((nI (ρ 8).length) >>> (8 &&& 31))]) ++ [t8 (nI (ρ 8).length)]) ++ (ρ 8))) β2 κ τ := by have z_ := S_41; (try simp only [ur_s, ur_ur, ur_n (x := t) (r := 24) ht24, ur_n (x := 2) (r := 24) (by decide), ur_n (x := 4) (r := 24) (by decide), ur_n (x := 6) (r := 24) (by decide), ur_n (x := 8) (r := 24) (by decide)] at z_); exact z_
      refine R_aload_n (pc := 142) 1 dX4_layCounted_142 rfl rfl ?_
      refine R_get (pc := 143) dX4_layCounted_143 fX4_27 S_42.2.2.2.2.2.2.2.2.1 (by omega) rfl ?_
      refine R_bipush (pc := 146) (v := 16) dX4_layCounted_146 (by decide) ?_
      refine R_callVh (pc := 148) (μ' := mX6_padTo) (As := [.int (nI (2 ^ 4))]) (st := []) dX4_layCounted_148 zX6_padTo lX4_108 ⟨by decide, by decide⟩ rfl rfl ⟨by decide, by decide⟩ (S_42.rowO 24 rfl) (by omega) rfl (Nat.le_of_ble_eq_true rfl) (S_padTo S_42 hn rfl 4 (by omega) (by simp only [ur_s]; rw [← pdd_len, pdd4_len]; simp only [List.length_append, List.length_cons, List.length_nil, hBl]; show _ ≤ 800; omega)) (fun h_44 r_ q_45 => ?_)
      obtain ⟨rfl, S_46, F_48⟩ := q_45
      have S_47 : Sys h_44 (ur ρ 24 (pdd 4 ((((lcB (ρ 8) (ρ 6) (ρ t).length q mm) ++ [t8 ((nI (ρ 8).length) >>> (8 &&& 31))]) ++ [t8 (nI (ρ 8).length)]) ++ (ρ 8)))) β2 κ τ := by have z_ := S_46; (try simp only [ur_s, ur_ur, ur_n (x := t) (r := 24) ht24, ur_n (x := 2) (r := 24) (by decide), ur_n (x := 4) (r := 24) (by decide), ur_n (x := 6) (r := 24) (by decide), ur_n (x := 8) (r := 24) (by decide)] at z_); exact z_
      have S_49 : Sys h_44 (ur ρ 24 (lcC (ρ 8) (lcB (ρ 8) (ρ 6) (ρ t).length q mm))) β2 κ τ := by rw [show lcC (ρ 8) (lcB (ρ 8) (ρ 6) (ρ t).length q mm) = pdd 4 ((((lcB (ρ 8) (ρ 6) (ρ t).length q mm) ++ [t8 ((nI (ρ 8).length) >>> (8 &&& 31))]) ++ [t8 (nI (ρ 8).length)]) ++ (ρ 8)) from if_neg c_17]; exact S_47
      refine R_aload_n (pc := 151) 1 dX4_layCounted_151 rfl rfl ?_
      refine R_get (pc := 152) dX4_layCounted_152 fX4_27 S_49.2.2.2.2.2.2.2.2.1 (by omega) rfl ?_
      refine R_aload_n (pc := 155) 2 dX4_layCounted_155 rfl rfl ?_
      refine R_callVh (pc := 156) (μ' := mX6_appendRow) (As := [.ref t]) (st := []) dX4_layCounted_156 zX6_appendRow lX4_104 ⟨by decide, by decide⟩ rfl rfl ⟨by decide, by decide⟩ (S_49.rowO 24 rfl) (by omega) rfl (Nat.le_of_ble_eq_true rfl) (S_appendRow S_49 hn rfl ht ht24 (by simp only [ur_s, ur_n (x := t) (r := 24) ht24]; show _ ≤ 800; omega)) (fun h_50 r_ q_51 => ?_)
      obtain ⟨rfl, S_52, F_54⟩ := q_51
      have S_53 : Sys h_50 (ur ρ 24 ((lcC (ρ 8) (lcB (ρ 8) (ρ 6) (ρ t).length q mm)) ++ (ρ t))) β2 κ τ := by have z_ := S_52; (try simp only [ur_s, ur_ur, ur_n (x := t) (r := 24) ht24, ur_n (x := 2) (r := 24) (by decide), ur_n (x := 4) (r := 24) (by decide), ur_n (x := 6) (r := 24) (by decide), ur_n (x := 8) (r := 24) (by decide)] at z_); exact z_
      refine R_aload_n (pc := 159) 1 dX4_layCounted_159 rfl rfl ?_
      refine R_get (pc := 160) dX4_layCounted_160 fX4_27 S_53.2.2.2.2.2.2.2.2.1 (by omega) rfl ?_
      refine R_bipush (pc := 163) (v := 16) dX4_layCounted_163 (by decide) ?_
      refine R_callVh (pc := 165) (μ' := mX6_padTo) (As := [.int (nI (2 ^ 4))]) (st := []) dX4_layCounted_165 zX6_padTo lX4_108 ⟨by decide, by decide⟩ rfl rfl ⟨by decide, by decide⟩ (S_53.rowO 24 rfl) (by omega) rfl (Nat.le_of_ble_eq_true rfl) (S_padTo S_53 hn rfl 4 (by omega) (by simp only [ur_s]; rw [← pdd_len, pdd4_len]; simp only [List.length_append]; show _ ≤ 800; omega)) (fun h_55 r_ q_56 => ?_)
      obtain ⟨rfl, S_57, F_59⟩ := q_56
      have S_58 : Sys h_55 (ur ρ 24 (pdd 4 ((lcC (ρ 8) (lcB (ρ 8) (ρ 6) (ρ t).length q mm)) ++ (ρ t)))) β2 κ τ := by have z_ := S_57; (try simp only [ur_s, ur_ur, ur_n (x := t) (r := 24) ht24, ur_n (x := 2) (r := 24) (by decide), ur_n (x := 4) (r := 24) (by decide), ur_n (x := 6) (r := 24) (by decide), ur_n (x := 8) (r := 24) (by decide)] at z_); exact z_
      exact R_vreturn (pc := 168) dX4_layCounted_168 rfl (by decide) (by decide) ⟨rfl, β2, hB, rfl, S_58, ((((((hF.tr F_33).tr F_38).tr F_43).tr F_48).tr F_54).tr F_59)⟩
  · skip
    refine R_bipush (pc := 22) (v := 64) dX4_layCounted_22 (by decide) ?_
    refine R_goto (pc := 24) (tgt := 28) dX4_layCounted_24 (by decide) ?_
    refine R_bipush (pc := 28) (v := 8) dX4_layCounted_28 (by decide) ?_
    refine R_iload_n (pc := 30) 3 dX4_layCounted_30 rfl rfl ?_
    refine R_iconst (pc := 31) (v := 2) dX4_layCounted_31 (by decide) ?_
    refine R_isub (pc := 32) dX4_layCounted_32 ?_
    refine R_iconst (pc := 33) (v := 2) dX4_layCounted_33 (by decide) ?_
    refine R_idiv (pc := 34) dX4_layCounted_34 (by decide) ?_
    refine R_imul (pc := 35) dX4_layCounted_35 ?_
    refine R_iadd (pc := 36) dX4_layCounted_36 ?_
    refine R_iload_n (pc := 37) 2 dX4_layCounted_37 rfl rfl ?_
    refine R_iadd (pc := 38) dX4_layCounted_38 ?_
    refine R_iconst (pc := 39) (v := 1) dX4_layCounted_39 (by decide) ?_
    refine R_isub (pc := 40) dX4_layCounted_40 ?_
    refine R_eqi (y := lcF (ρ 8) q mm) (by unfold lcF; rw [if_neg c_6]) ?_
    refine R_callVh (pc := 41) (μ' := mX6_append) (As := [.int (lcF (ρ 8) q mm)]) (st := []) dX4_layCounted_41 zX6_append lX4_101 ⟨by decide, by decide⟩ rfl rfl ⟨by decide, by decide⟩ (S_4.rowO 24 rfl) (by omega) rfl (Nat.le_of_ble_eq_true rfl) (S_append S_4 hn rfl _ (by simp only [ur_s, List.take_zero, List.length_nil]; show _ < 800; omega)) (fun h_60 r_ q_61 => ?_)
    obtain ⟨rfl, S_62, F_64⟩ := q_61
    have S_63 : Sys h_60 (ur ρ 24 (((ρ 24).take 0) ++ [t8 (lcF (ρ 8) q mm)])) β κ τ := by have z_ := S_62; (try simp only [ur_s, ur_ur, ur_n (x := t) (r := 24) ht24, ur_n (x := 2) (r := 24) (by decide), ur_n (x := 4) (r := 24) (by decide), ur_n (x := 6) (r := 24) (by decide), ur_n (x := 8) (r := 24) (by decide)] at z_); exact z_
    rw [List.take_zero, List.nil_append] at S_63
    refine R_aload_n (pc := 44) 0 dX4_layCounted_44 rfl rfl ?_
    refine R_get (pc := 45) dX4_layCounted_45 fX4_27 S_63.2.2.2.2.2.2.2.2.1 (by omega) rfl ?_
    refine R_aload_n (pc := 48) 0 dX4_layCounted_48 rfl rfl ?_
    refine R_get (pc := 49) dX4_layCounted_49 fX4_20 S_63.2.2.2.2.2.2.2.2.1 (by omega) rfl ?_
    refine R_callVh (pc := 52) (μ' := mX6_appendRow) (As := [.ref 6]) (st := []) dX4_layCounted_52 zX6_appendRow lX4_104 ⟨by decide, by decide⟩ rfl rfl ⟨by decide, by decide⟩ (S_63.rowO 24 rfl) (by omega) rfl (Nat.le_of_ble_eq_true rfl) (S_appendRow S_63 hn rfl rfl (by decide) (by simp only [ur_s, ur_n (x := 6) (r := 24) (by decide), List.length_append, List.length_cons, List.length_nil]; show _ ≤ 800; omega)) (fun h_65 r_ q_66 => ?_)
    obtain ⟨rfl, S_67, F_69⟩ := q_66
    have S_68 : Sys h_65 (ur ρ 24 (([t8 (lcF (ρ 8) q mm)]) ++ (ρ 6))) β κ τ := by have z_ := S_67; (try simp only [ur_s, ur_ur, ur_n (x := t) (r := 24) ht24, ur_n (x := 2) (r := 24) (by decide), ur_n (x := 4) (r := 24) (by decide), ur_n (x := 6) (r := 24) (by decide), ur_n (x := 8) (r := 24) (by decide)] at z_); exact z_
    refine R_iload_n (pc := 55) 2 dX4_layCounted_55 rfl rfl ?_
    refine R_iconst (pc := 56) (v := 1) dX4_layCounted_56 (by decide) ?_
    refine R_isub (pc := 57) dX4_layCounted_57 ?_
    refine R_eqi (y := dnq q 0) (rfl) ?_
    refine R_istore (pc := 58) (lv' := [(4, .int (dnq q 0)), (0, .ref 47), (1, .ref t), (2, .int (nI q)), (3, .int (nI mm))]) dX4_layCounted_58 (by decide) rfl ?_
    refine R_sub [0, 1, 2, 3, 4] rfl ?_
    refine qX4_layCounted_loop S hn ht ht24 q mm hq hq1 hA hr ?_ q 0 (by omega) h_65 β (by have z_ := S_68; rw [show lqN (ρ t).length q 0 = [] from rfl, List.append_nil]; exact z_) (fun _ _ => rfl) ((F_5.tr F_64).tr F_69)
    intro h2 β2 S2 hB hF
    change Sys h2 (ur ρ 24 (lcB (ρ 8) (ρ 6) (ρ t).length q mm)) β2 κ τ at S2
    have hBl : (lcB (ρ 8) (ρ 6) (ρ t).length q mm).length = 16 := by unfold lcB; simp only [List.length_append, lqN_len, List.length_cons, List.length_nil]; omega
    have hCl := lcC_len (ρ 8) (lcB (ρ 8) (ρ 6) (ρ t).length q mm) hBl hA
    refine R_aload_n (pc := 90) 1 dX4_layCounted_90 rfl rfl ?_
    refine R_get (pc := 91) dX4_layCounted_91 fX4_24 S2.2.2.2.2.2.2.2.2.1 (by omega) rfl ?_
    skip
    refine R_get (pc := 94) dX4_layCounted_94 fX4_47 (S2.rowO 8 rfl) (by omega) rfl ?_
    refine R_eqi (y := nI (ρ 8).length) (by first | rfl | (simp only [ur_s, ur_ur, ur_n (x := t) (r := 24) ht24, ur_n (x := 2) (r := 24) (by decide), ur_n (x := 4) (r := 24) (by decide), ur_n (x := 6) (r := 24) (by decide), ur_n (x := 8) (r := 24) (by decide)])) ?_
    refine R_if_le (pc := 97) (tgt := 151) dX4_layCounted_97 (by decide) (fun c_70 => ?_) (fun c_70 => ?_)
    · skip
      have S_71 : Sys h2 (ur ρ 24 (lcC (ρ 8) (lcB (ρ 8) (ρ 6) (ρ t).length q mm))) β2 κ τ := by rw [show lcC (ρ 8) (lcB (ρ 8) (ρ 6) (ρ t).length q mm) = lcB (ρ 8) (ρ 6) (ρ t).length q mm from if_pos c_70]; exact S2
      refine R_aload_n (pc := 151) 1 dX4_layCounted_151 rfl rfl ?_
      refine R_get (pc := 152) dX4_layCounted_152 fX4_27 S_71.2.2.2.2.2.2.2.2.1 (by omega) rfl ?_
      refine R_aload_n (pc := 155) 2 dX4_layCounted_155 rfl rfl ?_
      refine R_callVh (pc := 156) (μ' := mX6_appendRow) (As := [.ref t]) (st := []) dX4_layCounted_156 zX6_appendRow lX4_104 ⟨by decide, by decide⟩ rfl rfl ⟨by decide, by decide⟩ (S_71.rowO 24 rfl) (by omega) rfl (Nat.le_of_ble_eq_true rfl) (S_appendRow S_71 hn rfl ht ht24 (by simp only [ur_s, ur_n (x := t) (r := 24) ht24]; show _ ≤ 800; omega)) (fun h_72 r_ q_73 => ?_)
      obtain ⟨rfl, S_74, F_76⟩ := q_73
      have S_75 : Sys h_72 (ur ρ 24 ((lcC (ρ 8) (lcB (ρ 8) (ρ 6) (ρ t).length q mm)) ++ (ρ t))) β2 κ τ := by have z_ := S_74; (try simp only [ur_s, ur_ur, ur_n (x := t) (r := 24) ht24, ur_n (x := 2) (r := 24) (by decide), ur_n (x := 4) (r := 24) (by decide), ur_n (x := 6) (r := 24) (by decide), ur_n (x := 8) (r := 24) (by decide)] at z_); exact z_
      refine R_aload_n (pc := 159) 1 dX4_layCounted_159 rfl rfl ?_
      refine R_get (pc := 160) dX4_layCounted_160 fX4_27 S_75.2.2.2.2.2.2.2.2.1 (by omega) rfl ?_
      refine R_bipush (pc := 163) (v := 16) dX4_layCounted_163 (by decide) ?_
      refine R_callVh (pc := 165) (μ' := mX6_padTo) (As := [.int (nI (2 ^ 4))]) (st := []) dX4_layCounted_165 zX6_padTo lX4_108 ⟨by decide, by decide⟩ rfl rfl ⟨by decide, by decide⟩ (S_75.rowO 24 rfl) (by omega) rfl (Nat.le_of_ble_eq_true rfl) (S_padTo S_75 hn rfl 4 (by omega) (by simp only [ur_s]; rw [← pdd_len, pdd4_len]; simp only [List.length_append]; show _ ≤ 800; omega)) (fun h_77 r_ q_78 => ?_)
      obtain ⟨rfl, S_79, F_81⟩ := q_78
      have S_80 : Sys h_77 (ur ρ 24 (pdd 4 ((lcC (ρ 8) (lcB (ρ 8) (ρ 6) (ρ t).length q mm)) ++ (ρ t)))) β2 κ τ := by have z_ := S_79; (try simp only [ur_s, ur_ur, ur_n (x := t) (r := 24) ht24, ur_n (x := 2) (r := 24) (by decide), ur_n (x := 4) (r := 24) (by decide), ur_n (x := 6) (r := 24) (by decide), ur_n (x := 8) (r := 24) (by decide)] at z_); exact z_
      exact R_vreturn (pc := 168) dX4_layCounted_168 rfl (by decide) (by decide) ⟨rfl, β2, hB, rfl, S_80, ((hF.tr F_76).tr F_81)⟩
    · skip
      refine R_aload_n (pc := 100) 1 dX4_layCounted_100 rfl rfl ?_
      refine R_get (pc := 101) dX4_layCounted_101 fX4_27 S2.2.2.2.2.2.2.2.2.1 (by omega) rfl ?_
      refine R_aload_n (pc := 104) 1 dX4_layCounted_104 rfl rfl ?_
      refine R_get (pc := 105) dX4_layCounted_105 fX4_24 S2.2.2.2.2.2.2.2.2.1 (by omega) rfl ?_
      skip
      refine R_get (pc := 108) dX4_layCounted_108 fX4_47 (S2.rowO 8 rfl) (by omega) rfl ?_
      refine R_eqi (y := nI (ρ 8).length) (by first | rfl | (simp only [ur_s, ur_ur, ur_n (x := t) (r := 24) ht24, ur_n (x := 2) (r := 24) (by decide), ur_n (x := 4) (r := 24) (by decide), ur_n (x := 6) (r := 24) (by decide), ur_n (x := 8) (r := 24) (by decide)])) ?_
      refine R_bipush (pc := 111) (v := 8) dX4_layCounted_111 (by decide) ?_
      refine R_ishr (pc := 113) dX4_layCounted_113 ?_
      refine R_callVh (pc := 114) (μ' := mX6_append) (As := [.int ((nI (ρ 8).length) >>> (8 &&& 31))]) (st := []) dX4_layCounted_114 zX6_append lX4_101 ⟨by decide, by decide⟩ rfl rfl ⟨by decide, by decide⟩ (S2.rowO 24 rfl) (by omega) rfl (Nat.le_of_ble_eq_true rfl) (S_append S2 hn rfl _ (by simp only [ur_s, List.length_append, List.length_cons, List.length_nil, hBl]; show _ < 800; omega)) (fun h_82 r_ q_83 => ?_)
      obtain ⟨rfl, S_84, F_86⟩ := q_83
      have S_85 : Sys h_82 (ur ρ 24 ((lcB (ρ 8) (ρ 6) (ρ t).length q mm) ++ [t8 ((nI (ρ 8).length) >>> (8 &&& 31))])) β2 κ τ := by have z_ := S_84; (try simp only [ur_s, ur_ur, ur_n (x := t) (r := 24) ht24, ur_n (x := 2) (r := 24) (by decide), ur_n (x := 4) (r := 24) (by decide), ur_n (x := 6) (r := 24) (by decide), ur_n (x := 8) (r := 24) (by decide)] at z_); exact z_
      refine R_aload_n (pc := 117) 1 dX4_layCounted_117 rfl rfl ?_
      refine R_get (pc := 118) dX4_layCounted_118 fX4_27 S_85.2.2.2.2.2.2.2.2.1 (by omega) rfl ?_
      refine R_aload_n (pc := 121) 1 dX4_layCounted_121 rfl rfl ?_
      refine R_get (pc := 122) dX4_layCounted_122 fX4_24 S_85.2.2.2.2.2.2.2.2.1 (by omega) rfl ?_
      skip
      refine R_get (pc := 125) dX4_layCounted_125 fX4_47 (S_85.rowO 8 rfl) (by omega) rfl ?_
      refine R_eqi (y := nI (ρ 8).length) (by first | rfl | (simp only [ur_s, ur_ur, ur_n (x := t) (r := 24) ht24, ur_n (x := 2) (r := 24) (by decide), ur_n (x := 4) (r := 24) (by decide), ur_n (x := 6) (r := 24) (by decide), ur_n (x := 8) (r := 24) (by decide)])) ?_
      refine R_callVh (pc := 128) (μ' := mX6_append) (As := [.int (nI (ρ 8).length)]) (st := []) dX4_layCounted_128 zX6_append lX4_101 ⟨by decide, by decide⟩ rfl rfl ⟨by decide, by decide⟩ (S_85.rowO 24 rfl) (by omega) rfl (Nat.le_of_ble_eq_true rfl) (S_append S_85 hn rfl _ (by simp only [ur_s, List.length_append, List.length_cons, List.length_nil, hBl]; show _ < 800; omega)) (fun h_87 r_ q_88 => ?_)
      obtain ⟨rfl, S_89, F_91⟩ := q_88
      have S_90 : Sys h_87 (ur ρ 24 (((lcB (ρ 8) (ρ 6) (ρ t).length q mm) ++ [t8 ((nI (ρ 8).length) >>> (8 &&& 31))]) ++ [t8 (nI (ρ 8).length)])) β2 κ τ := by have z_ := S_89; (try simp only [ur_s, ur_ur, ur_n (x := t) (r := 24) ht24, ur_n (x := 2) (r := 24) (by decide), ur_n (x := 4) (r := 24) (by decide), ur_n (x := 6) (r := 24) (by decide), ur_n (x := 8) (r := 24) (by decide)] at z_); exact z_
      refine R_aload_n (pc := 131) 1 dX4_layCounted_131 rfl rfl ?_
      refine R_get (pc := 132) dX4_layCounted_132 fX4_27 S_90.2.2.2.2.2.2.2.2.1 (by omega) rfl ?_
      refine R_aload_n (pc := 135) 1 dX4_layCounted_135 rfl rfl ?_
      refine R_get (pc := 136) dX4_layCounted_136 fX4_24 S_90.2.2.2.2.2.2.2.2.1 (by omega) rfl ?_
      refine R_callVh (pc := 139) (μ' := mX6_appendRow) (As := [.ref 8]) (st := []) dX4_layCounted_139 zX6_appendRow lX4_104 ⟨by decide, by decide⟩ rfl rfl ⟨by decide, by decide⟩ (S_90.rowO 24 rfl) (by omega) rfl (Nat.le_of_ble_eq_true rfl) (S_appendRow S_90 hn rfl rfl (by decide) (by simp only [ur_s, ur_n (x := 8) (r := 24) (by decide), List.length_append, List.length_cons, List.length_nil, hBl]; show _ ≤ 800; omega)) (fun h_92 r_ q_93 => ?_)
      obtain ⟨rfl, S_94, F_96⟩ := q_93
      have S_95 : Sys h_92 (ur ρ 24 ((((lcB (ρ 8) (ρ 6) (ρ t).length q mm) ++ [t8 ((nI (ρ 8).length) >>> (8 &&& 31))]) ++ [t8 (nI (ρ 8).length)]) ++ (ρ 8))) β2 κ τ := by have z_ := S_94; (try simp only [ur_s, ur_ur, ur_n (x := t) (r := 24) ht24, ur_n (x := 2) (r := 24) (by decide), ur_n (x := 4) (r := 24) (by decide), ur_n (x := 6) (r := 24) (by decide), ur_n (x := 8) (r := 24) (by decide)] at z_); exact z_
      refine R_aload_n (pc := 142) 1 dX4_layCounted_142 rfl rfl ?_
      refine R_get (pc := 143) dX4_layCounted_143 fX4_27 S_95.2.2.2.2.2.2.2.2.1 (by omega) rfl ?_
      refine R_bipush (pc := 146) (v := 16) dX4_layCounted_146 (by decide) ?_
      refine R_callVh (pc := 148) (μ' := mX6_padTo) (As := [.int (nI (2 ^ 4))]) (st := []) dX4_layCounted_148 zX6_padTo lX4_108 ⟨by decide, by decide⟩ rfl rfl ⟨by decide, by decide⟩ (S_95.rowO 24 rfl) (by omega) rfl (Nat.le_of_ble_eq_true rfl) (S_padTo S_95 hn rfl 4 (by omega) (by simp only [ur_s]; rw [← pdd_len, pdd4_len]; simp only [List.length_append, List.length_cons, List.length_nil, hBl]; show _ ≤ 800; omega)) (fun h_97 r_ q_98 => ?_)
      obtain ⟨rfl, S_99, F_101⟩ := q_98
      have S_100 : Sys h_97 (ur ρ 24 (pdd 4 ((((lcB (ρ 8) (ρ 6) (ρ t).length q mm) ++ [t8 ((nI (ρ 8).length) >>> (8 &&& 31))]) ++ [t8 (nI (ρ 8).length)]) ++ (ρ 8)))) β2 κ τ := by have z_ := S_99; (try simp only [ur_s, ur_ur, ur_n (x := t) (r := 24) ht24, ur_n (x := 2) (r := 24) (by decide), ur_n (x := 4) (r := 24) (by decide), ur_n (x := 6) (r := 24) (by decide), ur_n (x := 8) (r := 24) (by decide)] at z_); exact z_
      have S_102 : Sys h_97 (ur ρ 24 (lcC (ρ 8) (lcB (ρ 8) (ρ 6) (ρ t).length q mm))) β2 κ τ := by rw [show lcC (ρ 8) (lcB (ρ 8) (ρ 6) (ρ t).length q mm) = pdd 4 ((((lcB (ρ 8) (ρ 6) (ρ t).length q mm) ++ [t8 ((nI (ρ 8).length) >>> (8 &&& 31))]) ++ [t8 (nI (ρ 8).length)]) ++ (ρ 8)) from if_neg c_70]; exact S_100
      refine R_aload_n (pc := 151) 1 dX4_layCounted_151 rfl rfl ?_
      refine R_get (pc := 152) dX4_layCounted_152 fX4_27 S_102.2.2.2.2.2.2.2.2.1 (by omega) rfl ?_
      refine R_aload_n (pc := 155) 2 dX4_layCounted_155 rfl rfl ?_
      refine R_callVh (pc := 156) (μ' := mX6_appendRow) (As := [.ref t]) (st := []) dX4_layCounted_156 zX6_appendRow lX4_104 ⟨by decide, by decide⟩ rfl rfl ⟨by decide, by decide⟩ (S_102.rowO 24 rfl) (by omega) rfl (Nat.le_of_ble_eq_true rfl) (S_appendRow S_102 hn rfl ht ht24 (by simp only [ur_s, ur_n (x := t) (r := 24) ht24]; show _ ≤ 800; omega)) (fun h_103 r_ q_104 => ?_)
      obtain ⟨rfl, S_105, F_107⟩ := q_104
      have S_106 : Sys h_103 (ur ρ 24 ((lcC (ρ 8) (lcB (ρ 8) (ρ 6) (ρ t).length q mm)) ++ (ρ t))) β2 κ τ := by have z_ := S_105; (try simp only [ur_s, ur_ur, ur_n (x := t) (r := 24) ht24, ur_n (x := 2) (r := 24) (by decide), ur_n (x := 4) (r := 24) (by decide), ur_n (x := 6) (r := 24) (by decide), ur_n (x := 8) (r := 24) (by decide)] at z_); exact z_
      refine R_aload_n (pc := 159) 1 dX4_layCounted_159 rfl rfl ?_
      refine R_get (pc := 160) dX4_layCounted_160 fX4_27 S_106.2.2.2.2.2.2.2.2.1 (by omega) rfl ?_
      refine R_bipush (pc := 163) (v := 16) dX4_layCounted_163 (by decide) ?_
      refine R_callVh (pc := 165) (μ' := mX6_padTo) (As := [.int (nI (2 ^ 4))]) (st := []) dX4_layCounted_165 zX6_padTo lX4_108 ⟨by decide, by decide⟩ rfl rfl ⟨by decide, by decide⟩ (S_106.rowO 24 rfl) (by omega) rfl (Nat.le_of_ble_eq_true rfl) (S_padTo S_106 hn rfl 4 (by omega) (by simp only [ur_s]; rw [← pdd_len, pdd4_len]; simp only [List.length_append]; show _ ≤ 800; omega)) (fun h_108 r_ q_109 => ?_)
      obtain ⟨rfl, S_110, F_112⟩ := q_109
      have S_111 : Sys h_108 (ur ρ 24 (pdd 4 ((lcC (ρ 8) (lcB (ρ 8) (ρ 6) (ρ t).length q mm)) ++ (ρ t)))) β2 κ τ := by have z_ := S_110; (try simp only [ur_s, ur_ur, ur_n (x := t) (r := 24) ht24, ur_n (x := 2) (r := 24) (by decide), ur_n (x := 4) (r := 24) (by decide), ur_n (x := 6) (r := 24) (by decide), ur_n (x := 8) (r := 24) (by decide)] at z_); exact z_
      exact R_vreturn (pc := 168) dX4_layCounted_168 rfl (by decide) (by decide) ⟨rfl, β2, hB, rfl, S_111, ((((((hF.tr F_86).tr F_91).tr F_96).tr F_101).tr F_107).tr F_112)⟩
def cnS (st : List (BitVec 8)) (i : Nat) (x : bP) : bP := aoc x (nI (1 + i)) (oc (og st i))
/-- COUNTED's block S(0) before E -/
def cnB (st : List (BitVec 8)) (q : Nat) : bP := cyN (cnS st) (aoc (0, 0) 0 (nI (q - 1))) st.length
/-- COUNTED: the tag -/
def cnT (F : bP → bP) (A st P : List (BitVec 8)) (q mm : Nat) : bP := xb (csm F (lcW A st P q mm)) (F (cnB st q))
set_option maxHeartbeats 4000000 in
set_option maxRecDepth 100000 in
theorem qX4_runCounted_loop {l : Launch} {w : am_W} {h : am_H} {n : Nat} {ρ : Nat → List (BitVec 8)} {β : Nat → bP} {κ : Nat → kT} {τ : Nat × Nat × Nat} (S : Sys h ρ β κ τ) (hn : 60 ≤ n) {t m : Nat} (ht : isRw t = true) (hm : isRw m = true) (htm : t ≠ m) (ht24 : t ≠ 24) (hm24 : (24 : Nat) ≠ m) (hm6 : (6 : Nat) ≠ m) (hm8 : (8 : Nat) ≠ m) (hk : kOk (κ 16)) (op : Int32) (q mm : Nat) (hq : (ρ 6).length + q = 15) (hq1 : 1 ≤ q) (hA : (ρ 8).length ≤ 256) (hr5 : (ρ m).length + (ρ t).length ≤ 512) (hr : (ρ m).length + (ρ t).length ≤ rwN m) (kk : ∀ h2 β2, Sys h2 ρ β2 κ τ → β2 50 = cyN (cnS (ρ 6)) (aoc (0, 0) 0 (nI (q - 1))) ((ρ 6).length) → (∀ a, a ∉ [50] → β2 a = β a) → Fr h h2 → RW l w mX4_runCounted h2 n 0 0 74 [(7, .int (nI ((ρ 6).length))), (6, .int (nI q)), (0, .ref 47), (1, .ref t), (2, .int op), (3, .int (nI mm)), (4, .ref m), (5, .ref 59)] [] (fun h' n' r_ => n' = n ∧ (SX h τ none (ur (ur ρ m (ρ m ++ ctO (eK (κ 16)) (ρ t) (one1 (cnB (ρ 6) q)))) 24 (lcW (ρ 8) (ρ 6) (if op = 0 then ρ t else ρ m ++ ctO (eK (κ 16)) (ρ t) (one1 (cnB (ρ 6) q))) q mm)) (ub β 59 (cnT (eK (κ 16)) (ρ 8) (ρ 6) (if op = 0 then ρ t else ρ m ++ ctO (eK (κ 16)) (ρ t) (one1 (cnB (ρ 6) q))) q mm)) κ [31, 32, 33, 49, 50]) h' r_)) : ∀ (d i : Nat), i + d = (ρ 6).length → ∀ h2 β2, Sys h2 ρ β2 κ τ → β2 50 = cyN (cnS (ρ 6)) (aoc (0, 0) 0 (nI (q - 1))) i → (∀ a, a ∉ [50] → β2 a = β a) → Fr h h2 → RW l w mX4_runCounted h2 n 0 0 36 [(7, .int (nI i)), (6, .int (nI q)), (0, .ref 47), (1, .ref t), (2, .int op), (3, .int (nI mm)), (4, .ref m), (5, .ref 59)] [] (fun h' n' r_ => n' = n ∧ (SX h τ none (ur (ur ρ m (ρ m ++ ctO (eK (κ 16)) (ρ t) (one1 (cnB (ρ 6) q)))) 24 (lcW (ρ 8) (ρ 6) (if op = 0 then ρ t else ρ m ++ ctO (eK (κ 16)) (ρ t) (one1 (cnB (ρ 6) q))) q mm)) (ub β 59 (cnT (eK (κ 16)) (ρ 8) (ρ 6) (if op = 0 then ρ t else ρ m ++ ctO (eK (κ 16)) (ρ t) (one1 (cnB (ρ 6) q))) q mm)) κ [31, 32, 33, 49, 50]) h' r_) := by
  have hlt := S.len t ht
  have htc := rw_cases ht
  have hlm := S.len m hm
  have hmc := rw_cases hm
  have hl6 := S.len 6 rfl
  have hl8 := S.len 8 rfl
  intro d
  induction d with
  | zero =>
    intro i hd h2 β2 S2 hv50 hB hF
    refine R_iload (pc := 36) 0 dX4_runCounted_36 rfl ?_
    refine R_aload_n (pc := 38) 2 dX4_runCounted_38 rfl rfl ?_
    refine R_get (pc := 39) dX4_runCounted_39 fX4_20 S2.2.2.2.2.2.2.2.2.1 (by omega) rfl ?_
    skip
    refine R_get (pc := 42) dX4_runCounted_42 fX4_47 (S2.rowO 6 rfl) (by omega) rfl ?_
    refine R_eqi (y := nI (ρ 6).length) (by first | rfl | (simp only [ur_s, ur_ur])) ?_
    refine R_icmp_ge (pc := 45) (tgt := 74) dX4_runCounted_45 (by decide) (fun c_1 => ?_) (fun c_1 => absurd (nI_le (by omega) (by omega)) c_1)
    obtain rfl : i = (ρ 6).length := by omega
    exact kk h2 β2 S2 hv50 hB hF
  | succ d ih =>
    intro i hd h2 β2 S2 hv50 hB hF
    have S_1 : Sys h2 ρ (ub β2 50 (cyN (cnS (ρ 6)) (aoc (0, 0) 0 (nI (q - 1))) i)) κ τ := Sys.know S2 (hv50)
    refine R_iload (pc := 36) 0 dX4_runCounted_36 rfl ?_
    refine R_aload_n (pc := 38) 2 dX4_runCounted_38 rfl rfl ?_
    refine R_get (pc := 39) dX4_runCounted_39 fX4_20 S_1.2.2.2.2.2.2.2.2.1 (by omega) rfl ?_
    skip
    refine R_get (pc := 42) dX4_runCounted_42 fX4_47 (S_1.rowO 6 rfl) (by omega) rfl ?_
    refine R_eqi (y := nI (ρ 6).length) (by first | rfl | (simp only [ur_s, ur_ur])) ?_
    refine R_icmp_ge (pc := 45) (tgt := 74) dX4_runCounted_45 (by decide) (fun c_2 => absurd c_2 (nI_ge (by omega) (by omega))) (fun c_2 => ?_)
    refine R_aload_n (pc := 48) 2 dX4_runCounted_48 rfl rfl ?_
    refine R_get (pc := 49) dX4_runCounted_49 fX4_40 S_1.2.2.2.2.2.2.2.2.1 (by omega) rfl ?_
    refine R_iconst (pc := 52) (v := 1) dX4_runCounted_52 (by decide) ?_
    refine R_iload (pc := 53) 0 dX4_runCounted_53 rfl ?_
    refine R_iadd (pc := 55) dX4_runCounted_55 ?_
    refine R_eqi (y := nI (1 + i)) (nI_add 1 i) ?_
    refine R_aload_n (pc := 56) 2 dX4_runCounted_56 rfl rfl ?_
    refine R_get (pc := 57) dX4_runCounted_57 fX4_20 S_1.2.2.2.2.2.2.2.2.1 (by omega) rfl ?_
    refine R_iload (pc := 60) 0 dX4_runCounted_60 rfl ?_
    refine R_callVp (pc := 62) (μ' := mX6_at) (As := [.int (nI i)]) (st := [.int (nI (1 + i)), .ref 50]) dX4_runCounted_62 zX6_at lX4_73 ⟨by decide, by decide⟩ rfl rfl ⟨by decide, by decide⟩ (S_1.rowO 6 rfl) (by omega) rfl (Nat.le_of_ble_eq_true rfl) (S_at S_1 hn rfl _) ?_
    refine R_eqi (y := atI (ρ 6) (nI i)) (by first | rfl | (simp only [ur_s, ur_ur])) ?_
    refine R_eqi (y := oc (og (ρ 6) i)) (atI_nI (ρ 6) (by omega) (by omega)) ?_
    refine R_callVh (pc := 65) (μ' := mX0_addOctet) (As := [.int (nI (1 + i)), .int (oc (og (ρ 6) i))]) (st := []) dX4_runCounted_65 zX0_addOctet lX4_66 ⟨by decide, by decide⟩ rfl rfl ⟨by decide, by decide⟩ (S_1.blk 50 rfl) (by omega) rfl (Nat.le_of_ble_eq_true rfl) (S_addOctet S_1 hn rfl _ _) (fun h_3 r_ q_4 => ?_)
    obtain ⟨rfl, S_5, F_7⟩ := q_4
    have S_6 : Sys h_3 ρ (ub (ub β2 50 (cyN (cnS (ρ 6)) (aoc (0, 0) 0 (nI (q - 1))) i)) 50 (aoc (cyN (cnS (ρ 6)) (aoc (0, 0) 0 (nI (q - 1))) i) (nI (1 + i)) (oc (og (ρ 6) i)))) κ τ := S_5
    refine R_iinc (pc := 68) (j := 0) (v := nI (i + 1)) (lv' := [(7, .int (nI (i + 1))), (6, .int (nI q)), (0, .ref 47), (1, .ref t), (2, .int op), (3, .int (nI mm)), (4, .ref m), (5, .ref 59)]) dX4_runCounted_68 rfl (nI_1 i) (by decide) rfl ?_
    refine R_goto (pc := 71) (tgt := 36) dX4_runCounted_71 (by decide) ?_
    refine R_sub [0, 1, 2, 3, 4, 5, 6, 7] rfl ?_
    refine ih (i + 1) (by omega) h_3 (ub (ub β2 50 (cyN (cnS (ρ 6)) (aoc (0, 0) 0 (nI (q - 1))) i)) 50 (aoc (cyN (cnS (ρ 6)) (aoc (0, 0) 0 (nI (q - 1))) i) (nI (1 + i)) (oc (og (ρ 6) i)))) (by have z_ := S_6; skip; exact z_) rfl (fun a_ n_ => ?_) (hF.tr F_7)
    have q_ := hB a_ n_; simp only [List.mem_cons, List.not_mem_nil, or_false, not_or] at n_
    (try simp only [ub, if_neg, n_, if_false])
    first | exact q_ | (simp only [ub_k]; exact q_) | (rw [q_]; simp only [ub_k]) | (repeat' split) <;> first | exact q_ | (rename_i e_; rw [e_])
set_option maxHeartbeats 4000000 in
set_option maxRecDepth 100000 in
theorem qX4_runCounted {l : Launch} {w : am_W} {h : am_H} {n : Nat} {ρ : Nat → List (BitVec 8)} {β : Nat → bP} {κ : Nat → kT} {τ : Nat × Nat × Nat} (S : Sys h ρ β κ τ) (hn : 60 ≤ n) {t m : Nat} (ht : isRw t = true) (hm : isRw m = true) (htm : t ≠ m) (ht24 : t ≠ 24) (hm24 : (24 : Nat) ≠ m) (hm6 : (6 : Nat) ≠ m) (hm8 : (8 : Nat) ≠ m) (hk : kOk (κ 16)) (op : Int32) (q mm : Nat) (hq : (ρ 6).length + q = 15) (hq1 : 1 ≤ q) (hA : (ρ 8).length ≤ 256) (hr5 : (ρ m).length + (ρ t).length ≤ 512) (hr : (ρ m).length + (ρ t).length ≤ rwN m) : RH l w mX4_runCounted h n [.ref 47, .ref t, .int op, .int (nI mm), .ref m, .ref 59] (SX h τ none (ur (ur ρ m (ρ m ++ ctO (eK (κ 16)) (ρ t) (one1 (cnB (ρ 6) q)))) 24 (lcW (ρ 8) (ρ 6) (if op = 0 then ρ t else ρ m ++ ctO (eK (κ 16)) (ρ t) (one1 (cnB (ρ 6) q))) q mm)) (ub β 59 (cnT (eK (κ 16)) (ρ 8) (ρ 6) (if op = 0 then ρ t else ρ m ++ ctO (eK (κ 16)) (ρ t) (one1 (cnB (ρ 6) q))) q mm)) κ [31, 32, 33, 49, 50]) := by
  refine RC.of [(0, .ref 47), (1, .ref t), (2, .int op), (3, .int (nI mm)), (4, .ref m), (5, .ref 59)] (by decide +kernel) rfl (Nat.le_of_ble_eq_true rfl) ?_
  have hlt := S.len t ht
  have htc := rw_cases ht
  have hlm := S.len m hm
  have hmc := rw_cases hm
  have hl6 := S.len 6 rfl
  have hl8 := S.len 8 rfl
  refine R_bipush (pc := 0) (v := 15) dX4_runCounted_0 (by decide) ?_
  refine R_aload_n (pc := 2) 0 dX4_runCounted_2 rfl rfl ?_
  refine R_get (pc := 3) dX4_runCounted_3 fX4_20 S.2.2.2.2.2.2.2.2.1 (by omega) rfl ?_
  skip
  refine R_get (pc := 6) dX4_runCounted_6 fX4_47 (S.rowO 6 rfl) (by omega) rfl ?_
  refine R_eqi (y := nI (ρ 6).length) (by first | rfl | (simp only [ur_s, ur_ur])) ?_
  refine R_isub (pc := 9) dX4_runCounted_9 ?_
  refine R_eqi (y := nI q) ((pk_sub (a := 15) (by omega)).trans (by rw [show 15 - (ρ 6).length = q by omega])) ?_
  refine R_istore (pc := 10) (lv' := [(6, .int (nI q)), (0, .ref 47), (1, .ref t), (2, .int op), (3, .int (nI mm)), (4, .ref m), (5, .ref 59)]) dX4_runCounted_10 (by decide) rfl ?_
  refine R_aload_n (pc := 12) 1 dX4_runCounted_12 rfl rfl ?_
  refine R_get (pc := 13) dX4_runCounted_13 fX4_40 S.2.2.2.2.2.2.2.2.1 (by omega) rfl ?_
  refine R_lconst (pc := 16) (v := 0) dX4_runCounted_16 (by decide) ?_
  refine R_lconst (pc := 17) (v := 0) dX4_runCounted_17 (by decide) ?_
  refine R_callVh (pc := 18) (μ' := mX0_become) (As := [.long 0, .long 0]) (st := []) dX4_runCounted_18 zX0_become lX4_43 ⟨by decide, by decide⟩ rfl rfl ⟨by decide, by decide⟩ (S.blk 50 rfl) (by omega) rfl (Nat.le_of_ble_eq_true rfl) (S_become S hn rfl _ _) (fun h_1 r_ q_2 => ?_)
  obtain ⟨rfl, S_3, F_5⟩ := q_2
  have S_4 : Sys h_1 ρ (ub β 50 (0, 0)) κ τ := S_3
  refine R_aload_n (pc := 21) 1 dX4_runCounted_21 rfl rfl ?_
  refine R_get (pc := 22) dX4_runCounted_22 fX4_40 S_4.2.2.2.2.2.2.2.2.1 (by omega) rfl ?_
  refine R_iconst (pc := 25) (v := 0) dX4_runCounted_25 (by decide) ?_
  refine R_iload (pc := 26) 0 dX4_runCounted_26 rfl ?_
  refine R_iconst (pc := 28) (v := 1) dX4_runCounted_28 (by decide) ?_
  refine R_isub (pc := 29) dX4_runCounted_29 ?_
  refine R_eqi (y := nI (q - 1)) (pk_sub (b := 1) (by omega)) ?_
  refine R_callVh (pc := 30) (μ' := mX0_addOctet) (As := [.int 0, .int (nI (q - 1))]) (st := []) dX4_runCounted_30 zX0_addOctet lX4_66 ⟨by decide, by decide⟩ rfl rfl ⟨by decide, by decide⟩ (S_4.blk 50 rfl) (by omega) rfl (Nat.le_of_ble_eq_true rfl) (S_addOctet S_4 hn rfl _ _) (fun h_6 r_ q_7 => ?_)
  obtain ⟨rfl, S_8, F_10⟩ := q_7
  have S_9 : Sys h_6 ρ (ub (ub β 50 (0, 0)) 50 (aoc (0, 0) 0 (nI (q - 1)))) κ τ := S_8
  refine R_iconst (pc := 33) (v := 0) dX4_runCounted_33 (by decide) ?_
  refine R_istore (pc := 34) (lv' := [(7, .int 0), (6, .int (nI q)), (0, .ref 47), (1, .ref t), (2, .int op), (3, .int (nI mm)), (4, .ref m), (5, .ref 59)]) dX4_runCounted_34 (by decide) rfl ?_
  refine R_sub [0, 1, 2, 3, 4, 5, 6, 7] rfl ?_
  refine qX4_runCounted_loop S hn ht hm htm ht24 hm24 hm6 hm8 hk op q mm hq hq1 hA hr5 hr ?_ (ρ 6).length 0 (by omega) h_6 (ub (ub β 50 (0, 0)) 50 (aoc (0, 0) 0 (nI (q - 1)))) S_9 rfl (fun a_ n_ => ?_) (F_5.tr F_10)
  · intro h2 β2 S2 hv50 hB hF
    have hv50 : β2 50 = cnB (ρ 6) q := hv50
    have S_11 : Sys h2 ρ (ub β2 50 (cnB (ρ 6) q)) κ τ := Sys.know S2 (hv50)
    refine R_aload_n (pc := 74) 2 dX4_runCounted_74 rfl rfl ?_
    refine R_get (pc := 75) dX4_runCounted_75 fX4_37 S_11.2.2.2.2.2.2.2.2.1 (by omega) rfl ?_
    refine R_aload_n (pc := 78) 2 dX4_runCounted_78 rfl rfl ?_
    refine R_get (pc := 79) dX4_runCounted_79 fX4_40 S_11.2.2.2.2.2.2.2.2.1 (by omega) rfl ?_
    refine R_callVh (pc := 82) (μ' := mX0_copy) (As := [.ref 50]) (st := []) dX4_runCounted_82 zX0_copy lX4_77 ⟨by decide, by decide⟩ rfl rfl ⟨by decide, by decide⟩ (S_11.blk 49 rfl) (by omega) rfl (Nat.le_of_ble_eq_true rfl) (S_copy S_11 hn rfl rfl (by decide)) (fun h_12 r_ q_13 => ?_)
    obtain ⟨rfl, S_14, F_16⟩ := q_13
    have S_15 : Sys h_12 ρ (ub (ub β2 50 (cnB (ρ 6) q)) 49 (cnB (ρ 6) q)) κ τ := S_14
    refine R_aload_n (pc := 85) 2 dX4_runCounted_85 rfl rfl ?_
    refine R_get (pc := 86) dX4_runCounted_86 fX4_7 S_15.2.2.2.2.2.2.2.2.1 (by omega) rfl ?_
    refine R_aload_n (pc := 89) 2 dX4_runCounted_89 rfl rfl ?_
    refine R_get (pc := 90) dX4_runCounted_90 fX4_37 S_15.2.2.2.2.2.2.2.2.1 (by omega) rfl ?_
    refine R_callVh (pc := 93) (μ' := mX2_encrypt) (As := [.ref 49]) (st := []) dX4_runCounted_93 zX2_encrypt lX4_57 ⟨by decide, by decide⟩ rfl rfl ⟨by decide, by decide⟩ (S_15.2.2.1 16 (by decide)).1 (by omega) rfl (Nat.le_of_ble_eq_true rfl) (S_encrypt S_15 hn (by decide) rfl hk.1 hk.2) (fun h_17 r_ q_18 => ?_)
    obtain ⟨rfl, S_19, F_21⟩ := q_18
    have S_20 : Sys h_17 ρ (ub (ub (ub β2 50 (cnB (ρ 6) q)) 49 (cnB (ρ 6) q)) 49 (eK (κ 16) (cnB (ρ 6) q))) κ τ := S_19
    refine R_aload_n (pc := 96) 2 dX4_runCounted_96 rfl rfl ?_
    refine R_get (pc := 97) dX4_runCounted_97 fX4_40 S_20.2.2.2.2.2.2.2.2.1 (by omega) rfl ?_
    refine R_callVh (pc := 100) (μ' := mX0_addOne) (As := []) (st := []) dX4_runCounted_100 zX0_addOne lX4_80 ⟨by decide, by decide⟩ rfl rfl ⟨by decide, by decide⟩ (S_20.blk 50 rfl) (by omega) rfl (Nat.le_of_ble_eq_true rfl) (S_addOne S_20 hn rfl) (fun h_22 r_ q_23 => ?_)
    obtain ⟨rfl, S_24, F_26⟩ := q_23
    have S_25 : Sys h_22 ρ (ub (ub (ub (ub β2 50 (cnB (ρ 6) q)) 49 (cnB (ρ 6) q)) 49 (eK (κ 16) (cnB (ρ 6) q))) 50 (one1 (cnB (ρ 6) q))) κ τ := S_24
    refine R_aload_n (pc := 103) 2 dX4_runCounted_103 rfl rfl ?_
    refine R_get (pc := 104) dX4_runCounted_104 fX4_16 S_25.2.2.2.2.2.2.2.2.1 (by omega) rfl ?_
    refine R_aload_n (pc := 107) 2 dX4_runCounted_107 rfl rfl ?_
    refine R_get (pc := 108) dX4_runCounted_108 fX4_7 S_25.2.2.2.2.2.2.2.2.1 (by omega) rfl ?_
    refine R_aload_n (pc := 111) 2 dX4_runCounted_111 rfl rfl ?_
    refine R_get (pc := 112) dX4_runCounted_112 fX4_40 S_25.2.2.2.2.2.2.2.2.1 (by omega) rfl ?_
    refine R_aload_n (pc := 115) 3 dX4_runCounted_115 rfl rfl ?_
    refine R_aload (pc := 116) 6 dX4_runCounted_116 rfl ?_
    refine R_callVh (pc := 118) (μ' := mX9_count) (As := [.ref 16, .ref 50, .ref t, .ref m]) (st := []) dX4_runCounted_118 zX9_count lX4_83 ⟨by decide, by decide⟩ rfl rfl ⟨by decide, by decide⟩ S_25.2.2.2.2.1 (by omega) rfl (Nat.le_of_ble_eq_true rfl) (qX9_count S_25 hn ht hm htm (by decide) rfl (by decide) hk hr) (fun h_27 r_ q_28 => ?_)
    obtain ⟨β_32, B_33, rfl, S_29, F_31⟩ := q_28
    have S_30 : Sys h_27 (ur ρ m ((ρ m) ++ ctO (eK (κ 16)) (ρ t) (one1 (cnB (ρ 6) q)))) β_32 κ τ := by have z_ := S_29; (try simp only [ub, Nat.reduceEqDiff, ↓reduceIte, ur_s, ur_ur, ur_n (x := t) (r := m) htm, ur_n (x := 6) (r := m) hm6, ur_n (x := 8) (r := m) hm8, ur_n (x := 24) (r := m) hm24] at z_); exact z_
    have S_34 : Sys h_27 (ur ρ m ((ρ m) ++ ctO (eK (κ 16)) (ρ t) (one1 (cnB (ρ 6) q)))) (ub β_32 50 (one1 (cnB (ρ 6) q))) κ τ := Sys.know S_30 ((B_33 50 (by decide)).trans (by first | (simp only [ub, Nat.reduceEqDiff, ↓reduceIte, ur_s, ur_ur, ur_n (x := t) (r := m) htm, ur_n (x := 6) (r := m) hm6, ur_n (x := 8) (r := m) hm8, ur_n (x := 24) (r := m) hm24]; done) | (simp only [ub, Nat.reduceEqDiff, ↓reduceIte, ur_s, ur_ur, ur_n (x := t) (r := m) htm, ur_n (x := 6) (r := m) hm6, ur_n (x := 8) (r := m) hm8, ur_n (x := 24) (r := m) hm24]; rfl) | rfl))
    have S_35 : Sys h_27 (ur ρ m ((ρ m) ++ ctO (eK (κ 16)) (ρ t) (one1 (cnB (ρ 6) q)))) (ub (ub β_32 50 (one1 (cnB (ρ 6) q))) 49 (eK (κ 16) (cnB (ρ 6) q))) κ τ := Sys.know S_34 ((B_33 49 (by decide)).trans (by first | (simp only [ub, Nat.reduceEqDiff, ↓reduceIte, ur_s, ur_ur, ur_n (x := t) (r := m) htm, ur_n (x := 6) (r := m) hm6, ur_n (x := 8) (r := m) hm8, ur_n (x := 24) (r := m) hm24]; done) | (simp only [ub, Nat.reduceEqDiff, ↓reduceIte, ur_s, ur_ur, ur_n (x := t) (r := m) htm, ur_n (x := 6) (r := m) hm6, ur_n (x := 8) (r := m) hm8, ur_n (x := 24) (r := m) hm24]; rfl) | rfl))
    refine R_aload_n (pc := 121) 2 dX4_runCounted_121 rfl rfl ?_
    refine R_iload_n (pc := 122) 4 dX4_runCounted_122 rfl rfl ?_
    refine R_if_eq (pc := 123) (tgt := 131) dX4_runCounted_123 (by decide) (fun c_36 => ?_) (fun c_36 => ?_)
    · skip
      refine R_aload_n (pc := 131) 3 dX4_runCounted_131 rfl rfl ?_
      refine R_iload (pc := 132) 1 dX4_runCounted_132 rfl ?_
      refine R_iload_n (pc := 134) 5 dX4_runCounted_134 rfl rfl ?_
      refine R_callVh (pc := 135) (μ' := mX4_layCounted) (As := [.ref t, .int (nI q), .int (nI mm)]) (st := []) dX4_runCounted_135 zX4_layCounted lX4_89 ⟨by decide, by decide⟩ rfl rfl ⟨by decide, by decide⟩ S_35.2.2.2.2.2.2.2.2.1 (by omega) rfl (Nat.le_of_ble_eq_true rfl) (qX4_layCounted S_35 hn ht ht24 q mm (by first | exact hq | (simp only [ur_n (x := 6) (r := m) hm6]; exact hq)) hq1 (by simp only [ur_n (x := 8) (r := m) hm8]; exact hA) (by simp only [ur_s, ur_n (x := t) (r := m) htm, List.length_append, ctO_len]; omega)) (fun h_37 r_ q_38 => ?_)
      obtain ⟨β_42, B_43, rfl, S_39, F_41⟩ := q_38
      have S_40 : Sys h_37 (ur (ur ρ m ((ρ m) ++ ctO (eK (κ 16)) (ρ t) (one1 (cnB (ρ 6) q)))) 24 (lcW (ρ 8) (ρ 6) (ρ t) q mm)) β_42 κ τ := by have z_ := S_39; (try simp only [ub, Nat.reduceEqDiff, ↓reduceIte, ur_s, ur_ur, ur_n (x := t) (r := m) htm, ur_n (x := t) (r := 24) ht24, ur_n (x := m) (r := 24) (Ne.symm hm24), ur_n (x := 2) (r := 24) (by decide), ur_n (x := 4) (r := 24) (by decide), ur_n (x := 6) (r := m) hm6, ur_n (x := 6) (r := 24) (by decide), ur_n (x := 8) (r := m) hm8, ur_n (x := 8) (r := 24) (by decide), ur_n (x := 24) (r := m) hm24] at z_); exact z_
      have S_44 : Sys h_37 (ur (ur ρ m ((ρ m) ++ ctO (eK (κ 16)) (ρ t) (one1 (cnB (ρ 6) q)))) 24 (lcW (ρ 8) (ρ 6) (ρ t) q mm)) (ub β_42 50 (one1 (cnB (ρ 6) q))) κ τ := Sys.know S_40 ((B_43 50 (by decide)).trans (by first | (simp only [ub, Nat.reduceEqDiff, ↓reduceIte, ur_s, ur_ur, ur_n (x := t) (r := m) htm, ur_n (x := t) (r := 24) ht24, ur_n (x := m) (r := 24) (Ne.symm hm24), ur_n (x := 2) (r := 24) (by decide), ur_n (x := 4) (r := 24) (by decide), ur_n (x := 6) (r := m) hm6, ur_n (x := 6) (r := 24) (by decide), ur_n (x := 8) (r := m) hm8, ur_n (x := 8) (r := 24) (by decide), ur_n (x := 24) (r := m) hm24]; done) | (simp only [ub, Nat.reduceEqDiff, ↓reduceIte, ur_s, ur_ur, ur_n (x := t) (r := m) htm, ur_n (x := t) (r := 24) ht24, ur_n (x := m) (r := 24) (Ne.symm hm24), ur_n (x := 2) (r := 24) (by decide), ur_n (x := 4) (r := 24) (by decide), ur_n (x := 6) (r := m) hm6, ur_n (x := 6) (r := 24) (by decide), ur_n (x := 8) (r := m) hm8, ur_n (x := 8) (r := 24) (by decide), ur_n (x := 24) (r := m) hm24]; rfl) | rfl))
      have S_45 : Sys h_37 (ur (ur ρ m ((ρ m) ++ ctO (eK (κ 16)) (ρ t) (one1 (cnB (ρ 6) q)))) 24 (lcW (ρ 8) (ρ 6) (ρ t) q mm)) (ub (ub β_42 50 (one1 (cnB (ρ 6) q))) 49 (eK (κ 16) (cnB (ρ 6) q))) κ τ := Sys.know S_44 ((B_43 49 (by decide)).trans (by first | (simp only [ub, Nat.reduceEqDiff, ↓reduceIte, ur_s, ur_ur, ur_n (x := t) (r := m) htm, ur_n (x := t) (r := 24) ht24, ur_n (x := m) (r := 24) (Ne.symm hm24), ur_n (x := 2) (r := 24) (by decide), ur_n (x := 4) (r := 24) (by decide), ur_n (x := 6) (r := m) hm6, ur_n (x := 6) (r := 24) (by decide), ur_n (x := 8) (r := m) hm8, ur_n (x := 8) (r := 24) (by decide), ur_n (x := 24) (r := m) hm24]; done) | (simp only [ub, Nat.reduceEqDiff, ↓reduceIte, ur_s, ur_ur, ur_n (x := t) (r := m) htm, ur_n (x := t) (r := 24) ht24, ur_n (x := m) (r := 24) (Ne.symm hm24), ur_n (x := 2) (r := 24) (by decide), ur_n (x := 4) (r := 24) (by decide), ur_n (x := 6) (r := m) hm6, ur_n (x := 6) (r := 24) (by decide), ur_n (x := 8) (r := m) hm8, ur_n (x := 8) (r := 24) (by decide), ur_n (x := 24) (r := m) hm24]; rfl) | rfl))
      refine R_aload_n (pc := 138) 2 dX4_runCounted_138 rfl rfl ?_
      refine R_aload_n (pc := 139) 2 dX4_runCounted_139 rfl rfl ?_
      refine R_get (pc := 140) dX4_runCounted_140 fX4_27 S_45.2.2.2.2.2.2.2.2.1 (by omega) rfl ?_
      refine R_aload (pc := 143) 7 dX4_runCounted_143 rfl ?_
      refine R_callVh (pc := 145) (μ' := mX4_chainSum) (As := [.ref 24, .ref 59]) (st := []) dX4_runCounted_145 zX4_chainSum lX4_93 ⟨by decide, by decide⟩ rfl rfl ⟨by decide, by decide⟩ S_45.2.2.2.2.2.2.2.2.1 (by omega) rfl (Nat.le_of_ble_eq_true rfl) (qX4_chainSum S_45 hn rfl hk) (fun h_46 r_ q_47 => ?_)
      obtain ⟨β_51, B_52, rfl, S_48, F_50⟩ := q_47
      have S_49 : Sys h_46 (ur (ur ρ m ((ρ m) ++ ctO (eK (κ 16)) (ρ t) (one1 (cnB (ρ 6) q)))) 24 (lcW (ρ 8) (ρ 6) (ρ t) q mm)) β_51 κ τ := S_48
      have S_53 : Sys h_46 (ur (ur ρ m ((ρ m) ++ ctO (eK (κ 16)) (ρ t) (one1 (cnB (ρ 6) q)))) 24 (lcW (ρ 8) (ρ 6) (ρ t) q mm)) (ub β_51 50 (one1 (cnB (ρ 6) q))) κ τ := Sys.know S_49 ((B_52 50 (by decide)).trans (by first | (simp only [ub, Nat.reduceEqDiff, ↓reduceIte, ur_s, ur_ur, ur_n (x := t) (r := m) htm, ur_n (x := t) (r := 24) ht24, ur_n (x := m) (r := 24) (Ne.symm hm24), ur_n (x := 2) (r := 24) (by decide), ur_n (x := 4) (r := 24) (by decide), ur_n (x := 6) (r := m) hm6, ur_n (x := 6) (r := 24) (by decide), ur_n (x := 8) (r := m) hm8, ur_n (x := 8) (r := 24) (by decide), ur_n (x := 24) (r := m) hm24]; done) | (simp only [ub, Nat.reduceEqDiff, ↓reduceIte, ur_s, ur_ur, ur_n (x := t) (r := m) htm, ur_n (x := t) (r := 24) ht24, ur_n (x := m) (r := 24) (Ne.symm hm24), ur_n (x := 2) (r := 24) (by decide), ur_n (x := 4) (r := 24) (by decide), ur_n (x := 6) (r := m) hm6, ur_n (x := 6) (r := 24) (by decide), ur_n (x := 8) (r := m) hm8, ur_n (x := 8) (r := 24) (by decide), ur_n (x := 24) (r := m) hm24]; rfl) | rfl))
      have S_54 : Sys h_46 (ur (ur ρ m ((ρ m) ++ ctO (eK (κ 16)) (ρ t) (one1 (cnB (ρ 6) q)))) 24 (lcW (ρ 8) (ρ 6) (ρ t) q mm)) (ub (ub β_51 50 (one1 (cnB (ρ 6) q))) 49 (eK (κ 16) (cnB (ρ 6) q))) κ τ := Sys.know S_53 ((B_52 49 (by decide)).trans (by first | (simp only [ub, Nat.reduceEqDiff, ↓reduceIte, ur_s, ur_ur, ur_n (x := t) (r := m) htm, ur_n (x := t) (r := 24) ht24, ur_n (x := m) (r := 24) (Ne.symm hm24), ur_n (x := 2) (r := 24) (by decide), ur_n (x := 4) (r := 24) (by decide), ur_n (x := 6) (r := m) hm6, ur_n (x := 6) (r := 24) (by decide), ur_n (x := 8) (r := m) hm8, ur_n (x := 8) (r := 24) (by decide), ur_n (x := 24) (r := m) hm24]; done) | (simp only [ub, Nat.reduceEqDiff, ↓reduceIte, ur_s, ur_ur, ur_n (x := t) (r := m) htm, ur_n (x := t) (r := 24) ht24, ur_n (x := m) (r := 24) (Ne.symm hm24), ur_n (x := 2) (r := 24) (by decide), ur_n (x := 4) (r := 24) (by decide), ur_n (x := 6) (r := m) hm6, ur_n (x := 6) (r := 24) (by decide), ur_n (x := 8) (r := m) hm8, ur_n (x := 8) (r := 24) (by decide), ur_n (x := 24) (r := m) hm24]; rfl) | rfl))
      have S_55 : Sys h_46 (ur (ur ρ m ((ρ m) ++ ctO (eK (κ 16)) (ρ t) (one1 (cnB (ρ 6) q)))) 24 (lcW (ρ 8) (ρ 6) (ρ t) q mm)) (ub (ub (ub β_51 50 (one1 (cnB (ρ 6) q))) 49 (eK (κ 16) (cnB (ρ 6) q))) 59 (csm (eK (κ 16)) (lcW (ρ 8) (ρ 6) (ρ t) q mm))) κ τ := Sys.know S_54 ((B_52 59 (by decide)).trans (by first | (simp only [ub, Nat.reduceEqDiff, ↓reduceIte, ur_s, ur_ur, ur_n (x := t) (r := m) htm, ur_n (x := t) (r := 24) ht24, ur_n (x := m) (r := 24) (Ne.symm hm24), ur_n (x := 2) (r := 24) (by decide), ur_n (x := 4) (r := 24) (by decide), ur_n (x := 6) (r := m) hm6, ur_n (x := 6) (r := 24) (by decide), ur_n (x := 8) (r := m) hm8, ur_n (x := 8) (r := 24) (by decide), ur_n (x := 24) (r := m) hm24]; done) | (simp only [ub, Nat.reduceEqDiff, ↓reduceIte, ur_s, ur_ur, ur_n (x := t) (r := m) htm, ur_n (x := t) (r := 24) ht24, ur_n (x := m) (r := 24) (Ne.symm hm24), ur_n (x := 2) (r := 24) (by decide), ur_n (x := 4) (r := 24) (by decide), ur_n (x := 6) (r := m) hm6, ur_n (x := 6) (r := 24) (by decide), ur_n (x := 8) (r := m) hm8, ur_n (x := 8) (r := 24) (by decide), ur_n (x := 24) (r := m) hm24]; rfl) | rfl))
      refine R_aload (pc := 148) 7 dX4_runCounted_148 rfl ?_
      refine R_aload_n (pc := 150) 2 dX4_runCounted_150 rfl rfl ?_
      refine R_get (pc := 151) dX4_runCounted_151 fX4_37 S_55.2.2.2.2.2.2.2.2.1 (by omega) rfl ?_
      refine R_callVh (pc := 154) (μ' := mX0_add) (As := [.ref 49]) (st := []) dX4_runCounted_154 zX0_add lX4_70 ⟨by decide, by decide⟩ rfl rfl ⟨by decide, by decide⟩ (S_55.blk 59 rfl) (by omega) rfl (Nat.le_of_ble_eq_true rfl) (S_add S_55 hn rfl rfl (by decide)) (fun h_56 r_ q_57 => ?_)
      obtain ⟨rfl, S_58, F_60⟩ := q_57
      have S_59 : Sys h_56 (ur (ur ρ m ((ρ m) ++ ctO (eK (κ 16)) (ρ t) (one1 (cnB (ρ 6) q)))) 24 (lcW (ρ 8) (ρ 6) (ρ t) q mm)) (ub (ub (ub (ub β_51 50 (one1 (cnB (ρ 6) q))) 49 (eK (κ 16) (cnB (ρ 6) q))) 59 (csm (eK (κ 16)) (lcW (ρ 8) (ρ 6) (ρ t) q mm))) 59 (xb (csm (eK (κ 16)) (lcW (ρ 8) (ρ 6) (ρ t) q mm)) (eK (κ 16) (cnB (ρ 6) q)))) κ τ := S_58
      rw [if_pos c_36]
      refine R_vreturn (pc := 157) dX4_runCounted_157 rfl (by decide) (by decide) ⟨rfl, (ub (ub (ub (ub β_51 50 (one1 (cnB (ρ 6) q))) 49 (eK (κ 16) (cnB (ρ 6) q))) 59 (csm (eK (κ 16)) (lcW (ρ 8) (ρ 6) (ρ t) q mm))) 59 (xb (csm (eK (κ 16)) (lcW (ρ 8) (ρ 6) (ρ t) q mm)) (eK (κ 16) (cnB (ρ 6) q)))), ?_, rfl, S_59, (((((((hF.tr F_16).tr F_21).tr F_26).tr F_31).tr F_41).tr F_50).tr F_60)⟩
      intro a_ n_
      simp only [List.mem_cons, List.not_mem_nil, or_false, not_or] at n_
      by_cases e0_ : a_ = 59
      · subst e0_; first | rfl | (simp only [ub_s]; done) | (simp (config := { decide := true }) only [ub, if_true, if_false, reduceIte]; first | rfl | skip)
      (try simp only [ub, if_neg, if_false, n_, e0_])
      (try simp only [ub_k])
      (try rw [B_52 a_ (by simp [n_, e0_])])
      (try simp only [ub, if_neg, if_false, n_, e0_])
      (try simp only [ub_k])
      (try rw [B_43 a_ (by simp [n_, e0_])])
      (try simp only [ub, if_neg, if_false, n_, e0_])
      (try simp only [ub_k])
      (try rw [B_33 a_ (by simp [n_, e0_])])
      (try simp only [ub, if_neg, if_false, n_, e0_])
      (try simp only [ub_k])
      (try rw [hB a_ (by simp [n_, e0_])])
      (try simp only [ub, if_neg, if_false, n_, e0_])
      (try simp only [ub_k])
    · skip
      refine R_aload (pc := 126) 6 dX4_runCounted_126 rfl ?_
      refine R_goto (pc := 128) (tgt := 132) dX4_runCounted_128 (by decide) ?_
      refine R_iload (pc := 132) 1 dX4_runCounted_132 rfl ?_
      refine R_iload_n (pc := 134) 5 dX4_runCounted_134 rfl rfl ?_
      refine R_callVh (pc := 135) (μ' := mX4_layCounted) (As := [.ref m, .int (nI q), .int (nI mm)]) (st := []) dX4_runCounted_135 zX4_layCounted lX4_89 ⟨by decide, by decide⟩ rfl rfl ⟨by decide, by decide⟩ S_35.2.2.2.2.2.2.2.2.1 (by omega) rfl (Nat.le_of_ble_eq_true rfl) (qX4_layCounted S_35 hn hm (Ne.symm hm24) q mm (by first | exact hq | (simp only [ur_n (x := 6) (r := m) hm6]; exact hq)) hq1 (by simp only [ur_n (x := 8) (r := m) hm8]; exact hA) (by simp only [ur_s, ur_n (x := t) (r := m) htm, List.length_append, ctO_len]; omega)) (fun h_61 r_ q_62 => ?_)
      obtain ⟨β_66, B_67, rfl, S_63, F_65⟩ := q_62
      have S_64 : Sys h_61 (ur (ur ρ m ((ρ m) ++ ctO (eK (κ 16)) (ρ t) (one1 (cnB (ρ 6) q)))) 24 (lcW (ρ 8) (ρ 6) ((ρ m) ++ ctO (eK (κ 16)) (ρ t) (one1 (cnB (ρ 6) q))) q mm)) β_66 κ τ := by have z_ := S_63; (try simp only [ub, Nat.reduceEqDiff, ↓reduceIte, ur_s, ur_ur, ur_n (x := t) (r := m) htm, ur_n (x := t) (r := 24) ht24, ur_n (x := m) (r := 24) (Ne.symm hm24), ur_n (x := 2) (r := 24) (by decide), ur_n (x := 4) (r := 24) (by decide), ur_n (x := 6) (r := m) hm6, ur_n (x := 6) (r := 24) (by decide), ur_n (x := 8) (r := m) hm8, ur_n (x := 8) (r := 24) (by decide), ur_n (x := 24) (r := m) hm24] at z_); exact z_
      have S_68 : Sys h_61 (ur (ur ρ m ((ρ m) ++ ctO (eK (κ 16)) (ρ t) (one1 (cnB (ρ 6) q)))) 24 (lcW (ρ 8) (ρ 6) ((ρ m) ++ ctO (eK (κ 16)) (ρ t) (one1 (cnB (ρ 6) q))) q mm)) (ub β_66 50 (one1 (cnB (ρ 6) q))) κ τ := Sys.know S_64 ((B_67 50 (by decide)).trans (by first | (simp only [ub, Nat.reduceEqDiff, ↓reduceIte, ur_s, ur_ur, ur_n (x := t) (r := m) htm, ur_n (x := t) (r := 24) ht24, ur_n (x := m) (r := 24) (Ne.symm hm24), ur_n (x := 2) (r := 24) (by decide), ur_n (x := 4) (r := 24) (by decide), ur_n (x := 6) (r := m) hm6, ur_n (x := 6) (r := 24) (by decide), ur_n (x := 8) (r := m) hm8, ur_n (x := 8) (r := 24) (by decide), ur_n (x := 24) (r := m) hm24]; done) | (simp only [ub, Nat.reduceEqDiff, ↓reduceIte, ur_s, ur_ur, ur_n (x := t) (r := m) htm, ur_n (x := t) (r := 24) ht24, ur_n (x := m) (r := 24) (Ne.symm hm24), ur_n (x := 2) (r := 24) (by decide), ur_n (x := 4) (r := 24) (by decide), ur_n (x := 6) (r := m) hm6, ur_n (x := 6) (r := 24) (by decide), ur_n (x := 8) (r := m) hm8, ur_n (x := 8) (r := 24) (by decide), ur_n (x := 24) (r := m) hm24]; rfl) | rfl))
      have S_69 : Sys h_61 (ur (ur ρ m ((ρ m) ++ ctO (eK (κ 16)) (ρ t) (one1 (cnB (ρ 6) q)))) 24 (lcW (ρ 8) (ρ 6) ((ρ m) ++ ctO (eK (κ 16)) (ρ t) (one1 (cnB (ρ 6) q))) q mm)) (ub (ub β_66 50 (one1 (cnB (ρ 6) q))) 49 (eK (κ 16) (cnB (ρ 6) q))) κ τ := Sys.know S_68 ((B_67 49 (by decide)).trans (by first | (simp only [ub, Nat.reduceEqDiff, ↓reduceIte, ur_s, ur_ur, ur_n (x := t) (r := m) htm, ur_n (x := t) (r := 24) ht24, ur_n (x := m) (r := 24) (Ne.symm hm24), ur_n (x := 2) (r := 24) (by decide), ur_n (x := 4) (r := 24) (by decide), ur_n (x := 6) (r := m) hm6, ur_n (x := 6) (r := 24) (by decide), ur_n (x := 8) (r := m) hm8, ur_n (x := 8) (r := 24) (by decide), ur_n (x := 24) (r := m) hm24]; done) | (simp only [ub, Nat.reduceEqDiff, ↓reduceIte, ur_s, ur_ur, ur_n (x := t) (r := m) htm, ur_n (x := t) (r := 24) ht24, ur_n (x := m) (r := 24) (Ne.symm hm24), ur_n (x := 2) (r := 24) (by decide), ur_n (x := 4) (r := 24) (by decide), ur_n (x := 6) (r := m) hm6, ur_n (x := 6) (r := 24) (by decide), ur_n (x := 8) (r := m) hm8, ur_n (x := 8) (r := 24) (by decide), ur_n (x := 24) (r := m) hm24]; rfl) | rfl))
      refine R_aload_n (pc := 138) 2 dX4_runCounted_138 rfl rfl ?_
      refine R_aload_n (pc := 139) 2 dX4_runCounted_139 rfl rfl ?_
      refine R_get (pc := 140) dX4_runCounted_140 fX4_27 S_69.2.2.2.2.2.2.2.2.1 (by omega) rfl ?_
      refine R_aload (pc := 143) 7 dX4_runCounted_143 rfl ?_
      refine R_callVh (pc := 145) (μ' := mX4_chainSum) (As := [.ref 24, .ref 59]) (st := []) dX4_runCounted_145 zX4_chainSum lX4_93 ⟨by decide, by decide⟩ rfl rfl ⟨by decide, by decide⟩ S_69.2.2.2.2.2.2.2.2.1 (by omega) rfl (Nat.le_of_ble_eq_true rfl) (qX4_chainSum S_69 hn rfl hk) (fun h_70 r_ q_71 => ?_)
      obtain ⟨β_75, B_76, rfl, S_72, F_74⟩ := q_71
      have S_73 : Sys h_70 (ur (ur ρ m ((ρ m) ++ ctO (eK (κ 16)) (ρ t) (one1 (cnB (ρ 6) q)))) 24 (lcW (ρ 8) (ρ 6) ((ρ m) ++ ctO (eK (κ 16)) (ρ t) (one1 (cnB (ρ 6) q))) q mm)) β_75 κ τ := S_72
      have S_77 : Sys h_70 (ur (ur ρ m ((ρ m) ++ ctO (eK (κ 16)) (ρ t) (one1 (cnB (ρ 6) q)))) 24 (lcW (ρ 8) (ρ 6) ((ρ m) ++ ctO (eK (κ 16)) (ρ t) (one1 (cnB (ρ 6) q))) q mm)) (ub β_75 50 (one1 (cnB (ρ 6) q))) κ τ := Sys.know S_73 ((B_76 50 (by decide)).trans (by first | (simp only [ub, Nat.reduceEqDiff, ↓reduceIte, ur_s, ur_ur, ur_n (x := t) (r := m) htm, ur_n (x := t) (r := 24) ht24, ur_n (x := m) (r := 24) (Ne.symm hm24), ur_n (x := 2) (r := 24) (by decide), ur_n (x := 4) (r := 24) (by decide), ur_n (x := 6) (r := m) hm6, ur_n (x := 6) (r := 24) (by decide), ur_n (x := 8) (r := m) hm8, ur_n (x := 8) (r := 24) (by decide), ur_n (x := 24) (r := m) hm24]; done) | (simp only [ub, Nat.reduceEqDiff, ↓reduceIte, ur_s, ur_ur, ur_n (x := t) (r := m) htm, ur_n (x := t) (r := 24) ht24, ur_n (x := m) (r := 24) (Ne.symm hm24), ur_n (x := 2) (r := 24) (by decide), ur_n (x := 4) (r := 24) (by decide), ur_n (x := 6) (r := m) hm6, ur_n (x := 6) (r := 24) (by decide), ur_n (x := 8) (r := m) hm8, ur_n (x := 8) (r := 24) (by decide), ur_n (x := 24) (r := m) hm24]; rfl) | rfl))
      have S_78 : Sys h_70 (ur (ur ρ m ((ρ m) ++ ctO (eK (κ 16)) (ρ t) (one1 (cnB (ρ 6) q)))) 24 (lcW (ρ 8) (ρ 6) ((ρ m) ++ ctO (eK (κ 16)) (ρ t) (one1 (cnB (ρ 6) q))) q mm)) (ub (ub β_75 50 (one1 (cnB (ρ 6) q))) 49 (eK (κ 16) (cnB (ρ 6) q))) κ τ := Sys.know S_77 ((B_76 49 (by decide)).trans (by first | (simp only [ub, Nat.reduceEqDiff, ↓reduceIte, ur_s, ur_ur, ur_n (x := t) (r := m) htm, ur_n (x := t) (r := 24) ht24, ur_n (x := m) (r := 24) (Ne.symm hm24), ur_n (x := 2) (r := 24) (by decide), ur_n (x := 4) (r := 24) (by decide), ur_n (x := 6) (r := m) hm6, ur_n (x := 6) (r := 24) (by decide), ur_n (x := 8) (r := m) hm8, ur_n (x := 8) (r := 24) (by decide), ur_n (x := 24) (r := m) hm24]; done) | (simp only [ub, Nat.reduceEqDiff, ↓reduceIte, ur_s, ur_ur, ur_n (x := t) (r := m) htm, ur_n (x := t) (r := 24) ht24, ur_n (x := m) (r := 24) (Ne.symm hm24), ur_n (x := 2) (r := 24) (by decide), ur_n (x := 4) (r := 24) (by decide), ur_n (x := 6) (r := m) hm6, ur_n (x := 6) (r := 24) (by decide), ur_n (x := 8) (r := m) hm8, ur_n (x := 8) (r := 24) (by decide), ur_n (x := 24) (r := m) hm24]; rfl) | rfl))
      have S_79 : Sys h_70 (ur (ur ρ m ((ρ m) ++ ctO (eK (κ 16)) (ρ t) (one1 (cnB (ρ 6) q)))) 24 (lcW (ρ 8) (ρ 6) ((ρ m) ++ ctO (eK (κ 16)) (ρ t) (one1 (cnB (ρ 6) q))) q mm)) (ub (ub (ub β_75 50 (one1 (cnB (ρ 6) q))) 49 (eK (κ 16) (cnB (ρ 6) q))) 59 (csm (eK (κ 16)) (lcW (ρ 8) (ρ 6) ((ρ m) ++ ctO (eK (κ 16)) (ρ t) (one1 (cnB (ρ 6) q))) q mm))) κ τ := Sys.know S_78 ((B_76 59 (by decide)).trans (by first | (simp only [ub, Nat.reduceEqDiff, ↓reduceIte, ur_s, ur_ur, ur_n (x := t) (r := m) htm, ur_n (x := t) (r := 24) ht24, ur_n (x := m) (r := 24) (Ne.symm hm24), ur_n (x := 2) (r := 24) (by decide), ur_n (x := 4) (r := 24) (by decide), ur_n (x := 6) (r := m) hm6, ur_n (x := 6) (r := 24) (by decide), ur_n (x := 8) (r := m) hm8, ur_n (x := 8) (r := 24) (by decide), ur_n (x := 24) (r := m) hm24]; done) | (simp only [ub, Nat.reduceEqDiff, ↓reduceIte, ur_s, ur_ur, ur_n (x := t) (r := m) htm, ur_n (x := t) (r := 24) ht24, ur_n (x := m) (r := 24) (Ne.symm hm24), ur_n (x := 2) (r := 24) (by decide), ur_n (x := 4) (r := 24) (by decide), ur_n (x := 6) (r := m) hm6, ur_n (x := 6) (r := 24) (by decide), ur_n (x := 8) (r := m) hm8, ur_n (x := 8) (r := 24) (by decide), ur_n (x := 24) (r := m) hm24]; rfl) | rfl))
      refine R_aload (pc := 148) 7 dX4_runCounted_148 rfl ?_
      refine R_aload_n (pc := 150) 2 dX4_runCounted_150 rfl rfl ?_
      refine R_get (pc := 151) dX4_runCounted_151 fX4_37 S_79.2.2.2.2.2.2.2.2.1 (by omega) rfl ?_
      refine R_callVh (pc := 154) (μ' := mX0_add) (As := [.ref 49]) (st := []) dX4_runCounted_154 zX0_add lX4_70 ⟨by decide, by decide⟩ rfl rfl ⟨by decide, by decide⟩ (S_79.blk 59 rfl) (by omega) rfl (Nat.le_of_ble_eq_true rfl) (S_add S_79 hn rfl rfl (by decide)) (fun h_80 r_ q_81 => ?_)
      obtain ⟨rfl, S_82, F_84⟩ := q_81
      have S_83 : Sys h_80 (ur (ur ρ m ((ρ m) ++ ctO (eK (κ 16)) (ρ t) (one1 (cnB (ρ 6) q)))) 24 (lcW (ρ 8) (ρ 6) ((ρ m) ++ ctO (eK (κ 16)) (ρ t) (one1 (cnB (ρ 6) q))) q mm)) (ub (ub (ub (ub β_75 50 (one1 (cnB (ρ 6) q))) 49 (eK (κ 16) (cnB (ρ 6) q))) 59 (csm (eK (κ 16)) (lcW (ρ 8) (ρ 6) ((ρ m) ++ ctO (eK (κ 16)) (ρ t) (one1 (cnB (ρ 6) q))) q mm))) 59 (xb (csm (eK (κ 16)) (lcW (ρ 8) (ρ 6) ((ρ m) ++ ctO (eK (κ 16)) (ρ t) (one1 (cnB (ρ 6) q))) q mm)) (eK (κ 16) (cnB (ρ 6) q)))) κ τ := S_82
      rw [if_neg c_36]
      refine R_vreturn (pc := 157) dX4_runCounted_157 rfl (by decide) (by decide) ⟨rfl, (ub (ub (ub (ub β_75 50 (one1 (cnB (ρ 6) q))) 49 (eK (κ 16) (cnB (ρ 6) q))) 59 (csm (eK (κ 16)) (lcW (ρ 8) (ρ 6) ((ρ m) ++ ctO (eK (κ 16)) (ρ t) (one1 (cnB (ρ 6) q))) q mm))) 59 (xb (csm (eK (κ 16)) (lcW (ρ 8) (ρ 6) ((ρ m) ++ ctO (eK (κ 16)) (ρ t) (one1 (cnB (ρ 6) q))) q mm)) (eK (κ 16) (cnB (ρ 6) q)))), ?_, rfl, S_83, (((((((hF.tr F_16).tr F_21).tr F_26).tr F_31).tr F_65).tr F_74).tr F_84)⟩
      intro a_ n_
      simp only [List.mem_cons, List.not_mem_nil, or_false, not_or] at n_
      by_cases e0_ : a_ = 59
      · subst e0_; first | rfl | (simp only [ub_s]; done) | (simp (config := { decide := true }) only [ub, if_true, if_false, reduceIte]; first | rfl | skip)
      (try simp only [ub, if_neg, if_false, n_, e0_])
      (try simp only [ub_k])
      (try rw [B_76 a_ (by simp [n_, e0_])])
      (try simp only [ub, if_neg, if_false, n_, e0_])
      (try simp only [ub_k])
      (try rw [B_67 a_ (by simp [n_, e0_])])
      (try simp only [ub, if_neg, if_false, n_, e0_])
      (try simp only [ub_k])
      (try rw [B_33 a_ (by simp [n_, e0_])])
      (try simp only [ub, if_neg, if_false, n_, e0_])
      (try simp only [ub_k])
      (try rw [hB a_ (by simp [n_, e0_])])
      (try simp only [ub, if_neg, if_false, n_, e0_])
      (try simp only [ub_k])
  · simp only [List.mem_cons, List.not_mem_nil, or_false, not_or] at n_; (try simp only [ub, if_neg, n_, if_false])
