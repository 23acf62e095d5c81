set_option maxHeartbeats 4000000 in
set_option maxRecDepth 100000 in
theorem qX1_lockBook_loop {l : Launch} {w : am_W} {h : am_H} {n : Nat} {ρ : Nat → List (BitVec 8)} {β : Nat → bP} {κ : Nat → kT} {τ : Nat × Nat × Nat} (S : Sys h ρ β κ τ) (hn : 60 ≤ n) {t m : Nat} (ht : isRw t = true) (hm : isRw m = true) (htm : t ≠ m) (hk : kOk (κ 16)) (hr : (ρ m).length + 16 * nbk (ρ t) ≤ rwN m) : ∀ (d i : Nat), i + d = nbk (ρ t) → ∀ h2 β2, Sys h2 (ur ρ m (ρ m ++ bkN (eK (κ 16)) (ρ t) i)) β2 κ τ → (∀ a, a ∉ [27] → β2 a = β a) → Fr h h2 → RW l w mX1_lockBook h2 n 0 0 2 [(3, .int (nI (16 * i))), (0, .ref 26), (1, .ref t), (2, .ref m)] [] (fun h' n' r_ => n' = n ∧ (SX h τ none (ur ρ m (ρ m ++ bkN (eK (κ 16)) (ρ t) (nbk (ρ t)))) β κ [27]) h' r_) := by
  have hlt := S.len t ht
  have hlm := S.len m hm
  have hnb := nbk_b (ρ t)
  have htc := rw_cases ht
  have hmc := rw_cases hm
  intro d
  induction d with
  | zero =>
    intro i hd h2 β2 S2 hB hF
    refine R_iload_n (pc := 2) 0 dX1_lockBook_2 rfl rfl ?_
    refine R_aload_n (pc := 3) 2 dX1_lockBook_3 rfl rfl ?_
    have := rw_cases (r := t) ht
    refine R_get (pc := 4) dX1_lockBook_4 fX1_33 (S2.rowO t ht) (by omega) rfl ?_
    refine R_eqi (y := nI (ρ t).length) (by first | rfl | (simp only [ur_s, ur_ur, ur_n (x := t) (r := m) htm])) ?_
    refine R_icmp_ge (pc := 7) (tgt := 46) dX1_lockBook_7 (by decide) (fun c_1 => ?_) (fun c_1 => absurd (nI_le (by omega) (by omega)) c_1)
    exact R_vreturn (pc := 46) dX1_lockBook_46 rfl (by decide) (by decide) ⟨rfl, _, hB, rfl, by have z_ := S2; rw [show i = nbk (ρ t) by omega] at z_; exact z_, hF⟩
  | succ d ih =>
    intro i hd h2 β2 S2 hB hF
    refine R_iload_n (pc := 2) 0 dX1_lockBook_2 rfl rfl ?_
    refine R_aload_n (pc := 3) 2 dX1_lockBook_3 rfl rfl ?_
    have := rw_cases (r := t) ht
    refine R_get (pc := 4) dX1_lockBook_4 fX1_33 (S2.rowO t ht) (by omega) rfl ?_
    refine R_eqi (y := nI (ρ t).length) (by first | rfl | (simp only [ur_s, ur_ur, ur_n (x := t) (r := m) htm])) ?_
    refine R_icmp_ge (pc := 7) (tgt := 46) dX1_lockBook_7 (by decide) (fun c_1 => absurd c_1 (nI_ge (by omega) (by omega))) (fun c_1 => ?_)
    refine R_aload_n (pc := 10) 1 dX1_lockBook_10 rfl rfl ?_
    refine R_get (pc := 11) dX1_lockBook_11 fX1_23 S2.2.2.2.1 (by omega) rfl ?_
    refine R_aload_n (pc := 14) 2 dX1_lockBook_14 rfl rfl ?_
    refine R_iload_n (pc := 15) 0 dX1_lockBook_15 rfl rfl ?_
    refine R_callVh (pc := 16) (μ' := mX0_read) (As := [.ref t, .int (nI (16 * i))]) (st := []) dX1_lockBook_16 zX0_read lX1_39 ⟨by decide, by decide⟩ rfl rfl ⟨by decide, by decide⟩ (S2.blk 27 rfl) (by omega) rfl (Nat.le_of_ble_eq_true rfl) (S_read S2 hn rfl ht (16 * i) (by omega)) (fun h_2 r_ q_3 => ?_)
    obtain ⟨rfl, S_4, F_6⟩ := q_3
    have S_5 : Sys h_2 (ur ρ m (ρ m ++ bkN (eK (κ 16)) (ρ t) i)) (ub β2 27 (rd (ρ t) (16 * i))) κ τ := by have z_ := S_4; (try simp only [ur_s, ur_ur, ur_n (x := t) (r := m) htm] at z_); exact z_
    refine R_aload_n (pc := 19) 1 dX1_lockBook_19 rfl rfl ?_
    refine R_get (pc := 20) dX1_lockBook_20 fX1_7 S_5.2.2.2.1 (by omega) rfl ?_
    refine R_aload_n (pc := 23) 1 dX1_lockBook_23 rfl rfl ?_
    refine R_get (pc := 24) dX1_lockBook_24 fX1_23 S_5.2.2.2.1 (by omega) rfl ?_
    refine R_callVh (pc := 27) (μ' := mX2_encrypt) (As := [.ref 27]) (st := []) dX1_lockBook_27 zX2_encrypt lX1_43 ⟨by decide, by decide⟩ rfl rfl ⟨by decide, by decide⟩ (S_5.2.2.1 16 (by decide)).1 (by omega) rfl (Nat.le_of_ble_eq_true rfl) (S_encrypt S_5 hn (by decide) rfl hk.1 hk.2) (fun h_7 r_ q_8 => ?_)
    obtain ⟨rfl, S_9, F_11⟩ := q_8
    have S_10 : Sys h_7 (ur ρ m (ρ m ++ bkN (eK (κ 16)) (ρ t) i)) (ub (ub β2 27 (rd (ρ t) (16 * i))) 27 (eK (κ 16) (rd (ρ t) (16 * i)))) κ τ := by have z_ := S_9; (try simp only [ur_s, ur_ur, ur_n (x := t) (r := m) htm] at z_); exact z_
    refine R_aload_n (pc := 30) 3 dX1_lockBook_30 rfl rfl ?_
    refine R_aload_n (pc := 31) 1 dX1_lockBook_31 rfl rfl ?_
    refine R_get (pc := 32) dX1_lockBook_32 fX1_23 S_10.2.2.2.1 (by omega) rfl ?_
    refine R_bipush (pc := 35) (v := 16) dX1_lockBook_35 (by decide) ?_
    refine R_callVh (pc := 37) (μ' := mX6_appendBlock) (As := [.ref 27, .int (nI 16)]) (st := []) dX1_lockBook_37 zX6_appendBlock lX1_49 ⟨by decide, by decide⟩ rfl rfl ⟨by decide, by decide⟩ (S_10.rowO m hm) (by omega) rfl (Nat.le_of_ble_eq_true rfl) (S_appendBlock S_10 hn hm rfl 16 (by simp only [ur_s, List.length_append, bkN_len]; omega)) (fun h_12 r_ q_13 => ?_)
    obtain ⟨rfl, S_14, F_16⟩ := q_13
    have S_15 : Sys h_12 (ur ρ m ((ρ m ++ bkN (eK (κ 16)) (ρ t) i) ++ bt (eK (κ 16) (rd (ρ t) (16 * i))) 16)) (ub (ub β2 27 (rd (ρ t) (16 * i))) 27 (eK (κ 16) (rd (ρ t) (16 * i)))) κ τ := by have z_ := S_14; (try simp only [ur_s, ur_ur, ur_n (x := t) (r := m) htm] at z_); exact z_
    refine R_iinc (pc := 40) (j := 0) (v := nI (16 * (i + 1))) (lv' := [(3, .int (nI (16 * (i + 1)))), (0, .ref 26), (1, .ref t), (2, .ref m)]) dX1_lockBook_40 rfl (nI_add (16 * i) 16) (by decide) rfl ?_
    refine R_goto (pc := 43) (tgt := 2) dX1_lockBook_43 (by decide) ?_
    refine R_sub [0, 1, 2, 3] rfl ?_
    exact ih (i + 1) (by omega) _ _ (by have z_ := S_15; simp only [List.append_assoc] at z_; exact z_)  (fun a_ n_ => by have q_ := hB a_ n_; simp only [List.mem_cons, List.not_mem_nil, or_false, not_or] at n_; simp only [ub, if_neg, n_, if_false]; exact q_) (hF.tr ((F_6.tr F_11).tr F_16))
set_option maxHeartbeats 4000000 in
set_option maxRecDepth 100000 in
theorem qX1_lockBook {l : Launch} {w : am_W} {h : am_H} {n : Nat} {ρ : Nat → List (BitVec 8)} {β : Nat → bP} {κ : Nat → kT} {τ : Nat × Nat × Nat} (S : Sys h ρ β κ τ) (hn : 60 ≤ n) {t m : Nat} (ht : isRw t = true) (hm : isRw m = true) (htm : t ≠ m) (hk : kOk (κ 16)) (hr : (ρ m).length + 16 * nbk (ρ t) ≤ rwN m) : RH l w mX1_lockBook h n [.ref 26, .ref t, .ref m] (SX h τ none (ur ρ m (ρ m ++ bkN (eK (κ 16)) (ρ t) (nbk (ρ t)))) β κ [27]) := by
  refine RC.of [(0, .ref 26), (1, .ref t), (2, .ref m)] (by decide +kernel) rfl (Nat.le_of_ble_eq_true rfl) ?_
  refine R_iconst (pc := 0) (v := 0) dX1_lockBook_0 (by decide) ?_
  refine R_istore_n (pc := 1) (lv' := [(3, .int 0), (0, .ref 26), (1, .ref t), (2, .ref m)]) dX1_lockBook_1 rfl (by decide) rfl ?_
  exact qX1_lockBook_loop S hn ht hm htm hk hr (nbk (ρ t)) 0 (by omega) h β (by have z_ := S; rw [← ur_id ρ m] at z_; simpa only [bkN, List.append_nil] using z_) (fun _ _ => rfl) (Fr.rf h)
set_option maxHeartbeats 4000000 in
set_option maxRecDepth 100000 in
theorem qX1_unlockBook_loop {l : Launch} {w : am_W} {h : am_H} {n : Nat} {ρ : Nat → List (BitVec 8)} {β : Nat → bP} {κ : Nat → kT} {τ : Nat × Nat × Nat} (S : Sys h ρ β κ τ) (hn : 60 ≤ n) {t m : Nat} (ht : isRw t = true) (hm : isRw m = true) (htm : t ≠ m) (hk : kOk (κ 16)) (hr : (ρ m).length + 16 * nbk (ρ t) ≤ rwN m) : ∀ (d i : Nat), i + d = nbk (ρ t) → ∀ h2 β2, Sys h2 (ur ρ m (ρ m ++ bkN (dK (κ 16)) (ρ t) i)) β2 κ τ → (∀ a, a ∉ [27] → β2 a = β a) → Fr h h2 → RW l w mX1_unlockBook h2 n 0 0 2 [(3, .int (nI (16 * i))), (0, .ref 26), (1, .ref t), (2, .ref m)] [] (fun h' n' r_ => n' = n ∧ (SX h τ none (ur ρ m (ρ m ++ bkN (dK (κ 16)) (ρ t) (nbk (ρ t)))) β κ [27]) h' r_) := by
  have hlt := S.len t ht
  have hlm := S.len m hm
  have hnb := nbk_b (ρ t)
  have htc := rw_cases ht
  have hmc := rw_cases hm
  intro d
  induction d with
  | zero =>
    intro i hd h2 β2 S2 hB hF
    refine R_iload_n (pc := 2) 0 dX1_unlockBook_2 rfl rfl ?_
    refine R_aload_n (pc := 3) 2 dX1_unlockBook_3 rfl rfl ?_
    have := rw_cases (r := t) ht
    refine R_get (pc := 4) dX1_unlockBook_4 fX1_33 (S2.rowO t ht) (by omega) rfl ?_
    refine R_eqi (y := nI (ρ t).length) (by first | rfl | (simp only [ur_s, ur_ur, ur_n (x := t) (r := m) htm])) ?_
    refine R_icmp_ge (pc := 7) (tgt := 46) dX1_unlockBook_7 (by decide) (fun c_1 => ?_) (fun c_1 => absurd (nI_le (by omega) (by omega)) c_1)
    exact R_vreturn (pc := 46) dX1_unlockBook_46 rfl (by decide) (by decide) ⟨rfl, _, hB, rfl, by have z_ := S2; rw [show i = nbk (ρ t) by omega] at z_; exact z_, hF⟩
  | succ d ih =>
    intro i hd h2 β2 S2 hB hF
    refine R_iload_n (pc := 2) 0 dX1_unlockBook_2 rfl rfl ?_
    refine R_aload_n (pc := 3) 2 dX1_unlockBook_3 rfl rfl ?_
    have := rw_cases (r := t) ht
    refine R_get (pc := 4) dX1_unlockBook_4 fX1_33 (S2.rowO t ht) (by omega) rfl ?_
    refine R_eqi (y := nI (ρ t).length) (by first | rfl | (simp only [ur_s, ur_ur, ur_n (x := t) (r := m) htm])) ?_
    refine R_icmp_ge (pc := 7) (tgt := 46) dX1_unlockBook_7 (by decide) (fun c_1 => absurd c_1 (nI_ge (by omega) (by omega))) (fun c_1 => ?_)
    refine R_aload_n (pc := 10) 1 dX1_unlockBook_10 rfl rfl ?_
    refine R_get (pc := 11) dX1_unlockBook_11 fX1_23 S2.2.2.2.1 (by omega) rfl ?_
    refine R_aload_n (pc := 14) 2 dX1_unlockBook_14 rfl rfl ?_
    refine R_iload_n (pc := 15) 0 dX1_unlockBook_15 rfl rfl ?_
    refine R_callVh (pc := 16) (μ' := mX0_read) (As := [.ref t, .int (nI (16 * i))]) (st := []) dX1_unlockBook_16 zX0_read lX1_39 ⟨by decide, by decide⟩ rfl rfl ⟨by decide, by decide⟩ (S2.blk 27 rfl) (by omega) rfl (Nat.le_of_ble_eq_true rfl) (S_read S2 hn rfl ht (16 * i) (by omega)) (fun h_2 r_ q_3 => ?_)
    obtain ⟨rfl, S_4, F_6⟩ := q_3
    have S_5 : Sys h_2 (ur ρ m (ρ m ++ bkN (dK (κ 16)) (ρ t) i)) (ub β2 27 (rd (ρ t) (16 * i))) κ τ := by have z_ := S_4; (try simp only [ur_s, ur_ur, ur_n (x := t) (r := m) htm] at z_); exact z_
    refine R_aload_n (pc := 19) 1 dX1_unlockBook_19 rfl rfl ?_
    refine R_get (pc := 20) dX1_unlockBook_20 fX1_7 S_5.2.2.2.1 (by omega) rfl ?_
    refine R_aload_n (pc := 23) 1 dX1_unlockBook_23 rfl rfl ?_
    refine R_get (pc := 24) dX1_unlockBook_24 fX1_23 S_5.2.2.2.1 (by omega) rfl ?_
    refine R_callVh (pc := 27) (μ' := mX2_decrypt) (As := [.ref 27]) (st := []) dX1_unlockBook_27 zX2_decrypt lX1_53 ⟨by decide, by decide⟩ rfl rfl ⟨by decide, by decide⟩ (S_5.2.2.1 16 (by decide)).1 (by omega) rfl (Nat.le_of_ble_eq_true rfl) (S_decrypt S_5 hn (by decide) rfl hk.1 hk.2) (fun h_7 r_ q_8 => ?_)
    obtain ⟨rfl, S_9, F_11⟩ := q_8
    have S_10 : Sys h_7 (ur ρ m (ρ m ++ bkN (dK (κ 16)) (ρ t) i)) (ub (ub β2 27 (rd (ρ t) (16 * i))) 27 (dK (κ 16) (rd (ρ t) (16 * i)))) κ τ := by have z_ := S_9; (try simp only [ur_s, ur_ur, ur_n (x := t) (r := m) htm] at z_); exact z_
    refine R_aload_n (pc := 30) 3 dX1_unlockBook_30 rfl rfl ?_
    refine R_aload_n (pc := 31) 1 dX1_unlockBook_31 rfl rfl ?_
    refine R_get (pc := 32) dX1_unlockBook_32 fX1_23 S_10.2.2.2.1 (by omega) rfl ?_
    refine R_bipush (pc := 35) (v := 16) dX1_unlockBook_35 (by decide) ?_
    refine R_callVh (pc := 37) (μ' := mX6_appendBlock) (As := [.ref 27, .int (nI 16)]) (st := []) dX1_unlockBook_37 zX6_appendBlock lX1_49 ⟨by decide, by decide⟩ rfl rfl ⟨by decide, by decide⟩ (S_10.rowO m hm) (by omega) rfl (Nat.le_of_ble_eq_true rfl) (S_appendBlock S_10 hn hm rfl 16 (by simp only [ur_s, List.length_append, bkN_len]; omega)) (fun h_12 r_ q_13 => ?_)
    obtain ⟨rfl, S_14, F_16⟩ := q_13
    have S_15 : Sys h_12 (ur ρ m ((ρ m ++ bkN (dK (κ 16)) (ρ t) i) ++ bt (dK (κ 16) (rd (ρ t) (16 * i))) 16)) (ub (ub β2 27 (rd (ρ t) (16 * i))) 27 (dK (κ 16) (rd (ρ t) (16 * i)))) κ τ := by have z_ := S_14; (try simp only [ur_s, ur_ur, ur_n (x := t) (r := m) htm] at z_); exact z_
    refine R_iinc (pc := 40) (j := 0) (v := nI (16 * (i + 1))) (lv' := [(3, .int (nI (16 * (i + 1)))), (0, .ref 26), (1, .ref t), (2, .ref m)]) dX1_unlockBook_40 rfl (nI_add (16 * i) 16) (by decide) rfl ?_
    refine R_goto (pc := 43) (tgt := 2) dX1_unlockBook_43 (by decide) ?_
    refine R_sub [0, 1, 2, 3] rfl ?_
    exact ih (i + 1) (by omega) _ _ (by have z_ := S_15; simp only [List.append_assoc] at z_; exact z_)  (fun a_ n_ => by have q_ := hB a_ n_; simp only [List.mem_cons, List.not_mem_nil, or_false, not_or] at n_; simp only [ub, if_neg, n_, if_false]; exact q_) (hF.tr ((F_6.tr F_11).tr F_16))
set_option maxHeartbeats 4000000 in
set_option maxRecDepth 100000 in
theorem qX1_unlockBook {l : Launch} {w : am_W} {h : am_H} {n : Nat} {ρ : Nat → List (BitVec 8)} {β : Nat → bP} {κ : Nat → kT} {τ : Nat × Nat × Nat} (S : Sys h ρ β κ τ) (hn : 60 ≤ n) {t m : Nat} (ht : isRw t = true) (hm : isRw m = true) (htm : t ≠ m) (hk : kOk (κ 16)) (hr : (ρ m).length + 16 * nbk (ρ t) ≤ rwN m) : RH l w mX1_unlockBook h n [.ref 26, .ref t, .ref m] (SX h τ none (ur ρ m (ρ m ++ bkN (dK (κ 16)) (ρ t) (nbk (ρ t)))) β κ [27]) := by
  refine RC.of [(0, .ref 26), (1, .ref t), (2, .ref m)] (by decide +kernel) rfl (Nat.le_of_ble_eq_true rfl) ?_
  refine R_iconst (pc := 0) (v := 0) dX1_unlockBook_0 (by decide) ?_
  refine R_istore_n (pc := 1) (lv' := [(3, .int 0), (0, .ref 26), (1, .ref t), (2, .ref m)]) dX1_unlockBook_1 rfl (by decide) rfl ?_
  exact qX1_unlockBook_loop S hn ht hm htm hk hr (nbk (ρ t)) 0 (by omega) h β (by have z_ := S; rw [← ur_id ρ m] at z_; simpa only [bkN, List.append_nil] using z_) (fun _ _ => rfl) (Fr.rf h)
set_option maxHeartbeats 4000000 in
set_option maxRecDepth 100000 in
theorem qX1_lockChain_loop {l : Launch} {w : am_W} {h : am_H} {n : Nat} {ρ : Nat → List (BitVec 8)} {β : Nat → bP} {κ : Nat → kT} {τ : Nat × Nat × Nat} (S : Sys h ρ β κ τ) (hn : 60 ≤ n) {t m : Nat} (ht : isRw t = true) (hm : isRw m = true) (htm : t ≠ m) (hk : kOk (κ 16)) (hr : (ρ m).length + 16 * nbk (ρ t) ≤ rwN m) : ∀ (d i : Nat), i + d = nbk (ρ t) → ∀ h2 β2, Sys h2 (ur ρ m (ρ m ++ (stN (chS (eK (κ 16)) (ρ t)) (rd (ρ 6) 0) i).2)) β2 κ τ → β2 28 = (stN (chS (eK (κ 16)) (ρ t)) (rd (ρ 6) 0) i).1 → (∀ a, a ∉ [27, 28] → β2 a = β a) → Fr h h2 → RW l w mX1_lockChain h2 n 0 0 14 [(3, .int (nI (16 * i))), (0, .ref 26), (1, .ref t), (2, .ref m)] [] (fun h' n' r_ => n' = n ∧ (SX h τ none (ur ρ m (ρ m ++ (stN (chS (eK (κ 16)) (ρ t)) (rd (ρ 6) 0) (nbk (ρ t))).2)) β κ [27, 28]) h' r_) := by
  have hlt := S.len t ht
  have hlm := S.len m hm
  have hnb := nbk_b (ρ t)
  have htc := rw_cases ht
  have hmc := rw_cases hm
  intro d
  induction d with
  | zero =>
    intro i hd h2 β2 S2 hv hB hF
    have S3 : Sys h2 (ur ρ m (ρ m ++ (stN (chS (eK (κ 16)) (ρ t)) (rd (ρ 6) 0) i).2)) (ub β2 28 (stN (chS (eK (κ 16)) (ρ t)) (rd (ρ 6) 0) i).1) κ τ := Sys.know S2 hv
    refine R_iload_n (pc := 14) 0 dX1_lockChain_14 rfl rfl ?_
    refine R_aload_n (pc := 15) 2 dX1_lockChain_15 rfl rfl ?_
    have := rw_cases (r := t) ht
    refine R_get (pc := 16) dX1_lockChain_16 fX1_33 (S3.rowO t ht) (by omega) rfl ?_
    refine R_eqi (y := nI (ρ t).length) (by first | rfl | (simp only [ur_s, ur_ur, ur_n (x := t) (r := m) htm])) ?_
    refine R_icmp_ge (pc := 19) (tgt := 80) dX1_lockChain_19 (by decide) (fun c_1 => ?_) (fun c_1 => absurd (nI_le (by omega) (by omega)) c_1)
    exact R_vreturn (pc := 80) dX1_lockChain_80 rfl (by decide) (by decide) ⟨rfl, β2, hB, rfl, by have z_ := S2; rw [show i = nbk (ρ t) by omega] at z_; exact z_, hF⟩
  | succ d ih =>
    intro i hd h2 β2 S2 hv hB hF
    have S3 : Sys h2 (ur ρ m (ρ m ++ (stN (chS (eK (κ 16)) (ρ t)) (rd (ρ 6) 0) i).2)) (ub β2 28 (stN (chS (eK (κ 16)) (ρ t)) (rd (ρ 6) 0) i).1) κ τ := Sys.know S2 hv
    refine R_iload_n (pc := 14) 0 dX1_lockChain_14 rfl rfl ?_
    refine R_aload_n (pc := 15) 2 dX1_lockChain_15 rfl rfl ?_
    have := rw_cases (r := t) ht
    refine R_get (pc := 16) dX1_lockChain_16 fX1_33 (S3.rowO t ht) (by omega) rfl ?_
    refine R_eqi (y := nI (ρ t).length) (by first | rfl | (simp only [ur_s, ur_ur, ur_n (x := t) (r := m) htm])) ?_
    refine R_icmp_ge (pc := 19) (tgt := 80) dX1_lockChain_19 (by decide) (fun c_1 => absurd c_1 (nI_ge (by omega) (by omega))) (fun c_1 => ?_)
    refine R_aload_n (pc := 22) 1 dX1_lockChain_22 rfl rfl ?_
    refine R_get (pc := 23) dX1_lockChain_23 fX1_23 S3.2.2.2.1 (by omega) rfl ?_
    refine R_aload_n (pc := 26) 2 dX1_lockChain_26 rfl rfl ?_
    refine R_iload_n (pc := 27) 0 dX1_lockChain_27 rfl rfl ?_
    refine R_callVh (pc := 28) (μ' := mX0_read) (As := [.ref t, .int (nI (16 * i))]) (st := []) dX1_lockChain_28 zX0_read lX1_39 ⟨by decide, by decide⟩ rfl rfl ⟨by decide, by decide⟩ (S3.blk 27 rfl) (by omega) rfl (Nat.le_of_ble_eq_true rfl) (S_read S3 hn rfl ht (16 * i) (by omega)) (fun h_2 r_ q_3 => ?_)
    obtain ⟨rfl, S_4, F_6⟩ := q_3
    have S_5 : Sys h_2 (ur ρ m (ρ m ++ (stN (chS (eK (κ 16)) (ρ t)) (rd (ρ 6) 0) i).2)) (ub (ub β2 28 ((stN (chS (eK (κ 16)) (ρ t)) (rd (ρ 6) 0) i).1)) 27 (rd (ρ t) (16 * i))) κ τ := by have z_ := S_4; (try simp only [ur_s, ur_ur, ur_n (x := t) (r := m) htm] at z_); exact z_
    refine R_aload_n (pc := 31) 1 dX1_lockChain_31 rfl rfl ?_
    refine R_get (pc := 32) dX1_lockChain_32 fX1_23 S_5.2.2.2.1 (by omega) rfl ?_
    refine R_aload_n (pc := 35) 1 dX1_lockChain_35 rfl rfl ?_
    refine R_get (pc := 36) dX1_lockChain_36 fX1_27 S_5.2.2.2.1 (by omega) rfl ?_
    refine R_callVh (pc := 39) (μ' := mX0_add) (As := [.ref 28]) (st := []) dX1_lockChain_39 zX0_add lX1_56 ⟨by decide, by decide⟩ rfl rfl ⟨by decide, by decide⟩ (S_5.blk 27 rfl) (by omega) rfl (Nat.le_of_ble_eq_true rfl) (S_add S_5 hn rfl rfl (by decide)) (fun h_7 r_ q_8 => ?_)
    obtain ⟨rfl, S_9, F_11⟩ := q_8
    have S_10 : Sys h_7 (ur ρ m (ρ m ++ (stN (chS (eK (κ 16)) (ρ t)) (rd (ρ 6) 0) i).2)) (ub (ub (ub β2 28 ((stN (chS (eK (κ 16)) (ρ t)) (rd (ρ 6) 0) i).1)) 27 (rd (ρ t) (16 * i))) 27 (xb (rd (ρ t) (16 * i)) ((stN (chS (eK (κ 16)) (ρ t)) (rd (ρ 6) 0) i).1))) κ τ := by have z_ := S_9; (try simp only [ur_s, ur_ur, ur_n (x := t) (r := m) htm] at z_); exact z_
    refine R_aload_n (pc := 42) 1 dX1_lockChain_42 rfl rfl ?_
    refine R_get (pc := 43) dX1_lockChain_43 fX1_7 S_10.2.2.2.1 (by omega) rfl ?_
    refine R_aload_n (pc := 46) 1 dX1_lockChain_46 rfl rfl ?_
    refine R_get (pc := 47) dX1_lockChain_47 fX1_23 S_10.2.2.2.1 (by omega) rfl ?_
    refine R_callVh (pc := 50) (μ' := mX2_encrypt) (As := [.ref 27]) (st := []) dX1_lockChain_50 zX2_encrypt lX1_43 ⟨by decide, by decide⟩ rfl rfl ⟨by decide, by decide⟩ (S_10.2.2.1 16 (by decide)).1 (by omega) rfl (Nat.le_of_ble_eq_true rfl) (S_encrypt S_10 hn (by decide) rfl hk.1 hk.2) (fun h_12 r_ q_13 => ?_)
    obtain ⟨rfl, S_14, F_16⟩ := q_13
    have S_15 : Sys h_12 (ur ρ m (ρ m ++ (stN (chS (eK (κ 16)) (ρ t)) (rd (ρ 6) 0) i).2)) (ub (ub (ub (ub β2 28 ((stN (chS (eK (κ 16)) (ρ t)) (rd (ρ 6) 0) i).1)) 27 (rd (ρ t) (16 * i))) 27 (xb (rd (ρ t) (16 * i)) ((stN (chS (eK (κ 16)) (ρ t)) (rd (ρ 6) 0) i).1))) 27 (eK (κ 16) (xb (rd (ρ t) (16 * i)) ((stN (chS (eK (κ 16)) (ρ t)) (rd (ρ 6) 0) i).1)))) κ τ := by have z_ := S_14; (try simp only [ur_s, ur_ur, ur_n (x := t) (r := m) htm] at z_); exact z_
    refine R_aload_n (pc := 53) 3 dX1_lockChain_53 rfl rfl ?_
    refine R_aload_n (pc := 54) 1 dX1_lockChain_54 rfl rfl ?_
    refine R_get (pc := 55) dX1_lockChain_55 fX1_23 S_15.2.2.2.1 (by omega) rfl ?_
    refine R_bipush (pc := 58) (v := 16) dX1_lockChain_58 (by decide) ?_
    refine R_callVh (pc := 60) (μ' := mX6_appendBlock) (As := [.ref 27, .int (nI 16)]) (st := []) dX1_lockChain_60 zX6_appendBlock lX1_49 ⟨by decide, by decide⟩ rfl rfl ⟨by decide, by decide⟩ (S_15.rowO m hm) (by omega) rfl (Nat.le_of_ble_eq_true rfl) (S_appendBlock S_15 hn hm rfl 16 (by simp only [ur_s, List.length_append, stN_len (fun _ _ => chS_len _ _ _ _)]; omega)) (fun h_17 r_ q_18 => ?_)
    obtain ⟨rfl, S_19, F_21⟩ := q_18
    have S_20 : Sys h_17 (ur ρ m ((ρ m ++ (stN (chS (eK (κ 16)) (ρ t)) (rd (ρ 6) 0) i).2) ++ bt (eK (κ 16) (xb (rd (ρ t) (16 * i)) ((stN (chS (eK (κ 16)) (ρ t)) (rd (ρ 6) 0) i).1))) 16)) (ub (ub (ub (ub β2 28 ((stN (chS (eK (κ 16)) (ρ t)) (rd (ρ 6) 0) i).1)) 27 (rd (ρ t) (16 * i))) 27 (xb (rd (ρ t) (16 * i)) ((stN (chS (eK (κ 16)) (ρ t)) (rd (ρ 6) 0) i).1))) 27 (eK (κ 16) (xb (rd (ρ t) (16 * i)) ((stN (chS (eK (κ 16)) (ρ t)) (rd (ρ 6) 0) i).1)))) κ τ := by have z_ := S_19; (try simp only [ur_s, ur_ur, ur_n (x := t) (r := m) htm] at z_); exact z_
    refine R_aload_n (pc := 63) 1 dX1_lockChain_63 rfl rfl ?_
    refine R_get (pc := 64) dX1_lockChain_64 fX1_27 S_20.2.2.2.1 (by omega) rfl ?_
    refine R_aload_n (pc := 67) 1 dX1_lockChain_67 rfl rfl ?_
    refine R_get (pc := 68) dX1_lockChain_68 fX1_23 S_20.2.2.2.1 (by omega) rfl ?_
    refine R_callVh (pc := 71) (μ' := mX0_copy) (As := [.ref 27]) (st := []) dX1_lockChain_71 zX0_copy lX1_59 ⟨by decide, by decide⟩ rfl rfl ⟨by decide, by decide⟩ (S_20.blk 28 rfl) (by omega) rfl (Nat.le_of_ble_eq_true rfl) (S_copy S_20 hn rfl rfl (by decide)) (fun h_22 r_ q_23 => ?_)
    obtain ⟨rfl, S_24, F_26⟩ := q_23
    have S_25 : Sys h_22 (ur ρ m ((ρ m ++ (stN (chS (eK (κ 16)) (ρ t)) (rd (ρ 6) 0) i).2) ++ bt (eK (κ 16) (xb (rd (ρ t) (16 * i)) ((stN (chS (eK (κ 16)) (ρ t)) (rd (ρ 6) 0) i).1))) 16)) (ub (ub (ub (ub (ub β2 28 ((stN (chS (eK (κ 16)) (ρ t)) (rd (ρ 6) 0) i).1)) 27 (rd (ρ t) (16 * i))) 27 (xb (rd (ρ t) (16 * i)) ((stN (chS (eK (κ 16)) (ρ t)) (rd (ρ 6) 0) i).1))) 27 (eK (κ 16) (xb (rd (ρ t) (16 * i)) ((stN (chS (eK (κ 16)) (ρ t)) (rd (ρ 6) 0) i).1)))) 28 (eK (κ 16) (xb (rd (ρ t) (16 * i)) ((stN (chS (eK (κ 16)) (ρ t)) (rd (ρ 6) 0) i).1)))) κ τ := by have z_ := S_24; (try simp only [ur_s, ur_ur, ur_n (x := t) (r := m) htm] at z_); exact z_
    refine R_iinc (pc := 74) (j := 0) (v := nI (16 * (i + 1))) (lv' := [(3, .int (nI (16 * (i + 1)))), (0, .ref 26), (1, .ref t), (2, .ref m)]) dX1_lockChain_74 rfl (nI_add (16 * i) 16) (by decide) rfl ?_
    refine R_goto (pc := 77) (tgt := 14) dX1_lockChain_77 (by decide) ?_
    refine R_sub [0, 1, 2, 3] rfl ?_
    refine ih (i + 1) (by omega) h_22 (ub (ub (ub (ub (ub β2 28 ((stN (chS (eK (κ 16)) (ρ t)) (rd (ρ 6) 0) i).1)) 27 (rd (ρ t) (16 * i))) 27 (xb (rd (ρ t) (16 * i)) ((stN (chS (eK (κ 16)) (ρ t)) (rd (ρ 6) 0) i).1))) 27 (eK (κ 16) (xb (rd (ρ t) (16 * i)) ((stN (chS (eK (κ 16)) (ρ t)) (rd (ρ 6) 0) i).1)))) 28 (eK (κ 16) (xb (rd (ρ t) (16 * i)) ((stN (chS (eK (κ 16)) (ρ t)) (rd (ρ 6) 0) i).1)))) (by have z_ := S_25; rw [List.append_assoc] at z_; exact z_) rfl (fun a_ n_ => ?_) (hF.tr ((((F_6.tr F_11).tr F_16).tr F_21).tr F_26))
    have q_ := hB a_ n_; simp only [List.mem_cons, List.not_mem_nil, or_false, not_or] at n_; simp only [ub, if_neg, n_, if_false]; exact q_
set_option maxHeartbeats 4000000 in
set_option maxRecDepth 100000 in
theorem qX1_lockChain {l : Launch} {w : am_W} {h : am_H} {n : Nat} {ρ : Nat → List (BitVec 8)} {β : Nat → bP} {κ : Nat → kT} {τ : Nat × Nat × Nat} (S : Sys h ρ β κ τ) (hn : 60 ≤ n) {t m : Nat} (ht : isRw t = true) (hm : isRw m = true) (htm : t ≠ m) (hk : kOk (κ 16)) (hr : (ρ m).length + 16 * nbk (ρ t) ≤ rwN m) : RH l w mX1_lockChain h n [.ref 26, .ref t, .ref m] (SX h τ none (ur ρ m (ρ m ++ (stN (chS (eK (κ 16)) (ρ t)) (rd (ρ 6) 0) (nbk (ρ t))).2)) β κ [27, 28]) := by
  refine RC.of [(0, .ref 26), (1, .ref t), (2, .ref m)] (by decide +kernel) rfl (Nat.le_of_ble_eq_true rfl) ?_
  refine R_aload_n (pc := 0) 0 dX1_lockChain_0 rfl rfl ?_
  refine R_get (pc := 1) dX1_lockChain_1 fX1_27 S.2.2.2.1 (by omega) rfl ?_
  refine R_aload_n (pc := 4) 0 dX1_lockChain_4 rfl rfl ?_
  refine R_get (pc := 5) dX1_lockChain_5 fX1_13 S.2.2.2.1 (by omega) rfl ?_
  refine R_iconst (pc := 8) (v := 0) dX1_lockChain_8 (by decide) ?_
  refine R_callVh (pc := 9) (μ' := mX0_read) (As := [.ref 6, .int (nI 0)]) (st := []) dX1_lockChain_9 zX0_read lX1_39 ⟨by decide, by decide⟩ rfl rfl ⟨by decide, by decide⟩ (S.blk 28 rfl) (by omega) rfl (Nat.le_of_ble_eq_true rfl) (S_read S hn rfl rfl 0 (by omega)) (fun h_1 r_ q_2 => ?_)
  obtain ⟨rfl, S_3, F_5⟩ := q_2
  have S_4 : Sys h_1 ρ (ub β 28 (rd (ρ 6) 0)) κ τ := S_3
  refine R_iconst (pc := 12) (v := 0) dX1_lockChain_12 (by decide) ?_
  refine R_istore_n (pc := 13) (lv' := [(3, .int 0), (0, .ref 26), (1, .ref t), (2, .ref m)]) dX1_lockChain_13 rfl (by decide) rfl ?_
  refine R_sub [0, 1, 2, 3] rfl ?_
  refine qX1_lockChain_loop S hn ht hm htm hk hr (nbk (ρ t)) 0 (by omega) h_1 (ub β 28 (rd (ρ 6) 0)) (by have e_ : ρ m ++ (stN (chS (eK (κ 16)) (ρ t)) (rd (ρ 6) 0) 0).2 = ρ m := List.append_nil _; rw [e_, ur_id]; exact S_4) rfl (fun a_ n_ => ?_) F_5
  simp only [List.mem_cons, List.not_mem_nil, or_false, not_or] at n_; simp only [ub, if_neg, n_, if_false]
set_option maxHeartbeats 4000000 in
set_option maxRecDepth 100000 in
theorem qX1_unlockChain_loop {l : Launch} {w : am_W} {h : am_H} {n : Nat} {ρ : Nat → List (BitVec 8)} {β : Nat → bP} {κ : Nat → kT} {τ : Nat × Nat × Nat} (S : Sys h ρ β κ τ) (hn : 60 ≤ n) {t m : Nat} (ht : isRw t = true) (hm : isRw m = true) (htm : t ≠ m) (hk : kOk (κ 16)) (hr : (ρ m).length + 16 * nbk (ρ t) ≤ rwN m) : ∀ (d i : Nat), i + d = nbk (ρ t) → ∀ h2 β2, Sys h2 (ur ρ m (ρ m ++ (stN (ucS (dK (κ 16)) (ρ t)) (rd (ρ 6) 0) i).2)) β2 κ τ → β2 28 = (stN (ucS (dK (κ 16)) (ρ t)) (rd (ρ 6) 0) i).1 → (∀ a, a ∉ [27, 28, 29] → β2 a = β a) → Fr h h2 → RW l w mX1_unlockChain h2 n 0 0 14 [(3, .int (nI (16 * i))), (0, .ref 26), (1, .ref t), (2, .ref m)] [] (fun h' n' r_ => n' = n ∧ (SX h τ none (ur ρ m (ρ m ++ (stN (ucS (dK (κ 16)) (ρ t)) (rd (ρ 6) 0) (nbk (ρ t))).2)) β κ [27, 28, 29]) h' r_) := by
  have hlt := S.len t ht
  have hlm := S.len m hm
  have hnb := nbk_b (ρ t)
  have htc := rw_cases ht
  have hmc := rw_cases hm
  intro d
  induction d with
  | zero =>
    intro i hd h2 β2 S2 hv hB hF
    have S3 : Sys h2 (ur ρ m (ρ m ++ (stN (ucS (dK (κ 16)) (ρ t)) (rd (ρ 6) 0) i).2)) (ub β2 28 (stN (ucS (dK (κ 16)) (ρ t)) (rd (ρ 6) 0) i).1) κ τ := Sys.know S2 hv
    refine R_iload_n (pc := 14) 0 dX1_unlockChain_14 rfl rfl ?_
    refine R_aload_n (pc := 15) 2 dX1_unlockChain_15 rfl rfl ?_
    have := rw_cases (r := t) ht
    refine R_get (pc := 16) dX1_unlockChain_16 fX1_33 (S3.rowO t ht) (by omega) rfl ?_
    refine R_eqi (y := nI (ρ t).length) (by first | rfl | (simp only [ur_s, ur_ur, ur_n (x := t) (r := m) htm])) ?_
    refine R_icmp_ge (pc := 19) (tgt := 91) dX1_unlockChain_19 (by decide) (fun c_1 => ?_) (fun c_1 => absurd (nI_le (by omega) (by omega)) c_1)
    exact R_vreturn (pc := 91) dX1_unlockChain_91 rfl (by decide) (by decide) ⟨rfl, β2, hB, rfl, by have z_ := S2; rw [show i = nbk (ρ t) by omega] at z_; exact z_, hF⟩
  | succ d ih =>
    intro i hd h2 β2 S2 hv hB hF
    have S3 : Sys h2 (ur ρ m (ρ m ++ (stN (ucS (dK (κ 16)) (ρ t)) (rd (ρ 6) 0) i).2)) (ub β2 28 (stN (ucS (dK (κ 16)) (ρ t)) (rd (ρ 6) 0) i).1) κ τ := Sys.know S2 hv
    refine R_iload_n (pc := 14) 0 dX1_unlockChain_14 rfl rfl ?_
    refine R_aload_n (pc := 15) 2 dX1_unlockChain_15 rfl rfl ?_
    have := rw_cases (r := t) ht
    refine R_get (pc := 16) dX1_unlockChain_16 fX1_33 (S3.rowO t ht) (by omega) rfl ?_
    refine R_eqi (y := nI (ρ t).length) (by first | rfl | (simp only [ur_s, ur_ur, ur_n (x := t) (r := m) htm])) ?_
    refine R_icmp_ge (pc := 19) (tgt := 91) dX1_unlockChain_19 (by decide) (fun c_1 => absurd c_1 (nI_ge (by omega) (by omega))) (fun c_1 => ?_)
    refine R_aload_n (pc := 22) 1 dX1_unlockChain_22 rfl rfl ?_
    refine R_get (pc := 23) dX1_unlockChain_23 fX1_30 S3.2.2.2.1 (by omega) rfl ?_
    refine R_aload_n (pc := 26) 2 dX1_unlockChain_26 rfl rfl ?_
    refine R_iload_n (pc := 27) 0 dX1_unlockChain_27 rfl rfl ?_
    refine R_callVh (pc := 28) (μ' := mX0_read) (As := [.ref t, .int (nI (16 * i))]) (st := []) dX1_unlockChain_28 zX0_read lX1_39 ⟨by decide, by decide⟩ rfl rfl ⟨by decide, by decide⟩ (S3.blk 29 rfl) (by omega) rfl (Nat.le_of_ble_eq_true rfl) (S_read S3 hn rfl ht (16 * i) (by omega)) (fun h_2 r_ q_3 => ?_)
    obtain ⟨rfl, S_4, F_6⟩ := q_3
    have S_5 : Sys h_2 (ur ρ m (ρ m ++ (stN (ucS (dK (κ 16)) (ρ t)) (rd (ρ 6) 0) i).2)) (ub (ub β2 28 ((stN (ucS (dK (κ 16)) (ρ t)) (rd (ρ 6) 0) i).1)) 29 (rd (ρ t) (16 * i))) κ τ := by have z_ := S_4; (try simp only [ur_s, ur_ur, ur_n (x := t) (r := m) htm] at z_); exact z_
    refine R_aload_n (pc := 31) 1 dX1_unlockChain_31 rfl rfl ?_
    refine R_get (pc := 32) dX1_unlockChain_32 fX1_23 S_5.2.2.2.1 (by omega) rfl ?_
    refine R_aload_n (pc := 35) 1 dX1_unlockChain_35 rfl rfl ?_
    refine R_get (pc := 36) dX1_unlockChain_36 fX1_30 S_5.2.2.2.1 (by omega) rfl ?_
    refine R_callVh (pc := 39) (μ' := mX0_copy) (As := [.ref 29]) (st := []) dX1_unlockChain_39 zX0_copy lX1_59 ⟨by decide, by decide⟩ rfl rfl ⟨by decide, by decide⟩ (S_5.blk 27 rfl) (by omega) rfl (Nat.le_of_ble_eq_true rfl) (S_copy S_5 hn rfl rfl (by decide)) (fun h_7 r_ q_8 => ?_)
    obtain ⟨rfl, S_9, F_11⟩ := q_8
    have S_10 : Sys h_7 (ur ρ m (ρ m ++ (stN (ucS (dK (κ 16)) (ρ t)) (rd (ρ 6) 0) i).2)) (ub (ub (ub β2 28 ((stN (ucS (dK (κ 16)) (ρ t)) (rd (ρ 6) 0) i).1)) 29 (rd (ρ t) (16 * i))) 27 (rd (ρ t) (16 * i))) κ τ := by have z_ := S_9; (try simp only [ur_s, ur_ur, ur_n (x := t) (r := m) htm] at z_); exact z_
    refine R_aload_n (pc := 42) 1 dX1_unlockChain_42 rfl rfl ?_
    refine R_get (pc := 43) dX1_unlockChain_43 fX1_7 S_10.2.2.2.1 (by omega) rfl ?_
    refine R_aload_n (pc := 46) 1 dX1_unlockChain_46 rfl rfl ?_
    refine R_get (pc := 47) dX1_unlockChain_47 fX1_23 S_10.2.2.2.1 (by omega) rfl ?_
    refine R_callVh (pc := 50) (μ' := mX2_decrypt) (As := [.ref 27]) (st := []) dX1_unlockChain_50 zX2_decrypt lX1_53 ⟨by decide, by decide⟩ rfl rfl ⟨by decide, by decide⟩ (S_10.2.2.1 16 (by decide)).1 (by omega) rfl (Nat.le_of_ble_eq_true rfl) (S_decrypt S_10 hn (by decide) rfl hk.1 hk.2) (fun h_12 r_ q_13 => ?_)
    obtain ⟨rfl, S_14, F_16⟩ := q_13
    have S_15 : Sys h_12 (ur ρ m (ρ m ++ (stN (ucS (dK (κ 16)) (ρ t)) (rd (ρ 6) 0) i).2)) (ub (ub (ub (ub β2 28 ((stN (ucS (dK (κ 16)) (ρ t)) (rd (ρ 6) 0) i).1)) 29 (rd (ρ t) (16 * i))) 27 (rd (ρ t) (16 * i))) 27 (dK (κ 16) (rd (ρ t) (16 * i)))) κ τ := by have z_ := S_14; (try simp only [ur_s, ur_ur, ur_n (x := t) (r := m) htm] at z_); exact z_
    refine R_aload_n (pc := 53) 1 dX1_unlockChain_53 rfl rfl ?_
    refine R_get (pc := 54) dX1_unlockChain_54 fX1_23 S_15.2.2.2.1 (by omega) rfl ?_
    refine R_aload_n (pc := 57) 1 dX1_unlockChain_57 rfl rfl ?_
    refine R_get (pc := 58) dX1_unlockChain_58 fX1_27 S_15.2.2.2.1 (by omega) rfl ?_
    refine R_callVh (pc := 61) (μ' := mX0_add) (As := [.ref 28]) (st := []) dX1_unlockChain_61 zX0_add lX1_56 ⟨by decide, by decide⟩ rfl rfl ⟨by decide, by decide⟩ (S_15.blk 27 rfl) (by omega) rfl (Nat.le_of_ble_eq_true rfl) (S_add S_15 hn rfl rfl (by decide)) (fun h_17 r_ q_18 => ?_)
    obtain ⟨rfl, S_19, F_21⟩ := q_18
    have S_20 : Sys h_17 (ur ρ m (ρ m ++ (stN (ucS (dK (κ 16)) (ρ t)) (rd (ρ 6) 0) i).2)) (ub (ub (ub (ub (ub β2 28 ((stN (ucS (dK (κ 16)) (ρ t)) (rd (ρ 6) 0) i).1)) 29 (rd (ρ t) (16 * i))) 27 (rd (ρ t) (16 * i))) 27 (dK (κ 16) (rd (ρ t) (16 * i)))) 27 (xb (dK (κ 16) (rd (ρ t) (16 * i))) ((stN (ucS (dK (κ 16)) (ρ t)) (rd (ρ 6) 0) i).1))) κ τ := by have z_ := S_19; (try simp only [ur_s, ur_ur, ur_n (x := t) (r := m) htm] at z_); exact z_
    refine R_aload_n (pc := 64) 3 dX1_unlockChain_64 rfl rfl ?_
    refine R_aload_n (pc := 65) 1 dX1_unlockChain_65 rfl rfl ?_
    refine R_get (pc := 66) dX1_unlockChain_66 fX1_23 S_20.2.2.2.1 (by omega) rfl ?_
    refine R_bipush (pc := 69) (v := 16) dX1_unlockChain_69 (by decide) ?_
    refine R_callVh (pc := 71) (μ' := mX6_appendBlock) (As := [.ref 27, .int (nI 16)]) (st := []) dX1_unlockChain_71 zX6_appendBlock lX1_49 ⟨by decide, by decide⟩ rfl rfl ⟨by decide, by decide⟩ (S_20.rowO m hm) (by omega) rfl (Nat.le_of_ble_eq_true rfl) (S_appendBlock S_20 hn hm rfl 16 (by simp only [ur_s, List.length_append, stN_len (fun _ _ => ucS_len _ _ _ _)]; omega)) (fun h_22 r_ q_23 => ?_)
    obtain ⟨rfl, S_24, F_26⟩ := q_23
    have S_25 : Sys h_22 (ur ρ m ((ρ m ++ (stN (ucS (dK (κ 16)) (ρ t)) (rd (ρ 6) 0) i).2) ++ bt (xb (dK (κ 16) (rd (ρ t) (16 * i))) ((stN (ucS (dK (κ 16)) (ρ t)) (rd (ρ 6) 0) i).1)) 16)) (ub (ub (ub (ub (ub β2 28 ((stN (ucS (dK (κ 16)) (ρ t)) (rd (ρ 6) 0) i).1)) 29 (rd (ρ t) (16 * i))) 27 (rd (ρ t) (16 * i))) 27 (dK (κ 16) (rd (ρ t) (16 * i)))) 27 (xb (dK (κ 16) (rd (ρ t) (16 * i))) ((stN (ucS (dK (κ 16)) (ρ t)) (rd (ρ 6) 0) i).1))) κ τ := by have z_ := S_24; (try simp only [ur_s, ur_ur, ur_n (x := t) (r := m) htm] at z_); exact z_
    refine R_aload_n (pc := 74) 1 dX1_unlockChain_74 rfl rfl ?_
    refine R_get (pc := 75) dX1_unlockChain_75 fX1_27 S_25.2.2.2.1 (by omega) rfl ?_
    refine R_aload_n (pc := 78) 1 dX1_unlockChain_78 rfl rfl ?_
    refine R_get (pc := 79) dX1_unlockChain_79 fX1_30 S_25.2.2.2.1 (by omega) rfl ?_
    refine R_callVh (pc := 82) (μ' := mX0_copy) (As := [.ref 29]) (st := []) dX1_unlockChain_82 zX0_copy lX1_59 ⟨by decide, by decide⟩ rfl rfl ⟨by decide, by decide⟩ (S_25.blk 28 rfl) (by omega) rfl (Nat.le_of_ble_eq_true rfl) (S_copy S_25 hn rfl rfl (by decide)) (fun h_27 r_ q_28 => ?_)
    obtain ⟨rfl, S_29, F_31⟩ := q_28
    have S_30 : Sys h_27 (ur ρ m ((ρ m ++ (stN (ucS (dK (κ 16)) (ρ t)) (rd (ρ 6) 0) i).2) ++ bt (xb (dK (κ 16) (rd (ρ t) (16 * i))) ((stN (ucS (dK (κ 16)) (ρ t)) (rd (ρ 6) 0) i).1)) 16)) (ub (ub (ub (ub (ub (ub β2 28 ((stN (ucS (dK (κ 16)) (ρ t)) (rd (ρ 6) 0) i).1)) 29 (rd (ρ t) (16 * i))) 27 (rd (ρ t) (16 * i))) 27 (dK (κ 16) (rd (ρ t) (16 * i)))) 27 (xb (dK (κ 16) (rd (ρ t) (16 * i))) ((stN (ucS (dK (κ 16)) (ρ t)) (rd (ρ 6) 0) i).1))) 28 (rd (ρ t) (16 * i))) κ τ := by have z_ := S_29; (try simp only [ur_s, ur_ur, ur_n (x := t) (r := m) htm] at z_); exact z_
    refine R_iinc (pc := 85) (j := 0) (v := nI (16 * (i + 1))) (lv' := [(3, .int (nI (16 * (i + 1)))), (0, .ref 26), (1, .ref t), (2, .ref m)]) dX1_unlockChain_85 rfl (nI_add (16 * i) 16) (by decide) rfl ?_
    refine R_goto (pc := 88) (tgt := 14) dX1_unlockChain_88 (by decide) ?_
    refine R_sub [0, 1, 2, 3] rfl ?_
    refine ih (i + 1) (by omega) h_27 (ub (ub (ub (ub (ub (ub β2 28 ((stN (ucS (dK (κ 16)) (ρ t)) (rd (ρ 6) 0) i).1)) 29 (rd (ρ t) (16 * i))) 27 (rd (ρ t) (16 * i))) 27 (dK (κ 16) (rd (ρ t) (16 * i)))) 27 (xb (dK (κ 16) (rd (ρ t) (16 * i))) ((stN (ucS (dK (κ 16)) (ρ t)) (rd (ρ 6) 0) i).1))) 28 (rd (ρ t) (16 * i))) (by have z_ := S_30; rw [List.append_assoc] at z_; exact z_) rfl (fun a_ n_ => ?_) (hF.tr (((((F_6.tr F_11).tr F_16).tr F_21).tr F_26).tr F_31))
    have q_ := hB a_ n_; simp only [List.mem_cons, List.not_mem_nil, or_false, not_or] at n_; simp only [ub, if_neg, n_, if_false]; exact q_
set_option maxHeartbeats 4000000 in
set_option maxRecDepth 100000 in
theorem qX1_unlockChain {l : Launch} {w : am_W} {h : am_H} {n : Nat} {ρ : Nat → List (BitVec 8)} {β : Nat → bP} {κ : Nat → kT} {τ : Nat × Nat × Nat} (S : Sys h ρ β κ τ) (hn : 60 ≤ n) {t m : Nat} (ht : isRw t = true) (hm : isRw m = true) (htm : t ≠ m) (hk : kOk (κ 16)) (hr : (ρ m).length + 16 * nbk (ρ t) ≤ rwN m) : RH l w mX1_unlockChain h n [.ref 26, .ref t, .ref m] (SX h τ none (ur ρ m (ρ m ++ (stN (ucS (dK (κ 16)) (ρ t)) (rd (ρ 6) 0) (nbk (ρ t))).2)) β κ [27, 28, 29]) := by
  refine RC.of [(0, .ref 26), (1, .ref t), (2, .ref m)] (by decide +kernel) rfl (Nat.le_of_ble_eq_true rfl) ?_
  refine R_aload_n (pc := 0) 0 dX1_unlockChain_0 rfl rfl ?_
  refine R_get (pc := 1) dX1_unlockChain_1 fX1_27 S.2.2.2.1 (by omega) rfl ?_
  refine R_aload_n (pc := 4) 0 dX1_unlockChain_4 rfl rfl ?_
  refine R_get (pc := 5) dX1_unlockChain_5 fX1_13 S.2.2.2.1 (by omega) rfl ?_
  refine R_iconst (pc := 8) (v := 0) dX1_unlockChain_8 (by decide) ?_
  refine R_callVh (pc := 9) (μ' := mX0_read) (As := [.ref 6, .int (nI 0)]) (st := []) dX1_unlockChain_9 zX0_read lX1_39 ⟨by decide, by decide⟩ rfl rfl ⟨by decide, by decide⟩ (S.blk 28 rfl) (by omega) rfl (Nat.le_of_ble_eq_true rfl) (S_read S hn rfl rfl 0 (by omega)) (fun h_1 r_ q_2 => ?_)
  obtain ⟨rfl, S_3, F_5⟩ := q_2
  have S_4 : Sys h_1 ρ (ub β 28 (rd (ρ 6) 0)) κ τ := S_3
  refine R_iconst (pc := 12) (v := 0) dX1_unlockChain_12 (by decide) ?_
  refine R_istore_n (pc := 13) (lv' := [(3, .int 0), (0, .ref 26), (1, .ref t), (2, .ref m)]) dX1_unlockChain_13 rfl (by decide) rfl ?_
  refine R_sub [0, 1, 2, 3] rfl ?_
  refine qX1_unlockChain_loop S hn ht hm htm hk hr (nbk (ρ t)) 0 (by omega) h_1 (ub β 28 (rd (ρ 6) 0)) (by have e_ : ρ m ++ (stN (ucS (dK (κ 16)) (ρ t)) (rd (ρ 6) 0) 0).2 = ρ m := List.append_nil _; rw [e_, ur_id]; exact S_4) rfl (fun a_ n_ => ?_) F_5
  simp only [List.mem_cons, List.not_mem_nil, or_false, not_or] at n_; simp only [ub, if_neg, n_, if_false]
set_option maxHeartbeats 4000000 in
set_option maxRecDepth 100000 in
theorem qX9_feedBack_loop {l : Launch} {w : am_W} {h : am_H} {n : Nat} {ρ : Nat → List (BitVec 8)} {β : Nat → bP} {κ : Nat → kT} {τ : Nat × Nat × Nat} (S : Sys h ρ β κ τ) (hn : 60 ≤ n) {t m : Nat} (ht : isRw t = true) (hm : isRw m = true) (htm : t ≠ m) (op : Int32) (hk : kOk (κ 16)) (hr : (ρ m).length + (ρ t).length ≤ rwN m) : ∀ (d i : Nat), i + d = nbk (ρ t) → ∀ h2 β2, Sys h2 (ur ρ m (ρ m ++ (stN (fbS (eK (κ 16)) op (ρ t)) (rd (ρ 6) 0) i).2)) β2 κ τ → β2 31 = (stN (fbS (eK (κ 16)) op (ρ t)) (rd (ρ 6) 0) i).1 → (∀ a, a ∉ [31, 32, 33] → β2 a = β a) → Fr h h2 → RW l w mX9_feedBack h2 n 0 0 15 [(4, .int (nI (16 * i))), (0, .ref 30), (1, .ref t), (2, .int op), (3, .ref m)] [] (fun h' n' r_ => n' = n ∧ (SX h τ none (ur ρ m (ρ m ++ (stN (fbS (eK (κ 16)) op (ρ t)) (rd (ρ 6) 0) (nbk (ρ t))).2)) β κ [31, 32, 33]) h' r_) := by
  have hlt := S.len t ht
  have hlm := S.len m hm
  have hnb := nbk_b (ρ t)
  have htc := rw_cases ht
  have hmc := rw_cases hm
  intro d
  induction d with
  | zero =>
    intro i hd h2 β2 S2 hv hB hF
    have S3 : Sys h2 (ur ρ m (ρ m ++ (stN (fbS (eK (κ 16)) op (ρ t)) (rd (ρ 6) 0) i).2)) (ub β2 31 (stN (fbS (eK (κ 16)) op (ρ t)) (rd (ρ 6) 0) i).1) κ τ := Sys.know S2 hv
    refine R_iload (pc := 15) 0 dX9_feedBack_15 rfl ?_
    refine R_aload_n (pc := 17) 2 dX9_feedBack_17 rfl rfl ?_
    have := rw_cases (r := t) ht
    refine R_get (pc := 18) dX9_feedBack_18 fX9_34 (S3.rowO t ht) (by omega) rfl ?_
    refine R_eqi (y := nI (ρ t).length) (by first | rfl | (simp only [ur_s, ur_ur, ur_n (x := t) (r := m) htm])) ?_
    refine R_icmp_ge (pc := 21) (tgt := 119) dX9_feedBack_21 (by decide) (fun c_1 => ?_) (fun c_1 => absurd (nI_le (by omega) (by omega)) c_1)
    exact R_vreturn (pc := 119) dX9_feedBack_119 rfl (by decide) (by decide) ⟨rfl, β2, hB, rfl, by have z_ := S2; rw [show i = nbk (ρ t) by omega] at z_; exact z_, hF⟩
  | succ d ih =>
    intro i hd h2 β2 S2 hv hB hF
    have S3 : Sys h2 (ur ρ m (ρ m ++ (stN (fbS (eK (κ 16)) op (ρ t)) (rd (ρ 6) 0) i).2)) (ub β2 31 (stN (fbS (eK (κ 16)) op (ρ t)) (rd (ρ 6) 0) i).1) κ τ := Sys.know S2 hv
    refine R_iload (pc := 15) 0 dX9_feedBack_15 rfl ?_
    refine R_aload_n (pc := 17) 2 dX9_feedBack_17 rfl rfl ?_
    have := rw_cases (r := t) ht
    refine R_get (pc := 18) dX9_feedBack_18 fX9_34 (S3.rowO t ht) (by omega) rfl ?_
    refine R_eqi (y := nI (ρ t).length) (by first | rfl | (simp only [ur_s, ur_ur, ur_n (x := t) (r := m) htm])) ?_
    refine R_icmp_ge (pc := 21) (tgt := 119) dX9_feedBack_21 (by decide) (fun c_1 => absurd c_1 (nI_ge (by omega) (by omega))) (fun c_1 => ?_)
    refine R_aload_n (pc := 24) 1 dX9_feedBack_24 rfl rfl ?_
    refine R_get (pc := 25) dX9_feedBack_25 fX9_27 S3.2.2.2.2.1 (by omega) rfl ?_
    refine R_aload_n (pc := 28) 1 dX9_feedBack_28 rfl rfl ?_
    refine R_get (pc := 29) dX9_feedBack_29 fX9_20 S3.2.2.2.2.1 (by omega) rfl ?_
    refine R_callVh (pc := 32) (μ' := mX0_copy) (As := [.ref 31]) (st := []) dX9_feedBack_32 zX0_copy lX9_40 ⟨by decide, by decide⟩ rfl rfl ⟨by decide, by decide⟩ (S3.blk 33 rfl) (by omega) rfl (Nat.le_of_ble_eq_true rfl) (S_copy S3 hn rfl rfl (by decide)) (fun h_2 r_ q_3 => ?_)
    obtain ⟨rfl, S_4, F_6⟩ := q_3
    have S_5 : Sys h_2 (ur ρ m (ρ m ++ (stN (fbS (eK (κ 16)) op (ρ t)) (rd (ρ 6) 0) i).2)) (ub (ub β2 31 ((stN (fbS (eK (κ 16)) op (ρ t)) (rd (ρ 6) 0) i).1)) 33 ((stN (fbS (eK (κ 16)) op (ρ t)) (rd (ρ 6) 0) i).1)) κ τ := by have z_ := S_4; (try simp only [ur_s, ur_ur, ur_n (x := t) (r := m) htm] at z_); exact z_
    refine R_aload_n (pc := 35) 1 dX9_feedBack_35 rfl rfl ?_
    refine R_get (pc := 36) dX9_feedBack_36 fX9_7 S_5.2.2.2.2.1 (by omega) rfl ?_
    refine R_aload_n (pc := 39) 1 dX9_feedBack_39 rfl rfl ?_
    refine R_get (pc := 40) dX9_feedBack_40 fX9_27 S_5.2.2.2.2.1 (by omega) rfl ?_
    refine R_callVh (pc := 43) (μ' := mX2_encrypt) (As := [.ref 33]) (st := []) dX9_feedBack_43 zX2_encrypt lX9_44 ⟨by decide, by decide⟩ rfl rfl ⟨by decide, by decide⟩ (S_5.2.2.1 16 (by decide)).1 (by omega) rfl (Nat.le_of_ble_eq_true rfl) (S_encrypt S_5 hn (by decide) rfl hk.1 hk.2) (fun h_7 r_ q_8 => ?_)
    obtain ⟨rfl, S_9, F_11⟩ := q_8
    have S_10 : Sys h_7 (ur ρ m (ρ m ++ (stN (fbS (eK (κ 16)) op (ρ t)) (rd (ρ 6) 0) i).2)) (ub (ub (ub β2 31 ((stN (fbS (eK (κ 16)) op (ρ t)) (rd (ρ 6) 0) i).1)) 33 ((stN (fbS (eK (κ 16)) op (ρ t)) (rd (ρ 6) 0) i).1)) 33 (eK (κ 16) ((stN (fbS (eK (κ 16)) op (ρ t)) (rd (ρ 6) 0) i).1))) κ τ := by have z_ := S_9; (try simp only [ur_s, ur_ur, ur_n (x := t) (r := m) htm] at z_); exact z_
    refine R_aload_n (pc := 46) 1 dX9_feedBack_46 rfl rfl ?_
    refine R_get (pc := 47) dX9_feedBack_47 fX9_24 S_10.2.2.2.2.1 (by omega) rfl ?_
    refine R_aload_n (pc := 50) 2 dX9_feedBack_50 rfl rfl ?_
    refine R_iload (pc := 51) 0 dX9_feedBack_51 rfl ?_
    refine R_callVh (pc := 53) (μ' := mX0_read) (As := [.ref t, .int (nI (16 * i))]) (st := []) dX9_feedBack_53 zX0_read lX9_30 ⟨by decide, by decide⟩ rfl rfl ⟨by decide, by decide⟩ (S_10.blk 32 rfl) (by omega) rfl (Nat.le_of_ble_eq_true rfl) (S_read S_10 hn rfl ht (16 * i) (by omega)) (fun h_12 r_ q_13 => ?_)
    obtain ⟨rfl, S_14, F_16⟩ := q_13
    have S_15 : Sys h_12 (ur ρ m (ρ m ++ (stN (fbS (eK (κ 16)) op (ρ t)) (rd (ρ 6) 0) i).2)) (ub (ub (ub (ub β2 31 ((stN (fbS (eK (κ 16)) op (ρ t)) (rd (ρ 6) 0) i).1)) 33 ((stN (fbS (eK (κ 16)) op (ρ t)) (rd (ρ 6) 0) i).1)) 33 (eK (κ 16) ((stN (fbS (eK (κ 16)) op (ρ t)) (rd (ρ 6) 0) i).1))) 32 (rd (ρ t) (16 * i))) κ τ := by have z_ := S_14; (try simp only [ur_s, ur_ur, ur_n (x := t) (r := m) htm] at z_); exact z_
    refine R_aload_n (pc := 56) 1 dX9_feedBack_56 rfl rfl ?_
    refine R_get (pc := 57) dX9_feedBack_57 fX9_20 S_15.2.2.2.2.1 (by omega) rfl ?_
    refine R_aload_n (pc := 60) 1 dX9_feedBack_60 rfl rfl ?_
    refine R_get (pc := 61) dX9_feedBack_61 fX9_24 S_15.2.2.2.2.1 (by omega) rfl ?_
    refine R_callVh (pc := 64) (μ' := mX0_copy) (As := [.ref 32]) (st := []) dX9_feedBack_64 zX0_copy lX9_40 ⟨by decide, by decide⟩ rfl rfl ⟨by decide, by decide⟩ (S_15.blk 31 rfl) (by omega) rfl (Nat.le_of_ble_eq_true rfl) (S_copy S_15 hn rfl rfl (by decide)) (fun h_17 r_ q_18 => ?_)
    obtain ⟨rfl, S_19, F_21⟩ := q_18
    have S_20 : Sys h_17 (ur ρ m (ρ m ++ (stN (fbS (eK (κ 16)) op (ρ t)) (rd (ρ 6) 0) i).2)) (ub (ub (ub (ub (ub β2 31 ((stN (fbS (eK (κ 16)) op (ρ t)) (rd (ρ 6) 0) i).1)) 33 ((stN (fbS (eK (κ 16)) op (ρ t)) (rd (ρ 6) 0) i).1)) 33 (eK (κ 16) ((stN (fbS (eK (κ 16)) op (ρ t)) (rd (ρ 6) 0) i).1))) 32 (rd (ρ t) (16 * i))) 31 (rd (ρ t) (16 * i))) κ τ := by have z_ := S_19; (try simp only [ur_s, ur_ur, ur_n (x := t) (r := m) htm] at z_); exact z_
    refine R_aload_n (pc := 67) 1 dX9_feedBack_67 rfl rfl ?_
    refine R_get (pc := 68) dX9_feedBack_68 fX9_24 S_20.2.2.2.2.1 (by omega) rfl ?_
    refine R_aload_n (pc := 71) 1 dX9_feedBack_71 rfl rfl ?_
    refine R_get (pc := 72) dX9_feedBack_72 fX9_27 S_20.2.2.2.2.1 (by omega) rfl ?_
    refine R_callVh (pc := 75) (μ' := mX0_add) (As := [.ref 33]) (st := []) dX9_feedBack_75 zX0_add lX9_49 ⟨by decide, by decide⟩ rfl rfl ⟨by decide, by decide⟩ (S_20.blk 32 rfl) (by omega) rfl (Nat.le_of_ble_eq_true rfl) (S_add S_20 hn rfl rfl (by decide)) (fun h_22 r_ q_23 => ?_)
    obtain ⟨rfl, S_24, F_26⟩ := q_23
    have S_25 : Sys h_22 (ur ρ m (ρ m ++ (stN (fbS (eK (κ 16)) op (ρ t)) (rd (ρ 6) 0) i).2)) (ub (ub (ub (ub (ub (ub β2 31 ((stN (fbS (eK (κ 16)) op (ρ t)) (rd (ρ 6) 0) i).1)) 33 ((stN (fbS (eK (κ 16)) op (ρ t)) (rd (ρ 6) 0) i).1)) 33 (eK (κ 16) ((stN (fbS (eK (κ 16)) op (ρ t)) (rd (ρ 6) 0) i).1))) 32 (rd (ρ t) (16 * i))) 31 (rd (ρ t) (16 * i))) 32 (xb (rd (ρ t) (16 * i)) (eK (κ 16) ((stN (fbS (eK (κ 16)) op (ρ t)) (rd (ρ 6) 0) i).1)))) κ τ := by have z_ := S_24; (try simp only [ur_s, ur_ur, ur_n (x := t) (r := m) htm] at z_); exact z_
    refine R_iload_n (pc := 78) 3 dX9_feedBack_78 rfl rfl ?_
    refine R_if_ne (pc := 79) (tgt := 93) dX9_feedBack_79 (by decide) (fun c_27 => ?_) (fun c_27 => ?_)
    · skip
      refine R_aload_n (pc := 93) 4 dX9_feedBack_93 rfl rfl ?_
      refine R_aload_n (pc := 94) 1 dX9_feedBack_94 rfl rfl ?_
      refine R_get (pc := 95) dX9_feedBack_95 fX9_24 S_25.2.2.2.2.1 (by omega) rfl ?_
      refine R_bipush (pc := 98) (v := 16) dX9_feedBack_98 (by decide) ?_
      refine R_aload_n (pc := 100) 2 dX9_feedBack_100 rfl rfl ?_
      have := rw_cases (r := t) ht
      refine R_get (pc := 101) dX9_feedBack_101 fX9_34 (S_25.rowO t ht) (by omega) rfl ?_
      refine R_eqi (y := nI (ρ t).length) (by first | rfl | (simp only [ur_s, ur_ur, ur_n (x := t) (r := m) htm])) ?_
      refine R_iload (pc := 104) 0 dX9_feedBack_104 rfl ?_
      refine R_isub (pc := 106) dX9_feedBack_106 ?_
      refine R_min (pc := 107) dX9_feedBack_107 lX9_52 sM_min nM cM_min (by decide) (Nat.le_of_ble_eq_true rfl) (by decide) (by decide) ?_
      refine R_eqi (y := nI (mnb (ρ t) i)) (mnb_I (by omega) (by omega)) ?_
      refine R_callVh (pc := 110) (μ' := mX6_appendBlock) (As := [.ref 32, .int (nI (mnb (ρ t) i))]) (st := []) dX9_feedBack_110 zX6_appendBlock lX9_58 ⟨by decide, by decide⟩ rfl rfl ⟨by decide, by decide⟩ (S_25.rowO m hm) (by omega) rfl (Nat.le_of_ble_eq_true rfl) (S_appendBlock S_25 hn hm rfl (mnb (ρ t) i) (by simp only [ur_s, List.length_append, stN_lenM (ρ t) (fun _ _ => fbS_len _ _ _ _ _)]; unfold mnb; omega)) (fun h_28 r_ q_29 => ?_)
      obtain ⟨rfl, S_30, F_32⟩ := q_29
      have S_31 : Sys h_28 (ur ρ m ((ρ m ++ (stN (fbS (eK (κ 16)) op (ρ t)) (rd (ρ 6) 0) i).2) ++ bt (xb (rd (ρ t) (16 * i)) (eK (κ 16) ((stN (fbS (eK (κ 16)) op (ρ t)) (rd (ρ 6) 0) i).1))) (mnb (ρ t) i))) (ub (ub (ub (ub (ub (ub β2 31 ((stN (fbS (eK (κ 16)) op (ρ t)) (rd (ρ 6) 0) i).1)) 33 ((stN (fbS (eK (κ 16)) op (ρ t)) (rd (ρ 6) 0) i).1)) 33 (eK (κ 16) ((stN (fbS (eK (κ 16)) op (ρ t)) (rd (ρ 6) 0) i).1))) 32 (rd (ρ t) (16 * i))) 31 (rd (ρ t) (16 * i))) 32 (xb (rd (ρ t) (16 * i)) (eK (κ 16) ((stN (fbS (eK (κ 16)) op (ρ t)) (rd (ρ 6) 0) i).1)))) κ τ := by have z_ := S_30; (try simp only [ur_s, ur_ur, ur_n (x := t) (r := m) htm] at z_); exact z_
      refine R_iinc (pc := 113) (j := 0) (v := nI (16 * (i + 1))) (lv' := [(4, .int (nI (16 * (i + 1)))), (0, .ref 30), (1, .ref t), (2, .int op), (3, .ref m)]) dX9_feedBack_113 rfl (nI_add (16 * i) 16) (by decide) rfl ?_
      refine R_goto (pc := 116) (tgt := 15) dX9_feedBack_116 (by decide) ?_
      refine R_sub [0, 1, 2, 3, 4] rfl ?_
      refine ih (i + 1) (by omega) h_28 (ub (ub (ub (ub (ub (ub β2 31 ((stN (fbS (eK (κ 16)) op (ρ t)) (rd (ρ 6) 0) i).1)) 33 ((stN (fbS (eK (κ 16)) op (ρ t)) (rd (ρ 6) 0) i).1)) 33 (eK (κ 16) ((stN (fbS (eK (κ 16)) op (ρ t)) (rd (ρ 6) 0) i).1))) 32 (rd (ρ t) (16 * i))) 31 (rd (ρ t) (16 * i))) 32 (xb (rd (ρ t) (16 * i)) (eK (κ 16) ((stN (fbS (eK (κ 16)) op (ρ t)) (rd (ρ 6) 0) i).1)))) (by have z_ := S_31; rw [List.append_assoc] at z_; exact z_) (by show _ = (fbS (eK (κ 16)) op (ρ t) i (stN (fbS (eK (κ 16)) op (ρ t)) (rd (ρ 6) 0) i).1).1; unfold fbS; dsimp only; rw [if_neg c_27]; rfl) (fun a_ n_ => ?_) (hF.tr (((((F_6.tr F_11).tr F_16).tr F_21).tr F_26).tr F_32))
      have q_ := hB a_ n_; simp only [List.mem_cons, List.not_mem_nil, or_false, not_or] at n_; simp only [ub, if_neg, n_, if_false]; exact q_
    · skip
      refine R_aload_n (pc := 82) 1 dX9_feedBack_82 rfl rfl ?_
      refine R_get (pc := 83) dX9_feedBack_83 fX9_20 S_25.2.2.2.2.1 (by omega) rfl ?_
      refine R_aload_n (pc := 86) 1 dX9_feedBack_86 rfl rfl ?_
      refine R_get (pc := 87) dX9_feedBack_87 fX9_24 S_25.2.2.2.2.1 (by omega) rfl ?_
      refine R_callVh (pc := 90) (μ' := mX0_copy) (As := [.ref 32]) (st := []) dX9_feedBack_90 zX0_copy lX9_40 ⟨by decide, by decide⟩ rfl rfl ⟨by decide, by decide⟩ (S_25.blk 31 rfl) (by omega) rfl (Nat.le_of_ble_eq_true rfl) (S_copy S_25 hn rfl rfl (by decide)) (fun h_33 r_ q_34 => ?_)
      obtain ⟨rfl, S_35, F_37⟩ := q_34
      have S_36 : Sys h_33 (ur ρ m (ρ m ++ (stN (fbS (eK (κ 16)) op (ρ t)) (rd (ρ 6) 0) i).2)) (ub (ub (ub (ub (ub (ub (ub β2 31 ((stN (fbS (eK (κ 16)) op (ρ t)) (rd (ρ 6) 0) i).1)) 33 ((stN (fbS (eK (κ 16)) op (ρ t)) (rd (ρ 6) 0) i).1)) 33 (eK (κ 16) ((stN (fbS (eK (κ 16)) op (ρ t)) (rd (ρ 6) 0) i).1))) 32 (rd (ρ t) (16 * i))) 31 (rd (ρ t) (16 * i))) 32 (xb (rd (ρ t) (16 * i)) (eK (κ 16) ((stN (fbS (eK (κ 16)) op (ρ t)) (rd (ρ 6) 0) i).1)))) 31 (xb (rd (ρ t) (16 * i)) (eK (κ 16) ((stN (fbS (eK (κ 16)) op (ρ t)) (rd (ρ 6) 0) i).1)))) κ τ := by have z_ := S_35; (try simp only [ur_s, ur_ur, ur_n (x := t) (r := m) htm] at z_); exact z_
      refine R_aload_n (pc := 93) 4 dX9_feedBack_93 rfl rfl ?_
      refine R_aload_n (pc := 94) 1 dX9_feedBack_94 rfl rfl ?_
      refine R_get (pc := 95) dX9_feedBack_95 fX9_24 S_36.2.2.2.2.1 (by omega) rfl ?_
      refine R_bipush (pc := 98) (v := 16) dX9_feedBack_98 (by decide) ?_
      refine R_aload_n (pc := 100) 2 dX9_feedBack_100 rfl rfl ?_
      have := rw_cases (r := t) ht
      refine R_get (pc := 101) dX9_feedBack_101 fX9_34 (S_36.rowO t ht) (by omega) rfl ?_
      refine R_eqi (y := nI (ρ t).length) (by first | rfl | (simp only [ur_s, ur_ur, ur_n (x := t) (r := m) htm])) ?_
      refine R_iload (pc := 104) 0 dX9_feedBack_104 rfl ?_
      refine R_isub (pc := 106) dX9_feedBack_106 ?_
      refine R_min (pc := 107) dX9_feedBack_107 lX9_52 sM_min nM cM_min (by decide) (Nat.le_of_ble_eq_true rfl) (by decide) (by decide) ?_
      refine R_eqi (y := nI (mnb (ρ t) i)) (mnb_I (by omega) (by omega)) ?_
      refine R_callVh (pc := 110) (μ' := mX6_appendBlock) (As := [.ref 32, .int (nI (mnb (ρ t) i))]) (st := []) dX9_feedBack_110 zX6_appendBlock lX9_58 ⟨by decide, by decide⟩ rfl rfl ⟨by decide, by decide⟩ (S_36.rowO m hm) (by omega) rfl (Nat.le_of_ble_eq_true rfl) (S_appendBlock S_36 hn hm rfl (mnb (ρ t) i) (by simp only [ur_s, List.length_append, stN_lenM (ρ t) (fun _ _ => fbS_len _ _ _ _ _)]; unfold mnb; omega)) (fun h_38 r_ q_39 => ?_)
      obtain ⟨rfl, S_40, F_42⟩ := q_39
      have S_41 : Sys h_38 (ur ρ m ((ρ m ++ (stN (fbS (eK (κ 16)) op (ρ t)) (rd (ρ 6) 0) i).2) ++ bt (xb (rd (ρ t) (16 * i)) (eK (κ 16) ((stN (fbS (eK (κ 16)) op (ρ t)) (rd (ρ 6) 0) i).1))) (mnb (ρ t) i))) (ub (ub (ub (ub (ub (ub (ub β2 31 ((stN (fbS (eK (κ 16)) op (ρ t)) (rd (ρ 6) 0) i).1)) 33 ((stN (fbS (eK (κ 16)) op (ρ t)) (rd (ρ 6) 0) i).1)) 33 (eK (κ 16) ((stN (fbS (eK (κ 16)) op (ρ t)) (rd (ρ 6) 0) i).1))) 32 (rd (ρ t) (16 * i))) 31 (rd (ρ t) (16 * i))) 32 (xb (rd (ρ t) (16 * i)) (eK (κ 16) ((stN (fbS (eK (κ 16)) op (ρ t)) (rd (ρ 6) 0) i).1)))) 31 (xb (rd (ρ t) (16 * i)) (eK (κ 16) ((stN (fbS (eK (κ 16)) op (ρ t)) (rd (ρ 6) 0) i).1)))) κ τ := by have z_ := S_40; (try simp only [ur_s, ur_ur, ur_n (x := t) (r := m) htm] at z_); exact z_
      refine R_iinc (pc := 113) (j := 0) (v := nI (16 * (i + 1))) (lv' := [(4, .int (nI (16 * (i + 1)))), (0, .ref 30), (1, .ref t), (2, .int op), (3, .ref m)]) dX9_feedBack_113 rfl (nI_add (16 * i) 16) (by decide) rfl ?_
      refine R_goto (pc := 116) (tgt := 15) dX9_feedBack_116 (by decide) ?_
      refine R_sub [0, 1, 2, 3, 4] rfl ?_
      refine ih (i + 1) (by omega) h_38 (ub (ub (ub (ub (ub (ub (ub β2 31 ((stN (fbS (eK (κ 16)) op (ρ t)) (rd (ρ 6) 0) i).1)) 33 ((stN (fbS (eK (κ 16)) op (ρ t)) (rd (ρ 6) 0) i).1)) 33 (eK (κ 16) ((stN (fbS (eK (κ 16)) op (ρ t)) (rd (ρ 6) 0) i).1))) 32 (rd (ρ t) (16 * i))) 31 (rd (ρ t) (16 * i))) 32 (xb (rd (ρ t) (16 * i)) (eK (κ 16) ((stN (fbS (eK (κ 16)) op (ρ t)) (rd (ρ 6) 0) i).1)))) 31 (xb (rd (ρ t) (16 * i)) (eK (κ 16) ((stN (fbS (eK (κ 16)) op (ρ t)) (rd (ρ 6) 0) i).1)))) (by have z_ := S_41; rw [List.append_assoc] at z_; exact z_) (by show _ = (fbS (eK (κ 16)) op (ρ t) i (stN (fbS (eK (κ 16)) op (ρ t)) (rd (ρ 6) 0) i).1).1; unfold fbS; dsimp only; rw [if_pos c_27]; rfl) (fun a_ n_ => ?_) (hF.tr ((((((F_6.tr F_11).tr F_16).tr F_21).tr F_26).tr F_37).tr F_42))
      have q_ := hB a_ n_; simp only [List.mem_cons, List.not_mem_nil, or_false, not_or] at n_; simp only [ub, if_neg, n_, if_false]; exact q_
set_option maxHeartbeats 4000000 in
set_option maxRecDepth 100000 in
theorem qX9_feedBack {l : Launch} {w : am_W} {h : am_H} {n : Nat} {ρ : Nat → List (BitVec 8)} {β : Nat → bP} {κ : Nat → kT} {τ : Nat × Nat × Nat} (S : Sys h ρ β κ τ) (hn : 60 ≤ n) {t m : Nat} (ht : isRw t = true) (hm : isRw m = true) (htm : t ≠ m) (op : Int32) (hk : kOk (κ 16)) (hr : (ρ m).length + (ρ t).length ≤ rwN m) : RH l w mX9_feedBack h n [.ref 30, .ref t, .int op, .ref m] (SX h τ none (ur ρ m (ρ m ++ (stN (fbS (eK (κ 16)) op (ρ t)) (rd (ρ 6) 0) (nbk (ρ t))).2)) β κ [31, 32, 33]) := by
  refine RC.of [(0, .ref 30), (1, .ref t), (2, .int op), (3, .ref m)] (by decide +kernel) rfl (Nat.le_of_ble_eq_true rfl) ?_
  refine R_aload_n (pc := 0) 0 dX9_feedBack_0 rfl rfl ?_
  refine R_get (pc := 1) dX9_feedBack_1 fX9_20 S.2.2.2.2.1 (by omega) rfl ?_
  refine R_aload_n (pc := 4) 0 dX9_feedBack_4 rfl rfl ?_
  refine R_get (pc := 5) dX9_feedBack_5 fX9_13 S.2.2.2.2.1 (by omega) rfl ?_
  refine R_iconst (pc := 8) (v := 0) dX9_feedBack_8 (by decide) ?_
  refine R_callVh (pc := 9) (μ' := mX0_read) (As := [.ref 6, .int (nI 0)]) (st := []) dX9_feedBack_9 zX0_read lX9_30 ⟨by decide, by decide⟩ rfl rfl ⟨by decide, by decide⟩ (S.blk 31 rfl) (by omega) rfl (Nat.le_of_ble_eq_true rfl) (S_read S hn rfl rfl 0 (by omega)) (fun h_1 r_ q_2 => ?_)
  obtain ⟨rfl, S_3, F_5⟩ := q_2
  have S_4 : Sys h_1 ρ (ub β 31 (rd (ρ 6) 0)) κ τ := S_3
  refine R_iconst (pc := 12) (v := 0) dX9_feedBack_12 (by decide) ?_
  refine R_istore (pc := 13) (lv' := [(4, .int 0), (0, .ref 30), (1, .ref t), (2, .int op), (3, .ref m)]) dX9_feedBack_13 (by decide) rfl ?_
  refine R_sub [0, 1, 2, 3, 4] rfl ?_
  refine qX9_feedBack_loop S hn ht hm htm op hk hr (nbk (ρ t)) 0 (by omega) h_1 (ub β 31 (rd (ρ 6) 0)) (by have e_ : ρ m ++ (stN (fbS (eK (κ 16)) op (ρ t)) (rd (ρ 6) 0) 0).2 = ρ m := List.append_nil _; rw [e_, ur_id]; exact S_4) rfl (fun a_ n_ => ?_) F_5
  simp only [List.mem_cons, List.not_mem_nil, or_false, not_or] at n_; simp only [ub, if_neg, n_, if_false]
set_option maxHeartbeats 4000000 in
set_option maxRecDepth 100000 in
theorem qX9_turnOver_loop {l : Launch} {w : am_W} {h : am_H} {n : Nat} {ρ : Nat → List (BitVec 8)} {β : Nat → bP} {κ : Nat → kT} {τ : Nat × Nat × Nat} (S : Sys h ρ β κ τ) (hn : 60 ≤ n) {t m : Nat} (ht : isRw t = true) (hm : isRw m = true) (htm : t ≠ m) (hk : kOk (κ 16)) (hr : (ρ m).length + (ρ t).length ≤ rwN m) : ∀ (d i : Nat), i + d = nbk (ρ t) → ∀ h2 β2, Sys h2 (ur ρ m (ρ m ++ (stN (toS (eK (κ 16)) (ρ t)) (rd (ρ 6) 0) i).2)) β2 κ τ → β2 31 = (stN (toS (eK (κ 16)) (ρ t)) (rd (ρ 6) 0) i).1 → (∀ a, a ∉ [31, 32, 33] → β2 a = β a) → Fr h h2 → RW l w mX9_turnOver h2 n 0 0 14 [(3, .int (nI (16 * i))), (0, .ref 30), (1, .ref t), (2, .ref m)] [] (fun h' n' r_ => n' = n ∧ (SX h τ none (ur ρ m (ρ m ++ (stN (toS (eK (κ 16)) (ρ t)) (rd (ρ 6) 0) (nbk (ρ t))).2)) β κ [31, 32, 33]) h' r_) := by
  have hlt := S.len t ht
  have hlm := S.len m hm
  have hnb := nbk_b (ρ t)
  have htc := rw_cases ht
  have hmc := rw_cases hm
  intro d
  induction d with
  | zero =>
    intro i hd h2 β2 S2 hv hB hF
    have S3 : Sys h2 (ur ρ m (ρ m ++ (stN (toS (eK (κ 16)) (ρ t)) (rd (ρ 6) 0) i).2)) (ub β2 31 (stN (toS (eK (κ 16)) (ρ t)) (rd (ρ 6) 0) i).1) κ τ := Sys.know S2 hv
    refine R_iload_n (pc := 14) 0 dX9_turnOver_14 rfl rfl ?_
    refine R_aload_n (pc := 15) 2 dX9_turnOver_15 rfl rfl ?_
    have := rw_cases (r := t) ht
    refine R_get (pc := 16) dX9_turnOver_16 fX9_34 (S3.rowO t ht) (by omega) rfl ?_
    refine R_eqi (y := nI (ρ t).length) (by first | rfl | (simp only [ur_s, ur_ur, ur_n (x := t) (r := m) htm])) ?_
    refine R_icmp_ge (pc := 19) (tgt := 78) dX9_turnOver_19 (by decide) (fun c_1 => ?_) (fun c_1 => absurd (nI_le (by omega) (by omega)) c_1)
    exact R_vreturn (pc := 78) dX9_turnOver_78 rfl (by decide) (by decide) ⟨rfl, β2, hB, rfl, by have z_ := S2; rw [show i = nbk (ρ t) by omega] at z_; exact z_, hF⟩
  | succ d ih =>
    intro i hd h2 β2 S2 hv hB hF
    have S3 : Sys h2 (ur ρ m (ρ m ++ (stN (toS (eK (κ 16)) (ρ t)) (rd (ρ 6) 0) i).2)) (ub β2 31 (stN (toS (eK (κ 16)) (ρ t)) (rd (ρ 6) 0) i).1) κ τ := Sys.know S2 hv
    refine R_iload_n (pc := 14) 0 dX9_turnOver_14 rfl rfl ?_
    refine R_aload_n (pc := 15) 2 dX9_turnOver_15 rfl rfl ?_
    have := rw_cases (r := t) ht
    refine R_get (pc := 16) dX9_turnOver_16 fX9_34 (S3.rowO t ht) (by omega) rfl ?_
    refine R_eqi (y := nI (ρ t).length) (by first | rfl | (simp only [ur_s, ur_ur, ur_n (x := t) (r := m) htm])) ?_
    refine R_icmp_ge (pc := 19) (tgt := 78) dX9_turnOver_19 (by decide) (fun c_1 => absurd c_1 (nI_ge (by omega) (by omega))) (fun c_1 => ?_)
    refine R_aload_n (pc := 22) 1 dX9_turnOver_22 rfl rfl ?_
    refine R_get (pc := 23) dX9_turnOver_23 fX9_7 S3.2.2.2.2.1 (by omega) rfl ?_
    refine R_aload_n (pc := 26) 1 dX9_turnOver_26 rfl rfl ?_
    refine R_get (pc := 27) dX9_turnOver_27 fX9_20 S3.2.2.2.2.1 (by omega) rfl ?_
    refine R_callVh (pc := 30) (μ' := mX2_encrypt) (As := [.ref 31]) (st := []) dX9_turnOver_30 zX2_encrypt lX9_44 ⟨by decide, by decide⟩ rfl rfl ⟨by decide, by decide⟩ (S3.2.2.1 16 (by decide)).1 (by omega) rfl (Nat.le_of_ble_eq_true rfl) (S_encrypt S3 hn (by decide) rfl hk.1 hk.2) (fun h_2 r_ q_3 => ?_)
    obtain ⟨rfl, S_4, F_6⟩ := q_3
    have S_5 : Sys h_2 (ur ρ m (ρ m ++ (stN (toS (eK (κ 16)) (ρ t)) (rd (ρ 6) 0) i).2)) (ub (ub β2 31 ((stN (toS (eK (κ 16)) (ρ t)) (rd (ρ 6) 0) i).1)) 31 (eK (κ 16) ((stN (toS (eK (κ 16)) (ρ t)) (rd (ρ 6) 0) i).1))) κ τ := by have z_ := S_4; (try simp only [ur_s, ur_ur, ur_n (x := t) (r := m) htm] at z_); exact z_
    refine R_aload_n (pc := 33) 1 dX9_turnOver_33 rfl rfl ?_
    refine R_get (pc := 34) dX9_turnOver_34 fX9_24 S_5.2.2.2.2.1 (by omega) rfl ?_
    refine R_aload_n (pc := 37) 2 dX9_turnOver_37 rfl rfl ?_
    refine R_iload_n (pc := 38) 0 dX9_turnOver_38 rfl rfl ?_
    refine R_callVh (pc := 39) (μ' := mX0_read) (As := [.ref t, .int (nI (16 * i))]) (st := []) dX9_turnOver_39 zX0_read lX9_30 ⟨by decide, by decide⟩ rfl rfl ⟨by decide, by decide⟩ (S_5.blk 32 rfl) (by omega) rfl (Nat.le_of_ble_eq_true rfl) (S_read S_5 hn rfl ht (16 * i) (by omega)) (fun h_7 r_ q_8 => ?_)
    obtain ⟨rfl, S_9, F_11⟩ := q_8
    have S_10 : Sys h_7 (ur ρ m (ρ m ++ (stN (toS (eK (κ 16)) (ρ t)) (rd (ρ 6) 0) i).2)) (ub (ub (ub β2 31 ((stN (toS (eK (κ 16)) (ρ t)) (rd (ρ 6) 0) i).1)) 31 (eK (κ 16) ((stN (toS (eK (κ 16)) (ρ t)) (rd (ρ 6) 0) i).1))) 32 (rd (ρ t) (16 * i))) κ τ := by have z_ := S_9; (try simp only [ur_s, ur_ur, ur_n (x := t) (r := m) htm] at z_); exact z_
    refine R_aload_n (pc := 42) 1 dX9_turnOver_42 rfl rfl ?_
    refine R_get (pc := 43) dX9_turnOver_43 fX9_24 S_10.2.2.2.2.1 (by omega) rfl ?_
    refine R_aload_n (pc := 46) 1 dX9_turnOver_46 rfl rfl ?_
    refine R_get (pc := 47) dX9_turnOver_47 fX9_20 S_10.2.2.2.2.1 (by omega) rfl ?_
    refine R_callVh (pc := 50) (μ' := mX0_add) (As := [.ref 31]) (st := []) dX9_turnOver_50 zX0_add lX9_49 ⟨by decide, by decide⟩ rfl rfl ⟨by decide, by decide⟩ (S_10.blk 32 rfl) (by omega) rfl (Nat.le_of_ble_eq_true rfl) (S_add S_10 hn rfl rfl (by decide)) (fun h_12 r_ q_13 => ?_)
    obtain ⟨rfl, S_14, F_16⟩ := q_13
    have S_15 : Sys h_12 (ur ρ m (ρ m ++ (stN (toS (eK (κ 16)) (ρ t)) (rd (ρ 6) 0) i).2)) (ub (ub (ub (ub β2 31 ((stN (toS (eK (κ 16)) (ρ t)) (rd (ρ 6) 0) i).1)) 31 (eK (κ 16) ((stN (toS (eK (κ 16)) (ρ t)) (rd (ρ 6) 0) i).1))) 32 (rd (ρ t) (16 * i))) 32 (xb (rd (ρ t) (16 * i)) (eK (κ 16) ((stN (toS (eK (κ 16)) (ρ t)) (rd (ρ 6) 0) i).1)))) κ τ := by have z_ := S_14; (try simp only [ur_s, ur_ur, ur_n (x := t) (r := m) htm] at z_); exact z_
    refine R_aload_n (pc := 53) 3 dX9_turnOver_53 rfl rfl ?_
    refine R_aload_n (pc := 54) 1 dX9_turnOver_54 rfl rfl ?_
    refine R_get (pc := 55) dX9_turnOver_55 fX9_24 S_15.2.2.2.2.1 (by omega) rfl ?_
    refine R_bipush (pc := 58) (v := 16) dX9_turnOver_58 (by decide) ?_
    refine R_aload_n (pc := 60) 2 dX9_turnOver_60 rfl rfl ?_
    have := rw_cases (r := t) ht
    refine R_get (pc := 61) dX9_turnOver_61 fX9_34 (S_15.rowO t ht) (by omega) rfl ?_
    refine R_eqi (y := nI (ρ t).length) (by first | rfl | (simp only [ur_s, ur_ur, ur_n (x := t) (r := m) htm])) ?_
    refine R_iload_n (pc := 64) 0 dX9_turnOver_64 rfl rfl ?_
    refine R_isub (pc := 65) dX9_turnOver_65 ?_
    refine R_min (pc := 66) dX9_turnOver_66 lX9_52 sM_min nM cM_min (by decide) (Nat.le_of_ble_eq_true rfl) (by decide) (by decide) ?_
    refine R_eqi (y := nI (mnb (ρ t) i)) (mnb_I (by omega) (by omega)) ?_
    refine R_callVh (pc := 69) (μ' := mX6_appendBlock) (As := [.ref 32, .int (nI (mnb (ρ t) i))]) (st := []) dX9_turnOver_69 zX6_appendBlock lX9_58 ⟨by decide, by decide⟩ rfl rfl ⟨by decide, by decide⟩ (S_15.rowO m hm) (by omega) rfl (Nat.le_of_ble_eq_true rfl) (S_appendBlock S_15 hn hm rfl (mnb (ρ t) i) (by simp only [ur_s, List.length_append, stN_lenM (ρ t) (fun _ _ => toS_len _ _ _ _)]; unfold mnb; omega)) (fun h_17 r_ q_18 => ?_)
    obtain ⟨rfl, S_19, F_21⟩ := q_18
    have S_20 : Sys h_17 (ur ρ m ((ρ m ++ (stN (toS (eK (κ 16)) (ρ t)) (rd (ρ 6) 0) i).2) ++ bt (xb (rd (ρ t) (16 * i)) (eK (κ 16) ((stN (toS (eK (κ 16)) (ρ t)) (rd (ρ 6) 0) i).1))) (mnb (ρ t) i))) (ub (ub (ub (ub β2 31 ((stN (toS (eK (κ 16)) (ρ t)) (rd (ρ 6) 0) i).1)) 31 (eK (κ 16) ((stN (toS (eK (κ 16)) (ρ t)) (rd (ρ 6) 0) i).1))) 32 (rd (ρ t) (16 * i))) 32 (xb (rd (ρ t) (16 * i)) (eK (κ 16) ((stN (toS (eK (κ 16)) (ρ t)) (rd (ρ 6) 0) i).1)))) κ τ := by have z_ := S_19; (try simp only [ur_s, ur_ur, ur_n (x := t) (r := m) htm] at z_); exact z_
    refine R_iinc (pc := 72) (j := 0) (v := nI (16 * (i + 1))) (lv' := [(3, .int (nI (16 * (i + 1)))), (0, .ref 30), (1, .ref t), (2, .ref m)]) dX9_turnOver_72 rfl (nI_add (16 * i) 16) (by decide) rfl ?_
    refine R_goto (pc := 75) (tgt := 14) dX9_turnOver_75 (by decide) ?_
    refine R_sub [0, 1, 2, 3] rfl ?_
    refine ih (i + 1) (by omega) h_17 (ub (ub (ub (ub β2 31 ((stN (toS (eK (κ 16)) (ρ t)) (rd (ρ 6) 0) i).1)) 31 (eK (κ 16) ((stN (toS (eK (κ 16)) (ρ t)) (rd (ρ 6) 0) i).1))) 32 (rd (ρ t) (16 * i))) 32 (xb (rd (ρ t) (16 * i)) (eK (κ 16) ((stN (toS (eK (κ 16)) (ρ t)) (rd (ρ 6) 0) i).1)))) (by have z_ := S_20; rw [List.append_assoc] at z_; exact z_) rfl (fun a_ n_ => ?_) (hF.tr (((F_6.tr F_11).tr F_16).tr F_21))
    have q_ := hB a_ n_; simp only [List.mem_cons, List.not_mem_nil, or_false, not_or] at n_; simp only [ub, if_neg, n_, if_false]; exact q_
set_option maxHeartbeats 4000000 in
set_option maxRecDepth 100000 in
theorem qX9_turnOver {l : Launch} {w : am_W} {h : am_H} {n : Nat} {ρ : Nat → List (BitVec 8)} {β : Nat → bP} {κ : Nat → kT} {τ : Nat × Nat × Nat} (S : Sys h ρ β κ τ) (hn : 60 ≤ n) {t m : Nat} (ht : isRw t = true) (hm : isRw m = true) (htm : t ≠ m) (hk : kOk (κ 16)) (hr : (ρ m).length + (ρ t).length ≤ rwN m) : RH l w mX9_turnOver h n [.ref 30, .ref t, .ref m] (SX h τ none (ur ρ m (ρ m ++ (stN (toS (eK (κ 16)) (ρ t)) (rd (ρ 6) 0) (nbk (ρ t))).2)) β κ [31, 32, 33]) := by
  refine RC.of [(0, .ref 30), (1, .ref t), (2, .ref m)] (by decide +kernel) rfl (Nat.le_of_ble_eq_true rfl) ?_
  refine R_aload_n (pc := 0) 0 dX9_turnOver_0 rfl rfl ?_
  refine R_get (pc := 1) dX9_turnOver_1 fX9_20 S.2.2.2.2.1 (by omega) rfl ?_
  refine R_aload_n (pc := 4) 0 dX9_turnOver_4 rfl rfl ?_
  refine R_get (pc := 5) dX9_turnOver_5 fX9_13 S.2.2.2.2.1 (by omega) rfl ?_
  refine R_iconst (pc := 8) (v := 0) dX9_turnOver_8 (by decide) ?_
  refine R_callVh (pc := 9) (μ' := mX0_read) (As := [.ref 6, .int (nI 0)]) (st := []) dX9_turnOver_9 zX0_read lX9_30 ⟨by decide, by decide⟩ rfl rfl ⟨by decide, by decide⟩ (S.blk 31 rfl) (by omega) rfl (Nat.le_of_ble_eq_true rfl) (S_read S hn rfl rfl 0 (by omega)) (fun h_1 r_ q_2 => ?_)
  obtain ⟨rfl, S_3, F_5⟩ := q_2
  have S_4 : Sys h_1 ρ (ub β 31 (rd (ρ 6) 0)) κ τ := S_3
  refine R_iconst (pc := 12) (v := 0) dX9_turnOver_12 (by decide) ?_
  refine R_istore_n (pc := 13) (lv' := [(3, .int 0), (0, .ref 30), (1, .ref t), (2, .ref m)]) dX9_turnOver_13 rfl (by decide) rfl ?_
  refine R_sub [0, 1, 2, 3] rfl ?_
  refine qX9_turnOver_loop S hn ht hm htm hk hr (nbk (ρ t)) 0 (by omega) h_1 (ub β 31 (rd (ρ 6) 0)) (by have e_ : ρ m ++ (stN (toS (eK (κ 16)) (ρ t)) (rd (ρ 6) 0) 0).2 = ρ m := List.append_nil _; rw [e_, ur_id]; exact S_4) rfl (fun a_ n_ => ?_) F_5
  simp only [List.mem_cons, List.not_mem_nil, or_false, not_or] at n_; simp only [ub, if_neg, n_, if_false]
set_option maxHeartbeats 4000000 in
set_option maxRecDepth 100000 in
theorem qX9_count_loop {l : Launch} {w : am_W} {h : am_H} {n : Nat} {ρ : Nat → List (BitVec 8)} {β : Nat → bP} {κ : Nat → kT} {τ : Nat × Nat × Nat} (S : Sys h ρ β κ τ) (hn : 60 ≤ n) {t m : Nat} (ht : isRw t = true) (hm : isRw m = true) (htm : t ≠ m) {c b : Nat} (hc : c = 16 ∨ c = 20) (hb : isBk b = true) (hb31 : b ≠ 31) (hk : kOk (κ c)) (hr : (ρ m).length + (ρ t).length ≤ rwN m) : ∀ (d i : Nat), i + d = nbk (ρ t) → ∀ h2 β2, Sys h2 (ur ρ m (ρ m ++ (stN (ctS (eK (κ c)) (ρ t)) (β b) i).2)) β2 κ τ → β2 31 = (stN (ctS (eK (κ c)) (ρ t)) (β b) i).1 → (∀ a, a ∉ [31, 32, 33] → β2 a = β a) → Fr h h2 → RW l w mX9_count h2 n 0 0 11 [(5, .int (nI (16 * i))), (0, .ref 30), (1, .ref c), (2, .ref b), (3, .ref t), (4, .ref m)] [] (fun h' n' r_ => n' = n ∧ (SX h τ none (ur ρ m (ρ m ++ (stN (ctS (eK (κ c)) (ρ t)) (β b) (nbk (ρ t))).2)) β κ [31, 32, 33]) h' r_) := by
  have hlt := S.len t ht
  have hlm := S.len m hm
  have hnb := nbk_b (ρ t)
  have htc := rw_cases ht
  have hmc := rw_cases hm
  intro d
  induction d with
  | zero =>
    intro i hd h2 β2 S2 hv hB hF
    have S3 : Sys h2 (ur ρ m (ρ m ++ (stN (ctS (eK (κ c)) (ρ t)) (β b) i).2)) (ub β2 31 (stN (ctS (eK (κ c)) (ρ t)) (β b) i).1) κ τ := Sys.know S2 hv
    refine R_iload (pc := 11) 0 dX9_count_11 rfl ?_
    refine R_aload_n (pc := 13) 4 dX9_count_13 rfl rfl ?_
    have := rw_cases (r := t) ht
    refine R_get (pc := 14) dX9_count_14 fX9_34 (S3.rowO t ht) (by omega) rfl ?_
    refine R_eqi (y := nI (ρ t).length) (by first | rfl | (simp only [ur_s, ur_ur, ur_n (x := t) (r := m) htm])) ?_
    refine R_icmp_ge (pc := 17) (tgt := 94) dX9_count_17 (by decide) (fun c_1 => ?_) (fun c_1 => absurd (nI_le (by omega) (by omega)) c_1)
    exact R_vreturn (pc := 94) dX9_count_94 rfl (by decide) (by decide) ⟨rfl, β2, hB, rfl, by have z_ := S2; rw [show i = nbk (ρ t) by omega] at z_; exact z_, hF⟩
  | succ d ih =>
    intro i hd h2 β2 S2 hv hB hF
    have S3 : Sys h2 (ur ρ m (ρ m ++ (stN (ctS (eK (κ c)) (ρ t)) (β b) i).2)) (ub β2 31 (stN (ctS (eK (κ c)) (ρ t)) (β b) i).1) κ τ := Sys.know S2 hv
    refine R_iload (pc := 11) 0 dX9_count_11 rfl ?_
    refine R_aload_n (pc := 13) 4 dX9_count_13 rfl rfl ?_
    have := rw_cases (r := t) ht
    refine R_get (pc := 14) dX9_count_14 fX9_34 (S3.rowO t ht) (by omega) rfl ?_
    refine R_eqi (y := nI (ρ t).length) (by first | rfl | (simp only [ur_s, ur_ur, ur_n (x := t) (r := m) htm])) ?_
    refine R_icmp_ge (pc := 17) (tgt := 94) dX9_count_17 (by decide) (fun c_1 => absurd c_1 (nI_ge (by omega) (by omega))) (fun c_1 => ?_)
    refine R_aload_n (pc := 20) 1 dX9_count_20 rfl rfl ?_
    refine R_get (pc := 21) dX9_count_21 fX9_27 S3.2.2.2.2.1 (by omega) rfl ?_
    refine R_aload_n (pc := 24) 1 dX9_count_24 rfl rfl ?_
    refine R_get (pc := 25) dX9_count_25 fX9_20 S3.2.2.2.2.1 (by omega) rfl ?_
    refine R_callVh (pc := 28) (μ' := mX0_copy) (As := [.ref 31]) (st := []) dX9_count_28 zX0_copy lX9_40 ⟨by decide, by decide⟩ rfl rfl ⟨by decide, by decide⟩ (S3.blk 33 rfl) (by omega) rfl (Nat.le_of_ble_eq_true rfl) (S_copy S3 hn rfl rfl (by decide)) (fun h_2 r_ q_3 => ?_)
    obtain ⟨rfl, S_4, F_6⟩ := q_3
    have S_5 : Sys h_2 (ur ρ m (ρ m ++ (stN (ctS (eK (κ c)) (ρ t)) (β b) i).2)) (ub (ub β2 31 ((stN (ctS (eK (κ c)) (ρ t)) (β b) i).1)) 33 ((stN (ctS (eK (κ c)) (ρ t)) (β b) i).1)) κ τ := S_4
    refine R_aload_n (pc := 31) 2 dX9_count_31 rfl rfl ?_
    refine R_aload_n (pc := 32) 1 dX9_count_32 rfl rfl ?_
    refine R_get (pc := 33) dX9_count_33 fX9_27 S_5.2.2.2.2.1 (by omega) rfl ?_
    refine R_callVh (pc := 36) (μ' := mX2_encrypt) (As := [.ref 33]) (st := []) dX9_count_36 zX2_encrypt lX9_44 ⟨by decide, by decide⟩ rfl rfl ⟨by decide, by decide⟩ (S_5.2.2.1 c hc).1 (by omega) rfl (Nat.le_of_ble_eq_true rfl) (S_encrypt S_5 hn hc rfl hk.1 hk.2) (fun h_7 r_ q_8 => ?_)
    obtain ⟨rfl, S_9, F_11⟩ := q_8
    have S_10 : Sys h_7 (ur ρ m (ρ m ++ (stN (ctS (eK (κ c)) (ρ t)) (β b) i).2)) (ub (ub (ub β2 31 ((stN (ctS (eK (κ c)) (ρ t)) (β b) i).1)) 33 ((stN (ctS (eK (κ c)) (ρ t)) (β b) i).1)) 33 (eK (κ c) ((stN (ctS (eK (κ c)) (ρ t)) (β b) i).1))) κ τ := S_9
    refine R_aload_n (pc := 39) 1 dX9_count_39 rfl rfl ?_
    refine R_get (pc := 40) dX9_count_40 fX9_24 S_10.2.2.2.2.1 (by omega) rfl ?_
    refine R_aload_n (pc := 43) 4 dX9_count_43 rfl rfl ?_
    refine R_iload (pc := 44) 0 dX9_count_44 rfl ?_
    refine R_callVh (pc := 46) (μ' := mX0_read) (As := [.ref t, .int (nI (16 * i))]) (st := []) dX9_count_46 zX0_read lX9_30 ⟨by decide, by decide⟩ rfl rfl ⟨by decide, by decide⟩ (S_10.blk 32 rfl) (by omega) rfl (Nat.le_of_ble_eq_true rfl) (S_read S_10 hn rfl ht (16 * i) (by omega)) (fun h_12 r_ q_13 => ?_)
    obtain ⟨rfl, S_14, F_16⟩ := q_13
    have S_15 : Sys h_12 (ur ρ m (ρ m ++ (stN (ctS (eK (κ c)) (ρ t)) (β b) i).2)) (ub (ub (ub (ub β2 31 ((stN (ctS (eK (κ c)) (ρ t)) (β b) i).1)) 33 ((stN (ctS (eK (κ c)) (ρ t)) (β b) i).1)) 33 (eK (κ c) ((stN (ctS (eK (κ c)) (ρ t)) (β b) i).1))) 32 (rd (ρ t) (16 * i))) κ τ := by have z_ := S_14; (try simp only [ur_s, ur_ur, ur_n (x := t) (r := m) htm] at z_); exact z_
    refine R_aload_n (pc := 49) 1 dX9_count_49 rfl rfl ?_
    refine R_get (pc := 50) dX9_count_50 fX9_24 S_15.2.2.2.2.1 (by omega) rfl ?_
    refine R_aload_n (pc := 53) 1 dX9_count_53 rfl rfl ?_
    refine R_get (pc := 54) dX9_count_54 fX9_27 S_15.2.2.2.2.1 (by omega) rfl ?_
    refine R_callVh (pc := 57) (μ' := mX0_add) (As := [.ref 33]) (st := []) dX9_count_57 zX0_add lX9_49 ⟨by decide, by decide⟩ rfl rfl ⟨by decide, by decide⟩ (S_15.blk 32 rfl) (by omega) rfl (Nat.le_of_ble_eq_true rfl) (S_add S_15 hn rfl rfl (by decide)) (fun h_17 r_ q_18 => ?_)
    obtain ⟨rfl, S_19, F_21⟩ := q_18
    have S_20 : Sys h_17 (ur ρ m (ρ m ++ (stN (ctS (eK (κ c)) (ρ t)) (β b) i).2)) (ub (ub (ub (ub (ub β2 31 ((stN (ctS (eK (κ c)) (ρ t)) (β b) i).1)) 33 ((stN (ctS (eK (κ c)) (ρ t)) (β b) i).1)) 33 (eK (κ c) ((stN (ctS (eK (κ c)) (ρ t)) (β b) i).1))) 32 (rd (ρ t) (16 * i))) 32 (xb (rd (ρ t) (16 * i)) (eK (κ c) ((stN (ctS (eK (κ c)) (ρ t)) (β b) i).1)))) κ τ := by have z_ := S_19; (try simp only [ur_s, ur_ur, ur_n (x := t) (r := m) htm] at z_); exact z_
    refine R_aload (pc := 60) 5 dX9_count_60 rfl ?_
    refine R_aload_n (pc := 62) 1 dX9_count_62 rfl rfl ?_
    refine R_get (pc := 63) dX9_count_63 fX9_24 S_20.2.2.2.2.1 (by omega) rfl ?_
    refine R_bipush (pc := 66) (v := 16) dX9_count_66 (by decide) ?_
    refine R_aload_n (pc := 68) 4 dX9_count_68 rfl rfl ?_
    have := rw_cases (r := t) ht
    refine R_get (pc := 69) dX9_count_69 fX9_34 (S_20.rowO t ht) (by omega) rfl ?_
    refine R_eqi (y := nI (ρ t).length) (by first | rfl | (simp only [ur_s, ur_ur, ur_n (x := t) (r := m) htm])) ?_
    refine R_iload (pc := 72) 0 dX9_count_72 rfl ?_
    refine R_isub (pc := 74) dX9_count_74 ?_
    refine R_min (pc := 75) dX9_count_75 lX9_52 sM_min nM cM_min (by decide) (Nat.le_of_ble_eq_true rfl) (by decide) (by decide) ?_
    refine R_eqi (y := nI (mnb (ρ t) i)) (mnb_I (by omega) (by omega)) ?_
    refine R_callVh (pc := 78) (μ' := mX6_appendBlock) (As := [.ref 32, .int (nI (mnb (ρ t) i))]) (st := []) dX9_count_78 zX6_appendBlock lX9_58 ⟨by decide, by decide⟩ rfl rfl ⟨by decide, by decide⟩ (S_20.rowO m hm) (by omega) rfl (Nat.le_of_ble_eq_true rfl) (S_appendBlock S_20 hn hm rfl (mnb (ρ t) i) (by simp only [ur_s, List.length_append, stN_lenM (ρ t) (fun _ _ => ctS_len _ _ _ _)]; unfold mnb; omega)) (fun h_22 r_ q_23 => ?_)
    obtain ⟨rfl, S_24, F_26⟩ := q_23
    have S_25 : Sys h_22 (ur ρ m ((ρ m ++ (stN (ctS (eK (κ c)) (ρ t)) (β b) i).2) ++ bt (xb (rd (ρ t) (16 * i)) (eK (κ c) ((stN (ctS (eK (κ c)) (ρ t)) (β b) i).1))) (mnb (ρ t) i))) (ub (ub (ub (ub (ub β2 31 ((stN (ctS (eK (κ c)) (ρ t)) (β b) i).1)) 33 ((stN (ctS (eK (κ c)) (ρ t)) (β b) i).1)) 33 (eK (κ c) ((stN (ctS (eK (κ c)) (ρ t)) (β b) i).1))) 32 (rd (ρ t) (16 * i))) 32 (xb (rd (ρ t) (16 * i)) (eK (κ c) ((stN (ctS (eK (κ c)) (ρ t)) (β b) i).1)))) κ τ := by have z_ := S_24; (try simp only [ur_s, ur_ur, ur_n (x := t) (r := m) htm] at z_); exact z_
    refine R_aload_n (pc := 81) 1 dX9_count_81 rfl rfl ?_
    refine R_get (pc := 82) dX9_count_82 fX9_20 S_25.2.2.2.2.1 (by omega) rfl ?_
    refine R_callVh (pc := 85) (μ' := mX0_addOne) (As := []) (st := []) dX9_count_85 zX0_addOne lX9_76 ⟨by decide, by decide⟩ rfl rfl ⟨by decide, by decide⟩ (S_25.blk 31 rfl) (by omega) rfl (Nat.le_of_ble_eq_true rfl) (S_addOne S_25 hn rfl) (fun h_27 r_ q_28 => ?_)
    obtain ⟨rfl, S_29, F_31⟩ := q_28
    have S_30 : Sys h_27 (ur ρ m ((ρ m ++ (stN (ctS (eK (κ c)) (ρ t)) (β b) i).2) ++ bt (xb (rd (ρ t) (16 * i)) (eK (κ c) ((stN (ctS (eK (κ c)) (ρ t)) (β b) i).1))) (mnb (ρ t) i))) (ub (ub (ub (ub (ub (ub β2 31 ((stN (ctS (eK (κ c)) (ρ t)) (β b) i).1)) 33 ((stN (ctS (eK (κ c)) (ρ t)) (β b) i).1)) 33 (eK (κ c) ((stN (ctS (eK (κ c)) (ρ t)) (β b) i).1))) 32 (rd (ρ t) (16 * i))) 32 (xb (rd (ρ t) (16 * i)) (eK (κ c) ((stN (ctS (eK (κ c)) (ρ t)) (β b) i).1)))) 31 (one1 ((stN (ctS (eK (κ c)) (ρ t)) (β b) i).1))) κ τ := S_29
    refine R_iinc (pc := 88) (j := 0) (v := nI (16 * (i + 1))) (lv' := [(5, .int (nI (16 * (i + 1)))), (0, .ref 30), (1, .ref c), (2, .ref b), (3, .ref t), (4, .ref m)]) dX9_count_88 rfl (nI_add (16 * i) 16) (by decide) rfl ?_
    refine R_goto (pc := 91) (tgt := 11) dX9_count_91 (by decide) ?_
    refine R_sub [0, 1, 2, 3, 4, 5] rfl ?_
    refine ih (i + 1) (by omega) h_27 (ub (ub (ub (ub (ub (ub β2 31 ((stN (ctS (eK (κ c)) (ρ t)) (β b) i).1)) 33 ((stN (ctS (eK (κ c)) (ρ t)) (β b) i).1)) 33 (eK (κ c) ((stN (ctS (eK (κ c)) (ρ t)) (β b) i).1))) 32 (rd (ρ t) (16 * i))) 32 (xb (rd (ρ t) (16 * i)) (eK (κ c) ((stN (ctS (eK (κ c)) (ρ t)) (β b) i).1)))) 31 (one1 ((stN (ctS (eK (κ c)) (ρ t)) (β b) i).1))) (by have z_ := S_30; rw [List.append_assoc] at z_; exact z_) rfl (fun a_ n_ => ?_) (hF.tr (((((F_6.tr F_11).tr F_16).tr F_21).tr F_26).tr F_31))
    have q_ := hB a_ n_; simp only [List.mem_cons, List.not_mem_nil, or_false, not_or] at n_; simp only [ub, if_neg, n_, if_false]; exact q_
set_option maxHeartbeats 4000000 in
set_option maxRecDepth 100000 in
theorem qX9_count {l : Launch} {w : am_W} {h : am_H} {n : Nat} {ρ : Nat → List (BitVec 8)} {β : Nat → bP} {κ : Nat → kT} {τ : Nat × Nat × Nat} (S : Sys h ρ β κ τ) (hn : 60 ≤ n) {t m : Nat} (ht : isRw t = true) (hm : isRw m = true) (htm : t ≠ m) {c b : Nat} (hc : c = 16 ∨ c = 20) (hb : isBk b = true) (hb31 : b ≠ 31) (hk : kOk (κ c)) (hr : (ρ m).length + (ρ t).length ≤ rwN m) : RH l w mX9_count h n [.ref 30, .ref c, .ref b, .ref t, .ref m] (SX h τ none (ur ρ m (ρ m ++ (stN (ctS (eK (κ c)) (ρ t)) (β b) (nbk (ρ t))).2)) β κ [31, 32, 33]) := by
  refine RC.of [(0, .ref 30), (1, .ref c), (2, .ref b), (3, .ref t), (4, .ref m)] (by decide +kernel) rfl (Nat.le_of_ble_eq_true rfl) ?_
  refine R_aload_n (pc := 0) 0 dX9_count_0 rfl rfl ?_
  refine R_get (pc := 1) dX9_count_1 fX9_20 S.2.2.2.2.1 (by omega) rfl ?_
  refine R_aload_n (pc := 4) 2 dX9_count_4 rfl rfl ?_
  refine R_callVh (pc := 5) (μ' := mX0_copy) (As := [.ref b]) (st := []) dX9_count_5 zX0_copy lX9_40 ⟨by decide, by decide⟩ rfl rfl ⟨by decide, by decide⟩ (S.blk 31 rfl) (by omega) rfl (Nat.le_of_ble_eq_true rfl) (S_copy S hn rfl hb hb31) (fun h_1 r_ q_2 => ?_)
  obtain ⟨rfl, S_3, F_5⟩ := q_2
  have S_4 : Sys h_1 ρ (ub β 31 (β b)) κ τ := S_3
  refine R_iconst (pc := 8) (v := 0) dX9_count_8 (by decide) ?_
  refine R_istore (pc := 9) (lv' := [(5, .int 0), (0, .ref 30), (1, .ref c), (2, .ref b), (3, .ref t), (4, .ref m)]) dX9_count_9 (by decide) rfl ?_
  refine R_sub [0, 1, 2, 3, 4, 5] rfl ?_
  refine qX9_count_loop S hn ht hm htm hc hb hb31 hk hr (nbk (ρ t)) 0 (by omega) h_1 (ub β 31 (β b)) (by have e_ : ρ m ++ (stN (ctS (eK (κ c)) (ρ t)) (β b) 0).2 = ρ m := List.append_nil _; rw [e_, ur_id]; exact S_4) rfl (fun a_ n_ => ?_) F_5
  simp only [List.mem_cons, List.not_mem_nil, or_false, not_or] at n_; simp only [ub, if_neg, n_, if_false]
