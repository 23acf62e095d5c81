set_option maxHeartbeats 4000000 in
set_option maxRecDepth 100000 in
theorem qX1_lockBook_loop {l : Launch} {w : am_W} {h : am_H} {n : Nat} {ρ : Nat → List (BitVec 8)} {β : Nat → bP} {κ : Nat → kT} {τ : Nat × Nat × Nat} (S : Sys h ρ β κ τ) (hn : 60 ≤ n) {t m : Nat} (ht : isRw t = true) (hm : isRw m = true) (htm : t ≠ m) (hk : kOk (κ 16)) (hr : (ρ m).length + 16 * nbk (ρ t) ≤ rwN m) : ∀ (d i : Nat), i + d = nbk (ρ t) → ∀ h2 β2, Sys h2 (ur ρ m (ρ m ++ bkN (eK (κ 16)) (ρ t) i)) β2 κ τ → (∀ a, a ∉ [27] → β2 a = β a) → Fr h h2 → RW l w mX1_lockBook h2 n 0 0 2 [(3, .int (nI (16 * i))), (0, .ref 26), (1, .ref t), (2, .ref m)] [] (fun h' n' r_ => n' = n ∧ (SX h τ none (ur ρ m (ρ m ++ bkN (eK (κ 16)) (ρ t) (nbk (ρ t)))) β κ [27]) h' r_) := by
  have hlt := S.len t ht
  have hlm := S.len m hm
  have hnb := nbk_b (ρ t)
  have htc := rw_cases ht
  have hmc := rw_cases hm
  intro d
  induction d with
  | zero =>
    intro i hd h2 β2 S2 hB hF
    refine R_iload_n (pc := 2) 0 dX1_lockBook_2 rfl rfl ?_
    refine R_aload_n (pc := 3) 2 dX1_lockBook_3 rfl rfl ?_
    have := rw_cases (r := t) ht
    refine R_get (pc := 4) dX1_lockBook_4 fX1_33 (S2.rowO t ht) (by omega) rfl ?_
    refine R_eqi (y := nI (ρ t).length) (by first | rfl | (simp only [ur_s, ur_ur, ur_n htm])) ?_
    refine R_icmp_ge (pc := 7) (tgt := 46) dX1_lockBook_7 (by decide) (fun c_1 => ?_) (fun c_1 => absurd (nI_le (by omega) (by omega)) c_1)
    exact R_vreturn (pc := 46) dX1_lockBook_46 rfl (by decide) (by decide) ⟨rfl, _, hB, rfl, by have z_ := S2; rw [show i = nbk (ρ t) by omega] at z_; exact z_, hF⟩
  | succ d ih =>
    intro i hd h2 β2 S2 hB hF
    refine R_iload_n (pc := 2) 0 dX1_lockBook_2 rfl rfl ?_
    refine R_aload_n (pc := 3) 2 dX1_lockBook_3 rfl rfl ?_
    have := rw_cases (r := t) ht
    refine R_get (pc := 4) dX1_lockBook_4 fX1_33 (S2.rowO t ht) (by omega) rfl ?_
    refine R_eqi (y := nI (ρ t).length) (by first | rfl | (simp only [ur_s, ur_ur, ur_n htm])) ?_
    refine R_icmp_ge (pc := 7) (tgt := 46) dX1_lockBook_7 (by decide) (fun c_1 => absurd c_1 (nI_ge (by omega) (by omega))) (fun c_1 => ?_)
    refine R_aload_n (pc := 10) 1 dX1_lockBook_10 rfl rfl ?_
    refine R_get (pc := 11) dX1_lockBook_11 fX1_23 S2.2.2.2.1 (by omega) rfl ?_
    refine R_aload_n (pc := 14) 2 dX1_lockBook_14 rfl rfl ?_
    refine R_iload_n (pc := 15) 0 dX1_lockBook_15 rfl rfl ?_
    refine R_callVh (pc := 16) (μ' := mX0_read) (As := [.ref t, .int (nI (16 * i))]) (st := []) dX1_lockBook_16 zX0_read lX1_39 ⟨by decide, by decide⟩ rfl rfl ⟨by decide, by decide⟩ (S2.blk 27 rfl) (by omega) rfl (Nat.le_of_ble_eq_true rfl) (S_read S2 hn rfl ht (16 * i) (by omega)) (fun h_2 r_ q_3 => ?_)
    obtain ⟨rfl, S_4, F_6⟩ := q_3
    have S_5 : Sys h_2 (ur ρ m (ρ m ++ bkN (eK (κ 16)) (ρ t) i)) (ub β2 27 (rd (ρ t) (16 * i))) κ τ := by have z_ := S_4; (try simp only [ur_s, ur_ur, ur_n (x := t) (r := m) htm] at z_); exact z_
    refine R_aload_n (pc := 19) 1 dX1_lockBook_19 rfl rfl ?_
    refine R_get (pc := 20) dX1_lockBook_20 fX1_7 S_5.2.2.2.1 (by omega) rfl ?_
    refine R_aload_n (pc := 23) 1 dX1_lockBook_23 rfl rfl ?_
    refine R_get (pc := 24) dX1_lockBook_24 fX1_23 S_5.2.2.2.1 (by omega) rfl ?_
    refine R_callVh (pc := 27) (μ' := mX2_encrypt) (As := [.ref 27]) (st := []) dX1_lockBook_27 zX2_encrypt lX1_43 ⟨by decide, by decide⟩ rfl rfl ⟨by decide, by decide⟩ (S_5.2.2.1 16 (by decide)).1 (by omega) rfl (Nat.le_of_ble_eq_true rfl) (S_encrypt S_5 hn (by decide) rfl hk.1 hk.2) (fun h_7 r_ q_8 => ?_)
    obtain ⟨rfl, S_9, F_11⟩ := q_8
    have S_10 : Sys h_7 (ur ρ m (ρ m ++ bkN (eK (κ 16)) (ρ t) i)) (ub (ub β2 27 (rd (ρ t) (16 * i))) 27 (eK (κ 16) (rd (ρ t) (16 * i)))) κ τ := by have z_ := S_9; (try simp only [ur_s, ur_ur, ur_n (x := t) (r := m) htm] at z_); exact z_
    refine R_aload_n (pc := 30) 3 dX1_lockBook_30 rfl rfl ?_
    refine R_aload_n (pc := 31) 1 dX1_lockBook_31 rfl rfl ?_
    refine R_get (pc := 32) dX1_lockBook_32 fX1_23 S_10.2.2.2.1 (by omega) rfl ?_
    refine R_bipush (pc := 35) (v := 16) dX1_lockBook_35 (by decide) ?_
    refine R_callVh (pc := 37) (μ' := mX6_appendBlock) (As := [.ref 27, .int (nI 16)]) (st := []) dX1_lockBook_37 zX6_appendBlock lX1_49 ⟨by decide, by decide⟩ rfl rfl ⟨by decide, by decide⟩ (S_10.rowO m hm) (by omega) rfl (Nat.le_of_ble_eq_true rfl) (S_appendBlock S_10 hn hm rfl 16 (by simp only [ur_s, List.length_append, bkN_len]; omega)) (fun h_12 r_ q_13 => ?_)
    obtain ⟨rfl, S_14, F_16⟩ := q_13
    have S_15 : Sys h_12 (ur ρ m ((ρ m ++ bkN (eK (κ 16)) (ρ t) i) ++ bt (eK (κ 16) (rd (ρ t) (16 * i))) 16)) (ub (ub β2 27 (rd (ρ t) (16 * i))) 27 (eK (κ 16) (rd (ρ t) (16 * i)))) κ τ := by have z_ := S_14; simp only [ur_s, ur_ur, ur_n (x := t) (r := m) htm] at z_; exact z_
    refine R_iinc (pc := 40) (j := 0) (v := nI (16 * (i + 1))) (lv' := [(3, .int (nI (16 * (i + 1)))), (0, .ref 26), (1, .ref t), (2, .ref m)]) dX1_lockBook_40 rfl (nI_add (16 * i) 16) (by decide) rfl ?_
    refine R_goto (pc := 43) (tgt := 2) dX1_lockBook_43 (by decide) ?_
    refine R_sub [0, 1, 2, 3] rfl ?_
    exact ih (i + 1) (by omega) _ _ (by have z_ := S_15; simp only [List.append_assoc] at z_; exact z_)  (fun a_ n_ => by have q_ := hB a_ n_; simp only [List.mem_cons, List.not_mem_nil, or_false, not_or] at n_; simp only [ub, if_neg, n_, if_false]; exact q_) (hF.tr ((F_6.tr F_11).tr F_16))
set_option maxHeartbeats 4000000 in
set_option maxRecDepth 100000 in
theorem qX1_lockBook {l : Launch} {w : am_W} {h : am_H} {n : Nat} {ρ : Nat → List (BitVec 8)} {β : Nat → bP} {κ : Nat → kT} {τ : Nat × Nat × Nat} (S : Sys h ρ β κ τ) (hn : 60 ≤ n) {t m : Nat} (ht : isRw t = true) (hm : isRw m = true) (htm : t ≠ m) (hk : kOk (κ 16)) (hr : (ρ m).length + 16 * nbk (ρ t) ≤ rwN m) : RH l w mX1_lockBook h n [.ref 26, .ref t, .ref m] (SX h τ none (ur ρ m (ρ m ++ bkN (eK (κ 16)) (ρ t) (nbk (ρ t)))) β κ [27]) := by
  refine RC.of [(0, .ref 26), (1, .ref t), (2, .ref m)] (by decide +kernel) rfl (Nat.le_of_ble_eq_true rfl) ?_
  refine R_iconst (pc := 0) (v := 0) dX1_lockBook_0 (by decide) ?_
  refine R_istore_n (pc := 1) (lv' := [(3, .int 0), (0, .ref 26), (1, .ref t), (2, .ref m)]) dX1_lockBook_1 rfl (by decide) rfl ?_
  exact qX1_lockBook_loop S hn ht hm htm hk hr (nbk (ρ t)) 0 (by omega) h β (by have z_ := S; rw [← ur_id ρ m] at z_; simpa only [bkN, List.append_nil] using z_) (fun _ _ => rfl) (Fr.rf h)
set_option maxHeartbeats 4000000 in
set_option maxRecDepth 100000 in
theorem qX1_unlockBook_loop {l : Launch} {w : am_W} {h : am_H} {n : Nat} {ρ : Nat → List (BitVec 8)} {β : Nat → bP} {κ : Nat → kT} {τ : Nat × Nat × Nat} (S : Sys h ρ β κ τ) (hn : 60 ≤ n) {t m : Nat} (ht : isRw t = true) (hm : isRw m = true) (htm : t ≠ m) (hk : kOk (κ 16)) (hr : (ρ m).length + 16 * nbk (ρ t) ≤ rwN m) : ∀ (d i : Nat), i + d = nbk (ρ t) → ∀ h2 β2, Sys h2 (ur ρ m (ρ m ++ bkN (dK (κ 16)) (ρ t) i)) β2 κ τ → (∀ a, a ∉ [27] → β2 a = β a) → Fr h h2 → RW l w mX1_unlockBook h2 n 0 0 2 [(3, .int (nI (16 * i))), (0, .ref 26), (1, .ref t), (2, .ref m)] [] (fun h' n' r_ => n' = n ∧ (SX h τ none (ur ρ m (ρ m ++ bkN (dK (κ 16)) (ρ t) (nbk (ρ t)))) β κ [27]) h' r_) := by
  have hlt := S.len t ht
  have hlm := S.len m hm
  have hnb := nbk_b (ρ t)
  have htc := rw_cases ht
  have hmc := rw_cases hm
  intro d
  induction d with
  | zero =>
    intro i hd h2 β2 S2 hB hF
    refine R_iload_n (pc := 2) 0 dX1_unlockBook_2 rfl rfl ?_
    refine R_aload_n (pc := 3) 2 dX1_unlockBook_3 rfl rfl ?_
    have := rw_cases (r := t) ht
    refine R_get (pc := 4) dX1_unlockBook_4 fX1_33 (S2.rowO t ht) (by omega) rfl ?_
    refine R_eqi (y := nI (ρ t).length) (by first | rfl | (simp only [ur_s, ur_ur, ur_n htm])) ?_
    refine R_icmp_ge (pc := 7) (tgt := 46) dX1_unlockBook_7 (by decide) (fun c_1 => ?_) (fun c_1 => absurd (nI_le (by omega) (by omega)) c_1)
    exact R_vreturn (pc := 46) dX1_unlockBook_46 rfl (by decide) (by decide) ⟨rfl, _, hB, rfl, by have z_ := S2; rw [show i = nbk (ρ t) by omega] at z_; exact z_, hF⟩
  | succ d ih =>
    intro i hd h2 β2 S2 hB hF
    refine R_iload_n (pc := 2) 0 dX1_unlockBook_2 rfl rfl ?_
    refine R_aload_n (pc := 3) 2 dX1_unlockBook_3 rfl rfl ?_
    have := rw_cases (r := t) ht
    refine R_get (pc := 4) dX1_unlockBook_4 fX1_33 (S2.rowO t ht) (by omega) rfl ?_
    refine R_eqi (y := nI (ρ t).length) (by first | rfl | (simp only [ur_s, ur_ur, ur_n htm])) ?_
    refine R_icmp_ge (pc := 7) (tgt := 46) dX1_unlockBook_7 (by decide) (fun c_1 => absurd c_1 (nI_ge (by omega) (by omega))) (fun c_1 => ?_)
    refine R_aload_n (pc := 10) 1 dX1_unlockBook_10 rfl rfl ?_
    refine R_get (pc := 11) dX1_unlockBook_11 fX1_23 S2.2.2.2.1 (by omega) rfl ?_
    refine R_aload_n (pc := 14) 2 dX1_unlockBook_14 rfl rfl ?_
    refine R_iload_n (pc := 15) 0 dX1_unlockBook_15 rfl rfl ?_
    refine R_callVh (pc := 16) (μ' := mX0_read) (As := [.ref t, .int (nI (16 * i))]) (st := []) dX1_unlockBook_16 zX0_read lX1_39 ⟨by decide, by decide⟩ rfl rfl ⟨by decide, by decide⟩ (S2.blk 27 rfl) (by omega) rfl (Nat.le_of_ble_eq_true rfl) (S_read S2 hn rfl ht (16 * i) (by omega)) (fun h_2 r_ q_3 => ?_)
    obtain ⟨rfl, S_4, F_6⟩ := q_3
    have S_5 : Sys h_2 (ur ρ m (ρ m ++ bkN (dK (κ 16)) (ρ t) i)) (ub β2 27 (rd (ρ t) (16 * i))) κ τ := by have z_ := S_4; (try simp only [ur_s, ur_ur, ur_n (x := t) (r := m) htm] at z_); exact z_
    refine R_aload_n (pc := 19) 1 dX1_unlockBook_19 rfl rfl ?_
    refine R_get (pc := 20) dX1_unlockBook_20 fX1_7 S_5.2.2.2.1 (by omega) rfl ?_
    refine R_aload_n (pc := 23) 1 dX1_unlockBook_23 rfl rfl ?_
    refine R_get (pc := 24) dX1_unlockBook_24 fX1_23 S_5.2.2.2.1 (by omega) rfl ?_
    refine R_callVh (pc := 27) (μ' := mX2_decrypt) (As := [.ref 27]) (st := []) dX1_unlockBook_27 zX2_decrypt lX1_53 ⟨by decide, by decide⟩ rfl rfl ⟨by decide, by decide⟩ (S_5.2.2.1 16 (by decide)).1 (by omega) rfl (Nat.le_of_ble_eq_true rfl) (S_decrypt S_5 hn (by decide) rfl hk.1 hk.2) (fun h_7 r_ q_8 => ?_)
    obtain ⟨rfl, S_9, F_11⟩ := q_8
    have S_10 : Sys h_7 (ur ρ m (ρ m ++ bkN (dK (κ 16)) (ρ t) i)) (ub (ub β2 27 (rd (ρ t) (16 * i))) 27 (dK (κ 16) (rd (ρ t) (16 * i)))) κ τ := by have z_ := S_9; (try simp only [ur_s, ur_ur, ur_n (x := t) (r := m) htm] at z_); exact z_
    refine R_aload_n (pc := 30) 3 dX1_unlockBook_30 rfl rfl ?_
    refine R_aload_n (pc := 31) 1 dX1_unlockBook_31 rfl rfl ?_
    refine R_get (pc := 32) dX1_unlockBook_32 fX1_23 S_10.2.2.2.1 (by omega) rfl ?_
    refine R_bipush (pc := 35) (v := 16) dX1_unlockBook_35 (by decide) ?_
    refine R_callVh (pc := 37) (μ' := mX6_appendBlock) (As := [.ref 27, .int (nI 16)]) (st := []) dX1_unlockBook_37 zX6_appendBlock lX1_49 ⟨by decide, by decide⟩ rfl rfl ⟨by decide, by decide⟩ (S_10.rowO m hm) (by omega) rfl (Nat.le_of_ble_eq_true rfl) (S_appendBlock S_10 hn hm rfl 16 (by simp only [ur_s, List.length_append, bkN_len]; omega)) (fun h_12 r_ q_13 => ?_)
    obtain ⟨rfl, S_14, F_16⟩ := q_13
    have S_15 : Sys h_12 (ur ρ m ((ρ m ++ bkN (dK (κ 16)) (ρ t) i) ++ bt (dK (κ 16) (rd (ρ t) (16 * i))) 16)) (ub (ub β2 27 (rd (ρ t) (16 * i))) 27 (dK (κ 16) (rd (ρ t) (16 * i)))) κ τ := by have z_ := S_14; simp only [ur_s, ur_ur, ur_n (x := t) (r := m) htm] at z_; exact z_
    refine R_iinc (pc := 40) (j := 0) (v := nI (16 * (i + 1))) (lv' := [(3, .int (nI (16 * (i + 1)))), (0, .ref 26), (1, .ref t), (2, .ref m)]) dX1_unlockBook_40 rfl (nI_add (16 * i) 16) (by decide) rfl ?_
    refine R_goto (pc := 43) (tgt := 2) dX1_unlockBook_43 (by decide) ?_
    refine R_sub [0, 1, 2, 3] rfl ?_
    exact ih (i + 1) (by omega) _ _ (by have z_ := S_15; simp only [List.append_assoc] at z_; exact z_)  (fun a_ n_ => by have q_ := hB a_ n_; simp only [List.mem_cons, List.not_mem_nil, or_false, not_or] at n_; simp only [ub, if_neg, n_, if_false]; exact q_) (hF.tr ((F_6.tr F_11).tr F_16))
set_option maxHeartbeats 4000000 in
set_option maxRecDepth 100000 in
theorem qX1_unlockBook {l : Launch} {w : am_W} {h : am_H} {n : Nat} {ρ : Nat → List (BitVec 8)} {β : Nat → bP} {κ : Nat → kT} {τ : Nat × Nat × Nat} (S : Sys h ρ β κ τ) (hn : 60 ≤ n) {t m : Nat} (ht : isRw t = true) (hm : isRw m = true) (htm : t ≠ m) (hk : kOk (κ 16)) (hr : (ρ m).length + 16 * nbk (ρ t) ≤ rwN m) : RH l w mX1_unlockBook h n [.ref 26, .ref t, .ref m] (SX h τ none (ur ρ m (ρ m ++ bkN (dK (κ 16)) (ρ t) (nbk (ρ t)))) β κ [27]) := by
  refine RC.of [(0, .ref 26), (1, .ref t), (2, .ref m)] (by decide +kernel) rfl (Nat.le_of_ble_eq_true rfl) ?_
  refine R_iconst (pc := 0) (v := 0) dX1_unlockBook_0 (by decide) ?_
  refine R_istore_n (pc := 1) (lv' := [(3, .int 0), (0, .ref 26), (1, .ref t), (2, .ref m)]) dX1_unlockBook_1 rfl (by decide) rfl ?_
  exact qX1_unlockBook_loop S hn ht hm htm hk hr (nbk (ρ t)) 0 (by omega) h β (by have z_ := S; rw [← ur_id ρ m] at z_; simpa only [bkN, List.append_nil] using z_) (fun _ _ => rfl) (Fr.rf h)
