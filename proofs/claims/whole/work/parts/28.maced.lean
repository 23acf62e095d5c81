def csS (F : bP → bP) (L : List (BitVec 8)) (i : Nat) (x : bP) : bP := F (xb x (rd L (16 * i)))
/-- CHAIN'S sum -/
def csm (F : bP → bP) (L : List (BitVec 8)) : bP := cyN (csS F L) (0, 0) (nbk L)
def laM (L : List (BitVec 8)) : Nat := (L.length - 1) / 16
def mac0 (F : bP → bP) (L : List (BitVec 8)) : bP := xb (cyN (csS F L) (0, 0) (laM L)) (rd L (16 * laM L))
/-- MAC -/
def macV (F : bP → bP) (L : List (BitVec 8)) : bP := F (if 16 ≤ nI (L.length - 16 * laM L) then xb (mac0 F L) (dbl (F (0, 0))) else xb (aoc (mac0 F L) (nI (L.length - 16 * laM L)) 128) (dbl (dbl (F (0, 0)))))
set_option maxHeartbeats 4000000 in
set_option maxRecDepth 100000 in
theorem qX4_chainSum_loop {l : Launch} {w : am_W} {h : am_H} {n : Nat} {ρ : Nat → List (BitVec 8)} {β : Nat → bP} {κ : Nat → kT} {τ : Nat × Nat × Nat} (S : Sys h ρ β κ τ) (hn : 60 ≤ n) {t : Nat} (ht : isRw t = true) (hk : kOk (κ 16)) (kk : ∀ h2 β2, Sys h2 ρ β2 κ τ → β2 59 = cyN (csS (eK (κ 16)) (ρ t)) (0, 0) (nbk (ρ t)) → (∀ a, a ∉ [59] → β2 a = β a) → Fr h h2 → RW l w mX4_chainSum h2 n 0 0 36 [(3, .int (nI (16 * (nbk (ρ t))))), (0, .ref 47), (1, .ref t), (2, .ref 59)] [] (fun h' n' r_ => n' = n ∧ (SX h τ none ρ (ub β 59 (csm (eK (κ 16)) (ρ t))) κ []) h' r_)) : ∀ (d i : Nat), i + d = nbk (ρ t) → ∀ h2 β2, Sys h2 ρ β2 κ τ → β2 59 = cyN (csS (eK (κ 16)) (ρ t)) (0, 0) i → (∀ a, a ∉ [59] → β2 a = β a) → Fr h h2 → RW l w mX4_chainSum h2 n 0 0 8 [(3, .int (nI (16 * i))), (0, .ref 47), (1, .ref t), (2, .ref 59)] [] (fun h' n' r_ => n' = n ∧ (SX h τ none ρ (ub β 59 (csm (eK (κ 16)) (ρ t))) κ []) h' r_) := by
  have hlt := S.len t ht
  have htc := rw_cases ht
  have hnb := nbk_b (ρ t)
  intro d
  induction d with
  | zero =>
    intro i hd h2 β2 S2 hv59 hB hF
    refine R_iload_n (pc := 8) 0 dX4_chainSum_8 rfl rfl ?_
    refine R_aload_n (pc := 9) 2 dX4_chainSum_9 rfl rfl ?_
    have := rw_cases (r := t) ht
    refine R_get (pc := 10) dX4_chainSum_10 fX4_47 (S2.rowO t ht) (by omega) rfl ?_
    refine R_eqi (y := nI (ρ t).length) (by first | rfl | (simp only [ur_s, ur_ur])) ?_
    refine R_icmp_ge (pc := 13) (tgt := 36) dX4_chainSum_13 (by decide) (fun c_1 => ?_) (fun c_1 => absurd (nI_le (by omega) (by omega)) c_1)
    obtain rfl : i = nbk (ρ t) := by omega
    exact kk h2 β2 S2 hv59 hB hF
  | succ d ih =>
    intro i hd h2 β2 S2 hv59 hB hF
    have S_1 : Sys h2 ρ (ub β2 59 (cyN (csS (eK (κ 16)) (ρ t)) (0, 0) i)) κ τ := Sys.know S2 (hv59)
    refine R_iload_n (pc := 8) 0 dX4_chainSum_8 rfl rfl ?_
    refine R_aload_n (pc := 9) 2 dX4_chainSum_9 rfl rfl ?_
    have := rw_cases (r := t) ht
    refine R_get (pc := 10) dX4_chainSum_10 fX4_47 (S_1.rowO t ht) (by omega) rfl ?_
    refine R_eqi (y := nI (ρ t).length) (by first | rfl | (simp only [ur_s, ur_ur])) ?_
    refine R_icmp_ge (pc := 13) (tgt := 36) dX4_chainSum_13 (by decide) (fun c_2 => absurd c_2 (nI_ge (by omega) (by omega))) (fun c_2 => ?_)
    refine R_aload_n (pc := 16) 3 dX4_chainSum_16 rfl rfl ?_
    refine R_aload_n (pc := 17) 2 dX4_chainSum_17 rfl rfl ?_
    refine R_iload_n (pc := 18) 0 dX4_chainSum_18 rfl rfl ?_
    refine R_callVh (pc := 19) (μ' := mX0_addPart) (As := [.ref t, .int (nI (16 * i))]) (st := []) dX4_chainSum_19 zX0_addPart lX4_53 ⟨by decide, by decide⟩ rfl rfl ⟨by decide, by decide⟩ (S_1.blk 59 rfl) (by omega) rfl (Nat.le_of_ble_eq_true rfl) (S_addPart S_1 hn rfl ht (16 * i) (by omega)) (fun h_3 r_ q_4 => ?_)
    obtain ⟨rfl, S_5, F_7⟩ := q_4
    have S_6 : Sys h_3 ρ (ub (ub β2 59 (cyN (csS (eK (κ 16)) (ρ t)) (0, 0) i)) 59 (xb (cyN (csS (eK (κ 16)) (ρ t)) (0, 0) i) (rd (ρ t) (16 * i)))) κ τ := S_5
    refine R_aload_n (pc := 22) 1 dX4_chainSum_22 rfl rfl ?_
    refine R_get (pc := 23) dX4_chainSum_23 fX4_7 S_6.2.2.2.2.2.2.2.2.1 (by omega) rfl ?_
    refine R_aload_n (pc := 26) 3 dX4_chainSum_26 rfl rfl ?_
    refine R_callVh (pc := 27) (μ' := mX2_encrypt) (As := [.ref 59]) (st := []) dX4_chainSum_27 zX2_encrypt lX4_57 ⟨by decide, by decide⟩ rfl rfl ⟨by decide, by decide⟩ (S_6.2.2.1 16 (by decide)).1 (by omega) rfl (Nat.le_of_ble_eq_true rfl) (S_encrypt S_6 hn (by decide) rfl hk.1 hk.2) (fun h_8 r_ q_9 => ?_)
    obtain ⟨rfl, S_10, F_12⟩ := q_9
    have S_11 : Sys h_8 ρ (ub (ub (ub β2 59 (cyN (csS (eK (κ 16)) (ρ t)) (0, 0) i)) 59 (xb (cyN (csS (eK (κ 16)) (ρ t)) (0, 0) i) (rd (ρ t) (16 * i)))) 59 (eK (κ 16) (xb (cyN (csS (eK (κ 16)) (ρ t)) (0, 0) i) (rd (ρ t) (16 * i))))) κ τ := S_10
    refine R_iinc (pc := 30) (j := 0) (v := nI (16 * (i + 1))) (lv' := [(3, .int (nI (16 * (i + 1)))), (0, .ref 47), (1, .ref t), (2, .ref 59)]) dX4_chainSum_30 rfl (nI_add (16 * i) 16) (by decide) rfl ?_
    refine R_goto (pc := 33) (tgt := 8) dX4_chainSum_33 (by decide) ?_
    refine R_sub [0, 1, 2, 3] rfl ?_
    refine ih (i + 1) (by omega) h_8 (ub (ub (ub β2 59 (cyN (csS (eK (κ 16)) (ρ t)) (0, 0) i)) 59 (xb (cyN (csS (eK (κ 16)) (ρ t)) (0, 0) i) (rd (ρ t) (16 * i)))) 59 (eK (κ 16) (xb (cyN (csS (eK (κ 16)) (ρ t)) (0, 0) i) (rd (ρ t) (16 * i))))) (by have z_ := S_11; skip; exact z_) rfl (fun a_ n_ => ?_) (hF.tr (F_7.tr F_12))
    have q_ := hB a_ n_; simp only [List.mem_cons, List.not_mem_nil, or_false, not_or] at n_
    (try simp only [ub, if_neg, n_, if_false])
    first | exact q_ | (simp only [ub_k]; exact q_) | (rw [q_]; simp only [ub_k]) | (repeat' split) <;> first | exact q_ | (rename_i e_; rw [e_])
set_option maxHeartbeats 4000000 in
set_option maxRecDepth 100000 in
theorem qX4_chainSum {l : Launch} {w : am_W} {h : am_H} {n : Nat} {ρ : Nat → List (BitVec 8)} {β : Nat → bP} {κ : Nat → kT} {τ : Nat × Nat × Nat} (S : Sys h ρ β κ τ) (hn : 60 ≤ n) {t : Nat} (ht : isRw t = true) (hk : kOk (κ 16)) : RH l w mX4_chainSum h n [.ref 47, .ref t, .ref 59] (SX h τ none ρ (ub β 59 (csm (eK (κ 16)) (ρ t))) κ []) := by
  refine RC.of [(0, .ref 47), (1, .ref t), (2, .ref 59)] (by decide +kernel) rfl (Nat.le_of_ble_eq_true rfl) ?_
  have hlt := S.len t ht
  have htc := rw_cases ht
  have hnb := nbk_b (ρ t)
  refine R_aload_n (pc := 0) 2 dX4_chainSum_0 rfl rfl ?_
  refine R_lconst (pc := 1) (v := 0) dX4_chainSum_1 (by decide) ?_
  refine R_lconst (pc := 2) (v := 0) dX4_chainSum_2 (by decide) ?_
  refine R_callVh (pc := 3) (μ' := mX0_become) (As := [.long 0, .long 0]) (st := []) dX4_chainSum_3 zX0_become lX4_43 ⟨by decide, by decide⟩ rfl rfl ⟨by decide, by decide⟩ (S.blk 59 rfl) (by omega) rfl (Nat.le_of_ble_eq_true rfl) (S_become S hn rfl _ _) (fun h_1 r_ q_2 => ?_)
  obtain ⟨rfl, S_3, F_5⟩ := q_2
  have S_4 : Sys h_1 ρ (ub β 59 (0, 0)) κ τ := S_3
  refine R_iconst (pc := 6) (v := 0) dX4_chainSum_6 (by decide) ?_
  refine R_istore_n (pc := 7) (lv' := [(3, .int 0), (0, .ref 47), (1, .ref t), (2, .ref 59)]) dX4_chainSum_7 rfl (by decide) rfl ?_
  refine R_sub [0, 1, 2, 3] rfl ?_
  refine qX4_chainSum_loop S hn ht hk ?_ (nbk (ρ t)) 0 (by omega) h_1 (ub β 59 (0, 0)) S_4 rfl (fun a_ n_ => ?_) F_5
  · intro h2 β2 S2 hv59 hB hF
    have S3 : Sys h2 ρ (ub β2 59 (csm (eK (κ 16)) (ρ t))) κ τ := Sys.know S2 hv59
    refine R_vreturn (pc := 36) dX4_chainSum_36 rfl (by decide) (by decide) ⟨rfl, _, fun a_ _ => ?_, rfl, S3, hF⟩
    by_cases e_ : a_ = 59
    · subst e_; rfl
    · rw [ub_n e_, ub_n e_]; exact hB a_ (by simp [e_])
  · simp only [List.mem_cons, List.not_mem_nil, or_false, not_or] at n_; (try simp only [ub, if_neg, n_, if_false])
set_option maxHeartbeats 4000000 in
set_option maxRecDepth 100000 in
theorem qX4_mac_49_loop {l : Launch} {w : am_W} {h : am_H} {n : Nat} {ρ : Nat → List (BitVec 8)} {β : Nat → bP} {κ : Nat → kT} {τ : Nat × Nat × Nat} (S : Sys h ρ β κ τ) (hn : 60 ≤ n) {t : Nat} (ht : isRw t = true) (hk : kOk (κ 16)) (kk : ∀ h2 β2, Sys h2 ρ β2 κ τ → β2 49 = cyN (csS (eK (κ 16)) (ρ t)) (0, 0) (laM (ρ t)) → (∀ a, a ∉ [48, 49] → β2 a = β a) → Fr h h2 → RW l w mX4_mac h2 n 0 0 57 [(4, .int (nI (16 * (laM (ρ t))))), (3, .int (nI (16 * laM (ρ t)))), (0, .ref 47), (1, .ref t), (2, .ref 49)] [] (fun h' n' r_ => n' = n ∧ (SX h τ none ρ (ub β 49 (macV (eK (κ 16)) (ρ t))) κ [48]) h' r_)) : ∀ (d i : Nat), i + d = laM (ρ t) → ∀ h2 β2, Sys h2 ρ β2 κ τ → β2 49 = cyN (csS (eK (κ 16)) (ρ t)) (0, 0) i → (∀ a, a ∉ [48, 49] → β2 a = β a) → Fr h h2 → RW l w mX4_mac h2 n 0 0 30 [(4, .int (nI (16 * i))), (3, .int (nI (16 * laM (ρ t)))), (0, .ref 47), (1, .ref t), (2, .ref 49)] [] (fun h' n' r_ => n' = n ∧ (SX h τ none ρ (ub β 49 (macV (eK (κ 16)) (ρ t))) κ [48]) h' r_) := by
  have hlt := S.len t ht
  have htc := rw_cases ht
  have hla : 16 * laM (ρ t) ≤ (ρ t).length ∧ (ρ t).length ≤ 16 * laM (ρ t) + 16 := by unfold laM; omega
  intro d
  induction d with
  | zero =>
    intro i hd h2 β2 S2 hv49 hB hF
    refine R_iload (pc := 30) 0 dX4_mac_30 rfl ?_
    refine R_iload_n (pc := 32) 1 dX4_mac_32 rfl rfl ?_
    refine R_icmp_ge (pc := 33) (tgt := 57) dX4_mac_33 (by decide) (fun c_1 => ?_) (fun c_1 => absurd (nI_le (by omega) (by omega)) c_1)
    obtain rfl : i = laM (ρ t) := by omega
    exact kk h2 β2 S2 hv49 hB hF
  | succ d ih =>
    intro i hd h2 β2 S2 hv49 hB hF
    have S_1 : Sys h2 ρ (ub β2 49 (cyN (csS (eK (κ 16)) (ρ t)) (0, 0) i)) κ τ := Sys.know S2 (hv49)
    refine R_iload (pc := 30) 0 dX4_mac_30 rfl ?_
    refine R_iload_n (pc := 32) 1 dX4_mac_32 rfl rfl ?_
    refine R_icmp_ge (pc := 33) (tgt := 57) dX4_mac_33 (by decide) (fun c_2 => absurd c_2 (nI_ge (by omega) (by omega))) (fun c_2 => ?_)
    refine R_aload_n (pc := 36) 4 dX4_mac_36 rfl rfl ?_
    refine R_aload_n (pc := 37) 3 dX4_mac_37 rfl rfl ?_
    refine R_iload (pc := 38) 0 dX4_mac_38 rfl ?_
    refine R_callVh (pc := 40) (μ' := mX0_addPart) (As := [.ref t, .int (nI (16 * i))]) (st := []) dX4_mac_40 zX0_addPart lX4_53 ⟨by decide, by decide⟩ rfl rfl ⟨by decide, by decide⟩ (S_1.blk 49 rfl) (by omega) rfl (Nat.le_of_ble_eq_true rfl) (S_addPart S_1 hn rfl ht (16 * i) (by omega)) (fun h_3 r_ q_4 => ?_)
    obtain ⟨rfl, S_5, F_7⟩ := q_4
    have S_6 : Sys h_3 ρ (ub (ub β2 49 (cyN (csS (eK (κ 16)) (ρ t)) (0, 0) i)) 49 (xb (cyN (csS (eK (κ 16)) (ρ t)) (0, 0) i) (rd (ρ t) (16 * i)))) κ τ := S_5
    refine R_aload_n (pc := 43) 2 dX4_mac_43 rfl rfl ?_
    refine R_get (pc := 44) dX4_mac_44 fX4_7 S_6.2.2.2.2.2.2.2.2.1 (by omega) rfl ?_
    refine R_aload_n (pc := 47) 4 dX4_mac_47 rfl rfl ?_
    refine R_callVh (pc := 48) (μ' := mX2_encrypt) (As := [.ref 49]) (st := []) dX4_mac_48 zX2_encrypt lX4_57 ⟨by decide, by decide⟩ rfl rfl ⟨by decide, by decide⟩ (S_6.2.2.1 16 (by decide)).1 (by omega) rfl (Nat.le_of_ble_eq_true rfl) (S_encrypt S_6 hn (by decide) rfl hk.1 hk.2) (fun h_8 r_ q_9 => ?_)
    obtain ⟨rfl, S_10, F_12⟩ := q_9
    have S_11 : Sys h_8 ρ (ub (ub (ub β2 49 (cyN (csS (eK (κ 16)) (ρ t)) (0, 0) i)) 49 (xb (cyN (csS (eK (κ 16)) (ρ t)) (0, 0) i) (rd (ρ t) (16 * i)))) 49 (eK (κ 16) (xb (cyN (csS (eK (κ 16)) (ρ t)) (0, 0) i) (rd (ρ t) (16 * i))))) κ τ := S_10
    refine R_iinc (pc := 51) (j := 0) (v := nI (16 * (i + 1))) (lv' := [(4, .int (nI (16 * (i + 1)))), (3, .int (nI (16 * laM (ρ t)))), (0, .ref 47), (1, .ref t), (2, .ref 49)]) dX4_mac_51 rfl (nI_add (16 * i) 16) (by decide) rfl ?_
    refine R_goto (pc := 54) (tgt := 30) dX4_mac_54 (by decide) ?_
    refine R_sub [0, 1, 2, 3, 4] rfl ?_
    refine ih (i + 1) (by omega) h_8 (ub (ub (ub β2 49 (cyN (csS (eK (κ 16)) (ρ t)) (0, 0) i)) 49 (xb (cyN (csS (eK (κ 16)) (ρ t)) (0, 0) i) (rd (ρ t) (16 * i)))) 49 (eK (κ 16) (xb (cyN (csS (eK (κ 16)) (ρ t)) (0, 0) i) (rd (ρ t) (16 * i))))) (by have z_ := S_11; skip; exact z_) rfl (fun a_ n_ => ?_) (hF.tr (F_7.tr F_12))
    have q_ := hB a_ n_; simp only [List.mem_cons, List.not_mem_nil, or_false, not_or] at n_
    (try simp only [ub, if_neg, n_, if_false])
    first | exact q_ | (simp only [ub_k]; exact q_) | (rw [q_]; simp only [ub_k]) | (repeat' split) <;> first | exact q_ | (rename_i e_; rw [e_])
set_option maxHeartbeats 4000000 in
set_option maxRecDepth 100000 in
theorem qX4_mac_49 {l : Launch} {w : am_W} {h : am_H} {n : Nat} {ρ : Nat → List (BitVec 8)} {β : Nat → bP} {κ : Nat → kT} {τ : Nat × Nat × Nat} (S : Sys h ρ β κ τ) (hn : 60 ≤ n) {t : Nat} (ht : isRw t = true) (hk : kOk (κ 16)) : RH l w mX4_mac h n [.ref 47, .ref t, .ref 49] (SX h τ none ρ (ub β 49 (macV (eK (κ 16)) (ρ t))) κ [48]) := by
  refine RC.of [(0, .ref 47), (1, .ref t), (2, .ref 49)] (by decide +kernel) rfl (Nat.le_of_ble_eq_true rfl) ?_
  have hlt := S.len t ht
  have htc := rw_cases ht
  have hla : 16 * laM (ρ t) ≤ (ρ t).length ∧ (ρ t).length ≤ 16 * laM (ρ t) + 16 := by unfold laM; omega
  refine R_aload_n (pc := 0) 1 dX4_mac_0 rfl rfl ?_
  have := rw_cases (r := t) ht
  refine R_get (pc := 1) dX4_mac_1 fX4_47 (S.rowO t ht) (by omega) rfl ?_
  refine R_eqi (y := nI (ρ t).length) (by first | rfl | (simp only [ur_s, ur_ur])) ?_
  refine R_if_ne (pc := 4) (tgt := 11) dX4_mac_4 (by decide) (fun c_1 => ?_) (fun c_1 => ?_)
  · skip
    refine R_aload_n (pc := 11) 1 dX4_mac_11 rfl rfl ?_
    have := rw_cases (r := t) ht
    refine R_get (pc := 12) dX4_mac_12 fX4_47 (S.rowO t ht) (by omega) rfl ?_
    refine R_eqi (y := nI (ρ t).length) (by first | rfl | (simp only [ur_s, ur_ur])) ?_
    refine R_iconst (pc := 15) (v := 1) dX4_mac_15 (by decide) ?_
    refine R_isub (pc := 16) dX4_mac_16 ?_
    refine R_eqi (y := nI ((ρ t).length - 1)) (pk_sub (b := 1) (by rcases Nat.eq_zero_or_pos (ρ t).length with q | q; exact absurd (by rw [q]; rfl) c_1; exact q)) ?_
    refine R_bipush (pc := 17) (v := (-16)) dX4_mac_17 (by decide) ?_
    refine R_iand (pc := 19) dX4_mac_19 ?_
    refine R_eqi (y := nI (16 * laM (ρ t))) (by rw [and_m16 (by omega)]; unfold laM; rw [Nat.mul_comm]) ?_
    refine R_istore_n (pc := 20) (lv' := [(3, .int (nI (16 * laM (ρ t)))), (0, .ref 47), (1, .ref t), (2, .ref 49)]) dX4_mac_20 rfl (by decide) rfl ?_
    refine R_aload_n (pc := 21) 3 dX4_mac_21 rfl rfl ?_
    refine R_lconst (pc := 22) (v := 0) dX4_mac_22 (by decide) ?_
    refine R_lconst (pc := 23) (v := 0) dX4_mac_23 (by decide) ?_
    refine R_callVh (pc := 24) (μ' := mX0_become) (As := [.long 0, .long 0]) (st := []) dX4_mac_24 zX0_become lX4_43 ⟨by decide, by decide⟩ rfl rfl ⟨by decide, by decide⟩ (S.blk 49 rfl) (by omega) rfl (Nat.le_of_ble_eq_true rfl) (S_become S hn rfl _ _) (fun h_2 r_ q_3 => ?_)
    obtain ⟨rfl, S_4, F_6⟩ := q_3
    have S_5 : Sys h_2 ρ (ub β 49 (0, 0)) κ τ := S_4
    refine R_iconst (pc := 27) (v := 0) dX4_mac_27 (by decide) ?_
    refine R_istore (pc := 28) (lv' := [(4, .int 0), (3, .int (nI (16 * laM (ρ t)))), (0, .ref 47), (1, .ref t), (2, .ref 49)]) dX4_mac_28 (by decide) rfl ?_
    refine R_sub [0, 1, 2, 3, 4] rfl ?_
    refine qX4_mac_49_loop S hn ht hk ?_ (laM (ρ t)) 0 (by omega) h_2 (ub β 49 (0, 0)) S_5 rfl (fun a_ n_ => ?_) F_6
    · intro h2 β2 S2 hv49 hB hF
      have S_7 : Sys h2 ρ (ub β2 49 (cyN (csS (eK (κ 16)) (ρ t)) (0, 0) (laM (ρ t)))) κ τ := Sys.know S2 (hv49)
      refine R_aload_n (pc := 57) 2 dX4_mac_57 rfl rfl ?_
      refine R_get (pc := 58) dX4_mac_58 fX4_33 S_7.2.2.2.2.2.2.2.2.1 (by omega) rfl ?_
      refine R_lconst (pc := 61) (v := 0) dX4_mac_61 (by decide) ?_
      refine R_lconst (pc := 62) (v := 0) dX4_mac_62 (by decide) ?_
      refine R_callVh (pc := 63) (μ' := mX0_become) (As := [.long 0, .long 0]) (st := []) dX4_mac_63 zX0_become lX4_43 ⟨by decide, by decide⟩ rfl rfl ⟨by decide, by decide⟩ (S_7.blk 48 rfl) (by omega) rfl (Nat.le_of_ble_eq_true rfl) (S_become S_7 hn rfl _ _) (fun h_8 r_ q_9 => ?_)
      obtain ⟨rfl, S_10, F_12⟩ := q_9
      have S_11 : Sys h_8 ρ (ub (ub β2 49 (cyN (csS (eK (κ 16)) (ρ t)) (0, 0) (laM (ρ t)))) 48 (0, 0)) κ τ := S_10
      refine R_aload_n (pc := 66) 2 dX4_mac_66 rfl rfl ?_
      refine R_get (pc := 67) dX4_mac_67 fX4_7 S_11.2.2.2.2.2.2.2.2.1 (by omega) rfl ?_
      refine R_aload_n (pc := 70) 2 dX4_mac_70 rfl rfl ?_
      refine R_get (pc := 71) dX4_mac_71 fX4_33 S_11.2.2.2.2.2.2.2.2.1 (by omega) rfl ?_
      refine R_callVh (pc := 74) (μ' := mX2_encrypt) (As := [.ref 48]) (st := []) dX4_mac_74 zX2_encrypt lX4_57 ⟨by decide, by decide⟩ rfl rfl ⟨by decide, by decide⟩ (S_11.2.2.1 16 (by decide)).1 (by omega) rfl (Nat.le_of_ble_eq_true rfl) (S_encrypt S_11 hn (by decide) rfl hk.1 hk.2) (fun h_13 r_ q_14 => ?_)
      obtain ⟨rfl, S_15, F_17⟩ := q_14
      have S_16 : Sys h_13 ρ (ub (ub (ub β2 49 (cyN (csS (eK (κ 16)) (ρ t)) (0, 0) (laM (ρ t)))) 48 (0, 0)) 48 (eK (κ 16) (0, 0))) κ τ := S_15
      refine R_aload_n (pc := 77) 2 dX4_mac_77 rfl rfl ?_
      refine R_get (pc := 78) dX4_mac_78 fX4_33 S_16.2.2.2.2.2.2.2.2.1 (by omega) rfl ?_
      refine R_callVh (pc := 81) (μ' := mX0_makeDouble) (As := []) (st := []) dX4_mac_81 zX0_makeDouble lX4_63 ⟨by decide, by decide⟩ rfl rfl ⟨by decide, by decide⟩ (S_16.blk 48 rfl) (by omega) rfl (Nat.le_of_ble_eq_true rfl) (S_makeDouble S_16 hn rfl) (fun h_18 r_ q_19 => ?_)
      obtain ⟨rfl, S_20, F_22⟩ := q_19
      have S_21 : Sys h_18 ρ (ub (ub (ub (ub β2 49 (cyN (csS (eK (κ 16)) (ρ t)) (0, 0) (laM (ρ t)))) 48 (0, 0)) 48 (eK (κ 16) (0, 0))) 48 (dbl (eK (κ 16) (0, 0)))) κ τ := S_20
      refine R_aload_n (pc := 84) 4 dX4_mac_84 rfl rfl ?_
      refine R_aload_n (pc := 85) 3 dX4_mac_85 rfl rfl ?_
      refine R_iload_n (pc := 86) 1 dX4_mac_86 rfl rfl ?_
      refine R_callVh (pc := 87) (μ' := mX0_addPart) (As := [.ref t, .int (nI (16 * laM (ρ t)))]) (st := []) dX4_mac_87 zX0_addPart lX4_53 ⟨by decide, by decide⟩ rfl rfl ⟨by decide, by decide⟩ (S_21.blk 49 rfl) (by omega) rfl (Nat.le_of_ble_eq_true rfl) (S_addPart S_21 hn rfl ht (16 * laM (ρ t)) (by omega)) (fun h_23 r_ q_24 => ?_)
      obtain ⟨rfl, S_25, F_27⟩ := q_24
      have S_26 : Sys h_23 ρ (ub (ub (ub (ub (ub β2 49 (cyN (csS (eK (κ 16)) (ρ t)) (0, 0) (laM (ρ t)))) 48 (0, 0)) 48 (eK (κ 16) (0, 0))) 48 (dbl (eK (κ 16) (0, 0)))) 49 (xb (cyN (csS (eK (κ 16)) (ρ t)) (0, 0) (laM (ρ t))) (rd (ρ t) (16 * laM (ρ t))))) κ τ := S_25
      refine R_aload_n (pc := 90) 3 dX4_mac_90 rfl rfl ?_
      have := rw_cases (r := t) ht
      refine R_get (pc := 91) dX4_mac_91 fX4_47 (S_26.rowO t ht) (by omega) rfl ?_
      refine R_eqi (y := nI (ρ t).length) (by first | rfl | (simp only [ur_s, ur_ur])) ?_
      refine R_iload_n (pc := 94) 1 dX4_mac_94 rfl rfl ?_
      refine R_isub (pc := 95) dX4_mac_95 ?_
      refine R_eqi (y := nI ((ρ t).length - 16 * laM (ρ t))) (pk_sub (by omega)) ?_
      refine R_bipush (pc := 96) (v := 16) dX4_mac_96 (by decide) ?_
      refine R_icmp_ge (pc := 98) (tgt := 121) dX4_mac_98 (by decide) (fun c_28 => ?_) (fun c_28 => ?_)
      · skip
        refine R_aload_n (pc := 121) 4 dX4_mac_121 rfl rfl ?_
        refine R_aload_n (pc := 122) 2 dX4_mac_122 rfl rfl ?_
        refine R_get (pc := 123) dX4_mac_123 fX4_33 S_26.2.2.2.2.2.2.2.2.1 (by omega) rfl ?_
        refine R_callVh (pc := 126) (μ' := mX0_add) (As := [.ref 48]) (st := []) dX4_mac_126 zX0_add lX4_70 ⟨by decide, by decide⟩ rfl rfl ⟨by decide, by decide⟩ (S_26.blk 49 rfl) (by omega) rfl (Nat.le_of_ble_eq_true rfl) (S_add S_26 hn rfl rfl (by decide)) (fun h_29 r_ q_30 => ?_)
        obtain ⟨rfl, S_31, F_33⟩ := q_30
        have S_32 : Sys h_29 ρ (ub (ub (ub (ub (ub (ub β2 49 (cyN (csS (eK (κ 16)) (ρ t)) (0, 0) (laM (ρ t)))) 48 (0, 0)) 48 (eK (κ 16) (0, 0))) 48 (dbl (eK (κ 16) (0, 0)))) 49 (xb (cyN (csS (eK (κ 16)) (ρ t)) (0, 0) (laM (ρ t))) (rd (ρ t) (16 * laM (ρ t))))) 49 (xb (xb (cyN (csS (eK (κ 16)) (ρ t)) (0, 0) (laM (ρ t))) (rd (ρ t) (16 * laM (ρ t)))) (dbl (eK (κ 16) (0, 0))))) κ τ := S_31
        refine R_aload_n (pc := 129) 2 dX4_mac_129 rfl rfl ?_
        refine R_get (pc := 130) dX4_mac_130 fX4_7 S_32.2.2.2.2.2.2.2.2.1 (by omega) rfl ?_
        refine R_aload_n (pc := 133) 4 dX4_mac_133 rfl rfl ?_
        refine R_callVh (pc := 134) (μ' := mX2_encrypt) (As := [.ref 49]) (st := []) dX4_mac_134 zX2_encrypt lX4_57 ⟨by decide, by decide⟩ rfl rfl ⟨by decide, by decide⟩ (S_32.2.2.1 16 (by decide)).1 (by omega) rfl (Nat.le_of_ble_eq_true rfl) (S_encrypt S_32 hn (by decide) rfl hk.1 hk.2) (fun h_34 r_ q_35 => ?_)
        obtain ⟨rfl, S_36, F_38⟩ := q_35
        have S_37 : Sys h_34 ρ (ub (ub (ub (ub (ub (ub (ub β2 49 (cyN (csS (eK (κ 16)) (ρ t)) (0, 0) (laM (ρ t)))) 48 (0, 0)) 48 (eK (κ 16) (0, 0))) 48 (dbl (eK (κ 16) (0, 0)))) 49 (xb (cyN (csS (eK (κ 16)) (ρ t)) (0, 0) (laM (ρ t))) (rd (ρ t) (16 * laM (ρ t))))) 49 (xb (xb (cyN (csS (eK (κ 16)) (ρ t)) (0, 0) (laM (ρ t))) (rd (ρ t) (16 * laM (ρ t)))) (dbl (eK (κ 16) (0, 0))))) 49 (eK (κ 16) (xb (xb (cyN (csS (eK (κ 16)) (ρ t)) (0, 0) (laM (ρ t))) (rd (ρ t) (16 * laM (ρ t)))) (dbl (eK (κ 16) (0, 0)))))) κ τ := S_36
        rw [show macV (eK (κ 16)) (ρ t) = eK (κ 16) (xb (xb (cyN (csS (eK (κ 16)) (ρ t)) (0, 0) (laM (ρ t))) (rd (ρ t) (16 * laM (ρ t)))) (dbl (eK (κ 16) (0, 0)))) from by unfold macV; rw [if_pos c_28]; rfl]
        refine R_vreturn (pc := 137) dX4_mac_137 rfl (by decide) (by decide) ⟨rfl, (ub (ub (ub (ub (ub (ub (ub β2 49 (cyN (csS (eK (κ 16)) (ρ t)) (0, 0) (laM (ρ t)))) 48 (0, 0)) 48 (eK (κ 16) (0, 0))) 48 (dbl (eK (κ 16) (0, 0)))) 49 (xb (cyN (csS (eK (κ 16)) (ρ t)) (0, 0) (laM (ρ t))) (rd (ρ t) (16 * laM (ρ t))))) 49 (xb (xb (cyN (csS (eK (κ 16)) (ρ t)) (0, 0) (laM (ρ t))) (rd (ρ t) (16 * laM (ρ t)))) (dbl (eK (κ 16) (0, 0))))) 49 (eK (κ 16) (xb (xb (cyN (csS (eK (κ 16)) (ρ t)) (0, 0) (laM (ρ t))) (rd (ρ t) (16 * laM (ρ t)))) (dbl (eK (κ 16) (0, 0)))))), ?_, rfl, S_37, ((((((hF.tr F_12).tr F_17).tr F_22).tr F_27).tr F_33).tr F_38)⟩
        intro a_ n_
        simp only [List.mem_cons, List.not_mem_nil, or_false, not_or] at n_
        by_cases e0_ : a_ = 49
        · subst e0_; first | rfl | (simp only [ub_s]; done) | (simp (config := { decide := true }) only [ub, if_true, if_false, reduceIte]; first | rfl | skip)
        (try simp only [ub, if_neg, if_false, n_, e0_])
        (try simp only [ub_k])
        (try rw [hB a_ (by simp [n_, e0_])])
        (try simp only [ub, if_neg, if_false, n_, e0_])
        (try simp only [ub_k])
      · skip
        refine R_aload_n (pc := 101) 4 dX4_mac_101 rfl rfl ?_
        refine R_aload_n (pc := 102) 3 dX4_mac_102 rfl rfl ?_
        have := rw_cases (r := t) ht
        refine R_get (pc := 103) dX4_mac_103 fX4_47 (S_26.rowO t ht) (by omega) rfl ?_
        refine R_eqi (y := nI (ρ t).length) (by first | rfl | (simp only [ur_s, ur_ur])) ?_
        refine R_iload_n (pc := 106) 1 dX4_mac_106 rfl rfl ?_
        refine R_isub (pc := 107) dX4_mac_107 ?_
        refine R_eqi (y := nI ((ρ t).length - 16 * laM (ρ t))) (pk_sub (by omega)) ?_
        refine R_sipush (pc := 108) (v := 128) dX4_mac_108 (by decide) ?_
        refine R_callVh (pc := 111) (μ' := mX0_addOctet) (As := [.int (nI ((ρ t).length - 16 * laM (ρ t))), .int 128]) (st := []) dX4_mac_111 zX0_addOctet lX4_66 ⟨by decide, by decide⟩ rfl rfl ⟨by decide, by decide⟩ (S_26.blk 49 rfl) (by omega) rfl (Nat.le_of_ble_eq_true rfl) (S_addOctet S_26 hn rfl _ _) (fun h_39 r_ q_40 => ?_)
        obtain ⟨rfl, S_41, F_43⟩ := q_40
        have S_42 : Sys h_39 ρ (ub (ub (ub (ub (ub (ub β2 49 (cyN (csS (eK (κ 16)) (ρ t)) (0, 0) (laM (ρ t)))) 48 (0, 0)) 48 (eK (κ 16) (0, 0))) 48 (dbl (eK (κ 16) (0, 0)))) 49 (xb (cyN (csS (eK (κ 16)) (ρ t)) (0, 0) (laM (ρ t))) (rd (ρ t) (16 * laM (ρ t))))) 49 (aoc (xb (cyN (csS (eK (κ 16)) (ρ t)) (0, 0) (laM (ρ t))) (rd (ρ t) (16 * laM (ρ t)))) (nI ((ρ t).length - 16 * laM (ρ t))) 128)) κ τ := S_41
        refine R_aload_n (pc := 114) 2 dX4_mac_114 rfl rfl ?_
        refine R_get (pc := 115) dX4_mac_115 fX4_33 S_42.2.2.2.2.2.2.2.2.1 (by omega) rfl ?_
        refine R_callVh (pc := 118) (μ' := mX0_makeDouble) (As := []) (st := []) dX4_mac_118 zX0_makeDouble lX4_63 ⟨by decide, by decide⟩ rfl rfl ⟨by decide, by decide⟩ (S_42.blk 48 rfl) (by omega) rfl (Nat.le_of_ble_eq_true rfl) (S_makeDouble S_42 hn rfl) (fun h_44 r_ q_45 => ?_)
        obtain ⟨rfl, S_46, F_48⟩ := q_45
        have S_47 : Sys h_44 ρ (ub (ub (ub (ub (ub (ub (ub β2 49 (cyN (csS (eK (κ 16)) (ρ t)) (0, 0) (laM (ρ t)))) 48 (0, 0)) 48 (eK (κ 16) (0, 0))) 48 (dbl (eK (κ 16) (0, 0)))) 49 (xb (cyN (csS (eK (κ 16)) (ρ t)) (0, 0) (laM (ρ t))) (rd (ρ t) (16 * laM (ρ t))))) 49 (aoc (xb (cyN (csS (eK (κ 16)) (ρ t)) (0, 0) (laM (ρ t))) (rd (ρ t) (16 * laM (ρ t)))) (nI ((ρ t).length - 16 * laM (ρ t))) 128)) 48 (dbl (dbl (eK (κ 16) (0, 0))))) κ τ := S_46
        refine R_aload_n (pc := 121) 4 dX4_mac_121 rfl rfl ?_
        refine R_aload_n (pc := 122) 2 dX4_mac_122 rfl rfl ?_
        refine R_get (pc := 123) dX4_mac_123 fX4_33 S_47.2.2.2.2.2.2.2.2.1 (by omega) rfl ?_
        refine R_callVh (pc := 126) (μ' := mX0_add) (As := [.ref 48]) (st := []) dX4_mac_126 zX0_add lX4_70 ⟨by decide, by decide⟩ rfl rfl ⟨by decide, by decide⟩ (S_47.blk 49 rfl) (by omega) rfl (Nat.le_of_ble_eq_true rfl) (S_add S_47 hn rfl rfl (by decide)) (fun h_49 r_ q_50 => ?_)
        obtain ⟨rfl, S_51, F_53⟩ := q_50
        have S_52 : Sys h_49 ρ (ub (ub (ub (ub (ub (ub (ub (ub β2 49 (cyN (csS (eK (κ 16)) (ρ t)) (0, 0) (laM (ρ t)))) 48 (0, 0)) 48 (eK (κ 16) (0, 0))) 48 (dbl (eK (κ 16) (0, 0)))) 49 (xb (cyN (csS (eK (κ 16)) (ρ t)) (0, 0) (laM (ρ t))) (rd (ρ t) (16 * laM (ρ t))))) 49 (aoc (xb (cyN (csS (eK (κ 16)) (ρ t)) (0, 0) (laM (ρ t))) (rd (ρ t) (16 * laM (ρ t)))) (nI ((ρ t).length - 16 * laM (ρ t))) 128)) 48 (dbl (dbl (eK (κ 16) (0, 0))))) 49 (xb (aoc (xb (cyN (csS (eK (κ 16)) (ρ t)) (0, 0) (laM (ρ t))) (rd (ρ t) (16 * laM (ρ t)))) (nI ((ρ t).length - 16 * laM (ρ t))) 128) (dbl (dbl (eK (κ 16) (0, 0)))))) κ τ := S_51
        refine R_aload_n (pc := 129) 2 dX4_mac_129 rfl rfl ?_
        refine R_get (pc := 130) dX4_mac_130 fX4_7 S_52.2.2.2.2.2.2.2.2.1 (by omega) rfl ?_
        refine R_aload_n (pc := 133) 4 dX4_mac_133 rfl rfl ?_
        refine R_callVh (pc := 134) (μ' := mX2_encrypt) (As := [.ref 49]) (st := []) dX4_mac_134 zX2_encrypt lX4_57 ⟨by decide, by decide⟩ rfl rfl ⟨by decide, by decide⟩ (S_52.2.2.1 16 (by decide)).1 (by omega) rfl (Nat.le_of_ble_eq_true rfl) (S_encrypt S_52 hn (by decide) rfl hk.1 hk.2) (fun h_54 r_ q_55 => ?_)
        obtain ⟨rfl, S_56, F_58⟩ := q_55
        have S_57 : Sys h_54 ρ (ub (ub (ub (ub (ub (ub (ub (ub (ub β2 49 (cyN (csS (eK (κ 16)) (ρ t)) (0, 0) (laM (ρ t)))) 48 (0, 0)) 48 (eK (κ 16) (0, 0))) 48 (dbl (eK (κ 16) (0, 0)))) 49 (xb (cyN (csS (eK (κ 16)) (ρ t)) (0, 0) (laM (ρ t))) (rd (ρ t) (16 * laM (ρ t))))) 49 (aoc (xb (cyN (csS (eK (κ 16)) (ρ t)) (0, 0) (laM (ρ t))) (rd (ρ t) (16 * laM (ρ t)))) (nI ((ρ t).length - 16 * laM (ρ t))) 128)) 48 (dbl (dbl (eK (κ 16) (0, 0))))) 49 (xb (aoc (xb (cyN (csS (eK (κ 16)) (ρ t)) (0, 0) (laM (ρ t))) (rd (ρ t) (16 * laM (ρ t)))) (nI ((ρ t).length - 16 * laM (ρ t))) 128) (dbl (dbl (eK (κ 16) (0, 0)))))) 49 (eK (κ 16) (xb (aoc (xb (cyN (csS (eK (κ 16)) (ρ t)) (0, 0) (laM (ρ t))) (rd (ρ t) (16 * laM (ρ t)))) (nI ((ρ t).length - 16 * laM (ρ t))) 128) (dbl (dbl (eK (κ 16) (0, 0))))))) κ τ := S_56
        rw [show macV (eK (κ 16)) (ρ t) = eK (κ 16) (xb (aoc (xb (cyN (csS (eK (κ 16)) (ρ t)) (0, 0) (laM (ρ t))) (rd (ρ t) (16 * laM (ρ t)))) (nI ((ρ t).length - 16 * laM (ρ t))) 128) (dbl (dbl (eK (κ 16) (0, 0))))) from by unfold macV; rw [if_neg c_28]; rfl]
        refine R_vreturn (pc := 137) dX4_mac_137 rfl (by decide) (by decide) ⟨rfl, (ub (ub (ub (ub (ub (ub (ub (ub (ub β2 49 (cyN (csS (eK (κ 16)) (ρ t)) (0, 0) (laM (ρ t)))) 48 (0, 0)) 48 (eK (κ 16) (0, 0))) 48 (dbl (eK (κ 16) (0, 0)))) 49 (xb (cyN (csS (eK (κ 16)) (ρ t)) (0, 0) (laM (ρ t))) (rd (ρ t) (16 * laM (ρ t))))) 49 (aoc (xb (cyN (csS (eK (κ 16)) (ρ t)) (0, 0) (laM (ρ t))) (rd (ρ t) (16 * laM (ρ t)))) (nI ((ρ t).length - 16 * laM (ρ t))) 128)) 48 (dbl (dbl (eK (κ 16) (0, 0))))) 49 (xb (aoc (xb (cyN (csS (eK (κ 16)) (ρ t)) (0, 0) (laM (ρ t))) (rd (ρ t) (16 * laM (ρ t)))) (nI ((ρ t).length - 16 * laM (ρ t))) 128) (dbl (dbl (eK (κ 16) (0, 0)))))) 49 (eK (κ 16) (xb (aoc (xb (cyN (csS (eK (κ 16)) (ρ t)) (0, 0) (laM (ρ t))) (rd (ρ t) (16 * laM (ρ t)))) (nI ((ρ t).length - 16 * laM (ρ t))) 128) (dbl (dbl (eK (κ 16) (0, 0))))))), ?_, rfl, S_57, ((((((((hF.tr F_12).tr F_17).tr F_22).tr F_27).tr F_43).tr F_48).tr F_53).tr F_58)⟩
        intro a_ n_
        simp only [List.mem_cons, List.not_mem_nil, or_false, not_or] at n_
        by_cases e0_ : a_ = 49
        · subst e0_; first | rfl | (simp only [ub_s]; done) | (simp (config := { decide := true }) only [ub, if_true, if_false, reduceIte]; first | rfl | skip)
        (try simp only [ub, if_neg, if_false, n_, e0_])
        (try simp only [ub_k])
        (try rw [hB a_ (by simp [n_, e0_])])
        (try simp only [ub, if_neg, if_false, n_, e0_])
        (try simp only [ub_k])
    · simp only [List.mem_cons, List.not_mem_nil, or_false, not_or] at n_; (try simp only [ub, if_neg, n_, if_false])
  · skip
    refine R_iconst (pc := 7) (v := 0) dX4_mac_7 (by decide) ?_
    refine R_eqi (y := nI (16 * laM (ρ t))) (by rw [show (16 * laM (ρ t)) = 0 by have := (nI_eq (a := (ρ t).length) (b := 0) (by omega) (by omega)).mp c_1; unfold laM; omega]; rfl) ?_
    refine R_goto (pc := 8) (tgt := 20) dX4_mac_8 (by decide) ?_
    refine R_istore_n (pc := 20) (lv' := [(3, .int (nI (16 * laM (ρ t)))), (0, .ref 47), (1, .ref t), (2, .ref 49)]) dX4_mac_20 rfl (by decide) rfl ?_
    refine R_aload_n (pc := 21) 3 dX4_mac_21 rfl rfl ?_
    refine R_lconst (pc := 22) (v := 0) dX4_mac_22 (by decide) ?_
    refine R_lconst (pc := 23) (v := 0) dX4_mac_23 (by decide) ?_
    refine R_callVh (pc := 24) (μ' := mX0_become) (As := [.long 0, .long 0]) (st := []) dX4_mac_24 zX0_become lX4_43 ⟨by decide, by decide⟩ rfl rfl ⟨by decide, by decide⟩ (S.blk 49 rfl) (by omega) rfl (Nat.le_of_ble_eq_true rfl) (S_become S hn rfl _ _) (fun h_59 r_ q_60 => ?_)
    obtain ⟨rfl, S_61, F_63⟩ := q_60
    have S_62 : Sys h_59 ρ (ub β 49 (0, 0)) κ τ := S_61
    refine R_iconst (pc := 27) (v := 0) dX4_mac_27 (by decide) ?_
    refine R_istore (pc := 28) (lv' := [(4, .int 0), (3, .int (nI (16 * laM (ρ t)))), (0, .ref 47), (1, .ref t), (2, .ref 49)]) dX4_mac_28 (by decide) rfl ?_
    refine R_sub [0, 1, 2, 3, 4] rfl ?_
    refine qX4_mac_49_loop S hn ht hk ?_ (laM (ρ t)) 0 (by omega) h_59 (ub β 49 (0, 0)) S_62 rfl (fun a_ n_ => ?_) F_63
    · intro h2 β2 S2 hv49 hB hF
      have S_64 : Sys h2 ρ (ub β2 49 (cyN (csS (eK (κ 16)) (ρ t)) (0, 0) (laM (ρ t)))) κ τ := Sys.know S2 (hv49)
      refine R_aload_n (pc := 57) 2 dX4_mac_57 rfl rfl ?_
      refine R_get (pc := 58) dX4_mac_58 fX4_33 S_64.2.2.2.2.2.2.2.2.1 (by omega) rfl ?_
      refine R_lconst (pc := 61) (v := 0) dX4_mac_61 (by decide) ?_
      refine R_lconst (pc := 62) (v := 0) dX4_mac_62 (by decide) ?_
      refine R_callVh (pc := 63) (μ' := mX0_become) (As := [.long 0, .long 0]) (st := []) dX4_mac_63 zX0_become lX4_43 ⟨by decide, by decide⟩ rfl rfl ⟨by decide, by decide⟩ (S_64.blk 48 rfl) (by omega) rfl (Nat.le_of_ble_eq_true rfl) (S_become S_64 hn rfl _ _) (fun h_65 r_ q_66 => ?_)
      obtain ⟨rfl, S_67, F_69⟩ := q_66
      have S_68 : Sys h_65 ρ (ub (ub β2 49 (cyN (csS (eK (κ 16)) (ρ t)) (0, 0) (laM (ρ t)))) 48 (0, 0)) κ τ := S_67
      refine R_aload_n (pc := 66) 2 dX4_mac_66 rfl rfl ?_
      refine R_get (pc := 67) dX4_mac_67 fX4_7 S_68.2.2.2.2.2.2.2.2.1 (by omega) rfl ?_
      refine R_aload_n (pc := 70) 2 dX4_mac_70 rfl rfl ?_
      refine R_get (pc := 71) dX4_mac_71 fX4_33 S_68.2.2.2.2.2.2.2.2.1 (by omega) rfl ?_
      refine R_callVh (pc := 74) (μ' := mX2_encrypt) (As := [.ref 48]) (st := []) dX4_mac_74 zX2_encrypt lX4_57 ⟨by decide, by decide⟩ rfl rfl ⟨by decide, by decide⟩ (S_68.2.2.1 16 (by decide)).1 (by omega) rfl (Nat.le_of_ble_eq_true rfl) (S_encrypt S_68 hn (by decide) rfl hk.1 hk.2) (fun h_70 r_ q_71 => ?_)
      obtain ⟨rfl, S_72, F_74⟩ := q_71
      have S_73 : Sys h_70 ρ (ub (ub (ub β2 49 (cyN (csS (eK (κ 16)) (ρ t)) (0, 0) (laM (ρ t)))) 48 (0, 0)) 48 (eK (κ 16) (0, 0))) κ τ := S_72
      refine R_aload_n (pc := 77) 2 dX4_mac_77 rfl rfl ?_
      refine R_get (pc := 78) dX4_mac_78 fX4_33 S_73.2.2.2.2.2.2.2.2.1 (by omega) rfl ?_
      refine R_callVh (pc := 81) (μ' := mX0_makeDouble) (As := []) (st := []) dX4_mac_81 zX0_makeDouble lX4_63 ⟨by decide, by decide⟩ rfl rfl ⟨by decide, by decide⟩ (S_73.blk 48 rfl) (by omega) rfl (Nat.le_of_ble_eq_true rfl) (S_makeDouble S_73 hn rfl) (fun h_75 r_ q_76 => ?_)
      obtain ⟨rfl, S_77, F_79⟩ := q_76
      have S_78 : Sys h_75 ρ (ub (ub (ub (ub β2 49 (cyN (csS (eK (κ 16)) (ρ t)) (0, 0) (laM (ρ t)))) 48 (0, 0)) 48 (eK (κ 16) (0, 0))) 48 (dbl (eK (κ 16) (0, 0)))) κ τ := S_77
      refine R_aload_n (pc := 84) 4 dX4_mac_84 rfl rfl ?_
      refine R_aload_n (pc := 85) 3 dX4_mac_85 rfl rfl ?_
      refine R_iload_n (pc := 86) 1 dX4_mac_86 rfl rfl ?_
      refine R_callVh (pc := 87) (μ' := mX0_addPart) (As := [.ref t, .int (nI (16 * laM (ρ t)))]) (st := []) dX4_mac_87 zX0_addPart lX4_53 ⟨by decide, by decide⟩ rfl rfl ⟨by decide, by decide⟩ (S_78.blk 49 rfl) (by omega) rfl (Nat.le_of_ble_eq_true rfl) (S_addPart S_78 hn rfl ht (16 * laM (ρ t)) (by omega)) (fun h_80 r_ q_81 => ?_)
      obtain ⟨rfl, S_82, F_84⟩ := q_81
      have S_83 : Sys h_80 ρ (ub (ub (ub (ub (ub β2 49 (cyN (csS (eK (κ 16)) (ρ t)) (0, 0) (laM (ρ t)))) 48 (0, 0)) 48 (eK (κ 16) (0, 0))) 48 (dbl (eK (κ 16) (0, 0)))) 49 (xb (cyN (csS (eK (κ 16)) (ρ t)) (0, 0) (laM (ρ t))) (rd (ρ t) (16 * laM (ρ t))))) κ τ := S_82
      refine R_aload_n (pc := 90) 3 dX4_mac_90 rfl rfl ?_
      have := rw_cases (r := t) ht
      refine R_get (pc := 91) dX4_mac_91 fX4_47 (S_83.rowO t ht) (by omega) rfl ?_
      refine R_eqi (y := nI (ρ t).length) (by first | rfl | (simp only [ur_s, ur_ur])) ?_
      refine R_iload_n (pc := 94) 1 dX4_mac_94 rfl rfl ?_
      refine R_isub (pc := 95) dX4_mac_95 ?_
      refine R_eqi (y := nI ((ρ t).length - 16 * laM (ρ t))) (pk_sub (by omega)) ?_
      refine R_bipush (pc := 96) (v := 16) dX4_mac_96 (by decide) ?_
      refine R_icmp_ge (pc := 98) (tgt := 121) dX4_mac_98 (by decide) (fun c_85 => ?_) (fun c_85 => ?_)
      · skip
        refine R_aload_n (pc := 121) 4 dX4_mac_121 rfl rfl ?_
        refine R_aload_n (pc := 122) 2 dX4_mac_122 rfl rfl ?_
        refine R_get (pc := 123) dX4_mac_123 fX4_33 S_83.2.2.2.2.2.2.2.2.1 (by omega) rfl ?_
        refine R_callVh (pc := 126) (μ' := mX0_add) (As := [.ref 48]) (st := []) dX4_mac_126 zX0_add lX4_70 ⟨by decide, by decide⟩ rfl rfl ⟨by decide, by decide⟩ (S_83.blk 49 rfl) (by omega) rfl (Nat.le_of_ble_eq_true rfl) (S_add S_83 hn rfl rfl (by decide)) (fun h_86 r_ q_87 => ?_)
        obtain ⟨rfl, S_88, F_90⟩ := q_87
        have S_89 : Sys h_86 ρ (ub (ub (ub (ub (ub (ub β2 49 (cyN (csS (eK (κ 16)) (ρ t)) (0, 0) (laM (ρ t)))) 48 (0, 0)) 48 (eK (κ 16) (0, 0))) 48 (dbl (eK (κ 16) (0, 0)))) 49 (xb (cyN (csS (eK (κ 16)) (ρ t)) (0, 0) (laM (ρ t))) (rd (ρ t) (16 * laM (ρ t))))) 49 (xb (xb (cyN (csS (eK (κ 16)) (ρ t)) (0, 0) (laM (ρ t))) (rd (ρ t) (16 * laM (ρ t)))) (dbl (eK (κ 16) (0, 0))))) κ τ := S_88
        refine R_aload_n (pc := 129) 2 dX4_mac_129 rfl rfl ?_
        refine R_get (pc := 130) dX4_mac_130 fX4_7 S_89.2.2.2.2.2.2.2.2.1 (by omega) rfl ?_
        refine R_aload_n (pc := 133) 4 dX4_mac_133 rfl rfl ?_
        refine R_callVh (pc := 134) (μ' := mX2_encrypt) (As := [.ref 49]) (st := []) dX4_mac_134 zX2_encrypt lX4_57 ⟨by decide, by decide⟩ rfl rfl ⟨by decide, by decide⟩ (S_89.2.2.1 16 (by decide)).1 (by omega) rfl (Nat.le_of_ble_eq_true rfl) (S_encrypt S_89 hn (by decide) rfl hk.1 hk.2) (fun h_91 r_ q_92 => ?_)
        obtain ⟨rfl, S_93, F_95⟩ := q_92
        have S_94 : Sys h_91 ρ (ub (ub (ub (ub (ub (ub (ub β2 49 (cyN (csS (eK (κ 16)) (ρ t)) (0, 0) (laM (ρ t)))) 48 (0, 0)) 48 (eK (κ 16) (0, 0))) 48 (dbl (eK (κ 16) (0, 0)))) 49 (xb (cyN (csS (eK (κ 16)) (ρ t)) (0, 0) (laM (ρ t))) (rd (ρ t) (16 * laM (ρ t))))) 49 (xb (xb (cyN (csS (eK (κ 16)) (ρ t)) (0, 0) (laM (ρ t))) (rd (ρ t) (16 * laM (ρ t)))) (dbl (eK (κ 16) (0, 0))))) 49 (eK (κ 16) (xb (xb (cyN (csS (eK (κ 16)) (ρ t)) (0, 0) (laM (ρ t))) (rd (ρ t) (16 * laM (ρ t)))) (dbl (eK (κ 16) (0, 0)))))) κ τ := S_93
        rw [show macV (eK (κ 16)) (ρ t) = eK (κ 16) (xb (xb (cyN (csS (eK (κ 16)) (ρ t)) (0, 0) (laM (ρ t))) (rd (ρ t) (16 * laM (ρ t)))) (dbl (eK (κ 16) (0, 0)))) from by unfold macV; rw [if_pos c_85]; rfl]
        refine R_vreturn (pc := 137) dX4_mac_137 rfl (by decide) (by decide) ⟨rfl, (ub (ub (ub (ub (ub (ub (ub β2 49 (cyN (csS (eK (κ 16)) (ρ t)) (0, 0) (laM (ρ t)))) 48 (0, 0)) 48 (eK (κ 16) (0, 0))) 48 (dbl (eK (κ 16) (0, 0)))) 49 (xb (cyN (csS (eK (κ 16)) (ρ t)) (0, 0) (laM (ρ t))) (rd (ρ t) (16 * laM (ρ t))))) 49 (xb (xb (cyN (csS (eK (κ 16)) (ρ t)) (0, 0) (laM (ρ t))) (rd (ρ t) (16 * laM (ρ t)))) (dbl (eK (κ 16) (0, 0))))) 49 (eK (κ 16) (xb (xb (cyN (csS (eK (κ 16)) (ρ t)) (0, 0) (laM (ρ t))) (rd (ρ t) (16 * laM (ρ t)))) (dbl (eK (κ 16) (0, 0)))))), ?_, rfl, S_94, ((((((hF.tr F_69).tr F_74).tr F_79).tr F_84).tr F_90).tr F_95)⟩
        intro a_ n_
        simp only [List.mem_cons, List.not_mem_nil, or_false, not_or] at n_
        by_cases e0_ : a_ = 49
        · subst e0_; first | rfl | (simp only [ub_s]; done) | (simp (config := { decide := true }) only [ub, if_true, if_false, reduceIte]; first | rfl | skip)
        (try simp only [ub, if_neg, if_false, n_, e0_])
        (try simp only [ub_k])
        (try rw [hB a_ (by simp [n_, e0_])])
        (try simp only [ub, if_neg, if_false, n_, e0_])
        (try simp only [ub_k])
      · skip
        refine R_aload_n (pc := 101) 4 dX4_mac_101 rfl rfl ?_
        refine R_aload_n (pc := 102) 3 dX4_mac_102 rfl rfl ?_
        have := rw_cases (r := t) ht
        refine R_get (pc := 103) dX4_mac_103 fX4_47 (S_83.rowO t ht) (by omega) rfl ?_
        refine R_eqi (y := nI (ρ t).length) (by first | rfl | (simp only [ur_s, ur_ur])) ?_
        refine R_iload_n (pc := 106) 1 dX4_mac_106 rfl rfl ?_
        refine R_isub (pc := 107) dX4_mac_107 ?_
        refine R_eqi (y := nI ((ρ t).length - 16 * laM (ρ t))) (pk_sub (by omega)) ?_
        refine R_sipush (pc := 108) (v := 128) dX4_mac_108 (by decide) ?_
        refine R_callVh (pc := 111) (μ' := mX0_addOctet) (As := [.int (nI ((ρ t).length - 16 * laM (ρ t))), .int 128]) (st := []) dX4_mac_111 zX0_addOctet lX4_66 ⟨by decide, by decide⟩ rfl rfl ⟨by decide, by decide⟩ (S_83.blk 49 rfl) (by omega) rfl (Nat.le_of_ble_eq_true rfl) (S_addOctet S_83 hn rfl _ _) (fun h_96 r_ q_97 => ?_)
        obtain ⟨rfl, S_98, F_100⟩ := q_97
        have S_99 : Sys h_96 ρ (ub (ub (ub (ub (ub (ub β2 49 (cyN (csS (eK (κ 16)) (ρ t)) (0, 0) (laM (ρ t)))) 48 (0, 0)) 48 (eK (κ 16) (0, 0))) 48 (dbl (eK (κ 16) (0, 0)))) 49 (xb (cyN (csS (eK (κ 16)) (ρ t)) (0, 0) (laM (ρ t))) (rd (ρ t) (16 * laM (ρ t))))) 49 (aoc (xb (cyN (csS (eK (κ 16)) (ρ t)) (0, 0) (laM (ρ t))) (rd (ρ t) (16 * laM (ρ t)))) (nI ((ρ t).length - 16 * laM (ρ t))) 128)) κ τ := S_98
        refine R_aload_n (pc := 114) 2 dX4_mac_114 rfl rfl ?_
        refine R_get (pc := 115) dX4_mac_115 fX4_33 S_99.2.2.2.2.2.2.2.2.1 (by omega) rfl ?_
        refine R_callVh (pc := 118) (μ' := mX0_makeDouble) (As := []) (st := []) dX4_mac_118 zX0_makeDouble lX4_63 ⟨by decide, by decide⟩ rfl rfl ⟨by decide, by decide⟩ (S_99.blk 48 rfl) (by omega) rfl (Nat.le_of_ble_eq_true rfl) (S_makeDouble S_99 hn rfl) (fun h_101 r_ q_102 => ?_)
        obtain ⟨rfl, S_103, F_105⟩ := q_102
        have S_104 : Sys h_101 ρ (ub (ub (ub (ub (ub (ub (ub β2 49 (cyN (csS (eK (κ 16)) (ρ t)) (0, 0) (laM (ρ t)))) 48 (0, 0)) 48 (eK (κ 16) (0, 0))) 48 (dbl (eK (κ 16) (0, 0)))) 49 (xb (cyN (csS (eK (κ 16)) (ρ t)) (0, 0) (laM (ρ t))) (rd (ρ t) (16 * laM (ρ t))))) 49 (aoc (xb (cyN (csS (eK (κ 16)) (ρ t)) (0, 0) (laM (ρ t))) (rd (ρ t) (16 * laM (ρ t)))) (nI ((ρ t).length - 16 * laM (ρ t))) 128)) 48 (dbl (dbl (eK (κ 16) (0, 0))))) κ τ := S_103
        refine R_aload_n (pc := 121) 4 dX4_mac_121 rfl rfl ?_
        refine R_aload_n (pc := 122) 2 dX4_mac_122 rfl rfl ?_
        refine R_get (pc := 123) dX4_mac_123 fX4_33 S_104.2.2.2.2.2.2.2.2.1 (by omega) rfl ?_
        refine R_callVh (pc := 126) (μ' := mX0_add) (As := [.ref 48]) (st := []) dX4_mac_126 zX0_add lX4_70 ⟨by decide, by decide⟩ rfl rfl ⟨by decide, by decide⟩ (S_104.blk 49 rfl) (by omega) rfl (Nat.le_of_ble_eq_true rfl) (S_add S_104 hn rfl rfl (by decide)) (fun h_106 r_ q_107 => ?_)
        obtain ⟨rfl, S_108, F_110⟩ := q_107
        have S_109 : Sys h_106 ρ (ub (ub (ub (ub (ub (ub (ub (ub β2 49 (cyN (csS (eK (κ 16)) (ρ t)) (0, 0) (laM (ρ t)))) 48 (0, 0)) 48 (eK (κ 16) (0, 0))) 48 (dbl (eK (κ 16) (0, 0)))) 49 (xb (cyN (csS (eK (κ 16)) (ρ t)) (0, 0) (laM (ρ t))) (rd (ρ t) (16 * laM (ρ t))))) 49 (aoc (xb (cyN (csS (eK (κ 16)) (ρ t)) (0, 0) (laM (ρ t))) (rd (ρ t) (16 * laM (ρ t)))) (nI ((ρ t).length - 16 * laM (ρ t))) 128)) 48 (dbl (dbl (eK (κ 16) (0, 0))))) 49 (xb (aoc (xb (cyN (csS (eK (κ 16)) (ρ t)) (0, 0) (laM (ρ t))) (rd (ρ t) (16 * laM (ρ t)))) (nI ((ρ t).length - 16 * laM (ρ t))) 128) (dbl (dbl (eK (κ 16) (0, 0)))))) κ τ := S_108
        refine R_aload_n (pc := 129) 2 dX4_mac_129 rfl rfl ?_
        refine R_get (pc := 130) dX4_mac_130 fX4_7 S_109.2.2.2.2.2.2.2.2.1 (by omega) rfl ?_
        refine R_aload_n (pc := 133) 4 dX4_mac_133 rfl rfl ?_
        refine R_callVh (pc := 134) (μ' := mX2_encrypt) (As := [.ref 49]) (st := []) dX4_mac_134 zX2_encrypt lX4_57 ⟨by decide, by decide⟩ rfl rfl ⟨by decide, by decide⟩ (S_109.2.2.1 16 (by decide)).1 (by omega) rfl (Nat.le_of_ble_eq_true rfl) (S_encrypt S_109 hn (by decide) rfl hk.1 hk.2) (fun h_111 r_ q_112 => ?_)
        obtain ⟨rfl, S_113, F_115⟩ := q_112
        have S_114 : Sys h_111 ρ (ub (ub (ub (ub (ub (ub (ub (ub (ub β2 49 (cyN (csS (eK (κ 16)) (ρ t)) (0, 0) (laM (ρ t)))) 48 (0, 0)) 48 (eK (κ 16) (0, 0))) 48 (dbl (eK (κ 16) (0, 0)))) 49 (xb (cyN (csS (eK (κ 16)) (ρ t)) (0, 0) (laM (ρ t))) (rd (ρ t) (16 * laM (ρ t))))) 49 (aoc (xb (cyN (csS (eK (κ 16)) (ρ t)) (0, 0) (laM (ρ t))) (rd (ρ t) (16 * laM (ρ t)))) (nI ((ρ t).length - 16 * laM (ρ t))) 128)) 48 (dbl (dbl (eK (κ 16) (0, 0))))) 49 (xb (aoc (xb (cyN (csS (eK (κ 16)) (ρ t)) (0, 0) (laM (ρ t))) (rd (ρ t) (16 * laM (ρ t)))) (nI ((ρ t).length - 16 * laM (ρ t))) 128) (dbl (dbl (eK (κ 16) (0, 0)))))) 49 (eK (κ 16) (xb (aoc (xb (cyN (csS (eK (κ 16)) (ρ t)) (0, 0) (laM (ρ t))) (rd (ρ t) (16 * laM (ρ t)))) (nI ((ρ t).length - 16 * laM (ρ t))) 128) (dbl (dbl (eK (κ 16) (0, 0))))))) κ τ := S_113
        rw [show macV (eK (κ 16)) (ρ t) = eK (κ 16) (xb (aoc (xb (cyN (csS (eK (κ 16)) (ρ t)) (0, 0) (laM (ρ t))) (rd (ρ t) (16 * laM (ρ t)))) (nI ((ρ t).length - 16 * laM (ρ t))) 128) (dbl (dbl (eK (κ 16) (0, 0))))) from by unfold macV; rw [if_neg c_85]; rfl]
        refine R_vreturn (pc := 137) dX4_mac_137 rfl (by decide) (by decide) ⟨rfl, (ub (ub (ub (ub (ub (ub (ub (ub (ub β2 49 (cyN (csS (eK (κ 16)) (ρ t)) (0, 0) (laM (ρ t)))) 48 (0, 0)) 48 (eK (κ 16) (0, 0))) 48 (dbl (eK (κ 16) (0, 0)))) 49 (xb (cyN (csS (eK (κ 16)) (ρ t)) (0, 0) (laM (ρ t))) (rd (ρ t) (16 * laM (ρ t))))) 49 (aoc (xb (cyN (csS (eK (κ 16)) (ρ t)) (0, 0) (laM (ρ t))) (rd (ρ t) (16 * laM (ρ t)))) (nI ((ρ t).length - 16 * laM (ρ t))) 128)) 48 (dbl (dbl (eK (κ 16) (0, 0))))) 49 (xb (aoc (xb (cyN (csS (eK (κ 16)) (ρ t)) (0, 0) (laM (ρ t))) (rd (ρ t) (16 * laM (ρ t)))) (nI ((ρ t).length - 16 * laM (ρ t))) 128) (dbl (dbl (eK (κ 16) (0, 0)))))) 49 (eK (κ 16) (xb (aoc (xb (cyN (csS (eK (κ 16)) (ρ t)) (0, 0) (laM (ρ t))) (rd (ρ t) (16 * laM (ρ t)))) (nI ((ρ t).length - 16 * laM (ρ t))) 128) (dbl (dbl (eK (κ 16) (0, 0))))))), ?_, rfl, S_114, ((((((((hF.tr F_69).tr F_74).tr F_79).tr F_84).tr F_100).tr F_105).tr F_110).tr F_115)⟩
        intro a_ n_
        simp only [List.mem_cons, List.not_mem_nil, or_false, not_or] at n_
        by_cases e0_ : a_ = 49
        · subst e0_; first | rfl | (simp only [ub_s]; done) | (simp (config := { decide := true }) only [ub, if_true, if_false, reduceIte]; first | rfl | skip)
        (try simp only [ub, if_neg, if_false, n_, e0_])
        (try simp only [ub_k])
        (try rw [hB a_ (by simp [n_, e0_])])
        (try simp only [ub, if_neg, if_false, n_, e0_])
        (try simp only [ub_k])
    · simp only [List.mem_cons, List.not_mem_nil, or_false, not_or] at n_; (try simp only [ub, if_neg, n_, if_false])
set_option maxHeartbeats 4000000 in
set_option maxRecDepth 100000 in
theorem qX4_mac_50_loop {l : Launch} {w : am_W} {h : am_H} {n : Nat} {ρ : Nat → List (BitVec 8)} {β : Nat → bP} {κ : Nat → kT} {τ : Nat × Nat × Nat} (S : Sys h ρ β κ τ) (hn : 60 ≤ n) {t : Nat} (ht : isRw t = true) (hk : kOk (κ 16)) (kk : ∀ h2 β2, Sys h2 ρ β2 κ τ → β2 50 = cyN (csS (eK (κ 16)) (ρ t)) (0, 0) (laM (ρ t)) → (∀ a, a ∉ [48, 50] → β2 a = β a) → Fr h h2 → RW l w mX4_mac h2 n 0 0 57 [(4, .int (nI (16 * (laM (ρ t))))), (3, .int (nI (16 * laM (ρ t)))), (0, .ref 47), (1, .ref t), (2, .ref 50)] [] (fun h' n' r_ => n' = n ∧ (SX h τ none ρ (ub β 50 (macV (eK (κ 16)) (ρ t))) κ [48]) h' r_)) : ∀ (d i : Nat), i + d = laM (ρ t) → ∀ h2 β2, Sys h2 ρ β2 κ τ → β2 50 = cyN (csS (eK (κ 16)) (ρ t)) (0, 0) i → (∀ a, a ∉ [48, 50] → β2 a = β a) → Fr h h2 → RW l w mX4_mac h2 n 0 0 30 [(4, .int (nI (16 * i))), (3, .int (nI (16 * laM (ρ t)))), (0, .ref 47), (1, .ref t), (2, .ref 50)] [] (fun h' n' r_ => n' = n ∧ (SX h τ none ρ (ub β 50 (macV (eK (κ 16)) (ρ t))) κ [48]) h' r_) := by
  have hlt := S.len t ht
  have htc := rw_cases ht
  have hla : 16 * laM (ρ t) ≤ (ρ t).length ∧ (ρ t).length ≤ 16 * laM (ρ t) + 16 := by unfold laM; omega
  intro d
  induction d with
  | zero =>
    intro i hd h2 β2 S2 hv50 hB hF
    refine R_iload (pc := 30) 0 dX4_mac_30 rfl ?_
    refine R_iload_n (pc := 32) 1 dX4_mac_32 rfl rfl ?_
    refine R_icmp_ge (pc := 33) (tgt := 57) dX4_mac_33 (by decide) (fun c_1 => ?_) (fun c_1 => absurd (nI_le (by omega) (by omega)) c_1)
    obtain rfl : i = laM (ρ t) := by omega
    exact kk h2 β2 S2 hv50 hB hF
  | succ d ih =>
    intro i hd h2 β2 S2 hv50 hB hF
    have S_1 : Sys h2 ρ (ub β2 50 (cyN (csS (eK (κ 16)) (ρ t)) (0, 0) i)) κ τ := Sys.know S2 (hv50)
    refine R_iload (pc := 30) 0 dX4_mac_30 rfl ?_
    refine R_iload_n (pc := 32) 1 dX4_mac_32 rfl rfl ?_
    refine R_icmp_ge (pc := 33) (tgt := 57) dX4_mac_33 (by decide) (fun c_2 => absurd c_2 (nI_ge (by omega) (by omega))) (fun c_2 => ?_)
    refine R_aload_n (pc := 36) 4 dX4_mac_36 rfl rfl ?_
    refine R_aload_n (pc := 37) 3 dX4_mac_37 rfl rfl ?_
    refine R_iload (pc := 38) 0 dX4_mac_38 rfl ?_
    refine R_callVh (pc := 40) (μ' := mX0_addPart) (As := [.ref t, .int (nI (16 * i))]) (st := []) dX4_mac_40 zX0_addPart lX4_53 ⟨by decide, by decide⟩ rfl rfl ⟨by decide, by decide⟩ (S_1.blk 50 rfl) (by omega) rfl (Nat.le_of_ble_eq_true rfl) (S_addPart S_1 hn rfl ht (16 * i) (by omega)) (fun h_3 r_ q_4 => ?_)
    obtain ⟨rfl, S_5, F_7⟩ := q_4
    have S_6 : Sys h_3 ρ (ub (ub β2 50 (cyN (csS (eK (κ 16)) (ρ t)) (0, 0) i)) 50 (xb (cyN (csS (eK (κ 16)) (ρ t)) (0, 0) i) (rd (ρ t) (16 * i)))) κ τ := S_5
    refine R_aload_n (pc := 43) 2 dX4_mac_43 rfl rfl ?_
    refine R_get (pc := 44) dX4_mac_44 fX4_7 S_6.2.2.2.2.2.2.2.2.1 (by omega) rfl ?_
    refine R_aload_n (pc := 47) 4 dX4_mac_47 rfl rfl ?_
    refine R_callVh (pc := 48) (μ' := mX2_encrypt) (As := [.ref 50]) (st := []) dX4_mac_48 zX2_encrypt lX4_57 ⟨by decide, by decide⟩ rfl rfl ⟨by decide, by decide⟩ (S_6.2.2.1 16 (by decide)).1 (by omega) rfl (Nat.le_of_ble_eq_true rfl) (S_encrypt S_6 hn (by decide) rfl hk.1 hk.2) (fun h_8 r_ q_9 => ?_)
    obtain ⟨rfl, S_10, F_12⟩ := q_9
    have S_11 : Sys h_8 ρ (ub (ub (ub β2 50 (cyN (csS (eK (κ 16)) (ρ t)) (0, 0) i)) 50 (xb (cyN (csS (eK (κ 16)) (ρ t)) (0, 0) i) (rd (ρ t) (16 * i)))) 50 (eK (κ 16) (xb (cyN (csS (eK (κ 16)) (ρ t)) (0, 0) i) (rd (ρ t) (16 * i))))) κ τ := S_10
    refine R_iinc (pc := 51) (j := 0) (v := nI (16 * (i + 1))) (lv' := [(4, .int (nI (16 * (i + 1)))), (3, .int (nI (16 * laM (ρ t)))), (0, .ref 47), (1, .ref t), (2, .ref 50)]) dX4_mac_51 rfl (nI_add (16 * i) 16) (by decide) rfl ?_
    refine R_goto (pc := 54) (tgt := 30) dX4_mac_54 (by decide) ?_
    refine R_sub [0, 1, 2, 3, 4] rfl ?_
    refine ih (i + 1) (by omega) h_8 (ub (ub (ub β2 50 (cyN (csS (eK (κ 16)) (ρ t)) (0, 0) i)) 50 (xb (cyN (csS (eK (κ 16)) (ρ t)) (0, 0) i) (rd (ρ t) (16 * i)))) 50 (eK (κ 16) (xb (cyN (csS (eK (κ 16)) (ρ t)) (0, 0) i) (rd (ρ t) (16 * i))))) (by have z_ := S_11; skip; exact z_) rfl (fun a_ n_ => ?_) (hF.tr (F_7.tr F_12))
    have q_ := hB a_ n_; simp only [List.mem_cons, List.not_mem_nil, or_false, not_or] at n_
    (try simp only [ub, if_neg, n_, if_false])
    first | exact q_ | (simp only [ub_k]; exact q_) | (rw [q_]; simp only [ub_k]) | (repeat' split) <;> first | exact q_ | (rename_i e_; rw [e_])
set_option maxHeartbeats 4000000 in
set_option maxRecDepth 100000 in
theorem qX4_mac_50 {l : Launch} {w : am_W} {h : am_H} {n : Nat} {ρ : Nat → List (BitVec 8)} {β : Nat → bP} {κ : Nat → kT} {τ : Nat × Nat × Nat} (S : Sys h ρ β κ τ) (hn : 60 ≤ n) {t : Nat} (ht : isRw t = true) (hk : kOk (κ 16)) : RH l w mX4_mac h n [.ref 47, .ref t, .ref 50] (SX h τ none ρ (ub β 50 (macV (eK (κ 16)) (ρ t))) κ [48]) := by
  refine RC.of [(0, .ref 47), (1, .ref t), (2, .ref 50)] (by decide +kernel) rfl (Nat.le_of_ble_eq_true rfl) ?_
  have hlt := S.len t ht
  have htc := rw_cases ht
  have hla : 16 * laM (ρ t) ≤ (ρ t).length ∧ (ρ t).length ≤ 16 * laM (ρ t) + 16 := by unfold laM; omega
  refine R_aload_n (pc := 0) 1 dX4_mac_0 rfl rfl ?_
  have := rw_cases (r := t) ht
  refine R_get (pc := 1) dX4_mac_1 fX4_47 (S.rowO t ht) (by omega) rfl ?_
  refine R_eqi (y := nI (ρ t).length) (by first | rfl | (simp only [ur_s, ur_ur])) ?_
  refine R_if_ne (pc := 4) (tgt := 11) dX4_mac_4 (by decide) (fun c_1 => ?_) (fun c_1 => ?_)
  · skip
    refine R_aload_n (pc := 11) 1 dX4_mac_11 rfl rfl ?_
    have := rw_cases (r := t) ht
    refine R_get (pc := 12) dX4_mac_12 fX4_47 (S.rowO t ht) (by omega) rfl ?_
    refine R_eqi (y := nI (ρ t).length) (by first | rfl | (simp only [ur_s, ur_ur])) ?_
    refine R_iconst (pc := 15) (v := 1) dX4_mac_15 (by decide) ?_
    refine R_isub (pc := 16) dX4_mac_16 ?_
    refine R_eqi (y := nI ((ρ t).length - 1)) (pk_sub (b := 1) (by rcases Nat.eq_zero_or_pos (ρ t).length with q | q; exact absurd (by rw [q]; rfl) c_1; exact q)) ?_
    refine R_bipush (pc := 17) (v := (-16)) dX4_mac_17 (by decide) ?_
    refine R_iand (pc := 19) dX4_mac_19 ?_
    refine R_eqi (y := nI (16 * laM (ρ t))) (by rw [and_m16 (by omega)]; unfold laM; rw [Nat.mul_comm]) ?_
    refine R_istore_n (pc := 20) (lv' := [(3, .int (nI (16 * laM (ρ t)))), (0, .ref 47), (1, .ref t), (2, .ref 50)]) dX4_mac_20 rfl (by decide) rfl ?_
    refine R_aload_n (pc := 21) 3 dX4_mac_21 rfl rfl ?_
    refine R_lconst (pc := 22) (v := 0) dX4_mac_22 (by decide) ?_
    refine R_lconst (pc := 23) (v := 0) dX4_mac_23 (by decide) ?_
    refine R_callVh (pc := 24) (μ' := mX0_become) (As := [.long 0, .long 0]) (st := []) dX4_mac_24 zX0_become lX4_43 ⟨by decide, by decide⟩ rfl rfl ⟨by decide, by decide⟩ (S.blk 50 rfl) (by omega) rfl (Nat.le_of_ble_eq_true rfl) (S_become S hn rfl _ _) (fun h_2 r_ q_3 => ?_)
    obtain ⟨rfl, S_4, F_6⟩ := q_3
    have S_5 : Sys h_2 ρ (ub β 50 (0, 0)) κ τ := S_4
    refine R_iconst (pc := 27) (v := 0) dX4_mac_27 (by decide) ?_
    refine R_istore (pc := 28) (lv' := [(4, .int 0), (3, .int (nI (16 * laM (ρ t)))), (0, .ref 47), (1, .ref t), (2, .ref 50)]) dX4_mac_28 (by decide) rfl ?_
    refine R_sub [0, 1, 2, 3, 4] rfl ?_
    refine qX4_mac_50_loop S hn ht hk ?_ (laM (ρ t)) 0 (by omega) h_2 (ub β 50 (0, 0)) S_5 rfl (fun a_ n_ => ?_) F_6
    · intro h2 β2 S2 hv50 hB hF
      have S_7 : Sys h2 ρ (ub β2 50 (cyN (csS (eK (κ 16)) (ρ t)) (0, 0) (laM (ρ t)))) κ τ := Sys.know S2 (hv50)
      refine R_aload_n (pc := 57) 2 dX4_mac_57 rfl rfl ?_
      refine R_get (pc := 58) dX4_mac_58 fX4_33 S_7.2.2.2.2.2.2.2.2.1 (by omega) rfl ?_
      refine R_lconst (pc := 61) (v := 0) dX4_mac_61 (by decide) ?_
      refine R_lconst (pc := 62) (v := 0) dX4_mac_62 (by decide) ?_
      refine R_callVh (pc := 63) (μ' := mX0_become) (As := [.long 0, .long 0]) (st := []) dX4_mac_63 zX0_become lX4_43 ⟨by decide, by decide⟩ rfl rfl ⟨by decide, by decide⟩ (S_7.blk 48 rfl) (by omega) rfl (Nat.le_of_ble_eq_true rfl) (S_become S_7 hn rfl _ _) (fun h_8 r_ q_9 => ?_)
      obtain ⟨rfl, S_10, F_12⟩ := q_9
      have S_11 : Sys h_8 ρ (ub (ub β2 50 (cyN (csS (eK (κ 16)) (ρ t)) (0, 0) (laM (ρ t)))) 48 (0, 0)) κ τ := S_10
      refine R_aload_n (pc := 66) 2 dX4_mac_66 rfl rfl ?_
      refine R_get (pc := 67) dX4_mac_67 fX4_7 S_11.2.2.2.2.2.2.2.2.1 (by omega) rfl ?_
      refine R_aload_n (pc := 70) 2 dX4_mac_70 rfl rfl ?_
      refine R_get (pc := 71) dX4_mac_71 fX4_33 S_11.2.2.2.2.2.2.2.2.1 (by omega) rfl ?_
      refine R_callVh (pc := 74) (μ' := mX2_encrypt) (As := [.ref 48]) (st := []) dX4_mac_74 zX2_encrypt lX4_57 ⟨by decide, by decide⟩ rfl rfl ⟨by decide, by decide⟩ (S_11.2.2.1 16 (by decide)).1 (by omega) rfl (Nat.le_of_ble_eq_true rfl) (S_encrypt S_11 hn (by decide) rfl hk.1 hk.2) (fun h_13 r_ q_14 => ?_)
      obtain ⟨rfl, S_15, F_17⟩ := q_14
      have S_16 : Sys h_13 ρ (ub (ub (ub β2 50 (cyN (csS (eK (κ 16)) (ρ t)) (0, 0) (laM (ρ t)))) 48 (0, 0)) 48 (eK (κ 16) (0, 0))) κ τ := S_15
      refine R_aload_n (pc := 77) 2 dX4_mac_77 rfl rfl ?_
      refine R_get (pc := 78) dX4_mac_78 fX4_33 S_16.2.2.2.2.2.2.2.2.1 (by omega) rfl ?_
      refine R_callVh (pc := 81) (μ' := mX0_makeDouble) (As := []) (st := []) dX4_mac_81 zX0_makeDouble lX4_63 ⟨by decide, by decide⟩ rfl rfl ⟨by decide, by decide⟩ (S_16.blk 48 rfl) (by omega) rfl (Nat.le_of_ble_eq_true rfl) (S_makeDouble S_16 hn rfl) (fun h_18 r_ q_19 => ?_)
      obtain ⟨rfl, S_20, F_22⟩ := q_19
      have S_21 : Sys h_18 ρ (ub (ub (ub (ub β2 50 (cyN (csS (eK (κ 16)) (ρ t)) (0, 0) (laM (ρ t)))) 48 (0, 0)) 48 (eK (κ 16) (0, 0))) 48 (dbl (eK (κ 16) (0, 0)))) κ τ := S_20
      refine R_aload_n (pc := 84) 4 dX4_mac_84 rfl rfl ?_
      refine R_aload_n (pc := 85) 3 dX4_mac_85 rfl rfl ?_
      refine R_iload_n (pc := 86) 1 dX4_mac_86 rfl rfl ?_
      refine R_callVh (pc := 87) (μ' := mX0_addPart) (As := [.ref t, .int (nI (16 * laM (ρ t)))]) (st := []) dX4_mac_87 zX0_addPart lX4_53 ⟨by decide, by decide⟩ rfl rfl ⟨by decide, by decide⟩ (S_21.blk 50 rfl) (by omega) rfl (Nat.le_of_ble_eq_true rfl) (S_addPart S_21 hn rfl ht (16 * laM (ρ t)) (by omega)) (fun h_23 r_ q_24 => ?_)
      obtain ⟨rfl, S_25, F_27⟩ := q_24
      have S_26 : Sys h_23 ρ (ub (ub (ub (ub (ub β2 50 (cyN (csS (eK (κ 16)) (ρ t)) (0, 0) (laM (ρ t)))) 48 (0, 0)) 48 (eK (κ 16) (0, 0))) 48 (dbl (eK (κ 16) (0, 0)))) 50 (xb (cyN (csS (eK (κ 16)) (ρ t)) (0, 0) (laM (ρ t))) (rd (ρ t) (16 * laM (ρ t))))) κ τ := S_25
      refine R_aload_n (pc := 90) 3 dX4_mac_90 rfl rfl ?_
      have := rw_cases (r := t) ht
      refine R_get (pc := 91) dX4_mac_91 fX4_47 (S_26.rowO t ht) (by omega) rfl ?_
      refine R_eqi (y := nI (ρ t).length) (by first | rfl | (simp only [ur_s, ur_ur])) ?_
      refine R_iload_n (pc := 94) 1 dX4_mac_94 rfl rfl ?_
      refine R_isub (pc := 95) dX4_mac_95 ?_
      refine R_eqi (y := nI ((ρ t).length - 16 * laM (ρ t))) (pk_sub (by omega)) ?_
      refine R_bipush (pc := 96) (v := 16) dX4_mac_96 (by decide) ?_
      refine R_icmp_ge (pc := 98) (tgt := 121) dX4_mac_98 (by decide) (fun c_28 => ?_) (fun c_28 => ?_)
      · skip
        refine R_aload_n (pc := 121) 4 dX4_mac_121 rfl rfl ?_
        refine R_aload_n (pc := 122) 2 dX4_mac_122 rfl rfl ?_
        refine R_get (pc := 123) dX4_mac_123 fX4_33 S_26.2.2.2.2.2.2.2.2.1 (by omega) rfl ?_
        refine R_callVh (pc := 126) (μ' := mX0_add) (As := [.ref 48]) (st := []) dX4_mac_126 zX0_add lX4_70 ⟨by decide, by decide⟩ rfl rfl ⟨by decide, by decide⟩ (S_26.blk 50 rfl) (by omega) rfl (Nat.le_of_ble_eq_true rfl) (S_add S_26 hn rfl rfl (by decide)) (fun h_29 r_ q_30 => ?_)
        obtain ⟨rfl, S_31, F_33⟩ := q_30
        have S_32 : Sys h_29 ρ (ub (ub (ub (ub (ub (ub β2 50 (cyN (csS (eK (κ 16)) (ρ t)) (0, 0) (laM (ρ t)))) 48 (0, 0)) 48 (eK (κ 16) (0, 0))) 48 (dbl (eK (κ 16) (0, 0)))) 50 (xb (cyN (csS (eK (κ 16)) (ρ t)) (0, 0) (laM (ρ t))) (rd (ρ t) (16 * laM (ρ t))))) 50 (xb (xb (cyN (csS (eK (κ 16)) (ρ t)) (0, 0) (laM (ρ t))) (rd (ρ t) (16 * laM (ρ t)))) (dbl (eK (κ 16) (0, 0))))) κ τ := S_31
        refine R_aload_n (pc := 129) 2 dX4_mac_129 rfl rfl ?_
        refine R_get (pc := 130) dX4_mac_130 fX4_7 S_32.2.2.2.2.2.2.2.2.1 (by omega) rfl ?_
        refine R_aload_n (pc := 133) 4 dX4_mac_133 rfl rfl ?_
        refine R_callVh (pc := 134) (μ' := mX2_encrypt) (As := [.ref 50]) (st := []) dX4_mac_134 zX2_encrypt lX4_57 ⟨by decide, by decide⟩ rfl rfl ⟨by decide, by decide⟩ (S_32.2.2.1 16 (by decide)).1 (by omega) rfl (Nat.le_of_ble_eq_true rfl) (S_encrypt S_32 hn (by decide) rfl hk.1 hk.2) (fun h_34 r_ q_35 => ?_)
        obtain ⟨rfl, S_36, F_38⟩ := q_35
        have S_37 : Sys h_34 ρ (ub (ub (ub (ub (ub (ub (ub β2 50 (cyN (csS (eK (κ 16)) (ρ t)) (0, 0) (laM (ρ t)))) 48 (0, 0)) 48 (eK (κ 16) (0, 0))) 48 (dbl (eK (κ 16) (0, 0)))) 50 (xb (cyN (csS (eK (κ 16)) (ρ t)) (0, 0) (laM (ρ t))) (rd (ρ t) (16 * laM (ρ t))))) 50 (xb (xb (cyN (csS (eK (κ 16)) (ρ t)) (0, 0) (laM (ρ t))) (rd (ρ t) (16 * laM (ρ t)))) (dbl (eK (κ 16) (0, 0))))) 50 (eK (κ 16) (xb (xb (cyN (csS (eK (κ 16)) (ρ t)) (0, 0) (laM (ρ t))) (rd (ρ t) (16 * laM (ρ t)))) (dbl (eK (κ 16) (0, 0)))))) κ τ := S_36
        rw [show macV (eK (κ 16)) (ρ t) = eK (κ 16) (xb (xb (cyN (csS (eK (κ 16)) (ρ t)) (0, 0) (laM (ρ t))) (rd (ρ t) (16 * laM (ρ t)))) (dbl (eK (κ 16) (0, 0)))) from by unfold macV; rw [if_pos c_28]; rfl]
        refine R_vreturn (pc := 137) dX4_mac_137 rfl (by decide) (by decide) ⟨rfl, (ub (ub (ub (ub (ub (ub (ub β2 50 (cyN (csS (eK (κ 16)) (ρ t)) (0, 0) (laM (ρ t)))) 48 (0, 0)) 48 (eK (κ 16) (0, 0))) 48 (dbl (eK (κ 16) (0, 0)))) 50 (xb (cyN (csS (eK (κ 16)) (ρ t)) (0, 0) (laM (ρ t))) (rd (ρ t) (16 * laM (ρ t))))) 50 (xb (xb (cyN (csS (eK (κ 16)) (ρ t)) (0, 0) (laM (ρ t))) (rd (ρ t) (16 * laM (ρ t)))) (dbl (eK (κ 16) (0, 0))))) 50 (eK (κ 16) (xb (xb (cyN (csS (eK (κ 16)) (ρ t)) (0, 0) (laM (ρ t))) (rd (ρ t) (16 * laM (ρ t)))) (dbl (eK (κ 16) (0, 0)))))), ?_, rfl, S_37, ((((((hF.tr F_12).tr F_17).tr F_22).tr F_27).tr F_33).tr F_38)⟩
        intro a_ n_
        simp only [List.mem_cons, List.not_mem_nil, or_false, not_or] at n_
        by_cases e0_ : a_ = 50
        · subst e0_; first | rfl | (simp only [ub_s]; done) | (simp (config := { decide := true }) only [ub, if_true, if_false, reduceIte]; first | rfl | skip)
        (try simp only [ub, if_neg, if_false, n_, e0_])
        (try simp only [ub_k])
        (try rw [hB a_ (by simp [n_, e0_])])
        (try simp only [ub, if_neg, if_false, n_, e0_])
        (try simp only [ub_k])
      · skip
        refine R_aload_n (pc := 101) 4 dX4_mac_101 rfl rfl ?_
        refine R_aload_n (pc := 102) 3 dX4_mac_102 rfl rfl ?_
        have := rw_cases (r := t) ht
        refine R_get (pc := 103) dX4_mac_103 fX4_47 (S_26.rowO t ht) (by omega) rfl ?_
        refine R_eqi (y := nI (ρ t).length) (by first | rfl | (simp only [ur_s, ur_ur])) ?_
        refine R_iload_n (pc := 106) 1 dX4_mac_106 rfl rfl ?_
        refine R_isub (pc := 107) dX4_mac_107 ?_
        refine R_eqi (y := nI ((ρ t).length - 16 * laM (ρ t))) (pk_sub (by omega)) ?_
        refine R_sipush (pc := 108) (v := 128) dX4_mac_108 (by decide) ?_
        refine R_callVh (pc := 111) (μ' := mX0_addOctet) (As := [.int (nI ((ρ t).length - 16 * laM (ρ t))), .int 128]) (st := []) dX4_mac_111 zX0_addOctet lX4_66 ⟨by decide, by decide⟩ rfl rfl ⟨by decide, by decide⟩ (S_26.blk 50 rfl) (by omega) rfl (Nat.le_of_ble_eq_true rfl) (S_addOctet S_26 hn rfl _ _) (fun h_39 r_ q_40 => ?_)
        obtain ⟨rfl, S_41, F_43⟩ := q_40
        have S_42 : Sys h_39 ρ (ub (ub (ub (ub (ub (ub β2 50 (cyN (csS (eK (κ 16)) (ρ t)) (0, 0) (laM (ρ t)))) 48 (0, 0)) 48 (eK (κ 16) (0, 0))) 48 (dbl (eK (κ 16) (0, 0)))) 50 (xb (cyN (csS (eK (κ 16)) (ρ t)) (0, 0) (laM (ρ t))) (rd (ρ t) (16 * laM (ρ t))))) 50 (aoc (xb (cyN (csS (eK (κ 16)) (ρ t)) (0, 0) (laM (ρ t))) (rd (ρ t) (16 * laM (ρ t)))) (nI ((ρ t).length - 16 * laM (ρ t))) 128)) κ τ := S_41
        refine R_aload_n (pc := 114) 2 dX4_mac_114 rfl rfl ?_
        refine R_get (pc := 115) dX4_mac_115 fX4_33 S_42.2.2.2.2.2.2.2.2.1 (by omega) rfl ?_
        refine R_callVh (pc := 118) (μ' := mX0_makeDouble) (As := []) (st := []) dX4_mac_118 zX0_makeDouble lX4_63 ⟨by decide, by decide⟩ rfl rfl ⟨by decide, by decide⟩ (S_42.blk 48 rfl) (by omega) rfl (Nat.le_of_ble_eq_true rfl) (S_makeDouble S_42 hn rfl) (fun h_44 r_ q_45 => ?_)
        obtain ⟨rfl, S_46, F_48⟩ := q_45
        have S_47 : Sys h_44 ρ (ub (ub (ub (ub (ub (ub (ub β2 50 (cyN (csS (eK (κ 16)) (ρ t)) (0, 0) (laM (ρ t)))) 48 (0, 0)) 48 (eK (κ 16) (0, 0))) 48 (dbl (eK (κ 16) (0, 0)))) 50 (xb (cyN (csS (eK (κ 16)) (ρ t)) (0, 0) (laM (ρ t))) (rd (ρ t) (16 * laM (ρ t))))) 50 (aoc (xb (cyN (csS (eK (κ 16)) (ρ t)) (0, 0) (laM (ρ t))) (rd (ρ t) (16 * laM (ρ t)))) (nI ((ρ t).length - 16 * laM (ρ t))) 128)) 48 (dbl (dbl (eK (κ 16) (0, 0))))) κ τ := S_46
        refine R_aload_n (pc := 121) 4 dX4_mac_121 rfl rfl ?_
        refine R_aload_n (pc := 122) 2 dX4_mac_122 rfl rfl ?_
        refine R_get (pc := 123) dX4_mac_123 fX4_33 S_47.2.2.2.2.2.2.2.2.1 (by omega) rfl ?_
        refine R_callVh (pc := 126) (μ' := mX0_add) (As := [.ref 48]) (st := []) dX4_mac_126 zX0_add lX4_70 ⟨by decide, by decide⟩ rfl rfl ⟨by decide, by decide⟩ (S_47.blk 50 rfl) (by omega) rfl (Nat.le_of_ble_eq_true rfl) (S_add S_47 hn rfl rfl (by decide)) (fun h_49 r_ q_50 => ?_)
        obtain ⟨rfl, S_51, F_53⟩ := q_50
        have S_52 : Sys h_49 ρ (ub (ub (ub (ub (ub (ub (ub (ub β2 50 (cyN (csS (eK (κ 16)) (ρ t)) (0, 0) (laM (ρ t)))) 48 (0, 0)) 48 (eK (κ 16) (0, 0))) 48 (dbl (eK (κ 16) (0, 0)))) 50 (xb (cyN (csS (eK (κ 16)) (ρ t)) (0, 0) (laM (ρ t))) (rd (ρ t) (16 * laM (ρ t))))) 50 (aoc (xb (cyN (csS (eK (κ 16)) (ρ t)) (0, 0) (laM (ρ t))) (rd (ρ t) (16 * laM (ρ t)))) (nI ((ρ t).length - 16 * laM (ρ t))) 128)) 48 (dbl (dbl (eK (κ 16) (0, 0))))) 50 (xb (aoc (xb (cyN (csS (eK (κ 16)) (ρ t)) (0, 0) (laM (ρ t))) (rd (ρ t) (16 * laM (ρ t)))) (nI ((ρ t).length - 16 * laM (ρ t))) 128) (dbl (dbl (eK (κ 16) (0, 0)))))) κ τ := S_51
        refine R_aload_n (pc := 129) 2 dX4_mac_129 rfl rfl ?_
        refine R_get (pc := 130) dX4_mac_130 fX4_7 S_52.2.2.2.2.2.2.2.2.1 (by omega) rfl ?_
        refine R_aload_n (pc := 133) 4 dX4_mac_133 rfl rfl ?_
        refine R_callVh (pc := 134) (μ' := mX2_encrypt) (As := [.ref 50]) (st := []) dX4_mac_134 zX2_encrypt lX4_57 ⟨by decide, by decide⟩ rfl rfl ⟨by decide, by decide⟩ (S_52.2.2.1 16 (by decide)).1 (by omega) rfl (Nat.le_of_ble_eq_true rfl) (S_encrypt S_52 hn (by decide) rfl hk.1 hk.2) (fun h_54 r_ q_55 => ?_)
        obtain ⟨rfl, S_56, F_58⟩ := q_55
        have S_57 : Sys h_54 ρ (ub (ub (ub (ub (ub (ub (ub (ub (ub β2 50 (cyN (csS (eK (κ 16)) (ρ t)) (0, 0) (laM (ρ t)))) 48 (0, 0)) 48 (eK (κ 16) (0, 0))) 48 (dbl (eK (κ 16) (0, 0)))) 50 (xb (cyN (csS (eK (κ 16)) (ρ t)) (0, 0) (laM (ρ t))) (rd (ρ t) (16 * laM (ρ t))))) 50 (aoc (xb (cyN (csS (eK (κ 16)) (ρ t)) (0, 0) (laM (ρ t))) (rd (ρ t) (16 * laM (ρ t)))) (nI ((ρ t).length - 16 * laM (ρ t))) 128)) 48 (dbl (dbl (eK (κ 16) (0, 0))))) 50 (xb (aoc (xb (cyN (csS (eK (κ 16)) (ρ t)) (0, 0) (laM (ρ t))) (rd (ρ t) (16 * laM (ρ t)))) (nI ((ρ t).length - 16 * laM (ρ t))) 128) (dbl (dbl (eK (κ 16) (0, 0)))))) 50 (eK (κ 16) (xb (aoc (xb (cyN (csS (eK (κ 16)) (ρ t)) (0, 0) (laM (ρ t))) (rd (ρ t) (16 * laM (ρ t)))) (nI ((ρ t).length - 16 * laM (ρ t))) 128) (dbl (dbl (eK (κ 16) (0, 0))))))) κ τ := S_56
        rw [show macV (eK (κ 16)) (ρ t) = eK (κ 16) (xb (aoc (xb (cyN (csS (eK (κ 16)) (ρ t)) (0, 0) (laM (ρ t))) (rd (ρ t) (16 * laM (ρ t)))) (nI ((ρ t).length - 16 * laM (ρ t))) 128) (dbl (dbl (eK (κ 16) (0, 0))))) from by unfold macV; rw [if_neg c_28]; rfl]
        refine R_vreturn (pc := 137) dX4_mac_137 rfl (by decide) (by decide) ⟨rfl, (ub (ub (ub (ub (ub (ub (ub (ub (ub β2 50 (cyN (csS (eK (κ 16)) (ρ t)) (0, 0) (laM (ρ t)))) 48 (0, 0)) 48 (eK (κ 16) (0, 0))) 48 (dbl (eK (κ 16) (0, 0)))) 50 (xb (cyN (csS (eK (κ 16)) (ρ t)) (0, 0) (laM (ρ t))) (rd (ρ t) (16 * laM (ρ t))))) 50 (aoc (xb (cyN (csS (eK (κ 16)) (ρ t)) (0, 0) (laM (ρ t))) (rd (ρ t) (16 * laM (ρ t)))) (nI ((ρ t).length - 16 * laM (ρ t))) 128)) 48 (dbl (dbl (eK (κ 16) (0, 0))))) 50 (xb (aoc (xb (cyN (csS (eK (κ 16)) (ρ t)) (0, 0) (laM (ρ t))) (rd (ρ t) (16 * laM (ρ t)))) (nI ((ρ t).length - 16 * laM (ρ t))) 128) (dbl (dbl (eK (κ 16) (0, 0)))))) 50 (eK (κ 16) (xb (aoc (xb (cyN (csS (eK (κ 16)) (ρ t)) (0, 0) (laM (ρ t))) (rd (ρ t) (16 * laM (ρ t)))) (nI ((ρ t).length - 16 * laM (ρ t))) 128) (dbl (dbl (eK (κ 16) (0, 0))))))), ?_, rfl, S_57, ((((((((hF.tr F_12).tr F_17).tr F_22).tr F_27).tr F_43).tr F_48).tr F_53).tr F_58)⟩
        intro a_ n_
        simp only [List.mem_cons, List.not_mem_nil, or_false, not_or] at n_
        by_cases e0_ : a_ = 50
        · subst e0_; first | rfl | (simp only [ub_s]; done) | (simp (config := { decide := true }) only [ub, if_true, if_false, reduceIte]; first | rfl | skip)
        (try simp only [ub, if_neg, if_false, n_, e0_])
        (try simp only [ub_k])
        (try rw [hB a_ (by simp [n_, e0_])])
        (try simp only [ub, if_neg, if_false, n_, e0_])
        (try simp only [ub_k])
    · simp only [List.mem_cons, List.not_mem_nil, or_false, not_or] at n_; (try simp only [ub, if_neg, n_, if_false])
  · skip
    refine R_iconst (pc := 7) (v := 0) dX4_mac_7 (by decide) ?_
    refine R_eqi (y := nI (16 * laM (ρ t))) (by rw [show (16 * laM (ρ t)) = 0 by have := (nI_eq (a := (ρ t).length) (b := 0) (by omega) (by omega)).mp c_1; unfold laM; omega]; rfl) ?_
    refine R_goto (pc := 8) (tgt := 20) dX4_mac_8 (by decide) ?_
    refine R_istore_n (pc := 20) (lv' := [(3, .int (nI (16 * laM (ρ t)))), (0, .ref 47), (1, .ref t), (2, .ref 50)]) dX4_mac_20 rfl (by decide) rfl ?_
    refine R_aload_n (pc := 21) 3 dX4_mac_21 rfl rfl ?_
    refine R_lconst (pc := 22) (v := 0) dX4_mac_22 (by decide) ?_
    refine R_lconst (pc := 23) (v := 0) dX4_mac_23 (by decide) ?_
    refine R_callVh (pc := 24) (μ' := mX0_become) (As := [.long 0, .long 0]) (st := []) dX4_mac_24 zX0_become lX4_43 ⟨by decide, by decide⟩ rfl rfl ⟨by decide, by decide⟩ (S.blk 50 rfl) (by omega) rfl (Nat.le_of_ble_eq_true rfl) (S_become S hn rfl _ _) (fun h_59 r_ q_60 => ?_)
    obtain ⟨rfl, S_61, F_63⟩ := q_60
    have S_62 : Sys h_59 ρ (ub β 50 (0, 0)) κ τ := S_61
    refine R_iconst (pc := 27) (v := 0) dX4_mac_27 (by decide) ?_
    refine R_istore (pc := 28) (lv' := [(4, .int 0), (3, .int (nI (16 * laM (ρ t)))), (0, .ref 47), (1, .ref t), (2, .ref 50)]) dX4_mac_28 (by decide) rfl ?_
    refine R_sub [0, 1, 2, 3, 4] rfl ?_
    refine qX4_mac_50_loop S hn ht hk ?_ (laM (ρ t)) 0 (by omega) h_59 (ub β 50 (0, 0)) S_62 rfl (fun a_ n_ => ?_) F_63
    · intro h2 β2 S2 hv50 hB hF
      have S_64 : Sys h2 ρ (ub β2 50 (cyN (csS (eK (κ 16)) (ρ t)) (0, 0) (laM (ρ t)))) κ τ := Sys.know S2 (hv50)
      refine R_aload_n (pc := 57) 2 dX4_mac_57 rfl rfl ?_
      refine R_get (pc := 58) dX4_mac_58 fX4_33 S_64.2.2.2.2.2.2.2.2.1 (by omega) rfl ?_
      refine R_lconst (pc := 61) (v := 0) dX4_mac_61 (by decide) ?_
      refine R_lconst (pc := 62) (v := 0) dX4_mac_62 (by decide) ?_
      refine R_callVh (pc := 63) (μ' := mX0_become) (As := [.long 0, .long 0]) (st := []) dX4_mac_63 zX0_become lX4_43 ⟨by decide, by decide⟩ rfl rfl ⟨by decide, by decide⟩ (S_64.blk 48 rfl) (by omega) rfl (Nat.le_of_ble_eq_true rfl) (S_become S_64 hn rfl _ _) (fun h_65 r_ q_66 => ?_)
      obtain ⟨rfl, S_67, F_69⟩ := q_66
      have S_68 : Sys h_65 ρ (ub (ub β2 50 (cyN (csS (eK (κ 16)) (ρ t)) (0, 0) (laM (ρ t)))) 48 (0, 0)) κ τ := S_67
      refine R_aload_n (pc := 66) 2 dX4_mac_66 rfl rfl ?_
      refine R_get (pc := 67) dX4_mac_67 fX4_7 S_68.2.2.2.2.2.2.2.2.1 (by omega) rfl ?_
      refine R_aload_n (pc := 70) 2 dX4_mac_70 rfl rfl ?_
      refine R_get (pc := 71) dX4_mac_71 fX4_33 S_68.2.2.2.2.2.2.2.2.1 (by omega) rfl ?_
      refine R_callVh (pc := 74) (μ' := mX2_encrypt) (As := [.ref 48]) (st := []) dX4_mac_74 zX2_encrypt lX4_57 ⟨by decide, by decide⟩ rfl rfl ⟨by decide, by decide⟩ (S_68.2.2.1 16 (by decide)).1 (by omega) rfl (Nat.le_of_ble_eq_true rfl) (S_encrypt S_68 hn (by decide) rfl hk.1 hk.2) (fun h_70 r_ q_71 => ?_)
      obtain ⟨rfl, S_72, F_74⟩ := q_71
      have S_73 : Sys h_70 ρ (ub (ub (ub β2 50 (cyN (csS (eK (κ 16)) (ρ t)) (0, 0) (laM (ρ t)))) 48 (0, 0)) 48 (eK (κ 16) (0, 0))) κ τ := S_72
      refine R_aload_n (pc := 77) 2 dX4_mac_77 rfl rfl ?_
      refine R_get (pc := 78) dX4_mac_78 fX4_33 S_73.2.2.2.2.2.2.2.2.1 (by omega) rfl ?_
      refine R_callVh (pc := 81) (μ' := mX0_makeDouble) (As := []) (st := []) dX4_mac_81 zX0_makeDouble lX4_63 ⟨by decide, by decide⟩ rfl rfl ⟨by decide, by decide⟩ (S_73.blk 48 rfl) (by omega) rfl (Nat.le_of_ble_eq_true rfl) (S_makeDouble S_73 hn rfl) (fun h_75 r_ q_76 => ?_)
      obtain ⟨rfl, S_77, F_79⟩ := q_76
      have S_78 : Sys h_75 ρ (ub (ub (ub (ub β2 50 (cyN (csS (eK (κ 16)) (ρ t)) (0, 0) (laM (ρ t)))) 48 (0, 0)) 48 (eK (κ 16) (0, 0))) 48 (dbl (eK (κ 16) (0, 0)))) κ τ := S_77
      refine R_aload_n (pc := 84) 4 dX4_mac_84 rfl rfl ?_
      refine R_aload_n (pc := 85) 3 dX4_mac_85 rfl rfl ?_
      refine R_iload_n (pc := 86) 1 dX4_mac_86 rfl rfl ?_
      refine R_callVh (pc := 87) (μ' := mX0_addPart) (As := [.ref t, .int (nI (16 * laM (ρ t)))]) (st := []) dX4_mac_87 zX0_addPart lX4_53 ⟨by decide, by decide⟩ rfl rfl ⟨by decide, by decide⟩ (S_78.blk 50 rfl) (by omega) rfl (Nat.le_of_ble_eq_true rfl) (S_addPart S_78 hn rfl ht (16 * laM (ρ t)) (by omega)) (fun h_80 r_ q_81 => ?_)
      obtain ⟨rfl, S_82, F_84⟩ := q_81
      have S_83 : Sys h_80 ρ (ub (ub (ub (ub (ub β2 50 (cyN (csS (eK (κ 16)) (ρ t)) (0, 0) (laM (ρ t)))) 48 (0, 0)) 48 (eK (κ 16) (0, 0))) 48 (dbl (eK (κ 16) (0, 0)))) 50 (xb (cyN (csS (eK (κ 16)) (ρ t)) (0, 0) (laM (ρ t))) (rd (ρ t) (16 * laM (ρ t))))) κ τ := S_82
      refine R_aload_n (pc := 90) 3 dX4_mac_90 rfl rfl ?_
      have := rw_cases (r := t) ht
      refine R_get (pc := 91) dX4_mac_91 fX4_47 (S_83.rowO t ht) (by omega) rfl ?_
      refine R_eqi (y := nI (ρ t).length) (by first | rfl | (simp only [ur_s, ur_ur])) ?_
      refine R_iload_n (pc := 94) 1 dX4_mac_94 rfl rfl ?_
      refine R_isub (pc := 95) dX4_mac_95 ?_
      refine R_eqi (y := nI ((ρ t).length - 16 * laM (ρ t))) (pk_sub (by omega)) ?_
      refine R_bipush (pc := 96) (v := 16) dX4_mac_96 (by decide) ?_
      refine R_icmp_ge (pc := 98) (tgt := 121) dX4_mac_98 (by decide) (fun c_85 => ?_) (fun c_85 => ?_)
      · skip
        refine R_aload_n (pc := 121) 4 dX4_mac_121 rfl rfl ?_
        refine R_aload_n (pc := 122) 2 dX4_mac_122 rfl rfl ?_
        refine R_get (pc := 123) dX4_mac_123 fX4_33 S_83.2.2.2.2.2.2.2.2.1 (by omega) rfl ?_
        refine R_callVh (pc := 126) (μ' := mX0_add) (As := [.ref 48]) (st := []) dX4_mac_126 zX0_add lX4_70 ⟨by decide, by decide⟩ rfl rfl ⟨by decide, by decide⟩ (S_83.blk 50 rfl) (by omega) rfl (Nat.le_of_ble_eq_true rfl) (S_add S_83 hn rfl rfl (by decide)) (fun h_86 r_ q_87 => ?_)
        obtain ⟨rfl, S_88, F_90⟩ := q_87
        have S_89 : Sys h_86 ρ (ub (ub (ub (ub (ub (ub β2 50 (cyN (csS (eK (κ 16)) (ρ t)) (0, 0) (laM (ρ t)))) 48 (0, 0)) 48 (eK (κ 16) (0, 0))) 48 (dbl (eK (κ 16) (0, 0)))) 50 (xb (cyN (csS (eK (κ 16)) (ρ t)) (0, 0) (laM (ρ t))) (rd (ρ t) (16 * laM (ρ t))))) 50 (xb (xb (cyN (csS (eK (κ 16)) (ρ t)) (0, 0) (laM (ρ t))) (rd (ρ t) (16 * laM (ρ t)))) (dbl (eK (κ 16) (0, 0))))) κ τ := S_88
        refine R_aload_n (pc := 129) 2 dX4_mac_129 rfl rfl ?_
        refine R_get (pc := 130) dX4_mac_130 fX4_7 S_89.2.2.2.2.2.2.2.2.1 (by omega) rfl ?_
        refine R_aload_n (pc := 133) 4 dX4_mac_133 rfl rfl ?_
        refine R_callVh (pc := 134) (μ' := mX2_encrypt) (As := [.ref 50]) (st := []) dX4_mac_134 zX2_encrypt lX4_57 ⟨by decide, by decide⟩ rfl rfl ⟨by decide, by decide⟩ (S_89.2.2.1 16 (by decide)).1 (by omega) rfl (Nat.le_of_ble_eq_true rfl) (S_encrypt S_89 hn (by decide) rfl hk.1 hk.2) (fun h_91 r_ q_92 => ?_)
        obtain ⟨rfl, S_93, F_95⟩ := q_92
        have S_94 : Sys h_91 ρ (ub (ub (ub (ub (ub (ub (ub β2 50 (cyN (csS (eK (κ 16)) (ρ t)) (0, 0) (laM (ρ t)))) 48 (0, 0)) 48 (eK (κ 16) (0, 0))) 48 (dbl (eK (κ 16) (0, 0)))) 50 (xb (cyN (csS (eK (κ 16)) (ρ t)) (0, 0) (laM (ρ t))) (rd (ρ t) (16 * laM (ρ t))))) 50 (xb (xb (cyN (csS (eK (κ 16)) (ρ t)) (0, 0) (laM (ρ t))) (rd (ρ t) (16 * laM (ρ t)))) (dbl (eK (κ 16) (0, 0))))) 50 (eK (κ 16) (xb (xb (cyN (csS (eK (κ 16)) (ρ t)) (0, 0) (laM (ρ t))) (rd (ρ t) (16 * laM (ρ t)))) (dbl (eK (κ 16) (0, 0)))))) κ τ := S_93
        rw [show macV (eK (κ 16)) (ρ t) = eK (κ 16) (xb (xb (cyN (csS (eK (κ 16)) (ρ t)) (0, 0) (laM (ρ t))) (rd (ρ t) (16 * laM (ρ t)))) (dbl (eK (κ 16) (0, 0)))) from by unfold macV; rw [if_pos c_85]; rfl]
        refine R_vreturn (pc := 137) dX4_mac_137 rfl (by decide) (by decide) ⟨rfl, (ub (ub (ub (ub (ub (ub (ub β2 50 (cyN (csS (eK (κ 16)) (ρ t)) (0, 0) (laM (ρ t)))) 48 (0, 0)) 48 (eK (κ 16) (0, 0))) 48 (dbl (eK (κ 16) (0, 0)))) 50 (xb (cyN (csS (eK (κ 16)) (ρ t)) (0, 0) (laM (ρ t))) (rd (ρ t) (16 * laM (ρ t))))) 50 (xb (xb (cyN (csS (eK (κ 16)) (ρ t)) (0, 0) (laM (ρ t))) (rd (ρ t) (16 * laM (ρ t)))) (dbl (eK (κ 16) (0, 0))))) 50 (eK (κ 16) (xb (xb (cyN (csS (eK (κ 16)) (ρ t)) (0, 0) (laM (ρ t))) (rd (ρ t) (16 * laM (ρ t)))) (dbl (eK (κ 16) (0, 0)))))), ?_, rfl, S_94, ((((((hF.tr F_69).tr F_74).tr F_79).tr F_84).tr F_90).tr F_95)⟩
        intro a_ n_
        simp only [List.mem_cons, List.not_mem_nil, or_false, not_or] at n_
        by_cases e0_ : a_ = 50
        · subst e0_; first | rfl | (simp only [ub_s]; done) | (simp (config := { decide := true }) only [ub, if_true, if_false, reduceIte]; first | rfl | skip)
        (try simp only [ub, if_neg, if_false, n_, e0_])
        (try simp only [ub_k])
        (try rw [hB a_ (by simp [n_, e0_])])
        (try simp only [ub, if_neg, if_false, n_, e0_])
        (try simp only [ub_k])
      · skip
        refine R_aload_n (pc := 101) 4 dX4_mac_101 rfl rfl ?_
        refine R_aload_n (pc := 102) 3 dX4_mac_102 rfl rfl ?_
        have := rw_cases (r := t) ht
        refine R_get (pc := 103) dX4_mac_103 fX4_47 (S_83.rowO t ht) (by omega) rfl ?_
        refine R_eqi (y := nI (ρ t).length) (by first | rfl | (simp only [ur_s, ur_ur])) ?_
        refine R_iload_n (pc := 106) 1 dX4_mac_106 rfl rfl ?_
        refine R_isub (pc := 107) dX4_mac_107 ?_
        refine R_eqi (y := nI ((ρ t).length - 16 * laM (ρ t))) (pk_sub (by omega)) ?_
        refine R_sipush (pc := 108) (v := 128) dX4_mac_108 (by decide) ?_
        refine R_callVh (pc := 111) (μ' := mX0_addOctet) (As := [.int (nI ((ρ t).length - 16 * laM (ρ t))), .int 128]) (st := []) dX4_mac_111 zX0_addOctet lX4_66 ⟨by decide, by decide⟩ rfl rfl ⟨by decide, by decide⟩ (S_83.blk 50 rfl) (by omega) rfl (Nat.le_of_ble_eq_true rfl) (S_addOctet S_83 hn rfl _ _) (fun h_96 r_ q_97 => ?_)
        obtain ⟨rfl, S_98, F_100⟩ := q_97
        have S_99 : Sys h_96 ρ (ub (ub (ub (ub (ub (ub β2 50 (cyN (csS (eK (κ 16)) (ρ t)) (0, 0) (laM (ρ t)))) 48 (0, 0)) 48 (eK (κ 16) (0, 0))) 48 (dbl (eK (κ 16) (0, 0)))) 50 (xb (cyN (csS (eK (κ 16)) (ρ t)) (0, 0) (laM (ρ t))) (rd (ρ t) (16 * laM (ρ t))))) 50 (aoc (xb (cyN (csS (eK (κ 16)) (ρ t)) (0, 0) (laM (ρ t))) (rd (ρ t) (16 * laM (ρ t)))) (nI ((ρ t).length - 16 * laM (ρ t))) 128)) κ τ := S_98
        refine R_aload_n (pc := 114) 2 dX4_mac_114 rfl rfl ?_
        refine R_get (pc := 115) dX4_mac_115 fX4_33 S_99.2.2.2.2.2.2.2.2.1 (by omega) rfl ?_
        refine R_callVh (pc := 118) (μ' := mX0_makeDouble) (As := []) (st := []) dX4_mac_118 zX0_makeDouble lX4_63 ⟨by decide, by decide⟩ rfl rfl ⟨by decide, by decide⟩ (S_99.blk 48 rfl) (by omega) rfl (Nat.le_of_ble_eq_true rfl) (S_makeDouble S_99 hn rfl) (fun h_101 r_ q_102 => ?_)
        obtain ⟨rfl, S_103, F_105⟩ := q_102
        have S_104 : Sys h_101 ρ (ub (ub (ub (ub (ub (ub (ub β2 50 (cyN (csS (eK (κ 16)) (ρ t)) (0, 0) (laM (ρ t)))) 48 (0, 0)) 48 (eK (κ 16) (0, 0))) 48 (dbl (eK (κ 16) (0, 0)))) 50 (xb (cyN (csS (eK (κ 16)) (ρ t)) (0, 0) (laM (ρ t))) (rd (ρ t) (16 * laM (ρ t))))) 50 (aoc (xb (cyN (csS (eK (κ 16)) (ρ t)) (0, 0) (laM (ρ t))) (rd (ρ t) (16 * laM (ρ t)))) (nI ((ρ t).length - 16 * laM (ρ t))) 128)) 48 (dbl (dbl (eK (κ 16) (0, 0))))) κ τ := S_103
        refine R_aload_n (pc := 121) 4 dX4_mac_121 rfl rfl ?_
        refine R_aload_n (pc := 122) 2 dX4_mac_122 rfl rfl ?_
        refine R_get (pc := 123) dX4_mac_123 fX4_33 S_104.2.2.2.2.2.2.2.2.1 (by omega) rfl ?_
        refine R_callVh (pc := 126) (μ' := mX0_add) (As := [.ref 48]) (st := []) dX4_mac_126 zX0_add lX4_70 ⟨by decide, by decide⟩ rfl rfl ⟨by decide, by decide⟩ (S_104.blk 50 rfl) (by omega) rfl (Nat.le_of_ble_eq_true rfl) (S_add S_104 hn rfl rfl (by decide)) (fun h_106 r_ q_107 => ?_)
        obtain ⟨rfl, S_108, F_110⟩ := q_107
        have S_109 : Sys h_106 ρ (ub (ub (ub (ub (ub (ub (ub (ub β2 50 (cyN (csS (eK (κ 16)) (ρ t)) (0, 0) (laM (ρ t)))) 48 (0, 0)) 48 (eK (κ 16) (0, 0))) 48 (dbl (eK (κ 16) (0, 0)))) 50 (xb (cyN (csS (eK (κ 16)) (ρ t)) (0, 0) (laM (ρ t))) (rd (ρ t) (16 * laM (ρ t))))) 50 (aoc (xb (cyN (csS (eK (κ 16)) (ρ t)) (0, 0) (laM (ρ t))) (rd (ρ t) (16 * laM (ρ t)))) (nI ((ρ t).length - 16 * laM (ρ t))) 128)) 48 (dbl (dbl (eK (κ 16) (0, 0))))) 50 (xb (aoc (xb (cyN (csS (eK (κ 16)) (ρ t)) (0, 0) (laM (ρ t))) (rd (ρ t) (16 * laM (ρ t)))) (nI ((ρ t).length - 16 * laM (ρ t))) 128) (dbl (dbl (eK (κ 16) (0, 0)))))) κ τ := S_108
        refine R_aload_n (pc := 129) 2 dX4_mac_129 rfl rfl ?_
        refine R_get (pc := 130) dX4_mac_130 fX4_7 S_109.2.2.2.2.2.2.2.2.1 (by omega) rfl ?_
        refine R_aload_n (pc := 133) 4 dX4_mac_133 rfl rfl ?_
        refine R_callVh (pc := 134) (μ' := mX2_encrypt) (As := [.ref 50]) (st := []) dX4_mac_134 zX2_encrypt lX4_57 ⟨by decide, by decide⟩ rfl rfl ⟨by decide, by decide⟩ (S_109.2.2.1 16 (by decide)).1 (by omega) rfl (Nat.le_of_ble_eq_true rfl) (S_encrypt S_109 hn (by decide) rfl hk.1 hk.2) (fun h_111 r_ q_112 => ?_)
        obtain ⟨rfl, S_113, F_115⟩ := q_112
        have S_114 : Sys h_111 ρ (ub (ub (ub (ub (ub (ub (ub (ub (ub β2 50 (cyN (csS (eK (κ 16)) (ρ t)) (0, 0) (laM (ρ t)))) 48 (0, 0)) 48 (eK (κ 16) (0, 0))) 48 (dbl (eK (κ 16) (0, 0)))) 50 (xb (cyN (csS (eK (κ 16)) (ρ t)) (0, 0) (laM (ρ t))) (rd (ρ t) (16 * laM (ρ t))))) 50 (aoc (xb (cyN (csS (eK (κ 16)) (ρ t)) (0, 0) (laM (ρ t))) (rd (ρ t) (16 * laM (ρ t)))) (nI ((ρ t).length - 16 * laM (ρ t))) 128)) 48 (dbl (dbl (eK (κ 16) (0, 0))))) 50 (xb (aoc (xb (cyN (csS (eK (κ 16)) (ρ t)) (0, 0) (laM (ρ t))) (rd (ρ t) (16 * laM (ρ t)))) (nI ((ρ t).length - 16 * laM (ρ t))) 128) (dbl (dbl (eK (κ 16) (0, 0)))))) 50 (eK (κ 16) (xb (aoc (xb (cyN (csS (eK (κ 16)) (ρ t)) (0, 0) (laM (ρ t))) (rd (ρ t) (16 * laM (ρ t)))) (nI ((ρ t).length - 16 * laM (ρ t))) 128) (dbl (dbl (eK (κ 16) (0, 0))))))) κ τ := S_113
        rw [show macV (eK (κ 16)) (ρ t) = eK (κ 16) (xb (aoc (xb (cyN (csS (eK (κ 16)) (ρ t)) (0, 0) (laM (ρ t))) (rd (ρ t) (16 * laM (ρ t)))) (nI ((ρ t).length - 16 * laM (ρ t))) 128) (dbl (dbl (eK (κ 16) (0, 0))))) from by unfold macV; rw [if_neg c_85]; rfl]
        refine R_vreturn (pc := 137) dX4_mac_137 rfl (by decide) (by decide) ⟨rfl, (ub (ub (ub (ub (ub (ub (ub (ub (ub β2 50 (cyN (csS (eK (κ 16)) (ρ t)) (0, 0) (laM (ρ t)))) 48 (0, 0)) 48 (eK (κ 16) (0, 0))) 48 (dbl (eK (κ 16) (0, 0)))) 50 (xb (cyN (csS (eK (κ 16)) (ρ t)) (0, 0) (laM (ρ t))) (rd (ρ t) (16 * laM (ρ t))))) 50 (aoc (xb (cyN (csS (eK (κ 16)) (ρ t)) (0, 0) (laM (ρ t))) (rd (ρ t) (16 * laM (ρ t)))) (nI ((ρ t).length - 16 * laM (ρ t))) 128)) 48 (dbl (dbl (eK (κ 16) (0, 0))))) 50 (xb (aoc (xb (cyN (csS (eK (κ 16)) (ρ t)) (0, 0) (laM (ρ t))) (rd (ρ t) (16 * laM (ρ t)))) (nI ((ρ t).length - 16 * laM (ρ t))) 128) (dbl (dbl (eK (κ 16) (0, 0)))))) 50 (eK (κ 16) (xb (aoc (xb (cyN (csS (eK (κ 16)) (ρ t)) (0, 0) (laM (ρ t))) (rd (ρ t) (16 * laM (ρ t)))) (nI ((ρ t).length - 16 * laM (ρ t))) 128) (dbl (dbl (eK (κ 16) (0, 0))))))), ?_, rfl, S_114, ((((((((hF.tr F_69).tr F_74).tr F_79).tr F_84).tr F_100).tr F_105).tr F_110).tr F_115)⟩
        intro a_ n_
        simp only [List.mem_cons, List.not_mem_nil, or_false, not_or] at n_
        by_cases e0_ : a_ = 50
        · subst e0_; first | rfl | (simp only [ub_s]; done) | (simp (config := { decide := true }) only [ub, if_true, if_false, reduceIte]; first | rfl | skip)
        (try simp only [ub, if_neg, if_false, n_, e0_])
        (try simp only [ub_k])
        (try rw [hB a_ (by simp [n_, e0_])])
        (try simp only [ub, if_neg, if_false, n_, e0_])
        (try simp only [ub_k])
    · simp only [List.mem_cons, List.not_mem_nil, or_false, not_or] at n_; (try simp only [ub, if_neg, n_, if_false])
set_option maxHeartbeats 4000000 in
set_option maxRecDepth 100000 in
theorem qX4_mac_59_loop {l : Launch} {w : am_W} {h : am_H} {n : Nat} {ρ : Nat → List (BitVec 8)} {β : Nat → bP} {κ : Nat → kT} {τ : Nat × Nat × Nat} (S : Sys h ρ β κ τ) (hn : 60 ≤ n) {t : Nat} (ht : isRw t = true) (hk : kOk (κ 16)) (kk : ∀ h2 β2, Sys h2 ρ β2 κ τ → β2 59 = cyN (csS (eK (κ 16)) (ρ t)) (0, 0) (laM (ρ t)) → (∀ a, a ∉ [48, 59] → β2 a = β a) → Fr h h2 → RW l w mX4_mac h2 n 0 0 57 [(4, .int (nI (16 * (laM (ρ t))))), (3, .int (nI (16 * laM (ρ t)))), (0, .ref 47), (1, .ref t), (2, .ref 59)] [] (fun h' n' r_ => n' = n ∧ (SX h τ none ρ (ub β 59 (macV (eK (κ 16)) (ρ t))) κ [48]) h' r_)) : ∀ (d i : Nat), i + d = laM (ρ t) → ∀ h2 β2, Sys h2 ρ β2 κ τ → β2 59 = cyN (csS (eK (κ 16)) (ρ t)) (0, 0) i → (∀ a, a ∉ [48, 59] → β2 a = β a) → Fr h h2 → RW l w mX4_mac h2 n 0 0 30 [(4, .int (nI (16 * i))), (3, .int (nI (16 * laM (ρ t)))), (0, .ref 47), (1, .ref t), (2, .ref 59)] [] (fun h' n' r_ => n' = n ∧ (SX h τ none ρ (ub β 59 (macV (eK (κ 16)) (ρ t))) κ [48]) h' r_) := by
  have hlt := S.len t ht
  have htc := rw_cases ht
  have hla : 16 * laM (ρ t) ≤ (ρ t).length ∧ (ρ t).length ≤ 16 * laM (ρ t) + 16 := by unfold laM; omega
  intro d
  induction d with
  | zero =>
    intro i hd h2 β2 S2 hv59 hB hF
    refine R_iload (pc := 30) 0 dX4_mac_30 rfl ?_
    refine R_iload_n (pc := 32) 1 dX4_mac_32 rfl rfl ?_
    refine R_icmp_ge (pc := 33) (tgt := 57) dX4_mac_33 (by decide) (fun c_1 => ?_) (fun c_1 => absurd (nI_le (by omega) (by omega)) c_1)
    obtain rfl : i = laM (ρ t) := by omega
    exact kk h2 β2 S2 hv59 hB hF
  | succ d ih =>
    intro i hd h2 β2 S2 hv59 hB hF
    have S_1 : Sys h2 ρ (ub β2 59 (cyN (csS (eK (κ 16)) (ρ t)) (0, 0) i)) κ τ := Sys.know S2 (hv59)
    refine R_iload (pc := 30) 0 dX4_mac_30 rfl ?_
    refine R_iload_n (pc := 32) 1 dX4_mac_32 rfl rfl ?_
    refine R_icmp_ge (pc := 33) (tgt := 57) dX4_mac_33 (by decide) (fun c_2 => absurd c_2 (nI_ge (by omega) (by omega))) (fun c_2 => ?_)
    refine R_aload_n (pc := 36) 4 dX4_mac_36 rfl rfl ?_
    refine R_aload_n (pc := 37) 3 dX4_mac_37 rfl rfl ?_
    refine R_iload (pc := 38) 0 dX4_mac_38 rfl ?_
    refine R_callVh (pc := 40) (μ' := mX0_addPart) (As := [.ref t, .int (nI (16 * i))]) (st := []) dX4_mac_40 zX0_addPart lX4_53 ⟨by decide, by decide⟩ rfl rfl ⟨by decide, by decide⟩ (S_1.blk 59 rfl) (by omega) rfl (Nat.le_of_ble_eq_true rfl) (S_addPart S_1 hn rfl ht (16 * i) (by omega)) (fun h_3 r_ q_4 => ?_)
    obtain ⟨rfl, S_5, F_7⟩ := q_4
    have S_6 : Sys h_3 ρ (ub (ub β2 59 (cyN (csS (eK (κ 16)) (ρ t)) (0, 0) i)) 59 (xb (cyN (csS (eK (κ 16)) (ρ t)) (0, 0) i) (rd (ρ t) (16 * i)))) κ τ := S_5
    refine R_aload_n (pc := 43) 2 dX4_mac_43 rfl rfl ?_
    refine R_get (pc := 44) dX4_mac_44 fX4_7 S_6.2.2.2.2.2.2.2.2.1 (by omega) rfl ?_
    refine R_aload_n (pc := 47) 4 dX4_mac_47 rfl rfl ?_
    refine R_callVh (pc := 48) (μ' := mX2_encrypt) (As := [.ref 59]) (st := []) dX4_mac_48 zX2_encrypt lX4_57 ⟨by decide, by decide⟩ rfl rfl ⟨by decide, by decide⟩ (S_6.2.2.1 16 (by decide)).1 (by omega) rfl (Nat.le_of_ble_eq_true rfl) (S_encrypt S_6 hn (by decide) rfl hk.1 hk.2) (fun h_8 r_ q_9 => ?_)
    obtain ⟨rfl, S_10, F_12⟩ := q_9
    have S_11 : Sys h_8 ρ (ub (ub (ub β2 59 (cyN (csS (eK (κ 16)) (ρ t)) (0, 0) i)) 59 (xb (cyN (csS (eK (κ 16)) (ρ t)) (0, 0) i) (rd (ρ t) (16 * i)))) 59 (eK (κ 16) (xb (cyN (csS (eK (κ 16)) (ρ t)) (0, 0) i) (rd (ρ t) (16 * i))))) κ τ := S_10
    refine R_iinc (pc := 51) (j := 0) (v := nI (16 * (i + 1))) (lv' := [(4, .int (nI (16 * (i + 1)))), (3, .int (nI (16 * laM (ρ t)))), (0, .ref 47), (1, .ref t), (2, .ref 59)]) dX4_mac_51 rfl (nI_add (16 * i) 16) (by decide) rfl ?_
    refine R_goto (pc := 54) (tgt := 30) dX4_mac_54 (by decide) ?_
    refine R_sub [0, 1, 2, 3, 4] rfl ?_
    refine ih (i + 1) (by omega) h_8 (ub (ub (ub β2 59 (cyN (csS (eK (κ 16)) (ρ t)) (0, 0) i)) 59 (xb (cyN (csS (eK (κ 16)) (ρ t)) (0, 0) i) (rd (ρ t) (16 * i)))) 59 (eK (κ 16) (xb (cyN (csS (eK (κ 16)) (ρ t)) (0, 0) i) (rd (ρ t) (16 * i))))) (by have z_ := S_11; skip; exact z_) rfl (fun a_ n_ => ?_) (hF.tr (F_7.tr F_12))
    have q_ := hB a_ n_; simp only [List.mem_cons, List.not_mem_nil, or_false, not_or] at n_
    (try simp only [ub, if_neg, n_, if_false])
    first | exact q_ | (simp only [ub_k]; exact q_) | (rw [q_]; simp only [ub_k]) | (repeat' split) <;> first | exact q_ | (rename_i e_; rw [e_])
set_option maxHeartbeats 4000000 in
set_option maxRecDepth 100000 in
theorem qX4_mac_59 {l : Launch} {w : am_W} {h : am_H} {n : Nat} {ρ : Nat → List (BitVec 8)} {β : Nat → bP} {κ : Nat → kT} {τ : Nat × Nat × Nat} (S : Sys h ρ β κ τ) (hn : 60 ≤ n) {t : Nat} (ht : isRw t = true) (hk : kOk (κ 16)) : RH l w mX4_mac h n [.ref 47, .ref t, .ref 59] (SX h τ none ρ (ub β 59 (macV (eK (κ 16)) (ρ t))) κ [48]) := by
  refine RC.of [(0, .ref 47), (1, .ref t), (2, .ref 59)] (by decide +kernel) rfl (Nat.le_of_ble_eq_true rfl) ?_
  have hlt := S.len t ht
  have htc := rw_cases ht
  have hla : 16 * laM (ρ t) ≤ (ρ t).length ∧ (ρ t).length ≤ 16 * laM (ρ t) + 16 := by unfold laM; omega
  refine R_aload_n (pc := 0) 1 dX4_mac_0 rfl rfl ?_
  have := rw_cases (r := t) ht
  refine R_get (pc := 1) dX4_mac_1 fX4_47 (S.rowO t ht) (by omega) rfl ?_
  refine R_eqi (y := nI (ρ t).length) (by first | rfl | (simp only [ur_s, ur_ur])) ?_
  refine R_if_ne (pc := 4) (tgt := 11) dX4_mac_4 (by decide) (fun c_1 => ?_) (fun c_1 => ?_)
  · skip
    refine R_aload_n (pc := 11) 1 dX4_mac_11 rfl rfl ?_
    have := rw_cases (r := t) ht
    refine R_get (pc := 12) dX4_mac_12 fX4_47 (S.rowO t ht) (by omega) rfl ?_
    refine R_eqi (y := nI (ρ t).length) (by first | rfl | (simp only [ur_s, ur_ur])) ?_
    refine R_iconst (pc := 15) (v := 1) dX4_mac_15 (by decide) ?_
    refine R_isub (pc := 16) dX4_mac_16 ?_
    refine R_eqi (y := nI ((ρ t).length - 1)) (pk_sub (b := 1) (by rcases Nat.eq_zero_or_pos (ρ t).length with q | q; exact absurd (by rw [q]; rfl) c_1; exact q)) ?_
    refine R_bipush (pc := 17) (v := (-16)) dX4_mac_17 (by decide) ?_
    refine R_iand (pc := 19) dX4_mac_19 ?_
    refine R_eqi (y := nI (16 * laM (ρ t))) (by rw [and_m16 (by omega)]; unfold laM; rw [Nat.mul_comm]) ?_
    refine R_istore_n (pc := 20) (lv' := [(3, .int (nI (16 * laM (ρ t)))), (0, .ref 47), (1, .ref t), (2, .ref 59)]) dX4_mac_20 rfl (by decide) rfl ?_
    refine R_aload_n (pc := 21) 3 dX4_mac_21 rfl rfl ?_
    refine R_lconst (pc := 22) (v := 0) dX4_mac_22 (by decide) ?_
    refine R_lconst (pc := 23) (v := 0) dX4_mac_23 (by decide) ?_
    refine R_callVh (pc := 24) (μ' := mX0_become) (As := [.long 0, .long 0]) (st := []) dX4_mac_24 zX0_become lX4_43 ⟨by decide, by decide⟩ rfl rfl ⟨by decide, by decide⟩ (S.blk 59 rfl) (by omega) rfl (Nat.le_of_ble_eq_true rfl) (S_become S hn rfl _ _) (fun h_2 r_ q_3 => ?_)
    obtain ⟨rfl, S_4, F_6⟩ := q_3
    have S_5 : Sys h_2 ρ (ub β 59 (0, 0)) κ τ := S_4
    refine R_iconst (pc := 27) (v := 0) dX4_mac_27 (by decide) ?_
    refine R_istore (pc := 28) (lv' := [(4, .int 0), (3, .int (nI (16 * laM (ρ t)))), (0, .ref 47), (1, .ref t), (2, .ref 59)]) dX4_mac_28 (by decide) rfl ?_
    refine R_sub [0, 1, 2, 3, 4] rfl ?_
    refine qX4_mac_59_loop S hn ht hk ?_ (laM (ρ t)) 0 (by omega) h_2 (ub β 59 (0, 0)) S_5 rfl (fun a_ n_ => ?_) F_6
    · intro h2 β2 S2 hv59 hB hF
      have S_7 : Sys h2 ρ (ub β2 59 (cyN (csS (eK (κ 16)) (ρ t)) (0, 0) (laM (ρ t)))) κ τ := Sys.know S2 (hv59)
      refine R_aload_n (pc := 57) 2 dX4_mac_57 rfl rfl ?_
      refine R_get (pc := 58) dX4_mac_58 fX4_33 S_7.2.2.2.2.2.2.2.2.1 (by omega) rfl ?_
      refine R_lconst (pc := 61) (v := 0) dX4_mac_61 (by decide) ?_
      refine R_lconst (pc := 62) (v := 0) dX4_mac_62 (by decide) ?_
      refine R_callVh (pc := 63) (μ' := mX0_become) (As := [.long 0, .long 0]) (st := []) dX4_mac_63 zX0_become lX4_43 ⟨by decide, by decide⟩ rfl rfl ⟨by decide, by decide⟩ (S_7.blk 48 rfl) (by omega) rfl (Nat.le_of_ble_eq_true rfl) (S_become S_7 hn rfl _ _) (fun h_8 r_ q_9 => ?_)
      obtain ⟨rfl, S_10, F_12⟩ := q_9
      have S_11 : Sys h_8 ρ (ub (ub β2 59 (cyN (csS (eK (κ 16)) (ρ t)) (0, 0) (laM (ρ t)))) 48 (0, 0)) κ τ := S_10
      refine R_aload_n (pc := 66) 2 dX4_mac_66 rfl rfl ?_
      refine R_get (pc := 67) dX4_mac_67 fX4_7 S_11.2.2.2.2.2.2.2.2.1 (by omega) rfl ?_
      refine R_aload_n (pc := 70) 2 dX4_mac_70 rfl rfl ?_
      refine R_get (pc := 71) dX4_mac_71 fX4_33 S_11.2.2.2.2.2.2.2.2.1 (by omega) rfl ?_
      refine R_callVh (pc := 74) (μ' := mX2_encrypt) (As := [.ref 48]) (st := []) dX4_mac_74 zX2_encrypt lX4_57 ⟨by decide, by decide⟩ rfl rfl ⟨by decide, by decide⟩ (S_11.2.2.1 16 (by decide)).1 (by omega) rfl (Nat.le_of_ble_eq_true rfl) (S_encrypt S_11 hn (by decide) rfl hk.1 hk.2) (fun h_13 r_ q_14 => ?_)
      obtain ⟨rfl, S_15, F_17⟩ := q_14
      have S_16 : Sys h_13 ρ (ub (ub (ub β2 59 (cyN (csS (eK (κ 16)) (ρ t)) (0, 0) (laM (ρ t)))) 48 (0, 0)) 48 (eK (κ 16) (0, 0))) κ τ := S_15
      refine R_aload_n (pc := 77) 2 dX4_mac_77 rfl rfl ?_
      refine R_get (pc := 78) dX4_mac_78 fX4_33 S_16.2.2.2.2.2.2.2.2.1 (by omega) rfl ?_
      refine R_callVh (pc := 81) (μ' := mX0_makeDouble) (As := []) (st := []) dX4_mac_81 zX0_makeDouble lX4_63 ⟨by decide, by decide⟩ rfl rfl ⟨by decide, by decide⟩ (S_16.blk 48 rfl) (by omega) rfl (Nat.le_of_ble_eq_true rfl) (S_makeDouble S_16 hn rfl) (fun h_18 r_ q_19 => ?_)
      obtain ⟨rfl, S_20, F_22⟩ := q_19
      have S_21 : Sys h_18 ρ (ub (ub (ub (ub β2 59 (cyN (csS (eK (κ 16)) (ρ t)) (0, 0) (laM (ρ t)))) 48 (0, 0)) 48 (eK (κ 16) (0, 0))) 48 (dbl (eK (κ 16) (0, 0)))) κ τ := S_20
      refine R_aload_n (pc := 84) 4 dX4_mac_84 rfl rfl ?_
      refine R_aload_n (pc := 85) 3 dX4_mac_85 rfl rfl ?_
      refine R_iload_n (pc := 86) 1 dX4_mac_86 rfl rfl ?_
      refine R_callVh (pc := 87) (μ' := mX0_addPart) (As := [.ref t, .int (nI (16 * laM (ρ t)))]) (st := []) dX4_mac_87 zX0_addPart lX4_53 ⟨by decide, by decide⟩ rfl rfl ⟨by decide, by decide⟩ (S_21.blk 59 rfl) (by omega) rfl (Nat.le_of_ble_eq_true rfl) (S_addPart S_21 hn rfl ht (16 * laM (ρ t)) (by omega)) (fun h_23 r_ q_24 => ?_)
      obtain ⟨rfl, S_25, F_27⟩ := q_24
      have S_26 : Sys h_23 ρ (ub (ub (ub (ub (ub β2 59 (cyN (csS (eK (κ 16)) (ρ t)) (0, 0) (laM (ρ t)))) 48 (0, 0)) 48 (eK (κ 16) (0, 0))) 48 (dbl (eK (κ 16) (0, 0)))) 59 (xb (cyN (csS (eK (κ 16)) (ρ t)) (0, 0) (laM (ρ t))) (rd (ρ t) (16 * laM (ρ t))))) κ τ := S_25
      refine R_aload_n (pc := 90) 3 dX4_mac_90 rfl rfl ?_
      have := rw_cases (r := t) ht
      refine R_get (pc := 91) dX4_mac_91 fX4_47 (S_26.rowO t ht) (by omega) rfl ?_
      refine R_eqi (y := nI (ρ t).length) (by first | rfl | (simp only [ur_s, ur_ur])) ?_
      refine R_iload_n (pc := 94) 1 dX4_mac_94 rfl rfl ?_
      refine R_isub (pc := 95) dX4_mac_95 ?_
      refine R_eqi (y := nI ((ρ t).length - 16 * laM (ρ t))) (pk_sub (by omega)) ?_
      refine R_bipush (pc := 96) (v := 16) dX4_mac_96 (by decide) ?_
      refine R_icmp_ge (pc := 98) (tgt := 121) dX4_mac_98 (by decide) (fun c_28 => ?_) (fun c_28 => ?_)
      · skip
        refine R_aload_n (pc := 121) 4 dX4_mac_121 rfl rfl ?_
        refine R_aload_n (pc := 122) 2 dX4_mac_122 rfl rfl ?_
        refine R_get (pc := 123) dX4_mac_123 fX4_33 S_26.2.2.2.2.2.2.2.2.1 (by omega) rfl ?_
        refine R_callVh (pc := 126) (μ' := mX0_add) (As := [.ref 48]) (st := []) dX4_mac_126 zX0_add lX4_70 ⟨by decide, by decide⟩ rfl rfl ⟨by decide, by decide⟩ (S_26.blk 59 rfl) (by omega) rfl (Nat.le_of_ble_eq_true rfl) (S_add S_26 hn rfl rfl (by decide)) (fun h_29 r_ q_30 => ?_)
        obtain ⟨rfl, S_31, F_33⟩ := q_30
        have S_32 : Sys h_29 ρ (ub (ub (ub (ub (ub (ub β2 59 (cyN (csS (eK (κ 16)) (ρ t)) (0, 0) (laM (ρ t)))) 48 (0, 0)) 48 (eK (κ 16) (0, 0))) 48 (dbl (eK (κ 16) (0, 0)))) 59 (xb (cyN (csS (eK (κ 16)) (ρ t)) (0, 0) (laM (ρ t))) (rd (ρ t) (16 * laM (ρ t))))) 59 (xb (xb (cyN (csS (eK (κ 16)) (ρ t)) (0, 0) (laM (ρ t))) (rd (ρ t) (16 * laM (ρ t)))) (dbl (eK (κ 16) (0, 0))))) κ τ := S_31
        refine R_aload_n (pc := 129) 2 dX4_mac_129 rfl rfl ?_
        refine R_get (pc := 130) dX4_mac_130 fX4_7 S_32.2.2.2.2.2.2.2.2.1 (by omega) rfl ?_
        refine R_aload_n (pc := 133) 4 dX4_mac_133 rfl rfl ?_
        refine R_callVh (pc := 134) (μ' := mX2_encrypt) (As := [.ref 59]) (st := []) dX4_mac_134 zX2_encrypt lX4_57 ⟨by decide, by decide⟩ rfl rfl ⟨by decide, by decide⟩ (S_32.2.2.1 16 (by decide)).1 (by omega) rfl (Nat.le_of_ble_eq_true rfl) (S_encrypt S_32 hn (by decide) rfl hk.1 hk.2) (fun h_34 r_ q_35 => ?_)
        obtain ⟨rfl, S_36, F_38⟩ := q_35
        have S_37 : Sys h_34 ρ (ub (ub (ub (ub (ub (ub (ub β2 59 (cyN (csS (eK (κ 16)) (ρ t)) (0, 0) (laM (ρ t)))) 48 (0, 0)) 48 (eK (κ 16) (0, 0))) 48 (dbl (eK (κ 16) (0, 0)))) 59 (xb (cyN (csS (eK (κ 16)) (ρ t)) (0, 0) (laM (ρ t))) (rd (ρ t) (16 * laM (ρ t))))) 59 (xb (xb (cyN (csS (eK (κ 16)) (ρ t)) (0, 0) (laM (ρ t))) (rd (ρ t) (16 * laM (ρ t)))) (dbl (eK (κ 16) (0, 0))))) 59 (eK (κ 16) (xb (xb (cyN (csS (eK (κ 16)) (ρ t)) (0, 0) (laM (ρ t))) (rd (ρ t) (16 * laM (ρ t)))) (dbl (eK (κ 16) (0, 0)))))) κ τ := S_36
        rw [show macV (eK (κ 16)) (ρ t) = eK (κ 16) (xb (xb (cyN (csS (eK (κ 16)) (ρ t)) (0, 0) (laM (ρ t))) (rd (ρ t) (16 * laM (ρ t)))) (dbl (eK (κ 16) (0, 0)))) from by unfold macV; rw [if_pos c_28]; rfl]
        refine R_vreturn (pc := 137) dX4_mac_137 rfl (by decide) (by decide) ⟨rfl, (ub (ub (ub (ub (ub (ub (ub β2 59 (cyN (csS (eK (κ 16)) (ρ t)) (0, 0) (laM (ρ t)))) 48 (0, 0)) 48 (eK (κ 16) (0, 0))) 48 (dbl (eK (κ 16) (0, 0)))) 59 (xb (cyN (csS (eK (κ 16)) (ρ t)) (0, 0) (laM (ρ t))) (rd (ρ t) (16 * laM (ρ t))))) 59 (xb (xb (cyN (csS (eK (κ 16)) (ρ t)) (0, 0) (laM (ρ t))) (rd (ρ t) (16 * laM (ρ t)))) (dbl (eK (κ 16) (0, 0))))) 59 (eK (κ 16) (xb (xb (cyN (csS (eK (κ 16)) (ρ t)) (0, 0) (laM (ρ t))) (rd (ρ t) (16 * laM (ρ t)))) (dbl (eK (κ 16) (0, 0)))))), ?_, rfl, S_37, ((((((hF.tr F_12).tr F_17).tr F_22).tr F_27).tr F_33).tr F_38)⟩
        intro a_ n_
        simp only [List.mem_cons, List.not_mem_nil, or_false, not_or] at n_
        by_cases e0_ : a_ = 59
        · subst e0_; first | rfl | (simp only [ub_s]; done) | (simp (config := { decide := true }) only [ub, if_true, if_false, reduceIte]; first | rfl | skip)
        (try simp only [ub, if_neg, if_false, n_, e0_])
        (try simp only [ub_k])
        (try rw [hB a_ (by simp [n_, e0_])])
        (try simp only [ub, if_neg, if_false, n_, e0_])
        (try simp only [ub_k])
      · skip
        refine R_aload_n (pc := 101) 4 dX4_mac_101 rfl rfl ?_
        refine R_aload_n (pc := 102) 3 dX4_mac_102 rfl rfl ?_
        have := rw_cases (r := t) ht
        refine R_get (pc := 103) dX4_mac_103 fX4_47 (S_26.rowO t ht) (by omega) rfl ?_
        refine R_eqi (y := nI (ρ t).length) (by first | rfl | (simp only [ur_s, ur_ur])) ?_
        refine R_iload_n (pc := 106) 1 dX4_mac_106 rfl rfl ?_
        refine R_isub (pc := 107) dX4_mac_107 ?_
        refine R_eqi (y := nI ((ρ t).length - 16 * laM (ρ t))) (pk_sub (by omega)) ?_
        refine R_sipush (pc := 108) (v := 128) dX4_mac_108 (by decide) ?_
        refine R_callVh (pc := 111) (μ' := mX0_addOctet) (As := [.int (nI ((ρ t).length - 16 * laM (ρ t))), .int 128]) (st := []) dX4_mac_111 zX0_addOctet lX4_66 ⟨by decide, by decide⟩ rfl rfl ⟨by decide, by decide⟩ (S_26.blk 59 rfl) (by omega) rfl (Nat.le_of_ble_eq_true rfl) (S_addOctet S_26 hn rfl _ _) (fun h_39 r_ q_40 => ?_)
        obtain ⟨rfl, S_41, F_43⟩ := q_40
        have S_42 : Sys h_39 ρ (ub (ub (ub (ub (ub (ub β2 59 (cyN (csS (eK (κ 16)) (ρ t)) (0, 0) (laM (ρ t)))) 48 (0, 0)) 48 (eK (κ 16) (0, 0))) 48 (dbl (eK (κ 16) (0, 0)))) 59 (xb (cyN (csS (eK (κ 16)) (ρ t)) (0, 0) (laM (ρ t))) (rd (ρ t) (16 * laM (ρ t))))) 59 (aoc (xb (cyN (csS (eK (κ 16)) (ρ t)) (0, 0) (laM (ρ t))) (rd (ρ t) (16 * laM (ρ t)))) (nI ((ρ t).length - 16 * laM (ρ t))) 128)) κ τ := S_41
        refine R_aload_n (pc := 114) 2 dX4_mac_114 rfl rfl ?_
        refine R_get (pc := 115) dX4_mac_115 fX4_33 S_42.2.2.2.2.2.2.2.2.1 (by omega) rfl ?_
        refine R_callVh (pc := 118) (μ' := mX0_makeDouble) (As := []) (st := []) dX4_mac_118 zX0_makeDouble lX4_63 ⟨by decide, by decide⟩ rfl rfl ⟨by decide, by decide⟩ (S_42.blk 48 rfl) (by omega) rfl (Nat.le_of_ble_eq_true rfl) (S_makeDouble S_42 hn rfl) (fun h_44 r_ q_45 => ?_)
        obtain ⟨rfl, S_46, F_48⟩ := q_45
        have S_47 : Sys h_44 ρ (ub (ub (ub (ub (ub (ub (ub β2 59 (cyN (csS (eK (κ 16)) (ρ t)) (0, 0) (laM (ρ t)))) 48 (0, 0)) 48 (eK (κ 16) (0, 0))) 48 (dbl (eK (κ 16) (0, 0)))) 59 (xb (cyN (csS (eK (κ 16)) (ρ t)) (0, 0) (laM (ρ t))) (rd (ρ t) (16 * laM (ρ t))))) 59 (aoc (xb (cyN (csS (eK (κ 16)) (ρ t)) (0, 0) (laM (ρ t))) (rd (ρ t) (16 * laM (ρ t)))) (nI ((ρ t).length - 16 * laM (ρ t))) 128)) 48 (dbl (dbl (eK (κ 16) (0, 0))))) κ τ := S_46
        refine R_aload_n (pc := 121) 4 dX4_mac_121 rfl rfl ?_
        refine R_aload_n (pc := 122) 2 dX4_mac_122 rfl rfl ?_
        refine R_get (pc := 123) dX4_mac_123 fX4_33 S_47.2.2.2.2.2.2.2.2.1 (by omega) rfl ?_
        refine R_callVh (pc := 126) (μ' := mX0_add) (As := [.ref 48]) (st := []) dX4_mac_126 zX0_add lX4_70 ⟨by decide, by decide⟩ rfl rfl ⟨by decide, by decide⟩ (S_47.blk 59 rfl) (by omega) rfl (Nat.le_of_ble_eq_true rfl) (S_add S_47 hn rfl rfl (by decide)) (fun h_49 r_ q_50 => ?_)
        obtain ⟨rfl, S_51, F_53⟩ := q_50
        have S_52 : Sys h_49 ρ (ub (ub (ub (ub (ub (ub (ub (ub β2 59 (cyN (csS (eK (κ 16)) (ρ t)) (0, 0) (laM (ρ t)))) 48 (0, 0)) 48 (eK (κ 16) (0, 0))) 48 (dbl (eK (κ 16) (0, 0)))) 59 (xb (cyN (csS (eK (κ 16)) (ρ t)) (0, 0) (laM (ρ t))) (rd (ρ t) (16 * laM (ρ t))))) 59 (aoc (xb (cyN (csS (eK (κ 16)) (ρ t)) (0, 0) (laM (ρ t))) (rd (ρ t) (16 * laM (ρ t)))) (nI ((ρ t).length - 16 * laM (ρ t))) 128)) 48 (dbl (dbl (eK (κ 16) (0, 0))))) 59 (xb (aoc (xb (cyN (csS (eK (κ 16)) (ρ t)) (0, 0) (laM (ρ t))) (rd (ρ t) (16 * laM (ρ t)))) (nI ((ρ t).length - 16 * laM (ρ t))) 128) (dbl (dbl (eK (κ 16) (0, 0)))))) κ τ := S_51
        refine R_aload_n (pc := 129) 2 dX4_mac_129 rfl rfl ?_
        refine R_get (pc := 130) dX4_mac_130 fX4_7 S_52.2.2.2.2.2.2.2.2.1 (by omega) rfl ?_
        refine R_aload_n (pc := 133) 4 dX4_mac_133 rfl rfl ?_
        refine R_callVh (pc := 134) (μ' := mX2_encrypt) (As := [.ref 59]) (st := []) dX4_mac_134 zX2_encrypt lX4_57 ⟨by decide, by decide⟩ rfl rfl ⟨by decide, by decide⟩ (S_52.2.2.1 16 (by decide)).1 (by omega) rfl (Nat.le_of_ble_eq_true rfl) (S_encrypt S_52 hn (by decide) rfl hk.1 hk.2) (fun h_54 r_ q_55 => ?_)
        obtain ⟨rfl, S_56, F_58⟩ := q_55
        have S_57 : Sys h_54 ρ (ub (ub (ub (ub (ub (ub (ub (ub (ub β2 59 (cyN (csS (eK (κ 16)) (ρ t)) (0, 0) (laM (ρ t)))) 48 (0, 0)) 48 (eK (κ 16) (0, 0))) 48 (dbl (eK (κ 16) (0, 0)))) 59 (xb (cyN (csS (eK (κ 16)) (ρ t)) (0, 0) (laM (ρ t))) (rd (ρ t) (16 * laM (ρ t))))) 59 (aoc (xb (cyN (csS (eK (κ 16)) (ρ t)) (0, 0) (laM (ρ t))) (rd (ρ t) (16 * laM (ρ t)))) (nI ((ρ t).length - 16 * laM (ρ t))) 128)) 48 (dbl (dbl (eK (κ 16) (0, 0))))) 59 (xb (aoc (xb (cyN (csS (eK (κ 16)) (ρ t)) (0, 0) (laM (ρ t))) (rd (ρ t) (16 * laM (ρ t)))) (nI ((ρ t).length - 16 * laM (ρ t))) 128) (dbl (dbl (eK (κ 16) (0, 0)))))) 59 (eK (κ 16) (xb (aoc (xb (cyN (csS (eK (κ 16)) (ρ t)) (0, 0) (laM (ρ t))) (rd (ρ t) (16 * laM (ρ t)))) (nI ((ρ t).length - 16 * laM (ρ t))) 128) (dbl (dbl (eK (κ 16) (0, 0))))))) κ τ := S_56
        rw [show macV (eK (κ 16)) (ρ t) = eK (κ 16) (xb (aoc (xb (cyN (csS (eK (κ 16)) (ρ t)) (0, 0) (laM (ρ t))) (rd (ρ t) (16 * laM (ρ t)))) (nI ((ρ t).length - 16 * laM (ρ t))) 128) (dbl (dbl (eK (κ 16) (0, 0))))) from by unfold macV; rw [if_neg c_28]; rfl]
        refine R_vreturn (pc := 137) dX4_mac_137 rfl (by decide) (by decide) ⟨rfl, (ub (ub (ub (ub (ub (ub (ub (ub (ub β2 59 (cyN (csS (eK (κ 16)) (ρ t)) (0, 0) (laM (ρ t)))) 48 (0, 0)) 48 (eK (κ 16) (0, 0))) 48 (dbl (eK (κ 16) (0, 0)))) 59 (xb (cyN (csS (eK (κ 16)) (ρ t)) (0, 0) (laM (ρ t))) (rd (ρ t) (16 * laM (ρ t))))) 59 (aoc (xb (cyN (csS (eK (κ 16)) (ρ t)) (0, 0) (laM (ρ t))) (rd (ρ t) (16 * laM (ρ t)))) (nI ((ρ t).length - 16 * laM (ρ t))) 128)) 48 (dbl (dbl (eK (κ 16) (0, 0))))) 59 (xb (aoc (xb (cyN (csS (eK (κ 16)) (ρ t)) (0, 0) (laM (ρ t))) (rd (ρ t) (16 * laM (ρ t)))) (nI ((ρ t).length - 16 * laM (ρ t))) 128) (dbl (dbl (eK (κ 16) (0, 0)))))) 59 (eK (κ 16) (xb (aoc (xb (cyN (csS (eK (κ 16)) (ρ t)) (0, 0) (laM (ρ t))) (rd (ρ t) (16 * laM (ρ t)))) (nI ((ρ t).length - 16 * laM (ρ t))) 128) (dbl (dbl (eK (κ 16) (0, 0))))))), ?_, rfl, S_57, ((((((((hF.tr F_12).tr F_17).tr F_22).tr F_27).tr F_43).tr F_48).tr F_53).tr F_58)⟩
        intro a_ n_
        simp only [List.mem_cons, List.not_mem_nil, or_false, not_or] at n_
        by_cases e0_ : a_ = 59
        · subst e0_; first | rfl | (simp only [ub_s]; done) | (simp (config := { decide := true }) only [ub, if_true, if_false, reduceIte]; first | rfl | skip)
        (try simp only [ub, if_neg, if_false, n_, e0_])
        (try simp only [ub_k])
        (try rw [hB a_ (by simp [n_, e0_])])
        (try simp only [ub, if_neg, if_false, n_, e0_])
        (try simp only [ub_k])
    · simp only [List.mem_cons, List.not_mem_nil, or_false, not_or] at n_; (try simp only [ub, if_neg, n_, if_false])
  · skip
    refine R_iconst (pc := 7) (v := 0) dX4_mac_7 (by decide) ?_
    refine R_eqi (y := nI (16 * laM (ρ t))) (by rw [show (16 * laM (ρ t)) = 0 by have := (nI_eq (a := (ρ t).length) (b := 0) (by omega) (by omega)).mp c_1; unfold laM; omega]; rfl) ?_
    refine R_goto (pc := 8) (tgt := 20) dX4_mac_8 (by decide) ?_
    refine R_istore_n (pc := 20) (lv' := [(3, .int (nI (16 * laM (ρ t)))), (0, .ref 47), (1, .ref t), (2, .ref 59)]) dX4_mac_20 rfl (by decide) rfl ?_
    refine R_aload_n (pc := 21) 3 dX4_mac_21 rfl rfl ?_
    refine R_lconst (pc := 22) (v := 0) dX4_mac_22 (by decide) ?_
    refine R_lconst (pc := 23) (v := 0) dX4_mac_23 (by decide) ?_
    refine R_callVh (pc := 24) (μ' := mX0_become) (As := [.long 0, .long 0]) (st := []) dX4_mac_24 zX0_become lX4_43 ⟨by decide, by decide⟩ rfl rfl ⟨by decide, by decide⟩ (S.blk 59 rfl) (by omega) rfl (Nat.le_of_ble_eq_true rfl) (S_become S hn rfl _ _) (fun h_59 r_ q_60 => ?_)
    obtain ⟨rfl, S_61, F_63⟩ := q_60
    have S_62 : Sys h_59 ρ (ub β 59 (0, 0)) κ τ := S_61
    refine R_iconst (pc := 27) (v := 0) dX4_mac_27 (by decide) ?_
    refine R_istore (pc := 28) (lv' := [(4, .int 0), (3, .int (nI (16 * laM (ρ t)))), (0, .ref 47), (1, .ref t), (2, .ref 59)]) dX4_mac_28 (by decide) rfl ?_
    refine R_sub [0, 1, 2, 3, 4] rfl ?_
    refine qX4_mac_59_loop S hn ht hk ?_ (laM (ρ t)) 0 (by omega) h_59 (ub β 59 (0, 0)) S_62 rfl (fun a_ n_ => ?_) F_63
    · intro h2 β2 S2 hv59 hB hF
      have S_64 : Sys h2 ρ (ub β2 59 (cyN (csS (eK (κ 16)) (ρ t)) (0, 0) (laM (ρ t)))) κ τ := Sys.know S2 (hv59)
      refine R_aload_n (pc := 57) 2 dX4_mac_57 rfl rfl ?_
      refine R_get (pc := 58) dX4_mac_58 fX4_33 S_64.2.2.2.2.2.2.2.2.1 (by omega) rfl ?_
      refine R_lconst (pc := 61) (v := 0) dX4_mac_61 (by decide) ?_
      refine R_lconst (pc := 62) (v := 0) dX4_mac_62 (by decide) ?_
      refine R_callVh (pc := 63) (μ' := mX0_become) (As := [.long 0, .long 0]) (st := []) dX4_mac_63 zX0_become lX4_43 ⟨by decide, by decide⟩ rfl rfl ⟨by decide, by decide⟩ (S_64.blk 48 rfl) (by omega) rfl (Nat.le_of_ble_eq_true rfl) (S_become S_64 hn rfl _ _) (fun h_65 r_ q_66 => ?_)
      obtain ⟨rfl, S_67, F_69⟩ := q_66
      have S_68 : Sys h_65 ρ (ub (ub β2 59 (cyN (csS (eK (κ 16)) (ρ t)) (0, 0) (laM (ρ t)))) 48 (0, 0)) κ τ := S_67
      refine R_aload_n (pc := 66) 2 dX4_mac_66 rfl rfl ?_
      refine R_get (pc := 67) dX4_mac_67 fX4_7 S_68.2.2.2.2.2.2.2.2.1 (by omega) rfl ?_
      refine R_aload_n (pc := 70) 2 dX4_mac_70 rfl rfl ?_
      refine R_get (pc := 71) dX4_mac_71 fX4_33 S_68.2.2.2.2.2.2.2.2.1 (by omega) rfl ?_
      refine R_callVh (pc := 74) (μ' := mX2_encrypt) (As := [.ref 48]) (st := []) dX4_mac_74 zX2_encrypt lX4_57 ⟨by decide, by decide⟩ rfl rfl ⟨by decide, by decide⟩ (S_68.2.2.1 16 (by decide)).1 (by omega) rfl (Nat.le_of_ble_eq_true rfl) (S_encrypt S_68 hn (by decide) rfl hk.1 hk.2) (fun h_70 r_ q_71 => ?_)
      obtain ⟨rfl, S_72, F_74⟩ := q_71
      have S_73 : Sys h_70 ρ (ub (ub (ub β2 59 (cyN (csS (eK (κ 16)) (ρ t)) (0, 0) (laM (ρ t)))) 48 (0, 0)) 48 (eK (κ 16) (0, 0))) κ τ := S_72
      refine R_aload_n (pc := 77) 2 dX4_mac_77 rfl rfl ?_
      refine R_get (pc := 78) dX4_mac_78 fX4_33 S_73.2.2.2.2.2.2.2.2.1 (by omega) rfl ?_
      refine R_callVh (pc := 81) (μ' := mX0_makeDouble) (As := []) (st := []) dX4_mac_81 zX0_makeDouble lX4_63 ⟨by decide, by decide⟩ rfl rfl ⟨by decide, by decide⟩ (S_73.blk 48 rfl) (by omega) rfl (Nat.le_of_ble_eq_true rfl) (S_makeDouble S_73 hn rfl) (fun h_75 r_ q_76 => ?_)
      obtain ⟨rfl, S_77, F_79⟩ := q_76
      have S_78 : Sys h_75 ρ (ub (ub (ub (ub β2 59 (cyN (csS (eK (κ 16)) (ρ t)) (0, 0) (laM (ρ t)))) 48 (0, 0)) 48 (eK (κ 16) (0, 0))) 48 (dbl (eK (κ 16) (0, 0)))) κ τ := S_77
      refine R_aload_n (pc := 84) 4 dX4_mac_84 rfl rfl ?_
      refine R_aload_n (pc := 85) 3 dX4_mac_85 rfl rfl ?_
      refine R_iload_n (pc := 86) 1 dX4_mac_86 rfl rfl ?_
      refine R_callVh (pc := 87) (μ' := mX0_addPart) (As := [.ref t, .int (nI (16 * laM (ρ t)))]) (st := []) dX4_mac_87 zX0_addPart lX4_53 ⟨by decide, by decide⟩ rfl rfl ⟨by decide, by decide⟩ (S_78.blk 59 rfl) (by omega) rfl (Nat.le_of_ble_eq_true rfl) (S_addPart S_78 hn rfl ht (16 * laM (ρ t)) (by omega)) (fun h_80 r_ q_81 => ?_)
      obtain ⟨rfl, S_82, F_84⟩ := q_81
      have S_83 : Sys h_80 ρ (ub (ub (ub (ub (ub β2 59 (cyN (csS (eK (κ 16)) (ρ t)) (0, 0) (laM (ρ t)))) 48 (0, 0)) 48 (eK (κ 16) (0, 0))) 48 (dbl (eK (κ 16) (0, 0)))) 59 (xb (cyN (csS (eK (κ 16)) (ρ t)) (0, 0) (laM (ρ t))) (rd (ρ t) (16 * laM (ρ t))))) κ τ := S_82
      refine R_aload_n (pc := 90) 3 dX4_mac_90 rfl rfl ?_
      have := rw_cases (r := t) ht
      refine R_get (pc := 91) dX4_mac_91 fX4_47 (S_83.rowO t ht) (by omega) rfl ?_
      refine R_eqi (y := nI (ρ t).length) (by first | rfl | (simp only [ur_s, ur_ur])) ?_
      refine R_iload_n (pc := 94) 1 dX4_mac_94 rfl rfl ?_
      refine R_isub (pc := 95) dX4_mac_95 ?_
      refine R_eqi (y := nI ((ρ t).length - 16 * laM (ρ t))) (pk_sub (by omega)) ?_
      refine R_bipush (pc := 96) (v := 16) dX4_mac_96 (by decide) ?_
      refine R_icmp_ge (pc := 98) (tgt := 121) dX4_mac_98 (by decide) (fun c_85 => ?_) (fun c_85 => ?_)
      · skip
        refine R_aload_n (pc := 121) 4 dX4_mac_121 rfl rfl ?_
        refine R_aload_n (pc := 122) 2 dX4_mac_122 rfl rfl ?_
        refine R_get (pc := 123) dX4_mac_123 fX4_33 S_83.2.2.2.2.2.2.2.2.1 (by omega) rfl ?_
        refine R_callVh (pc := 126) (μ' := mX0_add) (As := [.ref 48]) (st := []) dX4_mac_126 zX0_add lX4_70 ⟨by decide, by decide⟩ rfl rfl ⟨by decide, by decide⟩ (S_83.blk 59 rfl) (by omega) rfl (Nat.le_of_ble_eq_true rfl) (S_add S_83 hn rfl rfl (by decide)) (fun h_86 r_ q_87 => ?_)
        obtain ⟨rfl, S_88, F_90⟩ := q_87
        have S_89 : Sys h_86 ρ (ub (ub (ub (ub (ub (ub β2 59 (cyN (csS (eK (κ 16)) (ρ t)) (0, 0) (laM (ρ t)))) 48 (0, 0)) 48 (eK (κ 16) (0, 0))) 48 (dbl (eK (κ 16) (0, 0)))) 59 (xb (cyN (csS (eK (κ 16)) (ρ t)) (0, 0) (laM (ρ t))) (rd (ρ t) (16 * laM (ρ t))))) 59 (xb (xb (cyN (csS (eK (κ 16)) (ρ t)) (0, 0) (laM (ρ t))) (rd (ρ t) (16 * laM (ρ t)))) (dbl (eK (κ 16) (0, 0))))) κ τ := S_88
        refine R_aload_n (pc := 129) 2 dX4_mac_129 rfl rfl ?_
        refine R_get (pc := 130) dX4_mac_130 fX4_7 S_89.2.2.2.2.2.2.2.2.1 (by omega) rfl ?_
        refine R_aload_n (pc := 133) 4 dX4_mac_133 rfl rfl ?_
        refine R_callVh (pc := 134) (μ' := mX2_encrypt) (As := [.ref 59]) (st := []) dX4_mac_134 zX2_encrypt lX4_57 ⟨by decide, by decide⟩ rfl rfl ⟨by decide, by decide⟩ (S_89.2.2.1 16 (by decide)).1 (by omega) rfl (Nat.le_of_ble_eq_true rfl) (S_encrypt S_89 hn (by decide) rfl hk.1 hk.2) (fun h_91 r_ q_92 => ?_)
        obtain ⟨rfl, S_93, F_95⟩ := q_92
        have S_94 : Sys h_91 ρ (ub (ub (ub (ub (ub (ub (ub β2 59 (cyN (csS (eK (κ 16)) (ρ t)) (0, 0) (laM (ρ t)))) 48 (0, 0)) 48 (eK (κ 16) (0, 0))) 48 (dbl (eK (κ 16) (0, 0)))) 59 (xb (cyN (csS (eK (κ 16)) (ρ t)) (0, 0) (laM (ρ t))) (rd (ρ t) (16 * laM (ρ t))))) 59 (xb (xb (cyN (csS (eK (κ 16)) (ρ t)) (0, 0) (laM (ρ t))) (rd (ρ t) (16 * laM (ρ t)))) (dbl (eK (κ 16) (0, 0))))) 59 (eK (κ 16) (xb (xb (cyN (csS (eK (κ 16)) (ρ t)) (0, 0) (laM (ρ t))) (rd (ρ t) (16 * laM (ρ t)))) (dbl (eK (κ 16) (0, 0)))))) κ τ := S_93
        rw [show macV (eK (κ 16)) (ρ t) = eK (κ 16) (xb (xb (cyN (csS (eK (κ 16)) (ρ t)) (0, 0) (laM (ρ t))) (rd (ρ t) (16 * laM (ρ t)))) (dbl (eK (κ 16) (0, 0)))) from by unfold macV; rw [if_pos c_85]; rfl]
        refine R_vreturn (pc := 137) dX4_mac_137 rfl (by decide) (by decide) ⟨rfl, (ub (ub (ub (ub (ub (ub (ub β2 59 (cyN (csS (eK (κ 16)) (ρ t)) (0, 0) (laM (ρ t)))) 48 (0, 0)) 48 (eK (κ 16) (0, 0))) 48 (dbl (eK (κ 16) (0, 0)))) 59 (xb (cyN (csS (eK (κ 16)) (ρ t)) (0, 0) (laM (ρ t))) (rd (ρ t) (16 * laM (ρ t))))) 59 (xb (xb (cyN (csS (eK (κ 16)) (ρ t)) (0, 0) (laM (ρ t))) (rd (ρ t) (16 * laM (ρ t)))) (dbl (eK (κ 16) (0, 0))))) 59 (eK (κ 16) (xb (xb (cyN (csS (eK (κ 16)) (ρ t)) (0, 0) (laM (ρ t))) (rd (ρ t) (16 * laM (ρ t)))) (dbl (eK (κ 16) (0, 0)))))), ?_, rfl, S_94, ((((((hF.tr F_69).tr F_74).tr F_79).tr F_84).tr F_90).tr F_95)⟩
        intro a_ n_
        simp only [List.mem_cons, List.not_mem_nil, or_false, not_or] at n_
        by_cases e0_ : a_ = 59
        · subst e0_; first | rfl | (simp only [ub_s]; done) | (simp (config := { decide := true }) only [ub, if_true, if_false, reduceIte]; first | rfl | skip)
        (try simp only [ub, if_neg, if_false, n_, e0_])
        (try simp only [ub_k])
        (try rw [hB a_ (by simp [n_, e0_])])
        (try simp only [ub, if_neg, if_false, n_, e0_])
        (try simp only [ub_k])
      · skip
        refine R_aload_n (pc := 101) 4 dX4_mac_101 rfl rfl ?_
        refine R_aload_n (pc := 102) 3 dX4_mac_102 rfl rfl ?_
        have := rw_cases (r := t) ht
        refine R_get (pc := 103) dX4_mac_103 fX4_47 (S_83.rowO t ht) (by omega) rfl ?_
        refine R_eqi (y := nI (ρ t).length) (by first | rfl | (simp only [ur_s, ur_ur])) ?_
        refine R_iload_n (pc := 106) 1 dX4_mac_106 rfl rfl ?_
        refine R_isub (pc := 107) dX4_mac_107 ?_
        refine R_eqi (y := nI ((ρ t).length - 16 * laM (ρ t))) (pk_sub (by omega)) ?_
        refine R_sipush (pc := 108) (v := 128) dX4_mac_108 (by decide) ?_
        refine R_callVh (pc := 111) (μ' := mX0_addOctet) (As := [.int (nI ((ρ t).length - 16 * laM (ρ t))), .int 128]) (st := []) dX4_mac_111 zX0_addOctet lX4_66 ⟨by decide, by decide⟩ rfl rfl ⟨by decide, by decide⟩ (S_83.blk 59 rfl) (by omega) rfl (Nat.le_of_ble_eq_true rfl) (S_addOctet S_83 hn rfl _ _) (fun h_96 r_ q_97 => ?_)
        obtain ⟨rfl, S_98, F_100⟩ := q_97
        have S_99 : Sys h_96 ρ (ub (ub (ub (ub (ub (ub β2 59 (cyN (csS (eK (κ 16)) (ρ t)) (0, 0) (laM (ρ t)))) 48 (0, 0)) 48 (eK (κ 16) (0, 0))) 48 (dbl (eK (κ 16) (0, 0)))) 59 (xb (cyN (csS (eK (κ 16)) (ρ t)) (0, 0) (laM (ρ t))) (rd (ρ t) (16 * laM (ρ t))))) 59 (aoc (xb (cyN (csS (eK (κ 16)) (ρ t)) (0, 0) (laM (ρ t))) (rd (ρ t) (16 * laM (ρ t)))) (nI ((ρ t).length - 16 * laM (ρ t))) 128)) κ τ := S_98
        refine R_aload_n (pc := 114) 2 dX4_mac_114 rfl rfl ?_
        refine R_get (pc := 115) dX4_mac_115 fX4_33 S_99.2.2.2.2.2.2.2.2.1 (by omega) rfl ?_
        refine R_callVh (pc := 118) (μ' := mX0_makeDouble) (As := []) (st := []) dX4_mac_118 zX0_makeDouble lX4_63 ⟨by decide, by decide⟩ rfl rfl ⟨by decide, by decide⟩ (S_99.blk 48 rfl) (by omega) rfl (Nat.le_of_ble_eq_true rfl) (S_makeDouble S_99 hn rfl) (fun h_101 r_ q_102 => ?_)
        obtain ⟨rfl, S_103, F_105⟩ := q_102
        have S_104 : Sys h_101 ρ (ub (ub (ub (ub (ub (ub (ub β2 59 (cyN (csS (eK (κ 16)) (ρ t)) (0, 0) (laM (ρ t)))) 48 (0, 0)) 48 (eK (κ 16) (0, 0))) 48 (dbl (eK (κ 16) (0, 0)))) 59 (xb (cyN (csS (eK (κ 16)) (ρ t)) (0, 0) (laM (ρ t))) (rd (ρ t) (16 * laM (ρ t))))) 59 (aoc (xb (cyN (csS (eK (κ 16)) (ρ t)) (0, 0) (laM (ρ t))) (rd (ρ t) (16 * laM (ρ t)))) (nI ((ρ t).length - 16 * laM (ρ t))) 128)) 48 (dbl (dbl (eK (κ 16) (0, 0))))) κ τ := S_103
        refine R_aload_n (pc := 121) 4 dX4_mac_121 rfl rfl ?_
        refine R_aload_n (pc := 122) 2 dX4_mac_122 rfl rfl ?_
        refine R_get (pc := 123) dX4_mac_123 fX4_33 S_104.2.2.2.2.2.2.2.2.1 (by omega) rfl ?_
        refine R_callVh (pc := 126) (μ' := mX0_add) (As := [.ref 48]) (st := []) dX4_mac_126 zX0_add lX4_70 ⟨by decide, by decide⟩ rfl rfl ⟨by decide, by decide⟩ (S_104.blk 59 rfl) (by omega) rfl (Nat.le_of_ble_eq_true rfl) (S_add S_104 hn rfl rfl (by decide)) (fun h_106 r_ q_107 => ?_)
        obtain ⟨rfl, S_108, F_110⟩ := q_107
        have S_109 : Sys h_106 ρ (ub (ub (ub (ub (ub (ub (ub (ub β2 59 (cyN (csS (eK (κ 16)) (ρ t)) (0, 0) (laM (ρ t)))) 48 (0, 0)) 48 (eK (κ 16) (0, 0))) 48 (dbl (eK (κ 16) (0, 0)))) 59 (xb (cyN (csS (eK (κ 16)) (ρ t)) (0, 0) (laM (ρ t))) (rd (ρ t) (16 * laM (ρ t))))) 59 (aoc (xb (cyN (csS (eK (κ 16)) (ρ t)) (0, 0) (laM (ρ t))) (rd (ρ t) (16 * laM (ρ t)))) (nI ((ρ t).length - 16 * laM (ρ t))) 128)) 48 (dbl (dbl (eK (κ 16) (0, 0))))) 59 (xb (aoc (xb (cyN (csS (eK (κ 16)) (ρ t)) (0, 0) (laM (ρ t))) (rd (ρ t) (16 * laM (ρ t)))) (nI ((ρ t).length - 16 * laM (ρ t))) 128) (dbl (dbl (eK (κ 16) (0, 0)))))) κ τ := S_108
        refine R_aload_n (pc := 129) 2 dX4_mac_129 rfl rfl ?_
        refine R_get (pc := 130) dX4_mac_130 fX4_7 S_109.2.2.2.2.2.2.2.2.1 (by omega) rfl ?_
        refine R_aload_n (pc := 133) 4 dX4_mac_133 rfl rfl ?_
        refine R_callVh (pc := 134) (μ' := mX2_encrypt) (As := [.ref 59]) (st := []) dX4_mac_134 zX2_encrypt lX4_57 ⟨by decide, by decide⟩ rfl rfl ⟨by decide, by decide⟩ (S_109.2.2.1 16 (by decide)).1 (by omega) rfl (Nat.le_of_ble_eq_true rfl) (S_encrypt S_109 hn (by decide) rfl hk.1 hk.2) (fun h_111 r_ q_112 => ?_)
        obtain ⟨rfl, S_113, F_115⟩ := q_112
        have S_114 : Sys h_111 ρ (ub (ub (ub (ub (ub (ub (ub (ub (ub β2 59 (cyN (csS (eK (κ 16)) (ρ t)) (0, 0) (laM (ρ t)))) 48 (0, 0)) 48 (eK (κ 16) (0, 0))) 48 (dbl (eK (κ 16) (0, 0)))) 59 (xb (cyN (csS (eK (κ 16)) (ρ t)) (0, 0) (laM (ρ t))) (rd (ρ t) (16 * laM (ρ t))))) 59 (aoc (xb (cyN (csS (eK (κ 16)) (ρ t)) (0, 0) (laM (ρ t))) (rd (ρ t) (16 * laM (ρ t)))) (nI ((ρ t).length - 16 * laM (ρ t))) 128)) 48 (dbl (dbl (eK (κ 16) (0, 0))))) 59 (xb (aoc (xb (cyN (csS (eK (κ 16)) (ρ t)) (0, 0) (laM (ρ t))) (rd (ρ t) (16 * laM (ρ t)))) (nI ((ρ t).length - 16 * laM (ρ t))) 128) (dbl (dbl (eK (κ 16) (0, 0)))))) 59 (eK (κ 16) (xb (aoc (xb (cyN (csS (eK (κ 16)) (ρ t)) (0, 0) (laM (ρ t))) (rd (ρ t) (16 * laM (ρ t)))) (nI ((ρ t).length - 16 * laM (ρ t))) 128) (dbl (dbl (eK (κ 16) (0, 0))))))) κ τ := S_113
        rw [show macV (eK (κ 16)) (ρ t) = eK (κ 16) (xb (aoc (xb (cyN (csS (eK (κ 16)) (ρ t)) (0, 0) (laM (ρ t))) (rd (ρ t) (16 * laM (ρ t)))) (nI ((ρ t).length - 16 * laM (ρ t))) 128) (dbl (dbl (eK (κ 16) (0, 0))))) from by unfold macV; rw [if_neg c_85]; rfl]
        refine R_vreturn (pc := 137) dX4_mac_137 rfl (by decide) (by decide) ⟨rfl, (ub (ub (ub (ub (ub (ub (ub (ub (ub β2 59 (cyN (csS (eK (κ 16)) (ρ t)) (0, 0) (laM (ρ t)))) 48 (0, 0)) 48 (eK (κ 16) (0, 0))) 48 (dbl (eK (κ 16) (0, 0)))) 59 (xb (cyN (csS (eK (κ 16)) (ρ t)) (0, 0) (laM (ρ t))) (rd (ρ t) (16 * laM (ρ t))))) 59 (aoc (xb (cyN (csS (eK (κ 16)) (ρ t)) (0, 0) (laM (ρ t))) (rd (ρ t) (16 * laM (ρ t)))) (nI ((ρ t).length - 16 * laM (ρ t))) 128)) 48 (dbl (dbl (eK (κ 16) (0, 0))))) 59 (xb (aoc (xb (cyN (csS (eK (κ 16)) (ρ t)) (0, 0) (laM (ρ t))) (rd (ρ t) (16 * laM (ρ t)))) (nI ((ρ t).length - 16 * laM (ρ t))) 128) (dbl (dbl (eK (κ 16) (0, 0)))))) 59 (eK (κ 16) (xb (aoc (xb (cyN (csS (eK (κ 16)) (ρ t)) (0, 0) (laM (ρ t))) (rd (ρ t) (16 * laM (ρ t)))) (nI ((ρ t).length - 16 * laM (ρ t))) 128) (dbl (dbl (eK (κ 16) (0, 0))))))), ?_, rfl, S_114, ((((((((hF.tr F_69).tr F_74).tr F_79).tr F_84).tr F_100).tr F_105).tr F_110).tr F_115)⟩
        intro a_ n_
        simp only [List.mem_cons, List.not_mem_nil, or_false, not_or] at n_
        by_cases e0_ : a_ = 59
        · subst e0_; first | rfl | (simp only [ub_s]; done) | (simp (config := { decide := true }) only [ub, if_true, if_false, reduceIte]; first | rfl | skip)
        (try simp only [ub, if_neg, if_false, n_, e0_])
        (try simp only [ub_k])
        (try rw [hB a_ (by simp [n_, e0_])])
        (try simp only [ub, if_neg, if_false, n_, e0_])
        (try simp only [ub_k])
    · simp only [List.mem_cons, List.not_mem_nil, or_false, not_or] at n_; (try simp only [ub, if_neg, n_, if_false])
def layN (v : Int32) (L : List (BitVec 8)) : List (BitVec 8) := List.replicate 15 0 ++ [t8 v] ++ L
theorem layN_len (v : Int32) (L : List (BitVec 8)) : (layN v L).length = 16 + L.length := by simp [layN]; omega
set_option maxHeartbeats 4000000 in
set_option maxRecDepth 100000 in
theorem qX4_layNumbered_loop {l : Launch} {w : am_W} {h : am_H} {n : Nat} {ρ : Nat → List (BitVec 8)} {β : Nat → bP} {κ : Nat → kT} {τ : Nat × Nat × Nat} (S : Sys h ρ β κ τ) (hn : 60 ≤ n) {t : Nat} (ht : isRw t = true) (ht24 : t ≠ 24) (v : Int32) (hr : (ρ t).length ≤ 528) (kk : ∀ h2 β2, Sys h2 (ur ρ 24 (List.replicate (15) 0)) β2 κ τ → (∀ a, a ∉ [] → β2 a = β a) → Fr h h2 → RW l w mX4_layNumbered h2 n 0 0 30 [(3, .int (nI (15))), (0, .ref 47), (1, .int v), (2, .ref t)] [] (fun h' n' r_ => n' = n ∧ (SX h τ none (ur ρ 24 (layN v (ρ t))) β κ []) h' r_)) : ∀ (d i : Nat), i + d = 15 → ∀ h2 β2, Sys h2 (ur ρ 24 (List.replicate i 0)) β2 κ τ → (∀ a, a ∉ [] → β2 a = β a) → Fr h h2 → RW l w mX4_layNumbered h2 n 0 0 10 [(3, .int (nI i)), (0, .ref 47), (1, .int v), (2, .ref t)] [] (fun h' n' r_ => n' = n ∧ (SX h τ none (ur ρ 24 (layN v (ρ t))) β κ []) h' r_) := by
  have hlt := S.len t ht
  have htc := rw_cases ht
  have hnb := nbk_b (ρ t)
  intro d
  induction d with
  | zero =>
    intro i hd h2 β2 S2 hB hF
    refine R_iload_n (pc := 10) 0 dX4_layNumbered_10 rfl rfl ?_
    refine R_bipush (pc := 11) (v := 15) dX4_layNumbered_11 (by decide) ?_
    refine R_icmp_ge (pc := 13) (tgt := 30) dX4_layNumbered_13 (by decide) (fun c_1 => ?_) (fun c_1 => absurd (nI_le (a := 15) (by omega) (by omega)) c_1)
    obtain rfl : i = 15 := by omega
    exact kk h2 β2 S2 hB hF
  | succ d ih =>
    intro i hd h2 β2 S2 hB hF
    refine R_iload_n (pc := 10) 0 dX4_layNumbered_10 rfl rfl ?_
    refine R_bipush (pc := 11) (v := 15) dX4_layNumbered_11 (by decide) ?_
    refine R_icmp_ge (pc := 13) (tgt := 30) dX4_layNumbered_13 (by decide) (fun c_1 => absurd c_1 (nI_ge (b := 15) (by omega) (by omega))) (fun c_1 => ?_)
    refine R_aload_n (pc := 16) 1 dX4_layNumbered_16 rfl rfl ?_
    refine R_get (pc := 17) dX4_layNumbered_17 fX4_27 S2.2.2.2.2.2.2.2.2.1 (by omega) rfl ?_
    refine R_iconst (pc := 20) (v := 0) dX4_layNumbered_20 (by decide) ?_
    refine R_callVh (pc := 21) (μ' := mX6_append) (As := [.int 0]) (st := []) dX4_layNumbered_21 zX6_append lX4_101 ⟨by decide, by decide⟩ rfl rfl ⟨by decide, by decide⟩ (S2.rowO 24 rfl) (by omega) rfl (Nat.le_of_ble_eq_true rfl) (S_append S2 hn rfl _ (by simp only [ur_s, List.length_replicate]; show _ < 800; omega)) (fun h_2 r_ q_3 => ?_)
    obtain ⟨rfl, S_4, F_6⟩ := q_3
    have S_5 : Sys h_2 (ur ρ 24 ((List.replicate i 0) ++ [t8 0])) β2 κ τ := by have z_ := S_4; (try simp only [ur_s, ur_ur, ur_n (x := t) (r := 24) ht24, ur_n (x := 2) (r := 24) (by decide), ur_n (x := 4) (r := 24) (by decide), ur_n (x := 6) (r := 24) (by decide), ur_n (x := 8) (r := 24) (by decide)] at z_); exact z_
    refine R_iinc (pc := 24) (j := 0) (v := nI (i + 1)) (lv' := [(3, .int (nI (i + 1))), (0, .ref 47), (1, .int v), (2, .ref t)]) dX4_layNumbered_24 rfl (nI_1 i) (by decide) rfl ?_
    refine R_goto (pc := 27) (tgt := 10) dX4_layNumbered_27 (by decide) ?_
    refine R_sub [0, 1, 2, 3] rfl ?_
    refine ih (i + 1) (by omega) h_2 β2 (by have z_ := S_5; rw [show t8 0 = (0 : BitVec 8) from by decide, ← List.replicate_succ'] at z_; exact z_)  (fun a_ n_ => ?_) (hF.tr F_6)
    have q_ := hB a_ n_; simp only [List.mem_cons, List.not_mem_nil, or_false, not_or] at n_
    (try simp only [ub, if_neg, n_, if_false])
    first | exact q_ | (simp only [ub_k]; exact q_) | (rw [q_]; simp only [ub_k]) | (repeat' split) <;> first | exact q_ | (rename_i e_; rw [e_])
set_option maxHeartbeats 4000000 in
set_option maxRecDepth 100000 in
theorem qX4_layNumbered {l : Launch} {w : am_W} {h : am_H} {n : Nat} {ρ : Nat → List (BitVec 8)} {β : Nat → bP} {κ : Nat → kT} {τ : Nat × Nat × Nat} (S : Sys h ρ β κ τ) (hn : 60 ≤ n) {t : Nat} (ht : isRw t = true) (ht24 : t ≠ 24) (v : Int32) (hr : (ρ t).length ≤ 528) : RH l w mX4_layNumbered h n [.ref 47, .int v, .ref t] (SX h τ none (ur ρ 24 (layN v (ρ t))) β κ []) := by
  refine RC.of [(0, .ref 47), (1, .int v), (2, .ref t)] (by decide +kernel) rfl (Nat.le_of_ble_eq_true rfl) ?_
  have hlt := S.len t ht
  have htc := rw_cases ht
  have hnb := nbk_b (ρ t)
  refine R_aload_n (pc := 0) 0 dX4_layNumbered_0 rfl rfl ?_
  refine R_get (pc := 1) dX4_layNumbered_1 fX4_27 S.2.2.2.2.2.2.2.2.1 (by omega) rfl ?_
  refine R_iconst (pc := 4) (v := 0) dX4_layNumbered_4 (by decide) ?_
  refine R_callVh (pc := 5) (μ' := mX6_keep) (As := [.int (nI 0)]) (st := []) dX4_layNumbered_5 zX6_keep lX4_97 ⟨by decide, by decide⟩ rfl rfl ⟨by decide, by decide⟩ (S.rowO 24 rfl) (by omega) rfl (Nat.le_of_ble_eq_true rfl) (S_keep S hn rfl 0 (by omega)) (fun h_1 r_ q_2 => ?_)
  obtain ⟨rfl, S_3, F_5⟩ := q_2
  have S_4 : Sys h_1 (ur ρ 24 ((ρ 24).take 0)) β κ τ := by have z_ := S_3; (try simp only [ur_s, ur_ur, ur_n (x := t) (r := 24) ht24, ur_n (x := 2) (r := 24) (by decide), ur_n (x := 4) (r := 24) (by decide), ur_n (x := 6) (r := 24) (by decide), ur_n (x := 8) (r := 24) (by decide)] at z_); exact z_
  refine R_iconst (pc := 8) (v := 0) dX4_layNumbered_8 (by decide) ?_
  refine R_istore_n (pc := 9) (lv' := [(3, .int 0), (0, .ref 47), (1, .int v), (2, .ref t)]) dX4_layNumbered_9 rfl (by decide) rfl ?_
  refine R_sub [0, 1, 2, 3] rfl ?_
  refine qX4_layNumbered_loop S hn ht ht24 v hr ?_ 15 0 (by omega) h_1 β (by have z_ := S_4; rw [List.take_zero] at z_; exact z_) (fun _ _ => rfl) F_5
  intro h2 β2 S2 hB hF
  refine R_aload_n (pc := 30) 1 dX4_layNumbered_30 rfl rfl ?_
  refine R_get (pc := 31) dX4_layNumbered_31 fX4_27 S2.2.2.2.2.2.2.2.2.1 (by omega) rfl ?_
  refine R_iload_n (pc := 34) 2 dX4_layNumbered_34 rfl rfl ?_
  refine R_callVh (pc := 35) (μ' := mX6_append) (As := [.int v]) (st := []) dX4_layNumbered_35 zX6_append lX4_101 ⟨by decide, by decide⟩ rfl rfl ⟨by decide, by decide⟩ (S2.rowO 24 rfl) (by omega) rfl (Nat.le_of_ble_eq_true rfl) (S_append S2 hn rfl _ (by simp only [ur_s, List.length_replicate]; show _ < 800; omega)) (fun h_6 r_ q_7 => ?_)
  obtain ⟨rfl, S_8, F_10⟩ := q_7
  have S_9 : Sys h_6 (ur ρ 24 ((List.replicate 15 0) ++ [t8 v])) β2 κ τ := by have z_ := S_8; (try simp only [ur_s, ur_ur, ur_n (x := t) (r := 24) ht24, ur_n (x := 2) (r := 24) (by decide), ur_n (x := 4) (r := 24) (by decide), ur_n (x := 6) (r := 24) (by decide), ur_n (x := 8) (r := 24) (by decide)] at z_); exact z_
  refine R_aload_n (pc := 38) 1 dX4_layNumbered_38 rfl rfl ?_
  refine R_get (pc := 39) dX4_layNumbered_39 fX4_27 S_9.2.2.2.2.2.2.2.2.1 (by omega) rfl ?_
  refine R_aload_n (pc := 42) 3 dX4_layNumbered_42 rfl rfl ?_
  refine R_callVh (pc := 43) (μ' := mX6_appendRow) (As := [.ref t]) (st := []) dX4_layNumbered_43 zX6_appendRow lX4_104 ⟨by decide, by decide⟩ rfl rfl ⟨by decide, by decide⟩ (S_9.rowO 24 rfl) (by omega) rfl (Nat.le_of_ble_eq_true rfl) (S_appendRow S_9 hn rfl ht ht24 (by simp only [ur_s, ur_n (x := t) (r := 24) ht24, List.length_append, List.length_replicate]; show _ ≤ 800; simp only [List.length_cons, List.length_nil]; omega)) (fun h_11 r_ q_12 => ?_)
  obtain ⟨rfl, S_13, F_15⟩ := q_12
  have S_14 : Sys h_11 (ur ρ 24 (((List.replicate 15 0) ++ [t8 v]) ++ (ρ t))) β2 κ τ := by have z_ := S_13; (try simp only [ur_s, ur_ur, ur_n (x := t) (r := 24) ht24, ur_n (x := 2) (r := 24) (by decide), ur_n (x := 4) (r := 24) (by decide), ur_n (x := 6) (r := 24) (by decide), ur_n (x := 8) (r := 24) (by decide)] at z_); exact z_
  exact R_vreturn (pc := 46) dX4_layNumbered_46 rfl (by decide) (by decide) ⟨rfl, β2, hB, rfl, S_14, ((hF.tr F_10).tr F_15)⟩
def ctO (F : bP → bP) (L : List (BitVec 8)) (x : bP) : List (BitVec 8) := (stN (ctS F L) x (nbk L)).2
theorem ctO_len (F : bP → bP) (L : List (BitVec 8)) (x : bP) : (ctO F L x).length = L.length := by
  unfold ctO
  rw [stN_lenM L (fun _ _ => ctS_len _ _ _ _)]
  have := nbk_b L
  omega
/-- MADE's start of counting -/
def cfm (q : bP) : bP := (q.1, q.2 &&& 9223372034707292159)
set_option maxHeartbeats 4000000 in
set_option maxRecDepth 100000 in
theorem qX4_countFrom_50 {l : Launch} {w : am_W} {h : am_H} {n : Nat} {ρ : Nat → List (BitVec 8)} {β : Nat → bP} {κ : Nat → kT} {τ : Nat × Nat × Nat} (S : Sys h ρ β κ τ) (hn : 60 ≤ n) {t m : Nat} (ht : isRw t = true) (hm : isRw m = true) (htm : t ≠ m) (hk2 : kOk (κ 20)) (hr : (ρ m).length + (ρ t).length ≤ rwN m) : RH l w mX4_countFrom h n [.ref 47, .ref 50, .ref t, .ref m] (SX h τ none (ur ρ m (ρ m ++ ctO (eK (κ 20)) (ρ t) (cfm (β 50)))) β κ [31, 32, 33, 49]) := by
  refine RC.of [(0, .ref 47), (1, .ref 50), (2, .ref t), (3, .ref m)] (by decide +kernel) rfl (Nat.le_of_ble_eq_true rfl) ?_
  refine R_aload_n (pc := 0) 0 dX4_countFrom_0 rfl rfl ?_
  refine R_get (pc := 1) dX4_countFrom_1 fX4_37 S.2.2.2.2.2.2.2.2.1 (by omega) rfl ?_
  refine R_aload_n (pc := 4) 1 dX4_countFrom_4 rfl rfl ?_
  skip
  refine R_get (pc := 5) dX4_countFrom_5 fX4_133 (S.blk 50 rfl) (by omega) rfl ?_
  refine R_eql (y := (β 50).1) rfl ?_
  refine R_aload_n (pc := 8) 1 dX4_countFrom_8 rfl rfl ?_
  skip
  refine R_get (pc := 9) dX4_countFrom_9 fX4_137 (S.blk 50 rfl) (by omega) rfl ?_
  refine R_eql (y := (β 50).2) rfl ?_
  refine R_ldc2 (pc := 12) dX4_countFrom_12 cX4_140 ?_
  refine R_land (pc := 15) dX4_countFrom_15 ?_
  refine R_callVh (pc := 16) (μ' := mX0_become) (As := [.long ((β 50).1), .long (((β 50).2) &&& (9223372034707292159 : Int64))]) (st := []) dX4_countFrom_16 zX0_become lX4_43 ⟨by decide, by decide⟩ rfl rfl ⟨by decide, by decide⟩ (S.blk 49 rfl) (by omega) rfl (Nat.le_of_ble_eq_true rfl) (S_become S hn rfl _ _) (fun h_1 r_ q_2 => ?_)
  obtain ⟨rfl, S_3, F_5⟩ := q_2
  have S_4 : Sys h_1 ρ (ub β 49 ((β 50).1, ((β 50).2) &&& (9223372034707292159 : Int64))) κ τ := S_3
  refine R_aload_n (pc := 19) 0 dX4_countFrom_19 rfl rfl ?_
  refine R_get (pc := 20) dX4_countFrom_20 fX4_16 S_4.2.2.2.2.2.2.2.2.1 (by omega) rfl ?_
  refine R_aload_n (pc := 23) 0 dX4_countFrom_23 rfl rfl ?_
  refine R_get (pc := 24) dX4_countFrom_24 fX4_13 S_4.2.2.2.2.2.2.2.2.1 (by omega) rfl ?_
  refine R_aload_n (pc := 27) 0 dX4_countFrom_27 rfl rfl ?_
  refine R_get (pc := 28) dX4_countFrom_28 fX4_37 S_4.2.2.2.2.2.2.2.2.1 (by omega) rfl ?_
  refine R_aload_n (pc := 31) 2 dX4_countFrom_31 rfl rfl ?_
  refine R_aload_n (pc := 32) 3 dX4_countFrom_32 rfl rfl ?_
  refine R_callVh (pc := 33) (μ' := mX9_count) (As := [.ref 20, .ref 49, .ref t, .ref m]) (st := []) dX4_countFrom_33 zX9_count lX4_83 ⟨by decide, by decide⟩ rfl rfl ⟨by decide, by decide⟩ S_4.2.2.2.2.1 (by omega) rfl (Nat.le_of_ble_eq_true rfl) (qX9_count S_4 hn ht hm htm (by decide) rfl (by decide) hk2 hr) (fun h_6 r_ q_7 => ?_)
  obtain ⟨β_11, B_12, rfl, S_8, F_10⟩ := q_7
  have S_9 : Sys h_6 (ur ρ m ((ρ m) ++ ctO (eK (κ 20)) (ρ t) ((β 50).1, ((β 50).2) &&& (9223372034707292159 : Int64)))) β_11 κ τ := by have z_ := S_8; (try simp only [ub, Nat.reduceEqDiff, ↓reduceIte, ur_s, ur_ur, ur_n (x := t) (r := m) htm] at z_); exact z_
  have S_13 : Sys h_6 (ur ρ m ((ρ m) ++ ctO (eK (κ 20)) (ρ t) ((β 50).1, ((β 50).2) &&& (9223372034707292159 : Int64)))) (ub β_11 49 ((β 50).1, ((β 50).2) &&& (9223372034707292159 : Int64))) κ τ := Sys.know S_9 ((B_12 49 (by decide)).trans (by first | (simp only [ub, Nat.reduceEqDiff, ↓reduceIte, ur_s, ur_ur, ur_n (x := t) (r := m) htm]; done) | (simp only [ub, Nat.reduceEqDiff, ↓reduceIte, ur_s, ur_ur, ur_n (x := t) (r := m) htm]; rfl) | rfl))
  refine R_vreturn (pc := 36) dX4_countFrom_36 rfl (by decide) (by decide) ⟨rfl, (ub β_11 49 ((β 50).1, ((β 50).2) &&& (9223372034707292159 : Int64))), ?_, rfl, S_13, (F_5.tr F_10)⟩
  intro a_ n_
  simp only [List.mem_cons, List.not_mem_nil, or_false, not_or] at n_
  (try simp only [ub, if_neg, if_false, n_])
  (try simp only [ub_k])
  (try rw [B_12 a_ (by simp [n_])])
  (try simp only [ub, if_neg, if_false, n_])
  (try simp only [ub_k])
set_option maxHeartbeats 4000000 in
set_option maxRecDepth 100000 in
theorem qX4_countFrom_60 {l : Launch} {w : am_W} {h : am_H} {n : Nat} {ρ : Nat → List (BitVec 8)} {β : Nat → bP} {κ : Nat → kT} {τ : Nat × Nat × Nat} (S : Sys h ρ β κ τ) (hn : 60 ≤ n) {t m : Nat} (ht : isRw t = true) (hm : isRw m = true) (htm : t ≠ m) (hk2 : kOk (κ 20)) (hr : (ρ m).length + (ρ t).length ≤ rwN m) : RH l w mX4_countFrom h n [.ref 47, .ref 60, .ref t, .ref m] (SX h τ none (ur ρ m (ρ m ++ ctO (eK (κ 20)) (ρ t) (cfm (β 60)))) β κ [31, 32, 33, 49]) := by
  refine RC.of [(0, .ref 47), (1, .ref 60), (2, .ref t), (3, .ref m)] (by decide +kernel) rfl (Nat.le_of_ble_eq_true rfl) ?_
  refine R_aload_n (pc := 0) 0 dX4_countFrom_0 rfl rfl ?_
  refine R_get (pc := 1) dX4_countFrom_1 fX4_37 S.2.2.2.2.2.2.2.2.1 (by omega) rfl ?_
  refine R_aload_n (pc := 4) 1 dX4_countFrom_4 rfl rfl ?_
  skip
  refine R_get (pc := 5) dX4_countFrom_5 fX4_133 (S.blk 60 rfl) (by omega) rfl ?_
  refine R_eql (y := (β 60).1) rfl ?_
  refine R_aload_n (pc := 8) 1 dX4_countFrom_8 rfl rfl ?_
  skip
  refine R_get (pc := 9) dX4_countFrom_9 fX4_137 (S.blk 60 rfl) (by omega) rfl ?_
  refine R_eql (y := (β 60).2) rfl ?_
  refine R_ldc2 (pc := 12) dX4_countFrom_12 cX4_140 ?_
  refine R_land (pc := 15) dX4_countFrom_15 ?_
  refine R_callVh (pc := 16) (μ' := mX0_become) (As := [.long ((β 60).1), .long (((β 60).2) &&& (9223372034707292159 : Int64))]) (st := []) dX4_countFrom_16 zX0_become lX4_43 ⟨by decide, by decide⟩ rfl rfl ⟨by decide, by decide⟩ (S.blk 49 rfl) (by omega) rfl (Nat.le_of_ble_eq_true rfl) (S_become S hn rfl _ _) (fun h_1 r_ q_2 => ?_)
  obtain ⟨rfl, S_3, F_5⟩ := q_2
  have S_4 : Sys h_1 ρ (ub β 49 ((β 60).1, ((β 60).2) &&& (9223372034707292159 : Int64))) κ τ := S_3
  refine R_aload_n (pc := 19) 0 dX4_countFrom_19 rfl rfl ?_
  refine R_get (pc := 20) dX4_countFrom_20 fX4_16 S_4.2.2.2.2.2.2.2.2.1 (by omega) rfl ?_
  refine R_aload_n (pc := 23) 0 dX4_countFrom_23 rfl rfl ?_
  refine R_get (pc := 24) dX4_countFrom_24 fX4_13 S_4.2.2.2.2.2.2.2.2.1 (by omega) rfl ?_
  refine R_aload_n (pc := 27) 0 dX4_countFrom_27 rfl rfl ?_
  refine R_get (pc := 28) dX4_countFrom_28 fX4_37 S_4.2.2.2.2.2.2.2.2.1 (by omega) rfl ?_
  refine R_aload_n (pc := 31) 2 dX4_countFrom_31 rfl rfl ?_
  refine R_aload_n (pc := 32) 3 dX4_countFrom_32 rfl rfl ?_
  refine R_callVh (pc := 33) (μ' := mX9_count) (As := [.ref 20, .ref 49, .ref t, .ref m]) (st := []) dX4_countFrom_33 zX9_count lX4_83 ⟨by decide, by decide⟩ rfl rfl ⟨by decide, by decide⟩ S_4.2.2.2.2.1 (by omega) rfl (Nat.le_of_ble_eq_true rfl) (qX9_count S_4 hn ht hm htm (by decide) rfl (by decide) hk2 hr) (fun h_6 r_ q_7 => ?_)
  obtain ⟨β_11, B_12, rfl, S_8, F_10⟩ := q_7
  have S_9 : Sys h_6 (ur ρ m ((ρ m) ++ ctO (eK (κ 20)) (ρ t) ((β 60).1, ((β 60).2) &&& (9223372034707292159 : Int64)))) β_11 κ τ := by have z_ := S_8; (try simp only [ub, Nat.reduceEqDiff, ↓reduceIte, ur_s, ur_ur, ur_n (x := t) (r := m) htm] at z_); exact z_
  have S_13 : Sys h_6 (ur ρ m ((ρ m) ++ ctO (eK (κ 20)) (ρ t) ((β 60).1, ((β 60).2) &&& (9223372034707292159 : Int64)))) (ub β_11 49 ((β 60).1, ((β 60).2) &&& (9223372034707292159 : Int64))) κ τ := Sys.know S_9 ((B_12 49 (by decide)).trans (by first | (simp only [ub, Nat.reduceEqDiff, ↓reduceIte, ur_s, ur_ur, ur_n (x := t) (r := m) htm]; done) | (simp only [ub, Nat.reduceEqDiff, ↓reduceIte, ur_s, ur_ur, ur_n (x := t) (r := m) htm]; rfl) | rfl))
  refine R_vreturn (pc := 36) dX4_countFrom_36 rfl (by decide) (by decide) ⟨rfl, (ub β_11 49 ((β 60).1, ((β 60).2) &&& (9223372034707292159 : Int64))), ?_, rfl, S_13, (F_5.tr F_10)⟩
  intro a_ n_
  simp only [List.mem_cons, List.not_mem_nil, or_false, not_or] at n_
  (try simp only [ub, if_neg, if_false, n_])
  (try simp only [ub_k])
  (try rw [B_12 a_ (by simp [n_])])
  (try simp only [ub, if_neg, if_false, n_])
  (try simp only [ub_k])
def leW (L : List (BitVec 8)) : List (BitVec 8) := if 16 ≤ nI L.length then L else pdd 4 (L ++ [t8 128])
def leD (L : List (BitVec 8)) (d : bP) : bP := if 16 ≤ nI L.length then d else dbl d
def leB (L : List (BitVec 8)) (d : bP) : bP := xb (rd (leW L) ((leW L).length - 16)) (leD L d)
def layE (L : List (BitVec 8)) (d : bP) : List (BitVec 8) := (leW L).take ((leW L).length - 16) ++ bt (leB L d) 16
theorem leW_len {L : List (BitVec 8)} (h : L.length < 2 ^ 30) : (leW L).length = if 16 ≤ L.length then L.length else 16 := by
  unfold leW
  by_cases hc : 16 ≤ L.length
  · rw [if_pos (show (16 : Int32) ≤ nI L.length from nI_le (a := 16) hc (by omega)), if_pos hc]
  · rw [if_neg (show ¬ (16 : Int32) ≤ nI L.length from nI_ge (b := 16) (by omega) (by omega)), if_neg hc, pdd_len]
    unfold pad2
    simp only [List.length_append, List.length_cons, List.length_nil]
    omega
set_option maxHeartbeats 4000000 in
set_option maxRecDepth 100000 in
theorem qX4_layEnd {l : Launch} {w : am_W} {h : am_H} {n : Nat} {ρ : Nat → List (BitVec 8)} {β : Nat → bP} {κ : Nat → kT} {τ : Nat × Nat × Nat} (S : Sys h ρ β κ τ) (hn : 60 ≤ n) (hr : (ρ 24).length ≤ 700) : RH l w mX4_layEnd h n [.ref 47, .int (nI (ρ 24).length)] (SX h τ none (ur ρ 24 (layE (ρ 24) (β 49))) β κ [49, 50]) := by
  refine RC.of [(0, .ref 47), (1, .int (nI (ρ 24).length))] (by decide +kernel) rfl (Nat.le_of_ble_eq_true rfl) ?_
  have hlt := S.len 24 rfl
  have hlw := leW_len (L := ρ 24) (by omega)
  have hw16 : (leW (ρ 24)).length ≤ 784 := by rw [hlw]; split <;> omega
  refine R_iload_n (pc := 0) 1 dX4_layEnd_0 rfl rfl ?_
  refine R_bipush (pc := 1) (v := 16) dX4_layEnd_1 (by decide) ?_
  refine R_icmp_ge (pc := 3) (tgt := 32) dX4_layEnd_3 (by decide) (fun c_1 => ?_) (fun c_1 => ?_)
  · skip
    have eW_ : leW (ρ 24) = ρ 24 := if_pos c_1
    have eD_ : leD (ρ 24) (β 49) = β 49 := if_pos c_1
    have S_2 : Sys h (ur ρ 24 (leW (ρ 24))) (ub β 49 (leD (ρ 24) (β 49))) κ τ := by rw [eW_, eD_, ur_id, ub_id]; exact S
    refine R_aload_n (pc := 32) 0 dX4_layEnd_32 rfl rfl ?_
    refine R_get (pc := 33) dX4_layEnd_33 fX4_27 S_2.2.2.2.2.2.2.2.2.1 (by omega) rfl ?_
    skip
    refine R_get (pc := 36) dX4_layEnd_36 fX4_47 (S_2.rowO 24 rfl) (by omega) rfl ?_
    refine R_eqi (y := nI (leW (ρ 24)).length) (by first | rfl | (simp only [ur_s, ur_ur, ur_n (x := 2) (r := 24) (by decide), ur_n (x := 4) (r := 24) (by decide), ur_n (x := 6) (r := 24) (by decide), ur_n (x := 8) (r := 24) (by decide)])) ?_
    refine R_bipush (pc := 39) (v := 16) dX4_layEnd_39 (by decide) ?_
    refine R_isub (pc := 41) dX4_layEnd_41 ?_
    refine R_eqi (y := nI ((leW (ρ 24)).length - 16)) (pk_sub (b := 16) (by rw [hlw]; split <;> omega)) ?_
    refine R_istore_n (pc := 42) (lv' := [(2, .int (nI ((leW (ρ 24)).length - 16))), (0, .ref 47), (1, .int (nI (ρ 24).length))]) dX4_layEnd_42 rfl (by decide) rfl ?_
    refine R_aload_n (pc := 43) 1 dX4_layEnd_43 rfl rfl ?_
    refine R_get (pc := 44) dX4_layEnd_44 fX4_40 S_2.2.2.2.2.2.2.2.2.1 (by omega) rfl ?_
    refine R_aload_n (pc := 47) 1 dX4_layEnd_47 rfl rfl ?_
    refine R_get (pc := 48) dX4_layEnd_48 fX4_27 S_2.2.2.2.2.2.2.2.2.1 (by omega) rfl ?_
    refine R_iload_n (pc := 51) 0 dX4_layEnd_51 rfl rfl ?_
    refine R_callVh (pc := 52) (μ' := mX0_read) (As := [.ref 24, .int (nI ((leW (ρ 24)).length - 16))]) (st := []) dX4_layEnd_52 zX0_read lX4_148 ⟨by decide, by decide⟩ rfl rfl ⟨by decide, by decide⟩ (S_2.blk 50 rfl) (by omega) rfl (Nat.le_of_ble_eq_true rfl) (S_read S_2 hn rfl rfl ((leW (ρ 24)).length - 16) (by omega)) (fun h_3 r_ q_4 => ?_)
    obtain ⟨rfl, S_5, F_7⟩ := q_4
    have S_6 : Sys h_3 (ur ρ 24 (leW (ρ 24))) (ub (ub β 49 (leD (ρ 24) (β 49))) 50 (rd (leW (ρ 24)) ((leW (ρ 24)).length - 16))) κ τ := by have z_ := S_5; (try simp only [ur_s, ur_ur, ur_n (x := 2) (r := 24) (by decide), ur_n (x := 4) (r := 24) (by decide), ur_n (x := 6) (r := 24) (by decide), ur_n (x := 8) (r := 24) (by decide)] at z_); exact z_
    refine R_aload_n (pc := 55) 1 dX4_layEnd_55 rfl rfl ?_
    refine R_get (pc := 56) dX4_layEnd_56 fX4_40 S_6.2.2.2.2.2.2.2.2.1 (by omega) rfl ?_
    refine R_aload_n (pc := 59) 1 dX4_layEnd_59 rfl rfl ?_
    refine R_get (pc := 60) dX4_layEnd_60 fX4_37 S_6.2.2.2.2.2.2.2.2.1 (by omega) rfl ?_
    refine R_callVh (pc := 63) (μ' := mX0_add) (As := [.ref 49]) (st := []) dX4_layEnd_63 zX0_add lX4_70 ⟨by decide, by decide⟩ rfl rfl ⟨by decide, by decide⟩ (S_6.blk 50 rfl) (by omega) rfl (Nat.le_of_ble_eq_true rfl) (S_add S_6 hn rfl rfl (by decide)) (fun h_8 r_ q_9 => ?_)
    obtain ⟨rfl, S_10, F_12⟩ := q_9
    have S_11 : Sys h_8 (ur ρ 24 (leW (ρ 24))) (ub (ub (ub β 49 (leD (ρ 24) (β 49))) 50 (rd (leW (ρ 24)) ((leW (ρ 24)).length - 16))) 50 (xb (rd (leW (ρ 24)) ((leW (ρ 24)).length - 16)) (leD (ρ 24) (β 49)))) κ τ := by have z_ := S_10; (try simp only [ur_s, ur_ur, ur_n (x := 2) (r := 24) (by decide), ur_n (x := 4) (r := 24) (by decide), ur_n (x := 6) (r := 24) (by decide), ur_n (x := 8) (r := 24) (by decide)] at z_); exact z_
    refine R_aload_n (pc := 66) 1 dX4_layEnd_66 rfl rfl ?_
    refine R_get (pc := 67) dX4_layEnd_67 fX4_27 S_11.2.2.2.2.2.2.2.2.1 (by omega) rfl ?_
    refine R_iload_n (pc := 70) 0 dX4_layEnd_70 rfl rfl ?_
    refine R_callVh (pc := 71) (μ' := mX6_keep) (As := [.int (nI ((leW (ρ 24)).length - 16))]) (st := []) dX4_layEnd_71 zX6_keep lX4_97 ⟨by decide, by decide⟩ rfl rfl ⟨by decide, by decide⟩ (S_11.rowO 24 rfl) (by omega) rfl (Nat.le_of_ble_eq_true rfl) (S_keep S_11 hn rfl ((leW (ρ 24)).length - 16) (by omega)) (fun h_13 r_ q_14 => ?_)
    obtain ⟨rfl, S_15, F_17⟩ := q_14
    have S_16 : Sys h_13 (ur ρ 24 ((leW (ρ 24)).take ((leW (ρ 24)).length - 16))) (ub (ub (ub β 49 (leD (ρ 24) (β 49))) 50 (rd (leW (ρ 24)) ((leW (ρ 24)).length - 16))) 50 (xb (rd (leW (ρ 24)) ((leW (ρ 24)).length - 16)) (leD (ρ 24) (β 49)))) κ τ := by have z_ := S_15; (try simp only [ur_s, ur_ur, ur_n (x := 2) (r := 24) (by decide), ur_n (x := 4) (r := 24) (by decide), ur_n (x := 6) (r := 24) (by decide), ur_n (x := 8) (r := 24) (by decide)] at z_); exact z_
    refine R_aload_n (pc := 74) 1 dX4_layEnd_74 rfl rfl ?_
    refine R_get (pc := 75) dX4_layEnd_75 fX4_27 S_16.2.2.2.2.2.2.2.2.1 (by omega) rfl ?_
    refine R_aload_n (pc := 78) 1 dX4_layEnd_78 rfl rfl ?_
    refine R_get (pc := 79) dX4_layEnd_79 fX4_40 S_16.2.2.2.2.2.2.2.2.1 (by omega) rfl ?_
    refine R_bipush (pc := 82) (v := 16) dX4_layEnd_82 (by decide) ?_
    refine R_callVh (pc := 84) (μ' := mX6_appendBlock) (As := [.ref 50, .int (nI 16)]) (st := []) dX4_layEnd_84 zX6_appendBlock lX4_121 ⟨by decide, by decide⟩ rfl rfl ⟨by decide, by decide⟩ (S_16.rowO 24 rfl) (by omega) rfl (Nat.le_of_ble_eq_true rfl) (S_appendBlock S_16 hn rfl rfl 16 (by simp only [ur_s, List.length_take]; show _ ≤ 800; rw [hlw]; split <;> omega)) (fun h_18 r_ q_19 => ?_)
    obtain ⟨rfl, S_20, F_22⟩ := q_19
    have S_21 : Sys h_18 (ur ρ 24 (((leW (ρ 24)).take ((leW (ρ 24)).length - 16)) ++ bt (xb (rd (leW (ρ 24)) ((leW (ρ 24)).length - 16)) (leD (ρ 24) (β 49))) 16)) (ub (ub (ub β 49 (leD (ρ 24) (β 49))) 50 (rd (leW (ρ 24)) ((leW (ρ 24)).length - 16))) 50 (xb (rd (leW (ρ 24)) ((leW (ρ 24)).length - 16)) (leD (ρ 24) (β 49)))) κ τ := by have z_ := S_20; (try simp only [ur_s, ur_ur, ur_n (x := 2) (r := 24) (by decide), ur_n (x := 4) (r := 24) (by decide), ur_n (x := 6) (r := 24) (by decide), ur_n (x := 8) (r := 24) (by decide)] at z_); exact z_
    refine R_vreturn (pc := 87) dX4_layEnd_87 rfl (by decide) (by decide) ⟨rfl, (ub (ub (ub β 49 (leD (ρ 24) (β 49))) 50 (rd (leW (ρ 24)) ((leW (ρ 24)).length - 16))) 50 (xb (rd (leW (ρ 24)) ((leW (ρ 24)).length - 16)) (leD (ρ 24) (β 49)))), ?_, rfl, S_21, (((F_7.tr F_12).tr F_17).tr F_22)⟩
    intro a_ n_
    simp only [List.mem_cons, List.not_mem_nil, or_false, not_or] at n_
    (try simp only [ub, if_neg, if_false, n_])
    (try simp only [ub_k])
  · skip
    refine R_aload_n (pc := 6) 0 dX4_layEnd_6 rfl rfl ?_
    refine R_get (pc := 7) dX4_layEnd_7 fX4_27 S.2.2.2.2.2.2.2.2.1 (by omega) rfl ?_
    refine R_sipush (pc := 10) (v := 128) dX4_layEnd_10 (by decide) ?_
    refine R_callVh (pc := 13) (μ' := mX6_append) (As := [.int 128]) (st := []) dX4_layEnd_13 zX6_append lX4_101 ⟨by decide, by decide⟩ rfl rfl ⟨by decide, by decide⟩ (S.rowO 24 rfl) (by omega) rfl (Nat.le_of_ble_eq_true rfl) (S_append S hn rfl _ (show _ < 800 by omega)) (fun h_23 r_ q_24 => ?_)
    obtain ⟨rfl, S_25, F_27⟩ := q_24
    have S_26 : Sys h_23 (ur ρ 24 ((ρ 24) ++ [t8 128])) β κ τ := by have z_ := S_25; (try simp only [ur_s, ur_ur, ur_n (x := 2) (r := 24) (by decide), ur_n (x := 4) (r := 24) (by decide), ur_n (x := 6) (r := 24) (by decide), ur_n (x := 8) (r := 24) (by decide)] at z_); exact z_
    refine R_aload_n (pc := 16) 0 dX4_layEnd_16 rfl rfl ?_
    refine R_get (pc := 17) dX4_layEnd_17 fX4_27 S_26.2.2.2.2.2.2.2.2.1 (by omega) rfl ?_
    refine R_bipush (pc := 20) (v := 16) dX4_layEnd_20 (by decide) ?_
    refine R_callVh (pc := 22) (μ' := mX6_padTo) (As := [.int (nI (2 ^ 4))]) (st := []) dX4_layEnd_22 zX6_padTo lX4_108 ⟨by decide, by decide⟩ rfl rfl ⟨by decide, by decide⟩ (S_26.rowO 24 rfl) (by omega) rfl (Nat.le_of_ble_eq_true rfl) (S_padTo S_26 hn rfl 4 (by omega) (by simp only [ur_s]; show _ ≤ 800; have := pad2_lt (ρ 24 ++ [t8 128]).length 4; simp only [List.length_append, List.length_cons, List.length_nil] at this ⊢; omega)) (fun h_28 r_ q_29 => ?_)
    obtain ⟨rfl, S_30, F_32⟩ := q_29
    have S_31 : Sys h_28 (ur ρ 24 (pdd 4 ((ρ 24) ++ [t8 128]))) β κ τ := by have z_ := S_30; (try simp only [ur_s, ur_ur, ur_n (x := 2) (r := 24) (by decide), ur_n (x := 4) (r := 24) (by decide), ur_n (x := 6) (r := 24) (by decide), ur_n (x := 8) (r := 24) (by decide)] at z_); exact z_
    refine R_aload_n (pc := 25) 0 dX4_layEnd_25 rfl rfl ?_
    refine R_get (pc := 26) dX4_layEnd_26 fX4_37 S_31.2.2.2.2.2.2.2.2.1 (by omega) rfl ?_
    refine R_callVh (pc := 29) (μ' := mX0_makeDouble) (As := []) (st := []) dX4_layEnd_29 zX0_makeDouble lX4_63 ⟨by decide, by decide⟩ rfl rfl ⟨by decide, by decide⟩ (S_31.blk 49 rfl) (by omega) rfl (Nat.le_of_ble_eq_true rfl) (S_makeDouble S_31 hn rfl) (fun h_33 r_ q_34 => ?_)
    obtain ⟨rfl, S_35, F_37⟩ := q_34
    have S_36 : Sys h_33 (ur ρ 24 (pdd 4 ((ρ 24) ++ [t8 128]))) (ub β 49 (dbl (β 49))) κ τ := S_35
    have eW_ : leW (ρ 24) = pdd 4 ((ρ 24) ++ [t8 128]) := if_neg c_1
    have eD_ : leD (ρ 24) (β 49) = dbl (β 49) := if_neg c_1
    have S_38 : Sys h_33 (ur ρ 24 (leW (ρ 24))) (ub β 49 (leD (ρ 24) (β 49))) κ τ := by rw [eW_, eD_]; exact S_36
    refine R_aload_n (pc := 32) 0 dX4_layEnd_32 rfl rfl ?_
    refine R_get (pc := 33) dX4_layEnd_33 fX4_27 S_38.2.2.2.2.2.2.2.2.1 (by omega) rfl ?_
    skip
    refine R_get (pc := 36) dX4_layEnd_36 fX4_47 (S_38.rowO 24 rfl) (by omega) rfl ?_
    refine R_eqi (y := nI (leW (ρ 24)).length) (by first | rfl | (simp only [ur_s, ur_ur, ur_n (x := 2) (r := 24) (by decide), ur_n (x := 4) (r := 24) (by decide), ur_n (x := 6) (r := 24) (by decide), ur_n (x := 8) (r := 24) (by decide)])) ?_
    refine R_bipush (pc := 39) (v := 16) dX4_layEnd_39 (by decide) ?_
    refine R_isub (pc := 41) dX4_layEnd_41 ?_
    refine R_eqi (y := nI ((leW (ρ 24)).length - 16)) (pk_sub (b := 16) (by rw [hlw]; split <;> omega)) ?_
    refine R_istore_n (pc := 42) (lv' := [(2, .int (nI ((leW (ρ 24)).length - 16))), (0, .ref 47), (1, .int (nI (ρ 24).length))]) dX4_layEnd_42 rfl (by decide) rfl ?_
    refine R_aload_n (pc := 43) 1 dX4_layEnd_43 rfl rfl ?_
    refine R_get (pc := 44) dX4_layEnd_44 fX4_40 S_38.2.2.2.2.2.2.2.2.1 (by omega) rfl ?_
    refine R_aload_n (pc := 47) 1 dX4_layEnd_47 rfl rfl ?_
    refine R_get (pc := 48) dX4_layEnd_48 fX4_27 S_38.2.2.2.2.2.2.2.2.1 (by omega) rfl ?_
    refine R_iload_n (pc := 51) 0 dX4_layEnd_51 rfl rfl ?_
    refine R_callVh (pc := 52) (μ' := mX0_read) (As := [.ref 24, .int (nI ((leW (ρ 24)).length - 16))]) (st := []) dX4_layEnd_52 zX0_read lX4_148 ⟨by decide, by decide⟩ rfl rfl ⟨by decide, by decide⟩ (S_38.blk 50 rfl) (by omega) rfl (Nat.le_of_ble_eq_true rfl) (S_read S_38 hn rfl rfl ((leW (ρ 24)).length - 16) (by omega)) (fun h_39 r_ q_40 => ?_)
    obtain ⟨rfl, S_41, F_43⟩ := q_40
    have S_42 : Sys h_39 (ur ρ 24 (leW (ρ 24))) (ub (ub β 49 (leD (ρ 24) (β 49))) 50 (rd (leW (ρ 24)) ((leW (ρ 24)).length - 16))) κ τ := by have z_ := S_41; (try simp only [ur_s, ur_ur, ur_n (x := 2) (r := 24) (by decide), ur_n (x := 4) (r := 24) (by decide), ur_n (x := 6) (r := 24) (by decide), ur_n (x := 8) (r := 24) (by decide)] at z_); exact z_
    refine R_aload_n (pc := 55) 1 dX4_layEnd_55 rfl rfl ?_
    refine R_get (pc := 56) dX4_layEnd_56 fX4_40 S_42.2.2.2.2.2.2.2.2.1 (by omega) rfl ?_
    refine R_aload_n (pc := 59) 1 dX4_layEnd_59 rfl rfl ?_
    refine R_get (pc := 60) dX4_layEnd_60 fX4_37 S_42.2.2.2.2.2.2.2.2.1 (by omega) rfl ?_
    refine R_callVh (pc := 63) (μ' := mX0_add) (As := [.ref 49]) (st := []) dX4_layEnd_63 zX0_add lX4_70 ⟨by decide, by decide⟩ rfl rfl ⟨by decide, by decide⟩ (S_42.blk 50 rfl) (by omega) rfl (Nat.le_of_ble_eq_true rfl) (S_add S_42 hn rfl rfl (by decide)) (fun h_44 r_ q_45 => ?_)
    obtain ⟨rfl, S_46, F_48⟩ := q_45
    have S_47 : Sys h_44 (ur ρ 24 (leW (ρ 24))) (ub (ub (ub β 49 (leD (ρ 24) (β 49))) 50 (rd (leW (ρ 24)) ((leW (ρ 24)).length - 16))) 50 (xb (rd (leW (ρ 24)) ((leW (ρ 24)).length - 16)) (leD (ρ 24) (β 49)))) κ τ := by have z_ := S_46; (try simp only [ur_s, ur_ur, ur_n (x := 2) (r := 24) (by decide), ur_n (x := 4) (r := 24) (by decide), ur_n (x := 6) (r := 24) (by decide), ur_n (x := 8) (r := 24) (by decide)] at z_); exact z_
    refine R_aload_n (pc := 66) 1 dX4_layEnd_66 rfl rfl ?_
    refine R_get (pc := 67) dX4_layEnd_67 fX4_27 S_47.2.2.2.2.2.2.2.2.1 (by omega) rfl ?_
    refine R_iload_n (pc := 70) 0 dX4_layEnd_70 rfl rfl ?_
    refine R_callVh (pc := 71) (μ' := mX6_keep) (As := [.int (nI ((leW (ρ 24)).length - 16))]) (st := []) dX4_layEnd_71 zX6_keep lX4_97 ⟨by decide, by decide⟩ rfl rfl ⟨by decide, by decide⟩ (S_47.rowO 24 rfl) (by omega) rfl (Nat.le_of_ble_eq_true rfl) (S_keep S_47 hn rfl ((leW (ρ 24)).length - 16) (by omega)) (fun h_49 r_ q_50 => ?_)
    obtain ⟨rfl, S_51, F_53⟩ := q_50
    have S_52 : Sys h_49 (ur ρ 24 ((leW (ρ 24)).take ((leW (ρ 24)).length - 16))) (ub (ub (ub β 49 (leD (ρ 24) (β 49))) 50 (rd (leW (ρ 24)) ((leW (ρ 24)).length - 16))) 50 (xb (rd (leW (ρ 24)) ((leW (ρ 24)).length - 16)) (leD (ρ 24) (β 49)))) κ τ := by have z_ := S_51; (try simp only [ur_s, ur_ur, ur_n (x := 2) (r := 24) (by decide), ur_n (x := 4) (r := 24) (by decide), ur_n (x := 6) (r := 24) (by decide), ur_n (x := 8) (r := 24) (by decide)] at z_); exact z_
    refine R_aload_n (pc := 74) 1 dX4_layEnd_74 rfl rfl ?_
    refine R_get (pc := 75) dX4_layEnd_75 fX4_27 S_52.2.2.2.2.2.2.2.2.1 (by omega) rfl ?_
    refine R_aload_n (pc := 78) 1 dX4_layEnd_78 rfl rfl ?_
    refine R_get (pc := 79) dX4_layEnd_79 fX4_40 S_52.2.2.2.2.2.2.2.2.1 (by omega) rfl ?_
    refine R_bipush (pc := 82) (v := 16) dX4_layEnd_82 (by decide) ?_
    refine R_callVh (pc := 84) (μ' := mX6_appendBlock) (As := [.ref 50, .int (nI 16)]) (st := []) dX4_layEnd_84 zX6_appendBlock lX4_121 ⟨by decide, by decide⟩ rfl rfl ⟨by decide, by decide⟩ (S_52.rowO 24 rfl) (by omega) rfl (Nat.le_of_ble_eq_true rfl) (S_appendBlock S_52 hn rfl rfl 16 (by simp only [ur_s, List.length_take]; show _ ≤ 800; rw [hlw]; split <;> omega)) (fun h_54 r_ q_55 => ?_)
    obtain ⟨rfl, S_56, F_58⟩ := q_55
    have S_57 : Sys h_54 (ur ρ 24 (((leW (ρ 24)).take ((leW (ρ 24)).length - 16)) ++ bt (xb (rd (leW (ρ 24)) ((leW (ρ 24)).length - 16)) (leD (ρ 24) (β 49))) 16)) (ub (ub (ub β 49 (leD (ρ 24) (β 49))) 50 (rd (leW (ρ 24)) ((leW (ρ 24)).length - 16))) 50 (xb (rd (leW (ρ 24)) ((leW (ρ 24)).length - 16)) (leD (ρ 24) (β 49)))) κ τ := by have z_ := S_56; (try simp only [ur_s, ur_ur, ur_n (x := 2) (r := 24) (by decide), ur_n (x := 4) (r := 24) (by decide), ur_n (x := 6) (r := 24) (by decide), ur_n (x := 8) (r := 24) (by decide)] at z_); exact z_
    refine R_vreturn (pc := 87) dX4_layEnd_87 rfl (by decide) (by decide) ⟨rfl, (ub (ub (ub β 49 (leD (ρ 24) (β 49))) 50 (rd (leW (ρ 24)) ((leW (ρ 24)).length - 16))) 50 (xb (rd (leW (ρ 24)) ((leW (ρ 24)).length - 16)) (leD (ρ 24) (β 49)))), ?_, rfl, S_57, ((((((F_27.tr F_32).tr F_37).tr F_43).tr F_48).tr F_53).tr F_58)⟩
    intro a_ n_
    simp only [List.mem_cons, List.not_mem_nil, or_false, not_or] at n_
    (try simp only [ub, if_neg, if_false, n_])
    (try simp only [ub_k])
