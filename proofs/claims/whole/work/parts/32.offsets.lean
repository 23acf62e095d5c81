def win (a b : Int64) (v : Int32) : Int64 := (jlshl a v) ||| (jlushr (jlushr b 1) (63 - v))
set_option maxHeartbeats 4000000 in
set_option maxRecDepth 100000 in
theorem qX5_window (l : Launch) (w : am_W) (h : am_H) (n : Nat) (a b : Int64) (v : Int32) : RP l w mX5_window h n [.long a, .long b, .int v] (.long (win a b v)) := by
  refine RC.of [(0, .long a), (2, .long b), (4, .int v)] (by decide +kernel) rfl (Nat.le_of_ble_eq_true rfl) ?_
  refine R_lload_n (pc := 0) 0 dX5_window_0 rfl rfl ?_
  refine R_iload (pc := 1) 2 dX5_window_1 rfl ?_
  refine R_lshl (pc := 3) (v := jlshl a v) dX5_window_3 rfl ?_
  refine R_lload_n (pc := 4) 1 dX5_window_4 rfl rfl ?_
  refine R_iconst (pc := 5) (v := 1) dX5_window_5 (by decide) ?_
  refine R_lushr (pc := 6) (v := jlushr b 1) dX5_window_6 rfl ?_
  refine R_bipush (pc := 7) (v := 63) dX5_window_7 (by decide) ?_
  refine R_iload (pc := 9) 2 dX5_window_9 rfl ?_
  refine R_isub (pc := 11) dX5_window_11 ?_
  refine R_lushr (pc := 12) (v := jlushr (jlushr b 1) (63 - v)) dX5_window_12 rfl ?_
  refine R_lor (pc := 13) dX5_window_13 ?_
  exact R_lreturn (pc := 14) dX5_window_14 rfl (by decide) (by decide) ⟨rfl, rfl, rfl⟩
def mvN (v : Int32) : Nat → Nat → bP → bP
  | _, 0, x => x
  | b, d + 1, x => if (v >>> (nI b &&& 31)) &&& 1 = 0 then mvN v (b + 1) d (dbl x) else x
/-- L of how often 2 divides v, from L(0) on -/
def mvZ (v : Int32) (x : bP) : bP := mvN v 0 16 x
set_option maxHeartbeats 4000000 in
set_option maxRecDepth 100000 in
theorem qX5_moveOffset_loop {l : Launch} {w : am_W} {h : am_H} {n : Nat} {ρ : Nat → List (BitVec 8)} {β : Nat → bP} {κ : Nat → kT} {τ : Nat × Nat × Nat} (S : Sys h ρ β κ τ) (hn : 60 ≤ n) (v : Int32) : ∀ (d b : Nat) (x : bP), b + d = 16 → mvN v b d x = mvZ v (dbl (β 53)) → ∀ h2 β2, Sys h2 ρ β2 κ τ → β2 54 = x → (∀ a, a ∉ [54] → β2 a = β a) → Fr h h2 → RW l w mX5_moveOffset h2 n 0 0 20 [(2, .int (nI b)), (0, .ref 51), (1, .int v)] [] (fun h' n' r_ => n' = n ∧ (SX h τ none ρ (ub β 55 (xb (β 55) (mvZ v (dbl (β 53))))) κ [54]) h' r_) := by
  intro d
  induction d with
  | zero =>
    intro b x hd hY h2 β2 S2 hv54 hB hF
    have S_1 : Sys h2 ρ (ub β2 54 x) κ τ := Sys.know S2 (hv54)
    have S_2 : Sys h2 ρ (ub (ub β2 54 x) 55 (β 55)) κ τ := Sys.know S_1 (hB 55 (by decide))
    refine R_iload_n (pc := 20) 0 dX5_moveOffset_20 rfl rfl ?_
    refine R_bipush (pc := 21) (v := 16) dX5_moveOffset_21 (by decide) ?_
    refine R_icmp_ge (pc := 23) (tgt := 47) dX5_moveOffset_23 (by decide) (fun c_3 => ?_) (fun c_3 => absurd (nI_le (a := 16) (by omega) (by omega)) c_3)
    refine R_aload_n (pc := 47) 1 dX5_moveOffset_47 rfl rfl ?_
    refine R_get (pc := 48) dX5_moveOffset_48 fX5_33 S_2.2.2.2.2.2.2.2.2.2.1 (by omega) rfl ?_
    refine R_aload_n (pc := 51) 1 dX5_moveOffset_51 rfl rfl ?_
    refine R_get (pc := 52) dX5_moveOffset_52 fX5_30 S_2.2.2.2.2.2.2.2.2.2.1 (by omega) rfl ?_
    refine R_callVh (pc := 55) (μ' := mX0_add) (As := [.ref 54]) (st := []) dX5_moveOffset_55 zX0_add lX5_92 ⟨by decide, by decide⟩ rfl rfl ⟨by decide, by decide⟩ (S_2.blk 55 rfl) (by omega) rfl (Nat.le_of_ble_eq_true rfl) (S_add S_2 hn rfl rfl (by decide)) (fun h_4 r_ q_5 => ?_)
    obtain ⟨rfl, S_6, F_8⟩ := q_5
    have S_7 : Sys h_4 ρ (ub (ub (ub β2 54 x) 55 (β 55)) 55 (xb (β 55) x)) κ τ := S_6
    have hx_ : mvZ v (dbl (β 53)) = x := by rw [← hY]; rfl
    rw [hx_]
    refine R_vreturn (pc := 58) dX5_moveOffset_58 rfl (by decide) (by decide) ⟨rfl, (ub (ub (ub β2 54 x) 55 (β 55)) 55 (xb (β 55) x)), ?_, rfl, S_7, (hF.tr F_8)⟩
    intro a_ n_
    simp only [List.mem_cons, List.not_mem_nil, or_false, not_or] at n_
    by_cases e0_ : a_ = 55
    · subst e0_; first | rfl | (simp only [ub_s]; done) | (simp (config := { decide := true }) only [ub, if_true, if_false, reduceIte]; first | rfl | skip)
    (try simp only [ub, if_neg, if_false, n_, e0_])
    (try simp only [ub_k])
    (try rw [hB a_ (by simp [n_, e0_])])
    (try simp only [ub, if_neg, if_false, n_, e0_])
    (try simp only [ub_k])
  | succ d ih =>
    intro b x hd hY h2 β2 S2 hv54 hB hF
    have S_1 : Sys h2 ρ (ub β2 54 x) κ τ := Sys.know S2 (hv54)
    have S_2 : Sys h2 ρ (ub (ub β2 54 x) 55 (β 55)) κ τ := Sys.know S_1 (hB 55 (by decide))
    refine R_iload_n (pc := 20) 0 dX5_moveOffset_20 rfl rfl ?_
    refine R_bipush (pc := 21) (v := 16) dX5_moveOffset_21 (by decide) ?_
    refine R_icmp_ge (pc := 23) (tgt := 47) dX5_moveOffset_23 (by decide) (fun c_3 => absurd c_3 (nI_ge (b := 16) (by omega) (by omega))) (fun c_3 => ?_)
    refine R_iload_n (pc := 26) 2 dX5_moveOffset_26 rfl rfl ?_
    refine R_iload_n (pc := 27) 0 dX5_moveOffset_27 rfl rfl ?_
    refine R_ishr (pc := 28) dX5_moveOffset_28 ?_
    refine R_iconst (pc := 29) (v := 1) dX5_moveOffset_29 (by decide) ?_
    refine R_iand (pc := 30) dX5_moveOffset_30 ?_
    refine R_if_ne (pc := 31) (tgt := 47) dX5_moveOffset_31 (by decide) (fun c_4 => ?_) (fun c_4 => ?_)
    · skip
      refine R_aload_n (pc := 47) 1 dX5_moveOffset_47 rfl rfl ?_
      refine R_get (pc := 48) dX5_moveOffset_48 fX5_33 S_2.2.2.2.2.2.2.2.2.2.1 (by omega) rfl ?_
      refine R_aload_n (pc := 51) 1 dX5_moveOffset_51 rfl rfl ?_
      refine R_get (pc := 52) dX5_moveOffset_52 fX5_30 S_2.2.2.2.2.2.2.2.2.2.1 (by omega) rfl ?_
      refine R_callVh (pc := 55) (μ' := mX0_add) (As := [.ref 54]) (st := []) dX5_moveOffset_55 zX0_add lX5_92 ⟨by decide, by decide⟩ rfl rfl ⟨by decide, by decide⟩ (S_2.blk 55 rfl) (by omega) rfl (Nat.le_of_ble_eq_true rfl) (S_add S_2 hn rfl rfl (by decide)) (fun h_5 r_ q_6 => ?_)
      obtain ⟨rfl, S_7, F_9⟩ := q_6
      have S_8 : Sys h_5 ρ (ub (ub (ub β2 54 x) 55 (β 55)) 55 (xb (β 55) x)) κ τ := S_7
      have hx_ : mvZ v (dbl (β 53)) = x := by rw [← hY]; exact if_neg c_4
      rw [hx_]
      refine R_vreturn (pc := 58) dX5_moveOffset_58 rfl (by decide) (by decide) ⟨rfl, (ub (ub (ub β2 54 x) 55 (β 55)) 55 (xb (β 55) x)), ?_, rfl, S_8, (hF.tr F_9)⟩
      intro a_ n_
      simp only [List.mem_cons, List.not_mem_nil, or_false, not_or] at n_
      by_cases e0_ : a_ = 55
      · subst e0_; first | rfl | (simp only [ub_s]; done) | (simp (config := { decide := true }) only [ub, if_true, if_false, reduceIte]; first | rfl | skip)
      (try simp only [ub, if_neg, if_false, n_, e0_])
      (try simp only [ub_k])
      (try rw [hB a_ (by simp [n_, e0_])])
      (try simp only [ub, if_neg, if_false, n_, e0_])
      (try simp only [ub_k])
    · skip
      refine R_aload_n (pc := 34) 1 dX5_moveOffset_34 rfl rfl ?_
      refine R_get (pc := 35) dX5_moveOffset_35 fX5_30 S_2.2.2.2.2.2.2.2.2.2.1 (by omega) rfl ?_
      refine R_callVh (pc := 38) (μ' := mX0_makeDouble) (As := []) (st := []) dX5_moveOffset_38 zX0_makeDouble lX5_58 ⟨by decide, by decide⟩ rfl rfl ⟨by decide, by decide⟩ (S_2.blk 54 rfl) (by omega) rfl (Nat.le_of_ble_eq_true rfl) (S_makeDouble S_2 hn rfl) (fun h_10 r_ q_11 => ?_)
      obtain ⟨rfl, S_12, F_14⟩ := q_11
      have S_13 : Sys h_10 ρ (ub (ub (ub β2 54 x) 55 (β 55)) 54 (dbl x)) κ τ := S_12
      refine R_iinc (pc := 41) (j := 0) (v := nI (b + 1)) (lv' := [(2, .int (nI (b + 1))), (0, .ref 51), (1, .int v)]) dX5_moveOffset_41 rfl (nI_1 b) (by decide) rfl ?_
      refine R_goto (pc := 44) (tgt := 20) dX5_moveOffset_44 (by decide) ?_
      refine R_sub [0, 1, 2] rfl ?_
      refine ih (b + 1) _ (by omega) (by rw [← hY]; exact (if_pos c_4).symm) h_10 (ub (ub (ub β2 54 x) 55 (β 55)) 54 (dbl x)) S_13 rfl (fun a_ n_ => ?_) (hF.tr F_14)
      have q_ := hB a_ n_; simp only [List.mem_cons, List.not_mem_nil, or_false, not_or] at n_
      simp only [ub, if_neg, n_, if_false]; first | exact q_ | (rw [q_]; simp only [ub_k])
set_option maxHeartbeats 4000000 in
set_option maxRecDepth 100000 in
theorem qX5_moveOffset {l : Launch} {w : am_W} {h : am_H} {n : Nat} {ρ : Nat → List (BitVec 8)} {β : Nat → bP} {κ : Nat → kT} {τ : Nat × Nat × Nat} (S : Sys h ρ β κ τ) (hn : 60 ≤ n) (v : Int32) : RH l w mX5_moveOffset h n [.ref 51, .int v] (SX h τ none ρ (ub β 55 (xb (β 55) (mvZ v (dbl (β 53))))) κ [54]) := by
  refine RC.of [(0, .ref 51), (1, .int v)] (by decide +kernel) rfl (Nat.le_of_ble_eq_true rfl) ?_
  refine R_aload_n (pc := 0) 0 dX5_moveOffset_0 rfl rfl ?_
  refine R_get (pc := 1) dX5_moveOffset_1 fX5_30 S.2.2.2.2.2.2.2.2.2.1 (by omega) rfl ?_
  refine R_aload_n (pc := 4) 0 dX5_moveOffset_4 rfl rfl ?_
  refine R_get (pc := 5) dX5_moveOffset_5 fX5_27 S.2.2.2.2.2.2.2.2.2.1 (by omega) rfl ?_
  refine R_callVh (pc := 8) (μ' := mX0_copy) (As := [.ref 53]) (st := []) dX5_moveOffset_8 zX0_copy lX5_55 ⟨by decide, by decide⟩ rfl rfl ⟨by decide, by decide⟩ (S.blk 54 rfl) (by omega) rfl (Nat.le_of_ble_eq_true rfl) (S_copy S hn rfl rfl (by decide)) (fun h_1 r_ q_2 => ?_)
  obtain ⟨rfl, S_3, F_5⟩ := q_2
  have S_4 : Sys h_1 ρ (ub β 54 (β 53)) κ τ := S_3
  refine R_aload_n (pc := 11) 0 dX5_moveOffset_11 rfl rfl ?_
  refine R_get (pc := 12) dX5_moveOffset_12 fX5_30 S_4.2.2.2.2.2.2.2.2.2.1 (by omega) rfl ?_
  refine R_callVh (pc := 15) (μ' := mX0_makeDouble) (As := []) (st := []) dX5_moveOffset_15 zX0_makeDouble lX5_58 ⟨by decide, by decide⟩ rfl rfl ⟨by decide, by decide⟩ (S_4.blk 54 rfl) (by omega) rfl (Nat.le_of_ble_eq_true rfl) (S_makeDouble S_4 hn rfl) (fun h_6 r_ q_7 => ?_)
  obtain ⟨rfl, S_8, F_10⟩ := q_7
  have S_9 : Sys h_6 ρ (ub (ub β 54 (β 53)) 54 (dbl (β 53))) κ τ := S_8
  refine R_iconst (pc := 18) (v := 0) dX5_moveOffset_18 (by decide) ?_
  refine R_istore_n (pc := 19) (lv' := [(2, .int 0), (0, .ref 51), (1, .int v)]) dX5_moveOffset_19 rfl (by decide) rfl ?_
  refine R_sub [0, 1, 2] rfl ?_
  refine qX5_moveOffset_loop S hn v 16 0 _ (by omega) rfl h_6 (ub (ub β 54 (β 53)) 54 (dbl (β 53))) S_9 rfl (fun a_ n_ => ?_) (F_5.tr F_10)
  simp only [List.mem_cons, List.not_mem_nil, or_false, not_or] at n_; (try simp only [ub, if_neg, n_, if_false])
set_option maxHeartbeats 4000000 in
set_option maxRecDepth 100000 in
theorem qX5_lockBlock {l : Launch} {w : am_W} {h : am_H} {n : Nat} {ρ : Nat → List (BitVec 8)} {β : Nat → bP} {κ : Nat → kT} {τ : Nat × Nat × Nat} (S : Sys h ρ β κ τ) (hn : 60 ≤ n) (hk : kOk (κ 16)) : RH l w mX5_lockBlock h n [.ref 51] (SX h τ none ρ (ub (ub β 56 (xb (β 56) (β 57))) 57 (xb (eK (κ 16) (xb (β 57) (β 55))) (β 55))) κ []) := by
  refine RC.of [(0, .ref 51)] (by decide +kernel) rfl (Nat.le_of_ble_eq_true rfl) ?_
  refine R_aload_n (pc := 0) 0 dX5_lockBlock_0 rfl rfl ?_
  refine R_get (pc := 1) dX5_lockBlock_1 fX5_36 S.2.2.2.2.2.2.2.2.2.1 (by omega) rfl ?_
  refine R_aload_n (pc := 4) 0 dX5_lockBlock_4 rfl rfl ?_
  refine R_get (pc := 5) dX5_lockBlock_5 fX5_39 S.2.2.2.2.2.2.2.2.2.1 (by omega) rfl ?_
  refine R_callVh (pc := 8) (μ' := mX0_add) (As := [.ref 57]) (st := []) dX5_lockBlock_8 zX0_add lX5_92 ⟨by decide, by decide⟩ rfl rfl ⟨by decide, by decide⟩ (S.blk 56 rfl) (by omega) rfl (Nat.le_of_ble_eq_true rfl) (S_add S hn rfl rfl (by decide)) (fun h_1 r_ q_2 => ?_)
  obtain ⟨rfl, S_3, F_5⟩ := q_2
  have S_4 : Sys h_1 ρ (ub β 56 (xb (β 56) (β 57))) κ τ := S_3
  refine R_aload_n (pc := 11) 0 dX5_lockBlock_11 rfl rfl ?_
  refine R_get (pc := 12) dX5_lockBlock_12 fX5_39 S_4.2.2.2.2.2.2.2.2.2.1 (by omega) rfl ?_
  refine R_aload_n (pc := 15) 0 dX5_lockBlock_15 rfl rfl ?_
  refine R_get (pc := 16) dX5_lockBlock_16 fX5_33 S_4.2.2.2.2.2.2.2.2.2.1 (by omega) rfl ?_
  refine R_callVh (pc := 19) (μ' := mX0_add) (As := [.ref 55]) (st := []) dX5_lockBlock_19 zX0_add lX5_92 ⟨by decide, by decide⟩ rfl rfl ⟨by decide, by decide⟩ (S_4.blk 57 rfl) (by omega) rfl (Nat.le_of_ble_eq_true rfl) (S_add S_4 hn rfl rfl (by decide)) (fun h_6 r_ q_7 => ?_)
  obtain ⟨rfl, S_8, F_10⟩ := q_7
  have S_9 : Sys h_6 ρ (ub (ub β 56 (xb (β 56) (β 57))) 57 (xb (β 57) (β 55))) κ τ := S_8
  refine R_aload_n (pc := 22) 0 dX5_lockBlock_22 rfl rfl ?_
  refine R_get (pc := 23) dX5_lockBlock_23 fX5_7 S_9.2.2.2.2.2.2.2.2.2.1 (by omega) rfl ?_
  refine R_aload_n (pc := 26) 0 dX5_lockBlock_26 rfl rfl ?_
  refine R_get (pc := 27) dX5_lockBlock_27 fX5_39 S_9.2.2.2.2.2.2.2.2.2.1 (by omega) rfl ?_
  refine R_callVh (pc := 30) (μ' := mX2_encrypt) (As := [.ref 57]) (st := []) dX5_lockBlock_30 zX2_encrypt lX5_49 ⟨by decide, by decide⟩ rfl rfl ⟨by decide, by decide⟩ (S_9.2.2.1 16 (by decide)).1 (by omega) rfl (Nat.le_of_ble_eq_true rfl) (S_encrypt S_9 hn (by decide) rfl hk.1 hk.2) (fun h_11 r_ q_12 => ?_)
  obtain ⟨rfl, S_13, F_15⟩ := q_12
  have S_14 : Sys h_11 ρ (ub (ub (ub β 56 (xb (β 56) (β 57))) 57 (xb (β 57) (β 55))) 57 (eK (κ 16) (xb (β 57) (β 55)))) κ τ := S_13
  refine R_aload_n (pc := 33) 0 dX5_lockBlock_33 rfl rfl ?_
  refine R_get (pc := 34) dX5_lockBlock_34 fX5_39 S_14.2.2.2.2.2.2.2.2.2.1 (by omega) rfl ?_
  refine R_aload_n (pc := 37) 0 dX5_lockBlock_37 rfl rfl ?_
  refine R_get (pc := 38) dX5_lockBlock_38 fX5_33 S_14.2.2.2.2.2.2.2.2.2.1 (by omega) rfl ?_
  refine R_callVh (pc := 41) (μ' := mX0_add) (As := [.ref 55]) (st := []) dX5_lockBlock_41 zX0_add lX5_92 ⟨by decide, by decide⟩ rfl rfl ⟨by decide, by decide⟩ (S_14.blk 57 rfl) (by omega) rfl (Nat.le_of_ble_eq_true rfl) (S_add S_14 hn rfl rfl (by decide)) (fun h_16 r_ q_17 => ?_)
  obtain ⟨rfl, S_18, F_20⟩ := q_17
  have S_19 : Sys h_16 ρ (ub (ub (ub (ub β 56 (xb (β 56) (β 57))) 57 (xb (β 57) (β 55))) 57 (eK (κ 16) (xb (β 57) (β 55)))) 57 (xb (eK (κ 16) (xb (β 57) (β 55))) (β 55))) κ τ := S_18
  refine R_vreturn (pc := 44) dX5_lockBlock_44 rfl (by decide) (by decide) ⟨rfl, (ub (ub (ub (ub β 56 (xb (β 56) (β 57))) 57 (xb (β 57) (β 55))) 57 (eK (κ 16) (xb (β 57) (β 55)))) 57 (xb (eK (κ 16) (xb (β 57) (β 55))) (β 55))), ?_, rfl, S_19, (((F_5.tr F_10).tr F_15).tr F_20)⟩
  intro a_ n_
  simp only [List.mem_cons, List.not_mem_nil, or_false, not_or] at n_
  by_cases e0_ : a_ = 57
  · subst e0_; first | rfl | (simp only [ub_s]; done) | (simp (config := { decide := true }) only [ub, if_true, if_false, reduceIte]; first | rfl | skip)
  by_cases e1_ : a_ = 56
  · subst e1_; first | rfl | (simp only [ub_s]; done) | (simp (config := { decide := true }) only [ub, if_true, if_false, reduceIte]; first | rfl | skip)
  (try simp only [ub, if_neg, if_false, n_, e0_, e1_])
  (try simp only [ub_k])
set_option maxHeartbeats 4000000 in
set_option maxRecDepth 100000 in
theorem qX5_unlockBlock {l : Launch} {w : am_W} {h : am_H} {n : Nat} {ρ : Nat → List (BitVec 8)} {β : Nat → bP} {κ : Nat → kT} {τ : Nat × Nat × Nat} (S : Sys h ρ β κ τ) (hn : 60 ≤ n) (hk : kOk (κ 16)) : RH l w mX5_unlockBlock h n [.ref 51] (SX h τ none ρ (ub (ub β 56 (xb (β 56) (xb (dK (κ 16) (xb (β 57) (β 55))) (β 55)))) 57 (xb (dK (κ 16) (xb (β 57) (β 55))) (β 55))) κ []) := by
  refine RC.of [(0, .ref 51)] (by decide +kernel) rfl (Nat.le_of_ble_eq_true rfl) ?_
  refine R_aload_n (pc := 0) 0 dX5_unlockBlock_0 rfl rfl ?_
  refine R_get (pc := 1) dX5_unlockBlock_1 fX5_39 S.2.2.2.2.2.2.2.2.2.1 (by omega) rfl ?_
  refine R_aload_n (pc := 4) 0 dX5_unlockBlock_4 rfl rfl ?_
  refine R_get (pc := 5) dX5_unlockBlock_5 fX5_33 S.2.2.2.2.2.2.2.2.2.1 (by omega) rfl ?_
  refine R_callVh (pc := 8) (μ' := mX0_add) (As := [.ref 55]) (st := []) dX5_unlockBlock_8 zX0_add lX5_92 ⟨by decide, by decide⟩ rfl rfl ⟨by decide, by decide⟩ (S.blk 57 rfl) (by omega) rfl (Nat.le_of_ble_eq_true rfl) (S_add S hn rfl rfl (by decide)) (fun h_1 r_ q_2 => ?_)
  obtain ⟨rfl, S_3, F_5⟩ := q_2
  have S_4 : Sys h_1 ρ (ub β 57 (xb (β 57) (β 55))) κ τ := S_3
  refine R_aload_n (pc := 11) 0 dX5_unlockBlock_11 rfl rfl ?_
  refine R_get (pc := 12) dX5_unlockBlock_12 fX5_7 S_4.2.2.2.2.2.2.2.2.2.1 (by omega) rfl ?_
  refine R_aload_n (pc := 15) 0 dX5_unlockBlock_15 rfl rfl ?_
  refine R_get (pc := 16) dX5_unlockBlock_16 fX5_39 S_4.2.2.2.2.2.2.2.2.2.1 (by omega) rfl ?_
  refine R_callVh (pc := 19) (μ' := mX2_decrypt) (As := [.ref 57]) (st := []) dX5_unlockBlock_19 zX2_decrypt lX5_119 ⟨by decide, by decide⟩ rfl rfl ⟨by decide, by decide⟩ (S_4.2.2.1 16 (by decide)).1 (by omega) rfl (Nat.le_of_ble_eq_true rfl) (S_decrypt S_4 hn (by decide) rfl hk.1 hk.2) (fun h_6 r_ q_7 => ?_)
  obtain ⟨rfl, S_8, F_10⟩ := q_7
  have S_9 : Sys h_6 ρ (ub (ub β 57 (xb (β 57) (β 55))) 57 (dK (κ 16) (xb (β 57) (β 55)))) κ τ := S_8
  refine R_aload_n (pc := 22) 0 dX5_unlockBlock_22 rfl rfl ?_
  refine R_get (pc := 23) dX5_unlockBlock_23 fX5_39 S_9.2.2.2.2.2.2.2.2.2.1 (by omega) rfl ?_
  refine R_aload_n (pc := 26) 0 dX5_unlockBlock_26 rfl rfl ?_
  refine R_get (pc := 27) dX5_unlockBlock_27 fX5_33 S_9.2.2.2.2.2.2.2.2.2.1 (by omega) rfl ?_
  refine R_callVh (pc := 30) (μ' := mX0_add) (As := [.ref 55]) (st := []) dX5_unlockBlock_30 zX0_add lX5_92 ⟨by decide, by decide⟩ rfl rfl ⟨by decide, by decide⟩ (S_9.blk 57 rfl) (by omega) rfl (Nat.le_of_ble_eq_true rfl) (S_add S_9 hn rfl rfl (by decide)) (fun h_11 r_ q_12 => ?_)
  obtain ⟨rfl, S_13, F_15⟩ := q_12
  have S_14 : Sys h_11 ρ (ub (ub (ub β 57 (xb (β 57) (β 55))) 57 (dK (κ 16) (xb (β 57) (β 55)))) 57 (xb (dK (κ 16) (xb (β 57) (β 55))) (β 55))) κ τ := S_13
  refine R_aload_n (pc := 33) 0 dX5_unlockBlock_33 rfl rfl ?_
  refine R_get (pc := 34) dX5_unlockBlock_34 fX5_36 S_14.2.2.2.2.2.2.2.2.2.1 (by omega) rfl ?_
  refine R_aload_n (pc := 37) 0 dX5_unlockBlock_37 rfl rfl ?_
  refine R_get (pc := 38) dX5_unlockBlock_38 fX5_39 S_14.2.2.2.2.2.2.2.2.2.1 (by omega) rfl ?_
  refine R_callVh (pc := 41) (μ' := mX0_add) (As := [.ref 57]) (st := []) dX5_unlockBlock_41 zX0_add lX5_92 ⟨by decide, by decide⟩ rfl rfl ⟨by decide, by decide⟩ (S_14.blk 56 rfl) (by omega) rfl (Nat.le_of_ble_eq_true rfl) (S_add S_14 hn rfl rfl (by decide)) (fun h_16 r_ q_17 => ?_)
  obtain ⟨rfl, S_18, F_20⟩ := q_17
  have S_19 : Sys h_16 ρ (ub (ub (ub (ub β 57 (xb (β 57) (β 55))) 57 (dK (κ 16) (xb (β 57) (β 55)))) 57 (xb (dK (κ 16) (xb (β 57) (β 55))) (β 55))) 56 (xb (β 56) (xb (dK (κ 16) (xb (β 57) (β 55))) (β 55)))) κ τ := S_18
  refine R_vreturn (pc := 44) dX5_unlockBlock_44 rfl (by decide) (by decide) ⟨rfl, (ub (ub (ub (ub β 57 (xb (β 57) (β 55))) 57 (dK (κ 16) (xb (β 57) (β 55)))) 57 (xb (dK (κ 16) (xb (β 57) (β 55))) (β 55))) 56 (xb (β 56) (xb (dK (κ 16) (xb (β 57) (β 55))) (β 55)))), ?_, rfl, S_19, (((F_5.tr F_10).tr F_15).tr F_20)⟩
  intro a_ n_
  simp only [List.mem_cons, List.not_mem_nil, or_false, not_or] at n_
  by_cases e0_ : a_ = 57
  · subst e0_; first | rfl | (simp only [ub_s]; done) | (simp (config := { decide := true }) only [ub, if_true, if_false, reduceIte]; first | rfl | skip)
  by_cases e1_ : a_ = 56
  · subst e1_; first | rfl | (simp only [ub_s]; done) | (simp (config := { decide := true }) only [ub, if_true, if_false, reduceIte]; first | rfl | skip)
  (try simp only [ub, if_neg, if_false, n_, e0_, e1_])
  (try simp only [ub_k])
def bgS (st : List (BitVec 8)) (i : Nat) (x : bP) : bP := aoc x (nI (16 - st.length + i)) (oc (og st i))
/-- OFFSETS' N -/
def bgN (st : List (BitVec 8)) (mI : Int32) : bP := cyN (bgS st) (aoc (aoc (0, 0) 0 (((8 * mI) &&& 127) <<< (1 &&& 31))) (nI (15 - st.length)) 1) st.length
/-- O out of K and the bits b -/
def bgW (K : bP) (b : Int32) : bP := (win K.1 K.2 b, win K.2 (K.1 ^^^ ((jlshl K.1 8) ||| (jlushr K.2 56))) b)
def bgO (F : bP → bP) (st : List (BitVec 8)) (mI : Int32) : bP := bgW (F ((bgN st mI).1, (bgN st mI).2 &&& (-64))) ((bgN st mI).2.toInt32 &&& 63)
set_option maxHeartbeats 4000000 in
set_option maxRecDepth 100000 in
theorem qX5_beginOffset_loop {l : Launch} {w : am_W} {h : am_H} {n : Nat} {ρ : Nat → List (BitVec 8)} {β : Nat → bP} {κ : Nat → kT} {τ : Nat × Nat × Nat} (S : Sys h ρ β κ τ) (hn : 60 ≤ n) (mI : Int32) (hk : kOk (κ 16)) (hl : (ρ 6).length ≤ 15) (kk : ∀ h2 β2, Sys h2 ρ β2 κ τ → β2 57 = cyN (bgS (ρ 6)) (aoc (aoc (0, 0) 0 (((8 * mI) &&& 127) <<< (1 &&& 31))) (nI (15 - (ρ 6).length)) 1) ((ρ 6).length) → (∀ a, a ∉ [57] → β2 a = β a) → Fr h h2 → RW l w mX5_beginOffset h2 n 0 0 90 [(2, .int (nI ((ρ 6).length))), (0, .ref 51), (1, .int mI)] [] (fun h' n' r_ => n' = n ∧ (SX h τ none ρ (ub β 55 (bgO (eK (κ 16)) (ρ 6) mI)) κ [57]) h' r_)) : ∀ (d i : Nat), i + d = (ρ 6).length → ∀ h2 β2, Sys h2 ρ β2 κ τ → β2 57 = cyN (bgS (ρ 6)) (aoc (aoc (0, 0) 0 (((8 * mI) &&& 127) <<< (1 &&& 31))) (nI (15 - (ρ 6).length)) 1) i → (∀ a, a ∉ [57] → β2 a = β a) → Fr h h2 → RW l w mX5_beginOffset h2 n 0 0 46 [(2, .int (nI i)), (0, .ref 51), (1, .int mI)] [] (fun h' n' r_ => n' = n ∧ (SX h τ none ρ (ub β 55 (bgO (eK (κ 16)) (ρ 6) mI)) κ [57]) h' r_) := by
  intro d
  induction d with
  | zero =>
    intro i hd h2 β2 S2 hv57 hB hF
    refine R_iload_n (pc := 46) 0 dX5_beginOffset_46 rfl rfl ?_
    refine R_aload_n (pc := 47) 1 dX5_beginOffset_47 rfl rfl ?_
    refine R_get (pc := 48) dX5_beginOffset_48 fX5_13 S2.2.2.2.2.2.2.2.2.2.1 (by omega) rfl ?_
    skip
    refine R_get (pc := 51) dX5_beginOffset_51 fX5_65 (S2.rowO 6 rfl) (by omega) rfl ?_
    refine R_eqi (y := nI (ρ 6).length) (by first | rfl | (simp only [ur_s, ur_ur])) ?_
    refine R_icmp_ge (pc := 54) (tgt := 90) dX5_beginOffset_54 (by decide) (fun c_1 => ?_) (fun c_1 => absurd (nI_le (by omega) (by omega)) c_1)
    obtain rfl : i = (ρ 6).length := by omega
    exact kk h2 β2 S2 hv57 hB hF
  | succ d ih =>
    intro i hd h2 β2 S2 hv57 hB hF
    have S_1 : Sys h2 ρ (ub β2 57 (cyN (bgS (ρ 6)) (aoc (aoc (0, 0) 0 (((8 * mI) &&& 127) <<< (1 &&& 31))) (nI (15 - (ρ 6).length)) 1) i)) κ τ := Sys.know S2 (hv57)
    refine R_iload_n (pc := 46) 0 dX5_beginOffset_46 rfl rfl ?_
    refine R_aload_n (pc := 47) 1 dX5_beginOffset_47 rfl rfl ?_
    refine R_get (pc := 48) dX5_beginOffset_48 fX5_13 S_1.2.2.2.2.2.2.2.2.2.1 (by omega) rfl ?_
    skip
    refine R_get (pc := 51) dX5_beginOffset_51 fX5_65 (S_1.rowO 6 rfl) (by omega) rfl ?_
    refine R_eqi (y := nI (ρ 6).length) (by first | rfl | (simp only [ur_s, ur_ur])) ?_
    refine R_icmp_ge (pc := 54) (tgt := 90) dX5_beginOffset_54 (by decide) (fun c_2 => absurd c_2 (nI_ge (by omega) (by omega))) (fun c_2 => ?_)
    refine R_aload_n (pc := 57) 1 dX5_beginOffset_57 rfl rfl ?_
    refine R_get (pc := 58) dX5_beginOffset_58 fX5_39 S_1.2.2.2.2.2.2.2.2.2.1 (by omega) rfl ?_
    refine R_bipush (pc := 61) (v := 16) dX5_beginOffset_61 (by decide) ?_
    refine R_aload_n (pc := 63) 1 dX5_beginOffset_63 rfl rfl ?_
    refine R_get (pc := 64) dX5_beginOffset_64 fX5_13 S_1.2.2.2.2.2.2.2.2.2.1 (by omega) rfl ?_
    skip
    refine R_get (pc := 67) dX5_beginOffset_67 fX5_65 (S_1.rowO 6 rfl) (by omega) rfl ?_
    refine R_eqi (y := nI (ρ 6).length) (by first | rfl | (simp only [ur_s, ur_ur])) ?_
    refine R_isub (pc := 70) dX5_beginOffset_70 ?_
    refine R_eqi (y := nI (16 - (ρ 6).length)) (pk_sub (a := 16) (by omega)) ?_
    refine R_iload_n (pc := 71) 0 dX5_beginOffset_71 rfl rfl ?_
    refine R_iadd (pc := 72) dX5_beginOffset_72 ?_
    refine R_eqi (y := nI (16 - (ρ 6).length + i)) (nI_add (16 - (ρ 6).length) i) ?_
    refine R_aload_n (pc := 73) 1 dX5_beginOffset_73 rfl rfl ?_
    refine R_get (pc := 74) dX5_beginOffset_74 fX5_13 S_1.2.2.2.2.2.2.2.2.2.1 (by omega) rfl ?_
    refine R_iload_n (pc := 77) 0 dX5_beginOffset_77 rfl rfl ?_
    refine R_callVp (pc := 78) (μ' := mX6_at) (As := [.int (nI i)]) (st := [.int (nI (16 - (ρ 6).length + i)), .ref 57]) dX5_beginOffset_78 zX6_at lX5_102 ⟨by decide, by decide⟩ rfl rfl ⟨by decide, by decide⟩ (S_1.rowO 6 rfl) (by omega) rfl (Nat.le_of_ble_eq_true rfl) (S_at S_1 hn rfl _) ?_
    refine R_eqi (y := atI (ρ 6) (nI i)) (by first | rfl | (simp only [ur_s, ur_ur])) ?_
    refine R_eqi (y := oc (og (ρ 6) i)) (atI_nI (ρ 6) (by omega) (by omega)) ?_
    refine R_callVh (pc := 81) (μ' := mX0_addOctet) (As := [.int (nI (16 - (ρ 6).length + i)), .int (oc (og (ρ 6) i))]) (st := []) dX5_beginOffset_81 zX0_addOctet lX5_98 ⟨by decide, by decide⟩ rfl rfl ⟨by decide, by decide⟩ (S_1.blk 57 rfl) (by omega) rfl (Nat.le_of_ble_eq_true rfl) (S_addOctet S_1 hn rfl _ _) (fun h_3 r_ q_4 => ?_)
    obtain ⟨rfl, S_5, F_7⟩ := q_4
    have S_6 : Sys h_3 ρ (ub (ub β2 57 (cyN (bgS (ρ 6)) (aoc (aoc (0, 0) 0 (((8 * mI) &&& 127) <<< (1 &&& 31))) (nI (15 - (ρ 6).length)) 1) i)) 57 (aoc (cyN (bgS (ρ 6)) (aoc (aoc (0, 0) 0 (((8 * mI) &&& 127) <<< (1 &&& 31))) (nI (15 - (ρ 6).length)) 1) i) (nI (16 - (ρ 6).length + i)) (oc (og (ρ 6) i)))) κ τ := S_5
    refine R_iinc (pc := 84) (j := 0) (v := nI (i + 1)) (lv' := [(2, .int (nI (i + 1))), (0, .ref 51), (1, .int mI)]) dX5_beginOffset_84 rfl (nI_1 i) (by decide) rfl ?_
    refine R_goto (pc := 87) (tgt := 46) dX5_beginOffset_87 (by decide) ?_
    refine R_sub [0, 1, 2] rfl ?_
    refine ih (i + 1) (by omega) h_3 (ub (ub β2 57 (cyN (bgS (ρ 6)) (aoc (aoc (0, 0) 0 (((8 * mI) &&& 127) <<< (1 &&& 31))) (nI (15 - (ρ 6).length)) 1) i)) 57 (aoc (cyN (bgS (ρ 6)) (aoc (aoc (0, 0) 0 (((8 * mI) &&& 127) <<< (1 &&& 31))) (nI (15 - (ρ 6).length)) 1) i) (nI (16 - (ρ 6).length + i)) (oc (og (ρ 6) i)))) (by have z_ := S_6; skip; exact z_) rfl (fun a_ n_ => ?_) (hF.tr F_7)
    have q_ := hB a_ n_; simp only [List.mem_cons, List.not_mem_nil, or_false, not_or] at n_
    (try simp only [ub, if_neg, n_, if_false])
    first | exact q_ | (simp only [ub_k]; exact q_) | (rw [q_]; simp only [ub_k]) | (repeat' split) <;> first | exact q_ | (rename_i e_; rw [e_])
set_option maxHeartbeats 4000000 in
set_option maxRecDepth 100000 in
theorem qX5_beginOffset {l : Launch} {w : am_W} {h : am_H} {n : Nat} {ρ : Nat → List (BitVec 8)} {β : Nat → bP} {κ : Nat → kT} {τ : Nat × Nat × Nat} (S : Sys h ρ β κ τ) (hn : 60 ≤ n) (mI : Int32) (hk : kOk (κ 16)) (hl : (ρ 6).length ≤ 15) : RH l w mX5_beginOffset h n [.ref 51, .int mI] (SX h τ none ρ (ub β 55 (bgO (eK (κ 16)) (ρ 6) mI)) κ [57]) := by
  refine RC.of [(0, .ref 51), (1, .int mI)] (by decide +kernel) rfl (Nat.le_of_ble_eq_true rfl) ?_
  refine R_aload_n (pc := 0) 0 dX5_beginOffset_0 rfl rfl ?_
  refine R_get (pc := 1) dX5_beginOffset_1 fX5_39 S.2.2.2.2.2.2.2.2.2.1 (by omega) rfl ?_
  refine R_lconst (pc := 4) (v := 0) dX5_beginOffset_4 (by decide) ?_
  refine R_lconst (pc := 5) (v := 0) dX5_beginOffset_5 (by decide) ?_
  refine R_callVh (pc := 6) (μ' := mX0_become) (As := [.long 0, .long 0]) (st := []) dX5_beginOffset_6 zX0_become lX5_45 ⟨by decide, by decide⟩ rfl rfl ⟨by decide, by decide⟩ (S.blk 57 rfl) (by omega) rfl (Nat.le_of_ble_eq_true rfl) (S_become S hn rfl _ _) (fun h_1 r_ q_2 => ?_)
  obtain ⟨rfl, S_3, F_5⟩ := q_2
  have S_4 : Sys h_1 ρ (ub β 57 (0, 0)) κ τ := S_3
  refine R_aload_n (pc := 9) 0 dX5_beginOffset_9 rfl rfl ?_
  refine R_get (pc := 10) dX5_beginOffset_10 fX5_39 S_4.2.2.2.2.2.2.2.2.2.1 (by omega) rfl ?_
  refine R_iconst (pc := 13) (v := 0) dX5_beginOffset_13 (by decide) ?_
  refine R_bipush (pc := 14) (v := 8) dX5_beginOffset_14 (by decide) ?_
  refine R_iload_n (pc := 16) 1 dX5_beginOffset_16 rfl rfl ?_
  refine R_imul (pc := 17) dX5_beginOffset_17 ?_
  refine R_bipush (pc := 18) (v := 127) dX5_beginOffset_18 (by decide) ?_
  refine R_iand (pc := 20) dX5_beginOffset_20 ?_
  refine R_iconst (pc := 21) (v := 1) dX5_beginOffset_21 (by decide) ?_
  refine R_ishl (pc := 22) dX5_beginOffset_22 ?_
  refine R_callVh (pc := 23) (μ' := mX0_addOctet) (As := [.int 0, .int (((8 * mI) &&& 127) <<< (1 &&& 31))]) (st := []) dX5_beginOffset_23 zX0_addOctet lX5_98 ⟨by decide, by decide⟩ rfl rfl ⟨by decide, by decide⟩ (S_4.blk 57 rfl) (by omega) rfl (Nat.le_of_ble_eq_true rfl) (S_addOctet S_4 hn rfl _ _) (fun h_6 r_ q_7 => ?_)
  obtain ⟨rfl, S_8, F_10⟩ := q_7
  have S_9 : Sys h_6 ρ (ub (ub β 57 (0, 0)) 57 (aoc (0, 0) 0 (((8 * mI) &&& 127) <<< (1 &&& 31)))) κ τ := S_8
  refine R_aload_n (pc := 26) 0 dX5_beginOffset_26 rfl rfl ?_
  refine R_get (pc := 27) dX5_beginOffset_27 fX5_39 S_9.2.2.2.2.2.2.2.2.2.1 (by omega) rfl ?_
  refine R_bipush (pc := 30) (v := 15) dX5_beginOffset_30 (by decide) ?_
  refine R_aload_n (pc := 32) 0 dX5_beginOffset_32 rfl rfl ?_
  refine R_get (pc := 33) dX5_beginOffset_33 fX5_13 S_9.2.2.2.2.2.2.2.2.2.1 (by omega) rfl ?_
  skip
  refine R_get (pc := 36) dX5_beginOffset_36 fX5_65 (S_9.rowO 6 rfl) (by omega) rfl ?_
  refine R_eqi (y := nI (ρ 6).length) (by first | rfl | (simp only [ur_s, ur_ur])) ?_
  refine R_isub (pc := 39) dX5_beginOffset_39 ?_
  refine R_eqi (y := nI (15 - (ρ 6).length)) (pk_sub (a := 15) (by omega)) ?_
  refine R_iconst (pc := 40) (v := 1) dX5_beginOffset_40 (by decide) ?_
  refine R_callVh (pc := 41) (μ' := mX0_addOctet) (As := [.int (nI (15 - (ρ 6).length)), .int 1]) (st := []) dX5_beginOffset_41 zX0_addOctet lX5_98 ⟨by decide, by decide⟩ rfl rfl ⟨by decide, by decide⟩ (S_9.blk 57 rfl) (by omega) rfl (Nat.le_of_ble_eq_true rfl) (S_addOctet S_9 hn rfl _ _) (fun h_11 r_ q_12 => ?_)
  obtain ⟨rfl, S_13, F_15⟩ := q_12
  have S_14 : Sys h_11 ρ (ub (ub (ub β 57 (0, 0)) 57 (aoc (0, 0) 0 (((8 * mI) &&& 127) <<< (1 &&& 31)))) 57 (aoc (aoc (0, 0) 0 (((8 * mI) &&& 127) <<< (1 &&& 31))) (nI (15 - (ρ 6).length)) 1)) κ τ := S_13
  refine R_iconst (pc := 44) (v := 0) dX5_beginOffset_44 (by decide) ?_
  refine R_istore_n (pc := 45) (lv' := [(2, .int 0), (0, .ref 51), (1, .int mI)]) dX5_beginOffset_45 rfl (by decide) rfl ?_
  refine R_sub [0, 1, 2] rfl ?_
  refine qX5_beginOffset_loop S hn mI hk hl ?_ (ρ 6).length 0 (by omega) h_11 (ub (ub (ub β 57 (0, 0)) 57 (aoc (0, 0) 0 (((8 * mI) &&& 127) <<< (1 &&& 31)))) 57 (aoc (aoc (0, 0) 0 (((8 * mI) &&& 127) <<< (1 &&& 31))) (nI (15 - (ρ 6).length)) 1)) S_14 rfl (fun a_ n_ => ?_) ((F_5.tr F_10).tr F_15)
  · intro h2 β2 S2 hv57 hB hF
    have hv57 : β2 57 = bgN (ρ 6) mI := hv57
    have S_16 : Sys h2 ρ (ub β2 57 (bgN (ρ 6) mI)) κ τ := Sys.know S2 (hv57)
    refine R_aload_n (pc := 90) 1 dX5_beginOffset_90 rfl rfl ?_
    refine R_get (pc := 91) dX5_beginOffset_91 fX5_39 S_16.2.2.2.2.2.2.2.2.2.1 (by omega) rfl ?_
    skip
    refine R_get (pc := 94) dX5_beginOffset_94 fX5_106 (S_16.blk 57 rfl) (by omega) rfl ?_
    refine R_eql (y := (bgN (ρ 6) mI).2) rfl ?_
    refine R_l2i (pc := 97) (v := ((bgN (ρ 6) mI).2).toInt32) dX5_beginOffset_97 rfl ?_
    refine R_bipush (pc := 98) (v := 63) dX5_beginOffset_98 (by decide) ?_
    refine R_iand (pc := 100) dX5_beginOffset_100 ?_
    refine R_istore_n (pc := 101) (lv' := [(2, .int ((((bgN (ρ 6) mI).2).toInt32) &&& 63)), (0, .ref 51), (1, .int mI)]) dX5_beginOffset_101 rfl (by decide) rfl ?_
    refine R_aload_n (pc := 102) 1 dX5_beginOffset_102 rfl rfl ?_
    refine R_get (pc := 103) dX5_beginOffset_103 fX5_39 S_16.2.2.2.2.2.2.2.2.2.1 (by omega) rfl ?_
    refine R_dup (pc := 106) dX5_beginOffset_106 rfl ?_
    skip
    refine R_get (pc := 107) dX5_beginOffset_107 fX5_106 (S_16.blk 57 rfl) (by omega) rfl ?_
    refine R_eql (y := (bgN (ρ 6) mI).2) rfl ?_
    refine R_ldc2 (pc := 110) dX5_beginOffset_110 cX5_110 ?_
    refine R_land (pc := 113) dX5_beginOffset_113 ?_
    refine R_put' (pc := 114) (fs' := [.long ((bgN (ρ 6) mI).1), .long (((bgN (ρ 6) mI).2) &&& (-64 : Int64))]) dX5_beginOffset_114 fX5_106 tX0_1 rfl rfl (S_16.blk 57 rfl) (by omega) (Nat.le_of_ble_eq_true rfl) rfl (fun h_17 f_18 g_19 => ?_)
    have S_20 : Sys h_17 ρ (ub (ub β2 57 (bgN (ρ 6) mI)) 57 ((bgN (ρ 6) mI).1, ((bgN (ρ 6) mI).2) &&& (-64 : Int64))) κ τ := S_16.setB rfl f_18 g_19
    have F_21 := frB (a := 57) rfl g_19
    refine R_aload_n (pc := 117) 1 dX5_beginOffset_117 rfl rfl ?_
    refine R_get (pc := 118) dX5_beginOffset_118 fX5_7 S_20.2.2.2.2.2.2.2.2.2.1 (by omega) rfl ?_
    refine R_aload_n (pc := 121) 1 dX5_beginOffset_121 rfl rfl ?_
    refine R_get (pc := 122) dX5_beginOffset_122 fX5_39 S_20.2.2.2.2.2.2.2.2.2.1 (by omega) rfl ?_
    refine R_callVh (pc := 125) (μ' := mX2_encrypt) (As := [.ref 57]) (st := []) dX5_beginOffset_125 zX2_encrypt lX5_49 ⟨by decide, by decide⟩ rfl rfl ⟨by decide, by decide⟩ (S_20.2.2.1 16 (by decide)).1 (by omega) rfl (Nat.le_of_ble_eq_true rfl) (S_encrypt S_20 hn (by decide) rfl hk.1 hk.2) (fun h_22 r_ q_23 => ?_)
    obtain ⟨rfl, S_24, F_26⟩ := q_23
    have S_25 : Sys h_22 ρ (ub (ub (ub β2 57 (bgN (ρ 6) mI)) 57 ((bgN (ρ 6) mI).1, ((bgN (ρ 6) mI).2) &&& (-64 : Int64))) 57 (eK (κ 16) ((bgN (ρ 6) mI).1, ((bgN (ρ 6) mI).2) &&& (-64 : Int64)))) κ τ := S_24
    refine R_aload_n (pc := 128) 1 dX5_beginOffset_128 rfl rfl ?_
    refine R_get (pc := 129) dX5_beginOffset_129 fX5_39 S_25.2.2.2.2.2.2.2.2.2.1 (by omega) rfl ?_
    skip
    refine R_get (pc := 132) dX5_beginOffset_132 fX5_112 (S_25.blk 57 rfl) (by omega) rfl ?_
    refine R_eql (y := (eK (κ 16) ((bgN (ρ 6) mI).1, ((bgN (ρ 6) mI).2) &&& (-64 : Int64))).1) rfl ?_
    refine R_aload_n (pc := 135) 1 dX5_beginOffset_135 rfl rfl ?_
    refine R_get (pc := 136) dX5_beginOffset_136 fX5_39 S_25.2.2.2.2.2.2.2.2.2.1 (by omega) rfl ?_
    skip
    refine R_get (pc := 139) dX5_beginOffset_139 fX5_112 (S_25.blk 57 rfl) (by omega) rfl ?_
    refine R_eql (y := (eK (κ 16) ((bgN (ρ 6) mI).1, ((bgN (ρ 6) mI).2) &&& (-64 : Int64))).1) rfl ?_
    refine R_bipush (pc := 142) (v := 8) dX5_beginOffset_142 (by decide) ?_
    refine R_lshl (pc := 144) (v := jlshl ((eK (κ 16) ((bgN (ρ 6) mI).1, ((bgN (ρ 6) mI).2) &&& (-64 : Int64))).1) 8) dX5_beginOffset_144 rfl ?_
    refine R_aload_n (pc := 145) 1 dX5_beginOffset_145 rfl rfl ?_
    refine R_get (pc := 146) dX5_beginOffset_146 fX5_39 S_25.2.2.2.2.2.2.2.2.2.1 (by omega) rfl ?_
    skip
    refine R_get (pc := 149) dX5_beginOffset_149 fX5_106 (S_25.blk 57 rfl) (by omega) rfl ?_
    refine R_eql (y := (eK (κ 16) ((bgN (ρ 6) mI).1, ((bgN (ρ 6) mI).2) &&& (-64 : Int64))).2) rfl ?_
    refine R_bipush (pc := 152) (v := 56) dX5_beginOffset_152 (by decide) ?_
    refine R_lushr (pc := 154) (v := jlushr ((eK (κ 16) ((bgN (ρ 6) mI).1, ((bgN (ρ 6) mI).2) &&& (-64 : Int64))).2) 56) dX5_beginOffset_154 rfl ?_
    refine R_lor (pc := 155) dX5_beginOffset_155 ?_
    refine R_lxor (pc := 156) dX5_beginOffset_156 ?_
    refine R_lstore_n (pc := 157) (lv' := [(3, .long (((eK (κ 16) ((bgN (ρ 6) mI).1, ((bgN (ρ 6) mI).2) &&& (-64 : Int64))).1) ^^^ ((jlshl ((eK (κ 16) ((bgN (ρ 6) mI).1, ((bgN (ρ 6) mI).2) &&& (-64 : Int64))).1) 8) ||| (jlushr ((eK (κ 16) ((bgN (ρ 6) mI).1, ((bgN (ρ 6) mI).2) &&& (-64 : Int64))).2) 56)))), (2, .int ((((bgN (ρ 6) mI).2).toInt32) &&& 63)), (0, .ref 51), (1, .int mI)]) dX5_beginOffset_157 rfl (by decide) rfl ?_
    refine R_aload_n (pc := 158) 2 dX5_beginOffset_158 rfl rfl ?_
    refine R_get (pc := 159) dX5_beginOffset_159 fX5_33 S_25.2.2.2.2.2.2.2.2.2.1 (by omega) rfl ?_
    refine R_aload_n (pc := 162) 2 dX5_beginOffset_162 rfl rfl ?_
    refine R_get (pc := 163) dX5_beginOffset_163 fX5_39 S_25.2.2.2.2.2.2.2.2.2.1 (by omega) rfl ?_
    skip
    refine R_get (pc := 166) dX5_beginOffset_166 fX5_112 (S_25.blk 57 rfl) (by omega) rfl ?_
    refine R_eql (y := (eK (κ 16) ((bgN (ρ 6) mI).1, ((bgN (ρ 6) mI).2) &&& (-64 : Int64))).1) rfl ?_
    refine R_aload_n (pc := 169) 2 dX5_beginOffset_169 rfl rfl ?_
    refine R_get (pc := 170) dX5_beginOffset_170 fX5_39 S_25.2.2.2.2.2.2.2.2.2.1 (by omega) rfl ?_
    skip
    refine R_get (pc := 173) dX5_beginOffset_173 fX5_106 (S_25.blk 57 rfl) (by omega) rfl ?_
    refine R_eql (y := (eK (κ 16) ((bgN (ρ 6) mI).1, ((bgN (ρ 6) mI).2) &&& (-64 : Int64))).2) rfl ?_
    refine R_iload_n (pc := 176) 1 dX5_beginOffset_176 rfl rfl ?_
    refine R_callSp (pc := 177) (μ' := mX5_window) (As := [.long ((eK (κ 16) ((bgN (ρ 6) mI).1, ((bgN (ρ 6) mI).2) &&& (-64 : Int64))).1), .long ((eK (κ 16) ((bgN (ρ 6) mI).1, ((bgN (ρ 6) mI).2) &&& (-64 : Int64))).2), .int ((((bgN (ρ 6) mI).2).toInt32) &&& 63)]) (st := [.ref 55]) dX5_beginOffset_177 zX5_window lX5_115 ⟨by decide, by decide⟩ rfl rfl ⟨by decide, by decide⟩ rfl (Nat.le_of_ble_eq_true rfl) (qX5_window l w _ _ _ _ _) ?_
    refine R_aload_n (pc := 180) 2 dX5_beginOffset_180 rfl rfl ?_
    refine R_get (pc := 181) dX5_beginOffset_181 fX5_39 S_25.2.2.2.2.2.2.2.2.2.1 (by omega) rfl ?_
    skip
    refine R_get (pc := 184) dX5_beginOffset_184 fX5_106 (S_25.blk 57 rfl) (by omega) rfl ?_
    refine R_eql (y := (eK (κ 16) ((bgN (ρ 6) mI).1, ((bgN (ρ 6) mI).2) &&& (-64 : Int64))).2) rfl ?_
    refine R_lload_n (pc := 187) 0 dX5_beginOffset_187 rfl rfl ?_
    refine R_iload_n (pc := 188) 1 dX5_beginOffset_188 rfl rfl ?_
    refine R_callSp (pc := 189) (μ' := mX5_window) (As := [.long ((eK (κ 16) ((bgN (ρ 6) mI).1, ((bgN (ρ 6) mI).2) &&& (-64 : Int64))).2), .long (((eK (κ 16) ((bgN (ρ 6) mI).1, ((bgN (ρ 6) mI).2) &&& (-64 : Int64))).1) ^^^ ((jlshl ((eK (κ 16) ((bgN (ρ 6) mI).1, ((bgN (ρ 6) mI).2) &&& (-64 : Int64))).1) 8) ||| (jlushr ((eK (κ 16) ((bgN (ρ 6) mI).1, ((bgN (ρ 6) mI).2) &&& (-64 : Int64))).2) 56))), .int ((((bgN (ρ 6) mI).2).toInt32) &&& 63)]) (st := [.long (win ((eK (κ 16) ((bgN (ρ 6) mI).1, ((bgN (ρ 6) mI).2) &&& (-64 : Int64))).1) ((eK (κ 16) ((bgN (ρ 6) mI).1, ((bgN (ρ 6) mI).2) &&& (-64 : Int64))).2) ((((bgN (ρ 6) mI).2).toInt32) &&& 63)), .ref 55]) dX5_beginOffset_189 zX5_window lX5_115 ⟨by decide, by decide⟩ rfl rfl ⟨by decide, by decide⟩ rfl (Nat.le_of_ble_eq_true rfl) (qX5_window l w _ _ _ _ _) ?_
    refine R_callVh (pc := 192) (μ' := mX0_become) (As := [.long (win ((eK (κ 16) ((bgN (ρ 6) mI).1, ((bgN (ρ 6) mI).2) &&& (-64 : Int64))).1) ((eK (κ 16) ((bgN (ρ 6) mI).1, ((bgN (ρ 6) mI).2) &&& (-64 : Int64))).2) ((((bgN (ρ 6) mI).2).toInt32) &&& 63)), .long (win ((eK (κ 16) ((bgN (ρ 6) mI).1, ((bgN (ρ 6) mI).2) &&& (-64 : Int64))).2) (((eK (κ 16) ((bgN (ρ 6) mI).1, ((bgN (ρ 6) mI).2) &&& (-64 : Int64))).1) ^^^ ((jlshl ((eK (κ 16) ((bgN (ρ 6) mI).1, ((bgN (ρ 6) mI).2) &&& (-64 : Int64))).1) 8) ||| (jlushr ((eK (κ 16) ((bgN (ρ 6) mI).1, ((bgN (ρ 6) mI).2) &&& (-64 : Int64))).2) 56))) ((((bgN (ρ 6) mI).2).toInt32) &&& 63))]) (st := []) dX5_beginOffset_192 zX0_become lX5_45 ⟨by decide, by decide⟩ rfl rfl ⟨by decide, by decide⟩ (S_25.blk 55 rfl) (by omega) rfl (Nat.le_of_ble_eq_true rfl) (S_become S_25 hn rfl _ _) (fun h_27 r_ q_28 => ?_)
    obtain ⟨rfl, S_29, F_31⟩ := q_28
    have S_30 : Sys h_27 ρ (ub (ub (ub (ub β2 57 (bgN (ρ 6) mI)) 57 ((bgN (ρ 6) mI).1, ((bgN (ρ 6) mI).2) &&& (-64 : Int64))) 57 (eK (κ 16) ((bgN (ρ 6) mI).1, ((bgN (ρ 6) mI).2) &&& (-64 : Int64)))) 55 (win ((eK (κ 16) ((bgN (ρ 6) mI).1, ((bgN (ρ 6) mI).2) &&& (-64 : Int64))).1) ((eK (κ 16) ((bgN (ρ 6) mI).1, ((bgN (ρ 6) mI).2) &&& (-64 : Int64))).2) ((((bgN (ρ 6) mI).2).toInt32) &&& 63), win ((eK (κ 16) ((bgN (ρ 6) mI).1, ((bgN (ρ 6) mI).2) &&& (-64 : Int64))).2) (((eK (κ 16) ((bgN (ρ 6) mI).1, ((bgN (ρ 6) mI).2) &&& (-64 : Int64))).1) ^^^ ((jlshl ((eK (κ 16) ((bgN (ρ 6) mI).1, ((bgN (ρ 6) mI).2) &&& (-64 : Int64))).1) 8) ||| (jlushr ((eK (κ 16) ((bgN (ρ 6) mI).1, ((bgN (ρ 6) mI).2) &&& (-64 : Int64))).2) 56))) ((((bgN (ρ 6) mI).2).toInt32) &&& 63))) κ τ := S_29
    refine R_vreturn (pc := 195) dX5_beginOffset_195 rfl (by decide) (by decide) ⟨rfl, (ub (ub (ub (ub β2 57 (bgN (ρ 6) mI)) 57 ((bgN (ρ 6) mI).1, ((bgN (ρ 6) mI).2) &&& (-64 : Int64))) 57 (eK (κ 16) ((bgN (ρ 6) mI).1, ((bgN (ρ 6) mI).2) &&& (-64 : Int64)))) 55 (win ((eK (κ 16) ((bgN (ρ 6) mI).1, ((bgN (ρ 6) mI).2) &&& (-64 : Int64))).1) ((eK (κ 16) ((bgN (ρ 6) mI).1, ((bgN (ρ 6) mI).2) &&& (-64 : Int64))).2) ((((bgN (ρ 6) mI).2).toInt32) &&& 63), win ((eK (κ 16) ((bgN (ρ 6) mI).1, ((bgN (ρ 6) mI).2) &&& (-64 : Int64))).2) (((eK (κ 16) ((bgN (ρ 6) mI).1, ((bgN (ρ 6) mI).2) &&& (-64 : Int64))).1) ^^^ ((jlshl ((eK (κ 16) ((bgN (ρ 6) mI).1, ((bgN (ρ 6) mI).2) &&& (-64 : Int64))).1) 8) ||| (jlushr ((eK (κ 16) ((bgN (ρ 6) mI).1, ((bgN (ρ 6) mI).2) &&& (-64 : Int64))).2) 56))) ((((bgN (ρ 6) mI).2).toInt32) &&& 63))), ?_, rfl, S_30, (((hF.tr F_21).tr F_26).tr F_31)⟩
    intro a_ n_
    simp only [List.mem_cons, List.not_mem_nil, or_false, not_or] at n_
    by_cases e0_ : a_ = 55
    · subst e0_; first | rfl | (simp only [ub_s]; done) | (simp (config := { decide := true }) only [ub, if_true, if_false, reduceIte]; first | rfl | skip)
    (try simp only [ub, if_neg, if_false, n_, e0_])
    (try simp only [ub_k])
    (try rw [hB a_ (by simp [n_, e0_])])
    (try simp only [ub, if_neg, if_false, n_, e0_])
    (try simp only [ub_k])
  · simp only [List.mem_cons, List.not_mem_nil, or_false, not_or] at n_; (try simp only [ub, if_neg, n_, if_false])
/-- a PART: offset, octets, sum -/
def opO (star o : bP) : bP := xb o star
def opB (F : bP → bP) (L : List (BitVec 8)) (star o : bP) : bP := xb (rd L (16 * (L.length / 16))) (kf (F (opO star o)) (nI (L.length % 16)))
def opT (F : bP → bP) (op : Bool) (L : List (BitVec 8)) (star o s : bP) : bP := aoc (if op then xb s (opB F L star o) else xb s (rd L (16 * (L.length / 16)))) (nI (L.length % 16)) 128
set_option maxHeartbeats 4000000 in
set_option maxRecDepth 100000 in
theorem qX5_runPart_L {l : Launch} {w : am_W} {h : am_H} {n : Nat} {ρ : Nat → List (BitVec 8)} {β : Nat → bP} {κ : Nat → kT} {τ : Nat × Nat × Nat} (S : Sys h ρ β κ τ) (hn : 60 ≤ n) {t m : Nat} (ht : isRw t = true) (hm : isRw m = true) (htm : t ≠ m) (op : Int32) (hop : op = 0) (hk : kOk (κ 16)) (hr : (ρ m).length + (ρ t).length % 16 ≤ rwN m) : RH l w mX5_runPart h n [.ref 51, .ref t, .int op, .ref m] (SX h τ none (ur ρ m (ρ m ++ bt (opB (eK (κ 16)) (ρ t) (β 52) (β 55)) ((ρ t).length % 16))) (ub (ub β 55 (opO (β 52) (β 55))) 56 (opT (eK (κ 16)) false (ρ t) (β 52) (β 55) (β 56))) κ [57, 58]) := by
  refine RC.of [(0, .ref 51), (1, .ref t), (2, .int op), (3, .ref m)] (by decide +kernel) rfl (Nat.le_of_ble_eq_true rfl) ?_
  have hlt := S.len t ht
  have htc := rw_cases ht
  have hlm := S.len m hm
  have hmc := rw_cases hm
  refine R_aload_n (pc := 0) 1 dX5_runPart_0 rfl rfl ?_
  have := rw_cases (r := t) ht
  refine R_get (pc := 1) dX5_runPart_1 fX5_65 (S.rowO t ht) (by omega) rfl ?_
  refine R_eqi (y := nI (ρ t).length) (by first | rfl | (simp only [ur_s, ur_ur])) ?_
  refine R_bipush (pc := 4) (v := 15) dX5_runPart_4 (by decide) ?_
  refine R_iand (pc := 6) dX5_runPart_6 ?_
  refine R_eqi (y := nI ((ρ t).length % 16)) (pk_andN (by omega) 4 (by decide)) ?_
  refine R_istore (pc := 7) (lv' := [(4, .int (nI ((ρ t).length % 16))), (0, .ref 51), (1, .ref t), (2, .int op), (3, .ref m)]) dX5_runPart_7 (by decide) rfl ?_
  refine R_aload_n (pc := 9) 1 dX5_runPart_9 rfl rfl ?_
  refine R_get (pc := 10) dX5_runPart_10 fX5_33 S.2.2.2.2.2.2.2.2.2.1 (by omega) rfl ?_
  refine R_aload_n (pc := 13) 1 dX5_runPart_13 rfl rfl ?_
  refine R_get (pc := 14) dX5_runPart_14 fX5_23 S.2.2.2.2.2.2.2.2.2.1 (by omega) rfl ?_
  refine R_callVh (pc := 17) (μ' := mX0_add) (As := [.ref 52]) (st := []) dX5_runPart_17 zX0_add lX5_92 ⟨by decide, by decide⟩ rfl rfl ⟨by decide, by decide⟩ (S.blk 55 rfl) (by omega) rfl (Nat.le_of_ble_eq_true rfl) (S_add S hn rfl rfl (by decide)) (fun h_1 r_ q_2 => ?_)
  obtain ⟨rfl, S_3, F_5⟩ := q_2
  have S_4 : Sys h_1 ρ (ub β 55 (xb (β 55) (β 52))) κ τ := S_3
  refine R_aload_n (pc := 20) 1 dX5_runPart_20 rfl rfl ?_
  refine R_get (pc := 21) dX5_runPart_21 fX5_42 S_4.2.2.2.2.2.2.2.2.2.1 (by omega) rfl ?_
  refine R_aload_n (pc := 24) 1 dX5_runPart_24 rfl rfl ?_
  refine R_get (pc := 25) dX5_runPart_25 fX5_33 S_4.2.2.2.2.2.2.2.2.2.1 (by omega) rfl ?_
  refine R_callVh (pc := 28) (μ' := mX0_copy) (As := [.ref 55]) (st := []) dX5_runPart_28 zX0_copy lX5_55 ⟨by decide, by decide⟩ rfl rfl ⟨by decide, by decide⟩ (S_4.blk 58 rfl) (by omega) rfl (Nat.le_of_ble_eq_true rfl) (S_copy S_4 hn rfl rfl (by decide)) (fun h_6 r_ q_7 => ?_)
  obtain ⟨rfl, S_8, F_10⟩ := q_7
  have S_9 : Sys h_6 ρ (ub (ub β 55 (xb (β 55) (β 52))) 58 (xb (β 55) (β 52))) κ τ := S_8
  refine R_aload_n (pc := 31) 1 dX5_runPart_31 rfl rfl ?_
  refine R_get (pc := 32) dX5_runPart_32 fX5_7 S_9.2.2.2.2.2.2.2.2.2.1 (by omega) rfl ?_
  refine R_aload_n (pc := 35) 1 dX5_runPart_35 rfl rfl ?_
  refine R_get (pc := 36) dX5_runPart_36 fX5_42 S_9.2.2.2.2.2.2.2.2.2.1 (by omega) rfl ?_
  refine R_callVh (pc := 39) (μ' := mX2_encrypt) (As := [.ref 58]) (st := []) dX5_runPart_39 zX2_encrypt lX5_49 ⟨by decide, by decide⟩ rfl rfl ⟨by decide, by decide⟩ (S_9.2.2.1 16 (by decide)).1 (by omega) rfl (Nat.le_of_ble_eq_true rfl) (S_encrypt S_9 hn (by decide) rfl hk.1 hk.2) (fun h_11 r_ q_12 => ?_)
  obtain ⟨rfl, S_13, F_15⟩ := q_12
  have S_14 : Sys h_11 ρ (ub (ub (ub β 55 (xb (β 55) (β 52))) 58 (xb (β 55) (β 52))) 58 (eK (κ 16) (xb (β 55) (β 52)))) κ τ := S_13
  refine R_aload_n (pc := 42) 1 dX5_runPart_42 rfl rfl ?_
  refine R_get (pc := 43) dX5_runPart_43 fX5_42 S_14.2.2.2.2.2.2.2.2.2.1 (by omega) rfl ?_
  refine R_iload (pc := 46) 0 dX5_runPart_46 rfl ?_
  refine R_callVh (pc := 48) (μ' := mX0_keepFirst) (As := [.int (nI ((ρ t).length % 16))]) (st := []) dX5_runPart_48 zX0_keepFirst lX5_122 ⟨by decide, by decide⟩ rfl rfl ⟨by decide, by decide⟩ (S_14.blk 58 rfl) (by omega) rfl (Nat.le_of_ble_eq_true rfl) (S_keepFirst S_14 hn rfl _) (fun h_16 r_ q_17 => ?_)
  obtain ⟨rfl, S_18, F_20⟩ := q_17
  have S_19 : Sys h_16 ρ (ub (ub (ub (ub β 55 (xb (β 55) (β 52))) 58 (xb (β 55) (β 52))) 58 (eK (κ 16) (xb (β 55) (β 52)))) 58 (kf (eK (κ 16) (xb (β 55) (β 52))) (nI ((ρ t).length % 16)))) κ τ := S_18
  refine R_aload_n (pc := 51) 1 dX5_runPart_51 rfl rfl ?_
  refine R_get (pc := 52) dX5_runPart_52 fX5_39 S_19.2.2.2.2.2.2.2.2.2.1 (by omega) rfl ?_
  refine R_aload_n (pc := 55) 2 dX5_runPart_55 rfl rfl ?_
  refine R_aload_n (pc := 56) 2 dX5_runPart_56 rfl rfl ?_
  have := rw_cases (r := t) ht
  refine R_get (pc := 57) dX5_runPart_57 fX5_65 (S_19.rowO t ht) (by omega) rfl ?_
  refine R_eqi (y := nI (ρ t).length) (by first | rfl | (simp only [ur_s, ur_ur])) ?_
  refine R_iload (pc := 60) 0 dX5_runPart_60 rfl ?_
  refine R_isub (pc := 62) dX5_runPart_62 ?_
  refine R_eqi (y := nI (16 * ((ρ t).length / 16))) ((pk_sub (by omega)).trans (by rw [show (ρ t).length - (ρ t).length % 16 = 16 * ((ρ t).length / 16) by omega])) ?_
  refine R_callVh (pc := 63) (μ' := mX0_read) (As := [.ref t, .int (nI (16 * ((ρ t).length / 16)))]) (st := []) dX5_runPart_63 zX0_read lX5_74 ⟨by decide, by decide⟩ rfl rfl ⟨by decide, by decide⟩ (S_19.blk 57 rfl) (by omega) rfl (Nat.le_of_ble_eq_true rfl) (S_read S_19 hn rfl ht (16 * ((ρ t).length / 16)) (by omega)) (fun h_21 r_ q_22 => ?_)
  obtain ⟨rfl, S_23, F_25⟩ := q_22
  have S_24 : Sys h_21 ρ (ub (ub (ub (ub (ub β 55 (xb (β 55) (β 52))) 58 (xb (β 55) (β 52))) 58 (eK (κ 16) (xb (β 55) (β 52)))) 58 (kf (eK (κ 16) (xb (β 55) (β 52))) (nI ((ρ t).length % 16)))) 57 (rd (ρ t) (16 * ((ρ t).length / 16)))) κ τ := S_23
  refine R_iload_n (pc := 66) 3 dX5_runPart_66 rfl rfl ?_
  refine R_if_ne (pc := 67) (tgt := 81) dX5_runPart_67 (by decide) (fun c_26 => absurd (hop) c_26) (fun c_26 => ?_)
  refine R_aload_n (pc := 70) 1 dX5_runPart_70 rfl rfl ?_
  refine R_get (pc := 71) dX5_runPart_71 fX5_36 S_24.2.2.2.2.2.2.2.2.2.1 (by omega) rfl ?_
  refine R_aload_n (pc := 74) 1 dX5_runPart_74 rfl rfl ?_
  refine R_get (pc := 75) dX5_runPart_75 fX5_39 S_24.2.2.2.2.2.2.2.2.2.1 (by omega) rfl ?_
  refine R_callVh (pc := 78) (μ' := mX0_add) (As := [.ref 57]) (st := []) dX5_runPart_78 zX0_add lX5_92 ⟨by decide, by decide⟩ rfl rfl ⟨by decide, by decide⟩ (S_24.blk 56 rfl) (by omega) rfl (Nat.le_of_ble_eq_true rfl) (S_add S_24 hn rfl rfl (by decide)) (fun h_27 r_ q_28 => ?_)
  obtain ⟨rfl, S_29, F_31⟩ := q_28
  have S_30 : Sys h_27 ρ (ub (ub (ub (ub (ub (ub β 55 (xb (β 55) (β 52))) 58 (xb (β 55) (β 52))) 58 (eK (κ 16) (xb (β 55) (β 52)))) 58 (kf (eK (κ 16) (xb (β 55) (β 52))) (nI ((ρ t).length % 16)))) 57 (rd (ρ t) (16 * ((ρ t).length / 16)))) 56 (xb (β 56) (rd (ρ t) (16 * ((ρ t).length / 16))))) κ τ := S_29
  refine R_aload_n (pc := 81) 1 dX5_runPart_81 rfl rfl ?_
  refine R_get (pc := 82) dX5_runPart_82 fX5_39 S_30.2.2.2.2.2.2.2.2.2.1 (by omega) rfl ?_
  refine R_aload_n (pc := 85) 1 dX5_runPart_85 rfl rfl ?_
  refine R_get (pc := 86) dX5_runPart_86 fX5_42 S_30.2.2.2.2.2.2.2.2.2.1 (by omega) rfl ?_
  refine R_callVh (pc := 89) (μ' := mX0_add) (As := [.ref 58]) (st := []) dX5_runPart_89 zX0_add lX5_92 ⟨by decide, by decide⟩ rfl rfl ⟨by decide, by decide⟩ (S_30.blk 57 rfl) (by omega) rfl (Nat.le_of_ble_eq_true rfl) (S_add S_30 hn rfl rfl (by decide)) (fun h_32 r_ q_33 => ?_)
  obtain ⟨rfl, S_34, F_36⟩ := q_33
  have S_35 : Sys h_32 ρ (ub (ub (ub (ub (ub (ub (ub β 55 (xb (β 55) (β 52))) 58 (xb (β 55) (β 52))) 58 (eK (κ 16) (xb (β 55) (β 52)))) 58 (kf (eK (κ 16) (xb (β 55) (β 52))) (nI ((ρ t).length % 16)))) 57 (rd (ρ t) (16 * ((ρ t).length / 16)))) 56 (xb (β 56) (rd (ρ t) (16 * ((ρ t).length / 16))))) 57 (xb (rd (ρ t) (16 * ((ρ t).length / 16))) (kf (eK (κ 16) (xb (β 55) (β 52))) (nI ((ρ t).length % 16))))) κ τ := S_34
  refine R_iload_n (pc := 92) 3 dX5_runPart_92 rfl rfl ?_
  refine R_if_eq (pc := 93) (tgt := 107) dX5_runPart_93 (by decide) (fun c_37 => ?_) (fun c_37 => absurd (hop) c_37)
  refine R_aload_n (pc := 107) 1 dX5_runPart_107 rfl rfl ?_
  refine R_get (pc := 108) dX5_runPart_108 fX5_36 S_35.2.2.2.2.2.2.2.2.2.1 (by omega) rfl ?_
  refine R_iload (pc := 111) 0 dX5_runPart_111 rfl ?_
  refine R_sipush (pc := 113) (v := 128) dX5_runPart_113 (by decide) ?_
  refine R_callVh (pc := 116) (μ' := mX0_addOctet) (As := [.int (nI ((ρ t).length % 16)), .int 128]) (st := []) dX5_runPart_116 zX0_addOctet lX5_98 ⟨by decide, by decide⟩ rfl rfl ⟨by decide, by decide⟩ (S_35.blk 56 rfl) (by omega) rfl (Nat.le_of_ble_eq_true rfl) (S_addOctet S_35 hn rfl _ _) (fun h_38 r_ q_39 => ?_)
  obtain ⟨rfl, S_40, F_42⟩ := q_39
  have S_41 : Sys h_38 ρ (ub (ub (ub (ub (ub (ub (ub (ub β 55 (xb (β 55) (β 52))) 58 (xb (β 55) (β 52))) 58 (eK (κ 16) (xb (β 55) (β 52)))) 58 (kf (eK (κ 16) (xb (β 55) (β 52))) (nI ((ρ t).length % 16)))) 57 (rd (ρ t) (16 * ((ρ t).length / 16)))) 56 (xb (β 56) (rd (ρ t) (16 * ((ρ t).length / 16))))) 57 (xb (rd (ρ t) (16 * ((ρ t).length / 16))) (kf (eK (κ 16) (xb (β 55) (β 52))) (nI ((ρ t).length % 16))))) 56 (aoc (xb (β 56) (rd (ρ t) (16 * ((ρ t).length / 16)))) (nI ((ρ t).length % 16)) 128)) κ τ := S_40
  refine R_aload_n (pc := 119) 4 dX5_runPart_119 rfl rfl ?_
  refine R_aload_n (pc := 120) 1 dX5_runPart_120 rfl rfl ?_
  refine R_get (pc := 121) dX5_runPart_121 fX5_39 S_41.2.2.2.2.2.2.2.2.2.1 (by omega) rfl ?_
  refine R_iload (pc := 124) 0 dX5_runPart_124 rfl ?_
  refine R_callVh (pc := 126) (μ' := mX6_appendBlock) (As := [.ref 57, .int (nI ((ρ t).length % 16))]) (st := []) dX5_runPart_126 zX6_appendBlock lX5_84 ⟨by decide, by decide⟩ rfl rfl ⟨by decide, by decide⟩ (S_41.rowO m hm) (by omega) rfl (Nat.le_of_ble_eq_true rfl) (S_appendBlock S_41 hn hm rfl ((ρ t).length % 16) hr) (fun h_43 r_ q_44 => ?_)
  obtain ⟨rfl, S_45, F_47⟩ := q_44
  have S_46 : Sys h_43 (ur ρ m ((ρ m) ++ bt (xb (rd (ρ t) (16 * ((ρ t).length / 16))) (kf (eK (κ 16) (xb (β 55) (β 52))) (nI ((ρ t).length % 16)))) ((ρ t).length % 16))) (ub (ub (ub (ub (ub (ub (ub (ub β 55 (xb (β 55) (β 52))) 58 (xb (β 55) (β 52))) 58 (eK (κ 16) (xb (β 55) (β 52)))) 58 (kf (eK (κ 16) (xb (β 55) (β 52))) (nI ((ρ t).length % 16)))) 57 (rd (ρ t) (16 * ((ρ t).length / 16)))) 56 (xb (β 56) (rd (ρ t) (16 * ((ρ t).length / 16))))) 57 (xb (rd (ρ t) (16 * ((ρ t).length / 16))) (kf (eK (κ 16) (xb (β 55) (β 52))) (nI ((ρ t).length % 16))))) 56 (aoc (xb (β 56) (rd (ρ t) (16 * ((ρ t).length / 16)))) (nI ((ρ t).length % 16)) 128)) κ τ := by have z_ := S_45; (try simp only [ur_s, ur_ur, ur_n (x := t) (r := m) htm] at z_); exact z_
  refine R_vreturn (pc := 129) dX5_runPart_129 rfl (by decide) (by decide) ⟨rfl, (ub (ub (ub (ub (ub (ub (ub (ub β 55 (xb (β 55) (β 52))) 58 (xb (β 55) (β 52))) 58 (eK (κ 16) (xb (β 55) (β 52)))) 58 (kf (eK (κ 16) (xb (β 55) (β 52))) (nI ((ρ t).length % 16)))) 57 (rd (ρ t) (16 * ((ρ t).length / 16)))) 56 (xb (β 56) (rd (ρ t) (16 * ((ρ t).length / 16))))) 57 (xb (rd (ρ t) (16 * ((ρ t).length / 16))) (kf (eK (κ 16) (xb (β 55) (β 52))) (nI ((ρ t).length % 16))))) 56 (aoc (xb (β 56) (rd (ρ t) (16 * ((ρ t).length / 16)))) (nI ((ρ t).length % 16)) 128)), ?_, rfl, S_46, ((((((((F_5.tr F_10).tr F_15).tr F_20).tr F_25).tr F_31).tr F_36).tr F_42).tr F_47)⟩
  intro a_ n_
  simp only [List.mem_cons, List.not_mem_nil, or_false, not_or] at n_
  by_cases e0_ : a_ = 56
  · subst e0_; first | rfl | (simp only [ub_s]; done) | (simp (config := { decide := true }) only [ub, if_true, if_false, reduceIte]; first | rfl | skip)
  by_cases e1_ : a_ = 55
  · subst e1_; first | rfl | (simp only [ub_s]; done) | (simp (config := { decide := true }) only [ub, if_true, if_false, reduceIte]; first | rfl | skip)
  (try simp only [ub, if_neg, if_false, n_, e0_, e1_])
  (try simp only [ub_k])
set_option maxHeartbeats 4000000 in
set_option maxRecDepth 100000 in
theorem qX5_runPart_U {l : Launch} {w : am_W} {h : am_H} {n : Nat} {ρ : Nat → List (BitVec 8)} {β : Nat → bP} {κ : Nat → kT} {τ : Nat × Nat × Nat} (S : Sys h ρ β κ τ) (hn : 60 ≤ n) {t m : Nat} (ht : isRw t = true) (hm : isRw m = true) (htm : t ≠ m) (op : Int32) (hop : ¬ op = 0) (hk : kOk (κ 16)) (hr : (ρ m).length + (ρ t).length % 16 ≤ rwN m) : RH l w mX5_runPart h n [.ref 51, .ref t, .int op, .ref m] (SX h τ none (ur ρ m (ρ m ++ bt (opB (eK (κ 16)) (ρ t) (β 52) (β 55)) ((ρ t).length % 16))) (ub (ub β 55 (opO (β 52) (β 55))) 56 (opT (eK (κ 16)) true (ρ t) (β 52) (β 55) (β 56))) κ [57, 58]) := by
  refine RC.of [(0, .ref 51), (1, .ref t), (2, .int op), (3, .ref m)] (by decide +kernel) rfl (Nat.le_of_ble_eq_true rfl) ?_
  have hlt := S.len t ht
  have htc := rw_cases ht
  have hlm := S.len m hm
  have hmc := rw_cases hm
  refine R_aload_n (pc := 0) 1 dX5_runPart_0 rfl rfl ?_
  have := rw_cases (r := t) ht
  refine R_get (pc := 1) dX5_runPart_1 fX5_65 (S.rowO t ht) (by omega) rfl ?_
  refine R_eqi (y := nI (ρ t).length) (by first | rfl | (simp only [ur_s, ur_ur])) ?_
  refine R_bipush (pc := 4) (v := 15) dX5_runPart_4 (by decide) ?_
  refine R_iand (pc := 6) dX5_runPart_6 ?_
  refine R_eqi (y := nI ((ρ t).length % 16)) (pk_andN (by omega) 4 (by decide)) ?_
  refine R_istore (pc := 7) (lv' := [(4, .int (nI ((ρ t).length % 16))), (0, .ref 51), (1, .ref t), (2, .int op), (3, .ref m)]) dX5_runPart_7 (by decide) rfl ?_
  refine R_aload_n (pc := 9) 1 dX5_runPart_9 rfl rfl ?_
  refine R_get (pc := 10) dX5_runPart_10 fX5_33 S.2.2.2.2.2.2.2.2.2.1 (by omega) rfl ?_
  refine R_aload_n (pc := 13) 1 dX5_runPart_13 rfl rfl ?_
  refine R_get (pc := 14) dX5_runPart_14 fX5_23 S.2.2.2.2.2.2.2.2.2.1 (by omega) rfl ?_
  refine R_callVh (pc := 17) (μ' := mX0_add) (As := [.ref 52]) (st := []) dX5_runPart_17 zX0_add lX5_92 ⟨by decide, by decide⟩ rfl rfl ⟨by decide, by decide⟩ (S.blk 55 rfl) (by omega) rfl (Nat.le_of_ble_eq_true rfl) (S_add S hn rfl rfl (by decide)) (fun h_1 r_ q_2 => ?_)
  obtain ⟨rfl, S_3, F_5⟩ := q_2
  have S_4 : Sys h_1 ρ (ub β 55 (xb (β 55) (β 52))) κ τ := S_3
  refine R_aload_n (pc := 20) 1 dX5_runPart_20 rfl rfl ?_
  refine R_get (pc := 21) dX5_runPart_21 fX5_42 S_4.2.2.2.2.2.2.2.2.2.1 (by omega) rfl ?_
  refine R_aload_n (pc := 24) 1 dX5_runPart_24 rfl rfl ?_
  refine R_get (pc := 25) dX5_runPart_25 fX5_33 S_4.2.2.2.2.2.2.2.2.2.1 (by omega) rfl ?_
  refine R_callVh (pc := 28) (μ' := mX0_copy) (As := [.ref 55]) (st := []) dX5_runPart_28 zX0_copy lX5_55 ⟨by decide, by decide⟩ rfl rfl ⟨by decide, by decide⟩ (S_4.blk 58 rfl) (by omega) rfl (Nat.le_of_ble_eq_true rfl) (S_copy S_4 hn rfl rfl (by decide)) (fun h_6 r_ q_7 => ?_)
  obtain ⟨rfl, S_8, F_10⟩ := q_7
  have S_9 : Sys h_6 ρ (ub (ub β 55 (xb (β 55) (β 52))) 58 (xb (β 55) (β 52))) κ τ := S_8
  refine R_aload_n (pc := 31) 1 dX5_runPart_31 rfl rfl ?_
  refine R_get (pc := 32) dX5_runPart_32 fX5_7 S_9.2.2.2.2.2.2.2.2.2.1 (by omega) rfl ?_
  refine R_aload_n (pc := 35) 1 dX5_runPart_35 rfl rfl ?_
  refine R_get (pc := 36) dX5_runPart_36 fX5_42 S_9.2.2.2.2.2.2.2.2.2.1 (by omega) rfl ?_
  refine R_callVh (pc := 39) (μ' := mX2_encrypt) (As := [.ref 58]) (st := []) dX5_runPart_39 zX2_encrypt lX5_49 ⟨by decide, by decide⟩ rfl rfl ⟨by decide, by decide⟩ (S_9.2.2.1 16 (by decide)).1 (by omega) rfl (Nat.le_of_ble_eq_true rfl) (S_encrypt S_9 hn (by decide) rfl hk.1 hk.2) (fun h_11 r_ q_12 => ?_)
  obtain ⟨rfl, S_13, F_15⟩ := q_12
  have S_14 : Sys h_11 ρ (ub (ub (ub β 55 (xb (β 55) (β 52))) 58 (xb (β 55) (β 52))) 58 (eK (κ 16) (xb (β 55) (β 52)))) κ τ := S_13
  refine R_aload_n (pc := 42) 1 dX5_runPart_42 rfl rfl ?_
  refine R_get (pc := 43) dX5_runPart_43 fX5_42 S_14.2.2.2.2.2.2.2.2.2.1 (by omega) rfl ?_
  refine R_iload (pc := 46) 0 dX5_runPart_46 rfl ?_
  refine R_callVh (pc := 48) (μ' := mX0_keepFirst) (As := [.int (nI ((ρ t).length % 16))]) (st := []) dX5_runPart_48 zX0_keepFirst lX5_122 ⟨by decide, by decide⟩ rfl rfl ⟨by decide, by decide⟩ (S_14.blk 58 rfl) (by omega) rfl (Nat.le_of_ble_eq_true rfl) (S_keepFirst S_14 hn rfl _) (fun h_16 r_ q_17 => ?_)
  obtain ⟨rfl, S_18, F_20⟩ := q_17
  have S_19 : Sys h_16 ρ (ub (ub (ub (ub β 55 (xb (β 55) (β 52))) 58 (xb (β 55) (β 52))) 58 (eK (κ 16) (xb (β 55) (β 52)))) 58 (kf (eK (κ 16) (xb (β 55) (β 52))) (nI ((ρ t).length % 16)))) κ τ := S_18
  refine R_aload_n (pc := 51) 1 dX5_runPart_51 rfl rfl ?_
  refine R_get (pc := 52) dX5_runPart_52 fX5_39 S_19.2.2.2.2.2.2.2.2.2.1 (by omega) rfl ?_
  refine R_aload_n (pc := 55) 2 dX5_runPart_55 rfl rfl ?_
  refine R_aload_n (pc := 56) 2 dX5_runPart_56 rfl rfl ?_
  have := rw_cases (r := t) ht
  refine R_get (pc := 57) dX5_runPart_57 fX5_65 (S_19.rowO t ht) (by omega) rfl ?_
  refine R_eqi (y := nI (ρ t).length) (by first | rfl | (simp only [ur_s, ur_ur])) ?_
  refine R_iload (pc := 60) 0 dX5_runPart_60 rfl ?_
  refine R_isub (pc := 62) dX5_runPart_62 ?_
  refine R_eqi (y := nI (16 * ((ρ t).length / 16))) ((pk_sub (by omega)).trans (by rw [show (ρ t).length - (ρ t).length % 16 = 16 * ((ρ t).length / 16) by omega])) ?_
  refine R_callVh (pc := 63) (μ' := mX0_read) (As := [.ref t, .int (nI (16 * ((ρ t).length / 16)))]) (st := []) dX5_runPart_63 zX0_read lX5_74 ⟨by decide, by decide⟩ rfl rfl ⟨by decide, by decide⟩ (S_19.blk 57 rfl) (by omega) rfl (Nat.le_of_ble_eq_true rfl) (S_read S_19 hn rfl ht (16 * ((ρ t).length / 16)) (by omega)) (fun h_21 r_ q_22 => ?_)
  obtain ⟨rfl, S_23, F_25⟩ := q_22
  have S_24 : Sys h_21 ρ (ub (ub (ub (ub (ub β 55 (xb (β 55) (β 52))) 58 (xb (β 55) (β 52))) 58 (eK (κ 16) (xb (β 55) (β 52)))) 58 (kf (eK (κ 16) (xb (β 55) (β 52))) (nI ((ρ t).length % 16)))) 57 (rd (ρ t) (16 * ((ρ t).length / 16)))) κ τ := S_23
  refine R_iload_n (pc := 66) 3 dX5_runPart_66 rfl rfl ?_
  refine R_if_ne (pc := 67) (tgt := 81) dX5_runPart_67 (by decide) (fun c_26 => ?_) (fun c_26 => absurd c_26 (hop))
  refine R_aload_n (pc := 81) 1 dX5_runPart_81 rfl rfl ?_
  refine R_get (pc := 82) dX5_runPart_82 fX5_39 S_24.2.2.2.2.2.2.2.2.2.1 (by omega) rfl ?_
  refine R_aload_n (pc := 85) 1 dX5_runPart_85 rfl rfl ?_
  refine R_get (pc := 86) dX5_runPart_86 fX5_42 S_24.2.2.2.2.2.2.2.2.2.1 (by omega) rfl ?_
  refine R_callVh (pc := 89) (μ' := mX0_add) (As := [.ref 58]) (st := []) dX5_runPart_89 zX0_add lX5_92 ⟨by decide, by decide⟩ rfl rfl ⟨by decide, by decide⟩ (S_24.blk 57 rfl) (by omega) rfl (Nat.le_of_ble_eq_true rfl) (S_add S_24 hn rfl rfl (by decide)) (fun h_27 r_ q_28 => ?_)
  obtain ⟨rfl, S_29, F_31⟩ := q_28
  have S_30 : Sys h_27 ρ (ub (ub (ub (ub (ub (ub β 55 (xb (β 55) (β 52))) 58 (xb (β 55) (β 52))) 58 (eK (κ 16) (xb (β 55) (β 52)))) 58 (kf (eK (κ 16) (xb (β 55) (β 52))) (nI ((ρ t).length % 16)))) 57 (rd (ρ t) (16 * ((ρ t).length / 16)))) 57 (xb (rd (ρ t) (16 * ((ρ t).length / 16))) (kf (eK (κ 16) (xb (β 55) (β 52))) (nI ((ρ t).length % 16))))) κ τ := S_29
  refine R_iload_n (pc := 92) 3 dX5_runPart_92 rfl rfl ?_
  refine R_if_eq (pc := 93) (tgt := 107) dX5_runPart_93 (by decide) (fun c_32 => absurd c_32 (hop)) (fun c_32 => ?_)
  refine R_aload_n (pc := 96) 1 dX5_runPart_96 rfl rfl ?_
  refine R_get (pc := 97) dX5_runPart_97 fX5_36 S_30.2.2.2.2.2.2.2.2.2.1 (by omega) rfl ?_
  refine R_aload_n (pc := 100) 1 dX5_runPart_100 rfl rfl ?_
  refine R_get (pc := 101) dX5_runPart_101 fX5_39 S_30.2.2.2.2.2.2.2.2.2.1 (by omega) rfl ?_
  refine R_callVh (pc := 104) (μ' := mX0_add) (As := [.ref 57]) (st := []) dX5_runPart_104 zX0_add lX5_92 ⟨by decide, by decide⟩ rfl rfl ⟨by decide, by decide⟩ (S_30.blk 56 rfl) (by omega) rfl (Nat.le_of_ble_eq_true rfl) (S_add S_30 hn rfl rfl (by decide)) (fun h_33 r_ q_34 => ?_)
  obtain ⟨rfl, S_35, F_37⟩ := q_34
  have S_36 : Sys h_33 ρ (ub (ub (ub (ub (ub (ub (ub β 55 (xb (β 55) (β 52))) 58 (xb (β 55) (β 52))) 58 (eK (κ 16) (xb (β 55) (β 52)))) 58 (kf (eK (κ 16) (xb (β 55) (β 52))) (nI ((ρ t).length % 16)))) 57 (rd (ρ t) (16 * ((ρ t).length / 16)))) 57 (xb (rd (ρ t) (16 * ((ρ t).length / 16))) (kf (eK (κ 16) (xb (β 55) (β 52))) (nI ((ρ t).length % 16))))) 56 (xb (β 56) (xb (rd (ρ t) (16 * ((ρ t).length / 16))) (kf (eK (κ 16) (xb (β 55) (β 52))) (nI ((ρ t).length % 16)))))) κ τ := S_35
  refine R_aload_n (pc := 107) 1 dX5_runPart_107 rfl rfl ?_
  refine R_get (pc := 108) dX5_runPart_108 fX5_36 S_36.2.2.2.2.2.2.2.2.2.1 (by omega) rfl ?_
  refine R_iload (pc := 111) 0 dX5_runPart_111 rfl ?_
  refine R_sipush (pc := 113) (v := 128) dX5_runPart_113 (by decide) ?_
  refine R_callVh (pc := 116) (μ' := mX0_addOctet) (As := [.int (nI ((ρ t).length % 16)), .int 128]) (st := []) dX5_runPart_116 zX0_addOctet lX5_98 ⟨by decide, by decide⟩ rfl rfl ⟨by decide, by decide⟩ (S_36.blk 56 rfl) (by omega) rfl (Nat.le_of_ble_eq_true rfl) (S_addOctet S_36 hn rfl _ _) (fun h_38 r_ q_39 => ?_)
  obtain ⟨rfl, S_40, F_42⟩ := q_39
  have S_41 : Sys h_38 ρ (ub (ub (ub (ub (ub (ub (ub (ub β 55 (xb (β 55) (β 52))) 58 (xb (β 55) (β 52))) 58 (eK (κ 16) (xb (β 55) (β 52)))) 58 (kf (eK (κ 16) (xb (β 55) (β 52))) (nI ((ρ t).length % 16)))) 57 (rd (ρ t) (16 * ((ρ t).length / 16)))) 57 (xb (rd (ρ t) (16 * ((ρ t).length / 16))) (kf (eK (κ 16) (xb (β 55) (β 52))) (nI ((ρ t).length % 16))))) 56 (xb (β 56) (xb (rd (ρ t) (16 * ((ρ t).length / 16))) (kf (eK (κ 16) (xb (β 55) (β 52))) (nI ((ρ t).length % 16)))))) 56 (aoc (xb (β 56) (xb (rd (ρ t) (16 * ((ρ t).length / 16))) (kf (eK (κ 16) (xb (β 55) (β 52))) (nI ((ρ t).length % 16))))) (nI ((ρ t).length % 16)) 128)) κ τ := S_40
  refine R_aload_n (pc := 119) 4 dX5_runPart_119 rfl rfl ?_
  refine R_aload_n (pc := 120) 1 dX5_runPart_120 rfl rfl ?_
  refine R_get (pc := 121) dX5_runPart_121 fX5_39 S_41.2.2.2.2.2.2.2.2.2.1 (by omega) rfl ?_
  refine R_iload (pc := 124) 0 dX5_runPart_124 rfl ?_
  refine R_callVh (pc := 126) (μ' := mX6_appendBlock) (As := [.ref 57, .int (nI ((ρ t).length % 16))]) (st := []) dX5_runPart_126 zX6_appendBlock lX5_84 ⟨by decide, by decide⟩ rfl rfl ⟨by decide, by decide⟩ (S_41.rowO m hm) (by omega) rfl (Nat.le_of_ble_eq_true rfl) (S_appendBlock S_41 hn hm rfl ((ρ t).length % 16) hr) (fun h_43 r_ q_44 => ?_)
  obtain ⟨rfl, S_45, F_47⟩ := q_44
  have S_46 : Sys h_43 (ur ρ m ((ρ m) ++ bt (xb (rd (ρ t) (16 * ((ρ t).length / 16))) (kf (eK (κ 16) (xb (β 55) (β 52))) (nI ((ρ t).length % 16)))) ((ρ t).length % 16))) (ub (ub (ub (ub (ub (ub (ub (ub β 55 (xb (β 55) (β 52))) 58 (xb (β 55) (β 52))) 58 (eK (κ 16) (xb (β 55) (β 52)))) 58 (kf (eK (κ 16) (xb (β 55) (β 52))) (nI ((ρ t).length % 16)))) 57 (rd (ρ t) (16 * ((ρ t).length / 16)))) 57 (xb (rd (ρ t) (16 * ((ρ t).length / 16))) (kf (eK (κ 16) (xb (β 55) (β 52))) (nI ((ρ t).length % 16))))) 56 (xb (β 56) (xb (rd (ρ t) (16 * ((ρ t).length / 16))) (kf (eK (κ 16) (xb (β 55) (β 52))) (nI ((ρ t).length % 16)))))) 56 (aoc (xb (β 56) (xb (rd (ρ t) (16 * ((ρ t).length / 16))) (kf (eK (κ 16) (xb (β 55) (β 52))) (nI ((ρ t).length % 16))))) (nI ((ρ t).length % 16)) 128)) κ τ := by have z_ := S_45; (try simp only [ur_s, ur_ur, ur_n (x := t) (r := m) htm] at z_); exact z_
  refine R_vreturn (pc := 129) dX5_runPart_129 rfl (by decide) (by decide) ⟨rfl, (ub (ub (ub (ub (ub (ub (ub (ub β 55 (xb (β 55) (β 52))) 58 (xb (β 55) (β 52))) 58 (eK (κ 16) (xb (β 55) (β 52)))) 58 (kf (eK (κ 16) (xb (β 55) (β 52))) (nI ((ρ t).length % 16)))) 57 (rd (ρ t) (16 * ((ρ t).length / 16)))) 57 (xb (rd (ρ t) (16 * ((ρ t).length / 16))) (kf (eK (κ 16) (xb (β 55) (β 52))) (nI ((ρ t).length % 16))))) 56 (xb (β 56) (xb (rd (ρ t) (16 * ((ρ t).length / 16))) (kf (eK (κ 16) (xb (β 55) (β 52))) (nI ((ρ t).length % 16)))))) 56 (aoc (xb (β 56) (xb (rd (ρ t) (16 * ((ρ t).length / 16))) (kf (eK (κ 16) (xb (β 55) (β 52))) (nI ((ρ t).length % 16))))) (nI ((ρ t).length % 16)) 128)), ?_, rfl, S_46, ((((((((F_5.tr F_10).tr F_15).tr F_20).tr F_25).tr F_31).tr F_37).tr F_42).tr F_47)⟩
  intro a_ n_
  simp only [List.mem_cons, List.not_mem_nil, or_false, not_or] at n_
  by_cases e0_ : a_ = 56
  · subst e0_; first | rfl | (simp only [ub_s]; done) | (simp (config := { decide := true }) only [ub, if_true, if_false, reduceIte]; first | rfl | skip)
  by_cases e1_ : a_ = 55
  · subst e1_; first | rfl | (simp only [ub_s]; done) | (simp (config := { decide := true }) only [ub, if_true, if_false, reduceIte]; first | rfl | skip)
  (try simp only [ub, if_neg, if_false, n_, e0_, e1_])
  (try simp only [ub_k])
