def cyN (f : Nat → bP → bP) (x : bP) : Nat → bP
  | 0 => x
  | i + 1 => f i (cyN f x i)
/-- a block of GALOIS' sum -/
def gaS (H : bP) (L : List (BitVec 8)) (i : Nat) (x : bP) : bP := gmu (xb x (rd L (16 * i))) H
def gab (H : bP) (L : List (BitVec 8)) (x : bP) : bP := cyN (gaS H L) x (nbk L)
theorem ub_k {β : Nat → bP} {a x : Nat} : (if x = a then β a else β x) = β x := by
  by_cases h : x = a <;> simp [h]
/-- blocks put back as they were -/
theorem Sys.same {h : am_H} {ρ : Nat → List (BitVec 8)} {β β' : Nat → bP} {κ : Nat → kT} {τ : Nat × Nat × Nat} (S : Sys h ρ β κ τ) (e : ∀ a, isBk a = true → β' a = β a) : Sys h ρ β' κ τ := ⟨S.1, fun a ha => by rw [e a ha]; exact S.2.1 a ha, S.2.2⟩
theorem ub_ub (β : Nat → bP) (a : Nat) (v u : bP) : ub (ub β a v) a u = ub β a u := by
  funext x
  unfold ub
  by_cases h : x = a <;> simp [h]
set_option maxHeartbeats 4000000 in
set_option maxRecDepth 100000 in
theorem qX3_absorbBlock_43 {l : Launch} {w : am_W} {h : am_H} {n : Nat} {ρ : Nat → List (BitVec 8)} {β : Nat → bP} {κ : Nat → kT} {τ : Nat × Nat × Nat} (S : Sys h ρ β κ τ) (hn : 60 ≤ n) : RH l w mX3_absorbBlock h n [.ref 41, .ref 43] (SQ h τ none ρ (ub β 43 (gmu (xb (β 43) (β 45)) (β 42))) κ) := by
  refine RC.of [(0, .ref 41), (1, .ref 43)] (by decide +kernel) rfl (Nat.le_of_ble_eq_true rfl) ?_
  refine R_aload_n (pc := 0) 1 dX3_absorbBlock_0 rfl rfl ?_
  refine R_aload_n (pc := 1) 0 dX3_absorbBlock_1 rfl rfl ?_
  refine R_get (pc := 2) dX3_absorbBlock_2 fX3_33 S.2.2.2.2.2.2.2.1 (by omega) rfl ?_
  refine R_callVh (pc := 5) (μ' := mX0_add) (As := [.ref 45]) (st := []) dX3_absorbBlock_5 zX0_add lX3_74 ⟨by decide, by decide⟩ rfl rfl ⟨by decide, by decide⟩ (S.blk 43 rfl) (by omega) rfl (Nat.le_of_ble_eq_true rfl) (S_add S hn rfl rfl (by decide)) (fun h_1 r_ q_2 => ?_)
  obtain ⟨rfl, S_3, F_5⟩ := q_2
  have S_4 : Sys h_1 ρ (ub β 43 (xb (β 43) (β 45))) κ τ := S_3
  refine R_aload_n (pc := 8) 1 dX3_absorbBlock_8 rfl rfl ?_
  refine R_aload_n (pc := 9) 0 dX3_absorbBlock_9 rfl rfl ?_
  refine R_get (pc := 10) dX3_absorbBlock_10 fX3_23 S_4.2.2.2.2.2.2.2.1 (by omega) rfl ?_
  refine R_callVh (pc := 13) (μ' := mX0_multiply) (As := [.ref 42]) (st := []) dX3_absorbBlock_13 zX0_multiply lX3_85 ⟨by decide, by decide⟩ rfl rfl ⟨by decide, by decide⟩ (S_4.blk 43 rfl) (by omega) rfl (Nat.le_of_ble_eq_true rfl) (S_multiply S_4 hn rfl rfl (by decide)) (fun h_6 r_ q_7 => ?_)
  obtain ⟨rfl, S_8, F_10⟩ := q_7
  have S_9 : Sys h_6 ρ (ub (ub β 43 (xb (β 43) (β 45))) 43 (gmu (xb (β 43) (β 45)) (β 42))) κ τ := S_8
  exact R_vreturn (pc := 16) dX3_absorbBlock_16 rfl (by decide) (by decide) ⟨rfl, rfl, by have z_ := S_9; rw [ub_ub] at z_; exact z_, (F_5.tr F_10)⟩
set_option maxHeartbeats 4000000 in
set_option maxRecDepth 100000 in
theorem qX3_absorbBlock_59 {l : Launch} {w : am_W} {h : am_H} {n : Nat} {ρ : Nat → List (BitVec 8)} {β : Nat → bP} {κ : Nat → kT} {τ : Nat × Nat × Nat} (S : Sys h ρ β κ τ) (hn : 60 ≤ n) : RH l w mX3_absorbBlock h n [.ref 41, .ref 59] (SQ h τ none ρ (ub β 59 (gmu (xb (β 59) (β 45)) (β 42))) κ) := by
  refine RC.of [(0, .ref 41), (1, .ref 59)] (by decide +kernel) rfl (Nat.le_of_ble_eq_true rfl) ?_
  refine R_aload_n (pc := 0) 1 dX3_absorbBlock_0 rfl rfl ?_
  refine R_aload_n (pc := 1) 0 dX3_absorbBlock_1 rfl rfl ?_
  refine R_get (pc := 2) dX3_absorbBlock_2 fX3_33 S.2.2.2.2.2.2.2.1 (by omega) rfl ?_
  refine R_callVh (pc := 5) (μ' := mX0_add) (As := [.ref 45]) (st := []) dX3_absorbBlock_5 zX0_add lX3_74 ⟨by decide, by decide⟩ rfl rfl ⟨by decide, by decide⟩ (S.blk 59 rfl) (by omega) rfl (Nat.le_of_ble_eq_true rfl) (S_add S hn rfl rfl (by decide)) (fun h_1 r_ q_2 => ?_)
  obtain ⟨rfl, S_3, F_5⟩ := q_2
  have S_4 : Sys h_1 ρ (ub β 59 (xb (β 59) (β 45))) κ τ := S_3
  refine R_aload_n (pc := 8) 1 dX3_absorbBlock_8 rfl rfl ?_
  refine R_aload_n (pc := 9) 0 dX3_absorbBlock_9 rfl rfl ?_
  refine R_get (pc := 10) dX3_absorbBlock_10 fX3_23 S_4.2.2.2.2.2.2.2.1 (by omega) rfl ?_
  refine R_callVh (pc := 13) (μ' := mX0_multiply) (As := [.ref 42]) (st := []) dX3_absorbBlock_13 zX0_multiply lX3_85 ⟨by decide, by decide⟩ rfl rfl ⟨by decide, by decide⟩ (S_4.blk 59 rfl) (by omega) rfl (Nat.le_of_ble_eq_true rfl) (S_multiply S_4 hn rfl rfl (by decide)) (fun h_6 r_ q_7 => ?_)
  obtain ⟨rfl, S_8, F_10⟩ := q_7
  have S_9 : Sys h_6 ρ (ub (ub β 59 (xb (β 59) (β 45))) 59 (gmu (xb (β 59) (β 45)) (β 42))) κ τ := S_8
  exact R_vreturn (pc := 16) dX3_absorbBlock_16 rfl (by decide) (by decide) ⟨rfl, rfl, by have z_ := S_9; rw [ub_ub] at z_; exact z_, (F_5.tr F_10)⟩
set_option maxHeartbeats 4000000 in
set_option maxRecDepth 100000 in
theorem qX3_absorb_43_loop {l : Launch} {w : am_W} {h : am_H} {n : Nat} {ρ : Nat → List (BitVec 8)} {β : Nat → bP} {κ : Nat → kT} {τ : Nat × Nat × Nat} (S : Sys h ρ β κ τ) (hn : 60 ≤ n) {t : Nat} (ht : isRw t = true) : ∀ (d i : Nat), i + d = nbk (ρ t) → ∀ h2 β2, Sys h2 ρ β2 κ τ → β2 43 = (cyN (gaS (β 42) (ρ t)) (β 43) i) → (∀ a, a ∉ [43, 45] → β2 a = β a) → Fr h h2 → RW l w mX3_absorb h2 n 0 0 2 [(3, .int (nI (16 * i))), (0, .ref 41), (1, .ref t), (2, .ref 43)] [] (fun h' n' r_ => n' = n ∧ (SX h τ none ρ (ub β 43 (gab (β 42) (ρ t) (β 43))) κ [45]) h' r_) := by
  have hlt := S.len t ht
  have hnb := nbk_b (ρ t)
  intro d
  induction d with
  | zero =>
    intro i hd h2 β2 S2 hv hB hF
    have S3 : Sys h2 ρ (ub β2 43 (cyN (gaS (β 42) (ρ t)) (β 43) i)) κ τ := Sys.know S2 hv
    have S_1 : Sys h2 ρ (ub (ub β2 43 (cyN (gaS (β 42) (ρ t)) (β 43) i)) 42 (β 42)) κ τ := Sys.know S3 (hB 42 (by decide))
    refine R_iload_n (pc := 2) 0 dX3_absorb_2 rfl rfl ?_
    refine R_aload_n (pc := 3) 2 dX3_absorb_3 rfl rfl ?_
    have := rw_cases (r := t) ht
    refine R_get (pc := 4) dX3_absorb_4 fX3_59 (S_1.rowO t ht) (by omega) rfl ?_
    refine R_eqi (y := nI (ρ t).length) (by first | rfl | (simp only [ur_s, ur_ur])) ?_
    refine R_icmp_ge (pc := 7) (tgt := 30) dX3_absorb_7 (by decide) (fun c_2 => ?_) (fun c_2 => absurd (nI_le (by omega) (by omega)) c_2)
    refine R_vreturn (pc := 30) dX3_absorb_30 rfl (by decide) (by decide) ⟨rfl, ub β2 43 (cyN (gaS (β 42) (ρ t)) (β 43) i), fun a_ n_ => ?_, rfl, S3, hF⟩
    by_cases e_ : a_ = 43
    · subst e_; rw [ub_s, ub_s]; unfold gab; rw [show nbk (ρ t) = i by omega]
    · rw [ub_n e_, ub_n e_]; exact hB a_ (by simp only [List.mem_cons, List.not_mem_nil, or_false] at n_ ⊢; omega)
  | succ d ih =>
    intro i hd h2 β2 S2 hv hB hF
    have S3 : Sys h2 ρ (ub β2 43 (cyN (gaS (β 42) (ρ t)) (β 43) i)) κ τ := Sys.know S2 hv
    have S_1 : Sys h2 ρ (ub (ub β2 43 (cyN (gaS (β 42) (ρ t)) (β 43) i)) 42 (β 42)) κ τ := Sys.know S3 (hB 42 (by decide))
    refine R_iload_n (pc := 2) 0 dX3_absorb_2 rfl rfl ?_
    refine R_aload_n (pc := 3) 2 dX3_absorb_3 rfl rfl ?_
    have := rw_cases (r := t) ht
    refine R_get (pc := 4) dX3_absorb_4 fX3_59 (S_1.rowO t ht) (by omega) rfl ?_
    refine R_eqi (y := nI (ρ t).length) (by first | rfl | (simp only [ur_s, ur_ur])) ?_
    refine R_icmp_ge (pc := 7) (tgt := 30) dX3_absorb_7 (by decide) (fun c_2 => absurd c_2 (nI_ge (by omega) (by omega))) (fun c_2 => ?_)
    refine R_aload_n (pc := 10) 1 dX3_absorb_10 rfl rfl ?_
    refine R_get (pc := 11) dX3_absorb_11 fX3_33 S_1.2.2.2.2.2.2.2.1 (by omega) rfl ?_
    refine R_aload_n (pc := 14) 2 dX3_absorb_14 rfl rfl ?_
    refine R_iload_n (pc := 15) 0 dX3_absorb_15 rfl rfl ?_
    refine R_callVh (pc := 16) (μ' := mX0_read) (As := [.ref t, .int (nI (16 * i))]) (st := []) dX3_absorb_16 zX0_read lX3_77 ⟨by decide, by decide⟩ rfl rfl ⟨by decide, by decide⟩ (S_1.blk 45 rfl) (by omega) rfl (Nat.le_of_ble_eq_true rfl) (S_read S_1 hn rfl ht (16 * i) (by omega)) (fun h_3 r_ q_4 => ?_)
    obtain ⟨rfl, S_5, F_7⟩ := q_4
    have S_6 : Sys h_3 ρ (ub (ub (ub β2 43 (cyN (gaS (β 42) (ρ t)) (β 43) i)) 42 (β 42)) 45 (rd (ρ t) (16 * i))) κ τ := S_5
    refine R_aload_n (pc := 19) 1 dX3_absorb_19 rfl rfl ?_
    refine R_aload_n (pc := 20) 3 dX3_absorb_20 rfl rfl ?_
    refine R_callVh (pc := 21) (μ' := mX3_absorbBlock) (As := [.ref 43]) (st := []) dX3_absorb_21 zX3_absorbBlock lX3_65 ⟨by decide, by decide⟩ rfl rfl ⟨by decide, by decide⟩ S_6.2.2.2.2.2.2.2.1 (by omega) rfl (Nat.le_of_ble_eq_true rfl) (qX3_absorbBlock_43 S_6 hn) (fun h_8 r_ q_9 => ?_)
    obtain ⟨rfl, S_10, F_12⟩ := q_9
    have S_11 : Sys h_8 ρ (ub (ub (ub (ub β2 43 (cyN (gaS (β 42) (ρ t)) (β 43) i)) 42 (β 42)) 45 (rd (ρ t) (16 * i))) 43 (gmu (xb (cyN (gaS (β 42) (ρ t)) (β 43) i) (rd (ρ t) (16 * i))) (β 42))) κ τ := S_10
    refine R_iinc (pc := 24) (j := 0) (v := nI (16 * (i + 1))) (lv' := [(3, .int (nI (16 * (i + 1)))), (0, .ref 41), (1, .ref t), (2, .ref 43)]) dX3_absorb_24 rfl (nI_add (16 * i) 16) (by decide) rfl ?_
    refine R_goto (pc := 27) (tgt := 2) dX3_absorb_27 (by decide) ?_
    refine R_sub [0, 1, 2, 3] rfl ?_
    refine ih (i + 1) (by omega) h_8 (ub (ub (ub (ub β2 43 (cyN (gaS (β 42) (ρ t)) (β 43) i)) 42 (β 42)) 45 (rd (ρ t) (16 * i))) 43 (gmu (xb (cyN (gaS (β 42) (ρ t)) (β 43) i) (rd (ρ t) (16 * i))) (β 42))) S_11 rfl (fun a_ n_ => ?_) (hF.tr (F_7.tr F_12))
    have q_ := hB a_ n_; simp only [List.mem_cons, List.not_mem_nil, or_false, not_or] at n_
    simp only [ub, if_neg, n_, if_false]
    first | exact q_ | (simp only [ub_k, q_]) | (repeat' split) <;> first | exact q_ | (rename_i e_; rw [e_])
set_option maxHeartbeats 4000000 in
set_option maxRecDepth 100000 in
theorem qX3_absorb_43 {l : Launch} {w : am_W} {h : am_H} {n : Nat} {ρ : Nat → List (BitVec 8)} {β : Nat → bP} {κ : Nat → kT} {τ : Nat × Nat × Nat} (S : Sys h ρ β κ τ) (hn : 60 ≤ n) {t : Nat} (ht : isRw t = true) : RH l w mX3_absorb h n [.ref 41, .ref t, .ref 43] (SX h τ none ρ (ub β 43 (gab (β 42) (ρ t) (β 43))) κ [45]) := by
  refine RC.of [(0, .ref 41), (1, .ref t), (2, .ref 43)] (by decide +kernel) rfl (Nat.le_of_ble_eq_true rfl) ?_
  refine R_iconst (pc := 0) (v := 0) dX3_absorb_0 (by decide) ?_
  refine R_istore_n (pc := 1) (lv' := [(3, .int 0), (0, .ref 41), (1, .ref t), (2, .ref 43)]) dX3_absorb_1 rfl (by decide) rfl ?_
  refine R_sub [0, 1, 2, 3] rfl ?_
  refine qX3_absorb_43_loop S hn ht (nbk (ρ t)) 0 (by omega) h β S rfl (fun a_ n_ => ?_) (Fr.rf _)
  simp only [List.mem_cons, List.not_mem_nil, or_false, not_or] at n_; (try simp only [ub, if_neg, n_, if_false])
set_option maxHeartbeats 4000000 in
set_option maxRecDepth 100000 in
theorem qX3_absorb_59_loop {l : Launch} {w : am_W} {h : am_H} {n : Nat} {ρ : Nat → List (BitVec 8)} {β : Nat → bP} {κ : Nat → kT} {τ : Nat × Nat × Nat} (S : Sys h ρ β κ τ) (hn : 60 ≤ n) {t : Nat} (ht : isRw t = true) : ∀ (d i : Nat), i + d = nbk (ρ t) → ∀ h2 β2, Sys h2 ρ β2 κ τ → β2 59 = (cyN (gaS (β 42) (ρ t)) (β 59) i) → (∀ a, a ∉ [59, 45] → β2 a = β a) → Fr h h2 → RW l w mX3_absorb h2 n 0 0 2 [(3, .int (nI (16 * i))), (0, .ref 41), (1, .ref t), (2, .ref 59)] [] (fun h' n' r_ => n' = n ∧ (SX h τ none ρ (ub β 59 (gab (β 42) (ρ t) (β 59))) κ [45]) h' r_) := by
  have hlt := S.len t ht
  have hnb := nbk_b (ρ t)
  intro d
  induction d with
  | zero =>
    intro i hd h2 β2 S2 hv hB hF
    have S3 : Sys h2 ρ (ub β2 59 (cyN (gaS (β 42) (ρ t)) (β 59) i)) κ τ := Sys.know S2 hv
    have S_1 : Sys h2 ρ (ub (ub β2 59 (cyN (gaS (β 42) (ρ t)) (β 59) i)) 42 (β 42)) κ τ := Sys.know S3 (hB 42 (by decide))
    refine R_iload_n (pc := 2) 0 dX3_absorb_2 rfl rfl ?_
    refine R_aload_n (pc := 3) 2 dX3_absorb_3 rfl rfl ?_
    have := rw_cases (r := t) ht
    refine R_get (pc := 4) dX3_absorb_4 fX3_59 (S_1.rowO t ht) (by omega) rfl ?_
    refine R_eqi (y := nI (ρ t).length) (by first | rfl | (simp only [ur_s, ur_ur])) ?_
    refine R_icmp_ge (pc := 7) (tgt := 30) dX3_absorb_7 (by decide) (fun c_2 => ?_) (fun c_2 => absurd (nI_le (by omega) (by omega)) c_2)
    refine R_vreturn (pc := 30) dX3_absorb_30 rfl (by decide) (by decide) ⟨rfl, ub β2 59 (cyN (gaS (β 42) (ρ t)) (β 59) i), fun a_ n_ => ?_, rfl, S3, hF⟩
    by_cases e_ : a_ = 59
    · subst e_; rw [ub_s, ub_s]; unfold gab; rw [show nbk (ρ t) = i by omega]
    · rw [ub_n e_, ub_n e_]; exact hB a_ (by simp only [List.mem_cons, List.not_mem_nil, or_false] at n_ ⊢; omega)
  | succ d ih =>
    intro i hd h2 β2 S2 hv hB hF
    have S3 : Sys h2 ρ (ub β2 59 (cyN (gaS (β 42) (ρ t)) (β 59) i)) κ τ := Sys.know S2 hv
    have S_1 : Sys h2 ρ (ub (ub β2 59 (cyN (gaS (β 42) (ρ t)) (β 59) i)) 42 (β 42)) κ τ := Sys.know S3 (hB 42 (by decide))
    refine R_iload_n (pc := 2) 0 dX3_absorb_2 rfl rfl ?_
    refine R_aload_n (pc := 3) 2 dX3_absorb_3 rfl rfl ?_
    have := rw_cases (r := t) ht
    refine R_get (pc := 4) dX3_absorb_4 fX3_59 (S_1.rowO t ht) (by omega) rfl ?_
    refine R_eqi (y := nI (ρ t).length) (by first | rfl | (simp only [ur_s, ur_ur])) ?_
    refine R_icmp_ge (pc := 7) (tgt := 30) dX3_absorb_7 (by decide) (fun c_2 => absurd c_2 (nI_ge (by omega) (by omega))) (fun c_2 => ?_)
    refine R_aload_n (pc := 10) 1 dX3_absorb_10 rfl rfl ?_
    refine R_get (pc := 11) dX3_absorb_11 fX3_33 S_1.2.2.2.2.2.2.2.1 (by omega) rfl ?_
    refine R_aload_n (pc := 14) 2 dX3_absorb_14 rfl rfl ?_
    refine R_iload_n (pc := 15) 0 dX3_absorb_15 rfl rfl ?_
    refine R_callVh (pc := 16) (μ' := mX0_read) (As := [.ref t, .int (nI (16 * i))]) (st := []) dX3_absorb_16 zX0_read lX3_77 ⟨by decide, by decide⟩ rfl rfl ⟨by decide, by decide⟩ (S_1.blk 45 rfl) (by omega) rfl (Nat.le_of_ble_eq_true rfl) (S_read S_1 hn rfl ht (16 * i) (by omega)) (fun h_3 r_ q_4 => ?_)
    obtain ⟨rfl, S_5, F_7⟩ := q_4
    have S_6 : Sys h_3 ρ (ub (ub (ub β2 59 (cyN (gaS (β 42) (ρ t)) (β 59) i)) 42 (β 42)) 45 (rd (ρ t) (16 * i))) κ τ := S_5
    refine R_aload_n (pc := 19) 1 dX3_absorb_19 rfl rfl ?_
    refine R_aload_n (pc := 20) 3 dX3_absorb_20 rfl rfl ?_
    refine R_callVh (pc := 21) (μ' := mX3_absorbBlock) (As := [.ref 59]) (st := []) dX3_absorb_21 zX3_absorbBlock lX3_65 ⟨by decide, by decide⟩ rfl rfl ⟨by decide, by decide⟩ S_6.2.2.2.2.2.2.2.1 (by omega) rfl (Nat.le_of_ble_eq_true rfl) (qX3_absorbBlock_59 S_6 hn) (fun h_8 r_ q_9 => ?_)
    obtain ⟨rfl, S_10, F_12⟩ := q_9
    have S_11 : Sys h_8 ρ (ub (ub (ub (ub β2 59 (cyN (gaS (β 42) (ρ t)) (β 59) i)) 42 (β 42)) 45 (rd (ρ t) (16 * i))) 59 (gmu (xb (cyN (gaS (β 42) (ρ t)) (β 59) i) (rd (ρ t) (16 * i))) (β 42))) κ τ := S_10
    refine R_iinc (pc := 24) (j := 0) (v := nI (16 * (i + 1))) (lv' := [(3, .int (nI (16 * (i + 1)))), (0, .ref 41), (1, .ref t), (2, .ref 59)]) dX3_absorb_24 rfl (nI_add (16 * i) 16) (by decide) rfl ?_
    refine R_goto (pc := 27) (tgt := 2) dX3_absorb_27 (by decide) ?_
    refine R_sub [0, 1, 2, 3] rfl ?_
    refine ih (i + 1) (by omega) h_8 (ub (ub (ub (ub β2 59 (cyN (gaS (β 42) (ρ t)) (β 59) i)) 42 (β 42)) 45 (rd (ρ t) (16 * i))) 59 (gmu (xb (cyN (gaS (β 42) (ρ t)) (β 59) i) (rd (ρ t) (16 * i))) (β 42))) S_11 rfl (fun a_ n_ => ?_) (hF.tr (F_7.tr F_12))
    have q_ := hB a_ n_; simp only [List.mem_cons, List.not_mem_nil, or_false, not_or] at n_
    simp only [ub, if_neg, n_, if_false]
    first | exact q_ | (simp only [ub_k, q_]) | (repeat' split) <;> first | exact q_ | (rename_i e_; rw [e_])
set_option maxHeartbeats 4000000 in
set_option maxRecDepth 100000 in
theorem qX3_absorb_59 {l : Launch} {w : am_W} {h : am_H} {n : Nat} {ρ : Nat → List (BitVec 8)} {β : Nat → bP} {κ : Nat → kT} {τ : Nat × Nat × Nat} (S : Sys h ρ β κ τ) (hn : 60 ≤ n) {t : Nat} (ht : isRw t = true) : RH l w mX3_absorb h n [.ref 41, .ref t, .ref 59] (SX h τ none ρ (ub β 59 (gab (β 42) (ρ t) (β 59))) κ [45]) := by
  refine RC.of [(0, .ref 41), (1, .ref t), (2, .ref 59)] (by decide +kernel) rfl (Nat.le_of_ble_eq_true rfl) ?_
  refine R_iconst (pc := 0) (v := 0) dX3_absorb_0 (by decide) ?_
  refine R_istore_n (pc := 1) (lv' := [(3, .int 0), (0, .ref 41), (1, .ref t), (2, .ref 59)]) dX3_absorb_1 rfl (by decide) rfl ?_
  refine R_sub [0, 1, 2, 3] rfl ?_
  refine qX3_absorb_59_loop S hn ht (nbk (ρ t)) 0 (by omega) h β S rfl (fun a_ n_ => ?_) (Fr.rf _)
  simp only [List.mem_cons, List.not_mem_nil, or_false, not_or] at n_; (try simp only [ub, if_neg, n_, if_false])
set_option maxHeartbeats 4000000 in
set_option maxRecDepth 100000 in
theorem qX3_makeH {l : Launch} {w : am_W} {h : am_H} {n : Nat} {ρ : Nat → List (BitVec 8)} {β : Nat → bP} {κ : Nat → kT} {τ : Nat × Nat × Nat} (S : Sys h ρ β κ τ) (hn : 60 ≤ n) (hk : kOk (κ 16)) : RH l w mX3_makeH h n [.ref 41] (SQ h τ none ρ (ub β 42 (eK (κ 16) (0, 0))) κ) := by
  refine RC.of [(0, .ref 41)] (by decide +kernel) rfl (Nat.le_of_ble_eq_true rfl) ?_
  refine R_aload_n (pc := 0) 0 dX3_makeH_0 rfl rfl ?_
  refine R_get (pc := 1) dX3_makeH_1 fX3_23 S.2.2.2.2.2.2.2.1 (by omega) rfl ?_
  refine R_lconst (pc := 4) (v := 0) dX3_makeH_4 (by decide) ?_
  refine R_lconst (pc := 5) (v := 0) dX3_makeH_5 (by decide) ?_
  refine R_callVh (pc := 6) (μ' := mX0_become) (As := [.long 0, .long 0]) (st := []) dX3_makeH_6 zX0_become lX3_42 ⟨by decide, by decide⟩ rfl rfl ⟨by decide, by decide⟩ (S.blk 42 rfl) (by omega) rfl (Nat.le_of_ble_eq_true rfl) (S_become S hn rfl _ _) (fun h_1 r_ q_2 => ?_)
  obtain ⟨rfl, S_3, F_5⟩ := q_2
  have S_4 : Sys h_1 ρ (ub β 42 (0, 0)) κ τ := S_3
  refine R_aload_n (pc := 9) 0 dX3_makeH_9 rfl rfl ?_
  refine R_get (pc := 10) dX3_makeH_10 fX3_7 S_4.2.2.2.2.2.2.2.1 (by omega) rfl ?_
  refine R_aload_n (pc := 13) 0 dX3_makeH_13 rfl rfl ?_
  refine R_get (pc := 14) dX3_makeH_14 fX3_23 S_4.2.2.2.2.2.2.2.1 (by omega) rfl ?_
  refine R_callVh (pc := 17) (μ' := mX2_encrypt) (As := [.ref 42]) (st := []) dX3_makeH_17 zX2_encrypt lX3_69 ⟨by decide, by decide⟩ rfl rfl ⟨by decide, by decide⟩ (S_4.2.2.1 16 (by decide)).1 (by omega) rfl (Nat.le_of_ble_eq_true rfl) (S_encrypt S_4 hn (by decide) rfl hk.1 hk.2) (fun h_6 r_ q_7 => ?_)
  obtain ⟨rfl, S_8, F_10⟩ := q_7
  have S_9 : Sys h_6 ρ (ub (ub β 42 (0, 0)) 42 (eK (κ 16) (0, 0))) κ τ := S_8
  exact R_vreturn (pc := 20) dX3_makeH_20 rfl (by decide) (by decide) ⟨rfl, rfl, by have z_ := S_9; rw [ub_ub] at z_; exact z_, (F_5.tr F_10)⟩
def l8 (L : List (BitVec 8)) : Int64 := 8 * (nI L.length).toInt64
def gJ (H : bP) (L : List (BitVec 8)) : bP := if nI L.length = 12 then aoc (rd L 0) 15 1 else gmu (xb (gab H L (0, 0)) (0, l8 L)) H
set_option maxHeartbeats 4000000 in
set_option maxRecDepth 100000 in
theorem qX3_makeJ {l : Launch} {w : am_W} {h : am_H} {n : Nat} {ρ : Nat → List (BitVec 8)} {β : Nat → bP} {κ : Nat → kT} {τ : Nat × Nat × Nat} (S : Sys h ρ β κ τ) (hn : 60 ≤ n) : RH l w mX3_makeJ h n [.ref 41] (SX h τ none ρ (ub β 43 (gJ (β 42) (ρ 6))) κ [45]) := by
  refine RC.of [(0, .ref 41)] (by decide +kernel) rfl (Nat.le_of_ble_eq_true rfl) ?_
  have hlt := S.len 6 rfl
  refine R_aload_n (pc := 0) 0 dX3_makeJ_0 rfl rfl ?_
  refine R_get (pc := 1) dX3_makeJ_1 fX3_13 S.2.2.2.2.2.2.2.1 (by omega) rfl ?_
  skip
  refine R_get (pc := 4) dX3_makeJ_4 fX3_59 (S.rowO 6 rfl) (by omega) rfl ?_
  refine R_eqi (y := nI (ρ 6).length) (by first | rfl | (simp only [ur_s, ur_ur])) ?_
  refine R_bipush (pc := 7) (v := 12) dX3_makeJ_7 (by decide) ?_
  refine R_icmp_ne (pc := 9) (tgt := 35) dX3_makeJ_9 (by decide) (fun c_1 => ?_) (fun c_1 => ?_)
  · skip
    refine R_aload_n (pc := 35) 0 dX3_makeJ_35 rfl rfl ?_
    refine R_get (pc := 36) dX3_makeJ_36 fX3_27 S.2.2.2.2.2.2.2.1 (by omega) rfl ?_
    refine R_lconst (pc := 39) (v := 0) dX3_makeJ_39 (by decide) ?_
    refine R_lconst (pc := 40) (v := 0) dX3_makeJ_40 (by decide) ?_
    refine R_callVh (pc := 41) (μ' := mX0_become) (As := [.long 0, .long 0]) (st := []) dX3_makeJ_41 zX0_become lX3_42 ⟨by decide, by decide⟩ rfl rfl ⟨by decide, by decide⟩ (S.blk 43 rfl) (by omega) rfl (Nat.le_of_ble_eq_true rfl) (S_become S hn rfl _ _) (fun h_2 r_ q_3 => ?_)
    obtain ⟨rfl, S_4, F_6⟩ := q_3
    have S_5 : Sys h_2 ρ (ub β 43 (0, 0)) κ τ := S_4
    refine R_aload_n (pc := 44) 0 dX3_makeJ_44 rfl rfl ?_
    refine R_aload_n (pc := 45) 0 dX3_makeJ_45 rfl rfl ?_
    refine R_get (pc := 46) dX3_makeJ_46 fX3_13 S_5.2.2.2.2.2.2.2.1 (by omega) rfl ?_
    refine R_aload_n (pc := 49) 0 dX3_makeJ_49 rfl rfl ?_
    refine R_get (pc := 50) dX3_makeJ_50 fX3_27 S_5.2.2.2.2.2.2.2.1 (by omega) rfl ?_
    refine R_callVh (pc := 53) (μ' := mX3_absorb) (As := [.ref 6, .ref 43]) (st := []) dX3_makeJ_53 zX3_absorb lX3_46 ⟨by decide, by decide⟩ rfl rfl ⟨by decide, by decide⟩ S_5.2.2.2.2.2.2.2.1 (by omega) rfl (Nat.le_of_ble_eq_true rfl) (qX3_absorb_43 S_5 hn rfl) (fun h_7 r_ q_8 => ?_)
    obtain ⟨β_12, B_13, rfl, S_9, F_11⟩ := q_8
    have S_10 : Sys h_7 ρ β_12 κ τ := S_9
    have S_14 : Sys h_7 ρ (ub β_12 42 (β 42)) κ τ := Sys.know S_10 ((B_13 42 (by decide)).trans (by first | (simp only [ub, Nat.reduceEqDiff, ↓reduceIte, ur_s, ur_ur]; done) | (simp only [ub, Nat.reduceEqDiff, ↓reduceIte, ur_s, ur_ur]; rfl) | rfl))
    have S_15 : Sys h_7 ρ (ub (ub β_12 42 (β 42)) 43 (gab (β 42) (ρ 6) (0, 0))) κ τ := Sys.know S_14 ((B_13 43 (by decide)).trans (by first | (simp only [ub, Nat.reduceEqDiff, ↓reduceIte, ur_s, ur_ur]; done) | (simp only [ub, Nat.reduceEqDiff, ↓reduceIte, ur_s, ur_ur]; rfl) | rfl))
    refine R_aload_n (pc := 56) 0 dX3_makeJ_56 rfl rfl ?_
    refine R_get (pc := 57) dX3_makeJ_57 fX3_33 S_15.2.2.2.2.2.2.2.1 (by omega) rfl ?_
    refine R_lconst (pc := 60) (v := 0) dX3_makeJ_60 (by decide) ?_
    refine R_ldc2 (pc := 61) dX3_makeJ_61 cX3_57 ?_
    refine R_aload_n (pc := 64) 0 dX3_makeJ_64 rfl rfl ?_
    refine R_get (pc := 65) dX3_makeJ_65 fX3_13 S_15.2.2.2.2.2.2.2.1 (by omega) rfl ?_
    skip
    refine R_get (pc := 68) dX3_makeJ_68 fX3_59 (S_15.rowO 6 rfl) (by omega) rfl ?_
    refine R_eqi (y := nI (ρ 6).length) (by first | rfl | (simp only [ur_s, ur_ur])) ?_
    refine R_i2l (pc := 71) (v := (nI (ρ 6).length).toInt64) dX3_makeJ_71 rfl ?_
    refine R_lmul (pc := 72) dX3_makeJ_72 ?_
    refine R_callVh (pc := 73) (μ' := mX0_become) (As := [.long 0, .long ((8 : Int64) * ((nI (ρ 6).length).toInt64))]) (st := []) dX3_makeJ_73 zX0_become lX3_42 ⟨by decide, by decide⟩ rfl rfl ⟨by decide, by decide⟩ (S_15.blk 45 rfl) (by omega) rfl (Nat.le_of_ble_eq_true rfl) (S_become S_15 hn rfl _ _) (fun h_16 r_ q_17 => ?_)
    obtain ⟨rfl, S_18, F_20⟩ := q_17
    have S_19 : Sys h_16 ρ (ub (ub (ub β_12 42 (β 42)) 43 (gab (β 42) (ρ 6) (0, 0))) 45 (0, (8 : Int64) * ((nI (ρ 6).length).toInt64))) κ τ := S_18
    refine R_aload_n (pc := 76) 0 dX3_makeJ_76 rfl rfl ?_
    refine R_aload_n (pc := 77) 0 dX3_makeJ_77 rfl rfl ?_
    refine R_get (pc := 78) dX3_makeJ_78 fX3_27 S_19.2.2.2.2.2.2.2.1 (by omega) rfl ?_
    refine R_callVh (pc := 81) (μ' := mX3_absorbBlock) (As := [.ref 43]) (st := []) dX3_makeJ_81 zX3_absorbBlock lX3_65 ⟨by decide, by decide⟩ rfl rfl ⟨by decide, by decide⟩ S_19.2.2.2.2.2.2.2.1 (by omega) rfl (Nat.le_of_ble_eq_true rfl) (qX3_absorbBlock_43 S_19 hn) (fun h_21 r_ q_22 => ?_)
    obtain ⟨rfl, S_23, F_25⟩ := q_22
    have S_24 : Sys h_21 ρ (ub (ub (ub (ub β_12 42 (β 42)) 43 (gab (β 42) (ρ 6) (0, 0))) 45 (0, (8 : Int64) * ((nI (ρ 6).length).toInt64))) 43 (gmu (xb (gab (β 42) (ρ 6) (0, 0)) (0, (8 : Int64) * ((nI (ρ 6).length).toInt64))) (β 42))) κ τ := S_23
    rw [show gJ (β 42) (ρ 6) = gmu (xb (gab (β 42) (ρ 6) (0, 0)) (0, (8 : Int64) * ((nI (ρ 6).length).toInt64))) (β 42) from if_neg c_1]
    refine R_vreturn (pc := 84) dX3_makeJ_84 rfl (by decide) (by decide) ⟨rfl, (ub (ub (ub (ub β_12 42 (β 42)) 43 (gab (β 42) (ρ 6) (0, 0))) 45 (0, (8 : Int64) * ((nI (ρ 6).length).toInt64))) 43 (gmu (xb (gab (β 42) (ρ 6) (0, 0)) (0, (8 : Int64) * ((nI (ρ 6).length).toInt64))) (β 42))), ?_, rfl, S_24, (((F_6.tr F_11).tr F_20).tr F_25)⟩
    intro a_ n_
    simp only [List.mem_cons, List.not_mem_nil, or_false, not_or] at n_
    by_cases e0_ : a_ = 43
    · subst e0_; first | rfl | (simp only [ub_s]; done) | (simp (config := { decide := true }) only [ub, if_true, if_false, reduceIte]; first | rfl | skip)
    skip
    (try simp only [ub, if_neg, if_false, n_, e0_])
    (try rw [B_13 a_ (by simp [n_, e0_])])
    (try simp only [ub, if_neg, if_false, n_, e0_])
    (try simp only [ub_k])
  · skip
    refine R_aload_n (pc := 12) 0 dX3_makeJ_12 rfl rfl ?_
    refine R_get (pc := 13) dX3_makeJ_13 fX3_27 S.2.2.2.2.2.2.2.1 (by omega) rfl ?_
    refine R_aload_n (pc := 16) 0 dX3_makeJ_16 rfl rfl ?_
    refine R_get (pc := 17) dX3_makeJ_17 fX3_13 S.2.2.2.2.2.2.2.1 (by omega) rfl ?_
    refine R_iconst (pc := 20) (v := 0) dX3_makeJ_20 (by decide) ?_
    refine R_callVh (pc := 21) (μ' := mX0_read) (As := [.ref 6, .int (nI 0)]) (st := []) dX3_makeJ_21 zX0_read lX3_77 ⟨by decide, by decide⟩ rfl rfl ⟨by decide, by decide⟩ (S.blk 43 rfl) (by omega) rfl (Nat.le_of_ble_eq_true rfl) (S_read S hn rfl rfl 0 (by omega)) (fun h_26 r_ q_27 => ?_)
    obtain ⟨rfl, S_28, F_30⟩ := q_27
    have S_29 : Sys h_26 ρ (ub β 43 (rd (ρ 6) 0)) κ τ := S_28
    refine R_aload_n (pc := 24) 0 dX3_makeJ_24 rfl rfl ?_
    refine R_get (pc := 25) dX3_makeJ_25 fX3_27 S_29.2.2.2.2.2.2.2.1 (by omega) rfl ?_
    refine R_bipush (pc := 28) (v := 15) dX3_makeJ_28 (by decide) ?_
    refine R_iconst (pc := 30) (v := 1) dX3_makeJ_30 (by decide) ?_
    refine R_callVh (pc := 31) (μ' := mX0_addOctet) (As := [.int 15, .int 1]) (st := []) dX3_makeJ_31 zX0_addOctet lX3_81 ⟨by decide, by decide⟩ rfl rfl ⟨by decide, by decide⟩ (S_29.blk 43 rfl) (by omega) rfl (Nat.le_of_ble_eq_true rfl) (S_addOctet S_29 hn rfl _ _) (fun h_31 r_ q_32 => ?_)
    obtain ⟨rfl, S_33, F_35⟩ := q_32
    have S_34 : Sys h_31 ρ (ub (ub β 43 (rd (ρ 6) 0)) 43 (aoc (rd (ρ 6) 0) 15 1)) κ τ := S_33
    rw [show gJ (β 42) (ρ 6) = aoc (rd (ρ 6) 0) 15 1 from if_pos c_1]
    refine R_vreturn (pc := 34) dX3_makeJ_34 rfl (by decide) (by decide) ⟨rfl, (ub (ub β 43 (rd (ρ 6) 0)) 43 (aoc (rd (ρ 6) 0) 15 1)), ?_, rfl, S_34, (F_30.tr F_35)⟩
    intro a_ n_
    simp only [List.mem_cons, List.not_mem_nil, or_false, not_or] at n_
    by_cases e0_ : a_ = 43
    · subst e0_; first | rfl | (simp only [ub_s]; done) | (simp (config := { decide := true }) only [ub, if_true, if_false, reduceIte]; first | rfl | skip)
    skip
    (try simp only [ub, if_neg, if_false, n_, e0_])
set_option maxHeartbeats 4000000 in
set_option maxRecDepth 100000 in
theorem qX3_count_loop {l : Launch} {w : am_W} {h : am_H} {n : Nat} {ρ : Nat → List (BitVec 8)} {β : Nat → bP} {κ : Nat → kT} {τ : Nat × Nat × Nat} (S : Sys h ρ β κ τ) (hn : 60 ≤ n) {t m : Nat} (ht : isRw t = true) (hm : isRw m = true) (htm : t ≠ m) (hk : kOk (κ 16)) (hr : (ρ m).length + (ρ t).length ≤ rwN m) : ∀ (d i : Nat), i + d = nbk (ρ t) → ∀ h2 β2, Sys h2 (ur ρ m (ρ m ++ (stN (gcS (eK (κ 16)) (ρ t)) (β 43) i).2)) β2 κ τ → β2 44 = (stN (gcS (eK (κ 16)) (ρ t)) (β 43) i).1 → (∀ a, a ∉ [44, 45, 46] → β2 a = β a) → Fr h h2 → RW l w mX3_count h2 n 0 0 13 [(3, .int (nI (16 * i))), (0, .ref 41), (1, .ref t), (2, .ref m)] [] (fun h' n' r_ => n' = n ∧ (SX h τ none (ur ρ m (ρ m ++ (stN (gcS (eK (κ 16)) (ρ t)) (β 43) (nbk (ρ t))).2)) β κ [44, 45, 46]) h' r_) := by
  have hlt := S.len t ht
  have hlm := S.len m hm
  have hnb := nbk_b (ρ t)
  have htc := rw_cases ht
  have hmc := rw_cases hm
  intro d
  induction d with
  | zero =>
    intro i hd h2 β2 S2 hv hB hF
    have S3 : Sys h2 (ur ρ m (ρ m ++ (stN (gcS (eK (κ 16)) (ρ t)) (β 43) i).2)) (ub β2 44 (stN (gcS (eK (κ 16)) (ρ t)) (β 43) i).1) κ τ := Sys.know S2 hv
    refine R_iload_n (pc := 13) 0 dX3_count_13 rfl rfl ?_
    refine R_aload_n (pc := 14) 2 dX3_count_14 rfl rfl ?_
    have := rw_cases (r := t) ht
    refine R_get (pc := 15) dX3_count_15 fX3_59 (S3.rowO t ht) (by omega) rfl ?_
    refine R_eqi (y := nI (ρ t).length) (by first | rfl | (simp only [ur_s, ur_ur, ur_n (x := t) (r := m) htm])) ?_
    refine R_icmp_ge (pc := 18) (tgt := 95) dX3_count_18 (by decide) (fun c_1 => ?_) (fun c_1 => absurd (nI_le (by omega) (by omega)) c_1)
    exact R_vreturn (pc := 95) dX3_count_95 rfl (by decide) (by decide) ⟨rfl, β2, hB, rfl, by have z_ := S2; rw [show i = nbk (ρ t) by omega] at z_; exact z_, hF⟩
  | succ d ih =>
    intro i hd h2 β2 S2 hv hB hF
    have S3 : Sys h2 (ur ρ m (ρ m ++ (stN (gcS (eK (κ 16)) (ρ t)) (β 43) i).2)) (ub β2 44 (stN (gcS (eK (κ 16)) (ρ t)) (β 43) i).1) κ τ := Sys.know S2 hv
    refine R_iload_n (pc := 13) 0 dX3_count_13 rfl rfl ?_
    refine R_aload_n (pc := 14) 2 dX3_count_14 rfl rfl ?_
    have := rw_cases (r := t) ht
    refine R_get (pc := 15) dX3_count_15 fX3_59 (S3.rowO t ht) (by omega) rfl ?_
    refine R_eqi (y := nI (ρ t).length) (by first | rfl | (simp only [ur_s, ur_ur, ur_n (x := t) (r := m) htm])) ?_
    refine R_icmp_ge (pc := 18) (tgt := 95) dX3_count_18 (by decide) (fun c_1 => absurd c_1 (nI_ge (by omega) (by omega))) (fun c_1 => ?_)
    refine R_aload_n (pc := 21) 1 dX3_count_21 rfl rfl ?_
    refine R_get (pc := 22) dX3_count_22 fX3_30 S3.2.2.2.2.2.2.2.1 (by omega) rfl ?_
    refine R_callVh (pc := 25) (μ' := mX0_addOneToLastFour) (As := []) (st := []) dX3_count_25 zX0_addOneToLastFour lX3_91 ⟨by decide, by decide⟩ rfl rfl ⟨by decide, by decide⟩ (S3.blk 44 rfl) (by omega) rfl (Nat.le_of_ble_eq_true rfl) (S_addOneToLastFour S3 hn rfl) (fun h_2 r_ q_3 => ?_)
    obtain ⟨rfl, S_4, F_6⟩ := q_3
    have S_5 : Sys h_2 (ur ρ m (ρ m ++ (stN (gcS (eK (κ 16)) (ρ t)) (β 43) i).2)) (ub (ub β2 44 ((stN (gcS (eK (κ 16)) (ρ t)) (β 43) i).1)) 44 (one4 ((stN (gcS (eK (κ 16)) (ρ t)) (β 43) i).1))) κ τ := S_4
    refine R_aload_n (pc := 28) 1 dX3_count_28 rfl rfl ?_
    refine R_get (pc := 29) dX3_count_29 fX3_36 S_5.2.2.2.2.2.2.2.1 (by omega) rfl ?_
    refine R_aload_n (pc := 32) 1 dX3_count_32 rfl rfl ?_
    refine R_get (pc := 33) dX3_count_33 fX3_30 S_5.2.2.2.2.2.2.2.1 (by omega) rfl ?_
    refine R_callVh (pc := 36) (μ' := mX0_copy) (As := [.ref 44]) (st := []) dX3_count_36 zX0_copy lX3_88 ⟨by decide, by decide⟩ rfl rfl ⟨by decide, by decide⟩ (S_5.blk 46 rfl) (by omega) rfl (Nat.le_of_ble_eq_true rfl) (S_copy S_5 hn rfl rfl (by decide)) (fun h_7 r_ q_8 => ?_)
    obtain ⟨rfl, S_9, F_11⟩ := q_8
    have S_10 : Sys h_7 (ur ρ m (ρ m ++ (stN (gcS (eK (κ 16)) (ρ t)) (β 43) i).2)) (ub (ub (ub β2 44 ((stN (gcS (eK (κ 16)) (ρ t)) (β 43) i).1)) 44 (one4 ((stN (gcS (eK (κ 16)) (ρ t)) (β 43) i).1))) 46 (one4 ((stN (gcS (eK (κ 16)) (ρ t)) (β 43) i).1))) κ τ := S_9
    refine R_aload_n (pc := 39) 1 dX3_count_39 rfl rfl ?_
    refine R_get (pc := 40) dX3_count_40 fX3_7 S_10.2.2.2.2.2.2.2.1 (by omega) rfl ?_
    refine R_aload_n (pc := 43) 1 dX3_count_43 rfl rfl ?_
    refine R_get (pc := 44) dX3_count_44 fX3_36 S_10.2.2.2.2.2.2.2.1 (by omega) rfl ?_
    refine R_callVh (pc := 47) (μ' := mX2_encrypt) (As := [.ref 46]) (st := []) dX3_count_47 zX2_encrypt lX3_69 ⟨by decide, by decide⟩ rfl rfl ⟨by decide, by decide⟩ (S_10.2.2.1 16 (by decide)).1 (by omega) rfl (Nat.le_of_ble_eq_true rfl) (S_encrypt S_10 hn (by decide) rfl hk.1 hk.2) (fun h_12 r_ q_13 => ?_)
    obtain ⟨rfl, S_14, F_16⟩ := q_13
    have S_15 : Sys h_12 (ur ρ m (ρ m ++ (stN (gcS (eK (κ 16)) (ρ t)) (β 43) i).2)) (ub (ub (ub (ub β2 44 ((stN (gcS (eK (κ 16)) (ρ t)) (β 43) i).1)) 44 (one4 ((stN (gcS (eK (κ 16)) (ρ t)) (β 43) i).1))) 46 (one4 ((stN (gcS (eK (κ 16)) (ρ t)) (β 43) i).1))) 46 (eK (κ 16) (one4 ((stN (gcS (eK (κ 16)) (ρ t)) (β 43) i).1)))) κ τ := S_14
    refine R_aload_n (pc := 50) 1 dX3_count_50 rfl rfl ?_
    refine R_get (pc := 51) dX3_count_51 fX3_33 S_15.2.2.2.2.2.2.2.1 (by omega) rfl ?_
    refine R_aload_n (pc := 54) 2 dX3_count_54 rfl rfl ?_
    refine R_iload_n (pc := 55) 0 dX3_count_55 rfl rfl ?_
    refine R_callVh (pc := 56) (μ' := mX0_read) (As := [.ref t, .int (nI (16 * i))]) (st := []) dX3_count_56 zX0_read lX3_77 ⟨by decide, by decide⟩ rfl rfl ⟨by decide, by decide⟩ (S_15.blk 45 rfl) (by omega) rfl (Nat.le_of_ble_eq_true rfl) (S_read S_15 hn rfl ht (16 * i) (by omega)) (fun h_17 r_ q_18 => ?_)
    obtain ⟨rfl, S_19, F_21⟩ := q_18
    have S_20 : Sys h_17 (ur ρ m (ρ m ++ (stN (gcS (eK (κ 16)) (ρ t)) (β 43) i).2)) (ub (ub (ub (ub (ub β2 44 ((stN (gcS (eK (κ 16)) (ρ t)) (β 43) i).1)) 44 (one4 ((stN (gcS (eK (κ 16)) (ρ t)) (β 43) i).1))) 46 (one4 ((stN (gcS (eK (κ 16)) (ρ t)) (β 43) i).1))) 46 (eK (κ 16) (one4 ((stN (gcS (eK (κ 16)) (ρ t)) (β 43) i).1)))) 45 (rd (ρ t) (16 * i))) κ τ := by have z_ := S_19; (try simp only [ur_s, ur_ur, ur_n (x := t) (r := m) htm] at z_); exact z_
    refine R_aload_n (pc := 59) 1 dX3_count_59 rfl rfl ?_
    refine R_get (pc := 60) dX3_count_60 fX3_33 S_20.2.2.2.2.2.2.2.1 (by omega) rfl ?_
    refine R_aload_n (pc := 63) 1 dX3_count_63 rfl rfl ?_
    refine R_get (pc := 64) dX3_count_64 fX3_36 S_20.2.2.2.2.2.2.2.1 (by omega) rfl ?_
    refine R_callVh (pc := 67) (μ' := mX0_add) (As := [.ref 46]) (st := []) dX3_count_67 zX0_add lX3_74 ⟨by decide, by decide⟩ rfl rfl ⟨by decide, by decide⟩ (S_20.blk 45 rfl) (by omega) rfl (Nat.le_of_ble_eq_true rfl) (S_add S_20 hn rfl rfl (by decide)) (fun h_22 r_ q_23 => ?_)
    obtain ⟨rfl, S_24, F_26⟩ := q_23
    have S_25 : Sys h_22 (ur ρ m (ρ m ++ (stN (gcS (eK (κ 16)) (ρ t)) (β 43) i).2)) (ub (ub (ub (ub (ub (ub β2 44 ((stN (gcS (eK (κ 16)) (ρ t)) (β 43) i).1)) 44 (one4 ((stN (gcS (eK (κ 16)) (ρ t)) (β 43) i).1))) 46 (one4 ((stN (gcS (eK (κ 16)) (ρ t)) (β 43) i).1))) 46 (eK (κ 16) (one4 ((stN (gcS (eK (κ 16)) (ρ t)) (β 43) i).1)))) 45 (rd (ρ t) (16 * i))) 45 (xb (rd (ρ t) (16 * i)) (eK (κ 16) (one4 ((stN (gcS (eK (κ 16)) (ρ t)) (β 43) i).1))))) κ τ := by have z_ := S_24; (try simp only [ur_s, ur_ur, ur_n (x := t) (r := m) htm] at z_); exact z_
    refine R_aload_n (pc := 70) 3 dX3_count_70 rfl rfl ?_
    refine R_aload_n (pc := 71) 1 dX3_count_71 rfl rfl ?_
    refine R_get (pc := 72) dX3_count_72 fX3_33 S_25.2.2.2.2.2.2.2.1 (by omega) rfl ?_
    refine R_bipush (pc := 75) (v := 16) dX3_count_75 (by decide) ?_
    refine R_aload_n (pc := 77) 2 dX3_count_77 rfl rfl ?_
    have := rw_cases (r := t) ht
    refine R_get (pc := 78) dX3_count_78 fX3_59 (S_25.rowO t ht) (by omega) rfl ?_
    refine R_eqi (y := nI (ρ t).length) (by first | rfl | (simp only [ur_s, ur_ur, ur_n (x := t) (r := m) htm])) ?_
    refine R_iload_n (pc := 81) 0 dX3_count_81 rfl rfl ?_
    refine R_isub (pc := 82) dX3_count_82 ?_
    refine R_min (pc := 83) dX3_count_83 lX3_94 sM_min nM cM_min (by decide) (Nat.le_of_ble_eq_true rfl) (by decide) (by decide) ?_
    refine R_eqi (y := nI (mnb (ρ t) i)) (mnb_I (by omega) (by omega)) ?_
    refine R_callVh (pc := 86) (μ' := mX6_appendBlock) (As := [.ref 45, .int (nI (mnb (ρ t) i))]) (st := []) dX3_count_86 zX6_appendBlock lX3_100 ⟨by decide, by decide⟩ rfl rfl ⟨by decide, by decide⟩ (S_25.rowO m hm) (by omega) rfl (Nat.le_of_ble_eq_true rfl) (S_appendBlock S_25 hn hm rfl (mnb (ρ t) i) (by simp only [ur_s, List.length_append, stN_lenM (ρ t) (fun _ _ => gcS_len _ _ _ _)]; unfold mnb; omega)) (fun h_27 r_ q_28 => ?_)
    obtain ⟨rfl, S_29, F_31⟩ := q_28
    have S_30 : Sys h_27 (ur ρ m ((ρ m ++ (stN (gcS (eK (κ 16)) (ρ t)) (β 43) i).2) ++ bt (xb (rd (ρ t) (16 * i)) (eK (κ 16) (one4 ((stN (gcS (eK (κ 16)) (ρ t)) (β 43) i).1)))) (mnb (ρ t) i))) (ub (ub (ub (ub (ub (ub β2 44 ((stN (gcS (eK (κ 16)) (ρ t)) (β 43) i).1)) 44 (one4 ((stN (gcS (eK (κ 16)) (ρ t)) (β 43) i).1))) 46 (one4 ((stN (gcS (eK (κ 16)) (ρ t)) (β 43) i).1))) 46 (eK (κ 16) (one4 ((stN (gcS (eK (κ 16)) (ρ t)) (β 43) i).1)))) 45 (rd (ρ t) (16 * i))) 45 (xb (rd (ρ t) (16 * i)) (eK (κ 16) (one4 ((stN (gcS (eK (κ 16)) (ρ t)) (β 43) i).1))))) κ τ := by have z_ := S_29; (try simp only [ur_s, ur_ur, ur_n (x := t) (r := m) htm] at z_); exact z_
    refine R_iinc (pc := 89) (j := 0) (v := nI (16 * (i + 1))) (lv' := [(3, .int (nI (16 * (i + 1)))), (0, .ref 41), (1, .ref t), (2, .ref m)]) dX3_count_89 rfl (nI_add (16 * i) 16) (by decide) rfl ?_
    refine R_goto (pc := 92) (tgt := 13) dX3_count_92 (by decide) ?_
    refine R_sub [0, 1, 2, 3] rfl ?_
    refine ih (i + 1) (by omega) h_27 (ub (ub (ub (ub (ub (ub β2 44 ((stN (gcS (eK (κ 16)) (ρ t)) (β 43) i).1)) 44 (one4 ((stN (gcS (eK (κ 16)) (ρ t)) (β 43) i).1))) 46 (one4 ((stN (gcS (eK (κ 16)) (ρ t)) (β 43) i).1))) 46 (eK (κ 16) (one4 ((stN (gcS (eK (κ 16)) (ρ t)) (β 43) i).1)))) 45 (rd (ρ t) (16 * i))) 45 (xb (rd (ρ t) (16 * i)) (eK (κ 16) (one4 ((stN (gcS (eK (κ 16)) (ρ t)) (β 43) i).1))))) (by have z_ := S_30; rw [List.append_assoc] at z_; exact z_) rfl (fun a_ n_ => ?_) (hF.tr (((((F_6.tr F_11).tr F_16).tr F_21).tr F_26).tr F_31))
    have q_ := hB a_ n_; simp only [List.mem_cons, List.not_mem_nil, or_false, not_or] at n_; simp only [ub, if_neg, n_, if_false]; exact q_
set_option maxHeartbeats 4000000 in
set_option maxRecDepth 100000 in
theorem qX3_count {l : Launch} {w : am_W} {h : am_H} {n : Nat} {ρ : Nat → List (BitVec 8)} {β : Nat → bP} {κ : Nat → kT} {τ : Nat × Nat × Nat} (S : Sys h ρ β κ τ) (hn : 60 ≤ n) {t m : Nat} (ht : isRw t = true) (hm : isRw m = true) (htm : t ≠ m) (hk : kOk (κ 16)) (hr : (ρ m).length + (ρ t).length ≤ rwN m) : RH l w mX3_count h n [.ref 41, .ref t, .ref m] (SX h τ none (ur ρ m (ρ m ++ (stN (gcS (eK (κ 16)) (ρ t)) (β 43) (nbk (ρ t))).2)) β κ [44, 45, 46]) := by
  refine RC.of [(0, .ref 41), (1, .ref t), (2, .ref m)] (by decide +kernel) rfl (Nat.le_of_ble_eq_true rfl) ?_
  refine R_aload_n (pc := 0) 0 dX3_count_0 rfl rfl ?_
  refine R_get (pc := 1) dX3_count_1 fX3_30 S.2.2.2.2.2.2.2.1 (by omega) rfl ?_
  refine R_aload_n (pc := 4) 0 dX3_count_4 rfl rfl ?_
  refine R_get (pc := 5) dX3_count_5 fX3_27 S.2.2.2.2.2.2.2.1 (by omega) rfl ?_
  refine R_callVh (pc := 8) (μ' := mX0_copy) (As := [.ref 43]) (st := []) dX3_count_8 zX0_copy lX3_88 ⟨by decide, by decide⟩ rfl rfl ⟨by decide, by decide⟩ (S.blk 44 rfl) (by omega) rfl (Nat.le_of_ble_eq_true rfl) (S_copy S hn rfl rfl (by decide)) (fun h_1 r_ q_2 => ?_)
  obtain ⟨rfl, S_3, F_5⟩ := q_2
  have S_4 : Sys h_1 ρ (ub β 44 (β 43)) κ τ := S_3
  refine R_iconst (pc := 11) (v := 0) dX3_count_11 (by decide) ?_
  refine R_istore_n (pc := 12) (lv' := [(3, .int 0), (0, .ref 41), (1, .ref t), (2, .ref m)]) dX3_count_12 rfl (by decide) rfl ?_
  refine R_sub [0, 1, 2, 3] rfl ?_
  refine qX3_count_loop S hn ht hm htm hk hr (nbk (ρ t)) 0 (by omega) h_1 (ub β 44 (β 43)) (by have e_ : ρ m ++ (stN (gcS (eK (κ 16)) (ρ t)) (β 43) 0).2 = ρ m := List.append_nil _; rw [e_, ur_id]; exact S_4) rfl (fun a_ n_ => ?_) F_5
  simp only [List.mem_cons, List.not_mem_nil, or_false, not_or] at n_; simp only [ub, if_neg, n_, if_false]
def gcO (F : bP → bP) (L : List (BitVec 8)) (x : bP) : List (BitVec 8) := (stN (gcS F L) x (nbk L)).2
theorem gcO_len (F : bP → bP) (L : List (BitVec 8)) (x : bP) : (gcO F L x).length = L.length := by
  unfold gcO
  rw [stN_lenM L (fun _ _ => gcS_len _ _ _ _)]
  have := nbk_b L
  omega
set_option maxHeartbeats 4000000 in
set_option maxRecDepth 100000 in
theorem qX3_sumAlone {l : Launch} {w : am_W} {h : am_H} {n : Nat} {ρ : Nat → List (BitVec 8)} {β : Nat → bP} {κ : Nat → kT} {τ : Nat × Nat × Nat} (S : Sys h ρ β κ τ) (hn : 60 ≤ n) {t : Nat} (ht : isRw t = true) (hk : kOk (κ 16)) : RH l w mX3_sumAlone h n [.ref 41, .ref t, .ref 59] (SX h τ none ρ (ub (ub β 42 (eK (κ 16) (0, 0))) 59 (gab (eK (κ 16) (0, 0)) (ρ t) (0, 0))) κ [45]) := by
  refine RC.of [(0, .ref 41), (1, .ref t), (2, .ref 59)] (by decide +kernel) rfl (Nat.le_of_ble_eq_true rfl) ?_
  refine R_aload_n (pc := 0) 0 dX3_sumAlone_0 rfl rfl ?_
  refine R_callVh (pc := 1) (μ' := mX3_makeH) (As := []) (st := []) dX3_sumAlone_1 zX3_makeH lX3_39 ⟨by decide, by decide⟩ rfl rfl ⟨by decide, by decide⟩ S.2.2.2.2.2.2.2.1 (by omega) rfl (Nat.le_of_ble_eq_true rfl) (qX3_makeH S hn hk) (fun h_1 r_ q_2 => ?_)
  obtain ⟨rfl, S_3, F_5⟩ := q_2
  have S_4 : Sys h_1 ρ (ub β 42 (eK (κ 16) (0, 0))) κ τ := S_3
  refine R_aload_n (pc := 4) 2 dX3_sumAlone_4 rfl rfl ?_
  refine R_lconst (pc := 5) (v := 0) dX3_sumAlone_5 (by decide) ?_
  refine R_lconst (pc := 6) (v := 0) dX3_sumAlone_6 (by decide) ?_
  refine R_callVh (pc := 7) (μ' := mX0_become) (As := [.long 0, .long 0]) (st := []) dX3_sumAlone_7 zX0_become lX3_42 ⟨by decide, by decide⟩ rfl rfl ⟨by decide, by decide⟩ (S_4.blk 59 rfl) (by omega) rfl (Nat.le_of_ble_eq_true rfl) (S_become S_4 hn rfl _ _) (fun h_6 r_ q_7 => ?_)
  obtain ⟨rfl, S_8, F_10⟩ := q_7
  have S_9 : Sys h_6 ρ (ub (ub β 42 (eK (κ 16) (0, 0))) 59 (0, 0)) κ τ := S_8
  refine R_aload_n (pc := 10) 0 dX3_sumAlone_10 rfl rfl ?_
  refine R_aload_n (pc := 11) 1 dX3_sumAlone_11 rfl rfl ?_
  refine R_aload_n (pc := 12) 2 dX3_sumAlone_12 rfl rfl ?_
  refine R_callVh (pc := 13) (μ' := mX3_absorb) (As := [.ref t, .ref 59]) (st := []) dX3_sumAlone_13 zX3_absorb lX3_46 ⟨by decide, by decide⟩ rfl rfl ⟨by decide, by decide⟩ S_9.2.2.2.2.2.2.2.1 (by omega) rfl (Nat.le_of_ble_eq_true rfl) (qX3_absorb_59 S_9 hn ht) (fun h_11 r_ q_12 => ?_)
  obtain ⟨β_16, B_17, rfl, S_13, F_15⟩ := q_12
  have S_14 : Sys h_11 ρ β_16 κ τ := S_13
  have S_18 : Sys h_11 ρ (ub β_16 42 (eK (κ 16) (0, 0))) κ τ := Sys.know S_14 ((B_17 42 (by decide)).trans (by first | (simp only [ub, Nat.reduceEqDiff, ↓reduceIte, ur_s, ur_ur]; done) | (simp only [ub, Nat.reduceEqDiff, ↓reduceIte, ur_s, ur_ur]; rfl) | rfl))
  have S_19 : Sys h_11 ρ (ub (ub β_16 42 (eK (κ 16) (0, 0))) 59 (gab (eK (κ 16) (0, 0)) (ρ t) (0, 0))) κ τ := Sys.know S_18 ((B_17 59 (by decide)).trans (by first | (simp only [ub, Nat.reduceEqDiff, ↓reduceIte, ur_s, ur_ur]; done) | (simp only [ub, Nat.reduceEqDiff, ↓reduceIte, ur_s, ur_ur]; rfl) | rfl))
  refine R_vreturn (pc := 16) dX3_sumAlone_16 rfl (by decide) (by decide) ⟨rfl, (ub (ub β_16 42 (eK (κ 16) (0, 0))) 59 (gab (eK (κ 16) (0, 0)) (ρ t) (0, 0))), ?_, rfl, S_19, ((F_5.tr F_10).tr F_15)⟩
  intro a_ n_
  simp only [List.mem_cons, List.not_mem_nil, or_false, not_or] at n_
  by_cases e0_ : a_ = 59
  · subst e0_; first | rfl | (simp only [ub_s]; done) | (simp (config := { decide := true }) only [ub, if_true, if_false, reduceIte]; first | rfl | skip)
  by_cases e1_ : a_ = 42
  · subst e1_; first | rfl | (simp only [ub_s]; done) | (simp (config := { decide := true }) only [ub, if_true, if_false, reduceIte]; first | rfl | skip)
  skip
  (try simp only [ub, if_neg, if_false, n_, e0_, e1_])
  (try rw [B_17 a_ (by simp [n_, e0_, e1_])])
  (try simp only [ub, if_neg, if_false, n_, e0_, e1_])
  (try simp only [ub_k])
/-- GALOIS: the tag, X being what is summed -/
def gTag (F : bP → bP) (A X T st : List (BitVec 8)) : bP :=
  let H := F (0, 0)
  xb (gmu (xb (gab H X (gab H A (0, 0))) (l8 A, l8 T)) H) (F (gJ H st))
set_option maxHeartbeats 4000000 in
set_option maxRecDepth 100000 in
theorem qX3_run {l : Launch} {w : am_W} {h : am_H} {n : Nat} {ρ : Nat → List (BitVec 8)} {β : Nat → bP} {κ : Nat → kT} {τ : Nat × Nat × Nat} (S : Sys h ρ β κ τ) (hn : 60 ≤ n) {t m : Nat} (ht : isRw t = true) (hm : isRw m = true) (htm : t ≠ m) (hm8 : (8 : Nat) ≠ m) (hm6 : (6 : Nat) ≠ m) (op : Int32) (hk : kOk (κ 16)) (hr : (ρ m).length + (ρ t).length ≤ rwN m) : RH l w mX3_run h n [.ref 41, .ref t, .int op, .ref m, .ref 59] (SX h τ none (ur ρ m (ρ m ++ gcO (eK (κ 16)) (ρ t) (gJ (eK (κ 16) (0, 0)) (ρ 6)))) (ub β 59 (gTag (eK (κ 16)) (ρ 8) (if op = 0 then ρ m ++ gcO (eK (κ 16)) (ρ t) (gJ (eK (κ 16) (0, 0)) (ρ 6)) else ρ t) (ρ t) (ρ 6))) κ [42, 43, 44, 45, 46]) := by
  refine RC.of [(0, .ref 41), (1, .ref t), (2, .int op), (3, .ref m), (4, .ref 59)] (by decide +kernel) rfl (Nat.le_of_ble_eq_true rfl) ?_
  have hlt := S.len t ht
  have hla := S.len 8 rfl
  have htc := rw_cases ht
  have hmc := rw_cases hm
  refine R_aload_n (pc := 0) 0 dX3_run_0 rfl rfl ?_
  refine R_callVh (pc := 1) (μ' := mX3_makeH) (As := []) (st := []) dX3_run_1 zX3_makeH lX3_39 ⟨by decide, by decide⟩ rfl rfl ⟨by decide, by decide⟩ S.2.2.2.2.2.2.2.1 (by omega) rfl (Nat.le_of_ble_eq_true rfl) (qX3_makeH S hn hk) (fun h_1 r_ q_2 => ?_)
  obtain ⟨rfl, S_3, F_5⟩ := q_2
  have S_4 : Sys h_1 ρ (ub β 42 (eK (κ 16) (0, 0))) κ τ := S_3
  refine R_aload_n (pc := 4) 0 dX3_run_4 rfl rfl ?_
  refine R_callVh (pc := 5) (μ' := mX3_makeJ) (As := []) (st := []) dX3_run_5 zX3_makeJ lX3_50 ⟨by decide, by decide⟩ rfl rfl ⟨by decide, by decide⟩ S_4.2.2.2.2.2.2.2.1 (by omega) rfl (Nat.le_of_ble_eq_true rfl) (qX3_makeJ S_4 hn) (fun h_6 r_ q_7 => ?_)
  obtain ⟨β_11, B_12, rfl, S_8, F_10⟩ := q_7
  have S_9 : Sys h_6 ρ β_11 κ τ := S_8
  have S_13 : Sys h_6 ρ (ub β_11 42 (eK (κ 16) (0, 0))) κ τ := Sys.know S_9 ((B_12 42 (by decide)).trans (by first | (simp only [ub, Nat.reduceEqDiff, ↓reduceIte, ur_s, ur_ur]; done) | (simp only [ub, Nat.reduceEqDiff, ↓reduceIte, ur_s, ur_ur]; rfl) | rfl))
  have S_14 : Sys h_6 ρ (ub (ub β_11 42 (eK (κ 16) (0, 0))) 43 (gJ (eK (κ 16) (0, 0)) (ρ 6))) κ τ := Sys.know S_13 ((B_12 43 (by decide)).trans (by first | (simp only [ub, Nat.reduceEqDiff, ↓reduceIte, ur_s, ur_ur]; done) | (simp only [ub, Nat.reduceEqDiff, ↓reduceIte, ur_s, ur_ur]; rfl) | rfl))
  refine R_aload_n (pc := 8) 0 dX3_run_8 rfl rfl ?_
  refine R_aload_n (pc := 9) 1 dX3_run_9 rfl rfl ?_
  refine R_aload_n (pc := 10) 3 dX3_run_10 rfl rfl ?_
  refine R_callVh (pc := 11) (μ' := mX3_count) (As := [.ref t, .ref m]) (st := []) dX3_run_11 zX3_count lX3_53 ⟨by decide, by decide⟩ rfl rfl ⟨by decide, by decide⟩ S_14.2.2.2.2.2.2.2.1 (by omega) rfl (Nat.le_of_ble_eq_true rfl) (qX3_count S_14 hn ht hm htm hk hr) (fun h_15 r_ q_16 => ?_)
  obtain ⟨β_20, B_21, rfl, S_17, F_19⟩ := q_16
  have S_18 : Sys h_15 (ur ρ m ((ρ m) ++ gcO (eK (κ 16)) (ρ t) (gJ (eK (κ 16) (0, 0)) (ρ 6)))) β_20 κ τ := by have z_ := S_17; (try simp only [ub, Nat.reduceEqDiff, ↓reduceIte, ur_s, ur_ur, ur_n (x := t) (r := m) htm, ur_n (x := 6) (r := m) hm6, ur_n (x := 8) (r := m) hm8] at z_); exact z_
  have S_22 : Sys h_15 (ur ρ m ((ρ m) ++ gcO (eK (κ 16)) (ρ t) (gJ (eK (κ 16) (0, 0)) (ρ 6)))) (ub β_20 42 (eK (κ 16) (0, 0))) κ τ := Sys.know S_18 ((B_21 42 (by decide)).trans (by first | (simp only [ub, Nat.reduceEqDiff, ↓reduceIte, ur_s, ur_ur, ur_n (x := t) (r := m) htm, ur_n (x := 6) (r := m) hm6, ur_n (x := 8) (r := m) hm8]; done) | (simp only [ub, Nat.reduceEqDiff, ↓reduceIte, ur_s, ur_ur, ur_n (x := t) (r := m) htm, ur_n (x := 6) (r := m) hm6, ur_n (x := 8) (r := m) hm8]; rfl) | rfl))
  have S_23 : Sys h_15 (ur ρ m ((ρ m) ++ gcO (eK (κ 16)) (ρ t) (gJ (eK (κ 16) (0, 0)) (ρ 6)))) (ub (ub β_20 42 (eK (κ 16) (0, 0))) 43 (gJ (eK (κ 16) (0, 0)) (ρ 6))) κ τ := Sys.know S_22 ((B_21 43 (by decide)).trans (by first | (simp only [ub, Nat.reduceEqDiff, ↓reduceIte, ur_s, ur_ur, ur_n (x := t) (r := m) htm, ur_n (x := 6) (r := m) hm6, ur_n (x := 8) (r := m) hm8]; done) | (simp only [ub, Nat.reduceEqDiff, ↓reduceIte, ur_s, ur_ur, ur_n (x := t) (r := m) htm, ur_n (x := 6) (r := m) hm6, ur_n (x := 8) (r := m) hm8]; rfl) | rfl))
  refine R_aload (pc := 14) 4 dX3_run_14 rfl ?_
  refine R_lconst (pc := 16) (v := 0) dX3_run_16 (by decide) ?_
  refine R_lconst (pc := 17) (v := 0) dX3_run_17 (by decide) ?_
  refine R_callVh (pc := 18) (μ' := mX0_become) (As := [.long 0, .long 0]) (st := []) dX3_run_18 zX0_become lX3_42 ⟨by decide, by decide⟩ rfl rfl ⟨by decide, by decide⟩ (S_23.blk 59 rfl) (by omega) rfl (Nat.le_of_ble_eq_true rfl) (S_become S_23 hn rfl _ _) (fun h_24 r_ q_25 => ?_)
  obtain ⟨rfl, S_26, F_28⟩ := q_25
  have S_27 : Sys h_24 (ur ρ m ((ρ m) ++ gcO (eK (κ 16)) (ρ t) (gJ (eK (κ 16) (0, 0)) (ρ 6)))) (ub (ub (ub β_20 42 (eK (κ 16) (0, 0))) 43 (gJ (eK (κ 16) (0, 0)) (ρ 6))) 59 (0, 0)) κ τ := S_26
  refine R_aload_n (pc := 21) 0 dX3_run_21 rfl rfl ?_
  refine R_aload_n (pc := 22) 0 dX3_run_22 rfl rfl ?_
  refine R_get (pc := 23) dX3_run_23 fX3_17 S_27.2.2.2.2.2.2.2.1 (by omega) rfl ?_
  refine R_aload (pc := 26) 4 dX3_run_26 rfl ?_
  refine R_callVh (pc := 28) (μ' := mX3_absorb) (As := [.ref 8, .ref 59]) (st := []) dX3_run_28 zX3_absorb lX3_46 ⟨by decide, by decide⟩ rfl rfl ⟨by decide, by decide⟩ S_27.2.2.2.2.2.2.2.1 (by omega) rfl (Nat.le_of_ble_eq_true rfl) (qX3_absorb_59 S_27 hn rfl) (fun h_29 r_ q_30 => ?_)
  obtain ⟨β_34, B_35, rfl, S_31, F_33⟩ := q_30
  have S_32 : Sys h_29 (ur ρ m ((ρ m) ++ gcO (eK (κ 16)) (ρ t) (gJ (eK (κ 16) (0, 0)) (ρ 6)))) β_34 κ τ := S_31
  have S_36 : Sys h_29 (ur ρ m ((ρ m) ++ gcO (eK (κ 16)) (ρ t) (gJ (eK (κ 16) (0, 0)) (ρ 6)))) (ub β_34 42 (eK (κ 16) (0, 0))) κ τ := Sys.know S_32 ((B_35 42 (by decide)).trans (by first | (simp only [ub, Nat.reduceEqDiff, ↓reduceIte, ur_s, ur_ur, ur_n (x := t) (r := m) htm, ur_n (x := 6) (r := m) hm6, ur_n (x := 8) (r := m) hm8]; done) | (simp only [ub, Nat.reduceEqDiff, ↓reduceIte, ur_s, ur_ur, ur_n (x := t) (r := m) htm, ur_n (x := 6) (r := m) hm6, ur_n (x := 8) (r := m) hm8]; rfl) | rfl))
  have S_37 : Sys h_29 (ur ρ m ((ρ m) ++ gcO (eK (κ 16)) (ρ t) (gJ (eK (κ 16) (0, 0)) (ρ 6)))) (ub (ub β_34 42 (eK (κ 16) (0, 0))) 43 (gJ (eK (κ 16) (0, 0)) (ρ 6))) κ τ := Sys.know S_36 ((B_35 43 (by decide)).trans (by first | (simp only [ub, Nat.reduceEqDiff, ↓reduceIte, ur_s, ur_ur, ur_n (x := t) (r := m) htm, ur_n (x := 6) (r := m) hm6, ur_n (x := 8) (r := m) hm8]; done) | (simp only [ub, Nat.reduceEqDiff, ↓reduceIte, ur_s, ur_ur, ur_n (x := t) (r := m) htm, ur_n (x := 6) (r := m) hm6, ur_n (x := 8) (r := m) hm8]; rfl) | rfl))
  have S_38 : Sys h_29 (ur ρ m ((ρ m) ++ gcO (eK (κ 16)) (ρ t) (gJ (eK (κ 16) (0, 0)) (ρ 6)))) (ub (ub (ub β_34 42 (eK (κ 16) (0, 0))) 43 (gJ (eK (κ 16) (0, 0)) (ρ 6))) 59 (gab (eK (κ 16) (0, 0)) (ρ 8) (0, 0))) κ τ := Sys.know S_37 ((B_35 59 (by decide)).trans (by first | (simp only [ub, Nat.reduceEqDiff, ↓reduceIte, ur_s, ur_ur, ur_n (x := t) (r := m) htm, ur_n (x := 6) (r := m) hm6, ur_n (x := 8) (r := m) hm8]; done) | (simp only [ub, Nat.reduceEqDiff, ↓reduceIte, ur_s, ur_ur, ur_n (x := t) (r := m) htm, ur_n (x := 6) (r := m) hm6, ur_n (x := 8) (r := m) hm8]; rfl) | rfl))
  refine R_aload_n (pc := 31) 0 dX3_run_31 rfl rfl ?_
  refine R_iload_n (pc := 32) 2 dX3_run_32 rfl rfl ?_
  refine R_if_eq (pc := 33) (tgt := 40) dX3_run_33 (by decide) (fun c_39 => ?_) (fun c_39 => ?_)
  · skip
    refine R_aload_n (pc := 40) 3 dX3_run_40 rfl rfl ?_
    refine R_aload (pc := 41) 4 dX3_run_41 rfl ?_
    refine R_callVh (pc := 43) (μ' := mX3_absorb) (As := [.ref m, .ref 59]) (st := []) dX3_run_43 zX3_absorb lX3_46 ⟨by decide, by decide⟩ rfl rfl ⟨by decide, by decide⟩ S_38.2.2.2.2.2.2.2.1 (by omega) rfl (Nat.le_of_ble_eq_true rfl) (qX3_absorb_59 S_38 hn hm) (fun h_40 r_ q_41 => ?_)
    obtain ⟨β_45, B_46, rfl, S_42, F_44⟩ := q_41
    have S_43 : Sys h_40 (ur ρ m ((ρ m) ++ gcO (eK (κ 16)) (ρ t) (gJ (eK (κ 16) (0, 0)) (ρ 6)))) β_45 κ τ := S_42
    have S_47 : Sys h_40 (ur ρ m ((ρ m) ++ gcO (eK (κ 16)) (ρ t) (gJ (eK (κ 16) (0, 0)) (ρ 6)))) (ub β_45 42 (eK (κ 16) (0, 0))) κ τ := Sys.know S_43 ((B_46 42 (by decide)).trans (by first | (simp only [ub, Nat.reduceEqDiff, ↓reduceIte, ur_s, ur_ur, ur_n (x := t) (r := m) htm, ur_n (x := 6) (r := m) hm6, ur_n (x := 8) (r := m) hm8]; done) | (simp only [ub, Nat.reduceEqDiff, ↓reduceIte, ur_s, ur_ur, ur_n (x := t) (r := m) htm, ur_n (x := 6) (r := m) hm6, ur_n (x := 8) (r := m) hm8]; rfl) | rfl))
    have S_48 : Sys h_40 (ur ρ m ((ρ m) ++ gcO (eK (κ 16)) (ρ t) (gJ (eK (κ 16) (0, 0)) (ρ 6)))) (ub (ub β_45 42 (eK (κ 16) (0, 0))) 43 (gJ (eK (κ 16) (0, 0)) (ρ 6))) κ τ := Sys.know S_47 ((B_46 43 (by decide)).trans (by first | (simp only [ub, Nat.reduceEqDiff, ↓reduceIte, ur_s, ur_ur, ur_n (x := t) (r := m) htm, ur_n (x := 6) (r := m) hm6, ur_n (x := 8) (r := m) hm8]; done) | (simp only [ub, Nat.reduceEqDiff, ↓reduceIte, ur_s, ur_ur, ur_n (x := t) (r := m) htm, ur_n (x := 6) (r := m) hm6, ur_n (x := 8) (r := m) hm8]; rfl) | rfl))
    have S_49 : Sys h_40 (ur ρ m ((ρ m) ++ gcO (eK (κ 16)) (ρ t) (gJ (eK (κ 16) (0, 0)) (ρ 6)))) (ub (ub (ub β_45 42 (eK (κ 16) (0, 0))) 43 (gJ (eK (κ 16) (0, 0)) (ρ 6))) 59 (gab (eK (κ 16) (0, 0)) ((ρ m) ++ gcO (eK (κ 16)) (ρ t) (gJ (eK (κ 16) (0, 0)) (ρ 6))) (gab (eK (κ 16) (0, 0)) (ρ 8) (0, 0)))) κ τ := Sys.know S_48 ((B_46 59 (by decide)).trans (by first | (simp only [ub, Nat.reduceEqDiff, ↓reduceIte, ur_s, ur_ur, ur_n (x := t) (r := m) htm, ur_n (x := 6) (r := m) hm6, ur_n (x := 8) (r := m) hm8]; done) | (simp only [ub, Nat.reduceEqDiff, ↓reduceIte, ur_s, ur_ur, ur_n (x := t) (r := m) htm, ur_n (x := 6) (r := m) hm6, ur_n (x := 8) (r := m) hm8]; rfl) | rfl))
    refine R_aload_n (pc := 46) 0 dX3_run_46 rfl rfl ?_
    refine R_get (pc := 47) dX3_run_47 fX3_33 S_49.2.2.2.2.2.2.2.1 (by omega) rfl ?_
    refine R_ldc2 (pc := 50) dX3_run_50 cX3_57 ?_
    refine R_aload_n (pc := 53) 0 dX3_run_53 rfl rfl ?_
    refine R_get (pc := 54) dX3_run_54 fX3_17 S_49.2.2.2.2.2.2.2.1 (by omega) rfl ?_
    skip
    refine R_get (pc := 57) dX3_run_57 fX3_59 (S_49.rowO 8 rfl) (by omega) rfl ?_
    refine R_eqi (y := nI (ρ 8).length) (by first | rfl | (simp only [ur_s, ur_ur, ur_n (x := t) (r := m) htm, ur_n (x := 6) (r := m) hm6, ur_n (x := 8) (r := m) hm8])) ?_
    refine R_i2l (pc := 60) (v := (nI (ρ 8).length).toInt64) dX3_run_60 rfl ?_
    refine R_lmul (pc := 61) dX3_run_61 ?_
    refine R_ldc2 (pc := 62) dX3_run_62 cX3_57 ?_
    refine R_aload_n (pc := 65) 1 dX3_run_65 rfl rfl ?_
    have := rw_cases (r := t) ht
    refine R_get (pc := 66) dX3_run_66 fX3_59 (S_49.rowO t ht) (by omega) rfl ?_
    refine R_eqi (y := nI (ρ t).length) (by first | rfl | (simp only [ur_s, ur_ur, ur_n (x := t) (r := m) htm, ur_n (x := 6) (r := m) hm6, ur_n (x := 8) (r := m) hm8])) ?_
    refine R_i2l (pc := 69) (v := (nI (ρ t).length).toInt64) dX3_run_69 rfl ?_
    refine R_lmul (pc := 70) dX3_run_70 ?_
    refine R_callVh (pc := 71) (μ' := mX0_become) (As := [.long ((8 : Int64) * ((nI (ρ 8).length).toInt64)), .long ((8 : Int64) * ((nI (ρ t).length).toInt64))]) (st := []) dX3_run_71 zX0_become lX3_42 ⟨by decide, by decide⟩ rfl rfl ⟨by decide, by decide⟩ (S_49.blk 45 rfl) (by omega) rfl (Nat.le_of_ble_eq_true rfl) (S_become S_49 hn rfl _ _) (fun h_50 r_ q_51 => ?_)
    obtain ⟨rfl, S_52, F_54⟩ := q_51
    have S_53 : Sys h_50 (ur ρ m ((ρ m) ++ gcO (eK (κ 16)) (ρ t) (gJ (eK (κ 16) (0, 0)) (ρ 6)))) (ub (ub (ub (ub β_45 42 (eK (κ 16) (0, 0))) 43 (gJ (eK (κ 16) (0, 0)) (ρ 6))) 59 (gab (eK (κ 16) (0, 0)) ((ρ m) ++ gcO (eK (κ 16)) (ρ t) (gJ (eK (κ 16) (0, 0)) (ρ 6))) (gab (eK (κ 16) (0, 0)) (ρ 8) (0, 0)))) 45 ((8 : Int64) * ((nI (ρ 8).length).toInt64), (8 : Int64) * ((nI (ρ t).length).toInt64))) κ τ := S_52
    refine R_aload_n (pc := 74) 0 dX3_run_74 rfl rfl ?_
    refine R_aload (pc := 75) 4 dX3_run_75 rfl ?_
    refine R_callVh (pc := 77) (μ' := mX3_absorbBlock) (As := [.ref 59]) (st := []) dX3_run_77 zX3_absorbBlock lX3_65 ⟨by decide, by decide⟩ rfl rfl ⟨by decide, by decide⟩ S_53.2.2.2.2.2.2.2.1 (by omega) rfl (Nat.le_of_ble_eq_true rfl) (qX3_absorbBlock_59 S_53 hn) (fun h_55 r_ q_56 => ?_)
    obtain ⟨rfl, S_57, F_59⟩ := q_56
    have S_58 : Sys h_55 (ur ρ m ((ρ m) ++ gcO (eK (κ 16)) (ρ t) (gJ (eK (κ 16) (0, 0)) (ρ 6)))) (ub (ub (ub (ub (ub β_45 42 (eK (κ 16) (0, 0))) 43 (gJ (eK (κ 16) (0, 0)) (ρ 6))) 59 (gab (eK (κ 16) (0, 0)) ((ρ m) ++ gcO (eK (κ 16)) (ρ t) (gJ (eK (κ 16) (0, 0)) (ρ 6))) (gab (eK (κ 16) (0, 0)) (ρ 8) (0, 0)))) 45 ((8 : Int64) * ((nI (ρ 8).length).toInt64), (8 : Int64) * ((nI (ρ t).length).toInt64))) 59 (gmu (xb (gab (eK (κ 16) (0, 0)) ((ρ m) ++ gcO (eK (κ 16)) (ρ t) (gJ (eK (κ 16) (0, 0)) (ρ 6))) (gab (eK (κ 16) (0, 0)) (ρ 8) (0, 0))) ((8 : Int64) * ((nI (ρ 8).length).toInt64), (8 : Int64) * ((nI (ρ t).length).toInt64))) (eK (κ 16) (0, 0)))) κ τ := S_57
    refine R_aload_n (pc := 80) 0 dX3_run_80 rfl rfl ?_
    refine R_get (pc := 81) dX3_run_81 fX3_7 S_58.2.2.2.2.2.2.2.1 (by omega) rfl ?_
    refine R_aload_n (pc := 84) 0 dX3_run_84 rfl rfl ?_
    refine R_get (pc := 85) dX3_run_85 fX3_27 S_58.2.2.2.2.2.2.2.1 (by omega) rfl ?_
    refine R_callVh (pc := 88) (μ' := mX2_encrypt) (As := [.ref 43]) (st := []) dX3_run_88 zX2_encrypt lX3_69 ⟨by decide, by decide⟩ rfl rfl ⟨by decide, by decide⟩ (S_58.2.2.1 16 (by decide)).1 (by omega) rfl (Nat.le_of_ble_eq_true rfl) (S_encrypt S_58 hn (by decide) rfl hk.1 hk.2) (fun h_60 r_ q_61 => ?_)
    obtain ⟨rfl, S_62, F_64⟩ := q_61
    have S_63 : Sys h_60 (ur ρ m ((ρ m) ++ gcO (eK (κ 16)) (ρ t) (gJ (eK (κ 16) (0, 0)) (ρ 6)))) (ub (ub (ub (ub (ub (ub β_45 42 (eK (κ 16) (0, 0))) 43 (gJ (eK (κ 16) (0, 0)) (ρ 6))) 59 (gab (eK (κ 16) (0, 0)) ((ρ m) ++ gcO (eK (κ 16)) (ρ t) (gJ (eK (κ 16) (0, 0)) (ρ 6))) (gab (eK (κ 16) (0, 0)) (ρ 8) (0, 0)))) 45 ((8 : Int64) * ((nI (ρ 8).length).toInt64), (8 : Int64) * ((nI (ρ t).length).toInt64))) 59 (gmu (xb (gab (eK (κ 16) (0, 0)) ((ρ m) ++ gcO (eK (κ 16)) (ρ t) (gJ (eK (κ 16) (0, 0)) (ρ 6))) (gab (eK (κ 16) (0, 0)) (ρ 8) (0, 0))) ((8 : Int64) * ((nI (ρ 8).length).toInt64), (8 : Int64) * ((nI (ρ t).length).toInt64))) (eK (κ 16) (0, 0)))) 43 (eK (κ 16) (gJ (eK (κ 16) (0, 0)) (ρ 6)))) κ τ := S_62
    refine R_aload (pc := 91) 4 dX3_run_91 rfl ?_
    refine R_aload_n (pc := 93) 0 dX3_run_93 rfl rfl ?_
    refine R_get (pc := 94) dX3_run_94 fX3_27 S_63.2.2.2.2.2.2.2.1 (by omega) rfl ?_
    refine R_callVh (pc := 97) (μ' := mX0_add) (As := [.ref 43]) (st := []) dX3_run_97 zX0_add lX3_74 ⟨by decide, by decide⟩ rfl rfl ⟨by decide, by decide⟩ (S_63.blk 59 rfl) (by omega) rfl (Nat.le_of_ble_eq_true rfl) (S_add S_63 hn rfl rfl (by decide)) (fun h_65 r_ q_66 => ?_)
    obtain ⟨rfl, S_67, F_69⟩ := q_66
    have S_68 : Sys h_65 (ur ρ m ((ρ m) ++ gcO (eK (κ 16)) (ρ t) (gJ (eK (κ 16) (0, 0)) (ρ 6)))) (ub (ub (ub (ub (ub (ub (ub β_45 42 (eK (κ 16) (0, 0))) 43 (gJ (eK (κ 16) (0, 0)) (ρ 6))) 59 (gab (eK (κ 16) (0, 0)) ((ρ m) ++ gcO (eK (κ 16)) (ρ t) (gJ (eK (κ 16) (0, 0)) (ρ 6))) (gab (eK (κ 16) (0, 0)) (ρ 8) (0, 0)))) 45 ((8 : Int64) * ((nI (ρ 8).length).toInt64), (8 : Int64) * ((nI (ρ t).length).toInt64))) 59 (gmu (xb (gab (eK (κ 16) (0, 0)) ((ρ m) ++ gcO (eK (κ 16)) (ρ t) (gJ (eK (κ 16) (0, 0)) (ρ 6))) (gab (eK (κ 16) (0, 0)) (ρ 8) (0, 0))) ((8 : Int64) * ((nI (ρ 8).length).toInt64), (8 : Int64) * ((nI (ρ t).length).toInt64))) (eK (κ 16) (0, 0)))) 43 (eK (κ 16) (gJ (eK (κ 16) (0, 0)) (ρ 6)))) 59 (xb (gmu (xb (gab (eK (κ 16) (0, 0)) ((ρ m) ++ gcO (eK (κ 16)) (ρ t) (gJ (eK (κ 16) (0, 0)) (ρ 6))) (gab (eK (κ 16) (0, 0)) (ρ 8) (0, 0))) ((8 : Int64) * ((nI (ρ 8).length).toInt64), (8 : Int64) * ((nI (ρ t).length).toInt64))) (eK (κ 16) (0, 0))) (eK (κ 16) (gJ (eK (κ 16) (0, 0)) (ρ 6))))) κ τ := S_67
    rw [if_pos c_39]
    refine R_vreturn (pc := 100) dX3_run_100 rfl (by decide) (by decide) ⟨rfl, (ub (ub (ub (ub (ub (ub (ub β_45 42 (eK (κ 16) (0, 0))) 43 (gJ (eK (κ 16) (0, 0)) (ρ 6))) 59 (gab (eK (κ 16) (0, 0)) ((ρ m) ++ gcO (eK (κ 16)) (ρ t) (gJ (eK (κ 16) (0, 0)) (ρ 6))) (gab (eK (κ 16) (0, 0)) (ρ 8) (0, 0)))) 45 ((8 : Int64) * ((nI (ρ 8).length).toInt64), (8 : Int64) * ((nI (ρ t).length).toInt64))) 59 (gmu (xb (gab (eK (κ 16) (0, 0)) ((ρ m) ++ gcO (eK (κ 16)) (ρ t) (gJ (eK (κ 16) (0, 0)) (ρ 6))) (gab (eK (κ 16) (0, 0)) (ρ 8) (0, 0))) ((8 : Int64) * ((nI (ρ 8).length).toInt64), (8 : Int64) * ((nI (ρ t).length).toInt64))) (eK (κ 16) (0, 0)))) 43 (eK (κ 16) (gJ (eK (κ 16) (0, 0)) (ρ 6)))) 59 (xb (gmu (xb (gab (eK (κ 16) (0, 0)) ((ρ m) ++ gcO (eK (κ 16)) (ρ t) (gJ (eK (κ 16) (0, 0)) (ρ 6))) (gab (eK (κ 16) (0, 0)) (ρ 8) (0, 0))) ((8 : Int64) * ((nI (ρ 8).length).toInt64), (8 : Int64) * ((nI (ρ t).length).toInt64))) (eK (κ 16) (0, 0))) (eK (κ 16) (gJ (eK (κ 16) (0, 0)) (ρ 6))))), ?_, rfl, S_68, (((((((((F_5.tr F_10).tr F_19).tr F_28).tr F_33).tr F_44).tr F_54).tr F_59).tr F_64).tr F_69)⟩
    intro a_ n_
    simp only [List.mem_cons, List.not_mem_nil, or_false, not_or] at n_
    by_cases e0_ : a_ = 59
    · subst e0_; first | rfl | (simp only [ub_s]; done) | (simp (config := { decide := true }) only [ub, if_true, if_false, reduceIte]; first | rfl | skip)
    skip
    (try simp only [ub, if_neg, if_false, n_, e0_])
    (try rw [B_46 a_ (by simp [n_, e0_])])
    (try simp only [ub, if_neg, if_false, n_, e0_])
    (try simp only [ub_k])
    (try rw [B_35 a_ (by simp [n_, e0_])])
    (try simp only [ub, if_neg, if_false, n_, e0_])
    (try simp only [ub_k])
    (try rw [B_21 a_ (by simp [n_, e0_])])
    (try simp only [ub, if_neg, if_false, n_, e0_])
    (try simp only [ub_k])
    (try rw [B_12 a_ (by simp [n_, e0_])])
    (try simp only [ub, if_neg, if_false, n_, e0_])
    (try simp only [ub_k])
  · skip
    refine R_aload_n (pc := 36) 1 dX3_run_36 rfl rfl ?_
    refine R_goto (pc := 37) (tgt := 41) dX3_run_37 (by decide) ?_
    refine R_aload (pc := 41) 4 dX3_run_41 rfl ?_
    refine R_callVh (pc := 43) (μ' := mX3_absorb) (As := [.ref t, .ref 59]) (st := []) dX3_run_43 zX3_absorb lX3_46 ⟨by decide, by decide⟩ rfl rfl ⟨by decide, by decide⟩ S_38.2.2.2.2.2.2.2.1 (by omega) rfl (Nat.le_of_ble_eq_true rfl) (qX3_absorb_59 S_38 hn ht) (fun h_70 r_ q_71 => ?_)
    obtain ⟨β_75, B_76, rfl, S_72, F_74⟩ := q_71
    have S_73 : Sys h_70 (ur ρ m ((ρ m) ++ gcO (eK (κ 16)) (ρ t) (gJ (eK (κ 16) (0, 0)) (ρ 6)))) β_75 κ τ := S_72
    have S_77 : Sys h_70 (ur ρ m ((ρ m) ++ gcO (eK (κ 16)) (ρ t) (gJ (eK (κ 16) (0, 0)) (ρ 6)))) (ub β_75 42 (eK (κ 16) (0, 0))) κ τ := Sys.know S_73 ((B_76 42 (by decide)).trans (by first | (simp only [ub, Nat.reduceEqDiff, ↓reduceIte, ur_s, ur_ur, ur_n (x := t) (r := m) htm, ur_n (x := 6) (r := m) hm6, ur_n (x := 8) (r := m) hm8]; done) | (simp only [ub, Nat.reduceEqDiff, ↓reduceIte, ur_s, ur_ur, ur_n (x := t) (r := m) htm, ur_n (x := 6) (r := m) hm6, ur_n (x := 8) (r := m) hm8]; rfl) | rfl))
    have S_78 : Sys h_70 (ur ρ m ((ρ m) ++ gcO (eK (κ 16)) (ρ t) (gJ (eK (κ 16) (0, 0)) (ρ 6)))) (ub (ub β_75 42 (eK (κ 16) (0, 0))) 43 (gJ (eK (κ 16) (0, 0)) (ρ 6))) κ τ := Sys.know S_77 ((B_76 43 (by decide)).trans (by first | (simp only [ub, Nat.reduceEqDiff, ↓reduceIte, ur_s, ur_ur, ur_n (x := t) (r := m) htm, ur_n (x := 6) (r := m) hm6, ur_n (x := 8) (r := m) hm8]; done) | (simp only [ub, Nat.reduceEqDiff, ↓reduceIte, ur_s, ur_ur, ur_n (x := t) (r := m) htm, ur_n (x := 6) (r := m) hm6, ur_n (x := 8) (r := m) hm8]; rfl) | rfl))
    have S_79 : Sys h_70 (ur ρ m ((ρ m) ++ gcO (eK (κ 16)) (ρ t) (gJ (eK (κ 16) (0, 0)) (ρ 6)))) (ub (ub (ub β_75 42 (eK (κ 16) (0, 0))) 43 (gJ (eK (κ 16) (0, 0)) (ρ 6))) 59 (gab (eK (κ 16) (0, 0)) (ρ t) (gab (eK (κ 16) (0, 0)) (ρ 8) (0, 0)))) κ τ := Sys.know S_78 ((B_76 59 (by decide)).trans (by first | (simp only [ub, Nat.reduceEqDiff, ↓reduceIte, ur_s, ur_ur, ur_n (x := t) (r := m) htm, ur_n (x := 6) (r := m) hm6, ur_n (x := 8) (r := m) hm8]; done) | (simp only [ub, Nat.reduceEqDiff, ↓reduceIte, ur_s, ur_ur, ur_n (x := t) (r := m) htm, ur_n (x := 6) (r := m) hm6, ur_n (x := 8) (r := m) hm8]; rfl) | rfl))
    refine R_aload_n (pc := 46) 0 dX3_run_46 rfl rfl ?_
    refine R_get (pc := 47) dX3_run_47 fX3_33 S_79.2.2.2.2.2.2.2.1 (by omega) rfl ?_
    refine R_ldc2 (pc := 50) dX3_run_50 cX3_57 ?_
    refine R_aload_n (pc := 53) 0 dX3_run_53 rfl rfl ?_
    refine R_get (pc := 54) dX3_run_54 fX3_17 S_79.2.2.2.2.2.2.2.1 (by omega) rfl ?_
    skip
    refine R_get (pc := 57) dX3_run_57 fX3_59 (S_79.rowO 8 rfl) (by omega) rfl ?_
    refine R_eqi (y := nI (ρ 8).length) (by first | rfl | (simp only [ur_s, ur_ur, ur_n (x := t) (r := m) htm, ur_n (x := 6) (r := m) hm6, ur_n (x := 8) (r := m) hm8])) ?_
    refine R_i2l (pc := 60) (v := (nI (ρ 8).length).toInt64) dX3_run_60 rfl ?_
    refine R_lmul (pc := 61) dX3_run_61 ?_
    refine R_ldc2 (pc := 62) dX3_run_62 cX3_57 ?_
    refine R_aload_n (pc := 65) 1 dX3_run_65 rfl rfl ?_
    have := rw_cases (r := t) ht
    refine R_get (pc := 66) dX3_run_66 fX3_59 (S_79.rowO t ht) (by omega) rfl ?_
    refine R_eqi (y := nI (ρ t).length) (by first | rfl | (simp only [ur_s, ur_ur, ur_n (x := t) (r := m) htm, ur_n (x := 6) (r := m) hm6, ur_n (x := 8) (r := m) hm8])) ?_
    refine R_i2l (pc := 69) (v := (nI (ρ t).length).toInt64) dX3_run_69 rfl ?_
    refine R_lmul (pc := 70) dX3_run_70 ?_
    refine R_callVh (pc := 71) (μ' := mX0_become) (As := [.long ((8 : Int64) * ((nI (ρ 8).length).toInt64)), .long ((8 : Int64) * ((nI (ρ t).length).toInt64))]) (st := []) dX3_run_71 zX0_become lX3_42 ⟨by decide, by decide⟩ rfl rfl ⟨by decide, by decide⟩ (S_79.blk 45 rfl) (by omega) rfl (Nat.le_of_ble_eq_true rfl) (S_become S_79 hn rfl _ _) (fun h_80 r_ q_81 => ?_)
    obtain ⟨rfl, S_82, F_84⟩ := q_81
    have S_83 : Sys h_80 (ur ρ m ((ρ m) ++ gcO (eK (κ 16)) (ρ t) (gJ (eK (κ 16) (0, 0)) (ρ 6)))) (ub (ub (ub (ub β_75 42 (eK (κ 16) (0, 0))) 43 (gJ (eK (κ 16) (0, 0)) (ρ 6))) 59 (gab (eK (κ 16) (0, 0)) (ρ t) (gab (eK (κ 16) (0, 0)) (ρ 8) (0, 0)))) 45 ((8 : Int64) * ((nI (ρ 8).length).toInt64), (8 : Int64) * ((nI (ρ t).length).toInt64))) κ τ := S_82
    refine R_aload_n (pc := 74) 0 dX3_run_74 rfl rfl ?_
    refine R_aload (pc := 75) 4 dX3_run_75 rfl ?_
    refine R_callVh (pc := 77) (μ' := mX3_absorbBlock) (As := [.ref 59]) (st := []) dX3_run_77 zX3_absorbBlock lX3_65 ⟨by decide, by decide⟩ rfl rfl ⟨by decide, by decide⟩ S_83.2.2.2.2.2.2.2.1 (by omega) rfl (Nat.le_of_ble_eq_true rfl) (qX3_absorbBlock_59 S_83 hn) (fun h_85 r_ q_86 => ?_)
    obtain ⟨rfl, S_87, F_89⟩ := q_86
    have S_88 : Sys h_85 (ur ρ m ((ρ m) ++ gcO (eK (κ 16)) (ρ t) (gJ (eK (κ 16) (0, 0)) (ρ 6)))) (ub (ub (ub (ub (ub β_75 42 (eK (κ 16) (0, 0))) 43 (gJ (eK (κ 16) (0, 0)) (ρ 6))) 59 (gab (eK (κ 16) (0, 0)) (ρ t) (gab (eK (κ 16) (0, 0)) (ρ 8) (0, 0)))) 45 ((8 : Int64) * ((nI (ρ 8).length).toInt64), (8 : Int64) * ((nI (ρ t).length).toInt64))) 59 (gmu (xb (gab (eK (κ 16) (0, 0)) (ρ t) (gab (eK (κ 16) (0, 0)) (ρ 8) (0, 0))) ((8 : Int64) * ((nI (ρ 8).length).toInt64), (8 : Int64) * ((nI (ρ t).length).toInt64))) (eK (κ 16) (0, 0)))) κ τ := S_87
    refine R_aload_n (pc := 80) 0 dX3_run_80 rfl rfl ?_
    refine R_get (pc := 81) dX3_run_81 fX3_7 S_88.2.2.2.2.2.2.2.1 (by omega) rfl ?_
    refine R_aload_n (pc := 84) 0 dX3_run_84 rfl rfl ?_
    refine R_get (pc := 85) dX3_run_85 fX3_27 S_88.2.2.2.2.2.2.2.1 (by omega) rfl ?_
    refine R_callVh (pc := 88) (μ' := mX2_encrypt) (As := [.ref 43]) (st := []) dX3_run_88 zX2_encrypt lX3_69 ⟨by decide, by decide⟩ rfl rfl ⟨by decide, by decide⟩ (S_88.2.2.1 16 (by decide)).1 (by omega) rfl (Nat.le_of_ble_eq_true rfl) (S_encrypt S_88 hn (by decide) rfl hk.1 hk.2) (fun h_90 r_ q_91 => ?_)
    obtain ⟨rfl, S_92, F_94⟩ := q_91
    have S_93 : Sys h_90 (ur ρ m ((ρ m) ++ gcO (eK (κ 16)) (ρ t) (gJ (eK (κ 16) (0, 0)) (ρ 6)))) (ub (ub (ub (ub (ub (ub β_75 42 (eK (κ 16) (0, 0))) 43 (gJ (eK (κ 16) (0, 0)) (ρ 6))) 59 (gab (eK (κ 16) (0, 0)) (ρ t) (gab (eK (κ 16) (0, 0)) (ρ 8) (0, 0)))) 45 ((8 : Int64) * ((nI (ρ 8).length).toInt64), (8 : Int64) * ((nI (ρ t).length).toInt64))) 59 (gmu (xb (gab (eK (κ 16) (0, 0)) (ρ t) (gab (eK (κ 16) (0, 0)) (ρ 8) (0, 0))) ((8 : Int64) * ((nI (ρ 8).length).toInt64), (8 : Int64) * ((nI (ρ t).length).toInt64))) (eK (κ 16) (0, 0)))) 43 (eK (κ 16) (gJ (eK (κ 16) (0, 0)) (ρ 6)))) κ τ := S_92
    refine R_aload (pc := 91) 4 dX3_run_91 rfl ?_
    refine R_aload_n (pc := 93) 0 dX3_run_93 rfl rfl ?_
    refine R_get (pc := 94) dX3_run_94 fX3_27 S_93.2.2.2.2.2.2.2.1 (by omega) rfl ?_
    refine R_callVh (pc := 97) (μ' := mX0_add) (As := [.ref 43]) (st := []) dX3_run_97 zX0_add lX3_74 ⟨by decide, by decide⟩ rfl rfl ⟨by decide, by decide⟩ (S_93.blk 59 rfl) (by omega) rfl (Nat.le_of_ble_eq_true rfl) (S_add S_93 hn rfl rfl (by decide)) (fun h_95 r_ q_96 => ?_)
    obtain ⟨rfl, S_97, F_99⟩ := q_96
    have S_98 : Sys h_95 (ur ρ m ((ρ m) ++ gcO (eK (κ 16)) (ρ t) (gJ (eK (κ 16) (0, 0)) (ρ 6)))) (ub (ub (ub (ub (ub (ub (ub β_75 42 (eK (κ 16) (0, 0))) 43 (gJ (eK (κ 16) (0, 0)) (ρ 6))) 59 (gab (eK (κ 16) (0, 0)) (ρ t) (gab (eK (κ 16) (0, 0)) (ρ 8) (0, 0)))) 45 ((8 : Int64) * ((nI (ρ 8).length).toInt64), (8 : Int64) * ((nI (ρ t).length).toInt64))) 59 (gmu (xb (gab (eK (κ 16) (0, 0)) (ρ t) (gab (eK (κ 16) (0, 0)) (ρ 8) (0, 0))) ((8 : Int64) * ((nI (ρ 8).length).toInt64), (8 : Int64) * ((nI (ρ t).length).toInt64))) (eK (κ 16) (0, 0)))) 43 (eK (κ 16) (gJ (eK (κ 16) (0, 0)) (ρ 6)))) 59 (xb (gmu (xb (gab (eK (κ 16) (0, 0)) (ρ t) (gab (eK (κ 16) (0, 0)) (ρ 8) (0, 0))) ((8 : Int64) * ((nI (ρ 8).length).toInt64), (8 : Int64) * ((nI (ρ t).length).toInt64))) (eK (κ 16) (0, 0))) (eK (κ 16) (gJ (eK (κ 16) (0, 0)) (ρ 6))))) κ τ := S_97
    rw [if_neg c_39]
    refine R_vreturn (pc := 100) dX3_run_100 rfl (by decide) (by decide) ⟨rfl, (ub (ub (ub (ub (ub (ub (ub β_75 42 (eK (κ 16) (0, 0))) 43 (gJ (eK (κ 16) (0, 0)) (ρ 6))) 59 (gab (eK (κ 16) (0, 0)) (ρ t) (gab (eK (κ 16) (0, 0)) (ρ 8) (0, 0)))) 45 ((8 : Int64) * ((nI (ρ 8).length).toInt64), (8 : Int64) * ((nI (ρ t).length).toInt64))) 59 (gmu (xb (gab (eK (κ 16) (0, 0)) (ρ t) (gab (eK (κ 16) (0, 0)) (ρ 8) (0, 0))) ((8 : Int64) * ((nI (ρ 8).length).toInt64), (8 : Int64) * ((nI (ρ t).length).toInt64))) (eK (κ 16) (0, 0)))) 43 (eK (κ 16) (gJ (eK (κ 16) (0, 0)) (ρ 6)))) 59 (xb (gmu (xb (gab (eK (κ 16) (0, 0)) (ρ t) (gab (eK (κ 16) (0, 0)) (ρ 8) (0, 0))) ((8 : Int64) * ((nI (ρ 8).length).toInt64), (8 : Int64) * ((nI (ρ t).length).toInt64))) (eK (κ 16) (0, 0))) (eK (κ 16) (gJ (eK (κ 16) (0, 0)) (ρ 6))))), ?_, rfl, S_98, (((((((((F_5.tr F_10).tr F_19).tr F_28).tr F_33).tr F_74).tr F_84).tr F_89).tr F_94).tr F_99)⟩
    intro a_ n_
    simp only [List.mem_cons, List.not_mem_nil, or_false, not_or] at n_
    by_cases e0_ : a_ = 59
    · subst e0_; first | rfl | (simp only [ub_s]; done) | (simp (config := { decide := true }) only [ub, if_true, if_false, reduceIte]; first | rfl | skip)
    skip
    (try simp only [ub, if_neg, if_false, n_, e0_])
    (try rw [B_76 a_ (by simp [n_, e0_])])
    (try simp only [ub, if_neg, if_false, n_, e0_])
    (try simp only [ub_k])
    (try rw [B_35 a_ (by simp [n_, e0_])])
    (try simp only [ub, if_neg, if_false, n_, e0_])
    (try simp only [ub_k])
    (try rw [B_21 a_ (by simp [n_, e0_])])
    (try simp only [ub, if_neg, if_false, n_, e0_])
    (try simp only [ub_k])
    (try rw [B_12 a_ (by simp [n_, e0_])])
    (try simp only [ub, if_neg, if_false, n_, e0_])
    (try simp only [ub_k])
