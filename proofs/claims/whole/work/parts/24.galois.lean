def cyN (f : Nat → bP → bP) (x : bP) : Nat → bP
  | 0 => x
  | i + 1 => f i (cyN f x i)
/-- a block of GALOIS' sum -/
def gaS (H : bP) (L : List (BitVec 8)) (i : Nat) (x : bP) : bP := gmu (xb x (rd L (16 * i))) H
def gab (H : bP) (L : List (BitVec 8)) (x : bP) : bP := cyN (gaS H L) x (nbk L)
theorem ub_k {β : Nat → bP} {a x : Nat} : (if x = a then β a else β x) = β x := by
  by_cases h : x = a <;> simp [h]
/-- blocks put back as they were -/
theorem Sys.same {h : am_H} {ρ : Nat → List (BitVec 8)} {β β' : Nat → bP} {κ : Nat → kT} {τ : Nat × Nat × Nat} (S : Sys h ρ β κ τ) (e : ∀ a, isBk a = true → β' a = β a) : Sys h ρ β' κ τ := ⟨S.1, fun a ha => by rw [e a ha]; exact S.2.1 a ha, S.2.2⟩
theorem ub_ub (β : Nat → bP) (a : Nat) (v u : bP) : ub (ub β a v) a u = ub β a u := by
  funext x
  unfold ub
  by_cases h : x = a <;> simp [h]
set_option maxHeartbeats 4000000 in
set_option maxRecDepth 100000 in
theorem qX3_absorbBlock_43 {l : Launch} {w : am_W} {h : am_H} {n : Nat} {ρ : Nat → List (BitVec 8)} {β : Nat → bP} {κ : Nat → kT} {τ : Nat × Nat × Nat} (S : Sys h ρ β κ τ) (hn : 60 ≤ n) : RH l w mX3_absorbBlock h n [.ref 41, .ref 43] (SQ h τ none ρ (ub β 43 (gmu (xb (β 43) (β 45)) (β 42))) κ) := by
  refine RC.of [(0, .ref 41), (1, .ref 43)] (by decide +kernel) rfl (Nat.le_of_ble_eq_true rfl) ?_
  refine R_aload_n (pc := 0) 1 dX3_absorbBlock_0 rfl rfl ?_
  refine R_aload_n (pc := 1) 0 dX3_absorbBlock_1 rfl rfl ?_
  refine R_get (pc := 2) dX3_absorbBlock_2 fX3_33 S.2.2.2.2.2.2.2.1 (by omega) rfl ?_
  refine R_callVh (pc := 5) (μ' := mX0_add) (As := [.ref 45]) (st := []) dX3_absorbBlock_5 zX0_add lX3_74 ⟨by decide, by decide⟩ rfl rfl ⟨by decide, by decide⟩ (S.blk 43 rfl) (by omega) rfl (Nat.le_of_ble_eq_true rfl) (S_add S hn rfl rfl (by decide)) (fun h_1 r_ q_2 => ?_)
  obtain ⟨rfl, S_3, F_5⟩ := q_2
  have S_4 : Sys h_1 ρ (ub β 43 (xb (β 43) (β 45))) κ τ := S_3
  refine R_aload_n (pc := 8) 1 dX3_absorbBlock_8 rfl rfl ?_
  refine R_aload_n (pc := 9) 0 dX3_absorbBlock_9 rfl rfl ?_
  refine R_get (pc := 10) dX3_absorbBlock_10 fX3_23 S_4.2.2.2.2.2.2.2.1 (by omega) rfl ?_
  refine R_callVh (pc := 13) (μ' := mX0_multiply) (As := [.ref 42]) (st := []) dX3_absorbBlock_13 zX0_multiply lX3_85 ⟨by decide, by decide⟩ rfl rfl ⟨by decide, by decide⟩ (S_4.blk 43 rfl) (by omega) rfl (Nat.le_of_ble_eq_true rfl) (S_multiply S_4 hn rfl rfl (by decide)) (fun h_6 r_ q_7 => ?_)
  obtain ⟨rfl, S_8, F_10⟩ := q_7
  have S_9 : Sys h_6 ρ (ub (ub β 43 (xb (β 43) (β 45))) 43 (gmu (xb (β 43) (β 45)) (β 42))) κ τ := S_8
  exact R_vreturn (pc := 16) dX3_absorbBlock_16 rfl (by decide) (by decide) ⟨rfl, rfl, by have z_ := S_9; rw [ub_ub] at z_; exact z_, (F_5.tr F_10)⟩
set_option maxHeartbeats 4000000 in
set_option maxRecDepth 100000 in
theorem qX3_absorbBlock_59 {l : Launch} {w : am_W} {h : am_H} {n : Nat} {ρ : Nat → List (BitVec 8)} {β : Nat → bP} {κ : Nat → kT} {τ : Nat × Nat × Nat} (S : Sys h ρ β κ τ) (hn : 60 ≤ n) : RH l w mX3_absorbBlock h n [.ref 41, .ref 59] (SQ h τ none ρ (ub β 59 (gmu (xb (β 59) (β 45)) (β 42))) κ) := by
  refine RC.of [(0, .ref 41), (1, .ref 59)] (by decide +kernel) rfl (Nat.le_of_ble_eq_true rfl) ?_
  refine R_aload_n (pc := 0) 1 dX3_absorbBlock_0 rfl rfl ?_
  refine R_aload_n (pc := 1) 0 dX3_absorbBlock_1 rfl rfl ?_
  refine R_get (pc := 2) dX3_absorbBlock_2 fX3_33 S.2.2.2.2.2.2.2.1 (by omega) rfl ?_
  refine R_callVh (pc := 5) (μ' := mX0_add) (As := [.ref 45]) (st := []) dX3_absorbBlock_5 zX0_add lX3_74 ⟨by decide, by decide⟩ rfl rfl ⟨by decide, by decide⟩ (S.blk 59 rfl) (by omega) rfl (Nat.le_of_ble_eq_true rfl) (S_add S hn rfl rfl (by decide)) (fun h_1 r_ q_2 => ?_)
  obtain ⟨rfl, S_3, F_5⟩ := q_2
  have S_4 : Sys h_1 ρ (ub β 59 (xb (β 59) (β 45))) κ τ := S_3
  refine R_aload_n (pc := 8) 1 dX3_absorbBlock_8 rfl rfl ?_
  refine R_aload_n (pc := 9) 0 dX3_absorbBlock_9 rfl rfl ?_
  refine R_get (pc := 10) dX3_absorbBlock_10 fX3_23 S_4.2.2.2.2.2.2.2.1 (by omega) rfl ?_
  refine R_callVh (pc := 13) (μ' := mX0_multiply) (As := [.ref 42]) (st := []) dX3_absorbBlock_13 zX0_multiply lX3_85 ⟨by decide, by decide⟩ rfl rfl ⟨by decide, by decide⟩ (S_4.blk 59 rfl) (by omega) rfl (Nat.le_of_ble_eq_true rfl) (S_multiply S_4 hn rfl rfl (by decide)) (fun h_6 r_ q_7 => ?_)
  obtain ⟨rfl, S_8, F_10⟩ := q_7
  have S_9 : Sys h_6 ρ (ub (ub β 59 (xb (β 59) (β 45))) 59 (gmu (xb (β 59) (β 45)) (β 42))) κ τ := S_8
  exact R_vreturn (pc := 16) dX3_absorbBlock_16 rfl (by decide) (by decide) ⟨rfl, rfl, by have z_ := S_9; rw [ub_ub] at z_; exact z_, (F_5.tr F_10)⟩
set_option maxHeartbeats 4000000 in
set_option maxRecDepth 100000 in
theorem qX3_absorb_43_loop {l : Launch} {w : am_W} {h : am_H} {n : Nat} {ρ : Nat → List (BitVec 8)} {β : Nat → bP} {κ : Nat → kT} {τ : Nat × Nat × Nat} (S : Sys h ρ β κ τ) (hn : 60 ≤ n) {t : Nat} (ht : isRw t = true) : ∀ (d i : Nat), i + d = nbk (ρ t) → ∀ h2 β2, Sys h2 ρ β2 κ τ → β2 43 = (cyN (gaS (β 42) (ρ t)) (β 43) i) → (∀ a, a ∉ [43, 45] → β2 a = β a) → Fr h h2 → RW l w mX3_absorb h2 n 0 0 2 [(3, .int (nI (16 * i))), (0, .ref 41), (1, .ref t), (2, .ref 43)] [] (fun h' n' r_ => n' = n ∧ (SX h τ none ρ (ub β 43 (gab (β 42) (ρ t) (β 43))) κ [45]) h' r_) := by
  have hlt := S.len t ht
  have hnb := nbk_b (ρ t)
  intro d
  induction d with
  | zero =>
    intro i hd h2 β2 S2 hv hB hF
    have S3 : Sys h2 ρ (ub β2 43 (cyN (gaS (β 42) (ρ t)) (β 43) i)) κ τ := Sys.know S2 hv
    have S_1 : Sys h2 ρ (ub (ub β2 43 (cyN (gaS (β 42) (ρ t)) (β 43) i)) 42 (β 42)) κ τ := Sys.know S3 (hB 42 (by decide))
    refine R_iload_n (pc := 2) 0 dX3_absorb_2 rfl rfl ?_
    refine R_aload_n (pc := 3) 2 dX3_absorb_3 rfl rfl ?_
    have := rw_cases (r := t) ht
    refine R_get (pc := 4) dX3_absorb_4 fX3_59 (S_1.rowO t ht) (by omega) rfl ?_
    refine R_eqi (y := nI (ρ t).length) (by first | rfl | (simp only [ur_s, ur_ur])) ?_
    refine R_icmp_ge (pc := 7) (tgt := 30) dX3_absorb_7 (by decide) (fun c_2 => ?_) (fun c_2 => absurd (nI_le (by omega) (by omega)) c_2)
    refine R_vreturn (pc := 30) dX3_absorb_30 rfl (by decide) (by decide) ⟨rfl, ub β2 43 (cyN (gaS (β 42) (ρ t)) (β 43) i), fun a_ n_ => ?_, rfl, S3, hF⟩
    by_cases e_ : a_ = 43
    · subst e_; rw [ub_s, ub_s]; unfold gab; rw [show nbk (ρ t) = i by omega]
    · rw [ub_n e_, ub_n e_]; exact hB a_ (by simp only [List.mem_cons, List.not_mem_nil, or_false] at n_ ⊢; omega)
  | succ d ih =>
    intro i hd h2 β2 S2 hv hB hF
    have S3 : Sys h2 ρ (ub β2 43 (cyN (gaS (β 42) (ρ t)) (β 43) i)) κ τ := Sys.know S2 hv
    have S_1 : Sys h2 ρ (ub (ub β2 43 (cyN (gaS (β 42) (ρ t)) (β 43) i)) 42 (β 42)) κ τ := Sys.know S3 (hB 42 (by decide))
    refine R_iload_n (pc := 2) 0 dX3_absorb_2 rfl rfl ?_
    refine R_aload_n (pc := 3) 2 dX3_absorb_3 rfl rfl ?_
    have := rw_cases (r := t) ht
    refine R_get (pc := 4) dX3_absorb_4 fX3_59 (S_1.rowO t ht) (by omega) rfl ?_
    refine R_eqi (y := nI (ρ t).length) (by first | rfl | (simp only [ur_s, ur_ur])) ?_
    refine R_icmp_ge (pc := 7) (tgt := 30) dX3_absorb_7 (by decide) (fun c_2 => absurd c_2 (nI_ge (by omega) (by omega))) (fun c_2 => ?_)
    refine R_aload_n (pc := 10) 1 dX3_absorb_10 rfl rfl ?_
    refine R_get (pc := 11) dX3_absorb_11 fX3_33 S_1.2.2.2.2.2.2.2.1 (by omega) rfl ?_
    refine R_aload_n (pc := 14) 2 dX3_absorb_14 rfl rfl ?_
    refine R_iload_n (pc := 15) 0 dX3_absorb_15 rfl rfl ?_
    refine R_callVh (pc := 16) (μ' := mX0_read) (As := [.ref t, .int (nI (16 * i))]) (st := []) dX3_absorb_16 zX0_read lX3_77 ⟨by decide, by decide⟩ rfl rfl ⟨by decide, by decide⟩ (S_1.blk 45 rfl) (by omega) rfl (Nat.le_of_ble_eq_true rfl) (S_read S_1 hn rfl ht (16 * i) (by omega)) (fun h_3 r_ q_4 => ?_)
    obtain ⟨rfl, S_5, F_7⟩ := q_4
    have S_6 : Sys h_3 ρ (ub (ub (ub β2 43 (cyN (gaS (β 42) (ρ t)) (β 43) i)) 42 (β 42)) 45 (rd (ρ t) (16 * i))) κ τ := S_5
    refine R_aload_n (pc := 19) 1 dX3_absorb_19 rfl rfl ?_
    refine R_aload_n (pc := 20) 3 dX3_absorb_20 rfl rfl ?_
    refine R_callVh (pc := 21) (μ' := mX3_absorbBlock) (As := [.ref 43]) (st := []) dX3_absorb_21 zX3_absorbBlock lX3_65 ⟨by decide, by decide⟩ rfl rfl ⟨by decide, by decide⟩ S_6.2.2.2.2.2.2.2.1 (by omega) rfl (Nat.le_of_ble_eq_true rfl) (qX3_absorbBlock_43 S_6 hn) (fun h_8 r_ q_9 => ?_)
    obtain ⟨rfl, S_10, F_12⟩ := q_9
    have S_11 : Sys h_8 ρ (ub (ub (ub (ub β2 43 (cyN (gaS (β 42) (ρ t)) (β 43) i)) 42 (β 42)) 45 (rd (ρ t) (16 * i))) 43 (gmu (xb (cyN (gaS (β 42) (ρ t)) (β 43) i) (rd (ρ t) (16 * i))) (β 42))) κ τ := S_10
    refine R_iinc (pc := 24) (j := 0) (v := nI (16 * (i + 1))) (lv' := [(3, .int (nI (16 * (i + 1)))), (0, .ref 41), (1, .ref t), (2, .ref 43)]) dX3_absorb_24 rfl (nI_add (16 * i) 16) (by decide) rfl ?_
    refine R_goto (pc := 27) (tgt := 2) dX3_absorb_27 (by decide) ?_
    refine R_sub [0, 1, 2, 3] rfl ?_
    refine ih (i + 1) (by omega) h_8 (ub (ub (ub (ub β2 43 (cyN (gaS (β 42) (ρ t)) (β 43) i)) 42 (β 42)) 45 (rd (ρ t) (16 * i))) 43 (gmu (xb (cyN (gaS (β 42) (ρ t)) (β 43) i) (rd (ρ t) (16 * i))) (β 42))) S_11 rfl (fun a_ n_ => ?_) (hF.tr (F_7.tr F_12))
    have q_ := hB a_ n_; simp only [List.mem_cons, List.not_mem_nil, or_false, not_or] at n_
    simp only [ub, if_neg, n_, if_false]
    first | exact q_ | (simp only [ub_k, q_]) | (repeat' split) <;> first | exact q_ | (rename_i e_; rw [e_])
set_option maxHeartbeats 4000000 in
set_option maxRecDepth 100000 in
theorem qX3_absorb_43 {l : Launch} {w : am_W} {h : am_H} {n : Nat} {ρ : Nat → List (BitVec 8)} {β : Nat → bP} {κ : Nat → kT} {τ : Nat × Nat × Nat} (S : Sys h ρ β κ τ) (hn : 60 ≤ n) {t : Nat} (ht : isRw t = true) : RH l w mX3_absorb h n [.ref 41, .ref t, .ref 43] (SX h τ none ρ (ub β 43 (gab (β 42) (ρ t) (β 43))) κ [45]) := by
  refine RC.of [(0, .ref 41), (1, .ref t), (2, .ref 43)] (by decide +kernel) rfl (Nat.le_of_ble_eq_true rfl) ?_
  refine R_iconst (pc := 0) (v := 0) dX3_absorb_0 (by decide) ?_
  refine R_istore_n (pc := 1) (lv' := [(3, .int 0), (0, .ref 41), (1, .ref t), (2, .ref 43)]) dX3_absorb_1 rfl (by decide) rfl ?_
  refine R_sub [0, 1, 2, 3] rfl ?_
  refine qX3_absorb_43_loop S hn ht (nbk (ρ t)) 0 (by omega) h β S rfl (fun a_ n_ => ?_) (Fr.rf _)
  simp only [List.mem_cons, List.not_mem_nil, or_false, not_or] at n_; (try simp only [ub, if_neg, n_, if_false])
set_option maxHeartbeats 4000000 in
set_option maxRecDepth 100000 in
theorem qX3_absorb_59_loop {l : Launch} {w : am_W} {h : am_H} {n : Nat} {ρ : Nat → List (BitVec 8)} {β : Nat → bP} {κ : Nat → kT} {τ : Nat × Nat × Nat} (S : Sys h ρ β κ τ) (hn : 60 ≤ n) {t : Nat} (ht : isRw t = true) : ∀ (d i : Nat), i + d = nbk (ρ t) → ∀ h2 β2, Sys h2 ρ β2 κ τ → β2 59 = (cyN (gaS (β 42) (ρ t)) (β 59) i) → (∀ a, a ∉ [59, 45] → β2 a = β a) → Fr h h2 → RW l w mX3_absorb h2 n 0 0 2 [(3, .int (nI (16 * i))), (0, .ref 41), (1, .ref t), (2, .ref 59)] [] (fun h' n' r_ => n' = n ∧ (SX h τ none ρ (ub β 59 (gab (β 42) (ρ t) (β 59))) κ [45]) h' r_) := by
  have hlt := S.len t ht
  have hnb := nbk_b (ρ t)
  intro d
  induction d with
  | zero =>
    intro i hd h2 β2 S2 hv hB hF
    have S3 : Sys h2 ρ (ub β2 59 (cyN (gaS (β 42) (ρ t)) (β 59) i)) κ τ := Sys.know S2 hv
    have S_1 : Sys h2 ρ (ub (ub β2 59 (cyN (gaS (β 42) (ρ t)) (β 59) i)) 42 (β 42)) κ τ := Sys.know S3 (hB 42 (by decide))
    refine R_iload_n (pc := 2) 0 dX3_absorb_2 rfl rfl ?_
    refine R_aload_n (pc := 3) 2 dX3_absorb_3 rfl rfl ?_
    have := rw_cases (r := t) ht
    refine R_get (pc := 4) dX3_absorb_4 fX3_59 (S_1.rowO t ht) (by omega) rfl ?_
    refine R_eqi (y := nI (ρ t).length) (by first | rfl | (simp only [ur_s, ur_ur])) ?_
    refine R_icmp_ge (pc := 7) (tgt := 30) dX3_absorb_7 (by decide) (fun c_2 => ?_) (fun c_2 => absurd (nI_le (by omega) (by omega)) c_2)
    refine R_vreturn (pc := 30) dX3_absorb_30 rfl (by decide) (by decide) ⟨rfl, ub β2 59 (cyN (gaS (β 42) (ρ t)) (β 59) i), fun a_ n_ => ?_, rfl, S3, hF⟩
    by_cases e_ : a_ = 59
    · subst e_; rw [ub_s, ub_s]; unfold gab; rw [show nbk (ρ t) = i by omega]
    · rw [ub_n e_, ub_n e_]; exact hB a_ (by simp only [List.mem_cons, List.not_mem_nil, or_false] at n_ ⊢; omega)
  | succ d ih =>
    intro i hd h2 β2 S2 hv hB hF
    have S3 : Sys h2 ρ (ub β2 59 (cyN (gaS (β 42) (ρ t)) (β 59) i)) κ τ := Sys.know S2 hv
    have S_1 : Sys h2 ρ (ub (ub β2 59 (cyN (gaS (β 42) (ρ t)) (β 59) i)) 42 (β 42)) κ τ := Sys.know S3 (hB 42 (by decide))
    refine R_iload_n (pc := 2) 0 dX3_absorb_2 rfl rfl ?_
    refine R_aload_n (pc := 3) 2 dX3_absorb_3 rfl rfl ?_
    have := rw_cases (r := t) ht
    refine R_get (pc := 4) dX3_absorb_4 fX3_59 (S_1.rowO t ht) (by omega) rfl ?_
    refine R_eqi (y := nI (ρ t).length) (by first | rfl | (simp only [ur_s, ur_ur])) ?_
    refine R_icmp_ge (pc := 7) (tgt := 30) dX3_absorb_7 (by decide) (fun c_2 => absurd c_2 (nI_ge (by omega) (by omega))) (fun c_2 => ?_)
    refine R_aload_n (pc := 10) 1 dX3_absorb_10 rfl rfl ?_
    refine R_get (pc := 11) dX3_absorb_11 fX3_33 S_1.2.2.2.2.2.2.2.1 (by omega) rfl ?_
    refine R_aload_n (pc := 14) 2 dX3_absorb_14 rfl rfl ?_
    refine R_iload_n (pc := 15) 0 dX3_absorb_15 rfl rfl ?_
    refine R_callVh (pc := 16) (μ' := mX0_read) (As := [.ref t, .int (nI (16 * i))]) (st := []) dX3_absorb_16 zX0_read lX3_77 ⟨by decide, by decide⟩ rfl rfl ⟨by decide, by decide⟩ (S_1.blk 45 rfl) (by omega) rfl (Nat.le_of_ble_eq_true rfl) (S_read S_1 hn rfl ht (16 * i) (by omega)) (fun h_3 r_ q_4 => ?_)
    obtain ⟨rfl, S_5, F_7⟩ := q_4
    have S_6 : Sys h_3 ρ (ub (ub (ub β2 59 (cyN (gaS (β 42) (ρ t)) (β 59) i)) 42 (β 42)) 45 (rd (ρ t) (16 * i))) κ τ := S_5
    refine R_aload_n (pc := 19) 1 dX3_absorb_19 rfl rfl ?_
    refine R_aload_n (pc := 20) 3 dX3_absorb_20 rfl rfl ?_
    refine R_callVh (pc := 21) (μ' := mX3_absorbBlock) (As := [.ref 59]) (st := []) dX3_absorb_21 zX3_absorbBlock lX3_65 ⟨by decide, by decide⟩ rfl rfl ⟨by decide, by decide⟩ S_6.2.2.2.2.2.2.2.1 (by omega) rfl (Nat.le_of_ble_eq_true rfl) (qX3_absorbBlock_59 S_6 hn) (fun h_8 r_ q_9 => ?_)
    obtain ⟨rfl, S_10, F_12⟩ := q_9
    have S_11 : Sys h_8 ρ (ub (ub (ub (ub β2 59 (cyN (gaS (β 42) (ρ t)) (β 59) i)) 42 (β 42)) 45 (rd (ρ t) (16 * i))) 59 (gmu (xb (cyN (gaS (β 42) (ρ t)) (β 59) i) (rd (ρ t) (16 * i))) (β 42))) κ τ := S_10
    refine R_iinc (pc := 24) (j := 0) (v := nI (16 * (i + 1))) (lv' := [(3, .int (nI (16 * (i + 1)))), (0, .ref 41), (1, .ref t), (2, .ref 59)]) dX3_absorb_24 rfl (nI_add (16 * i) 16) (by decide) rfl ?_
    refine R_goto (pc := 27) (tgt := 2) dX3_absorb_27 (by decide) ?_
    refine R_sub [0, 1, 2, 3] rfl ?_
    refine ih (i + 1) (by omega) h_8 (ub (ub (ub (ub β2 59 (cyN (gaS (β 42) (ρ t)) (β 59) i)) 42 (β 42)) 45 (rd (ρ t) (16 * i))) 59 (gmu (xb (cyN (gaS (β 42) (ρ t)) (β 59) i) (rd (ρ t) (16 * i))) (β 42))) S_11 rfl (fun a_ n_ => ?_) (hF.tr (F_7.tr F_12))
    have q_ := hB a_ n_; simp only [List.mem_cons, List.not_mem_nil, or_false, not_or] at n_
    simp only [ub, if_neg, n_, if_false]
    first | exact q_ | (simp only [ub_k, q_]) | (repeat' split) <;> first | exact q_ | (rename_i e_; rw [e_])
set_option maxHeartbeats 4000000 in
set_option maxRecDepth 100000 in
theorem qX3_absorb_59 {l : Launch} {w : am_W} {h : am_H} {n : Nat} {ρ : Nat → List (BitVec 8)} {β : Nat → bP} {κ : Nat → kT} {τ : Nat × Nat × Nat} (S : Sys h ρ β κ τ) (hn : 60 ≤ n) {t : Nat} (ht : isRw t = true) : RH l w mX3_absorb h n [.ref 41, .ref t, .ref 59] (SX h τ none ρ (ub β 59 (gab (β 42) (ρ t) (β 59))) κ [45]) := by
  refine RC.of [(0, .ref 41), (1, .ref t), (2, .ref 59)] (by decide +kernel) rfl (Nat.le_of_ble_eq_true rfl) ?_
  refine R_iconst (pc := 0) (v := 0) dX3_absorb_0 (by decide) ?_
  refine R_istore_n (pc := 1) (lv' := [(3, .int 0), (0, .ref 41), (1, .ref t), (2, .ref 59)]) dX3_absorb_1 rfl (by decide) rfl ?_
  refine R_sub [0, 1, 2, 3] rfl ?_
  refine qX3_absorb_59_loop S hn ht (nbk (ρ t)) 0 (by omega) h β S rfl (fun a_ n_ => ?_) (Fr.rf _)
  simp only [List.mem_cons, List.not_mem_nil, or_false, not_or] at n_; (try simp only [ub, if_neg, n_, if_false])
