def scS (F : bP → bP) (L : List (BitVec 8)) (i : Nat) (x : bP) : bP × List (BitVec 8) := (dblL x, bt (xb (F (xb (rd L (16 * i)) x)) x) 16)
theorem scS_len (F : bP → bP) (L : List (BitVec 8)) (i : Nat) (x : bP) : (scS F L i x).2.length = 16 := bt_len _ _
/-- the block that was sealed last -/
def scB (F : bP → bP) (L : List (BitVec 8)) (x b : bP) : Nat → bP
  | 0 => b
  | i + 1 => xb (F (xb (rd L (16 * i)) (stN (scS F L) x i).1)) (stN (scS F L) x i).1
def scE (F : bP → bP) (L : List (BitVec 8)) (x b : bP) : List (BitVec 8) :=
  let nw := L.length / 16
  let s := stN (scS F L) x nw
  let y := scB F L x b nw
  if nI (L.length % 16) = 0 then s.2 else s.2.take (16 * nw - 16) ++ bt (xb (F (xb (xb (df y (nI (L.length % 16))) (rd L (16 * nw))) s.1)) s.1) 16 ++ bt y (L.length % 16)
def scW (L : List (BitVec 8)) : Nat := if nI (L.length % 16) = 0 then L.length / 16 else L.length / 16 - 1
def scD (G : bP → bP) (L : List (BitVec 8)) (x : bP) : List (BitVec 8) :=
  let nw := scW L
  let s := stN (scS G L) x nw
  let t2 := dblL s.1
  let y := xb (G (xb (rd L (16 * nw)) t2)) t2
  if nI (L.length % 16) = 0 then s.2 else s.2 ++ bt (xb (G (xb (xb (df y (nI (L.length % 16))) (rd L (16 * nw + 16))) s.1)) s.1) 16 ++ bt y (L.length % 16)
set_option maxHeartbeats 4000000 in
set_option maxRecDepth 100000 in
theorem qX7_begin {l : Launch} {w : am_W} {h : am_H} {n : Nat} {ρ : Nat → List (BitVec 8)} {β : Nat → bP} {κ : Nat → kT} {τ : Nat × Nat × Nat} (S : Sys h ρ β κ τ) (hn : 60 ≤ n) (hk2 : kOk (κ 20)) : RH l w mX7_begin h n [.ref 34] (SQ h τ none ρ (ub β 35 (eK (κ 20) (rd (ρ 6) 0))) κ) := by
  refine RC.of [(0, .ref 34)] (by decide +kernel) rfl (Nat.le_of_ble_eq_true rfl) ?_
  refine R_aload_n (pc := 0) 0 dX7_begin_0 rfl rfl ?_
  refine R_get (pc := 1) dX7_begin_1 fX7_23 S.2.2.2.2.2.1 (by omega) rfl ?_
  refine R_aload_n (pc := 4) 0 dX7_begin_4 rfl rfl ?_
  refine R_get (pc := 5) dX7_begin_5 fX7_16 S.2.2.2.2.2.1 (by omega) rfl ?_
  refine R_iconst (pc := 8) (v := 0) dX7_begin_8 (by decide) ?_
  refine R_callVh (pc := 9) (μ' := mX0_read) (As := [.ref 6, .int (nI 0)]) (st := []) dX7_begin_9 zX0_read lX7_36 ⟨by decide, by decide⟩ rfl rfl ⟨by decide, by decide⟩ (S.blk 35 rfl) (by omega) rfl (Nat.le_of_ble_eq_true rfl) (S_read S hn rfl rfl 0 (by omega)) (fun h_1 r_ q_2 => ?_)
  obtain ⟨rfl, S_3, F_5⟩ := q_2
  have S_4 : Sys h_1 ρ (ub β 35 (rd (ρ 6) 0)) κ τ := S_3
  refine R_aload_n (pc := 12) 0 dX7_begin_12 rfl rfl ?_
  refine R_get (pc := 13) dX7_begin_13 fX7_13 S_4.2.2.2.2.2.1 (by omega) rfl ?_
  refine R_aload_n (pc := 16) 0 dX7_begin_16 rfl rfl ?_
  refine R_get (pc := 17) dX7_begin_17 fX7_23 S_4.2.2.2.2.2.1 (by omega) rfl ?_
  refine R_callVh (pc := 20) (μ' := mX2_encrypt) (As := [.ref 35]) (st := []) dX7_begin_20 zX2_encrypt lX7_40 ⟨by decide, by decide⟩ rfl rfl ⟨by decide, by decide⟩ (S_4.2.2.1 20 (by decide)).1 (by omega) rfl (Nat.le_of_ble_eq_true rfl) (S_encrypt S_4 hn (by decide) rfl hk2.1 hk2.2) (fun h_6 r_ q_7 => ?_)
  obtain ⟨rfl, S_8, F_10⟩ := q_7
  have S_9 : Sys h_6 ρ (ub (ub β 35 (rd (ρ 6) 0)) 35 (eK (κ 20) (rd (ρ 6) 0))) κ τ := S_8
  exact R_vreturn (pc := 23) dX7_begin_23 rfl (by decide) (by decide) ⟨rfl, rfl, by have z_ := S_9; (repeat rw [ub_ub] at z_); exact z_, (F_5.tr F_10)⟩
set_option maxHeartbeats 4000000 in
set_option maxRecDepth 100000 in
theorem qX7_lockBlock_36 {l : Launch} {w : am_W} {h : am_H} {n : Nat} {ρ : Nat → List (BitVec 8)} {β : Nat → bP} {κ : Nat → kT} {τ : Nat × Nat × Nat} (S : Sys h ρ β κ τ) (hn : 60 ≤ n) (hk : kOk (κ 16)) : RH l w mX7_lockBlock h n [.ref 34, .ref 36] (SQ h τ none ρ (ub β 36 (xb (eK (κ 16) (xb (β 36) (β 35))) (β 35))) κ) := by
  refine RC.of [(0, .ref 34), (1, .ref 36)] (by decide +kernel) rfl (Nat.le_of_ble_eq_true rfl) ?_
  refine R_aload_n (pc := 0) 1 dX7_lockBlock_0 rfl rfl ?_
  refine R_aload_n (pc := 1) 0 dX7_lockBlock_1 rfl rfl ?_
  refine R_get (pc := 2) dX7_lockBlock_2 fX7_23 S.2.2.2.2.2.1 (by omega) rfl ?_
  refine R_callVh (pc := 5) (μ' := mX0_add) (As := [.ref 35]) (st := []) dX7_lockBlock_5 zX0_add lX7_46 ⟨by decide, by decide⟩ rfl rfl ⟨by decide, by decide⟩ (S.blk 36 rfl) (by omega) rfl (Nat.le_of_ble_eq_true rfl) (S_add S hn rfl rfl (by decide)) (fun h_1 r_ q_2 => ?_)
  obtain ⟨rfl, S_3, F_5⟩ := q_2
  have S_4 : Sys h_1 ρ (ub β 36 (xb (β 36) (β 35))) κ τ := S_3
  refine R_aload_n (pc := 8) 0 dX7_lockBlock_8 rfl rfl ?_
  refine R_get (pc := 9) dX7_lockBlock_9 fX7_7 S_4.2.2.2.2.2.1 (by omega) rfl ?_
  refine R_aload_n (pc := 12) 1 dX7_lockBlock_12 rfl rfl ?_
  refine R_callVh (pc := 13) (μ' := mX2_encrypt) (As := [.ref 36]) (st := []) dX7_lockBlock_13 zX2_encrypt lX7_40 ⟨by decide, by decide⟩ rfl rfl ⟨by decide, by decide⟩ (S_4.2.2.1 16 (by decide)).1 (by omega) rfl (Nat.le_of_ble_eq_true rfl) (S_encrypt S_4 hn (by decide) rfl hk.1 hk.2) (fun h_6 r_ q_7 => ?_)
  obtain ⟨rfl, S_8, F_10⟩ := q_7
  have S_9 : Sys h_6 ρ (ub (ub β 36 (xb (β 36) (β 35))) 36 (eK (κ 16) (xb (β 36) (β 35)))) κ τ := S_8
  refine R_aload_n (pc := 16) 1 dX7_lockBlock_16 rfl rfl ?_
  refine R_aload_n (pc := 17) 0 dX7_lockBlock_17 rfl rfl ?_
  refine R_get (pc := 18) dX7_lockBlock_18 fX7_23 S_9.2.2.2.2.2.1 (by omega) rfl ?_
  refine R_callVh (pc := 21) (μ' := mX0_add) (As := [.ref 35]) (st := []) dX7_lockBlock_21 zX0_add lX7_46 ⟨by decide, by decide⟩ rfl rfl ⟨by decide, by decide⟩ (S_9.blk 36 rfl) (by omega) rfl (Nat.le_of_ble_eq_true rfl) (S_add S_9 hn rfl rfl (by decide)) (fun h_11 r_ q_12 => ?_)
  obtain ⟨rfl, S_13, F_15⟩ := q_12
  have S_14 : Sys h_11 ρ (ub (ub (ub β 36 (xb (β 36) (β 35))) 36 (eK (κ 16) (xb (β 36) (β 35)))) 36 (xb (eK (κ 16) (xb (β 36) (β 35))) (β 35))) κ τ := S_13
  exact R_vreturn (pc := 24) dX7_lockBlock_24 rfl (by decide) (by decide) ⟨rfl, rfl, by have z_ := S_14; (repeat rw [ub_ub] at z_); exact z_, ((F_5.tr F_10).tr F_15)⟩
set_option maxHeartbeats 4000000 in
set_option maxRecDepth 100000 in
theorem qX7_unlockBlock_36 {l : Launch} {w : am_W} {h : am_H} {n : Nat} {ρ : Nat → List (BitVec 8)} {β : Nat → bP} {κ : Nat → kT} {τ : Nat × Nat × Nat} (S : Sys h ρ β κ τ) (hn : 60 ≤ n) (hk : kOk (κ 16)) : RH l w mX7_unlockBlock h n [.ref 34, .ref 36] (SQ h τ none ρ (ub β 36 (xb (dK (κ 16) (xb (β 36) (β 35))) (β 35))) κ) := by
  refine RC.of [(0, .ref 34), (1, .ref 36)] (by decide +kernel) rfl (Nat.le_of_ble_eq_true rfl) ?_
  refine R_aload_n (pc := 0) 1 dX7_unlockBlock_0 rfl rfl ?_
  refine R_aload_n (pc := 1) 0 dX7_unlockBlock_1 rfl rfl ?_
  refine R_get (pc := 2) dX7_unlockBlock_2 fX7_23 S.2.2.2.2.2.1 (by omega) rfl ?_
  refine R_callVh (pc := 5) (μ' := mX0_add) (As := [.ref 35]) (st := []) dX7_unlockBlock_5 zX0_add lX7_46 ⟨by decide, by decide⟩ rfl rfl ⟨by decide, by decide⟩ (S.blk 36 rfl) (by omega) rfl (Nat.le_of_ble_eq_true rfl) (S_add S hn rfl rfl (by decide)) (fun h_1 r_ q_2 => ?_)
  obtain ⟨rfl, S_3, F_5⟩ := q_2
  have S_4 : Sys h_1 ρ (ub β 36 (xb (β 36) (β 35))) κ τ := S_3
  refine R_aload_n (pc := 8) 0 dX7_unlockBlock_8 rfl rfl ?_
  refine R_get (pc := 9) dX7_unlockBlock_9 fX7_7 S_4.2.2.2.2.2.1 (by omega) rfl ?_
  refine R_aload_n (pc := 12) 1 dX7_unlockBlock_12 rfl rfl ?_
  refine R_callVh (pc := 13) (μ' := mX2_decrypt) (As := [.ref 36]) (st := []) dX7_unlockBlock_13 zX2_decrypt lX7_49 ⟨by decide, by decide⟩ rfl rfl ⟨by decide, by decide⟩ (S_4.2.2.1 16 (by decide)).1 (by omega) rfl (Nat.le_of_ble_eq_true rfl) (S_decrypt S_4 hn (by decide) rfl hk.1 hk.2) (fun h_6 r_ q_7 => ?_)
  obtain ⟨rfl, S_8, F_10⟩ := q_7
  have S_9 : Sys h_6 ρ (ub (ub β 36 (xb (β 36) (β 35))) 36 (dK (κ 16) (xb (β 36) (β 35)))) κ τ := S_8
  refine R_aload_n (pc := 16) 1 dX7_unlockBlock_16 rfl rfl ?_
  refine R_aload_n (pc := 17) 0 dX7_unlockBlock_17 rfl rfl ?_
  refine R_get (pc := 18) dX7_unlockBlock_18 fX7_23 S_9.2.2.2.2.2.1 (by omega) rfl ?_
  refine R_callVh (pc := 21) (μ' := mX0_add) (As := [.ref 35]) (st := []) dX7_unlockBlock_21 zX0_add lX7_46 ⟨by decide, by decide⟩ rfl rfl ⟨by decide, by decide⟩ (S_9.blk 36 rfl) (by omega) rfl (Nat.le_of_ble_eq_true rfl) (S_add S_9 hn rfl rfl (by decide)) (fun h_11 r_ q_12 => ?_)
  obtain ⟨rfl, S_13, F_15⟩ := q_12
  have S_14 : Sys h_11 ρ (ub (ub (ub β 36 (xb (β 36) (β 35))) 36 (dK (κ 16) (xb (β 36) (β 35)))) 36 (xb (dK (κ 16) (xb (β 36) (β 35))) (β 35))) κ τ := S_13
  exact R_vreturn (pc := 24) dX7_unlockBlock_24 rfl (by decide) (by decide) ⟨rfl, rfl, by have z_ := S_14; (repeat rw [ub_ub] at z_); exact z_, ((F_5.tr F_10).tr F_15)⟩
set_option maxHeartbeats 4000000 in
set_option maxRecDepth 100000 in
theorem qX7_lockBlock_37 {l : Launch} {w : am_W} {h : am_H} {n : Nat} {ρ : Nat → List (BitVec 8)} {β : Nat → bP} {κ : Nat → kT} {τ : Nat × Nat × Nat} (S : Sys h ρ β κ τ) (hn : 60 ≤ n) (hk : kOk (κ 16)) : RH l w mX7_lockBlock h n [.ref 34, .ref 37] (SQ h τ none ρ (ub β 37 (xb (eK (κ 16) (xb (β 37) (β 35))) (β 35))) κ) := by
  refine RC.of [(0, .ref 34), (1, .ref 37)] (by decide +kernel) rfl (Nat.le_of_ble_eq_true rfl) ?_
  refine R_aload_n (pc := 0) 1 dX7_lockBlock_0 rfl rfl ?_
  refine R_aload_n (pc := 1) 0 dX7_lockBlock_1 rfl rfl ?_
  refine R_get (pc := 2) dX7_lockBlock_2 fX7_23 S.2.2.2.2.2.1 (by omega) rfl ?_
  refine R_callVh (pc := 5) (μ' := mX0_add) (As := [.ref 35]) (st := []) dX7_lockBlock_5 zX0_add lX7_46 ⟨by decide, by decide⟩ rfl rfl ⟨by decide, by decide⟩ (S.blk 37 rfl) (by omega) rfl (Nat.le_of_ble_eq_true rfl) (S_add S hn rfl rfl (by decide)) (fun h_1 r_ q_2 => ?_)
  obtain ⟨rfl, S_3, F_5⟩ := q_2
  have S_4 : Sys h_1 ρ (ub β 37 (xb (β 37) (β 35))) κ τ := S_3
  refine R_aload_n (pc := 8) 0 dX7_lockBlock_8 rfl rfl ?_
  refine R_get (pc := 9) dX7_lockBlock_9 fX7_7 S_4.2.2.2.2.2.1 (by omega) rfl ?_
  refine R_aload_n (pc := 12) 1 dX7_lockBlock_12 rfl rfl ?_
  refine R_callVh (pc := 13) (μ' := mX2_encrypt) (As := [.ref 37]) (st := []) dX7_lockBlock_13 zX2_encrypt lX7_40 ⟨by decide, by decide⟩ rfl rfl ⟨by decide, by decide⟩ (S_4.2.2.1 16 (by decide)).1 (by omega) rfl (Nat.le_of_ble_eq_true rfl) (S_encrypt S_4 hn (by decide) rfl hk.1 hk.2) (fun h_6 r_ q_7 => ?_)
  obtain ⟨rfl, S_8, F_10⟩ := q_7
  have S_9 : Sys h_6 ρ (ub (ub β 37 (xb (β 37) (β 35))) 37 (eK (κ 16) (xb (β 37) (β 35)))) κ τ := S_8
  refine R_aload_n (pc := 16) 1 dX7_lockBlock_16 rfl rfl ?_
  refine R_aload_n (pc := 17) 0 dX7_lockBlock_17 rfl rfl ?_
  refine R_get (pc := 18) dX7_lockBlock_18 fX7_23 S_9.2.2.2.2.2.1 (by omega) rfl ?_
  refine R_callVh (pc := 21) (μ' := mX0_add) (As := [.ref 35]) (st := []) dX7_lockBlock_21 zX0_add lX7_46 ⟨by decide, by decide⟩ rfl rfl ⟨by decide, by decide⟩ (S_9.blk 37 rfl) (by omega) rfl (Nat.le_of_ble_eq_true rfl) (S_add S_9 hn rfl rfl (by decide)) (fun h_11 r_ q_12 => ?_)
  obtain ⟨rfl, S_13, F_15⟩ := q_12
  have S_14 : Sys h_11 ρ (ub (ub (ub β 37 (xb (β 37) (β 35))) 37 (eK (κ 16) (xb (β 37) (β 35)))) 37 (xb (eK (κ 16) (xb (β 37) (β 35))) (β 35))) κ τ := S_13
  exact R_vreturn (pc := 24) dX7_lockBlock_24 rfl (by decide) (by decide) ⟨rfl, rfl, by have z_ := S_14; (repeat rw [ub_ub] at z_); exact z_, ((F_5.tr F_10).tr F_15)⟩
set_option maxHeartbeats 4000000 in
set_option maxRecDepth 100000 in
theorem qX7_unlockBlock_37 {l : Launch} {w : am_W} {h : am_H} {n : Nat} {ρ : Nat → List (BitVec 8)} {β : Nat → bP} {κ : Nat → kT} {τ : Nat × Nat × Nat} (S : Sys h ρ β κ τ) (hn : 60 ≤ n) (hk : kOk (κ 16)) : RH l w mX7_unlockBlock h n [.ref 34, .ref 37] (SQ h τ none ρ (ub β 37 (xb (dK (κ 16) (xb (β 37) (β 35))) (β 35))) κ) := by
  refine RC.of [(0, .ref 34), (1, .ref 37)] (by decide +kernel) rfl (Nat.le_of_ble_eq_true rfl) ?_
  refine R_aload_n (pc := 0) 1 dX7_unlockBlock_0 rfl rfl ?_
  refine R_aload_n (pc := 1) 0 dX7_unlockBlock_1 rfl rfl ?_
  refine R_get (pc := 2) dX7_unlockBlock_2 fX7_23 S.2.2.2.2.2.1 (by omega) rfl ?_
  refine R_callVh (pc := 5) (μ' := mX0_add) (As := [.ref 35]) (st := []) dX7_unlockBlock_5 zX0_add lX7_46 ⟨by decide, by decide⟩ rfl rfl ⟨by decide, by decide⟩ (S.blk 37 rfl) (by omega) rfl (Nat.le_of_ble_eq_true rfl) (S_add S hn rfl rfl (by decide)) (fun h_1 r_ q_2 => ?_)
  obtain ⟨rfl, S_3, F_5⟩ := q_2
  have S_4 : Sys h_1 ρ (ub β 37 (xb (β 37) (β 35))) κ τ := S_3
  refine R_aload_n (pc := 8) 0 dX7_unlockBlock_8 rfl rfl ?_
  refine R_get (pc := 9) dX7_unlockBlock_9 fX7_7 S_4.2.2.2.2.2.1 (by omega) rfl ?_
  refine R_aload_n (pc := 12) 1 dX7_unlockBlock_12 rfl rfl ?_
  refine R_callVh (pc := 13) (μ' := mX2_decrypt) (As := [.ref 37]) (st := []) dX7_unlockBlock_13 zX2_decrypt lX7_49 ⟨by decide, by decide⟩ rfl rfl ⟨by decide, by decide⟩ (S_4.2.2.1 16 (by decide)).1 (by omega) rfl (Nat.le_of_ble_eq_true rfl) (S_decrypt S_4 hn (by decide) rfl hk.1 hk.2) (fun h_6 r_ q_7 => ?_)
  obtain ⟨rfl, S_8, F_10⟩ := q_7
  have S_9 : Sys h_6 ρ (ub (ub β 37 (xb (β 37) (β 35))) 37 (dK (κ 16) (xb (β 37) (β 35)))) κ τ := S_8
  refine R_aload_n (pc := 16) 1 dX7_unlockBlock_16 rfl rfl ?_
  refine R_aload_n (pc := 17) 0 dX7_unlockBlock_17 rfl rfl ?_
  refine R_get (pc := 18) dX7_unlockBlock_18 fX7_23 S_9.2.2.2.2.2.1 (by omega) rfl ?_
  refine R_callVh (pc := 21) (μ' := mX0_add) (As := [.ref 35]) (st := []) dX7_unlockBlock_21 zX0_add lX7_46 ⟨by decide, by decide⟩ rfl rfl ⟨by decide, by decide⟩ (S_9.blk 37 rfl) (by omega) rfl (Nat.le_of_ble_eq_true rfl) (S_add S_9 hn rfl rfl (by decide)) (fun h_11 r_ q_12 => ?_)
  obtain ⟨rfl, S_13, F_15⟩ := q_12
  have S_14 : Sys h_11 ρ (ub (ub (ub β 37 (xb (β 37) (β 35))) 37 (dK (κ 16) (xb (β 37) (β 35)))) 37 (xb (dK (κ 16) (xb (β 37) (β 35))) (β 35))) κ τ := S_13
  exact R_vreturn (pc := 24) dX7_unlockBlock_24 rfl (by decide) (by decide) ⟨rfl, rfl, by have z_ := S_14; (repeat rw [ub_ub] at z_); exact z_, ((F_5.tr F_10).tr F_15)⟩
set_option maxHeartbeats 4000000 in
set_option maxRecDepth 100000 in
theorem qX7_borrowEnd {l : Launch} {w : am_W} {h : am_H} {n : Nat} {ρ : Nat → List (BitVec 8)} {β : Nat → bP} {κ : Nat → kT} {τ : Nat × Nat × Nat} (S : Sys h ρ β κ τ) (hn : 60 ≤ n) {t : Nat} (ht : isRw t = true) (j : Nat) (hj : j ≤ 2000) (v : Int32) : RH l w mX7_borrowEnd h n [.ref 34, .ref t, .int (nI j), .int v] (SQ h τ none ρ (ub β 37 (xb (df (β 36) v) (rd (ρ t) j))) κ) := by
  refine RC.of [(0, .ref 34), (1, .ref t), (2, .int (nI j)), (3, .int v)] (by decide +kernel) rfl (Nat.le_of_ble_eq_true rfl) ?_
  refine R_aload_n (pc := 0) 0 dX7_borrowEnd_0 rfl rfl ?_
  refine R_get (pc := 1) dX7_borrowEnd_1 fX7_30 S.2.2.2.2.2.1 (by omega) rfl ?_
  refine R_aload_n (pc := 4) 0 dX7_borrowEnd_4 rfl rfl ?_
  refine R_get (pc := 5) dX7_borrowEnd_5 fX7_27 S.2.2.2.2.2.1 (by omega) rfl ?_
  refine R_callVh (pc := 8) (μ' := mX0_copy) (As := [.ref 36]) (st := []) dX7_borrowEnd_8 zX0_copy lX7_82 ⟨by decide, by decide⟩ rfl rfl ⟨by decide, by decide⟩ (S.blk 37 rfl) (by omega) rfl (Nat.le_of_ble_eq_true rfl) (S_copy S hn rfl rfl (by decide)) (fun h_1 r_ q_2 => ?_)
  obtain ⟨rfl, S_3, F_5⟩ := q_2
  have S_4 : Sys h_1 ρ (ub β 37 (β 36)) κ τ := S_3
  refine R_aload_n (pc := 11) 0 dX7_borrowEnd_11 rfl rfl ?_
  refine R_get (pc := 12) dX7_borrowEnd_12 fX7_30 S_4.2.2.2.2.2.1 (by omega) rfl ?_
  refine R_iload_n (pc := 15) 3 dX7_borrowEnd_15 rfl rfl ?_
  refine R_callVh (pc := 16) (μ' := mX0_dropFirst) (As := [.int v]) (st := []) dX7_borrowEnd_16 zX0_dropFirst lX7_85 ⟨by decide, by decide⟩ rfl rfl ⟨by decide, by decide⟩ (S_4.blk 37 rfl) (by omega) rfl (Nat.le_of_ble_eq_true rfl) (S_dropFirst S_4 hn rfl _) (fun h_6 r_ q_7 => ?_)
  obtain ⟨rfl, S_8, F_10⟩ := q_7
  have S_9 : Sys h_6 ρ (ub (ub β 37 (β 36)) 37 (df (β 36) v)) κ τ := S_8
  refine R_aload_n (pc := 19) 0 dX7_borrowEnd_19 rfl rfl ?_
  refine R_get (pc := 20) dX7_borrowEnd_20 fX7_30 S_9.2.2.2.2.2.1 (by omega) rfl ?_
  refine R_aload_n (pc := 23) 1 dX7_borrowEnd_23 rfl rfl ?_
  refine R_iload_n (pc := 24) 2 dX7_borrowEnd_24 rfl rfl ?_
  refine R_callVh (pc := 25) (μ' := mX0_addPart) (As := [.ref t, .int (nI j)]) (st := []) dX7_borrowEnd_25 zX0_addPart lX7_88 ⟨by decide, by decide⟩ rfl rfl ⟨by decide, by decide⟩ (S_9.blk 37 rfl) (by omega) rfl (Nat.le_of_ble_eq_true rfl) (S_addPart S_9 hn rfl ht j (by omega)) (fun h_11 r_ q_12 => ?_)
  obtain ⟨rfl, S_13, F_15⟩ := q_12
  have S_14 : Sys h_11 ρ (ub (ub (ub β 37 (β 36)) 37 (df (β 36) v)) 37 (xb (df (β 36) v) (rd (ρ t) j))) κ τ := S_13
  exact R_vreturn (pc := 28) dX7_borrowEnd_28 rfl (by decide) (by decide) ⟨rfl, rfl, by have z_ := S_14; (repeat rw [ub_ub] at z_); exact z_, ((F_5.tr F_10).tr F_15)⟩
set_option maxHeartbeats 4000000 in
set_option maxRecDepth 100000 in
theorem qX7_lock_loop {l : Launch} {w : am_W} {h : am_H} {n : Nat} {ρ : Nat → List (BitVec 8)} {β : Nat → bP} {κ : Nat → kT} {τ : Nat × Nat × Nat} (S : Sys h ρ β κ τ) (hn : 60 ≤ n) {t m : Nat} (ht : isRw t = true) (hm : isRw m = true) (htm : t ≠ m) (hm6 : (6 : Nat) ≠ m) (hk : kOk (κ 16)) (hk2 : kOk (κ 20)) (hm0 : ρ m = []) (hlen : 16 ≤ (ρ t).length) (hr : (ρ t).length + 16 ≤ rwN m) (kk : ∀ h2 β2, Sys h2 (ur ρ m ((stN (scS (eK (κ 16)) (ρ t)) (eK (κ 20) (rd (ρ 6) 0)) ((ρ t).length / 16)).2)) β2 κ τ → β2 35 = (stN (scS (eK (κ 16)) (ρ t)) (eK (κ 20) (rd (ρ 6) 0)) ((ρ t).length / 16)).1 → β2 36 = scB (eK (κ 16)) (ρ t) (eK (κ 20) (rd (ρ 6) 0)) (β 36) ((ρ t).length / 16) → (∀ a, a ∉ [35, 36, 37, 38] → β2 a = β a) → Fr h h2 → RW l w mX7_lock h2 n 0 0 71 [(5, .int (nI (16 * ((ρ t).length / 16)))), (4, .int (nI (16 * ((ρ t).length / 16)))), (3, .int (nI ((ρ t).length % 16))), (0, .ref 34), (1, .ref t), (2, .ref m)] [] (fun h' n' r_ => n' = n ∧ (SX h τ none (ur ρ m (scE (eK (κ 16)) (ρ t) (eK (κ 20) (rd (ρ 6) 0)) (β 36))) β κ [35, 36, 37, 38]) h' r_)) : ∀ (d i : Nat), i + d = (ρ t).length / 16 → ∀ h2 β2, Sys h2 (ur ρ m ((stN (scS (eK (κ 16)) (ρ t)) (eK (κ 20) (rd (ρ 6) 0)) i).2)) β2 κ τ → β2 35 = (stN (scS (eK (κ 16)) (ρ t)) (eK (κ 20) (rd (ρ 6) 0)) i).1 → β2 36 = scB (eK (κ 16)) (ρ t) (eK (κ 20) (rd (ρ 6) 0)) (β 36) i → (∀ a, a ∉ [35, 36, 37, 38] → β2 a = β a) → Fr h h2 → RW l w mX7_lock h2 n 0 0 23 [(5, .int (nI (16 * i))), (4, .int (nI (16 * ((ρ t).length / 16)))), (3, .int (nI ((ρ t).length % 16))), (0, .ref 34), (1, .ref t), (2, .ref m)] [] (fun h' n' r_ => n' = n ∧ (SX h τ none (ur ρ m (scE (eK (κ 16)) (ρ t) (eK (κ 20) (rd (ρ 6) 0)) (β 36))) β κ [35, 36, 37, 38]) h' r_) := by
  have hlt := S.len t ht
  have hlm := S.len m hm
  have htc := rw_cases ht
  have hmc := rw_cases hm
  intro d
  induction d with
  | zero =>
    intro i hd h2 β2 S2 hv35 hv36 hB hF
    refine R_iload (pc := 23) 0 dX7_lock_23 rfl ?_
    refine R_iload (pc := 25) 1 dX7_lock_25 rfl ?_
    refine R_icmp_ge (pc := 27) (tgt := 71) dX7_lock_27 (by decide) (fun c_1 => ?_) (fun c_1 => absurd (nI_le (by omega) (by omega)) c_1)
    obtain rfl : i = (ρ t).length / 16 := by omega
    exact kk h2 β2 S2 hv35 hv36 hB hF
  | succ d ih =>
    intro i hd h2 β2 S2 hv35 hv36 hB hF
    have S_1 : Sys h2 (ur ρ m ((stN (scS (eK (κ 16)) (ρ t)) (eK (κ 20) (rd (ρ 6) 0)) i).2)) (ub β2 35 ((stN (scS (eK (κ 16)) (ρ t)) (eK (κ 20) (rd (ρ 6) 0)) i).1)) κ τ := Sys.know S2 (hv35)
    have S_2 : Sys h2 (ur ρ m ((stN (scS (eK (κ 16)) (ρ t)) (eK (κ 20) (rd (ρ 6) 0)) i).2)) (ub (ub β2 35 ((stN (scS (eK (κ 16)) (ρ t)) (eK (κ 20) (rd (ρ 6) 0)) i).1)) 36 (scB (eK (κ 16)) (ρ t) (eK (κ 20) (rd (ρ 6) 0)) (β 36) i)) κ τ := Sys.know S_1 (hv36)
    refine R_iload (pc := 23) 0 dX7_lock_23 rfl ?_
    refine R_iload (pc := 25) 1 dX7_lock_25 rfl ?_
    refine R_icmp_ge (pc := 27) (tgt := 71) dX7_lock_27 (by decide) (fun c_3 => absurd c_3 (nI_ge (by omega) (by omega))) (fun c_3 => ?_)
    refine R_aload_n (pc := 30) 3 dX7_lock_30 rfl rfl ?_
    refine R_get (pc := 31) dX7_lock_31 fX7_27 S_2.2.2.2.2.2.1 (by omega) rfl ?_
    refine R_aload_n (pc := 34) 4 dX7_lock_34 rfl rfl ?_
    refine R_iload (pc := 35) 0 dX7_lock_35 rfl ?_
    refine R_callVh (pc := 37) (μ' := mX0_read) (As := [.ref t, .int (nI (16 * i))]) (st := []) dX7_lock_37 zX0_read lX7_36 ⟨by decide, by decide⟩ rfl rfl ⟨by decide, by decide⟩ (S_2.blk 36 rfl) (by omega) rfl (Nat.le_of_ble_eq_true rfl) (S_read S_2 hn rfl ht (16 * i) (by omega)) (fun h_4 r_ q_5 => ?_)
    obtain ⟨rfl, S_6, F_8⟩ := q_5
    have S_7 : Sys h_4 (ur ρ m ((stN (scS (eK (κ 16)) (ρ t)) (eK (κ 20) (rd (ρ 6) 0)) i).2)) (ub (ub (ub β2 35 ((stN (scS (eK (κ 16)) (ρ t)) (eK (κ 20) (rd (ρ 6) 0)) i).1)) 36 (scB (eK (κ 16)) (ρ t) (eK (κ 20) (rd (ρ 6) 0)) (β 36) i)) 36 (rd (ρ t) (16 * i))) κ τ := by have z_ := S_6; (try simp only [ur_s, ur_ur, ur_n (x := t) (r := m) htm, ur_n (x := 6) (r := m) hm6] at z_); exact z_
    refine R_aload_n (pc := 40) 3 dX7_lock_40 rfl rfl ?_
    refine R_aload_n (pc := 41) 3 dX7_lock_41 rfl rfl ?_
    refine R_get (pc := 42) dX7_lock_42 fX7_27 S_7.2.2.2.2.2.1 (by omega) rfl ?_
    refine R_callVh (pc := 45) (μ' := mX7_lockBlock) (As := [.ref 36]) (st := []) dX7_lock_45 zX7_lockBlock lX7_61 ⟨by decide, by decide⟩ rfl rfl ⟨by decide, by decide⟩ S_7.2.2.2.2.2.1 (by omega) rfl (Nat.le_of_ble_eq_true rfl) (qX7_lockBlock_36 S_7 hn hk) (fun h_9 r_ q_10 => ?_)
    obtain ⟨rfl, S_11, F_13⟩ := q_10
    have S_12 : Sys h_9 (ur ρ m ((stN (scS (eK (κ 16)) (ρ t)) (eK (κ 20) (rd (ρ 6) 0)) i).2)) (ub (ub (ub (ub β2 35 ((stN (scS (eK (κ 16)) (ρ t)) (eK (κ 20) (rd (ρ 6) 0)) i).1)) 36 (scB (eK (κ 16)) (ρ t) (eK (κ 20) (rd (ρ 6) 0)) (β 36) i)) 36 (rd (ρ t) (16 * i))) 36 (xb (eK (κ 16) (xb (rd (ρ t) (16 * i)) ((stN (scS (eK (κ 16)) (ρ t)) (eK (κ 20) (rd (ρ 6) 0)) i).1))) ((stN (scS (eK (κ 16)) (ρ t)) (eK (κ 20) (rd (ρ 6) 0)) i).1))) κ τ := by have z_ := S_11; (try simp only [ur_s, ur_ur, ur_n (x := t) (r := m) htm, ur_n (x := 6) (r := m) hm6] at z_); exact z_
    refine R_aload_n (pc := 48) 5 dX7_lock_48 rfl rfl ?_
    refine R_aload_n (pc := 49) 3 dX7_lock_49 rfl rfl ?_
    refine R_get (pc := 50) dX7_lock_50 fX7_27 S_12.2.2.2.2.2.1 (by omega) rfl ?_
    refine R_bipush (pc := 53) (v := 16) dX7_lock_53 (by decide) ?_
    refine R_callVh (pc := 55) (μ' := mX6_appendBlock) (As := [.ref 36, .int (nI 16)]) (st := []) dX7_lock_55 zX6_appendBlock lX7_64 ⟨by decide, by decide⟩ rfl rfl ⟨by decide, by decide⟩ (S_12.rowO m hm) (by omega) rfl (Nat.le_of_ble_eq_true rfl) (S_appendBlock S_12 hn hm rfl 16 (by simp only [ur_s, stN_len (fun _ _ => scS_len _ _ _ _)]; omega)) (fun h_14 r_ q_15 => ?_)
    obtain ⟨rfl, S_16, F_18⟩ := q_15
    have S_17 : Sys h_14 (ur ρ m (((stN (scS (eK (κ 16)) (ρ t)) (eK (κ 20) (rd (ρ 6) 0)) i).2) ++ bt (xb (eK (κ 16) (xb (rd (ρ t) (16 * i)) ((stN (scS (eK (κ 16)) (ρ t)) (eK (κ 20) (rd (ρ 6) 0)) i).1))) ((stN (scS (eK (κ 16)) (ρ t)) (eK (κ 20) (rd (ρ 6) 0)) i).1)) 16)) (ub (ub (ub (ub β2 35 ((stN (scS (eK (κ 16)) (ρ t)) (eK (κ 20) (rd (ρ 6) 0)) i).1)) 36 (scB (eK (κ 16)) (ρ t) (eK (κ 20) (rd (ρ 6) 0)) (β 36) i)) 36 (rd (ρ t) (16 * i))) 36 (xb (eK (κ 16) (xb (rd (ρ t) (16 * i)) ((stN (scS (eK (κ 16)) (ρ t)) (eK (κ 20) (rd (ρ 6) 0)) i).1))) ((stN (scS (eK (κ 16)) (ρ t)) (eK (κ 20) (rd (ρ 6) 0)) i).1))) κ τ := by have z_ := S_16; (try simp only [ur_s, ur_ur, ur_n (x := t) (r := m) htm, ur_n (x := 6) (r := m) hm6] at z_); exact z_
    refine R_aload_n (pc := 58) 3 dX7_lock_58 rfl rfl ?_
    refine R_get (pc := 59) dX7_lock_59 fX7_23 S_17.2.2.2.2.2.1 (by omega) rfl ?_
    refine R_callVh (pc := 62) (μ' := mX0_makeDoubleLowFirst) (As := []) (st := []) dX7_lock_62 zX0_makeDoubleLowFirst lX7_68 ⟨by decide, by decide⟩ rfl rfl ⟨by decide, by decide⟩ (S_17.blk 35 rfl) (by omega) rfl (Nat.le_of_ble_eq_true rfl) (S_makeDoubleLowFirst S_17 hn rfl) (fun h_19 r_ q_20 => ?_)
    obtain ⟨rfl, S_21, F_23⟩ := q_20
    have S_22 : Sys h_19 (ur ρ m (((stN (scS (eK (κ 16)) (ρ t)) (eK (κ 20) (rd (ρ 6) 0)) i).2) ++ bt (xb (eK (κ 16) (xb (rd (ρ t) (16 * i)) ((stN (scS (eK (κ 16)) (ρ t)) (eK (κ 20) (rd (ρ 6) 0)) i).1))) ((stN (scS (eK (κ 16)) (ρ t)) (eK (κ 20) (rd (ρ 6) 0)) i).1)) 16)) (ub (ub (ub (ub (ub β2 35 ((stN (scS (eK (κ 16)) (ρ t)) (eK (κ 20) (rd (ρ 6) 0)) i).1)) 36 (scB (eK (κ 16)) (ρ t) (eK (κ 20) (rd (ρ 6) 0)) (β 36) i)) 36 (rd (ρ t) (16 * i))) 36 (xb (eK (κ 16) (xb (rd (ρ t) (16 * i)) ((stN (scS (eK (κ 16)) (ρ t)) (eK (κ 20) (rd (ρ 6) 0)) i).1))) ((stN (scS (eK (κ 16)) (ρ t)) (eK (κ 20) (rd (ρ 6) 0)) i).1))) 35 (dblL ((stN (scS (eK (κ 16)) (ρ t)) (eK (κ 20) (rd (ρ 6) 0)) i).1))) κ τ := by have z_ := S_21; (try simp only [ur_s, ur_ur, ur_n (x := t) (r := m) htm, ur_n (x := 6) (r := m) hm6] at z_); exact z_
    refine R_iinc (pc := 65) (j := 0) (v := nI (16 * (i + 1))) (lv' := [(5, .int (nI (16 * (i + 1)))), (4, .int (nI (16 * ((ρ t).length / 16)))), (3, .int (nI ((ρ t).length % 16))), (0, .ref 34), (1, .ref t), (2, .ref m)]) dX7_lock_65 rfl (nI_add (16 * i) 16) (by decide) rfl ?_
    refine R_goto (pc := 68) (tgt := 23) dX7_lock_68 (by decide) ?_
    refine R_sub [0, 1, 2, 3, 4, 5] rfl ?_
    refine ih (i + 1) (by omega) h_19 (ub (ub (ub (ub (ub β2 35 ((stN (scS (eK (κ 16)) (ρ t)) (eK (κ 20) (rd (ρ 6) 0)) i).1)) 36 (scB (eK (κ 16)) (ρ t) (eK (κ 20) (rd (ρ 6) 0)) (β 36) i)) 36 (rd (ρ t) (16 * i))) 36 (xb (eK (κ 16) (xb (rd (ρ t) (16 * i)) ((stN (scS (eK (κ 16)) (ρ t)) (eK (κ 20) (rd (ρ 6) 0)) i).1))) ((stN (scS (eK (κ 16)) (ρ t)) (eK (κ 20) (rd (ρ 6) 0)) i).1))) 35 (dblL ((stN (scS (eK (κ 16)) (ρ t)) (eK (κ 20) (rd (ρ 6) 0)) i).1))) (by have z_ := S_22; skip; exact z_) rfl rfl (fun a_ n_ => ?_) (hF.tr (((F_8.tr F_13).tr F_18).tr F_23))
    have q_ := hB a_ n_; simp only [List.mem_cons, List.not_mem_nil, or_false, not_or] at n_
    (try simp only [ub, if_neg, n_, if_false])
    first | exact q_ | (simp only [ub_k]; exact q_) | (rw [q_]; simp only [ub_k]) | (repeat' split) <;> first | exact q_ | (rename_i e_; rw [e_])
set_option maxHeartbeats 4000000 in
set_option maxRecDepth 100000 in
theorem qX7_lock {l : Launch} {w : am_W} {h : am_H} {n : Nat} {ρ : Nat → List (BitVec 8)} {β : Nat → bP} {κ : Nat → kT} {τ : Nat × Nat × Nat} (S : Sys h ρ β κ τ) (hn : 60 ≤ n) {t m : Nat} (ht : isRw t = true) (hm : isRw m = true) (htm : t ≠ m) (hm6 : (6 : Nat) ≠ m) (hk : kOk (κ 16)) (hk2 : kOk (κ 20)) (hm0 : ρ m = []) (hlen : 16 ≤ (ρ t).length) (hr : (ρ t).length + 16 ≤ rwN m) : RH l w mX7_lock h n [.ref 34, .ref t, .ref m] (SX h τ none (ur ρ m (scE (eK (κ 16)) (ρ t) (eK (κ 20) (rd (ρ 6) 0)) (β 36))) β κ [35, 36, 37, 38]) := by
  refine RC.of [(0, .ref 34), (1, .ref t), (2, .ref m)] (by decide +kernel) rfl (Nat.le_of_ble_eq_true rfl) ?_
  have hlt := S.len t ht
  have hlm := S.len m hm
  have htc := rw_cases ht
  have hmc := rw_cases hm
  refine R_aload_n (pc := 0) 1 dX7_lock_0 rfl rfl ?_
  have := rw_cases (r := t) ht
  refine R_get (pc := 1) dX7_lock_1 fX7_52 (S.rowO t ht) (by omega) rfl ?_
  refine R_eqi (y := nI (ρ t).length) (by first | rfl | (simp only [ur_s, ur_ur])) ?_
  refine R_bipush (pc := 4) (v := 15) dX7_lock_4 (by decide) ?_
  refine R_iand (pc := 6) dX7_lock_6 ?_
  refine R_eqi (y := nI ((ρ t).length % 16)) (pk_andN (by omega) 4 (by decide)) ?_
  refine R_istore_n (pc := 7) (lv' := [(3, .int (nI ((ρ t).length % 16))), (0, .ref 34), (1, .ref t), (2, .ref m)]) dX7_lock_7 rfl (by decide) rfl ?_
  refine R_aload_n (pc := 8) 2 dX7_lock_8 rfl rfl ?_
  have := rw_cases (r := t) ht
  refine R_get (pc := 9) dX7_lock_9 fX7_52 (S.rowO t ht) (by omega) rfl ?_
  refine R_eqi (y := nI (ρ t).length) (by first | rfl | (simp only [ur_s, ur_ur])) ?_
  refine R_iload_n (pc := 12) 0 dX7_lock_12 rfl rfl ?_
  refine R_isub (pc := 13) dX7_lock_13 ?_
  refine R_eqi (y := nI (16 * ((ρ t).length / 16))) (by rw [pk_sub (by omega), show (ρ t).length - (ρ t).length % 16 = 16 * ((ρ t).length / 16) by omega]) ?_
  refine R_istore (pc := 14) (lv' := [(4, .int (nI (16 * ((ρ t).length / 16)))), (3, .int (nI ((ρ t).length % 16))), (0, .ref 34), (1, .ref t), (2, .ref m)]) dX7_lock_14 (by decide) rfl ?_
  refine R_aload_n (pc := 16) 2 dX7_lock_16 rfl rfl ?_
  refine R_callVh (pc := 17) (μ' := mX7_begin) (As := []) (st := []) dX7_lock_17 zX7_begin lX7_58 ⟨by decide, by decide⟩ rfl rfl ⟨by decide, by decide⟩ S.2.2.2.2.2.1 (by omega) rfl (Nat.le_of_ble_eq_true rfl) (qX7_begin S hn hk2) (fun h_1 r_ q_2 => ?_)
  obtain ⟨rfl, S_3, F_5⟩ := q_2
  have S_4 : Sys h_1 ρ (ub β 35 (eK (κ 20) (rd (ρ 6) 0))) κ τ := S_3
  refine R_iconst (pc := 20) (v := 0) dX7_lock_20 (by decide) ?_
  refine R_istore (pc := 21) (lv' := [(5, .int 0), (4, .int (nI (16 * ((ρ t).length / 16)))), (3, .int (nI ((ρ t).length % 16))), (0, .ref 34), (1, .ref t), (2, .ref m)]) dX7_lock_21 (by decide) rfl ?_
  refine R_sub [0, 1, 2, 3, 4, 5] rfl ?_
  refine qX7_lock_loop S hn ht hm htm hm6 hk hk2 hm0 hlen hr ?_ ((ρ t).length / 16) 0 (by omega) h_1 (ub β 35 (eK (κ 20) (rd (ρ 6) 0))) (by have z_ := S_4; rw [← ur_id ρ m, hm0] at z_; (try simp only [ur_n (x := 6) (r := m) hm6] at z_); exact z_) rfl rfl (fun a_ n_ => ?_) F_5
  · intro h2 β2 S2 hv35 hv36 hB hF
    have S_6 : Sys h2 (ur ρ m ((stN (scS (eK (κ 16)) (ρ t)) (eK (κ 20) (rd (ρ 6) 0)) ((ρ t).length / 16)).2)) (ub β2 35 ((stN (scS (eK (κ 16)) (ρ t)) (eK (κ 20) (rd (ρ 6) 0)) ((ρ t).length / 16)).1)) κ τ := Sys.know S2 (hv35)
    have S_7 : Sys h2 (ur ρ m ((stN (scS (eK (κ 16)) (ρ t)) (eK (κ 20) (rd (ρ 6) 0)) ((ρ t).length / 16)).2)) (ub (ub β2 35 ((stN (scS (eK (κ 16)) (ρ t)) (eK (κ 20) (rd (ρ 6) 0)) ((ρ t).length / 16)).1)) 36 (scB (eK (κ 16)) (ρ t) (eK (κ 20) (rd (ρ 6) 0)) (β 36) ((ρ t).length / 16))) κ τ := Sys.know S_6 (hv36)
    refine R_iload_n (pc := 71) 2 dX7_lock_71 rfl rfl ?_
    refine R_if_eq (pc := 72) (tgt := 119) dX7_lock_72 (by decide) (fun c_8 => ?_) (fun c_8 => ?_)
    · skip
      rw [show scE (eK (κ 16)) (ρ t) (eK (κ 20) (rd (ρ 6) 0)) (β 36) = (stN (scS (eK (κ 16)) (ρ t)) (eK (κ 20) (rd (ρ 6) 0)) ((ρ t).length / 16)).2 from if_pos c_8]
      refine R_vreturn (pc := 119) dX7_lock_119 rfl (by decide) (by decide) ⟨rfl, (ub (ub β2 35 ((stN (scS (eK (κ 16)) (ρ t)) (eK (κ 20) (rd (ρ 6) 0)) ((ρ t).length / 16)).1)) 36 (scB (eK (κ 16)) (ρ t) (eK (κ 20) (rd (ρ 6) 0)) (β 36) ((ρ t).length / 16))), ?_, rfl, S_7, hF⟩
      intro a_ n_
      simp only [List.mem_cons, List.not_mem_nil, or_false, not_or] at n_
      (try simp only [ub, if_neg, if_false, n_])
      (try simp only [ub_k])
      (try rw [hB a_ (by simp [n_])])
      (try simp only [ub, if_neg, if_false, n_])
      (try simp only [ub_k])
    · skip
      refine R_aload_n (pc := 75) 5 dX7_lock_75 rfl rfl ?_
      refine R_iload (pc := 76) 1 dX7_lock_76 rfl ?_
      refine R_bipush (pc := 78) (v := 16) dX7_lock_78 (by decide) ?_
      refine R_isub (pc := 80) dX7_lock_80 ?_
      refine R_eqi (y := nI (16 * ((ρ t).length / 16) - 16)) (pk_sub (b := 16) (by omega)) ?_
      refine R_callVh (pc := 81) (μ' := mX6_keep) (As := [.int (nI (16 * ((ρ t).length / 16) - 16))]) (st := []) dX7_lock_81 zX6_keep lX7_71 ⟨by decide, by decide⟩ rfl rfl ⟨by decide, by decide⟩ (S_7.rowO m hm) (by omega) rfl (Nat.le_of_ble_eq_true rfl) (S_keep S_7 hn hm (16 * ((ρ t).length / 16) - 16) (by omega)) (fun h_9 r_ q_10 => ?_)
      obtain ⟨rfl, S_11, F_13⟩ := q_10
      have S_12 : Sys h_9 (ur ρ m (((stN (scS (eK (κ 16)) (ρ t)) (eK (κ 20) (rd (ρ 6) 0)) ((ρ t).length / 16)).2).take (16 * ((ρ t).length / 16) - 16))) (ub (ub β2 35 ((stN (scS (eK (κ 16)) (ρ t)) (eK (κ 20) (rd (ρ 6) 0)) ((ρ t).length / 16)).1)) 36 (scB (eK (κ 16)) (ρ t) (eK (κ 20) (rd (ρ 6) 0)) (β 36) ((ρ t).length / 16))) κ τ := by have z_ := S_11; (try simp only [ur_s, ur_ur, ur_n (x := t) (r := m) htm, ur_n (x := 6) (r := m) hm6] at z_); exact z_
      refine R_aload_n (pc := 84) 3 dX7_lock_84 rfl rfl ?_
      refine R_aload_n (pc := 85) 4 dX7_lock_85 rfl rfl ?_
      refine R_iload (pc := 86) 1 dX7_lock_86 rfl ?_
      refine R_iload_n (pc := 88) 2 dX7_lock_88 rfl rfl ?_
      refine R_callVh (pc := 89) (μ' := mX7_borrowEnd) (As := [.ref t, .int (nI (16 * ((ρ t).length / 16))), .int (nI ((ρ t).length % 16))]) (st := []) dX7_lock_89 zX7_borrowEnd lX7_75 ⟨by decide, by decide⟩ rfl rfl ⟨by decide, by decide⟩ S_12.2.2.2.2.2.1 (by omega) rfl (Nat.le_of_ble_eq_true rfl) (qX7_borrowEnd S_12 hn ht (16 * ((ρ t).length / 16)) (by omega) _) (fun h_14 r_ q_15 => ?_)
      obtain ⟨rfl, S_16, F_18⟩ := q_15
      have S_17 : Sys h_14 (ur ρ m (((stN (scS (eK (κ 16)) (ρ t)) (eK (κ 20) (rd (ρ 6) 0)) ((ρ t).length / 16)).2).take (16 * ((ρ t).length / 16) - 16))) (ub (ub (ub β2 35 ((stN (scS (eK (κ 16)) (ρ t)) (eK (κ 20) (rd (ρ 6) 0)) ((ρ t).length / 16)).1)) 36 (scB (eK (κ 16)) (ρ t) (eK (κ 20) (rd (ρ 6) 0)) (β 36) ((ρ t).length / 16))) 37 (xb (df (scB (eK (κ 16)) (ρ t) (eK (κ 20) (rd (ρ 6) 0)) (β 36) ((ρ t).length / 16)) (nI ((ρ t).length % 16))) (rd (ρ t) (16 * ((ρ t).length / 16))))) κ τ := by have z_ := S_16; (try simp only [ur_s, ur_ur, ur_n (x := t) (r := m) htm, ur_n (x := 6) (r := m) hm6] at z_); exact z_
      refine R_aload_n (pc := 92) 3 dX7_lock_92 rfl rfl ?_
      refine R_aload_n (pc := 93) 3 dX7_lock_93 rfl rfl ?_
      refine R_get (pc := 94) dX7_lock_94 fX7_30 S_17.2.2.2.2.2.1 (by omega) rfl ?_
      refine R_callVh (pc := 97) (μ' := mX7_lockBlock) (As := [.ref 37]) (st := []) dX7_lock_97 zX7_lockBlock lX7_61 ⟨by decide, by decide⟩ rfl rfl ⟨by decide, by decide⟩ S_17.2.2.2.2.2.1 (by omega) rfl (Nat.le_of_ble_eq_true rfl) (qX7_lockBlock_37 S_17 hn hk) (fun h_19 r_ q_20 => ?_)
      obtain ⟨rfl, S_21, F_23⟩ := q_20
      have S_22 : Sys h_19 (ur ρ m (((stN (scS (eK (κ 16)) (ρ t)) (eK (κ 20) (rd (ρ 6) 0)) ((ρ t).length / 16)).2).take (16 * ((ρ t).length / 16) - 16))) (ub (ub (ub (ub β2 35 ((stN (scS (eK (κ 16)) (ρ t)) (eK (κ 20) (rd (ρ 6) 0)) ((ρ t).length / 16)).1)) 36 (scB (eK (κ 16)) (ρ t) (eK (κ 20) (rd (ρ 6) 0)) (β 36) ((ρ t).length / 16))) 37 (xb (df (scB (eK (κ 16)) (ρ t) (eK (κ 20) (rd (ρ 6) 0)) (β 36) ((ρ t).length / 16)) (nI ((ρ t).length % 16))) (rd (ρ t) (16 * ((ρ t).length / 16))))) 37 (xb (eK (κ 16) (xb (xb (df (scB (eK (κ 16)) (ρ t) (eK (κ 20) (rd (ρ 6) 0)) (β 36) ((ρ t).length / 16)) (nI ((ρ t).length % 16))) (rd (ρ t) (16 * ((ρ t).length / 16)))) ((stN (scS (eK (κ 16)) (ρ t)) (eK (κ 20) (rd (ρ 6) 0)) ((ρ t).length / 16)).1))) ((stN (scS (eK (κ 16)) (ρ t)) (eK (κ 20) (rd (ρ 6) 0)) ((ρ t).length / 16)).1))) κ τ := by have z_ := S_21; (try simp only [ur_s, ur_ur, ur_n (x := t) (r := m) htm, ur_n (x := 6) (r := m) hm6] at z_); exact z_
      refine R_aload_n (pc := 100) 5 dX7_lock_100 rfl rfl ?_
      refine R_aload_n (pc := 101) 3 dX7_lock_101 rfl rfl ?_
      refine R_get (pc := 102) dX7_lock_102 fX7_30 S_22.2.2.2.2.2.1 (by omega) rfl ?_
      refine R_bipush (pc := 105) (v := 16) dX7_lock_105 (by decide) ?_
      refine R_callVh (pc := 107) (μ' := mX6_appendBlock) (As := [.ref 37, .int (nI 16)]) (st := []) dX7_lock_107 zX6_appendBlock lX7_64 ⟨by decide, by decide⟩ rfl rfl ⟨by decide, by decide⟩ (S_22.rowO m hm) (by omega) rfl (Nat.le_of_ble_eq_true rfl) (S_appendBlock S_22 hn hm rfl 16 (by simp only [ur_s, List.length_take, stN_len (fun _ _ => scS_len _ _ _ _)]; omega)) (fun h_24 r_ q_25 => ?_)
      obtain ⟨rfl, S_26, F_28⟩ := q_25
      have S_27 : Sys h_24 (ur ρ m ((((stN (scS (eK (κ 16)) (ρ t)) (eK (κ 20) (rd (ρ 6) 0)) ((ρ t).length / 16)).2).take (16 * ((ρ t).length / 16) - 16)) ++ bt (xb (eK (κ 16) (xb (xb (df (scB (eK (κ 16)) (ρ t) (eK (κ 20) (rd (ρ 6) 0)) (β 36) ((ρ t).length / 16)) (nI ((ρ t).length % 16))) (rd (ρ t) (16 * ((ρ t).length / 16)))) ((stN (scS (eK (κ 16)) (ρ t)) (eK (κ 20) (rd (ρ 6) 0)) ((ρ t).length / 16)).1))) ((stN (scS (eK (κ 16)) (ρ t)) (eK (κ 20) (rd (ρ 6) 0)) ((ρ t).length / 16)).1)) 16)) (ub (ub (ub (ub β2 35 ((stN (scS (eK (κ 16)) (ρ t)) (eK (κ 20) (rd (ρ 6) 0)) ((ρ t).length / 16)).1)) 36 (scB (eK (κ 16)) (ρ t) (eK (κ 20) (rd (ρ 6) 0)) (β 36) ((ρ t).length / 16))) 37 (xb (df (scB (eK (κ 16)) (ρ t) (eK (κ 20) (rd (ρ 6) 0)) (β 36) ((ρ t).length / 16)) (nI ((ρ t).length % 16))) (rd (ρ t) (16 * ((ρ t).length / 16))))) 37 (xb (eK (κ 16) (xb (xb (df (scB (eK (κ 16)) (ρ t) (eK (κ 20) (rd (ρ 6) 0)) (β 36) ((ρ t).length / 16)) (nI ((ρ t).length % 16))) (rd (ρ t) (16 * ((ρ t).length / 16)))) ((stN (scS (eK (κ 16)) (ρ t)) (eK (κ 20) (rd (ρ 6) 0)) ((ρ t).length / 16)).1))) ((stN (scS (eK (κ 16)) (ρ t)) (eK (κ 20) (rd (ρ 6) 0)) ((ρ t).length / 16)).1))) κ τ := by have z_ := S_26; (try simp only [ur_s, ur_ur, ur_n (x := t) (r := m) htm, ur_n (x := 6) (r := m) hm6] at z_); exact z_
      refine R_aload_n (pc := 110) 5 dX7_lock_110 rfl rfl ?_
      refine R_aload_n (pc := 111) 3 dX7_lock_111 rfl rfl ?_
      refine R_get (pc := 112) dX7_lock_112 fX7_27 S_27.2.2.2.2.2.1 (by omega) rfl ?_
      refine R_iload_n (pc := 115) 2 dX7_lock_115 rfl rfl ?_
      refine R_callVh (pc := 116) (μ' := mX6_appendBlock) (As := [.ref 36, .int (nI ((ρ t).length % 16))]) (st := []) dX7_lock_116 zX6_appendBlock lX7_64 ⟨by decide, by decide⟩ rfl rfl ⟨by decide, by decide⟩ (S_27.rowO m hm) (by omega) rfl (Nat.le_of_ble_eq_true rfl) (S_appendBlock S_27 hn hm rfl ((ρ t).length % 16) (by simp only [ur_s, List.length_append, bt_len, List.length_take, stN_len (fun _ _ => scS_len _ _ _ _)]; omega)) (fun h_29 r_ q_30 => ?_)
      obtain ⟨rfl, S_31, F_33⟩ := q_30
      have S_32 : Sys h_29 (ur ρ m (((((stN (scS (eK (κ 16)) (ρ t)) (eK (κ 20) (rd (ρ 6) 0)) ((ρ t).length / 16)).2).take (16 * ((ρ t).length / 16) - 16)) ++ bt (xb (eK (κ 16) (xb (xb (df (scB (eK (κ 16)) (ρ t) (eK (κ 20) (rd (ρ 6) 0)) (β 36) ((ρ t).length / 16)) (nI ((ρ t).length % 16))) (rd (ρ t) (16 * ((ρ t).length / 16)))) ((stN (scS (eK (κ 16)) (ρ t)) (eK (κ 20) (rd (ρ 6) 0)) ((ρ t).length / 16)).1))) ((stN (scS (eK (κ 16)) (ρ t)) (eK (κ 20) (rd (ρ 6) 0)) ((ρ t).length / 16)).1)) 16) ++ bt (scB (eK (κ 16)) (ρ t) (eK (κ 20) (rd (ρ 6) 0)) (β 36) ((ρ t).length / 16)) ((ρ t).length % 16))) (ub (ub (ub (ub β2 35 ((stN (scS (eK (κ 16)) (ρ t)) (eK (κ 20) (rd (ρ 6) 0)) ((ρ t).length / 16)).1)) 36 (scB (eK (κ 16)) (ρ t) (eK (κ 20) (rd (ρ 6) 0)) (β 36) ((ρ t).length / 16))) 37 (xb (df (scB (eK (κ 16)) (ρ t) (eK (κ 20) (rd (ρ 6) 0)) (β 36) ((ρ t).length / 16)) (nI ((ρ t).length % 16))) (rd (ρ t) (16 * ((ρ t).length / 16))))) 37 (xb (eK (κ 16) (xb (xb (df (scB (eK (κ 16)) (ρ t) (eK (κ 20) (rd (ρ 6) 0)) (β 36) ((ρ t).length / 16)) (nI ((ρ t).length % 16))) (rd (ρ t) (16 * ((ρ t).length / 16)))) ((stN (scS (eK (κ 16)) (ρ t)) (eK (κ 20) (rd (ρ 6) 0)) ((ρ t).length / 16)).1))) ((stN (scS (eK (κ 16)) (ρ t)) (eK (κ 20) (rd (ρ 6) 0)) ((ρ t).length / 16)).1))) κ τ := by have z_ := S_31; (try simp only [ur_s, ur_ur, ur_n (x := t) (r := m) htm, ur_n (x := 6) (r := m) hm6] at z_); exact z_
      rw [show scE (eK (κ 16)) (ρ t) (eK (κ 20) (rd (ρ 6) 0)) (β 36) = ((((stN (scS (eK (κ 16)) (ρ t)) (eK (κ 20) (rd (ρ 6) 0)) ((ρ t).length / 16)).2).take (16 * ((ρ t).length / 16) - 16)) ++ bt (xb (eK (κ 16) (xb (xb (df (scB (eK (κ 16)) (ρ t) (eK (κ 20) (rd (ρ 6) 0)) (β 36) ((ρ t).length / 16)) (nI ((ρ t).length % 16))) (rd (ρ t) (16 * ((ρ t).length / 16)))) ((stN (scS (eK (κ 16)) (ρ t)) (eK (κ 20) (rd (ρ 6) 0)) ((ρ t).length / 16)).1))) ((stN (scS (eK (κ 16)) (ρ t)) (eK (κ 20) (rd (ρ 6) 0)) ((ρ t).length / 16)).1)) 16) ++ bt (scB (eK (κ 16)) (ρ t) (eK (κ 20) (rd (ρ 6) 0)) (β 36) ((ρ t).length / 16)) ((ρ t).length % 16) from if_neg c_8]
      refine R_vreturn (pc := 119) dX7_lock_119 rfl (by decide) (by decide) ⟨rfl, (ub (ub (ub (ub β2 35 ((stN (scS (eK (κ 16)) (ρ t)) (eK (κ 20) (rd (ρ 6) 0)) ((ρ t).length / 16)).1)) 36 (scB (eK (κ 16)) (ρ t) (eK (κ 20) (rd (ρ 6) 0)) (β 36) ((ρ t).length / 16))) 37 (xb (df (scB (eK (κ 16)) (ρ t) (eK (κ 20) (rd (ρ 6) 0)) (β 36) ((ρ t).length / 16)) (nI ((ρ t).length % 16))) (rd (ρ t) (16 * ((ρ t).length / 16))))) 37 (xb (eK (κ 16) (xb (xb (df (scB (eK (κ 16)) (ρ t) (eK (κ 20) (rd (ρ 6) 0)) (β 36) ((ρ t).length / 16)) (nI ((ρ t).length % 16))) (rd (ρ t) (16 * ((ρ t).length / 16)))) ((stN (scS (eK (κ 16)) (ρ t)) (eK (κ 20) (rd (ρ 6) 0)) ((ρ t).length / 16)).1))) ((stN (scS (eK (κ 16)) (ρ t)) (eK (κ 20) (rd (ρ 6) 0)) ((ρ t).length / 16)).1))), ?_, rfl, S_32, (((((hF.tr F_13).tr F_18).tr F_23).tr F_28).tr F_33)⟩
      intro a_ n_
      simp only [List.mem_cons, List.not_mem_nil, or_false, not_or] at n_
      (try simp only [ub, if_neg, if_false, n_])
      (try simp only [ub_k])
      (try rw [hB a_ (by simp [n_])])
      (try simp only [ub, if_neg, if_false, n_])
      (try simp only [ub_k])
  · simp only [List.mem_cons, List.not_mem_nil, or_false, not_or] at n_; (try simp only [ub, if_neg, n_, if_false])
set_option maxHeartbeats 4000000 in
set_option maxRecDepth 100000 in
theorem qX7_unlock_loop {l : Launch} {w : am_W} {h : am_H} {n : Nat} {ρ : Nat → List (BitVec 8)} {β : Nat → bP} {κ : Nat → kT} {τ : Nat × Nat × Nat} (S : Sys h ρ β κ τ) (hn : 60 ≤ n) {t m : Nat} (ht : isRw t = true) (hm : isRw m = true) (htm : t ≠ m) (hm6 : (6 : Nat) ≠ m) (hk : kOk (κ 16)) (hk2 : kOk (κ 20)) (hm0 : ρ m = []) (hlen : 16 ≤ (ρ t).length) (hr : (ρ t).length + 16 ≤ rwN m) (kk : ∀ h2 β2, Sys h2 (ur ρ m ((stN (scS (dK (κ 16)) (ρ t)) (eK (κ 20) (rd (ρ 6) 0)) (scW (ρ t))).2)) β2 κ τ → β2 35 = (stN (scS (dK (κ 16)) (ρ t)) (eK (κ 20) (rd (ρ 6) 0)) (scW (ρ t))).1 → (∀ a, a ∉ [35, 36, 37, 38] → β2 a = β a) → Fr h h2 → RW l w mX7_unlock h2 n 0 0 85 [(5, .int (nI (16 * (scW (ρ t))))), (4, .int (nI (16 * (scW (ρ t))))), (3, .int (nI ((ρ t).length % 16))), (0, .ref 34), (1, .ref t), (2, .ref m)] [] (fun h' n' r_ => n' = n ∧ (SX h τ none (ur ρ m (scD (dK (κ 16)) (ρ t) (eK (κ 20) (rd (ρ 6) 0)))) β κ [35, 36, 37, 38]) h' r_)) : ∀ (d i : Nat), i + d = scW (ρ t) → ∀ h2 β2, Sys h2 (ur ρ m ((stN (scS (dK (κ 16)) (ρ t)) (eK (κ 20) (rd (ρ 6) 0)) i).2)) β2 κ τ → β2 35 = (stN (scS (dK (κ 16)) (ρ t)) (eK (κ 20) (rd (ρ 6) 0)) i).1 → (∀ a, a ∉ [35, 36, 37, 38] → β2 a = β a) → Fr h h2 → RW l w mX7_unlock h2 n 0 0 37 [(5, .int (nI (16 * i))), (4, .int (nI (16 * (scW (ρ t))))), (3, .int (nI ((ρ t).length % 16))), (0, .ref 34), (1, .ref t), (2, .ref m)] [] (fun h' n' r_ => n' = n ∧ (SX h τ none (ur ρ m (scD (dK (κ 16)) (ρ t) (eK (κ 20) (rd (ρ 6) 0)))) β κ [35, 36, 37, 38]) h' r_) := by
  have hlt := S.len t ht
  have hlm := S.len m hm
  have htc := rw_cases ht
  have hmc := rw_cases hm
  have hW : scW (ρ t) ≤ (ρ t).length / 16 := by unfold scW; split <;> omega
  intro d
  induction d with
  | zero =>
    intro i hd h2 β2 S2 hv35 hB hF
    refine R_iload (pc := 37) 0 dX7_unlock_37 rfl ?_
    refine R_iload (pc := 39) 1 dX7_unlock_39 rfl ?_
    refine R_icmp_ge (pc := 41) (tgt := 85) dX7_unlock_41 (by decide) (fun c_1 => ?_) (fun c_1 => absurd (nI_le (by omega) (by omega)) c_1)
    obtain rfl : i = scW (ρ t) := by omega
    exact kk h2 β2 S2 hv35 hB hF
  | succ d ih =>
    intro i hd h2 β2 S2 hv35 hB hF
    have S_1 : Sys h2 (ur ρ m ((stN (scS (dK (κ 16)) (ρ t)) (eK (κ 20) (rd (ρ 6) 0)) i).2)) (ub β2 35 ((stN (scS (dK (κ 16)) (ρ t)) (eK (κ 20) (rd (ρ 6) 0)) i).1)) κ τ := Sys.know S2 (hv35)
    refine R_iload (pc := 37) 0 dX7_unlock_37 rfl ?_
    refine R_iload (pc := 39) 1 dX7_unlock_39 rfl ?_
    refine R_icmp_ge (pc := 41) (tgt := 85) dX7_unlock_41 (by decide) (fun c_2 => absurd c_2 (nI_ge (by omega) (by omega))) (fun c_2 => ?_)
    refine R_aload_n (pc := 44) 3 dX7_unlock_44 rfl rfl ?_
    refine R_get (pc := 45) dX7_unlock_45 fX7_27 S_1.2.2.2.2.2.1 (by omega) rfl ?_
    refine R_aload_n (pc := 48) 4 dX7_unlock_48 rfl rfl ?_
    refine R_iload (pc := 49) 0 dX7_unlock_49 rfl ?_
    refine R_callVh (pc := 51) (μ' := mX0_read) (As := [.ref t, .int (nI (16 * i))]) (st := []) dX7_unlock_51 zX0_read lX7_36 ⟨by decide, by decide⟩ rfl rfl ⟨by decide, by decide⟩ (S_1.blk 36 rfl) (by omega) rfl (Nat.le_of_ble_eq_true rfl) (S_read S_1 hn rfl ht (16 * i) (by omega)) (fun h_3 r_ q_4 => ?_)
    obtain ⟨rfl, S_5, F_7⟩ := q_4
    have S_6 : Sys h_3 (ur ρ m ((stN (scS (dK (κ 16)) (ρ t)) (eK (κ 20) (rd (ρ 6) 0)) i).2)) (ub (ub β2 35 ((stN (scS (dK (κ 16)) (ρ t)) (eK (κ 20) (rd (ρ 6) 0)) i).1)) 36 (rd (ρ t) (16 * i))) κ τ := by have z_ := S_5; (try simp only [ur_s, ur_ur, ur_n (x := t) (r := m) htm, ur_n (x := 6) (r := m) hm6] at z_); exact z_
    refine R_aload_n (pc := 54) 3 dX7_unlock_54 rfl rfl ?_
    refine R_aload_n (pc := 55) 3 dX7_unlock_55 rfl rfl ?_
    refine R_get (pc := 56) dX7_unlock_56 fX7_27 S_6.2.2.2.2.2.1 (by omega) rfl ?_
    refine R_callVh (pc := 59) (μ' := mX7_unlockBlock) (As := [.ref 36]) (st := []) dX7_unlock_59 zX7_unlockBlock lX7_79 ⟨by decide, by decide⟩ rfl rfl ⟨by decide, by decide⟩ S_6.2.2.2.2.2.1 (by omega) rfl (Nat.le_of_ble_eq_true rfl) (qX7_unlockBlock_36 S_6 hn hk) (fun h_8 r_ q_9 => ?_)
    obtain ⟨rfl, S_10, F_12⟩ := q_9
    have S_11 : Sys h_8 (ur ρ m ((stN (scS (dK (κ 16)) (ρ t)) (eK (κ 20) (rd (ρ 6) 0)) i).2)) (ub (ub (ub β2 35 ((stN (scS (dK (κ 16)) (ρ t)) (eK (κ 20) (rd (ρ 6) 0)) i).1)) 36 (rd (ρ t) (16 * i))) 36 (xb (dK (κ 16) (xb (rd (ρ t) (16 * i)) ((stN (scS (dK (κ 16)) (ρ t)) (eK (κ 20) (rd (ρ 6) 0)) i).1))) ((stN (scS (dK (κ 16)) (ρ t)) (eK (κ 20) (rd (ρ 6) 0)) i).1))) κ τ := by have z_ := S_10; (try simp only [ur_s, ur_ur, ur_n (x := t) (r := m) htm, ur_n (x := 6) (r := m) hm6] at z_); exact z_
    refine R_aload_n (pc := 62) 5 dX7_unlock_62 rfl rfl ?_
    refine R_aload_n (pc := 63) 3 dX7_unlock_63 rfl rfl ?_
    refine R_get (pc := 64) dX7_unlock_64 fX7_27 S_11.2.2.2.2.2.1 (by omega) rfl ?_
    refine R_bipush (pc := 67) (v := 16) dX7_unlock_67 (by decide) ?_
    refine R_callVh (pc := 69) (μ' := mX6_appendBlock) (As := [.ref 36, .int (nI 16)]) (st := []) dX7_unlock_69 zX6_appendBlock lX7_64 ⟨by decide, by decide⟩ rfl rfl ⟨by decide, by decide⟩ (S_11.rowO m hm) (by omega) rfl (Nat.le_of_ble_eq_true rfl) (S_appendBlock S_11 hn hm rfl 16 (by simp only [ur_s, stN_len (fun _ _ => scS_len _ _ _ _)]; omega)) (fun h_13 r_ q_14 => ?_)
    obtain ⟨rfl, S_15, F_17⟩ := q_14
    have S_16 : Sys h_13 (ur ρ m (((stN (scS (dK (κ 16)) (ρ t)) (eK (κ 20) (rd (ρ 6) 0)) i).2) ++ bt (xb (dK (κ 16) (xb (rd (ρ t) (16 * i)) ((stN (scS (dK (κ 16)) (ρ t)) (eK (κ 20) (rd (ρ 6) 0)) i).1))) ((stN (scS (dK (κ 16)) (ρ t)) (eK (κ 20) (rd (ρ 6) 0)) i).1)) 16)) (ub (ub (ub β2 35 ((stN (scS (dK (κ 16)) (ρ t)) (eK (κ 20) (rd (ρ 6) 0)) i).1)) 36 (rd (ρ t) (16 * i))) 36 (xb (dK (κ 16) (xb (rd (ρ t) (16 * i)) ((stN (scS (dK (κ 16)) (ρ t)) (eK (κ 20) (rd (ρ 6) 0)) i).1))) ((stN (scS (dK (κ 16)) (ρ t)) (eK (κ 20) (rd (ρ 6) 0)) i).1))) κ τ := by have z_ := S_15; (try simp only [ur_s, ur_ur, ur_n (x := t) (r := m) htm, ur_n (x := 6) (r := m) hm6] at z_); exact z_
    refine R_aload_n (pc := 72) 3 dX7_unlock_72 rfl rfl ?_
    refine R_get (pc := 73) dX7_unlock_73 fX7_23 S_16.2.2.2.2.2.1 (by omega) rfl ?_
    refine R_callVh (pc := 76) (μ' := mX0_makeDoubleLowFirst) (As := []) (st := []) dX7_unlock_76 zX0_makeDoubleLowFirst lX7_68 ⟨by decide, by decide⟩ rfl rfl ⟨by decide, by decide⟩ (S_16.blk 35 rfl) (by omega) rfl (Nat.le_of_ble_eq_true rfl) (S_makeDoubleLowFirst S_16 hn rfl) (fun h_18 r_ q_19 => ?_)
    obtain ⟨rfl, S_20, F_22⟩ := q_19
    have S_21 : Sys h_18 (ur ρ m (((stN (scS (dK (κ 16)) (ρ t)) (eK (κ 20) (rd (ρ 6) 0)) i).2) ++ bt (xb (dK (κ 16) (xb (rd (ρ t) (16 * i)) ((stN (scS (dK (κ 16)) (ρ t)) (eK (κ 20) (rd (ρ 6) 0)) i).1))) ((stN (scS (dK (κ 16)) (ρ t)) (eK (κ 20) (rd (ρ 6) 0)) i).1)) 16)) (ub (ub (ub (ub β2 35 ((stN (scS (dK (κ 16)) (ρ t)) (eK (κ 20) (rd (ρ 6) 0)) i).1)) 36 (rd (ρ t) (16 * i))) 36 (xb (dK (κ 16) (xb (rd (ρ t) (16 * i)) ((stN (scS (dK (κ 16)) (ρ t)) (eK (κ 20) (rd (ρ 6) 0)) i).1))) ((stN (scS (dK (κ 16)) (ρ t)) (eK (κ 20) (rd (ρ 6) 0)) i).1))) 35 (dblL ((stN (scS (dK (κ 16)) (ρ t)) (eK (κ 20) (rd (ρ 6) 0)) i).1))) κ τ := by have z_ := S_20; (try simp only [ur_s, ur_ur, ur_n (x := t) (r := m) htm, ur_n (x := 6) (r := m) hm6] at z_); exact z_
    refine R_iinc (pc := 79) (j := 0) (v := nI (16 * (i + 1))) (lv' := [(5, .int (nI (16 * (i + 1)))), (4, .int (nI (16 * (scW (ρ t))))), (3, .int (nI ((ρ t).length % 16))), (0, .ref 34), (1, .ref t), (2, .ref m)]) dX7_unlock_79 rfl (nI_add (16 * i) 16) (by decide) rfl ?_
    refine R_goto (pc := 82) (tgt := 37) dX7_unlock_82 (by decide) ?_
    refine R_sub [0, 1, 2, 3, 4, 5] rfl ?_
    refine ih (i + 1) (by omega) h_18 (ub (ub (ub (ub β2 35 ((stN (scS (dK (κ 16)) (ρ t)) (eK (κ 20) (rd (ρ 6) 0)) i).1)) 36 (rd (ρ t) (16 * i))) 36 (xb (dK (κ 16) (xb (rd (ρ t) (16 * i)) ((stN (scS (dK (κ 16)) (ρ t)) (eK (κ 20) (rd (ρ 6) 0)) i).1))) ((stN (scS (dK (κ 16)) (ρ t)) (eK (κ 20) (rd (ρ 6) 0)) i).1))) 35 (dblL ((stN (scS (dK (κ 16)) (ρ t)) (eK (κ 20) (rd (ρ 6) 0)) i).1))) (by have z_ := S_21; skip; exact z_) rfl (fun a_ n_ => ?_) (hF.tr (((F_7.tr F_12).tr F_17).tr F_22))
    have q_ := hB a_ n_; simp only [List.mem_cons, List.not_mem_nil, or_false, not_or] at n_
    (try simp only [ub, if_neg, n_, if_false])
    first | exact q_ | (simp only [ub_k]; exact q_) | (rw [q_]; simp only [ub_k]) | (repeat' split) <;> first | exact q_ | (rename_i e_; rw [e_])
theorem ov0 {n : Nat} (h : n < 2 ^ 31) (e : nI (n % 16) = 0) : 16 * (n / 16) = n := by
  have := (nI_eq (a := n % 16) (b := 0) (by omega) (by omega)).mp e
  omega
set_option maxHeartbeats 4000000 in
set_option maxRecDepth 100000 in
theorem qX7_unlock {l : Launch} {w : am_W} {h : am_H} {n : Nat} {ρ : Nat → List (BitVec 8)} {β : Nat → bP} {κ : Nat → kT} {τ : Nat × Nat × Nat} (S : Sys h ρ β κ τ) (hn : 60 ≤ n) {t m : Nat} (ht : isRw t = true) (hm : isRw m = true) (htm : t ≠ m) (hm6 : (6 : Nat) ≠ m) (hk : kOk (κ 16)) (hk2 : kOk (κ 20)) (hm0 : ρ m = []) (hlen : 16 ≤ (ρ t).length) (hr : (ρ t).length + 16 ≤ rwN m) : RH l w mX7_unlock h n [.ref 34, .ref t, .ref m] (SX h τ none (ur ρ m (scD (dK (κ 16)) (ρ t) (eK (κ 20) (rd (ρ 6) 0)))) β κ [35, 36, 37, 38]) := by
  refine RC.of [(0, .ref 34), (1, .ref t), (2, .ref m)] (by decide +kernel) rfl (Nat.le_of_ble_eq_true rfl) ?_
  have hlt := S.len t ht
  have hlm := S.len m hm
  have htc := rw_cases ht
  have hmc := rw_cases hm
  have hW : scW (ρ t) ≤ (ρ t).length / 16 := by unfold scW; split <;> omega
  refine R_aload_n (pc := 0) 1 dX7_unlock_0 rfl rfl ?_
  have := rw_cases (r := t) ht
  refine R_get (pc := 1) dX7_unlock_1 fX7_52 (S.rowO t ht) (by omega) rfl ?_
  refine R_eqi (y := nI (ρ t).length) (by first | rfl | (simp only [ur_s, ur_ur])) ?_
  refine R_bipush (pc := 4) (v := 15) dX7_unlock_4 (by decide) ?_
  refine R_iand (pc := 6) dX7_unlock_6 ?_
  refine R_eqi (y := nI ((ρ t).length % 16)) (pk_andN (by omega) 4 (by decide)) ?_
  refine R_istore_n (pc := 7) (lv' := [(3, .int (nI ((ρ t).length % 16))), (0, .ref 34), (1, .ref t), (2, .ref m)]) dX7_unlock_7 rfl (by decide) rfl ?_
  refine R_iload_n (pc := 8) 0 dX7_unlock_8 rfl rfl ?_
  refine R_if_ne (pc := 9) (tgt := 19) dX7_unlock_9 (by decide) (fun c_1 => ?_) (fun c_1 => ?_)
  · skip
    refine R_aload_n (pc := 19) 2 dX7_unlock_19 rfl rfl ?_
    have := rw_cases (r := t) ht
    refine R_get (pc := 20) dX7_unlock_20 fX7_52 (S.rowO t ht) (by omega) rfl ?_
    refine R_eqi (y := nI (ρ t).length) (by first | rfl | (simp only [ur_s, ur_ur])) ?_
    refine R_iload_n (pc := 23) 0 dX7_unlock_23 rfl rfl ?_
    refine R_isub (pc := 24) dX7_unlock_24 ?_
    refine R_bipush (pc := 25) (v := 16) dX7_unlock_25 (by decide) ?_
    refine R_isub (pc := 27) dX7_unlock_27 ?_
    refine R_eqi (y := nI (16 * (scW (ρ t)))) (by rw [show scW (ρ t) = (ρ t).length / 16 - 1 from if_neg c_1, show 16 * ((ρ t).length / 16 - 1) = (ρ t).length - (ρ t).length % 16 - 16 by omega]; rw [pk_sub (by omega)]; exact pk_sub (b := 16) (by omega)) ?_
    refine R_istore (pc := 28) (lv' := [(4, .int (nI (16 * (scW (ρ t))))), (3, .int (nI ((ρ t).length % 16))), (0, .ref 34), (1, .ref t), (2, .ref m)]) dX7_unlock_28 (by decide) rfl ?_
    refine R_aload_n (pc := 30) 2 dX7_unlock_30 rfl rfl ?_
    refine R_callVh (pc := 31) (μ' := mX7_begin) (As := []) (st := []) dX7_unlock_31 zX7_begin lX7_58 ⟨by decide, by decide⟩ rfl rfl ⟨by decide, by decide⟩ S.2.2.2.2.2.1 (by omega) rfl (Nat.le_of_ble_eq_true rfl) (qX7_begin S hn hk2) (fun h_2 r_ q_3 => ?_)
    obtain ⟨rfl, S_4, F_6⟩ := q_3
    have S_5 : Sys h_2 ρ (ub β 35 (eK (κ 20) (rd (ρ 6) 0))) κ τ := S_4
    refine R_iconst (pc := 34) (v := 0) dX7_unlock_34 (by decide) ?_
    refine R_istore (pc := 35) (lv' := [(5, .int 0), (4, .int (nI (16 * (scW (ρ t))))), (3, .int (nI ((ρ t).length % 16))), (0, .ref 34), (1, .ref t), (2, .ref m)]) dX7_unlock_35 (by decide) rfl ?_
    refine R_sub [0, 1, 2, 3, 4, 5] rfl ?_
    refine qX7_unlock_loop S hn ht hm htm hm6 hk hk2 hm0 hlen hr ?_ (scW (ρ t)) 0 (by omega) h_2 (ub β 35 (eK (κ 20) (rd (ρ 6) 0))) (by have z_ := S_5; rw [← ur_id ρ m, hm0] at z_; (try simp only [ur_n (x := 6) (r := m) hm6] at z_); exact z_) rfl (fun a_ n_ => ?_) F_6
    · intro h2 β2 S2 hv35 hB hF
      have S_7 : Sys h2 (ur ρ m ((stN (scS (dK (κ 16)) (ρ t)) (eK (κ 20) (rd (ρ 6) 0)) (scW (ρ t))).2)) (ub β2 35 ((stN (scS (dK (κ 16)) (ρ t)) (eK (κ 20) (rd (ρ 6) 0)) (scW (ρ t))).1)) κ τ := Sys.know S2 (hv35)
      refine R_iload_n (pc := 85) 2 dX7_unlock_85 rfl rfl ?_
      refine R_if_eq (pc := 86) (tgt := 174) dX7_unlock_86 (by decide) (fun c_8 => ?_) (fun c_8 => ?_)
      · skip
        rw [show scD (dK (κ 16)) (ρ t) (eK (κ 20) (rd (ρ 6) 0)) = (stN (scS (dK (κ 16)) (ρ t)) (eK (κ 20) (rd (ρ 6) 0)) (scW (ρ t))).2 from if_pos c_8]
        refine R_vreturn (pc := 174) dX7_unlock_174 rfl (by decide) (by decide) ⟨rfl, (ub β2 35 ((stN (scS (dK (κ 16)) (ρ t)) (eK (κ 20) (rd (ρ 6) 0)) (scW (ρ t))).1)), ?_, rfl, S_7, hF⟩
        intro a_ n_
        simp only [List.mem_cons, List.not_mem_nil, or_false, not_or] at n_
        (try simp only [ub, if_neg, if_false, n_])
        (try simp only [ub_k])
        (try rw [hB a_ (by simp [n_])])
        (try simp only [ub, if_neg, if_false, n_])
        (try simp only [ub_k])
      · skip
        refine R_aload_n (pc := 89) 3 dX7_unlock_89 rfl rfl ?_
        refine R_get (pc := 90) dX7_unlock_90 fX7_33 S_7.2.2.2.2.2.1 (by omega) rfl ?_
        refine R_aload_n (pc := 93) 3 dX7_unlock_93 rfl rfl ?_
        refine R_get (pc := 94) dX7_unlock_94 fX7_23 S_7.2.2.2.2.2.1 (by omega) rfl ?_
        refine R_callVh (pc := 97) (μ' := mX0_copy) (As := [.ref 35]) (st := []) dX7_unlock_97 zX0_copy lX7_82 ⟨by decide, by decide⟩ rfl rfl ⟨by decide, by decide⟩ (S_7.blk 38 rfl) (by omega) rfl (Nat.le_of_ble_eq_true rfl) (S_copy S_7 hn rfl rfl (by decide)) (fun h_9 r_ q_10 => ?_)
        obtain ⟨rfl, S_11, F_13⟩ := q_10
        have S_12 : Sys h_9 (ur ρ m ((stN (scS (dK (κ 16)) (ρ t)) (eK (κ 20) (rd (ρ 6) 0)) (scW (ρ t))).2)) (ub (ub β2 35 ((stN (scS (dK (κ 16)) (ρ t)) (eK (κ 20) (rd (ρ 6) 0)) (scW (ρ t))).1)) 38 ((stN (scS (dK (κ 16)) (ρ t)) (eK (κ 20) (rd (ρ 6) 0)) (scW (ρ t))).1)) κ τ := by have z_ := S_11; (try simp only [ur_s, ur_ur, ur_n (x := t) (r := m) htm, ur_n (x := 6) (r := m) hm6] at z_); exact z_
        refine R_aload_n (pc := 100) 3 dX7_unlock_100 rfl rfl ?_
        refine R_get (pc := 101) dX7_unlock_101 fX7_23 S_12.2.2.2.2.2.1 (by omega) rfl ?_
        refine R_callVh (pc := 104) (μ' := mX0_makeDoubleLowFirst) (As := []) (st := []) dX7_unlock_104 zX0_makeDoubleLowFirst lX7_68 ⟨by decide, by decide⟩ rfl rfl ⟨by decide, by decide⟩ (S_12.blk 35 rfl) (by omega) rfl (Nat.le_of_ble_eq_true rfl) (S_makeDoubleLowFirst S_12 hn rfl) (fun h_14 r_ q_15 => ?_)
        obtain ⟨rfl, S_16, F_18⟩ := q_15
        have S_17 : Sys h_14 (ur ρ m ((stN (scS (dK (κ 16)) (ρ t)) (eK (κ 20) (rd (ρ 6) 0)) (scW (ρ t))).2)) (ub (ub (ub β2 35 ((stN (scS (dK (κ 16)) (ρ t)) (eK (κ 20) (rd (ρ 6) 0)) (scW (ρ t))).1)) 38 ((stN (scS (dK (κ 16)) (ρ t)) (eK (κ 20) (rd (ρ 6) 0)) (scW (ρ t))).1)) 35 (dblL ((stN (scS (dK (κ 16)) (ρ t)) (eK (κ 20) (rd (ρ 6) 0)) (scW (ρ t))).1))) κ τ := by have z_ := S_16; (try simp only [ur_s, ur_ur, ur_n (x := t) (r := m) htm, ur_n (x := 6) (r := m) hm6] at z_); exact z_
        refine R_aload_n (pc := 107) 3 dX7_unlock_107 rfl rfl ?_
        refine R_get (pc := 108) dX7_unlock_108 fX7_27 S_17.2.2.2.2.2.1 (by omega) rfl ?_
        refine R_aload_n (pc := 111) 4 dX7_unlock_111 rfl rfl ?_
        refine R_iload (pc := 112) 1 dX7_unlock_112 rfl ?_
        refine R_callVh (pc := 114) (μ' := mX0_read) (As := [.ref t, .int (nI (16 * (scW (ρ t))))]) (st := []) dX7_unlock_114 zX0_read lX7_36 ⟨by decide, by decide⟩ rfl rfl ⟨by decide, by decide⟩ (S_17.blk 36 rfl) (by omega) rfl (Nat.le_of_ble_eq_true rfl) (S_read S_17 hn rfl ht (16 * (scW (ρ t))) (by omega)) (fun h_19 r_ q_20 => ?_)
        obtain ⟨rfl, S_21, F_23⟩ := q_20
        have S_22 : Sys h_19 (ur ρ m ((stN (scS (dK (κ 16)) (ρ t)) (eK (κ 20) (rd (ρ 6) 0)) (scW (ρ t))).2)) (ub (ub (ub (ub β2 35 ((stN (scS (dK (κ 16)) (ρ t)) (eK (κ 20) (rd (ρ 6) 0)) (scW (ρ t))).1)) 38 ((stN (scS (dK (κ 16)) (ρ t)) (eK (κ 20) (rd (ρ 6) 0)) (scW (ρ t))).1)) 35 (dblL ((stN (scS (dK (κ 16)) (ρ t)) (eK (κ 20) (rd (ρ 6) 0)) (scW (ρ t))).1))) 36 (rd (ρ t) (16 * (scW (ρ t))))) κ τ := by have z_ := S_21; (try simp only [ur_s, ur_ur, ur_n (x := t) (r := m) htm, ur_n (x := 6) (r := m) hm6] at z_); exact z_
        refine R_aload_n (pc := 117) 3 dX7_unlock_117 rfl rfl ?_
        refine R_aload_n (pc := 118) 3 dX7_unlock_118 rfl rfl ?_
        refine R_get (pc := 119) dX7_unlock_119 fX7_27 S_22.2.2.2.2.2.1 (by omega) rfl ?_
        refine R_callVh (pc := 122) (μ' := mX7_unlockBlock) (As := [.ref 36]) (st := []) dX7_unlock_122 zX7_unlockBlock lX7_79 ⟨by decide, by decide⟩ rfl rfl ⟨by decide, by decide⟩ S_22.2.2.2.2.2.1 (by omega) rfl (Nat.le_of_ble_eq_true rfl) (qX7_unlockBlock_36 S_22 hn hk) (fun h_24 r_ q_25 => ?_)
        obtain ⟨rfl, S_26, F_28⟩ := q_25
        have S_27 : Sys h_24 (ur ρ m ((stN (scS (dK (κ 16)) (ρ t)) (eK (κ 20) (rd (ρ 6) 0)) (scW (ρ t))).2)) (ub (ub (ub (ub (ub β2 35 ((stN (scS (dK (κ 16)) (ρ t)) (eK (κ 20) (rd (ρ 6) 0)) (scW (ρ t))).1)) 38 ((stN (scS (dK (κ 16)) (ρ t)) (eK (κ 20) (rd (ρ 6) 0)) (scW (ρ t))).1)) 35 (dblL ((stN (scS (dK (κ 16)) (ρ t)) (eK (κ 20) (rd (ρ 6) 0)) (scW (ρ t))).1))) 36 (rd (ρ t) (16 * (scW (ρ t))))) 36 (xb (dK (κ 16) (xb (rd (ρ t) (16 * (scW (ρ t)))) (dblL ((stN (scS (dK (κ 16)) (ρ t)) (eK (κ 20) (rd (ρ 6) 0)) (scW (ρ t))).1)))) (dblL ((stN (scS (dK (κ 16)) (ρ t)) (eK (κ 20) (rd (ρ 6) 0)) (scW (ρ t))).1)))) κ τ := by have z_ := S_26; (try simp only [ur_s, ur_ur, ur_n (x := t) (r := m) htm, ur_n (x := 6) (r := m) hm6] at z_); exact z_
        refine R_aload_n (pc := 125) 3 dX7_unlock_125 rfl rfl ?_
        refine R_aload_n (pc := 126) 4 dX7_unlock_126 rfl rfl ?_
        refine R_iload (pc := 127) 1 dX7_unlock_127 rfl ?_
        refine R_bipush (pc := 129) (v := 16) dX7_unlock_129 (by decide) ?_
        refine R_iadd (pc := 131) dX7_unlock_131 ?_
        refine R_eqi (y := nI (16 * (scW (ρ t)) + 16)) (nI_add (16 * (scW (ρ t))) 16) ?_
        refine R_iload_n (pc := 132) 2 dX7_unlock_132 rfl rfl ?_
        refine R_callVh (pc := 133) (μ' := mX7_borrowEnd) (As := [.ref t, .int (nI (16 * (scW (ρ t)) + 16)), .int (nI ((ρ t).length % 16))]) (st := []) dX7_unlock_133 zX7_borrowEnd lX7_75 ⟨by decide, by decide⟩ rfl rfl ⟨by decide, by decide⟩ S_27.2.2.2.2.2.1 (by omega) rfl (Nat.le_of_ble_eq_true rfl) (qX7_borrowEnd S_27 hn ht (16 * (scW (ρ t)) + 16) (by omega) _) (fun h_29 r_ q_30 => ?_)
        obtain ⟨rfl, S_31, F_33⟩ := q_30
        have S_32 : Sys h_29 (ur ρ m ((stN (scS (dK (κ 16)) (ρ t)) (eK (κ 20) (rd (ρ 6) 0)) (scW (ρ t))).2)) (ub (ub (ub (ub (ub (ub β2 35 ((stN (scS (dK (κ 16)) (ρ t)) (eK (κ 20) (rd (ρ 6) 0)) (scW (ρ t))).1)) 38 ((stN (scS (dK (κ 16)) (ρ t)) (eK (κ 20) (rd (ρ 6) 0)) (scW (ρ t))).1)) 35 (dblL ((stN (scS (dK (κ 16)) (ρ t)) (eK (κ 20) (rd (ρ 6) 0)) (scW (ρ t))).1))) 36 (rd (ρ t) (16 * (scW (ρ t))))) 36 (xb (dK (κ 16) (xb (rd (ρ t) (16 * (scW (ρ t)))) (dblL ((stN (scS (dK (κ 16)) (ρ t)) (eK (κ 20) (rd (ρ 6) 0)) (scW (ρ t))).1)))) (dblL ((stN (scS (dK (κ 16)) (ρ t)) (eK (κ 20) (rd (ρ 6) 0)) (scW (ρ t))).1)))) 37 (xb (df (xb (dK (κ 16) (xb (rd (ρ t) (16 * (scW (ρ t)))) (dblL ((stN (scS (dK (κ 16)) (ρ t)) (eK (κ 20) (rd (ρ 6) 0)) (scW (ρ t))).1)))) (dblL ((stN (scS (dK (κ 16)) (ρ t)) (eK (κ 20) (rd (ρ 6) 0)) (scW (ρ t))).1))) (nI ((ρ t).length % 16))) (rd (ρ t) (16 * (scW (ρ t)) + 16)))) κ τ := by have z_ := S_31; (try simp only [ur_s, ur_ur, ur_n (x := t) (r := m) htm, ur_n (x := 6) (r := m) hm6] at z_); exact z_
        refine R_aload_n (pc := 136) 3 dX7_unlock_136 rfl rfl ?_
        refine R_get (pc := 137) dX7_unlock_137 fX7_23 S_32.2.2.2.2.2.1 (by omega) rfl ?_
        refine R_aload_n (pc := 140) 3 dX7_unlock_140 rfl rfl ?_
        refine R_get (pc := 141) dX7_unlock_141 fX7_33 S_32.2.2.2.2.2.1 (by omega) rfl ?_
        refine R_callVh (pc := 144) (μ' := mX0_copy) (As := [.ref 38]) (st := []) dX7_unlock_144 zX0_copy lX7_82 ⟨by decide, by decide⟩ rfl rfl ⟨by decide, by decide⟩ (S_32.blk 35 rfl) (by omega) rfl (Nat.le_of_ble_eq_true rfl) (S_copy S_32 hn rfl rfl (by decide)) (fun h_34 r_ q_35 => ?_)
        obtain ⟨rfl, S_36, F_38⟩ := q_35
        have S_37 : Sys h_34 (ur ρ m ((stN (scS (dK (κ 16)) (ρ t)) (eK (κ 20) (rd (ρ 6) 0)) (scW (ρ t))).2)) (ub (ub (ub (ub (ub (ub (ub β2 35 ((stN (scS (dK (κ 16)) (ρ t)) (eK (κ 20) (rd (ρ 6) 0)) (scW (ρ t))).1)) 38 ((stN (scS (dK (κ 16)) (ρ t)) (eK (κ 20) (rd (ρ 6) 0)) (scW (ρ t))).1)) 35 (dblL ((stN (scS (dK (κ 16)) (ρ t)) (eK (κ 20) (rd (ρ 6) 0)) (scW (ρ t))).1))) 36 (rd (ρ t) (16 * (scW (ρ t))))) 36 (xb (dK (κ 16) (xb (rd (ρ t) (16 * (scW (ρ t)))) (dblL ((stN (scS (dK (κ 16)) (ρ t)) (eK (κ 20) (rd (ρ 6) 0)) (scW (ρ t))).1)))) (dblL ((stN (scS (dK (κ 16)) (ρ t)) (eK (κ 20) (rd (ρ 6) 0)) (scW (ρ t))).1)))) 37 (xb (df (xb (dK (κ 16) (xb (rd (ρ t) (16 * (scW (ρ t)))) (dblL ((stN (scS (dK (κ 16)) (ρ t)) (eK (κ 20) (rd (ρ 6) 0)) (scW (ρ t))).1)))) (dblL ((stN (scS (dK (κ 16)) (ρ t)) (eK (κ 20) (rd (ρ 6) 0)) (scW (ρ t))).1))) (nI ((ρ t).length % 16))) (rd (ρ t) (16 * (scW (ρ t)) + 16)))) 35 ((stN (scS (dK (κ 16)) (ρ t)) (eK (κ 20) (rd (ρ 6) 0)) (scW (ρ t))).1)) κ τ := by have z_ := S_36; (try simp only [ur_s, ur_ur, ur_n (x := t) (r := m) htm, ur_n (x := 6) (r := m) hm6] at z_); exact z_
        refine R_aload_n (pc := 147) 3 dX7_unlock_147 rfl rfl ?_
        refine R_aload_n (pc := 148) 3 dX7_unlock_148 rfl rfl ?_
        refine R_get (pc := 149) dX7_unlock_149 fX7_30 S_37.2.2.2.2.2.1 (by omega) rfl ?_
        refine R_callVh (pc := 152) (μ' := mX7_unlockBlock) (As := [.ref 37]) (st := []) dX7_unlock_152 zX7_unlockBlock lX7_79 ⟨by decide, by decide⟩ rfl rfl ⟨by decide, by decide⟩ S_37.2.2.2.2.2.1 (by omega) rfl (Nat.le_of_ble_eq_true rfl) (qX7_unlockBlock_37 S_37 hn hk) (fun h_39 r_ q_40 => ?_)
        obtain ⟨rfl, S_41, F_43⟩ := q_40
        have S_42 : Sys h_39 (ur ρ m ((stN (scS (dK (κ 16)) (ρ t)) (eK (κ 20) (rd (ρ 6) 0)) (scW (ρ t))).2)) (ub (ub (ub (ub (ub (ub (ub (ub β2 35 ((stN (scS (dK (κ 16)) (ρ t)) (eK (κ 20) (rd (ρ 6) 0)) (scW (ρ t))).1)) 38 ((stN (scS (dK (κ 16)) (ρ t)) (eK (κ 20) (rd (ρ 6) 0)) (scW (ρ t))).1)) 35 (dblL ((stN (scS (dK (κ 16)) (ρ t)) (eK (κ 20) (rd (ρ 6) 0)) (scW (ρ t))).1))) 36 (rd (ρ t) (16 * (scW (ρ t))))) 36 (xb (dK (κ 16) (xb (rd (ρ t) (16 * (scW (ρ t)))) (dblL ((stN (scS (dK (κ 16)) (ρ t)) (eK (κ 20) (rd (ρ 6) 0)) (scW (ρ t))).1)))) (dblL ((stN (scS (dK (κ 16)) (ρ t)) (eK (κ 20) (rd (ρ 6) 0)) (scW (ρ t))).1)))) 37 (xb (df (xb (dK (κ 16) (xb (rd (ρ t) (16 * (scW (ρ t)))) (dblL ((stN (scS (dK (κ 16)) (ρ t)) (eK (κ 20) (rd (ρ 6) 0)) (scW (ρ t))).1)))) (dblL ((stN (scS (dK (κ 16)) (ρ t)) (eK (κ 20) (rd (ρ 6) 0)) (scW (ρ t))).1))) (nI ((ρ t).length % 16))) (rd (ρ t) (16 * (scW (ρ t)) + 16)))) 35 ((stN (scS (dK (κ 16)) (ρ t)) (eK (κ 20) (rd (ρ 6) 0)) (scW (ρ t))).1)) 37 (xb (dK (κ 16) (xb (xb (df (xb (dK (κ 16) (xb (rd (ρ t) (16 * (scW (ρ t)))) (dblL ((stN (scS (dK (κ 16)) (ρ t)) (eK (κ 20) (rd (ρ 6) 0)) (scW (ρ t))).1)))) (dblL ((stN (scS (dK (κ 16)) (ρ t)) (eK (κ 20) (rd (ρ 6) 0)) (scW (ρ t))).1))) (nI ((ρ t).length % 16))) (rd (ρ t) (16 * (scW (ρ t)) + 16))) ((stN (scS (dK (κ 16)) (ρ t)) (eK (κ 20) (rd (ρ 6) 0)) (scW (ρ t))).1))) ((stN (scS (dK (κ 16)) (ρ t)) (eK (κ 20) (rd (ρ 6) 0)) (scW (ρ t))).1))) κ τ := by have z_ := S_41; (try simp only [ur_s, ur_ur, ur_n (x := t) (r := m) htm, ur_n (x := 6) (r := m) hm6] at z_); exact z_
        refine R_aload_n (pc := 155) 5 dX7_unlock_155 rfl rfl ?_
        refine R_aload_n (pc := 156) 3 dX7_unlock_156 rfl rfl ?_
        refine R_get (pc := 157) dX7_unlock_157 fX7_30 S_42.2.2.2.2.2.1 (by omega) rfl ?_
        refine R_bipush (pc := 160) (v := 16) dX7_unlock_160 (by decide) ?_
        refine R_callVh (pc := 162) (μ' := mX6_appendBlock) (As := [.ref 37, .int (nI 16)]) (st := []) dX7_unlock_162 zX6_appendBlock lX7_64 ⟨by decide, by decide⟩ rfl rfl ⟨by decide, by decide⟩ (S_42.rowO m hm) (by omega) rfl (Nat.le_of_ble_eq_true rfl) (S_appendBlock S_42 hn hm rfl 16 (by simp only [ur_s, stN_len (fun _ _ => scS_len _ _ _ _)]; omega)) (fun h_44 r_ q_45 => ?_)
        obtain ⟨rfl, S_46, F_48⟩ := q_45
        have S_47 : Sys h_44 (ur ρ m (((stN (scS (dK (κ 16)) (ρ t)) (eK (κ 20) (rd (ρ 6) 0)) (scW (ρ t))).2) ++ bt (xb (dK (κ 16) (xb (xb (df (xb (dK (κ 16) (xb (rd (ρ t) (16 * (scW (ρ t)))) (dblL ((stN (scS (dK (κ 16)) (ρ t)) (eK (κ 20) (rd (ρ 6) 0)) (scW (ρ t))).1)))) (dblL ((stN (scS (dK (κ 16)) (ρ t)) (eK (κ 20) (rd (ρ 6) 0)) (scW (ρ t))).1))) (nI ((ρ t).length % 16))) (rd (ρ t) (16 * (scW (ρ t)) + 16))) ((stN (scS (dK (κ 16)) (ρ t)) (eK (κ 20) (rd (ρ 6) 0)) (scW (ρ t))).1))) ((stN (scS (dK (κ 16)) (ρ t)) (eK (κ 20) (rd (ρ 6) 0)) (scW (ρ t))).1)) 16)) (ub (ub (ub (ub (ub (ub (ub (ub β2 35 ((stN (scS (dK (κ 16)) (ρ t)) (eK (κ 20) (rd (ρ 6) 0)) (scW (ρ t))).1)) 38 ((stN (scS (dK (κ 16)) (ρ t)) (eK (κ 20) (rd (ρ 6) 0)) (scW (ρ t))).1)) 35 (dblL ((stN (scS (dK (κ 16)) (ρ t)) (eK (κ 20) (rd (ρ 6) 0)) (scW (ρ t))).1))) 36 (rd (ρ t) (16 * (scW (ρ t))))) 36 (xb (dK (κ 16) (xb (rd (ρ t) (16 * (scW (ρ t)))) (dblL ((stN (scS (dK (κ 16)) (ρ t)) (eK (κ 20) (rd (ρ 6) 0)) (scW (ρ t))).1)))) (dblL ((stN (scS (dK (κ 16)) (ρ t)) (eK (κ 20) (rd (ρ 6) 0)) (scW (ρ t))).1)))) 37 (xb (df (xb (dK (κ 16) (xb (rd (ρ t) (16 * (scW (ρ t)))) (dblL ((stN (scS (dK (κ 16)) (ρ t)) (eK (κ 20) (rd (ρ 6) 0)) (scW (ρ t))).1)))) (dblL ((stN (scS (dK (κ 16)) (ρ t)) (eK (κ 20) (rd (ρ 6) 0)) (scW (ρ t))).1))) (nI ((ρ t).length % 16))) (rd (ρ t) (16 * (scW (ρ t)) + 16)))) 35 ((stN (scS (dK (κ 16)) (ρ t)) (eK (κ 20) (rd (ρ 6) 0)) (scW (ρ t))).1)) 37 (xb (dK (κ 16) (xb (xb (df (xb (dK (κ 16) (xb (rd (ρ t) (16 * (scW (ρ t)))) (dblL ((stN (scS (dK (κ 16)) (ρ t)) (eK (κ 20) (rd (ρ 6) 0)) (scW (ρ t))).1)))) (dblL ((stN (scS (dK (κ 16)) (ρ t)) (eK (κ 20) (rd (ρ 6) 0)) (scW (ρ t))).1))) (nI ((ρ t).length % 16))) (rd (ρ t) (16 * (scW (ρ t)) + 16))) ((stN (scS (dK (κ 16)) (ρ t)) (eK (κ 20) (rd (ρ 6) 0)) (scW (ρ t))).1))) ((stN (scS (dK (κ 16)) (ρ t)) (eK (κ 20) (rd (ρ 6) 0)) (scW (ρ t))).1))) κ τ := by have z_ := S_46; (try simp only [ur_s, ur_ur, ur_n (x := t) (r := m) htm, ur_n (x := 6) (r := m) hm6] at z_); exact z_
        refine R_aload_n (pc := 165) 5 dX7_unlock_165 rfl rfl ?_
        refine R_aload_n (pc := 166) 3 dX7_unlock_166 rfl rfl ?_
        refine R_get (pc := 167) dX7_unlock_167 fX7_27 S_47.2.2.2.2.2.1 (by omega) rfl ?_
        refine R_iload_n (pc := 170) 2 dX7_unlock_170 rfl rfl ?_
        refine R_callVh (pc := 171) (μ' := mX6_appendBlock) (As := [.ref 36, .int (nI ((ρ t).length % 16))]) (st := []) dX7_unlock_171 zX6_appendBlock lX7_64 ⟨by decide, by decide⟩ rfl rfl ⟨by decide, by decide⟩ (S_47.rowO m hm) (by omega) rfl (Nat.le_of_ble_eq_true rfl) (S_appendBlock S_47 hn hm rfl ((ρ t).length % 16) (by simp only [ur_s, List.length_append, bt_len, stN_len (fun _ _ => scS_len _ _ _ _)]; omega)) (fun h_49 r_ q_50 => ?_)
        obtain ⟨rfl, S_51, F_53⟩ := q_50
        have S_52 : Sys h_49 (ur ρ m ((((stN (scS (dK (κ 16)) (ρ t)) (eK (κ 20) (rd (ρ 6) 0)) (scW (ρ t))).2) ++ bt (xb (dK (κ 16) (xb (xb (df (xb (dK (κ 16) (xb (rd (ρ t) (16 * (scW (ρ t)))) (dblL ((stN (scS (dK (κ 16)) (ρ t)) (eK (κ 20) (rd (ρ 6) 0)) (scW (ρ t))).1)))) (dblL ((stN (scS (dK (κ 16)) (ρ t)) (eK (κ 20) (rd (ρ 6) 0)) (scW (ρ t))).1))) (nI ((ρ t).length % 16))) (rd (ρ t) (16 * (scW (ρ t)) + 16))) ((stN (scS (dK (κ 16)) (ρ t)) (eK (κ 20) (rd (ρ 6) 0)) (scW (ρ t))).1))) ((stN (scS (dK (κ 16)) (ρ t)) (eK (κ 20) (rd (ρ 6) 0)) (scW (ρ t))).1)) 16) ++ bt (xb (dK (κ 16) (xb (rd (ρ t) (16 * (scW (ρ t)))) (dblL ((stN (scS (dK (κ 16)) (ρ t)) (eK (κ 20) (rd (ρ 6) 0)) (scW (ρ t))).1)))) (dblL ((stN (scS (dK (κ 16)) (ρ t)) (eK (κ 20) (rd (ρ 6) 0)) (scW (ρ t))).1))) ((ρ t).length % 16))) (ub (ub (ub (ub (ub (ub (ub (ub β2 35 ((stN (scS (dK (κ 16)) (ρ t)) (eK (κ 20) (rd (ρ 6) 0)) (scW (ρ t))).1)) 38 ((stN (scS (dK (κ 16)) (ρ t)) (eK (κ 20) (rd (ρ 6) 0)) (scW (ρ t))).1)) 35 (dblL ((stN (scS (dK (κ 16)) (ρ t)) (eK (κ 20) (rd (ρ 6) 0)) (scW (ρ t))).1))) 36 (rd (ρ t) (16 * (scW (ρ t))))) 36 (xb (dK (κ 16) (xb (rd (ρ t) (16 * (scW (ρ t)))) (dblL ((stN (scS (dK (κ 16)) (ρ t)) (eK (κ 20) (rd (ρ 6) 0)) (scW (ρ t))).1)))) (dblL ((stN (scS (dK (κ 16)) (ρ t)) (eK (κ 20) (rd (ρ 6) 0)) (scW (ρ t))).1)))) 37 (xb (df (xb (dK (κ 16) (xb (rd (ρ t) (16 * (scW (ρ t)))) (dblL ((stN (scS (dK (κ 16)) (ρ t)) (eK (κ 20) (rd (ρ 6) 0)) (scW (ρ t))).1)))) (dblL ((stN (scS (dK (κ 16)) (ρ t)) (eK (κ 20) (rd (ρ 6) 0)) (scW (ρ t))).1))) (nI ((ρ t).length % 16))) (rd (ρ t) (16 * (scW (ρ t)) + 16)))) 35 ((stN (scS (dK (κ 16)) (ρ t)) (eK (κ 20) (rd (ρ 6) 0)) (scW (ρ t))).1)) 37 (xb (dK (κ 16) (xb (xb (df (xb (dK (κ 16) (xb (rd (ρ t) (16 * (scW (ρ t)))) (dblL ((stN (scS (dK (κ 16)) (ρ t)) (eK (κ 20) (rd (ρ 6) 0)) (scW (ρ t))).1)))) (dblL ((stN (scS (dK (κ 16)) (ρ t)) (eK (κ 20) (rd (ρ 6) 0)) (scW (ρ t))).1))) (nI ((ρ t).length % 16))) (rd (ρ t) (16 * (scW (ρ t)) + 16))) ((stN (scS (dK (κ 16)) (ρ t)) (eK (κ 20) (rd (ρ 6) 0)) (scW (ρ t))).1))) ((stN (scS (dK (κ 16)) (ρ t)) (eK (κ 20) (rd (ρ 6) 0)) (scW (ρ t))).1))) κ τ := by have z_ := S_51; (try simp only [ur_s, ur_ur, ur_n (x := t) (r := m) htm, ur_n (x := 6) (r := m) hm6] at z_); exact z_
        rw [show scD (dK (κ 16)) (ρ t) (eK (κ 20) (rd (ρ 6) 0)) = (((stN (scS (dK (κ 16)) (ρ t)) (eK (κ 20) (rd (ρ 6) 0)) (scW (ρ t))).2) ++ bt (xb (dK (κ 16) (xb (xb (df (xb (dK (κ 16) (xb (rd (ρ t) (16 * (scW (ρ t)))) (dblL ((stN (scS (dK (κ 16)) (ρ t)) (eK (κ 20) (rd (ρ 6) 0)) (scW (ρ t))).1)))) (dblL ((stN (scS (dK (κ 16)) (ρ t)) (eK (κ 20) (rd (ρ 6) 0)) (scW (ρ t))).1))) (nI ((ρ t).length % 16))) (rd (ρ t) (16 * (scW (ρ t)) + 16))) ((stN (scS (dK (κ 16)) (ρ t)) (eK (κ 20) (rd (ρ 6) 0)) (scW (ρ t))).1))) ((stN (scS (dK (κ 16)) (ρ t)) (eK (κ 20) (rd (ρ 6) 0)) (scW (ρ t))).1)) 16) ++ bt (xb (dK (κ 16) (xb (rd (ρ t) (16 * (scW (ρ t)))) (dblL ((stN (scS (dK (κ 16)) (ρ t)) (eK (κ 20) (rd (ρ 6) 0)) (scW (ρ t))).1)))) (dblL ((stN (scS (dK (κ 16)) (ρ t)) (eK (κ 20) (rd (ρ 6) 0)) (scW (ρ t))).1))) ((ρ t).length % 16) from if_neg c_8]
        refine R_vreturn (pc := 174) dX7_unlock_174 rfl (by decide) (by decide) ⟨rfl, (ub (ub (ub (ub (ub (ub (ub (ub β2 35 ((stN (scS (dK (κ 16)) (ρ t)) (eK (κ 20) (rd (ρ 6) 0)) (scW (ρ t))).1)) 38 ((stN (scS (dK (κ 16)) (ρ t)) (eK (κ 20) (rd (ρ 6) 0)) (scW (ρ t))).1)) 35 (dblL ((stN (scS (dK (κ 16)) (ρ t)) (eK (κ 20) (rd (ρ 6) 0)) (scW (ρ t))).1))) 36 (rd (ρ t) (16 * (scW (ρ t))))) 36 (xb (dK (κ 16) (xb (rd (ρ t) (16 * (scW (ρ t)))) (dblL ((stN (scS (dK (κ 16)) (ρ t)) (eK (κ 20) (rd (ρ 6) 0)) (scW (ρ t))).1)))) (dblL ((stN (scS (dK (κ 16)) (ρ t)) (eK (κ 20) (rd (ρ 6) 0)) (scW (ρ t))).1)))) 37 (xb (df (xb (dK (κ 16) (xb (rd (ρ t) (16 * (scW (ρ t)))) (dblL ((stN (scS (dK (κ 16)) (ρ t)) (eK (κ 20) (rd (ρ 6) 0)) (scW (ρ t))).1)))) (dblL ((stN (scS (dK (κ 16)) (ρ t)) (eK (κ 20) (rd (ρ 6) 0)) (scW (ρ t))).1))) (nI ((ρ t).length % 16))) (rd (ρ t) (16 * (scW (ρ t)) + 16)))) 35 ((stN (scS (dK (κ 16)) (ρ t)) (eK (κ 20) (rd (ρ 6) 0)) (scW (ρ t))).1)) 37 (xb (dK (κ 16) (xb (xb (df (xb (dK (κ 16) (xb (rd (ρ t) (16 * (scW (ρ t)))) (dblL ((stN (scS (dK (κ 16)) (ρ t)) (eK (κ 20) (rd (ρ 6) 0)) (scW (ρ t))).1)))) (dblL ((stN (scS (dK (κ 16)) (ρ t)) (eK (κ 20) (rd (ρ 6) 0)) (scW (ρ t))).1))) (nI ((ρ t).length % 16))) (rd (ρ t) (16 * (scW (ρ t)) + 16))) ((stN (scS (dK (κ 16)) (ρ t)) (eK (κ 20) (rd (ρ 6) 0)) (scW (ρ t))).1))) ((stN (scS (dK (κ 16)) (ρ t)) (eK (κ 20) (rd (ρ 6) 0)) (scW (ρ t))).1))), ?_, rfl, S_52, (((((((((hF.tr F_13).tr F_18).tr F_23).tr F_28).tr F_33).tr F_38).tr F_43).tr F_48).tr F_53)⟩
        intro a_ n_
        simp only [List.mem_cons, List.not_mem_nil, or_false, not_or] at n_
        (try simp only [ub, if_neg, if_false, n_])
        (try simp only [ub_k])
        (try rw [hB a_ (by simp [n_])])
        (try simp only [ub, if_neg, if_false, n_])
        (try simp only [ub_k])
    · simp only [List.mem_cons, List.not_mem_nil, or_false, not_or] at n_; (try simp only [ub, if_neg, n_, if_false])
  · skip
    refine R_aload_n (pc := 12) 2 dX7_unlock_12 rfl rfl ?_
    have := rw_cases (r := t) ht
    refine R_get (pc := 13) dX7_unlock_13 fX7_52 (S.rowO t ht) (by omega) rfl ?_
    refine R_eqi (y := nI (ρ t).length) (by first | rfl | (simp only [ur_s, ur_ur])) ?_
    refine R_eqi (y := nI (16 * (scW (ρ t)))) (by rw [show scW (ρ t) = (ρ t).length / 16 from if_pos c_1, show 16 * ((ρ t).length / 16) = (ρ t).length from ov0 (by omega) c_1]) ?_
    refine R_goto (pc := 16) (tgt := 28) dX7_unlock_16 (by decide) ?_
    refine R_istore (pc := 28) (lv' := [(4, .int (nI (16 * (scW (ρ t))))), (3, .int (nI ((ρ t).length % 16))), (0, .ref 34), (1, .ref t), (2, .ref m)]) dX7_unlock_28 (by decide) rfl ?_
    refine R_aload_n (pc := 30) 2 dX7_unlock_30 rfl rfl ?_
    refine R_callVh (pc := 31) (μ' := mX7_begin) (As := []) (st := []) dX7_unlock_31 zX7_begin lX7_58 ⟨by decide, by decide⟩ rfl rfl ⟨by decide, by decide⟩ S.2.2.2.2.2.1 (by omega) rfl (Nat.le_of_ble_eq_true rfl) (qX7_begin S hn hk2) (fun h_54 r_ q_55 => ?_)
    obtain ⟨rfl, S_56, F_58⟩ := q_55
    have S_57 : Sys h_54 ρ (ub β 35 (eK (κ 20) (rd (ρ 6) 0))) κ τ := S_56
    refine R_iconst (pc := 34) (v := 0) dX7_unlock_34 (by decide) ?_
    refine R_istore (pc := 35) (lv' := [(5, .int 0), (4, .int (nI (16 * (scW (ρ t))))), (3, .int (nI ((ρ t).length % 16))), (0, .ref 34), (1, .ref t), (2, .ref m)]) dX7_unlock_35 (by decide) rfl ?_
    refine R_sub [0, 1, 2, 3, 4, 5] rfl ?_
    refine qX7_unlock_loop S hn ht hm htm hm6 hk hk2 hm0 hlen hr ?_ (scW (ρ t)) 0 (by omega) h_54 (ub β 35 (eK (κ 20) (rd (ρ 6) 0))) (by have z_ := S_57; rw [← ur_id ρ m, hm0] at z_; (try simp only [ur_n (x := 6) (r := m) hm6] at z_); exact z_) rfl (fun a_ n_ => ?_) F_58
    · intro h2 β2 S2 hv35 hB hF
      have S_59 : Sys h2 (ur ρ m ((stN (scS (dK (κ 16)) (ρ t)) (eK (κ 20) (rd (ρ 6) 0)) (scW (ρ t))).2)) (ub β2 35 ((stN (scS (dK (κ 16)) (ρ t)) (eK (κ 20) (rd (ρ 6) 0)) (scW (ρ t))).1)) κ τ := Sys.know S2 (hv35)
      refine R_iload_n (pc := 85) 2 dX7_unlock_85 rfl rfl ?_
      refine R_if_eq (pc := 86) (tgt := 174) dX7_unlock_86 (by decide) (fun c_60 => ?_) (fun c_60 => ?_)
      · skip
        rw [show scD (dK (κ 16)) (ρ t) (eK (κ 20) (rd (ρ 6) 0)) = (stN (scS (dK (κ 16)) (ρ t)) (eK (κ 20) (rd (ρ 6) 0)) (scW (ρ t))).2 from if_pos c_60]
        refine R_vreturn (pc := 174) dX7_unlock_174 rfl (by decide) (by decide) ⟨rfl, (ub β2 35 ((stN (scS (dK (κ 16)) (ρ t)) (eK (κ 20) (rd (ρ 6) 0)) (scW (ρ t))).1)), ?_, rfl, S_59, hF⟩
        intro a_ n_
        simp only [List.mem_cons, List.not_mem_nil, or_false, not_or] at n_
        (try simp only [ub, if_neg, if_false, n_])
        (try simp only [ub_k])
        (try rw [hB a_ (by simp [n_])])
        (try simp only [ub, if_neg, if_false, n_])
        (try simp only [ub_k])
      · skip
        refine R_aload_n (pc := 89) 3 dX7_unlock_89 rfl rfl ?_
        refine R_get (pc := 90) dX7_unlock_90 fX7_33 S_59.2.2.2.2.2.1 (by omega) rfl ?_
        refine R_aload_n (pc := 93) 3 dX7_unlock_93 rfl rfl ?_
        refine R_get (pc := 94) dX7_unlock_94 fX7_23 S_59.2.2.2.2.2.1 (by omega) rfl ?_
        refine R_callVh (pc := 97) (μ' := mX0_copy) (As := [.ref 35]) (st := []) dX7_unlock_97 zX0_copy lX7_82 ⟨by decide, by decide⟩ rfl rfl ⟨by decide, by decide⟩ (S_59.blk 38 rfl) (by omega) rfl (Nat.le_of_ble_eq_true rfl) (S_copy S_59 hn rfl rfl (by decide)) (fun h_61 r_ q_62 => ?_)
        obtain ⟨rfl, S_63, F_65⟩ := q_62
        have S_64 : Sys h_61 (ur ρ m ((stN (scS (dK (κ 16)) (ρ t)) (eK (κ 20) (rd (ρ 6) 0)) (scW (ρ t))).2)) (ub (ub β2 35 ((stN (scS (dK (κ 16)) (ρ t)) (eK (κ 20) (rd (ρ 6) 0)) (scW (ρ t))).1)) 38 ((stN (scS (dK (κ 16)) (ρ t)) (eK (κ 20) (rd (ρ 6) 0)) (scW (ρ t))).1)) κ τ := by have z_ := S_63; (try simp only [ur_s, ur_ur, ur_n (x := t) (r := m) htm, ur_n (x := 6) (r := m) hm6] at z_); exact z_
        refine R_aload_n (pc := 100) 3 dX7_unlock_100 rfl rfl ?_
        refine R_get (pc := 101) dX7_unlock_101 fX7_23 S_64.2.2.2.2.2.1 (by omega) rfl ?_
        refine R_callVh (pc := 104) (μ' := mX0_makeDoubleLowFirst) (As := []) (st := []) dX7_unlock_104 zX0_makeDoubleLowFirst lX7_68 ⟨by decide, by decide⟩ rfl rfl ⟨by decide, by decide⟩ (S_64.blk 35 rfl) (by omega) rfl (Nat.le_of_ble_eq_true rfl) (S_makeDoubleLowFirst S_64 hn rfl) (fun h_66 r_ q_67 => ?_)
        obtain ⟨rfl, S_68, F_70⟩ := q_67
        have S_69 : Sys h_66 (ur ρ m ((stN (scS (dK (κ 16)) (ρ t)) (eK (κ 20) (rd (ρ 6) 0)) (scW (ρ t))).2)) (ub (ub (ub β2 35 ((stN (scS (dK (κ 16)) (ρ t)) (eK (κ 20) (rd (ρ 6) 0)) (scW (ρ t))).1)) 38 ((stN (scS (dK (κ 16)) (ρ t)) (eK (κ 20) (rd (ρ 6) 0)) (scW (ρ t))).1)) 35 (dblL ((stN (scS (dK (κ 16)) (ρ t)) (eK (κ 20) (rd (ρ 6) 0)) (scW (ρ t))).1))) κ τ := by have z_ := S_68; (try simp only [ur_s, ur_ur, ur_n (x := t) (r := m) htm, ur_n (x := 6) (r := m) hm6] at z_); exact z_
        refine R_aload_n (pc := 107) 3 dX7_unlock_107 rfl rfl ?_
        refine R_get (pc := 108) dX7_unlock_108 fX7_27 S_69.2.2.2.2.2.1 (by omega) rfl ?_
        refine R_aload_n (pc := 111) 4 dX7_unlock_111 rfl rfl ?_
        refine R_iload (pc := 112) 1 dX7_unlock_112 rfl ?_
        refine R_callVh (pc := 114) (μ' := mX0_read) (As := [.ref t, .int (nI (16 * (scW (ρ t))))]) (st := []) dX7_unlock_114 zX0_read lX7_36 ⟨by decide, by decide⟩ rfl rfl ⟨by decide, by decide⟩ (S_69.blk 36 rfl) (by omega) rfl (Nat.le_of_ble_eq_true rfl) (S_read S_69 hn rfl ht (16 * (scW (ρ t))) (by omega)) (fun h_71 r_ q_72 => ?_)
        obtain ⟨rfl, S_73, F_75⟩ := q_72
        have S_74 : Sys h_71 (ur ρ m ((stN (scS (dK (κ 16)) (ρ t)) (eK (κ 20) (rd (ρ 6) 0)) (scW (ρ t))).2)) (ub (ub (ub (ub β2 35 ((stN (scS (dK (κ 16)) (ρ t)) (eK (κ 20) (rd (ρ 6) 0)) (scW (ρ t))).1)) 38 ((stN (scS (dK (κ 16)) (ρ t)) (eK (κ 20) (rd (ρ 6) 0)) (scW (ρ t))).1)) 35 (dblL ((stN (scS (dK (κ 16)) (ρ t)) (eK (κ 20) (rd (ρ 6) 0)) (scW (ρ t))).1))) 36 (rd (ρ t) (16 * (scW (ρ t))))) κ τ := by have z_ := S_73; (try simp only [ur_s, ur_ur, ur_n (x := t) (r := m) htm, ur_n (x := 6) (r := m) hm6] at z_); exact z_
        refine R_aload_n (pc := 117) 3 dX7_unlock_117 rfl rfl ?_
        refine R_aload_n (pc := 118) 3 dX7_unlock_118 rfl rfl ?_
        refine R_get (pc := 119) dX7_unlock_119 fX7_27 S_74.2.2.2.2.2.1 (by omega) rfl ?_
        refine R_callVh (pc := 122) (μ' := mX7_unlockBlock) (As := [.ref 36]) (st := []) dX7_unlock_122 zX7_unlockBlock lX7_79 ⟨by decide, by decide⟩ rfl rfl ⟨by decide, by decide⟩ S_74.2.2.2.2.2.1 (by omega) rfl (Nat.le_of_ble_eq_true rfl) (qX7_unlockBlock_36 S_74 hn hk) (fun h_76 r_ q_77 => ?_)
        obtain ⟨rfl, S_78, F_80⟩ := q_77
        have S_79 : Sys h_76 (ur ρ m ((stN (scS (dK (κ 16)) (ρ t)) (eK (κ 20) (rd (ρ 6) 0)) (scW (ρ t))).2)) (ub (ub (ub (ub (ub β2 35 ((stN (scS (dK (κ 16)) (ρ t)) (eK (κ 20) (rd (ρ 6) 0)) (scW (ρ t))).1)) 38 ((stN (scS (dK (κ 16)) (ρ t)) (eK (κ 20) (rd (ρ 6) 0)) (scW (ρ t))).1)) 35 (dblL ((stN (scS (dK (κ 16)) (ρ t)) (eK (κ 20) (rd (ρ 6) 0)) (scW (ρ t))).1))) 36 (rd (ρ t) (16 * (scW (ρ t))))) 36 (xb (dK (κ 16) (xb (rd (ρ t) (16 * (scW (ρ t)))) (dblL ((stN (scS (dK (κ 16)) (ρ t)) (eK (κ 20) (rd (ρ 6) 0)) (scW (ρ t))).1)))) (dblL ((stN (scS (dK (κ 16)) (ρ t)) (eK (κ 20) (rd (ρ 6) 0)) (scW (ρ t))).1)))) κ τ := by have z_ := S_78; (try simp only [ur_s, ur_ur, ur_n (x := t) (r := m) htm, ur_n (x := 6) (r := m) hm6] at z_); exact z_
        refine R_aload_n (pc := 125) 3 dX7_unlock_125 rfl rfl ?_
        refine R_aload_n (pc := 126) 4 dX7_unlock_126 rfl rfl ?_
        refine R_iload (pc := 127) 1 dX7_unlock_127 rfl ?_
        refine R_bipush (pc := 129) (v := 16) dX7_unlock_129 (by decide) ?_
        refine R_iadd (pc := 131) dX7_unlock_131 ?_
        refine R_eqi (y := nI (16 * (scW (ρ t)) + 16)) (nI_add (16 * (scW (ρ t))) 16) ?_
        refine R_iload_n (pc := 132) 2 dX7_unlock_132 rfl rfl ?_
        refine R_callVh (pc := 133) (μ' := mX7_borrowEnd) (As := [.ref t, .int (nI (16 * (scW (ρ t)) + 16)), .int (nI ((ρ t).length % 16))]) (st := []) dX7_unlock_133 zX7_borrowEnd lX7_75 ⟨by decide, by decide⟩ rfl rfl ⟨by decide, by decide⟩ S_79.2.2.2.2.2.1 (by omega) rfl (Nat.le_of_ble_eq_true rfl) (qX7_borrowEnd S_79 hn ht (16 * (scW (ρ t)) + 16) (by omega) _) (fun h_81 r_ q_82 => ?_)
        obtain ⟨rfl, S_83, F_85⟩ := q_82
        have S_84 : Sys h_81 (ur ρ m ((stN (scS (dK (κ 16)) (ρ t)) (eK (κ 20) (rd (ρ 6) 0)) (scW (ρ t))).2)) (ub (ub (ub (ub (ub (ub β2 35 ((stN (scS (dK (κ 16)) (ρ t)) (eK (κ 20) (rd (ρ 6) 0)) (scW (ρ t))).1)) 38 ((stN (scS (dK (κ 16)) (ρ t)) (eK (κ 20) (rd (ρ 6) 0)) (scW (ρ t))).1)) 35 (dblL ((stN (scS (dK (κ 16)) (ρ t)) (eK (κ 20) (rd (ρ 6) 0)) (scW (ρ t))).1))) 36 (rd (ρ t) (16 * (scW (ρ t))))) 36 (xb (dK (κ 16) (xb (rd (ρ t) (16 * (scW (ρ t)))) (dblL ((stN (scS (dK (κ 16)) (ρ t)) (eK (κ 20) (rd (ρ 6) 0)) (scW (ρ t))).1)))) (dblL ((stN (scS (dK (κ 16)) (ρ t)) (eK (κ 20) (rd (ρ 6) 0)) (scW (ρ t))).1)))) 37 (xb (df (xb (dK (κ 16) (xb (rd (ρ t) (16 * (scW (ρ t)))) (dblL ((stN (scS (dK (κ 16)) (ρ t)) (eK (κ 20) (rd (ρ 6) 0)) (scW (ρ t))).1)))) (dblL ((stN (scS (dK (κ 16)) (ρ t)) (eK (κ 20) (rd (ρ 6) 0)) (scW (ρ t))).1))) (nI ((ρ t).length % 16))) (rd (ρ t) (16 * (scW (ρ t)) + 16)))) κ τ := by have z_ := S_83; (try simp only [ur_s, ur_ur, ur_n (x := t) (r := m) htm, ur_n (x := 6) (r := m) hm6] at z_); exact z_
        refine R_aload_n (pc := 136) 3 dX7_unlock_136 rfl rfl ?_
        refine R_get (pc := 137) dX7_unlock_137 fX7_23 S_84.2.2.2.2.2.1 (by omega) rfl ?_
        refine R_aload_n (pc := 140) 3 dX7_unlock_140 rfl rfl ?_
        refine R_get (pc := 141) dX7_unlock_141 fX7_33 S_84.2.2.2.2.2.1 (by omega) rfl ?_
        refine R_callVh (pc := 144) (μ' := mX0_copy) (As := [.ref 38]) (st := []) dX7_unlock_144 zX0_copy lX7_82 ⟨by decide, by decide⟩ rfl rfl ⟨by decide, by decide⟩ (S_84.blk 35 rfl) (by omega) rfl (Nat.le_of_ble_eq_true rfl) (S_copy S_84 hn rfl rfl (by decide)) (fun h_86 r_ q_87 => ?_)
        obtain ⟨rfl, S_88, F_90⟩ := q_87
        have S_89 : Sys h_86 (ur ρ m ((stN (scS (dK (κ 16)) (ρ t)) (eK (κ 20) (rd (ρ 6) 0)) (scW (ρ t))).2)) (ub (ub (ub (ub (ub (ub (ub β2 35 ((stN (scS (dK (κ 16)) (ρ t)) (eK (κ 20) (rd (ρ 6) 0)) (scW (ρ t))).1)) 38 ((stN (scS (dK (κ 16)) (ρ t)) (eK (κ 20) (rd (ρ 6) 0)) (scW (ρ t))).1)) 35 (dblL ((stN (scS (dK (κ 16)) (ρ t)) (eK (κ 20) (rd (ρ 6) 0)) (scW (ρ t))).1))) 36 (rd (ρ t) (16 * (scW (ρ t))))) 36 (xb (dK (κ 16) (xb (rd (ρ t) (16 * (scW (ρ t)))) (dblL ((stN (scS (dK (κ 16)) (ρ t)) (eK (κ 20) (rd (ρ 6) 0)) (scW (ρ t))).1)))) (dblL ((stN (scS (dK (κ 16)) (ρ t)) (eK (κ 20) (rd (ρ 6) 0)) (scW (ρ t))).1)))) 37 (xb (df (xb (dK (κ 16) (xb (rd (ρ t) (16 * (scW (ρ t)))) (dblL ((stN (scS (dK (κ 16)) (ρ t)) (eK (κ 20) (rd (ρ 6) 0)) (scW (ρ t))).1)))) (dblL ((stN (scS (dK (κ 16)) (ρ t)) (eK (κ 20) (rd (ρ 6) 0)) (scW (ρ t))).1))) (nI ((ρ t).length % 16))) (rd (ρ t) (16 * (scW (ρ t)) + 16)))) 35 ((stN (scS (dK (κ 16)) (ρ t)) (eK (κ 20) (rd (ρ 6) 0)) (scW (ρ t))).1)) κ τ := by have z_ := S_88; (try simp only [ur_s, ur_ur, ur_n (x := t) (r := m) htm, ur_n (x := 6) (r := m) hm6] at z_); exact z_
        refine R_aload_n (pc := 147) 3 dX7_unlock_147 rfl rfl ?_
        refine R_aload_n (pc := 148) 3 dX7_unlock_148 rfl rfl ?_
        refine R_get (pc := 149) dX7_unlock_149 fX7_30 S_89.2.2.2.2.2.1 (by omega) rfl ?_
        refine R_callVh (pc := 152) (μ' := mX7_unlockBlock) (As := [.ref 37]) (st := []) dX7_unlock_152 zX7_unlockBlock lX7_79 ⟨by decide, by decide⟩ rfl rfl ⟨by decide, by decide⟩ S_89.2.2.2.2.2.1 (by omega) rfl (Nat.le_of_ble_eq_true rfl) (qX7_unlockBlock_37 S_89 hn hk) (fun h_91 r_ q_92 => ?_)
        obtain ⟨rfl, S_93, F_95⟩ := q_92
        have S_94 : Sys h_91 (ur ρ m ((stN (scS (dK (κ 16)) (ρ t)) (eK (κ 20) (rd (ρ 6) 0)) (scW (ρ t))).2)) (ub (ub (ub (ub (ub (ub (ub (ub β2 35 ((stN (scS (dK (κ 16)) (ρ t)) (eK (κ 20) (rd (ρ 6) 0)) (scW (ρ t))).1)) 38 ((stN (scS (dK (κ 16)) (ρ t)) (eK (κ 20) (rd (ρ 6) 0)) (scW (ρ t))).1)) 35 (dblL ((stN (scS (dK (κ 16)) (ρ t)) (eK (κ 20) (rd (ρ 6) 0)) (scW (ρ t))).1))) 36 (rd (ρ t) (16 * (scW (ρ t))))) 36 (xb (dK (κ 16) (xb (rd (ρ t) (16 * (scW (ρ t)))) (dblL ((stN (scS (dK (κ 16)) (ρ t)) (eK (κ 20) (rd (ρ 6) 0)) (scW (ρ t))).1)))) (dblL ((stN (scS (dK (κ 16)) (ρ t)) (eK (κ 20) (rd (ρ 6) 0)) (scW (ρ t))).1)))) 37 (xb (df (xb (dK (κ 16) (xb (rd (ρ t) (16 * (scW (ρ t)))) (dblL ((stN (scS (dK (κ 16)) (ρ t)) (eK (κ 20) (rd (ρ 6) 0)) (scW (ρ t))).1)))) (dblL ((stN (scS (dK (κ 16)) (ρ t)) (eK (κ 20) (rd (ρ 6) 0)) (scW (ρ t))).1))) (nI ((ρ t).length % 16))) (rd (ρ t) (16 * (scW (ρ t)) + 16)))) 35 ((stN (scS (dK (κ 16)) (ρ t)) (eK (κ 20) (rd (ρ 6) 0)) (scW (ρ t))).1)) 37 (xb (dK (κ 16) (xb (xb (df (xb (dK (κ 16) (xb (rd (ρ t) (16 * (scW (ρ t)))) (dblL ((stN (scS (dK (κ 16)) (ρ t)) (eK (κ 20) (rd (ρ 6) 0)) (scW (ρ t))).1)))) (dblL ((stN (scS (dK (κ 16)) (ρ t)) (eK (κ 20) (rd (ρ 6) 0)) (scW (ρ t))).1))) (nI ((ρ t).length % 16))) (rd (ρ t) (16 * (scW (ρ t)) + 16))) ((stN (scS (dK (κ 16)) (ρ t)) (eK (κ 20) (rd (ρ 6) 0)) (scW (ρ t))).1))) ((stN (scS (dK (κ 16)) (ρ t)) (eK (κ 20) (rd (ρ 6) 0)) (scW (ρ t))).1))) κ τ := by have z_ := S_93; (try simp only [ur_s, ur_ur, ur_n (x := t) (r := m) htm, ur_n (x := 6) (r := m) hm6] at z_); exact z_
        refine R_aload_n (pc := 155) 5 dX7_unlock_155 rfl rfl ?_
        refine R_aload_n (pc := 156) 3 dX7_unlock_156 rfl rfl ?_
        refine R_get (pc := 157) dX7_unlock_157 fX7_30 S_94.2.2.2.2.2.1 (by omega) rfl ?_
        refine R_bipush (pc := 160) (v := 16) dX7_unlock_160 (by decide) ?_
        refine R_callVh (pc := 162) (μ' := mX6_appendBlock) (As := [.ref 37, .int (nI 16)]) (st := []) dX7_unlock_162 zX6_appendBlock lX7_64 ⟨by decide, by decide⟩ rfl rfl ⟨by decide, by decide⟩ (S_94.rowO m hm) (by omega) rfl (Nat.le_of_ble_eq_true rfl) (S_appendBlock S_94 hn hm rfl 16 (by simp only [ur_s, stN_len (fun _ _ => scS_len _ _ _ _)]; omega)) (fun h_96 r_ q_97 => ?_)
        obtain ⟨rfl, S_98, F_100⟩ := q_97
        have S_99 : Sys h_96 (ur ρ m (((stN (scS (dK (κ 16)) (ρ t)) (eK (κ 20) (rd (ρ 6) 0)) (scW (ρ t))).2) ++ bt (xb (dK (κ 16) (xb (xb (df (xb (dK (κ 16) (xb (rd (ρ t) (16 * (scW (ρ t)))) (dblL ((stN (scS (dK (κ 16)) (ρ t)) (eK (κ 20) (rd (ρ 6) 0)) (scW (ρ t))).1)))) (dblL ((stN (scS (dK (κ 16)) (ρ t)) (eK (κ 20) (rd (ρ 6) 0)) (scW (ρ t))).1))) (nI ((ρ t).length % 16))) (rd (ρ t) (16 * (scW (ρ t)) + 16))) ((stN (scS (dK (κ 16)) (ρ t)) (eK (κ 20) (rd (ρ 6) 0)) (scW (ρ t))).1))) ((stN (scS (dK (κ 16)) (ρ t)) (eK (κ 20) (rd (ρ 6) 0)) (scW (ρ t))).1)) 16)) (ub (ub (ub (ub (ub (ub (ub (ub β2 35 ((stN (scS (dK (κ 16)) (ρ t)) (eK (κ 20) (rd (ρ 6) 0)) (scW (ρ t))).1)) 38 ((stN (scS (dK (κ 16)) (ρ t)) (eK (κ 20) (rd (ρ 6) 0)) (scW (ρ t))).1)) 35 (dblL ((stN (scS (dK (κ 16)) (ρ t)) (eK (κ 20) (rd (ρ 6) 0)) (scW (ρ t))).1))) 36 (rd (ρ t) (16 * (scW (ρ t))))) 36 (xb (dK (κ 16) (xb (rd (ρ t) (16 * (scW (ρ t)))) (dblL ((stN (scS (dK (κ 16)) (ρ t)) (eK (κ 20) (rd (ρ 6) 0)) (scW (ρ t))).1)))) (dblL ((stN (scS (dK (κ 16)) (ρ t)) (eK (κ 20) (rd (ρ 6) 0)) (scW (ρ t))).1)))) 37 (xb (df (xb (dK (κ 16) (xb (rd (ρ t) (16 * (scW (ρ t)))) (dblL ((stN (scS (dK (κ 16)) (ρ t)) (eK (κ 20) (rd (ρ 6) 0)) (scW (ρ t))).1)))) (dblL ((stN (scS (dK (κ 16)) (ρ t)) (eK (κ 20) (rd (ρ 6) 0)) (scW (ρ t))).1))) (nI ((ρ t).length % 16))) (rd (ρ t) (16 * (scW (ρ t)) + 16)))) 35 ((stN (scS (dK (κ 16)) (ρ t)) (eK (κ 20) (rd (ρ 6) 0)) (scW (ρ t))).1)) 37 (xb (dK (κ 16) (xb (xb (df (xb (dK (κ 16) (xb (rd (ρ t) (16 * (scW (ρ t)))) (dblL ((stN (scS (dK (κ 16)) (ρ t)) (eK (κ 20) (rd (ρ 6) 0)) (scW (ρ t))).1)))) (dblL ((stN (scS (dK (κ 16)) (ρ t)) (eK (κ 20) (rd (ρ 6) 0)) (scW (ρ t))).1))) (nI ((ρ t).length % 16))) (rd (ρ t) (16 * (scW (ρ t)) + 16))) ((stN (scS (dK (κ 16)) (ρ t)) (eK (κ 20) (rd (ρ 6) 0)) (scW (ρ t))).1))) ((stN (scS (dK (κ 16)) (ρ t)) (eK (κ 20) (rd (ρ 6) 0)) (scW (ρ t))).1))) κ τ := by have z_ := S_98; (try simp only [ur_s, ur_ur, ur_n (x := t) (r := m) htm, ur_n (x := 6) (r := m) hm6] at z_); exact z_
        refine R_aload_n (pc := 165) 5 dX7_unlock_165 rfl rfl ?_
        refine R_aload_n (pc := 166) 3 dX7_unlock_166 rfl rfl ?_
        refine R_get (pc := 167) dX7_unlock_167 fX7_27 S_99.2.2.2.2.2.1 (by omega) rfl ?_
        refine R_iload_n (pc := 170) 2 dX7_unlock_170 rfl rfl ?_
        refine R_callVh (pc := 171) (μ' := mX6_appendBlock) (As := [.ref 36, .int (nI ((ρ t).length % 16))]) (st := []) dX7_unlock_171 zX6_appendBlock lX7_64 ⟨by decide, by decide⟩ rfl rfl ⟨by decide, by decide⟩ (S_99.rowO m hm) (by omega) rfl (Nat.le_of_ble_eq_true rfl) (S_appendBlock S_99 hn hm rfl ((ρ t).length % 16) (by simp only [ur_s, List.length_append, bt_len, stN_len (fun _ _ => scS_len _ _ _ _)]; omega)) (fun h_101 r_ q_102 => ?_)
        obtain ⟨rfl, S_103, F_105⟩ := q_102
        have S_104 : Sys h_101 (ur ρ m ((((stN (scS (dK (κ 16)) (ρ t)) (eK (κ 20) (rd (ρ 6) 0)) (scW (ρ t))).2) ++ bt (xb (dK (κ 16) (xb (xb (df (xb (dK (κ 16) (xb (rd (ρ t) (16 * (scW (ρ t)))) (dblL ((stN (scS (dK (κ 16)) (ρ t)) (eK (κ 20) (rd (ρ 6) 0)) (scW (ρ t))).1)))) (dblL ((stN (scS (dK (κ 16)) (ρ t)) (eK (κ 20) (rd (ρ 6) 0)) (scW (ρ t))).1))) (nI ((ρ t).length % 16))) (rd (ρ t) (16 * (scW (ρ t)) + 16))) ((stN (scS (dK (κ 16)) (ρ t)) (eK (κ 20) (rd (ρ 6) 0)) (scW (ρ t))).1))) ((stN (scS (dK (κ 16)) (ρ t)) (eK (κ 20) (rd (ρ 6) 0)) (scW (ρ t))).1)) 16) ++ bt (xb (dK (κ 16) (xb (rd (ρ t) (16 * (scW (ρ t)))) (dblL ((stN (scS (dK (κ 16)) (ρ t)) (eK (κ 20) (rd (ρ 6) 0)) (scW (ρ t))).1)))) (dblL ((stN (scS (dK (κ 16)) (ρ t)) (eK (κ 20) (rd (ρ 6) 0)) (scW (ρ t))).1))) ((ρ t).length % 16))) (ub (ub (ub (ub (ub (ub (ub (ub β2 35 ((stN (scS (dK (κ 16)) (ρ t)) (eK (κ 20) (rd (ρ 6) 0)) (scW (ρ t))).1)) 38 ((stN (scS (dK (κ 16)) (ρ t)) (eK (κ 20) (rd (ρ 6) 0)) (scW (ρ t))).1)) 35 (dblL ((stN (scS (dK (κ 16)) (ρ t)) (eK (κ 20) (rd (ρ 6) 0)) (scW (ρ t))).1))) 36 (rd (ρ t) (16 * (scW (ρ t))))) 36 (xb (dK (κ 16) (xb (rd (ρ t) (16 * (scW (ρ t)))) (dblL ((stN (scS (dK (κ 16)) (ρ t)) (eK (κ 20) (rd (ρ 6) 0)) (scW (ρ t))).1)))) (dblL ((stN (scS (dK (κ 16)) (ρ t)) (eK (κ 20) (rd (ρ 6) 0)) (scW (ρ t))).1)))) 37 (xb (df (xb (dK (κ 16) (xb (rd (ρ t) (16 * (scW (ρ t)))) (dblL ((stN (scS (dK (κ 16)) (ρ t)) (eK (κ 20) (rd (ρ 6) 0)) (scW (ρ t))).1)))) (dblL ((stN (scS (dK (κ 16)) (ρ t)) (eK (κ 20) (rd (ρ 6) 0)) (scW (ρ t))).1))) (nI ((ρ t).length % 16))) (rd (ρ t) (16 * (scW (ρ t)) + 16)))) 35 ((stN (scS (dK (κ 16)) (ρ t)) (eK (κ 20) (rd (ρ 6) 0)) (scW (ρ t))).1)) 37 (xb (dK (κ 16) (xb (xb (df (xb (dK (κ 16) (xb (rd (ρ t) (16 * (scW (ρ t)))) (dblL ((stN (scS (dK (κ 16)) (ρ t)) (eK (κ 20) (rd (ρ 6) 0)) (scW (ρ t))).1)))) (dblL ((stN (scS (dK (κ 16)) (ρ t)) (eK (κ 20) (rd (ρ 6) 0)) (scW (ρ t))).1))) (nI ((ρ t).length % 16))) (rd (ρ t) (16 * (scW (ρ t)) + 16))) ((stN (scS (dK (κ 16)) (ρ t)) (eK (κ 20) (rd (ρ 6) 0)) (scW (ρ t))).1))) ((stN (scS (dK (κ 16)) (ρ t)) (eK (κ 20) (rd (ρ 6) 0)) (scW (ρ t))).1))) κ τ := by have z_ := S_103; (try simp only [ur_s, ur_ur, ur_n (x := t) (r := m) htm, ur_n (x := 6) (r := m) hm6] at z_); exact z_
        rw [show scD (dK (κ 16)) (ρ t) (eK (κ 20) (rd (ρ 6) 0)) = (((stN (scS (dK (κ 16)) (ρ t)) (eK (κ 20) (rd (ρ 6) 0)) (scW (ρ t))).2) ++ bt (xb (dK (κ 16) (xb (xb (df (xb (dK (κ 16) (xb (rd (ρ t) (16 * (scW (ρ t)))) (dblL ((stN (scS (dK (κ 16)) (ρ t)) (eK (κ 20) (rd (ρ 6) 0)) (scW (ρ t))).1)))) (dblL ((stN (scS (dK (κ 16)) (ρ t)) (eK (κ 20) (rd (ρ 6) 0)) (scW (ρ t))).1))) (nI ((ρ t).length % 16))) (rd (ρ t) (16 * (scW (ρ t)) + 16))) ((stN (scS (dK (κ 16)) (ρ t)) (eK (κ 20) (rd (ρ 6) 0)) (scW (ρ t))).1))) ((stN (scS (dK (κ 16)) (ρ t)) (eK (κ 20) (rd (ρ 6) 0)) (scW (ρ t))).1)) 16) ++ bt (xb (dK (κ 16) (xb (rd (ρ t) (16 * (scW (ρ t)))) (dblL ((stN (scS (dK (κ 16)) (ρ t)) (eK (κ 20) (rd (ρ 6) 0)) (scW (ρ t))).1)))) (dblL ((stN (scS (dK (κ 16)) (ρ t)) (eK (κ 20) (rd (ρ 6) 0)) (scW (ρ t))).1))) ((ρ t).length % 16) from if_neg c_60]
        refine R_vreturn (pc := 174) dX7_unlock_174 rfl (by decide) (by decide) ⟨rfl, (ub (ub (ub (ub (ub (ub (ub (ub β2 35 ((stN (scS (dK (κ 16)) (ρ t)) (eK (κ 20) (rd (ρ 6) 0)) (scW (ρ t))).1)) 38 ((stN (scS (dK (κ 16)) (ρ t)) (eK (κ 20) (rd (ρ 6) 0)) (scW (ρ t))).1)) 35 (dblL ((stN (scS (dK (κ 16)) (ρ t)) (eK (κ 20) (rd (ρ 6) 0)) (scW (ρ t))).1))) 36 (rd (ρ t) (16 * (scW (ρ t))))) 36 (xb (dK (κ 16) (xb (rd (ρ t) (16 * (scW (ρ t)))) (dblL ((stN (scS (dK (κ 16)) (ρ t)) (eK (κ 20) (rd (ρ 6) 0)) (scW (ρ t))).1)))) (dblL ((stN (scS (dK (κ 16)) (ρ t)) (eK (κ 20) (rd (ρ 6) 0)) (scW (ρ t))).1)))) 37 (xb (df (xb (dK (κ 16) (xb (rd (ρ t) (16 * (scW (ρ t)))) (dblL ((stN (scS (dK (κ 16)) (ρ t)) (eK (κ 20) (rd (ρ 6) 0)) (scW (ρ t))).1)))) (dblL ((stN (scS (dK (κ 16)) (ρ t)) (eK (κ 20) (rd (ρ 6) 0)) (scW (ρ t))).1))) (nI ((ρ t).length % 16))) (rd (ρ t) (16 * (scW (ρ t)) + 16)))) 35 ((stN (scS (dK (κ 16)) (ρ t)) (eK (κ 20) (rd (ρ 6) 0)) (scW (ρ t))).1)) 37 (xb (dK (κ 16) (xb (xb (df (xb (dK (κ 16) (xb (rd (ρ t) (16 * (scW (ρ t)))) (dblL ((stN (scS (dK (κ 16)) (ρ t)) (eK (κ 20) (rd (ρ 6) 0)) (scW (ρ t))).1)))) (dblL ((stN (scS (dK (κ 16)) (ρ t)) (eK (κ 20) (rd (ρ 6) 0)) (scW (ρ t))).1))) (nI ((ρ t).length % 16))) (rd (ρ t) (16 * (scW (ρ t)) + 16))) ((stN (scS (dK (κ 16)) (ρ t)) (eK (κ 20) (rd (ρ 6) 0)) (scW (ρ t))).1))) ((stN (scS (dK (κ 16)) (ρ t)) (eK (κ 20) (rd (ρ 6) 0)) (scW (ρ t))).1))), ?_, rfl, S_104, (((((((((hF.tr F_65).tr F_70).tr F_75).tr F_80).tr F_85).tr F_90).tr F_95).tr F_100).tr F_105)⟩
        intro a_ n_
        simp only [List.mem_cons, List.not_mem_nil, or_false, not_or] at n_
        (try simp only [ub, if_neg, if_false, n_])
        (try simp only [ub_k])
        (try rw [hB a_ (by simp [n_])])
        (try simp only [ub, if_neg, if_false, n_])
        (try simp only [ub_k])
    · simp only [List.mem_cons, List.not_mem_nil, or_false, not_or] at n_; (try simp only [ub, if_neg, n_, if_false])
/-- FEED OF ONE: an octet -/
def foS (F : bP → bP) (op : Int32) (L : List (BitVec 8)) (i : Nat) (x : bP) : bP × List (BitVec 8) := (bci x (if op = 0 then oc (og L i) ^^^ bo2 (F x) 0 else oc (og L i)), [t8 (oc (og L i) ^^^ bo2 (F x) 0)])
theorem stN_len1 {f : Nat → bP → bP × List (BitVec 8)} {x : bP} (hf : ∀ i y, (f i y).2.length = 1) : ∀ t, (stN f x t).2.length = t
  | 0 => rfl
  | t + 1 => by
    show ((stN f x t).2 ++ (f t (stN f x t).1).2).length = _
    rw [List.length_append, stN_len1 hf t, hf]
set_option maxHeartbeats 4000000 in
set_option maxRecDepth 100000 in
theorem qX9_feedBackOne_loop {l : Launch} {w : am_W} {h : am_H} {n : Nat} {ρ : Nat → List (BitVec 8)} {β : Nat → bP} {κ : Nat → kT} {τ : Nat × Nat × Nat} (S : Sys h ρ β κ τ) (hn : 60 ≤ n) {t m : Nat} (ht : isRw t = true) (hm : isRw m = true) (htm : t ≠ m) (op : Int32) (hk : kOk (κ 16)) (hr : (ρ m).length + (ρ t).length ≤ rwN m) (kk : ∀ h2 β2, Sys h2 (ur ρ m (ρ m ++ (stN (foS (eK (κ 16)) op (ρ t)) (rd (ρ 6) 0) ((ρ t).length)).2)) β2 κ τ → β2 31 = (stN (foS (eK (κ 16)) op (ρ t)) (rd (ρ 6) 0) ((ρ t).length)).1 → (∀ a, a ∉ [31, 33] → β2 a = β a) → Fr h h2 → RW l w mX9_feedBackOne h2 n 0 0 97 [(4, .int (nI ((ρ t).length))), (0, .ref 30), (1, .ref t), (2, .int op), (3, .ref m)] [] (fun h' n' r_ => n' = n ∧ (SX h τ none (ur ρ m (ρ m ++ (stN (foS (eK (κ 16)) op (ρ t)) (rd (ρ 6) 0) (ρ t).length).2)) β κ [31, 33]) h' r_)) : ∀ (d i : Nat), i + d = (ρ t).length → ∀ h2 β2, Sys h2 (ur ρ m (ρ m ++ (stN (foS (eK (κ 16)) op (ρ t)) (rd (ρ 6) 0) i).2)) β2 κ τ → β2 31 = (stN (foS (eK (κ 16)) op (ρ t)) (rd (ρ 6) 0) i).1 → (∀ a, a ∉ [31, 33] → β2 a = β a) → Fr h h2 → RW l w mX9_feedBackOne h2 n 0 0 15 [(4, .int (nI i)), (0, .ref 30), (1, .ref t), (2, .int op), (3, .ref m)] [] (fun h' n' r_ => n' = n ∧ (SX h τ none (ur ρ m (ρ m ++ (stN (foS (eK (κ 16)) op (ρ t)) (rd (ρ 6) 0) (ρ t).length).2)) β κ [31, 33]) h' r_) := by
  have hlt := S.len t ht
  have hlm := S.len m hm
  have htc := rw_cases ht
  have hmc := rw_cases hm
  intro d
  induction d with
  | zero =>
    intro i hd h2 β2 S2 hv31 hB hF
    refine R_iload (pc := 15) 0 dX9_feedBackOne_15 rfl ?_
    refine R_aload_n (pc := 17) 2 dX9_feedBackOne_17 rfl rfl ?_
    have := rw_cases (r := t) ht
    refine R_get (pc := 18) dX9_feedBackOne_18 fX9_34 (S2.rowO t ht) (by omega) rfl ?_
    refine R_eqi (y := nI (ρ t).length) (by first | rfl | (simp only [ur_s, ur_ur, ur_n (x := t) (r := m) htm])) ?_
    refine R_icmp_ge (pc := 21) (tgt := 97) dX9_feedBackOne_21 (by decide) (fun c_1 => ?_) (fun c_1 => absurd (nI_le (by omega) (by omega)) c_1)
    obtain rfl : i = (ρ t).length := by omega
    exact kk h2 β2 S2 hv31 hB hF
  | succ d ih =>
    intro i hd h2 β2 S2 hv31 hB hF
    have S_1 : Sys h2 (ur ρ m (ρ m ++ (stN (foS (eK (κ 16)) op (ρ t)) (rd (ρ 6) 0) i).2)) (ub β2 31 ((stN (foS (eK (κ 16)) op (ρ t)) (rd (ρ 6) 0) i).1)) κ τ := Sys.know S2 (hv31)
    refine R_iload (pc := 15) 0 dX9_feedBackOne_15 rfl ?_
    refine R_aload_n (pc := 17) 2 dX9_feedBackOne_17 rfl rfl ?_
    have := rw_cases (r := t) ht
    refine R_get (pc := 18) dX9_feedBackOne_18 fX9_34 (S_1.rowO t ht) (by omega) rfl ?_
    refine R_eqi (y := nI (ρ t).length) (by first | rfl | (simp only [ur_s, ur_ur, ur_n (x := t) (r := m) htm])) ?_
    refine R_icmp_ge (pc := 21) (tgt := 97) dX9_feedBackOne_21 (by decide) (fun c_2 => absurd c_2 (nI_ge (by omega) (by omega))) (fun c_2 => ?_)
    refine R_aload_n (pc := 24) 1 dX9_feedBackOne_24 rfl rfl ?_
    refine R_get (pc := 25) dX9_feedBackOne_25 fX9_27 S_1.2.2.2.2.1 (by omega) rfl ?_
    refine R_aload_n (pc := 28) 1 dX9_feedBackOne_28 rfl rfl ?_
    refine R_get (pc := 29) dX9_feedBackOne_29 fX9_20 S_1.2.2.2.2.1 (by omega) rfl ?_
    refine R_callVh (pc := 32) (μ' := mX0_copy) (As := [.ref 31]) (st := []) dX9_feedBackOne_32 zX0_copy lX9_40 ⟨by decide, by decide⟩ rfl rfl ⟨by decide, by decide⟩ (S_1.blk 33 rfl) (by omega) rfl (Nat.le_of_ble_eq_true rfl) (S_copy S_1 hn rfl rfl (by decide)) (fun h_3 r_ q_4 => ?_)
    obtain ⟨rfl, S_5, F_7⟩ := q_4
    have S_6 : Sys h_3 (ur ρ m (ρ m ++ (stN (foS (eK (κ 16)) op (ρ t)) (rd (ρ 6) 0) i).2)) (ub (ub β2 31 ((stN (foS (eK (κ 16)) op (ρ t)) (rd (ρ 6) 0) i).1)) 33 ((stN (foS (eK (κ 16)) op (ρ t)) (rd (ρ 6) 0) i).1)) κ τ := by have z_ := S_5; (try simp only [ur_s, ur_ur, ur_n (x := t) (r := m) htm] at z_); exact z_
    refine R_aload_n (pc := 35) 1 dX9_feedBackOne_35 rfl rfl ?_
    refine R_get (pc := 36) dX9_feedBackOne_36 fX9_7 S_6.2.2.2.2.1 (by omega) rfl ?_
    refine R_aload_n (pc := 39) 1 dX9_feedBackOne_39 rfl rfl ?_
    refine R_get (pc := 40) dX9_feedBackOne_40 fX9_27 S_6.2.2.2.2.1 (by omega) rfl ?_
    refine R_callVh (pc := 43) (μ' := mX2_encrypt) (As := [.ref 33]) (st := []) dX9_feedBackOne_43 zX2_encrypt lX9_44 ⟨by decide, by decide⟩ rfl rfl ⟨by decide, by decide⟩ (S_6.2.2.1 16 (by decide)).1 (by omega) rfl (Nat.le_of_ble_eq_true rfl) (S_encrypt S_6 hn (by decide) rfl hk.1 hk.2) (fun h_8 r_ q_9 => ?_)
    obtain ⟨rfl, S_10, F_12⟩ := q_9
    have S_11 : Sys h_8 (ur ρ m (ρ m ++ (stN (foS (eK (κ 16)) op (ρ t)) (rd (ρ 6) 0) i).2)) (ub (ub (ub β2 31 ((stN (foS (eK (κ 16)) op (ρ t)) (rd (ρ 6) 0) i).1)) 33 ((stN (foS (eK (κ 16)) op (ρ t)) (rd (ρ 6) 0) i).1)) 33 (eK (κ 16) ((stN (foS (eK (κ 16)) op (ρ t)) (rd (ρ 6) 0) i).1))) κ τ := by have z_ := S_10; (try simp only [ur_s, ur_ur, ur_n (x := t) (r := m) htm] at z_); exact z_
    refine R_aload_n (pc := 46) 2 dX9_feedBackOne_46 rfl rfl ?_
    refine R_iload (pc := 47) 0 dX9_feedBackOne_47 rfl ?_
    refine R_callVp (pc := 49) (μ' := mX6_at) (As := [.int (nI i)]) (st := []) dX9_feedBackOne_49 zX6_at lX9_62 ⟨by decide, by decide⟩ rfl rfl ⟨by decide, by decide⟩ (S_11.rowO t ht) (by omega) rfl (Nat.le_of_ble_eq_true rfl) (S_at S_11 hn ht _) ?_
    refine R_eqi (y := atI (ρ t) (nI i)) (by first | rfl | (simp only [ur_s, ur_ur, ur_n (x := t) (r := m) htm])) ?_
    refine R_eqi (y := oc (og (ρ t) i)) (atI_nI (ρ t) (by omega) (by omega)) ?_
    refine R_istore (pc := 52) (lv' := [(5, .int (oc (og (ρ t) i))), (4, .int (nI i)), (0, .ref 30), (1, .ref t), (2, .int op), (3, .ref m)]) dX9_feedBackOne_52 (by decide) rfl ?_
    refine R_iload (pc := 54) 0 dX9_feedBackOne_54 rfl ?_
    refine R_aload_n (pc := 56) 2 dX9_feedBackOne_56 rfl rfl ?_
    refine R_get (pc := 57) dX9_feedBackOne_57 fX9_27 S_11.2.2.2.2.1 (by omega) rfl ?_
    refine R_iconst (pc := 60) (v := 0) dX9_feedBackOne_60 (by decide) ?_
    refine R_callVp (pc := 61) (μ' := mX0_octetAt) (As := [.int 0]) (st := [.int (oc (og (ρ t) i))]) dX9_feedBackOne_61 zX0_octetAt lX9_66 ⟨by decide, by decide⟩ rfl rfl ⟨by decide, by decide⟩ (S_11.blk 33 rfl) (by omega) rfl (Nat.le_of_ble_eq_true rfl) (S_octetAt S_11 hn rfl _) ?_
    refine R_eqi (y := bo2 (eK (κ 16) ((stN (foS (eK (κ 16)) op (ρ t)) (rd (ρ 6) 0) i).1)) 0) (by first | rfl | (simp only [ur_s, ur_ur, ur_n (x := t) (r := m) htm])) ?_
    refine R_ixor (pc := 64) dX9_feedBackOne_64 ?_
    refine R_istore (pc := 65) (lv' := [(6, .int ((oc (og (ρ t) i)) ^^^ (bo2 (eK (κ 16) ((stN (foS (eK (κ 16)) op (ρ t)) (rd (ρ 6) 0) i).1)) 0))), (5, .int (oc (og (ρ t) i))), (4, .int (nI i)), (0, .ref 30), (1, .ref t), (2, .int op), (3, .ref m)]) dX9_feedBackOne_65 (by decide) rfl ?_
    refine R_aload_n (pc := 67) 6 dX9_feedBackOne_67 rfl rfl ?_
    refine R_iload (pc := 68) 0 dX9_feedBackOne_68 rfl ?_
    refine R_callVh (pc := 70) (μ' := mX6_append) (As := [.int ((oc (og (ρ t) i)) ^^^ (bo2 (eK (κ 16) ((stN (foS (eK (κ 16)) op (ρ t)) (rd (ρ 6) 0) i).1)) 0))]) (st := []) dX9_feedBackOne_70 zX6_append lX9_69 ⟨by decide, by decide⟩ rfl rfl ⟨by decide, by decide⟩ (S_11.rowO m hm) (by omega) rfl (Nat.le_of_ble_eq_true rfl) (S_append S_11 hn hm _ (by simp only [ur_s, List.length_append, stN_len1 (f := foS (eK (κ 16)) op (ρ t)) (fun _ _ => rfl)]; omega)) (fun h_13 r_ q_14 => ?_)
    obtain ⟨rfl, S_15, F_17⟩ := q_14
    have S_16 : Sys h_13 (ur ρ m ((ρ m ++ (stN (foS (eK (κ 16)) op (ρ t)) (rd (ρ 6) 0) i).2) ++ [t8 ((oc (og (ρ t) i)) ^^^ (bo2 (eK (κ 16) ((stN (foS (eK (κ 16)) op (ρ t)) (rd (ρ 6) 0) i).1)) 0))])) (ub (ub (ub β2 31 ((stN (foS (eK (κ 16)) op (ρ t)) (rd (ρ 6) 0) i).1)) 33 ((stN (foS (eK (κ 16)) op (ρ t)) (rd (ρ 6) 0) i).1)) 33 (eK (κ 16) ((stN (foS (eK (κ 16)) op (ρ t)) (rd (ρ 6) 0) i).1))) κ τ := by have z_ := S_15; (try simp only [ur_s, ur_ur, ur_n (x := t) (r := m) htm] at z_); exact z_
    refine R_aload_n (pc := 73) 3 dX9_feedBackOne_73 rfl rfl ?_
    refine R_get (pc := 74) dX9_feedBackOne_74 fX9_20 S_16.2.2.2.2.1 (by omega) rfl ?_
    refine R_iload_n (pc := 77) 5 dX9_feedBackOne_77 rfl rfl ?_
    refine R_if_eq (pc := 78) (tgt := 86) dX9_feedBackOne_78 (by decide) (fun c_18 => ?_) (fun c_18 => ?_)
    · skip
      refine R_iload (pc := 86) 0 dX9_feedBackOne_86 rfl ?_
      refine R_callVh (pc := 88) (μ' := mX0_comeIn) (As := [.int ((oc (og (ρ t) i)) ^^^ (bo2 (eK (κ 16) ((stN (foS (eK (κ 16)) op (ρ t)) (rd (ρ 6) 0) i).1)) 0))]) (st := []) dX9_feedBackOne_88 zX0_comeIn lX9_73 ⟨by decide, by decide⟩ rfl rfl ⟨by decide, by decide⟩ (S_16.blk 31 rfl) (by omega) rfl (Nat.le_of_ble_eq_true rfl) (S_comeIn S_16 hn rfl _) (fun h_19 r_ q_20 => ?_)
      obtain ⟨rfl, S_21, F_23⟩ := q_20
      have S_22 : Sys h_19 (ur ρ m ((ρ m ++ (stN (foS (eK (κ 16)) op (ρ t)) (rd (ρ 6) 0) i).2) ++ [t8 ((oc (og (ρ t) i)) ^^^ (bo2 (eK (κ 16) ((stN (foS (eK (κ 16)) op (ρ t)) (rd (ρ 6) 0) i).1)) 0))])) (ub (ub (ub (ub β2 31 ((stN (foS (eK (κ 16)) op (ρ t)) (rd (ρ 6) 0) i).1)) 33 ((stN (foS (eK (κ 16)) op (ρ t)) (rd (ρ 6) 0) i).1)) 33 (eK (κ 16) ((stN (foS (eK (κ 16)) op (ρ t)) (rd (ρ 6) 0) i).1))) 31 (bci ((stN (foS (eK (κ 16)) op (ρ t)) (rd (ρ 6) 0) i).1) ((oc (og (ρ t) i)) ^^^ (bo2 (eK (κ 16) ((stN (foS (eK (κ 16)) op (ρ t)) (rd (ρ 6) 0) i).1)) 0)))) κ τ := by have z_ := S_21; (try simp only [ur_s, ur_ur, ur_n (x := t) (r := m) htm] at z_); exact z_
      refine R_iinc (pc := 91) (j := 2) (v := nI (i + 1)) (lv' := [(4, .int (nI (i + 1))), (6, .int ((oc (og (ρ t) i)) ^^^ (bo2 (eK (κ 16) ((stN (foS (eK (κ 16)) op (ρ t)) (rd (ρ 6) 0) i).1)) 0))), (5, .int (oc (og (ρ t) i))), (0, .ref 30), (1, .ref t), (2, .int op), (3, .ref m)]) dX9_feedBackOne_91 rfl (nI_1 i) (by decide) rfl ?_
      refine R_goto (pc := 94) (tgt := 15) dX9_feedBackOne_94 (by decide) ?_
      refine R_sub [0, 3, 4, 5, 6] rfl ?_
      refine ih (i + 1) (by omega) h_19 (ub (ub (ub (ub β2 31 ((stN (foS (eK (κ 16)) op (ρ t)) (rd (ρ 6) 0) i).1)) 33 ((stN (foS (eK (κ 16)) op (ρ t)) (rd (ρ 6) 0) i).1)) 33 (eK (κ 16) ((stN (foS (eK (κ 16)) op (ρ t)) (rd (ρ 6) 0) i).1))) 31 (bci ((stN (foS (eK (κ 16)) op (ρ t)) (rd (ρ 6) 0) i).1) ((oc (og (ρ t) i)) ^^^ (bo2 (eK (κ 16) ((stN (foS (eK (κ 16)) op (ρ t)) (rd (ρ 6) 0) i).1)) 0)))) (by have z_ := S_22; rw [List.append_assoc] at z_; exact z_) (by show _ = (foS (eK (κ 16)) op (ρ t) i (stN (foS (eK (κ 16)) op (ρ t)) (rd (ρ 6) 0) i).1).1; unfold foS; dsimp only; rw [if_pos c_18]; rfl) (fun a_ n_ => ?_) (hF.tr (((F_7.tr F_12).tr F_17).tr F_23))
      have q_ := hB a_ n_; simp only [List.mem_cons, List.not_mem_nil, or_false, not_or] at n_
      (try simp only [ub, if_neg, n_, if_false])
      first | exact q_ | (simp only [ub_k]; exact q_) | (rw [q_]; simp only [ub_k]) | (repeat' split) <;> first | exact q_ | (rename_i e_; rw [e_])
    · skip
      refine R_iload (pc := 81) 1 dX9_feedBackOne_81 rfl ?_
      refine R_goto (pc := 83) (tgt := 88) dX9_feedBackOne_83 (by decide) ?_
      refine R_callVh (pc := 88) (μ' := mX0_comeIn) (As := [.int (oc (og (ρ t) i))]) (st := []) dX9_feedBackOne_88 zX0_comeIn lX9_73 ⟨by decide, by decide⟩ rfl rfl ⟨by decide, by decide⟩ (S_16.blk 31 rfl) (by omega) rfl (Nat.le_of_ble_eq_true rfl) (S_comeIn S_16 hn rfl _) (fun h_24 r_ q_25 => ?_)
      obtain ⟨rfl, S_26, F_28⟩ := q_25
      have S_27 : Sys h_24 (ur ρ m ((ρ m ++ (stN (foS (eK (κ 16)) op (ρ t)) (rd (ρ 6) 0) i).2) ++ [t8 ((oc (og (ρ t) i)) ^^^ (bo2 (eK (κ 16) ((stN (foS (eK (κ 16)) op (ρ t)) (rd (ρ 6) 0) i).1)) 0))])) (ub (ub (ub (ub β2 31 ((stN (foS (eK (κ 16)) op (ρ t)) (rd (ρ 6) 0) i).1)) 33 ((stN (foS (eK (κ 16)) op (ρ t)) (rd (ρ 6) 0) i).1)) 33 (eK (κ 16) ((stN (foS (eK (κ 16)) op (ρ t)) (rd (ρ 6) 0) i).1))) 31 (bci ((stN (foS (eK (κ 16)) op (ρ t)) (rd (ρ 6) 0) i).1) (oc (og (ρ t) i)))) κ τ := by have z_ := S_26; (try simp only [ur_s, ur_ur, ur_n (x := t) (r := m) htm] at z_); exact z_
      refine R_iinc (pc := 91) (j := 2) (v := nI (i + 1)) (lv' := [(4, .int (nI (i + 1))), (6, .int ((oc (og (ρ t) i)) ^^^ (bo2 (eK (κ 16) ((stN (foS (eK (κ 16)) op (ρ t)) (rd (ρ 6) 0) i).1)) 0))), (5, .int (oc (og (ρ t) i))), (0, .ref 30), (1, .ref t), (2, .int op), (3, .ref m)]) dX9_feedBackOne_91 rfl (nI_1 i) (by decide) rfl ?_
      refine R_goto (pc := 94) (tgt := 15) dX9_feedBackOne_94 (by decide) ?_
      refine R_sub [0, 3, 4, 5, 6] rfl ?_
      refine ih (i + 1) (by omega) h_24 (ub (ub (ub (ub β2 31 ((stN (foS (eK (κ 16)) op (ρ t)) (rd (ρ 6) 0) i).1)) 33 ((stN (foS (eK (κ 16)) op (ρ t)) (rd (ρ 6) 0) i).1)) 33 (eK (κ 16) ((stN (foS (eK (κ 16)) op (ρ t)) (rd (ρ 6) 0) i).1))) 31 (bci ((stN (foS (eK (κ 16)) op (ρ t)) (rd (ρ 6) 0) i).1) (oc (og (ρ t) i)))) (by have z_ := S_27; rw [List.append_assoc] at z_; exact z_) (by show _ = (foS (eK (κ 16)) op (ρ t) i (stN (foS (eK (κ 16)) op (ρ t)) (rd (ρ 6) 0) i).1).1; unfold foS; dsimp only; rw [if_neg c_18]; rfl) (fun a_ n_ => ?_) (hF.tr (((F_7.tr F_12).tr F_17).tr F_28))
      have q_ := hB a_ n_; simp only [List.mem_cons, List.not_mem_nil, or_false, not_or] at n_
      (try simp only [ub, if_neg, n_, if_false])
      first | exact q_ | (simp only [ub_k]; exact q_) | (rw [q_]; simp only [ub_k]) | (repeat' split) <;> first | exact q_ | (rename_i e_; rw [e_])
set_option maxHeartbeats 4000000 in
set_option maxRecDepth 100000 in
theorem qX9_feedBackOne {l : Launch} {w : am_W} {h : am_H} {n : Nat} {ρ : Nat → List (BitVec 8)} {β : Nat → bP} {κ : Nat → kT} {τ : Nat × Nat × Nat} (S : Sys h ρ β κ τ) (hn : 60 ≤ n) {t m : Nat} (ht : isRw t = true) (hm : isRw m = true) (htm : t ≠ m) (op : Int32) (hk : kOk (κ 16)) (hr : (ρ m).length + (ρ t).length ≤ rwN m) : RH l w mX9_feedBackOne h n [.ref 30, .ref t, .int op, .ref m] (SX h τ none (ur ρ m (ρ m ++ (stN (foS (eK (κ 16)) op (ρ t)) (rd (ρ 6) 0) (ρ t).length).2)) β κ [31, 33]) := by
  refine RC.of [(0, .ref 30), (1, .ref t), (2, .int op), (3, .ref m)] (by decide +kernel) rfl (Nat.le_of_ble_eq_true rfl) ?_
  refine R_aload_n (pc := 0) 0 dX9_feedBackOne_0 rfl rfl ?_
  refine R_get (pc := 1) dX9_feedBackOne_1 fX9_20 S.2.2.2.2.1 (by omega) rfl ?_
  refine R_aload_n (pc := 4) 0 dX9_feedBackOne_4 rfl rfl ?_
  refine R_get (pc := 5) dX9_feedBackOne_5 fX9_13 S.2.2.2.2.1 (by omega) rfl ?_
  refine R_iconst (pc := 8) (v := 0) dX9_feedBackOne_8 (by decide) ?_
  refine R_callVh (pc := 9) (μ' := mX0_read) (As := [.ref 6, .int (nI 0)]) (st := []) dX9_feedBackOne_9 zX0_read lX9_30 ⟨by decide, by decide⟩ rfl rfl ⟨by decide, by decide⟩ (S.blk 31 rfl) (by omega) rfl (Nat.le_of_ble_eq_true rfl) (S_read S hn rfl rfl 0 (by omega)) (fun h_1 r_ q_2 => ?_)
  obtain ⟨rfl, S_3, F_5⟩ := q_2
  have S_4 : Sys h_1 ρ (ub β 31 (rd (ρ 6) 0)) κ τ := S_3
  refine R_iconst (pc := 12) (v := 0) dX9_feedBackOne_12 (by decide) ?_
  refine R_istore (pc := 13) (lv' := [(4, .int 0), (0, .ref 30), (1, .ref t), (2, .int op), (3, .ref m)]) dX9_feedBackOne_13 (by decide) rfl ?_
  refine R_sub [0, 1, 2, 3, 4] rfl ?_
  refine qX9_feedBackOne_loop S hn ht hm htm op hk hr ?_ (ρ t).length 0 (by omega) h_1 (ub β 31 (rd (ρ 6) 0)) (by have e_ : ρ m ++ (stN (foS (eK (κ 16)) op (ρ t)) (rd (ρ 6) 0) 0).2 = ρ m := List.append_nil _; rw [e_, ur_id]; exact S_4) rfl (fun a_ n_ => ?_) F_5
  · intro h2 β2 S2 hv31 hB hF
    exact R_vreturn (pc := 97) dX9_feedBackOne_97 rfl (by decide) (by decide) ⟨rfl, β2, hB, rfl, S2, hF⟩
  · simp only [List.mem_cons, List.not_mem_nil, or_false, not_or] at n_; (try simp only [ub, if_neg, n_, if_false])
