theorem sl_all (L : List (BitVec 8)) : sl L 0 L.length = L := by
  apply List.ext_getElem
  · rw [sl_len]
  · intro i h1 h2
    simp [sl, og, h2]
theorem og_app1 {L M : List (BitVec 8)} {j : Nat} (h : j < L.length) : og (L ++ M) j = og L j := by
  unfold og
  rw [List.getD_eq_getElem?_getD, List.getD_eq_getElem?_getD, List.getElem?_append_left h]
/-- PADDED's text -/
def pdP (L : List (BitVec 8)) : List (BitVec 8) := L ++ List.replicate (16 - L.length % 16) (t8 (nI (16 - L.length % 16)))
theorem pdP_len (L : List (BitVec 8)) : (pdP L).length = L.length + (16 - L.length % 16) := by simp [pdP]
def chE (F : bP → bP) (iv : bP) (L : List (BitVec 8)) : List (BitVec 8) := (stN (chS F L) iv (nbk L)).2
def chD (G : bP → bP) (iv : bP) (L : List (BitVec 8)) : List (BitVec 8) := (stN (ucS G L) iv (nbk L)).2
theorem chE_len (F : bP → bP) (iv : bP) (L : List (BitVec 8)) : (chE F iv L).length = 16 * nbk L := stN_len (fun _ _ => chS_len _ _ _ _) _
theorem chD_len (G : bP → bP) (iv : bP) (L : List (BitVec 8)) : (chD G iv L).length = 16 * nbk L := stN_len (fun _ _ => ucS_len _ _ _ _) _
set_option maxHeartbeats 4000000 in
set_option maxRecDepth 100000 in
theorem qX1_lockPadded_loop {l : Launch} {w : am_W} {h : am_H} {n : Nat} {ρ : Nat → List (BitVec 8)} {β : Nat → bP} {κ : Nat → kT} {τ : Nat × Nat × Nat} (S : Sys h ρ β κ τ) (hn : 60 ≤ n) {t m : Nat} (ht : isRw t = true) (hm : isRw m = true) (htm : t ≠ m) (ht24 : t ≠ 24) (hm24 : (24 : Nat) ≠ m) (hm6 : (6 : Nat) ≠ m) (hk : kOk (κ 16)) (hlen : (ρ t).length ≤ 512) (hr : (ρ m).length + (ρ t).length + 16 ≤ rwN m) : ∀ (d i : Nat), i + d = (16 - (ρ t).length % 16) → ∀ h2, Sys h2 (ur ρ 24 (ρ t ++ List.replicate i (t8 (nI (16 - (ρ t).length % 16))))) β κ τ → Fr h h2 → RW l w mX1_lockPadded h2 n 0 0 27 [(4, .int (nI i)), (3, .int (nI (16 - (ρ t).length % 16))), (0, .ref 26), (1, .ref t), (2, .ref m)] [] (fun h' n' r_ => n' = n ∧ (SX h τ none (ur (ur ρ 24 (pdP (ρ t))) m (ρ m ++ chE (eK (κ 16)) (rd (ρ 6) 0) (pdP (ρ t)))) β κ [27, 28]) h' r_) := by
  have hlt := S.len t ht
  have hlm := S.len m hm
  have htc := rw_cases ht
  have hmc := rw_cases hm
  intro d
  induction d with
  | zero =>
    intro i hd h2 S2 hF
    refine R_iload (pc := 27) 0 dX1_lockPadded_27 rfl ?_
    refine R_iload_n (pc := 29) 1 dX1_lockPadded_29 rfl rfl ?_
    refine R_icmp_ge (pc := 30) (tgt := 47) dX1_lockPadded_30 (by decide) (fun c_1 => ?_) (fun c_1 => absurd (nI_le (by omega) (by omega)) c_1)
    obtain rfl : i = (16 - (ρ t).length % 16) := by omega
    change Sys h2 (ur ρ 24 (pdP (ρ t))) β κ τ at S2
    refine R_aload_n (pc := 47) 2 dX1_lockPadded_47 rfl rfl ?_
    refine R_aload_n (pc := 48) 2 dX1_lockPadded_48 rfl rfl ?_
    refine R_get (pc := 49) dX1_lockPadded_49 fX1_17 S2.2.2.2.1 (by omega) rfl ?_
    refine R_aload_n (pc := 52) 4 dX1_lockPadded_52 rfl rfl ?_
    refine R_callVh (pc := 53) (μ' := mX1_lockChain) (As := [.ref 24, .ref m]) (st := []) dX1_lockPadded_53 zX1_lockChain lX1_70 ⟨by decide, by decide⟩ rfl rfl ⟨by decide, by decide⟩ S2.2.2.2.1 (by omega) rfl (Nat.le_of_ble_eq_true rfl) (qX1_lockChain S2 hn rfl hm hm24 hk (by have q_ := pdP_len (ρ t); have q2_ := nbk_b (pdP (ρ t)); simp only [ur_s, ur_n (Ne.symm hm24)]; omega)) (fun h_2 r_ q_3 => ?_)
    obtain ⟨β_7, B_8, rfl, S_4, F_6⟩ := q_3
    have S_5 : Sys h_2 (ur (ur ρ 24 (pdP (ρ t))) m ((ρ m) ++ chE (eK (κ 16)) (rd (ρ 6) 0) (pdP (ρ t)))) β_7 κ τ := by have z_ := S_4; (try simp only [ub, Nat.reduceEqDiff, ↓reduceIte, ur_s, ur_ur, ur_n (x := t) (r := 24) ht24, ur_n (x := t) (r := m) htm, ur_n (x := m) (r := 24) (Ne.symm hm24), ur_n (x := 2) (r := 24) (by decide), ur_n (x := 4) (r := 24) (by decide), ur_n (x := 6) (r := 24) (by decide), ur_n (x := 6) (r := m) hm6, ur_n (x := 8) (r := 24) (by decide), ur_n (x := 24) (r := m) hm24] at z_); exact z_
    have hBB : ∀ a, a ∉ [27, 28] → β_7 a = β a := by
      intro a_ n_
      simp only [List.mem_cons, List.not_mem_nil, or_false, not_or] at n_
      (try simp only [ub, if_neg, n_, if_false])
      rw [B_8 a_ (by simp [n_])]
      (try simp only [ub, if_neg, n_, if_false])
    exact R_vreturn (pc := 56) dX1_lockPadded_56 rfl (by decide) (by decide) ⟨rfl, _, hBB, rfl, S_5, hF.tr F_6⟩
  | succ d ih =>
    intro i hd h2 S2 hF
    refine R_iload (pc := 27) 0 dX1_lockPadded_27 rfl ?_
    refine R_iload_n (pc := 29) 1 dX1_lockPadded_29 rfl rfl ?_
    refine R_icmp_ge (pc := 30) (tgt := 47) dX1_lockPadded_30 (by decide) (fun c_1 => absurd c_1 (nI_ge (by omega) (by omega))) (fun c_1 => ?_)
    refine R_aload_n (pc := 33) 2 dX1_lockPadded_33 rfl rfl ?_
    refine R_get (pc := 34) dX1_lockPadded_34 fX1_17 S2.2.2.2.1 (by omega) rfl ?_
    refine R_iload_n (pc := 37) 1 dX1_lockPadded_37 rfl rfl ?_
    refine R_callVh (pc := 38) (μ' := mX6_append) (As := [.int (nI (16 - (ρ t).length % 16))]) (st := []) dX1_lockPadded_38 zX6_append lX1_66 ⟨by decide, by decide⟩ rfl rfl ⟨by decide, by decide⟩ (S2.rowO 24 rfl) (by omega) rfl (Nat.le_of_ble_eq_true rfl) (S_append S2 hn rfl _ (by simp only [ur_s, List.length_append, List.length_replicate]; show _ < 800; omega)) (fun h_2 r_ q_3 => ?_)
    obtain ⟨rfl, S_4, F_6⟩ := q_3
    have S_5 : Sys h_2 (ur ρ 24 ((ρ t ++ List.replicate i (t8 (nI (16 - (ρ t).length % 16)))) ++ [t8 (nI (16 - (ρ t).length % 16))])) β κ τ := by have z_ := S_4; (try simp only [ur_s, ur_ur, ur_n (x := t) (r := 24) ht24, ur_n (x := m) (r := 24) (Ne.symm hm24), ur_n (x := 2) (r := 24) (by decide), ur_n (x := 4) (r := 24) (by decide), ur_n (x := 6) (r := 24) (by decide), ur_n (x := 8) (r := 24) (by decide)] at z_); exact z_
    refine R_iinc (pc := 41) (j := 0) (v := nI (i + 1)) (lv' := [(4, .int (nI (i + 1))), (3, .int (nI (16 - (ρ t).length % 16))), (0, .ref 26), (1, .ref t), (2, .ref m)]) dX1_lockPadded_41 rfl (nI_1 i) (by decide) rfl ?_
    refine R_goto (pc := 44) (tgt := 27) dX1_lockPadded_44 (by decide) ?_
    refine R_sub [0, 1, 2, 3, 4] rfl ?_
    exact ih (i + 1) (by omega) h_2 (by have z_ := S_5; rw [List.append_assoc, ← List.replicate_succ'] at z_; exact z_) (hF.tr F_6)
set_option maxHeartbeats 4000000 in
set_option maxRecDepth 100000 in
theorem qX1_lockPadded {l : Launch} {w : am_W} {h : am_H} {n : Nat} {ρ : Nat → List (BitVec 8)} {β : Nat → bP} {κ : Nat → kT} {τ : Nat × Nat × Nat} (S : Sys h ρ β κ τ) (hn : 60 ≤ n) {t m : Nat} (ht : isRw t = true) (hm : isRw m = true) (htm : t ≠ m) (ht24 : t ≠ 24) (hm24 : (24 : Nat) ≠ m) (hm6 : (6 : Nat) ≠ m) (hk : kOk (κ 16)) (hlen : (ρ t).length ≤ 512) (hr : (ρ m).length + (ρ t).length + 16 ≤ rwN m) : RH l w mX1_lockPadded h n [.ref 26, .ref t, .ref m] (SX h τ none (ur (ur ρ 24 (pdP (ρ t))) m (ρ m ++ chE (eK (κ 16)) (rd (ρ 6) 0) (pdP (ρ t)))) β κ [27, 28]) := by
  refine RC.of [(0, .ref 26), (1, .ref t), (2, .ref m)] (by decide +kernel) rfl (Nat.le_of_ble_eq_true rfl) ?_
  have hlt := S.len t ht
  have htc := rw_cases ht
  have hmc := rw_cases hm
  refine R_bipush (pc := 0) (v := 16) dX1_lockPadded_0 (by decide) ?_
  refine R_aload_n (pc := 2) 1 dX1_lockPadded_2 rfl rfl ?_
  have := rw_cases (r := t) ht
  refine R_get (pc := 3) dX1_lockPadded_3 fX1_33 (S.rowO t ht) (by omega) rfl ?_
  refine R_eqi (y := nI (ρ t).length) (by first | rfl | (simp only [ur_s, ur_ur])) ?_
  refine R_bipush (pc := 6) (v := 15) dX1_lockPadded_6 (by decide) ?_
  refine R_iand (pc := 8) dX1_lockPadded_8 ?_
  refine R_eqi (y := nI ((ρ t).length % 16)) (pk_andN (by omega) 4 (by decide)) ?_
  refine R_isub (pc := 9) dX1_lockPadded_9 ?_
  refine R_eqi (y := nI (16 - (ρ t).length % 16)) (pk_sub (a := 16) (by omega)) ?_
  refine R_istore_n (pc := 10) (lv' := [(3, .int (nI (16 - (ρ t).length % 16))), (0, .ref 26), (1, .ref t), (2, .ref m)]) dX1_lockPadded_10 rfl (by decide) rfl ?_
  refine R_aload_n (pc := 11) 1 dX1_lockPadded_11 rfl rfl ?_
  refine R_get (pc := 12) dX1_lockPadded_12 fX1_17 S.2.2.2.1 (by omega) rfl ?_
  refine R_aload_n (pc := 15) 2 dX1_lockPadded_15 rfl rfl ?_
  refine R_iconst (pc := 16) (v := 0) dX1_lockPadded_16 (by decide) ?_
  refine R_aload_n (pc := 17) 2 dX1_lockPadded_17 rfl rfl ?_
  have := rw_cases (r := t) ht
  refine R_get (pc := 18) dX1_lockPadded_18 fX1_33 (S.rowO t ht) (by omega) rfl ?_
  refine R_eqi (y := nI (ρ t).length) (by first | rfl | (simp only [ur_s, ur_ur])) ?_
  refine R_eqi (y := nI (0 + (ρ t).length)) (by rw [Nat.zero_add]) ?_
  refine R_callVh (pc := 21) (μ' := mX6_copyPart) (As := [.ref t, .int (nI 0), .int (nI (0 + (ρ t).length))]) (st := []) dX1_lockPadded_21 zX6_copyPart lX1_62 ⟨by decide, by decide⟩ rfl rfl ⟨by decide, by decide⟩ (S.rowO 24 rfl) (by omega) rfl (Nat.le_of_ble_eq_true rfl) (S_copyPart S hn rfl ht ht24 0 ((ρ t).length) (show _ ≤ 800 by omega) (by omega)) (fun h_1 r_ q_2 => ?_)
  obtain ⟨rfl, S_3, F_5⟩ := q_2
  have S_4 : Sys h_1 (ur ρ 24 (sl (ρ t) 0 ((ρ t).length))) β κ τ := by have z_ := S_3; (try simp only [ur_s, ur_ur, ur_n (x := t) (r := 24) ht24, ur_n (x := m) (r := 24) (Ne.symm hm24), ur_n (x := 2) (r := 24) (by decide), ur_n (x := 4) (r := 24) (by decide), ur_n (x := 6) (r := 24) (by decide), ur_n (x := 8) (r := 24) (by decide)] at z_); exact z_
  refine R_iconst (pc := 24) (v := 0) dX1_lockPadded_24 (by decide) ?_
  refine R_istore (pc := 25) (lv' := [(4, .int 0), (3, .int (nI (16 - (ρ t).length % 16))), (0, .ref 26), (1, .ref t), (2, .ref m)]) dX1_lockPadded_25 (by decide) rfl ?_
  refine R_sub [0, 1, 2, 3, 4] rfl ?_
  exact qX1_lockPadded_loop S hn ht hm htm ht24 hm24 hm6 hk hlen hr (16 - (ρ t).length % 16) 0 (by omega) h_1 (by have z_ := S_4; rw [sl_all] at z_; simpa using z_) F_5
/-- STOLEN: the last two blocks change places, as many octets are kept as the text has -/
def stE (C : List (BitVec 8)) (len : Nat) : List (BitVec 8) := (C.take (C.length - 32) ++ bt (rd C (C.length - 16)) 16 ++ bt (rd C (C.length - 32)) 16).take len
set_option maxHeartbeats 4000000 in
set_option maxRecDepth 100000 in
theorem qX1_lockStolen {l : Launch} {w : am_W} {h : am_H} {n : Nat} {ρ : Nat → List (BitVec 8)} {β : Nat → bP} {κ : Nat → kT} {τ : Nat × Nat × Nat} (S : Sys h ρ β κ τ) (hn : 60 ≤ n) {t m : Nat} (ht : isRw t = true) (hm : isRw m = true) (htm : t ≠ m) (hm24 : (24 : Nat) ≠ m) (hm6 : (6 : Nat) ≠ m) (hk : kOk (κ 16)) (hlen : 17 ≤ (ρ t).length) (hm0 : ρ m = []) (hr : (ρ t).length + 15 ≤ rwN m) : RH l w mX1_lockStolen h n [.ref 26, .ref t, .ref m] (SX h τ none (ur ρ m (stE (chE (eK (κ 16)) (rd (ρ 6) 0) (ρ t)) (ρ t).length)) β κ [27, 28, 29]) := by
  refine RC.of [(0, .ref 26), (1, .ref t), (2, .ref m)] (by decide +kernel) rfl (Nat.le_of_ble_eq_true rfl) ?_
  have hlt := S.len t ht
  have htc := rw_cases ht
  have hmc := rw_cases hm
  have hnb := nbk_b (ρ t)
  have hCl := chE_len (eK (κ 16)) (rd (ρ 6) 0) (ρ t)
  refine R_aload_n (pc := 0) 0 dX1_lockStolen_0 rfl rfl ?_
  refine R_aload_n (pc := 1) 1 dX1_lockStolen_1 rfl rfl ?_
  refine R_aload_n (pc := 2) 2 dX1_lockStolen_2 rfl rfl ?_
  refine R_callVh (pc := 3) (μ' := mX1_lockChain) (As := [.ref t, .ref m]) (st := []) dX1_lockStolen_3 zX1_lockChain lX1_70 ⟨by decide, by decide⟩ rfl rfl ⟨by decide, by decide⟩ S.2.2.2.1 (by omega) rfl (Nat.le_of_ble_eq_true rfl) (qX1_lockChain S hn ht hm htm hk (by rw [hm0]; simp only [List.length_nil]; omega)) (fun h_1 r_ q_2 => ?_)
  obtain ⟨β_6, B_7, rfl, S_3, F_5⟩ := q_2
  have S_4 : Sys h_1 (ur ρ m ((ρ m) ++ chE (eK (κ 16)) (rd (ρ 6) 0) (ρ t))) β_6 κ τ := by have z_ := S_3; (try simp only [ub, Nat.reduceEqDiff, ↓reduceIte, ur_s, ur_ur, ur_n (x := t) (r := m) htm, ur_n (x := 6) (r := m) hm6, ur_n (x := 24) (r := m) hm24] at z_); exact z_
  rw [hm0, List.nil_append] at S_4
  refine R_aload_n (pc := 6) 2 dX1_lockStolen_6 rfl rfl ?_
  have := rw_cases (r := m) hm
  refine R_get (pc := 7) dX1_lockStolen_7 fX1_33 (S_4.rowO m hm) (by omega) rfl ?_
  refine R_eqi (y := nI (chE (eK (κ 16)) (rd (ρ 6) 0) (ρ t)).length) (by first | rfl | (simp only [ur_s, ur_ur, ur_n (x := t) (r := m) htm, ur_n (x := 6) (r := m) hm6, ur_n (x := 24) (r := m) hm24])) ?_
  refine R_bipush (pc := 10) (v := 16) dX1_lockStolen_10 (by decide) ?_
  refine R_isub (pc := 12) dX1_lockStolen_12 ?_
  refine R_eqi (y := nI ((chE (eK (κ 16)) (rd (ρ 6) 0) (ρ t)).length - 16)) (pk_sub (b := 16) (by omega)) ?_
  refine R_istore_n (pc := 13) (lv' := [(3, .int (nI ((chE (eK (κ 16)) (rd (ρ 6) 0) (ρ t)).length - 16))), (0, .ref 26), (1, .ref t), (2, .ref m)]) dX1_lockStolen_13 rfl (by decide) rfl ?_
  refine R_aload_n (pc := 14) 1 dX1_lockStolen_14 rfl rfl ?_
  refine R_get (pc := 15) dX1_lockStolen_15 fX1_23 S_4.2.2.2.1 (by omega) rfl ?_
  refine R_aload_n (pc := 18) 3 dX1_lockStolen_18 rfl rfl ?_
  refine R_iload_n (pc := 19) 0 dX1_lockStolen_19 rfl rfl ?_
  refine R_callVh (pc := 20) (μ' := mX0_read) (As := [.ref m, .int (nI ((chE (eK (κ 16)) (rd (ρ 6) 0) (ρ t)).length - 16))]) (st := []) dX1_lockStolen_20 zX0_read lX1_39 ⟨by decide, by decide⟩ rfl rfl ⟨by decide, by decide⟩ (S_4.blk 27 rfl) (by omega) rfl (Nat.le_of_ble_eq_true rfl) (S_read S_4 hn rfl hm ((chE (eK (κ 16)) (rd (ρ 6) 0) (ρ t)).length - 16) (by omega)) (fun h_8 r_ q_9 => ?_)
  obtain ⟨rfl, S_10, F_12⟩ := q_9
  have S_11 : Sys h_8 (ur ρ m (chE (eK (κ 16)) (rd (ρ 6) 0) (ρ t))) (ub β_6 27 (rd (chE (eK (κ 16)) (rd (ρ 6) 0) (ρ t)) ((chE (eK (κ 16)) (rd (ρ 6) 0) (ρ t)).length - 16))) κ τ := by have z_ := S_10; (try simp only [ur_s, ur_ur, ur_n (x := t) (r := m) htm, ur_n (x := 6) (r := m) hm6, ur_n (x := 24) (r := m) hm24] at z_); exact z_
  refine R_aload_n (pc := 23) 1 dX1_lockStolen_23 rfl rfl ?_
  refine R_get (pc := 24) dX1_lockStolen_24 fX1_30 S_11.2.2.2.1 (by omega) rfl ?_
  refine R_aload_n (pc := 27) 3 dX1_lockStolen_27 rfl rfl ?_
  refine R_iload_n (pc := 28) 0 dX1_lockStolen_28 rfl rfl ?_
  refine R_bipush (pc := 29) (v := 16) dX1_lockStolen_29 (by decide) ?_
  refine R_isub (pc := 31) dX1_lockStolen_31 ?_
  refine R_eqi (y := nI ((chE (eK (κ 16)) (rd (ρ 6) 0) (ρ t)).length - 32)) (by rw [show (chE (eK (κ 16)) (rd (ρ 6) 0) (ρ t)).length - 32 = (chE (eK (κ 16)) (rd (ρ 6) 0) (ρ t)).length - 16 - 16 by omega]; exact pk_sub (b := 16) (by omega)) ?_
  refine R_callVh (pc := 32) (μ' := mX0_read) (As := [.ref m, .int (nI ((chE (eK (κ 16)) (rd (ρ 6) 0) (ρ t)).length - 32))]) (st := []) dX1_lockStolen_32 zX0_read lX1_39 ⟨by decide, by decide⟩ rfl rfl ⟨by decide, by decide⟩ (S_11.blk 29 rfl) (by omega) rfl (Nat.le_of_ble_eq_true rfl) (S_read S_11 hn rfl hm ((chE (eK (κ 16)) (rd (ρ 6) 0) (ρ t)).length - 32) (by omega)) (fun h_13 r_ q_14 => ?_)
  obtain ⟨rfl, S_15, F_17⟩ := q_14
  have S_16 : Sys h_13 (ur ρ m (chE (eK (κ 16)) (rd (ρ 6) 0) (ρ t))) (ub (ub β_6 27 (rd (chE (eK (κ 16)) (rd (ρ 6) 0) (ρ t)) ((chE (eK (κ 16)) (rd (ρ 6) 0) (ρ t)).length - 16))) 29 (rd (chE (eK (κ 16)) (rd (ρ 6) 0) (ρ t)) ((chE (eK (κ 16)) (rd (ρ 6) 0) (ρ t)).length - 32))) κ τ := by have z_ := S_15; (try simp only [ur_s, ur_ur, ur_n (x := t) (r := m) htm, ur_n (x := 6) (r := m) hm6, ur_n (x := 24) (r := m) hm24] at z_); exact z_
  refine R_aload_n (pc := 35) 3 dX1_lockStolen_35 rfl rfl ?_
  refine R_iload_n (pc := 36) 0 dX1_lockStolen_36 rfl rfl ?_
  refine R_bipush (pc := 37) (v := 16) dX1_lockStolen_37 (by decide) ?_
  refine R_isub (pc := 39) dX1_lockStolen_39 ?_
  refine R_eqi (y := nI ((chE (eK (κ 16)) (rd (ρ 6) 0) (ρ t)).length - 32)) (by rw [show (chE (eK (κ 16)) (rd (ρ 6) 0) (ρ t)).length - 32 = (chE (eK (κ 16)) (rd (ρ 6) 0) (ρ t)).length - 16 - 16 by omega]; exact pk_sub (b := 16) (by omega)) ?_
  refine R_callVh (pc := 40) (μ' := mX6_keep) (As := [.int (nI ((chE (eK (κ 16)) (rd (ρ 6) 0) (ρ t)).length - 32))]) (st := []) dX1_lockStolen_40 zX6_keep lX1_81 ⟨by decide, by decide⟩ rfl rfl ⟨by decide, by decide⟩ (S_16.rowO m hm) (by omega) rfl (Nat.le_of_ble_eq_true rfl) (S_keep S_16 hn hm ((chE (eK (κ 16)) (rd (ρ 6) 0) (ρ t)).length - 32) (by omega)) (fun h_18 r_ q_19 => ?_)
  obtain ⟨rfl, S_20, F_22⟩ := q_19
  have S_21 : Sys h_18 (ur ρ m ((chE (eK (κ 16)) (rd (ρ 6) 0) (ρ t)).take ((chE (eK (κ 16)) (rd (ρ 6) 0) (ρ t)).length - 32))) (ub (ub β_6 27 (rd (chE (eK (κ 16)) (rd (ρ 6) 0) (ρ t)) ((chE (eK (κ 16)) (rd (ρ 6) 0) (ρ t)).length - 16))) 29 (rd (chE (eK (κ 16)) (rd (ρ 6) 0) (ρ t)) ((chE (eK (κ 16)) (rd (ρ 6) 0) (ρ t)).length - 32))) κ τ := by have z_ := S_20; (try simp only [ur_s, ur_ur, ur_n (x := t) (r := m) htm, ur_n (x := 6) (r := m) hm6, ur_n (x := 24) (r := m) hm24] at z_); exact z_
  refine R_aload_n (pc := 43) 3 dX1_lockStolen_43 rfl rfl ?_
  refine R_aload_n (pc := 44) 1 dX1_lockStolen_44 rfl rfl ?_
  refine R_get (pc := 45) dX1_lockStolen_45 fX1_23 S_21.2.2.2.1 (by omega) rfl ?_
  refine R_bipush (pc := 48) (v := 16) dX1_lockStolen_48 (by decide) ?_
  refine R_callVh (pc := 50) (μ' := mX6_appendBlock) (As := [.ref 27, .int (nI 16)]) (st := []) dX1_lockStolen_50 zX6_appendBlock lX1_49 ⟨by decide, by decide⟩ rfl rfl ⟨by decide, by decide⟩ (S_21.rowO m hm) (by omega) rfl (Nat.le_of_ble_eq_true rfl) (S_appendBlock S_21 hn hm rfl 16 (by simp only [ur_s, List.length_take]; omega)) (fun h_23 r_ q_24 => ?_)
  obtain ⟨rfl, S_25, F_27⟩ := q_24
  have S_26 : Sys h_23 (ur ρ m (((chE (eK (κ 16)) (rd (ρ 6) 0) (ρ t)).take ((chE (eK (κ 16)) (rd (ρ 6) 0) (ρ t)).length - 32)) ++ bt (rd (chE (eK (κ 16)) (rd (ρ 6) 0) (ρ t)) ((chE (eK (κ 16)) (rd (ρ 6) 0) (ρ t)).length - 16)) 16)) (ub (ub β_6 27 (rd (chE (eK (κ 16)) (rd (ρ 6) 0) (ρ t)) ((chE (eK (κ 16)) (rd (ρ 6) 0) (ρ t)).length - 16))) 29 (rd (chE (eK (κ 16)) (rd (ρ 6) 0) (ρ t)) ((chE (eK (κ 16)) (rd (ρ 6) 0) (ρ t)).length - 32))) κ τ := by have z_ := S_25; (try simp only [ur_s, ur_ur, ur_n (x := t) (r := m) htm, ur_n (x := 6) (r := m) hm6, ur_n (x := 24) (r := m) hm24] at z_); exact z_
  refine R_aload_n (pc := 53) 3 dX1_lockStolen_53 rfl rfl ?_
  refine R_aload_n (pc := 54) 1 dX1_lockStolen_54 rfl rfl ?_
  refine R_get (pc := 55) dX1_lockStolen_55 fX1_30 S_26.2.2.2.1 (by omega) rfl ?_
  refine R_bipush (pc := 58) (v := 16) dX1_lockStolen_58 (by decide) ?_
  refine R_callVh (pc := 60) (μ' := mX6_appendBlock) (As := [.ref 29, .int (nI 16)]) (st := []) dX1_lockStolen_60 zX6_appendBlock lX1_49 ⟨by decide, by decide⟩ rfl rfl ⟨by decide, by decide⟩ (S_26.rowO m hm) (by omega) rfl (Nat.le_of_ble_eq_true rfl) (S_appendBlock S_26 hn hm rfl 16 (by simp only [ur_s, List.length_append, List.length_take, bt_len]; omega)) (fun h_28 r_ q_29 => ?_)
  obtain ⟨rfl, S_30, F_32⟩ := q_29
  have S_31 : Sys h_28 (ur ρ m ((((chE (eK (κ 16)) (rd (ρ 6) 0) (ρ t)).take ((chE (eK (κ 16)) (rd (ρ 6) 0) (ρ t)).length - 32)) ++ bt (rd (chE (eK (κ 16)) (rd (ρ 6) 0) (ρ t)) ((chE (eK (κ 16)) (rd (ρ 6) 0) (ρ t)).length - 16)) 16) ++ bt (rd (chE (eK (κ 16)) (rd (ρ 6) 0) (ρ t)) ((chE (eK (κ 16)) (rd (ρ 6) 0) (ρ t)).length - 32)) 16)) (ub (ub β_6 27 (rd (chE (eK (κ 16)) (rd (ρ 6) 0) (ρ t)) ((chE (eK (κ 16)) (rd (ρ 6) 0) (ρ t)).length - 16))) 29 (rd (chE (eK (κ 16)) (rd (ρ 6) 0) (ρ t)) ((chE (eK (κ 16)) (rd (ρ 6) 0) (ρ t)).length - 32))) κ τ := by have z_ := S_30; (try simp only [ur_s, ur_ur, ur_n (x := t) (r := m) htm, ur_n (x := 6) (r := m) hm6, ur_n (x := 24) (r := m) hm24] at z_); exact z_
  refine R_aload_n (pc := 63) 3 dX1_lockStolen_63 rfl rfl ?_
  refine R_aload_n (pc := 64) 2 dX1_lockStolen_64 rfl rfl ?_
  have := rw_cases (r := t) ht
  refine R_get (pc := 65) dX1_lockStolen_65 fX1_33 (S_31.rowO t ht) (by omega) rfl ?_
  refine R_eqi (y := nI (ρ t).length) (by first | rfl | (simp only [ur_s, ur_ur, ur_n (x := t) (r := m) htm, ur_n (x := 6) (r := m) hm6, ur_n (x := 24) (r := m) hm24])) ?_
  refine R_callVh (pc := 68) (μ' := mX6_keep) (As := [.int (nI (ρ t).length)]) (st := []) dX1_lockStolen_68 zX6_keep lX1_81 ⟨by decide, by decide⟩ rfl rfl ⟨by decide, by decide⟩ (S_31.rowO m hm) (by omega) rfl (Nat.le_of_ble_eq_true rfl) (S_keep S_31 hn hm ((ρ t).length) (by omega)) (fun h_33 r_ q_34 => ?_)
  obtain ⟨rfl, S_35, F_37⟩ := q_34
  have S_36 : Sys h_33 (ur ρ m (((((chE (eK (κ 16)) (rd (ρ 6) 0) (ρ t)).take ((chE (eK (κ 16)) (rd (ρ 6) 0) (ρ t)).length - 32)) ++ bt (rd (chE (eK (κ 16)) (rd (ρ 6) 0) (ρ t)) ((chE (eK (κ 16)) (rd (ρ 6) 0) (ρ t)).length - 16)) 16) ++ bt (rd (chE (eK (κ 16)) (rd (ρ 6) 0) (ρ t)) ((chE (eK (κ 16)) (rd (ρ 6) 0) (ρ t)).length - 32)) 16).take ((ρ t).length))) (ub (ub β_6 27 (rd (chE (eK (κ 16)) (rd (ρ 6) 0) (ρ t)) ((chE (eK (κ 16)) (rd (ρ 6) 0) (ρ t)).length - 16))) 29 (rd (chE (eK (κ 16)) (rd (ρ 6) 0) (ρ t)) ((chE (eK (κ 16)) (rd (ρ 6) 0) (ρ t)).length - 32))) κ τ := by have z_ := S_35; (try simp only [ur_s, ur_ur, ur_n (x := t) (r := m) htm, ur_n (x := 6) (r := m) hm6, ur_n (x := 24) (r := m) hm24] at z_); exact z_
  have hBB : ∀ a, a ∉ [27, 28, 29] → (ub (ub β_6 27 (rd (chE (eK (κ 16)) (rd (ρ 6) 0) (ρ t)) ((chE (eK (κ 16)) (rd (ρ 6) 0) (ρ t)).length - 16))) 29 (rd (chE (eK (κ 16)) (rd (ρ 6) 0) (ρ t)) ((chE (eK (κ 16)) (rd (ρ 6) 0) (ρ t)).length - 32))) a = β a := by
    intro a_ n_
    simp only [List.mem_cons, List.not_mem_nil, or_false, not_or] at n_
    (try simp only [ub, if_neg, n_, if_false])
    rw [B_7 a_ (by simp [n_])]
    (try simp only [ub, if_neg, n_, if_false])
  exact R_vreturn (pc := 71) dX1_lockStolen_71 rfl (by decide) (by decide) ⟨rfl, _, hBB, rfl, S_36, ((((((F_5.tr F_12).tr F_17).tr F_22).tr F_27).tr F_32).tr F_37)⟩
/-- STOLEN, the way back: the text with its last two blocks set right -/
def stT (G : bP → bP) (L : List (BitVec 8)) : List (BitVec 8) :=
  let la := (L.length - 1) / 16 * 16
  sl L 0 (la - 16) ++ bt (xb (rd L la) (df (G (rd L (la - 16))) (nI (L.length - la)))) 16 ++ bt (rd L (la - 16)) 16
theorem stT_len (G : bP → bP) {L : List (BitVec 8)} (h : 17 ≤ L.length) : (stT G L).length = (L.length - 1) / 16 * 16 + 16 := by
  unfold stT
  simp only [List.length_append, sl_len, bt_len]
  omega
theorem and_m16 {n : Nat} (h : n < 2 ^ 31) : nI n &&& (-16) = nI (n / 16 * 16) := by
  apply Int32.toBitVec_inj.mp
  rw [Int32.toBitVec_and]
  apply BitVec.eq_of_toNat_eq
  rw [BitVec.toNat_and, pk_tn (by omega), pk_tn (by omega)]
  have e : (-16 : Int32).toBitVec.toNat = 4294967280 := by decide
  rw [e]
  apply Nat.eq_of_testBit_eq
  intro i
  have e2 : n / 16 * 16 = (n >>> 4) <<< 4 := by rw [Nat.shiftLeft_eq, Nat.shiftRight_eq_div_pow]
  have e3 : (4294967280 : Nat) = (268435455 : Nat) <<< 4 := by decide
  rw [e2, e3, Nat.testBit_and, Nat.testBit_shiftLeft, Nat.testBit_shiftLeft, Nat.testBit_shiftRight]
  have e4 : (268435455 : Nat) = 2 ^ 28 - 1 := by decide
  rw [e4, Nat.testBit_two_pow_sub_one]
  by_cases h4 : 4 ≤ i
  · rw [show 4 + (i - 4) = i by omega]
    by_cases h5 : i < 32
    · simp [h4, show i - 4 < 28 by omega]
    · have : n.testBit i = false := Nat.testBit_lt_two_pow (Nat.lt_of_lt_of_le h (Nat.pow_le_pow_right (by omega) (by omega)))
      simp [this]
  · simp [h4]
set_option maxHeartbeats 4000000 in
set_option maxRecDepth 100000 in
theorem qX1_unlockStolen {l : Launch} {w : am_W} {h : am_H} {n : Nat} {ρ : Nat → List (BitVec 8)} {β : Nat → bP} {κ : Nat → kT} {τ : Nat × Nat × Nat} (S : Sys h ρ β κ τ) (hn : 60 ≤ n) {t m : Nat} (ht : isRw t = true) (hm : isRw m = true) (htm : t ≠ m) (ht24 : t ≠ 24) (hm24 : (24 : Nat) ≠ m) (hm6 : (6 : Nat) ≠ m) (hk : kOk (κ 16)) (hlen : 17 ≤ (ρ t).length) (hlen2 : (ρ t).length ≤ 512) (hm0 : ρ m = []) (hr : (ρ t).length + 16 ≤ rwN m) : RH l w mX1_unlockStolen h n [.ref 26, .ref t, .ref m] (SX h τ none (ur (ur ρ 24 (stT (dK (κ 16)) (ρ t))) m ((chD (dK (κ 16)) (rd (ρ 6) 0) (stT (dK (κ 16)) (ρ t))).take (ρ t).length)) β κ [27, 28, 29]) := by
  refine RC.of [(0, .ref 26), (1, .ref t), (2, .ref m)] (by decide +kernel) rfl (Nat.le_of_ble_eq_true rfl) ?_
  have hlt := S.len t ht
  have htc := rw_cases ht
  have hmc := rw_cases hm
  have hTl := stT_len (dK (κ 16)) hlen
  have hnb := nbk_b (stT (dK (κ 16)) (ρ t))
  refine R_aload_n (pc := 0) 1 dX1_unlockStolen_0 rfl rfl ?_
  have := rw_cases (r := t) ht
  refine R_get (pc := 1) dX1_unlockStolen_1 fX1_33 (S.rowO t ht) (by omega) rfl ?_
  refine R_eqi (y := nI (ρ t).length) (by first | rfl | (simp only [ur_s, ur_ur])) ?_
  refine R_iconst (pc := 4) (v := 1) dX1_unlockStolen_4 (by decide) ?_
  refine R_isub (pc := 5) dX1_unlockStolen_5 ?_
  refine R_eqi (y := nI ((ρ t).length - 1)) (pk_sub (b := 1) (by omega)) ?_
  refine R_bipush (pc := 6) (v := (-16)) dX1_unlockStolen_6 (by decide) ?_
  refine R_iand (pc := 8) dX1_unlockStolen_8 ?_
  refine R_eqi (y := nI (((ρ t).length - 1) / 16 * 16)) (and_m16 (by omega)) ?_
  refine R_istore_n (pc := 9) (lv' := [(3, .int (nI (((ρ t).length - 1) / 16 * 16))), (0, .ref 26), (1, .ref t), (2, .ref m)]) dX1_unlockStolen_9 rfl (by decide) rfl ?_
  refine R_aload_n (pc := 10) 1 dX1_unlockStolen_10 rfl rfl ?_
  refine R_get (pc := 11) dX1_unlockStolen_11 fX1_23 S.2.2.2.1 (by omega) rfl ?_
  refine R_aload_n (pc := 14) 2 dX1_unlockStolen_14 rfl rfl ?_
  refine R_iload_n (pc := 15) 0 dX1_unlockStolen_15 rfl rfl ?_
  refine R_bipush (pc := 16) (v := 16) dX1_unlockStolen_16 (by decide) ?_
  refine R_isub (pc := 18) dX1_unlockStolen_18 ?_
  refine R_eqi (y := nI (((ρ t).length - 1) / 16 * 16 - 16)) (pk_sub (b := 16) (by omega)) ?_
  refine R_callVh (pc := 19) (μ' := mX0_read) (As := [.ref t, .int (nI (((ρ t).length - 1) / 16 * 16 - 16))]) (st := []) dX1_unlockStolen_19 zX0_read lX1_39 ⟨by decide, by decide⟩ rfl rfl ⟨by decide, by decide⟩ (S.blk 27 rfl) (by omega) rfl (Nat.le_of_ble_eq_true rfl) (S_read S hn rfl ht (((ρ t).length - 1) / 16 * 16 - 16) (by omega)) (fun h_1 r_ q_2 => ?_)
  obtain ⟨rfl, S_3, F_5⟩ := q_2
  have S_4 : Sys h_1 ρ (ub β 27 (rd (ρ t) (((ρ t).length - 1) / 16 * 16 - 16))) κ τ := S_3
  refine R_aload_n (pc := 22) 1 dX1_unlockStolen_22 rfl rfl ?_
  refine R_get (pc := 23) dX1_unlockStolen_23 fX1_7 S_4.2.2.2.1 (by omega) rfl ?_
  refine R_aload_n (pc := 26) 1 dX1_unlockStolen_26 rfl rfl ?_
  refine R_get (pc := 27) dX1_unlockStolen_27 fX1_23 S_4.2.2.2.1 (by omega) rfl ?_
  refine R_callVh (pc := 30) (μ' := mX2_decrypt) (As := [.ref 27]) (st := []) dX1_unlockStolen_30 zX2_decrypt lX1_53 ⟨by decide, by decide⟩ rfl rfl ⟨by decide, by decide⟩ (S_4.2.2.1 16 (by decide)).1 (by omega) rfl (Nat.le_of_ble_eq_true rfl) (S_decrypt S_4 hn (by decide) rfl hk.1 hk.2) (fun h_6 r_ q_7 => ?_)
  obtain ⟨rfl, S_8, F_10⟩ := q_7
  have S_9 : Sys h_6 ρ (ub (ub β 27 (rd (ρ t) (((ρ t).length - 1) / 16 * 16 - 16))) 27 (dK (κ 16) (rd (ρ t) (((ρ t).length - 1) / 16 * 16 - 16)))) κ τ := S_8
  refine R_aload_n (pc := 33) 1 dX1_unlockStolen_33 rfl rfl ?_
  refine R_get (pc := 34) dX1_unlockStolen_34 fX1_23 S_9.2.2.2.1 (by omega) rfl ?_
  refine R_aload_n (pc := 37) 2 dX1_unlockStolen_37 rfl rfl ?_
  have := rw_cases (r := t) ht
  refine R_get (pc := 38) dX1_unlockStolen_38 fX1_33 (S_9.rowO t ht) (by omega) rfl ?_
  refine R_eqi (y := nI (ρ t).length) (by first | rfl | (simp only [ur_s, ur_ur])) ?_
  refine R_iload_n (pc := 41) 0 dX1_unlockStolen_41 rfl rfl ?_
  refine R_isub (pc := 42) dX1_unlockStolen_42 ?_
  refine R_eqi (y := nI ((ρ t).length - ((ρ t).length - 1) / 16 * 16)) (pk_sub (by omega)) ?_
  refine R_callVh (pc := 43) (μ' := mX0_dropFirst) (As := [.int (nI ((ρ t).length - ((ρ t).length - 1) / 16 * 16))]) (st := []) dX1_unlockStolen_43 zX0_dropFirst lX1_84 ⟨by decide, by decide⟩ rfl rfl ⟨by decide, by decide⟩ (S_9.blk 27 rfl) (by omega) rfl (Nat.le_of_ble_eq_true rfl) (S_dropFirst S_9 hn rfl _) (fun h_11 r_ q_12 => ?_)
  obtain ⟨rfl, S_13, F_15⟩ := q_12
  have S_14 : Sys h_11 ρ (ub (ub (ub β 27 (rd (ρ t) (((ρ t).length - 1) / 16 * 16 - 16))) 27 (dK (κ 16) (rd (ρ t) (((ρ t).length - 1) / 16 * 16 - 16)))) 27 (df (dK (κ 16) (rd (ρ t) (((ρ t).length - 1) / 16 * 16 - 16))) (nI ((ρ t).length - ((ρ t).length - 1) / 16 * 16)))) κ τ := S_13
  refine R_aload_n (pc := 46) 1 dX1_unlockStolen_46 rfl rfl ?_
  refine R_get (pc := 47) dX1_unlockStolen_47 fX1_30 S_14.2.2.2.1 (by omega) rfl ?_
  refine R_aload_n (pc := 50) 2 dX1_unlockStolen_50 rfl rfl ?_
  refine R_iload_n (pc := 51) 0 dX1_unlockStolen_51 rfl rfl ?_
  refine R_callVh (pc := 52) (μ' := mX0_read) (As := [.ref t, .int (nI (((ρ t).length - 1) / 16 * 16))]) (st := []) dX1_unlockStolen_52 zX0_read lX1_39 ⟨by decide, by decide⟩ rfl rfl ⟨by decide, by decide⟩ (S_14.blk 29 rfl) (by omega) rfl (Nat.le_of_ble_eq_true rfl) (S_read S_14 hn rfl ht (((ρ t).length - 1) / 16 * 16) (by omega)) (fun h_16 r_ q_17 => ?_)
  obtain ⟨rfl, S_18, F_20⟩ := q_17
  have S_19 : Sys h_16 ρ (ub (ub (ub (ub β 27 (rd (ρ t) (((ρ t).length - 1) / 16 * 16 - 16))) 27 (dK (κ 16) (rd (ρ t) (((ρ t).length - 1) / 16 * 16 - 16)))) 27 (df (dK (κ 16) (rd (ρ t) (((ρ t).length - 1) / 16 * 16 - 16))) (nI ((ρ t).length - ((ρ t).length - 1) / 16 * 16)))) 29 (rd (ρ t) (((ρ t).length - 1) / 16 * 16))) κ τ := S_18
  refine R_aload_n (pc := 55) 1 dX1_unlockStolen_55 rfl rfl ?_
  refine R_get (pc := 56) dX1_unlockStolen_56 fX1_30 S_19.2.2.2.1 (by omega) rfl ?_
  refine R_aload_n (pc := 59) 1 dX1_unlockStolen_59 rfl rfl ?_
  refine R_get (pc := 60) dX1_unlockStolen_60 fX1_23 S_19.2.2.2.1 (by omega) rfl ?_
  refine R_callVh (pc := 63) (μ' := mX0_add) (As := [.ref 27]) (st := []) dX1_unlockStolen_63 zX0_add lX1_56 ⟨by decide, by decide⟩ rfl rfl ⟨by decide, by decide⟩ (S_19.blk 29 rfl) (by omega) rfl (Nat.le_of_ble_eq_true rfl) (S_add S_19 hn rfl rfl (by decide)) (fun h_21 r_ q_22 => ?_)
  obtain ⟨rfl, S_23, F_25⟩ := q_22
  have S_24 : Sys h_21 ρ (ub (ub (ub (ub (ub β 27 (rd (ρ t) (((ρ t).length - 1) / 16 * 16 - 16))) 27 (dK (κ 16) (rd (ρ t) (((ρ t).length - 1) / 16 * 16 - 16)))) 27 (df (dK (κ 16) (rd (ρ t) (((ρ t).length - 1) / 16 * 16 - 16))) (nI ((ρ t).length - ((ρ t).length - 1) / 16 * 16)))) 29 (rd (ρ t) (((ρ t).length - 1) / 16 * 16))) 29 (xb (rd (ρ t) (((ρ t).length - 1) / 16 * 16)) (df (dK (κ 16) (rd (ρ t) (((ρ t).length - 1) / 16 * 16 - 16))) (nI ((ρ t).length - ((ρ t).length - 1) / 16 * 16))))) κ τ := S_23
  refine R_aload_n (pc := 66) 1 dX1_unlockStolen_66 rfl rfl ?_
  refine R_get (pc := 67) dX1_unlockStolen_67 fX1_23 S_24.2.2.2.1 (by omega) rfl ?_
  refine R_aload_n (pc := 70) 2 dX1_unlockStolen_70 rfl rfl ?_
  refine R_iload_n (pc := 71) 0 dX1_unlockStolen_71 rfl rfl ?_
  refine R_bipush (pc := 72) (v := 16) dX1_unlockStolen_72 (by decide) ?_
  refine R_isub (pc := 74) dX1_unlockStolen_74 ?_
  refine R_eqi (y := nI (((ρ t).length - 1) / 16 * 16 - 16)) (pk_sub (b := 16) (by omega)) ?_
  refine R_callVh (pc := 75) (μ' := mX0_read) (As := [.ref t, .int (nI (((ρ t).length - 1) / 16 * 16 - 16))]) (st := []) dX1_unlockStolen_75 zX0_read lX1_39 ⟨by decide, by decide⟩ rfl rfl ⟨by decide, by decide⟩ (S_24.blk 27 rfl) (by omega) rfl (Nat.le_of_ble_eq_true rfl) (S_read S_24 hn rfl ht (((ρ t).length - 1) / 16 * 16 - 16) (by omega)) (fun h_26 r_ q_27 => ?_)
  obtain ⟨rfl, S_28, F_30⟩ := q_27
  have S_29 : Sys h_26 ρ (ub (ub (ub (ub (ub (ub β 27 (rd (ρ t) (((ρ t).length - 1) / 16 * 16 - 16))) 27 (dK (κ 16) (rd (ρ t) (((ρ t).length - 1) / 16 * 16 - 16)))) 27 (df (dK (κ 16) (rd (ρ t) (((ρ t).length - 1) / 16 * 16 - 16))) (nI ((ρ t).length - ((ρ t).length - 1) / 16 * 16)))) 29 (rd (ρ t) (((ρ t).length - 1) / 16 * 16))) 29 (xb (rd (ρ t) (((ρ t).length - 1) / 16 * 16)) (df (dK (κ 16) (rd (ρ t) (((ρ t).length - 1) / 16 * 16 - 16))) (nI ((ρ t).length - ((ρ t).length - 1) / 16 * 16))))) 27 (rd (ρ t) (((ρ t).length - 1) / 16 * 16 - 16))) κ τ := S_28
  refine R_aload_n (pc := 78) 1 dX1_unlockStolen_78 rfl rfl ?_
  refine R_get (pc := 79) dX1_unlockStolen_79 fX1_17 S_29.2.2.2.1 (by omega) rfl ?_
  refine R_aload_n (pc := 82) 2 dX1_unlockStolen_82 rfl rfl ?_
  refine R_iconst (pc := 83) (v := 0) dX1_unlockStolen_83 (by decide) ?_
  refine R_iload_n (pc := 84) 0 dX1_unlockStolen_84 rfl rfl ?_
  refine R_bipush (pc := 85) (v := 16) dX1_unlockStolen_85 (by decide) ?_
  refine R_isub (pc := 87) dX1_unlockStolen_87 ?_
  refine R_eqi (y := nI (0 + (((ρ t).length - 1) / 16 * 16 - 16))) (by rw [Nat.zero_add]; exact pk_sub (b := 16) (by omega)) ?_
  refine R_callVh (pc := 88) (μ' := mX6_copyPart) (As := [.ref t, .int (nI 0), .int (nI (0 + (((ρ t).length - 1) / 16 * 16 - 16)))]) (st := []) dX1_unlockStolen_88 zX6_copyPart lX1_62 ⟨by decide, by decide⟩ rfl rfl ⟨by decide, by decide⟩ (S_29.rowO 24 rfl) (by omega) rfl (Nat.le_of_ble_eq_true rfl) (S_copyPart S_29 hn rfl ht ht24 0 (((ρ t).length - 1) / 16 * 16 - 16) (show _ ≤ 800 by omega) (by omega)) (fun h_31 r_ q_32 => ?_)
  obtain ⟨rfl, S_33, F_35⟩ := q_32
  have S_34 : Sys h_31 (ur ρ 24 (sl (ρ t) 0 (((ρ t).length - 1) / 16 * 16 - 16))) (ub (ub (ub (ub (ub (ub β 27 (rd (ρ t) (((ρ t).length - 1) / 16 * 16 - 16))) 27 (dK (κ 16) (rd (ρ t) (((ρ t).length - 1) / 16 * 16 - 16)))) 27 (df (dK (κ 16) (rd (ρ t) (((ρ t).length - 1) / 16 * 16 - 16))) (nI ((ρ t).length - ((ρ t).length - 1) / 16 * 16)))) 29 (rd (ρ t) (((ρ t).length - 1) / 16 * 16))) 29 (xb (rd (ρ t) (((ρ t).length - 1) / 16 * 16)) (df (dK (κ 16) (rd (ρ t) (((ρ t).length - 1) / 16 * 16 - 16))) (nI ((ρ t).length - ((ρ t).length - 1) / 16 * 16))))) 27 (rd (ρ t) (((ρ t).length - 1) / 16 * 16 - 16))) κ τ := by have z_ := S_33; (try simp only [ur_s, ur_ur, ur_n (x := t) (r := 24) ht24, ur_n (x := m) (r := 24) (Ne.symm hm24), ur_n (x := 2) (r := 24) (by decide), ur_n (x := 4) (r := 24) (by decide), ur_n (x := 6) (r := 24) (by decide), ur_n (x := 8) (r := 24) (by decide)] at z_); exact z_
  refine R_aload_n (pc := 91) 1 dX1_unlockStolen_91 rfl rfl ?_
  refine R_get (pc := 92) dX1_unlockStolen_92 fX1_17 S_34.2.2.2.1 (by omega) rfl ?_
  refine R_aload_n (pc := 95) 1 dX1_unlockStolen_95 rfl rfl ?_
  refine R_get (pc := 96) dX1_unlockStolen_96 fX1_30 S_34.2.2.2.1 (by omega) rfl ?_
  refine R_bipush (pc := 99) (v := 16) dX1_unlockStolen_99 (by decide) ?_
  refine R_callVh (pc := 101) (μ' := mX6_appendBlock) (As := [.ref 29, .int (nI 16)]) (st := []) dX1_unlockStolen_101 zX6_appendBlock lX1_49 ⟨by decide, by decide⟩ rfl rfl ⟨by decide, by decide⟩ (S_34.rowO 24 rfl) (by omega) rfl (Nat.le_of_ble_eq_true rfl) (S_appendBlock S_34 hn rfl rfl 16 (by simp only [ur_s, sl_len]; show _ ≤ 800; omega)) (fun h_36 r_ q_37 => ?_)
  obtain ⟨rfl, S_38, F_40⟩ := q_37
  have S_39 : Sys h_36 (ur ρ 24 ((sl (ρ t) 0 (((ρ t).length - 1) / 16 * 16 - 16)) ++ bt (xb (rd (ρ t) (((ρ t).length - 1) / 16 * 16)) (df (dK (κ 16) (rd (ρ t) (((ρ t).length - 1) / 16 * 16 - 16))) (nI ((ρ t).length - ((ρ t).length - 1) / 16 * 16)))) 16)) (ub (ub (ub (ub (ub (ub β 27 (rd (ρ t) (((ρ t).length - 1) / 16 * 16 - 16))) 27 (dK (κ 16) (rd (ρ t) (((ρ t).length - 1) / 16 * 16 - 16)))) 27 (df (dK (κ 16) (rd (ρ t) (((ρ t).length - 1) / 16 * 16 - 16))) (nI ((ρ t).length - ((ρ t).length - 1) / 16 * 16)))) 29 (rd (ρ t) (((ρ t).length - 1) / 16 * 16))) 29 (xb (rd (ρ t) (((ρ t).length - 1) / 16 * 16)) (df (dK (κ 16) (rd (ρ t) (((ρ t).length - 1) / 16 * 16 - 16))) (nI ((ρ t).length - ((ρ t).length - 1) / 16 * 16))))) 27 (rd (ρ t) (((ρ t).length - 1) / 16 * 16 - 16))) κ τ := by have z_ := S_38; (try simp only [ur_s, ur_ur, ur_n (x := t) (r := 24) ht24, ur_n (x := m) (r := 24) (Ne.symm hm24), ur_n (x := 2) (r := 24) (by decide), ur_n (x := 4) (r := 24) (by decide), ur_n (x := 6) (r := 24) (by decide), ur_n (x := 8) (r := 24) (by decide)] at z_); exact z_
  refine R_aload_n (pc := 104) 1 dX1_unlockStolen_104 rfl rfl ?_
  refine R_get (pc := 105) dX1_unlockStolen_105 fX1_17 S_39.2.2.2.1 (by omega) rfl ?_
  refine R_aload_n (pc := 108) 1 dX1_unlockStolen_108 rfl rfl ?_
  refine R_get (pc := 109) dX1_unlockStolen_109 fX1_23 S_39.2.2.2.1 (by omega) rfl ?_
  refine R_bipush (pc := 112) (v := 16) dX1_unlockStolen_112 (by decide) ?_
  refine R_callVh (pc := 114) (μ' := mX6_appendBlock) (As := [.ref 27, .int (nI 16)]) (st := []) dX1_unlockStolen_114 zX6_appendBlock lX1_49 ⟨by decide, by decide⟩ rfl rfl ⟨by decide, by decide⟩ (S_39.rowO 24 rfl) (by omega) rfl (Nat.le_of_ble_eq_true rfl) (S_appendBlock S_39 hn rfl rfl 16 (by simp only [ur_s, List.length_append, sl_len, bt_len]; show _ ≤ 800; omega)) (fun h_41 r_ q_42 => ?_)
  obtain ⟨rfl, S_43, F_45⟩ := q_42
  have S_44 : Sys h_41 (ur ρ 24 (((sl (ρ t) 0 (((ρ t).length - 1) / 16 * 16 - 16)) ++ bt (xb (rd (ρ t) (((ρ t).length - 1) / 16 * 16)) (df (dK (κ 16) (rd (ρ t) (((ρ t).length - 1) / 16 * 16 - 16))) (nI ((ρ t).length - ((ρ t).length - 1) / 16 * 16)))) 16) ++ bt (rd (ρ t) (((ρ t).length - 1) / 16 * 16 - 16)) 16)) (ub (ub (ub (ub (ub (ub β 27 (rd (ρ t) (((ρ t).length - 1) / 16 * 16 - 16))) 27 (dK (κ 16) (rd (ρ t) (((ρ t).length - 1) / 16 * 16 - 16)))) 27 (df (dK (κ 16) (rd (ρ t) (((ρ t).length - 1) / 16 * 16 - 16))) (nI ((ρ t).length - ((ρ t).length - 1) / 16 * 16)))) 29 (rd (ρ t) (((ρ t).length - 1) / 16 * 16))) 29 (xb (rd (ρ t) (((ρ t).length - 1) / 16 * 16)) (df (dK (κ 16) (rd (ρ t) (((ρ t).length - 1) / 16 * 16 - 16))) (nI ((ρ t).length - ((ρ t).length - 1) / 16 * 16))))) 27 (rd (ρ t) (((ρ t).length - 1) / 16 * 16 - 16))) κ τ := by have z_ := S_43; (try simp only [ur_s, ur_ur, ur_n (x := t) (r := 24) ht24, ur_n (x := m) (r := 24) (Ne.symm hm24), ur_n (x := 2) (r := 24) (by decide), ur_n (x := 4) (r := 24) (by decide), ur_n (x := 6) (r := 24) (by decide), ur_n (x := 8) (r := 24) (by decide)] at z_); exact z_
  change Sys h_41 (ur ρ 24 (stT (dK (κ 16)) (ρ t))) (ub (ub (ub (ub (ub (ub β 27 (rd (ρ t) (((ρ t).length - 1) / 16 * 16 - 16))) 27 (dK (κ 16) (rd (ρ t) (((ρ t).length - 1) / 16 * 16 - 16)))) 27 (df (dK (κ 16) (rd (ρ t) (((ρ t).length - 1) / 16 * 16 - 16))) (nI ((ρ t).length - ((ρ t).length - 1) / 16 * 16)))) 29 (rd (ρ t) (((ρ t).length - 1) / 16 * 16))) 29 (xb (rd (ρ t) (((ρ t).length - 1) / 16 * 16)) (df (dK (κ 16) (rd (ρ t) (((ρ t).length - 1) / 16 * 16 - 16))) (nI ((ρ t).length - ((ρ t).length - 1) / 16 * 16))))) 27 (rd (ρ t) (((ρ t).length - 1) / 16 * 16 - 16))) κ τ at S_44
  refine R_aload_n (pc := 117) 1 dX1_unlockStolen_117 rfl rfl ?_
  refine R_aload_n (pc := 118) 1 dX1_unlockStolen_118 rfl rfl ?_
  refine R_get (pc := 119) dX1_unlockStolen_119 fX1_17 S_44.2.2.2.1 (by omega) rfl ?_
  refine R_aload_n (pc := 122) 3 dX1_unlockStolen_122 rfl rfl ?_
  refine R_callVh (pc := 123) (μ' := mX1_unlockChain) (As := [.ref 24, .ref m]) (st := []) dX1_unlockStolen_123 zX1_unlockChain lX1_74 ⟨by decide, by decide⟩ rfl rfl ⟨by decide, by decide⟩ S_44.2.2.2.1 (by omega) rfl (Nat.le_of_ble_eq_true rfl) (qX1_unlockChain S_44 hn rfl hm hm24 hk (by simp only [ur_s, ur_n (Ne.symm hm24), hm0, List.length_nil]; omega)) (fun h_46 r_ q_47 => ?_)
  obtain ⟨β_51, B_52, rfl, S_48, F_50⟩ := q_47
  have S_49 : Sys h_46 (ur (ur ρ 24 (stT (dK (κ 16)) (ρ t))) m ((ρ m) ++ chD (dK (κ 16)) (rd (ρ 6) 0) (stT (dK (κ 16)) (ρ t)))) β_51 κ τ := by have z_ := S_48; (try simp only [ub, Nat.reduceEqDiff, ↓reduceIte, ur_s, ur_ur, ur_n (x := t) (r := 24) ht24, ur_n (x := t) (r := m) htm, ur_n (x := m) (r := 24) (Ne.symm hm24), ur_n (x := 2) (r := 24) (by decide), ur_n (x := 4) (r := 24) (by decide), ur_n (x := 6) (r := 24) (by decide), ur_n (x := 6) (r := m) hm6, ur_n (x := 8) (r := 24) (by decide), ur_n (x := 24) (r := m) hm24] at z_); exact z_
  rw [hm0, List.nil_append] at S_49
  refine R_aload_n (pc := 126) 3 dX1_unlockStolen_126 rfl rfl ?_
  refine R_aload_n (pc := 127) 2 dX1_unlockStolen_127 rfl rfl ?_
  have := rw_cases (r := t) ht
  refine R_get (pc := 128) dX1_unlockStolen_128 fX1_33 (S_49.rowO t ht) (by omega) rfl ?_
  refine R_eqi (y := nI (ρ t).length) (by first | rfl | (simp only [ur_s, ur_ur, ur_n (x := t) (r := 24) ht24, ur_n (x := t) (r := m) htm, ur_n (x := m) (r := 24) (Ne.symm hm24), ur_n (x := 2) (r := 24) (by decide), ur_n (x := 4) (r := 24) (by decide), ur_n (x := 6) (r := 24) (by decide), ur_n (x := 6) (r := m) hm6, ur_n (x := 8) (r := 24) (by decide), ur_n (x := 24) (r := m) hm24])) ?_
  refine R_callVh (pc := 131) (μ' := mX6_keep) (As := [.int (nI (ρ t).length)]) (st := []) dX1_unlockStolen_131 zX6_keep lX1_81 ⟨by decide, by decide⟩ rfl rfl ⟨by decide, by decide⟩ (S_49.rowO m hm) (by omega) rfl (Nat.le_of_ble_eq_true rfl) (S_keep S_49 hn hm ((ρ t).length) (by omega)) (fun h_53 r_ q_54 => ?_)
  obtain ⟨rfl, S_55, F_57⟩ := q_54
  have S_56 : Sys h_53 (ur (ur ρ 24 (stT (dK (κ 16)) (ρ t))) m ((chD (dK (κ 16)) (rd (ρ 6) 0) (stT (dK (κ 16)) (ρ t))).take ((ρ t).length))) β_51 κ τ := by have z_ := S_55; (try simp only [ur_s, ur_ur, ur_n (x := t) (r := 24) ht24, ur_n (x := t) (r := m) htm, ur_n (x := m) (r := 24) (Ne.symm hm24), ur_n (x := 2) (r := 24) (by decide), ur_n (x := 4) (r := 24) (by decide), ur_n (x := 6) (r := 24) (by decide), ur_n (x := 6) (r := m) hm6, ur_n (x := 8) (r := 24) (by decide), ur_n (x := 24) (r := m) hm24] at z_); exact z_
  have hBB : ∀ a, a ∉ [27, 28, 29] → β_51 a = β a := by
    intro a_ n_
    simp only [List.mem_cons, List.not_mem_nil, or_false, not_or] at n_
    (try simp only [ub, if_neg, n_, if_false])
    rw [B_52 a_ (by simp [n_])]
    (try simp only [ub, if_neg, n_, if_false])
  exact R_vreturn (pc := 134) dX1_unlockStolen_134 rfl (by decide) (by decide) ⟨rfl, _, hBB, rfl, S_56, ((((((((((F_5.tr F_10).tr F_15).tr F_20).tr F_25).tr F_30).tr F_35).tr F_40).tr F_45).tr F_50).tr F_57)⟩
