theorem in03 : ∀ k, k < 4 → ¬ inI (nI k) 0 3 = 0 := by decide
def noI (L : Nat) (j : Int32) : Int32 := if inI j 0 (nI L - 1) = 0 then 1 else 0
theorem in_of {L : Nat} {j : Int32} (hL : L < 2 ^ 31) (h : ¬ inI j 0 (nI L - 1) = 0) : ∃ m, m < L ∧ j = nI m := by
  unfold inI at h
  by_cases a : j < 0
  · rw [if_pos a] at h; exact absurd rfl h
  · rw [if_neg a] at h
    by_cases b : nI L - 1 < j
    · rw [if_pos b] at h; exact absurd rfl h
    · obtain ⟨m, hm, rfl⟩ := nI_of a
      refine ⟨m, ?_, rfl⟩
      cases L with
      | zero => exact absurd (m1_lt m hm) b
      | succ L =>
        rw [nI_pred] at b
        have := mt (nI_ltI (a := L) (b := m) (by omega) hm).mpr b
        omega
theorem no_of {L : Nat} {j : Int32} (hL : L < 2 ^ 31) (h : noI L j = 0) : ∃ m, m < L ∧ j = nI m := by
  unfold noI at h
  by_cases a : inI j 0 (nI L - 1) = 0
  · rw [if_pos a] at h; exact absurd h (by decide)
  · exact in_of hL a
set_option maxHeartbeats 4000000 in
set_option maxRecDepth 100000 in
theorem qX12_none {l : Launch} {w : am_W} {h : am_H} {n : Nat} {φ : Nat → fA} {i : mI} (S : MS h φ i) (hn : 90 ≤ n) (k : Nat) (hk : k < 4) (L : Nat) (hL : φ 63 k = nI L) (j : Int32) : RP l w mX12_none h n [.ref 61, .int (nI k), .int j] (.int (noI L j)) := by
  refine RC.of [(0, .ref 61), (1, .int (nI k)), (2, .int j)] (by decide +kernel) rfl (Nat.le_of_ble_eq_true rfl) ?_
  refine R_iload_n (pc := 0) 1 dX12_none_0 rfl rfl ?_
  refine R_iconst (pc := 1) (v := 0) dX12_none_1 (by decide) ?_
  refine R_iconst (pc := 2) (v := 3) dX12_none_2 (by decide) ?_
  refine R_callSp (pc := 3) (μ' := mX12_in) (As := [.int (nI k), .int 0, .int 3]) (st := []) dX12_none_3 zX12_in lX12_108 ⟨by decide, by decide⟩ rfl rfl ⟨by decide, by decide⟩ rfl (Nat.le_of_ble_eq_true rfl) (qX12_in l w _ _ _ _ _) ?_
  refine R_if_eq (pc := 6) (tgt := 25) dX12_none_6 (by decide) (fun c_1 => absurd c_1 (in03 k hk)) (fun c_1 => ?_)
  refine R_iload_n (pc := 9) 2 dX12_none_9 rfl rfl ?_
  refine R_iconst (pc := 10) (v := 0) dX12_none_10 (by decide) ?_
  refine R_aload_n (pc := 11) 0 dX12_none_11 rfl rfl ?_
  refine R_get (pc := 12) dX12_none_12 fX12_13 S.2 (by omega) rfl ?_
  refine R_iload_n (pc := 15) 1 dX12_none_15 rfl rfl ?_
  refine R_iald' (pc := 16) (j := k) dX12_none_16 (S.1 63 rfl) (by omega) ⟨rfl, by show k < 4; omega, by decide⟩ ?_
  refine R_eqi (y := nI L) (hL) ?_
  refine R_iconst (pc := 17) (v := 1) dX12_none_17 (by decide) ?_
  refine R_isub (pc := 18) dX12_none_18 ?_
  refine R_callSp (pc := 19) (μ' := mX12_in) (As := [.int j, .int 0, .int ((nI L) - 1)]) (st := []) dX12_none_19 zX12_in lX12_108 ⟨by decide, by decide⟩ rfl rfl ⟨by decide, by decide⟩ rfl (Nat.le_of_ble_eq_true rfl) (qX12_in l w _ _ _ _ _) ?_
  refine R_if_ne (pc := 22) (tgt := 29) dX12_none_22 (by decide) (fun c_2 => ?_) (fun c_2 => ?_)
  · skip
    refine R_iconst (pc := 29) (v := 0) dX12_none_29 (by decide) ?_
    exact R_zreturn (pc := 30) dX12_none_30 rfl rfl (by decide) (by decide) ⟨rfl, rfl, by unfold noI; rw [if_neg c_2]⟩
  · skip
    refine R_iconst (pc := 25) (v := 1) dX12_none_25 (by decide) ?_
    refine R_goto (pc := 26) (tgt := 30) dX12_none_26 (by decide) ?_
    exact R_zreturn (pc := 30) dX12_none_30 rfl rfl (by decide) (by decide) ⟨rfl, rfl, by unfold noI; rw [if_pos c_2]⟩
set_option maxHeartbeats 4000000 in
set_option maxRecDepth 100000 in
theorem qX12_none_N {l : Launch} {w : am_W} {h : am_H} {n : Nat} {φ : Nat → fA} {i : mI} (S : MS h φ i) (hn : 90 ≤ n) (v : Int32) (hv : inI v 0 3 = 0) (j : Int32) : RP l w mX12_none h n [.ref 61, .int v, .int j] (.int (1)) := by
  refine RC.of [(0, .ref 61), (1, .int v), (2, .int j)] (by decide +kernel) rfl (Nat.le_of_ble_eq_true rfl) ?_
  refine R_iload_n (pc := 0) 1 dX12_none_0 rfl rfl ?_
  refine R_iconst (pc := 1) (v := 0) dX12_none_1 (by decide) ?_
  refine R_iconst (pc := 2) (v := 3) dX12_none_2 (by decide) ?_
  refine R_callSp (pc := 3) (μ' := mX12_in) (As := [.int v, .int 0, .int 3]) (st := []) dX12_none_3 zX12_in lX12_108 ⟨by decide, by decide⟩ rfl rfl ⟨by decide, by decide⟩ rfl (Nat.le_of_ble_eq_true rfl) (qX12_in l w _ _ _ _ _) ?_
  refine R_if_eq (pc := 6) (tgt := 25) dX12_none_6 (by decide) (fun c_1 => ?_) (fun c_1 => absurd (hv) c_1)
  refine R_iconst (pc := 25) (v := 1) dX12_none_25 (by decide) ?_
  refine R_goto (pc := 26) (tgt := 30) dX12_none_26 (by decide) ?_
  exact R_zreturn (pc := 30) dX12_none_30 rfl rfl (by decide) (by decide) ⟨rfl, rfl, rfl⟩
set_option maxHeartbeats 4000000 in
set_option maxRecDepth 100000 in
theorem qX12_octet_N {l : Launch} {w : am_W} {h : am_H} {n : Nat} {φ : Nat → fA} {i : mI} (S : MS h φ i) (hn : 90 ≤ n) (v : Int32) (hv : inI v 0 3 = 0) (j : Int32) : RH l w mX12_octet h n [.ref 61, .int v, .int j] (mQ h (some (.int (-2))) φ (ui i 0 0)) := by
  refine RC.of [(0, .ref 61), (1, .int v), (2, .int j)] (by decide +kernel) rfl (Nat.le_of_ble_eq_true rfl) ?_
  refine R_aload_n (pc := 0) 0 dX12_octet_0 rfl rfl ?_
  refine R_iconst (pc := 1) (v := 0) dX12_octet_1 (by decide) ?_
  refine R_put' (pc := 2) (fs' := [.int 0, .ref 62, .ref 63, .int (i 1), .ref 64, .int (i 2), .ref 65, .ref 66, .ref 67, .ref 68, .ref 69, .ref 70, .ref 71, .int (i 3), .ref 72, .int (i 4), .ref 73, .int (i 5), .ref 74, .int (i 6), .ref 75, .ref 76, .ref 77, .ref 78, .ref 79, .ref 80, .ref 81, .ref 82, .ref 83, .ref 84, .int (i 7), .ref 85, .ref 86, .ref 87, .ref 88, .ref 89, .ref 90]) dX12_octet_2 fX12_105 tX12_0 rfl rfl S.2 (by omega) (Nat.le_of_ble_eq_true rfl) rfl (fun h_1 f_2 g_3 => ?_)
  have S_4 : MS h_1 φ (ui i 0 0) := MS.setI (j := (ui i 0 0)) S f_2 g_3
  have F_5 := fmI g_3
  refine R_aload_n (pc := 5) 0 dX12_octet_5 rfl rfl ?_
  refine R_iload_n (pc := 6) 1 dX12_octet_6 rfl rfl ?_
  refine R_iload_n (pc := 7) 2 dX12_octet_7 rfl rfl ?_
  refine R_callVp (pc := 8) (μ' := mX12_none) (As := [.int v, .int j]) (st := []) dX12_octet_8 zX12_none lX12_118 ⟨by decide, by decide⟩ rfl rfl ⟨by decide, by decide⟩ S_4.2 (by omega) rfl (Nat.le_of_ble_eq_true rfl) (qX12_none_N S_4 hn v hv j) ?_
  refine R_if_eq (pc := 11) (tgt := 19) dX12_octet_11 (by decide) (fun c_6 => absurd c_6 (by decide)) (fun c_6 => ?_)
  refine R_bipush (pc := 14) (v := (-2)) dX12_octet_14 (by decide) ?_
  refine R_goto (pc := 16) (tgt := 31) dX12_octet_16 (by decide) ?_
  exact R_ireturn (pc := 31) dX12_octet_31 rfl (by decide) (by decide) ⟨rfl, rfl, S_4, F_5⟩
def moV (f : fA) (b L : Nat) (j : Int32) : Int32 := if noI L j = 0 then f (b + j.toNatClampNeg) else -2
set_option maxHeartbeats 4000000 in
set_option maxRecDepth 100000 in
theorem qX12_octet {l : Launch} {w : am_W} {h : am_H} {n : Nat} {φ : Nat → fA} {i : mI} (S : MS h φ i) (hn : 90 ≤ n) (k : Nat) (hk : k < 4) (L : Nat) (hL : φ 63 k = nI L) (hL5 : L ≤ 512) (j : Int32) : RH l w mX12_octet h n [.ref 61, .int (nI k), .int j] (mQ h (some (.int (moV (φ 62) (512 * k) L j))) φ (ui i 0 0)) := by
  refine RC.of [(0, .ref 61), (1, .int (nI k)), (2, .int j)] (by decide +kernel) rfl (Nat.le_of_ble_eq_true rfl) ?_
  refine R_aload_n (pc := 0) 0 dX12_octet_0 rfl rfl ?_
  refine R_iconst (pc := 1) (v := 0) dX12_octet_1 (by decide) ?_
  refine R_put' (pc := 2) (fs' := [.int 0, .ref 62, .ref 63, .int (i 1), .ref 64, .int (i 2), .ref 65, .ref 66, .ref 67, .ref 68, .ref 69, .ref 70, .ref 71, .int (i 3), .ref 72, .int (i 4), .ref 73, .int (i 5), .ref 74, .int (i 6), .ref 75, .ref 76, .ref 77, .ref 78, .ref 79, .ref 80, .ref 81, .ref 82, .ref 83, .ref 84, .int (i 7), .ref 85, .ref 86, .ref 87, .ref 88, .ref 89, .ref 90]) dX12_octet_2 fX12_105 tX12_0 rfl rfl S.2 (by omega) (Nat.le_of_ble_eq_true rfl) rfl (fun h_1 f_2 g_3 => ?_)
  have S_4 : MS h_1 φ (ui i 0 0) := MS.setI (j := (ui i 0 0)) S f_2 g_3
  have F_5 := fmI g_3
  refine R_aload_n (pc := 5) 0 dX12_octet_5 rfl rfl ?_
  refine R_iload_n (pc := 6) 1 dX12_octet_6 rfl rfl ?_
  refine R_iload_n (pc := 7) 2 dX12_octet_7 rfl rfl ?_
  refine R_callVp (pc := 8) (μ' := mX12_none) (As := [.int (nI k), .int j]) (st := []) dX12_octet_8 zX12_none lX12_118 ⟨by decide, by decide⟩ rfl rfl ⟨by decide, by decide⟩ S_4.2 (by omega) rfl (Nat.le_of_ble_eq_true rfl) (qX12_none S_4 hn k hk L hL j) ?_
  refine R_if_eq (pc := 11) (tgt := 19) dX12_octet_11 (by decide) (fun c_6 => ?_) (fun c_6 => ?_)
  · skip
    obtain ⟨m, hm, rfl⟩ := no_of (by omega) c_6
    refine R_aload_n (pc := 19) 0 dX12_octet_19 rfl rfl ?_
    refine R_get (pc := 20) dX12_octet_20 fX12_7 S_4.2 (by omega) rfl ?_
    refine R_sipush (pc := 23) (v := 512) dX12_octet_23 (by decide) ?_
    refine R_iload_n (pc := 26) 1 dX12_octet_26 rfl rfl ?_
    refine R_imul (pc := 27) dX12_octet_27 ?_
    refine R_eqi (y := nI (512 * k)) (nI_mul 512 k) ?_
    refine R_iload_n (pc := 28) 2 dX12_octet_28 rfl rfl ?_
    refine R_iadd (pc := 29) dX12_octet_29 ?_
    refine R_eqi (y := nI (512 * k + m)) (nI_add _ _) ?_
    refine R_iald' (pc := 30) (j := 512 * k + m) dX12_octet_30 (S_4.1 62 rfl) (by omega) ⟨rfl, by show 512 * k + m < 2048; omega, by decide⟩ ?_
    exact R_ireturn (pc := 31) dX12_octet_31 rfl (by decide) (by decide) ⟨rfl, by unfold moV; rw [if_pos c_6, nI_clamp (by omega)], S_4, F_5⟩
  · skip
    refine R_bipush (pc := 14) (v := (-2)) dX12_octet_14 (by decide) ?_
    refine R_goto (pc := 16) (tgt := 31) dX12_octet_16 (by decide) ?_
    exact R_ireturn (pc := 31) dX12_octet_31 rfl (by decide) (by decide) ⟨rfl, by unfold moV; rw [if_neg c_6], S_4, F_5⟩
def outV (f : fA) (L : Nat) (j : Int32) : Int32 := if inI j 0 (nI L - 1) = 0 then -2 else f j.toNatClampNeg
set_option maxHeartbeats 4000000 in
set_option maxRecDepth 100000 in
theorem qX12_out {l : Launch} {w : am_W} {h : am_H} {n : Nat} {φ : Nat → fA} {i : mI} (S : MS h φ i) (hn : 90 ≤ n) (L : Nat) (hL : i 2 = nI L) (hL7 : L ≤ 700) (j : Int32) : RH l w mX12_out h n [.ref 61, .int j] (mQ h (some (.int (outV (φ 64) L j))) φ (ui i 0 0)) := by
  refine RC.of [(0, .ref 61), (1, .int j)] (by decide +kernel) rfl (Nat.le_of_ble_eq_true rfl) ?_
  refine R_aload_n (pc := 0) 0 dX12_out_0 rfl rfl ?_
  refine R_iconst (pc := 1) (v := 0) dX12_out_1 (by decide) ?_
  refine R_put' (pc := 2) (fs' := [.int 0, .ref 62, .ref 63, .int (i 1), .ref 64, .int (i 2), .ref 65, .ref 66, .ref 67, .ref 68, .ref 69, .ref 70, .ref 71, .int (i 3), .ref 72, .int (i 4), .ref 73, .int (i 5), .ref 74, .int (i 6), .ref 75, .ref 76, .ref 77, .ref 78, .ref 79, .ref 80, .ref 81, .ref 82, .ref 83, .ref 84, .int (i 7), .ref 85, .ref 86, .ref 87, .ref 88, .ref 89, .ref 90]) dX12_out_2 fX12_105 tX12_0 rfl rfl S.2 (by omega) (Nat.le_of_ble_eq_true rfl) rfl (fun h_1 f_2 g_3 => ?_)
  have S_4 : MS h_1 φ (ui i 0 0) := MS.setI (j := (ui i 0 0)) S f_2 g_3
  have F_5 := fmI g_3
  refine R_iload_n (pc := 5) 1 dX12_out_5 rfl rfl ?_
  refine R_iconst (pc := 6) (v := 0) dX12_out_6 (by decide) ?_
  refine R_aload_n (pc := 7) 0 dX12_out_7 rfl rfl ?_
  refine R_get (pc := 8) dX12_out_8 fX12_301 S_4.2 (by omega) rfl ?_
  refine R_eqi (y := i 2) rfl ?_
  refine R_eqi (y := nI L) (hL) ?_
  refine R_iconst (pc := 11) (v := 1) dX12_out_11 (by decide) ?_
  refine R_isub (pc := 12) dX12_out_12 ?_
  refine R_callSp (pc := 13) (μ' := mX12_in) (As := [.int j, .int 0, .int ((nI L) - 1)]) (st := []) dX12_out_13 zX12_in lX12_108 ⟨by decide, by decide⟩ rfl rfl ⟨by decide, by decide⟩ rfl (Nat.le_of_ble_eq_true rfl) (qX12_in l w _ _ _ _ _) ?_
  refine R_if_eq (pc := 16) (tgt := 28) dX12_out_16 (by decide) (fun c_6 => ?_) (fun c_6 => ?_)
  · skip
    refine R_bipush (pc := 28) (v := (-2)) dX12_out_28 (by decide) ?_
    exact R_ireturn (pc := 30) dX12_out_30 rfl (by decide) (by decide) ⟨rfl, by unfold outV; rw [if_pos c_6], S_4, F_5⟩
  · skip
    obtain ⟨m, hm, rfl⟩ := in_of (by omega) c_6
    refine R_aload_n (pc := 19) 0 dX12_out_19 rfl rfl ?_
    refine R_get (pc := 20) dX12_out_20 fX12_20 S_4.2 (by omega) rfl ?_
    refine R_iload_n (pc := 23) 1 dX12_out_23 rfl rfl ?_
    refine R_iald' (pc := 24) (j := m) dX12_out_24 (S_4.1 64 rfl) (by omega) ⟨rfl, by show m < 700; omega, by decide⟩ ?_
    refine R_goto (pc := 25) (tgt := 30) dX12_out_25 (by decide) ?_
    exact R_ireturn (pc := 30) dX12_out_30 rfl (by decide) (by decide) ⟨rfl, by unfold outV; rw [if_neg c_6, nI_clamp (by omega)], S_4, F_5⟩
set_option maxHeartbeats 4000000 in
set_option maxRecDepth 100000 in
theorem qX12_tag_N {l : Launch} {w : am_W} {h : am_H} {n : Nat} {φ : Nat → fA} {i : mI} (S : MS h φ i) (hn : 90 ≤ n) (v : Int32) (hv : inI v 4 16 = 0) : RH l w mX12_tag h n [.ref 61, .int v] (mQ h (some (.int (-2))) φ (ui i 0 0)) := by
  refine RC.of [(0, .ref 61), (1, .int v)] (by decide +kernel) rfl (Nat.le_of_ble_eq_true rfl) ?_
  refine R_aload_n (pc := 0) 0 dX12_tag_0 rfl rfl ?_
  refine R_iconst (pc := 1) (v := 0) dX12_tag_1 (by decide) ?_
  refine R_put' (pc := 2) (fs' := [.int 0, .ref 62, .ref 63, .int (i 1), .ref 64, .int (i 2), .ref 65, .ref 66, .ref 67, .ref 68, .ref 69, .ref 70, .ref 71, .int (i 3), .ref 72, .int (i 4), .ref 73, .int (i 5), .ref 74, .int (i 6), .ref 75, .ref 76, .ref 77, .ref 78, .ref 79, .ref 80, .ref 81, .ref 82, .ref 83, .ref 84, .int (i 7), .ref 85, .ref 86, .ref 87, .ref 88, .ref 89, .ref 90]) dX12_tag_2 fX12_105 tX12_0 rfl rfl S.2 (by omega) (Nat.le_of_ble_eq_true rfl) rfl (fun h_1 f_2 g_3 => ?_)
  have S_4 : MS h_1 φ (ui i 0 0) := MS.setI (j := (ui i 0 0)) S f_2 g_3
  have F_5 := fmI g_3
  refine R_iload_n (pc := 5) 1 dX12_tag_5 rfl rfl ?_
  refine R_iconst (pc := 6) (v := 4) dX12_tag_6 (by decide) ?_
  refine R_bipush (pc := 7) (v := 16) dX12_tag_7 (by decide) ?_
  refine R_callSp (pc := 9) (μ' := mX12_in) (As := [.int v, .int 4, .int 16]) (st := []) dX12_tag_9 zX12_in lX12_108 ⟨by decide, by decide⟩ rfl rfl ⟨by decide, by decide⟩ rfl (Nat.le_of_ble_eq_true rfl) (qX12_in l w _ _ _ _ _) ?_
  refine R_if_ne (pc := 12) (tgt := 18) dX12_tag_12 (by decide) (fun c_6 => absurd (hv) c_6) (fun c_6 => ?_)
  refine R_bipush (pc := 15) (v := (-2)) dX12_tag_15 (by decide) ?_
  exact R_ireturn (pc := 17) dX12_tag_17 rfl (by decide) (by decide) ⟨rfl, rfl, S_4, F_5⟩
set_option maxHeartbeats 4000000 in
set_option maxRecDepth 100000 in
theorem qX12_tag {l : Launch} {w : am_W} {h : am_H} {n : Nat} {φ : Nat → fA} {i : mI} (S : MS h φ i) (hn : 90 ≤ n) (v : Int32) (hv : ¬ inI v 4 16 = 0) : RH l w mX12_tag h n [.ref 61, .int v] (mQ h (some (.int (i 1))) φ (ui (ui i 0 0) 1 v)) := by
  refine RC.of [(0, .ref 61), (1, .int v)] (by decide +kernel) rfl (Nat.le_of_ble_eq_true rfl) ?_
  refine R_aload_n (pc := 0) 0 dX12_tag_0 rfl rfl ?_
  refine R_iconst (pc := 1) (v := 0) dX12_tag_1 (by decide) ?_
  refine R_put' (pc := 2) (fs' := [.int 0, .ref 62, .ref 63, .int (i 1), .ref 64, .int (i 2), .ref 65, .ref 66, .ref 67, .ref 68, .ref 69, .ref 70, .ref 71, .int (i 3), .ref 72, .int (i 4), .ref 73, .int (i 5), .ref 74, .int (i 6), .ref 75, .ref 76, .ref 77, .ref 78, .ref 79, .ref 80, .ref 81, .ref 82, .ref 83, .ref 84, .int (i 7), .ref 85, .ref 86, .ref 87, .ref 88, .ref 89, .ref 90]) dX12_tag_2 fX12_105 tX12_0 rfl rfl S.2 (by omega) (Nat.le_of_ble_eq_true rfl) rfl (fun h_1 f_2 g_3 => ?_)
  have S_4 : MS h_1 φ (ui i 0 0) := MS.setI (j := (ui i 0 0)) S f_2 g_3
  have F_5 := fmI g_3
  refine R_iload_n (pc := 5) 1 dX12_tag_5 rfl rfl ?_
  refine R_iconst (pc := 6) (v := 4) dX12_tag_6 (by decide) ?_
  refine R_bipush (pc := 7) (v := 16) dX12_tag_7 (by decide) ?_
  refine R_callSp (pc := 9) (μ' := mX12_in) (As := [.int v, .int 4, .int 16]) (st := []) dX12_tag_9 zX12_in lX12_108 ⟨by decide, by decide⟩ rfl rfl ⟨by decide, by decide⟩ rfl (Nat.le_of_ble_eq_true rfl) (qX12_in l w _ _ _ _ _) ?_
  refine R_if_ne (pc := 12) (tgt := 18) dX12_tag_12 (by decide) (fun c_6 => ?_) (fun c_6 => absurd c_6 (hv))
  refine R_aload_n (pc := 18) 0 dX12_tag_18 rfl rfl ?_
  refine R_get (pc := 19) dX12_tag_19 fX12_16 S_4.2 (by omega) rfl ?_
  refine R_eqi (y := i 1) rfl ?_
  refine R_istore_n (pc := 22) (lv' := [(2, .int (i 1)), (0, .ref 61), (1, .int v)]) dX12_tag_22 rfl (by decide) rfl ?_
  refine R_aload_n (pc := 23) 1 dX12_tag_23 rfl rfl ?_
  refine R_iload_n (pc := 24) 2 dX12_tag_24 rfl rfl ?_
  refine R_put' (pc := 25) (fs' := [.int 0, .ref 62, .ref 63, .int v, .ref 64, .int (i 2), .ref 65, .ref 66, .ref 67, .ref 68, .ref 69, .ref 70, .ref 71, .int (i 3), .ref 72, .int (i 4), .ref 73, .int (i 5), .ref 74, .int (i 6), .ref 75, .ref 76, .ref 77, .ref 78, .ref 79, .ref 80, .ref 81, .ref 82, .ref 83, .ref 84, .int (i 7), .ref 85, .ref 86, .ref 87, .ref 88, .ref 89, .ref 90]) dX12_tag_25 fX12_16 tX12_3 rfl rfl S_4.2 (by omega) (Nat.le_of_ble_eq_true rfl) rfl (fun h_7 f_8 g_9 => ?_)
  have S_10 : MS h_7 φ (ui (ui i 0 0) 1 v) := MS.setI (j := (ui (ui i 0 0) 1 v)) S_4 f_8 g_9
  have F_11 := fmI g_9
  refine R_iload_n (pc := 28) 0 dX12_tag_28 rfl rfl ?_
  exact R_ireturn (pc := 29) dX12_tag_29 rfl (by decide) (by decide) ⟨rfl, rfl, S_10, (F_5.tr F_11)⟩
