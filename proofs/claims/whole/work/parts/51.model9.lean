set_option maxHeartbeats 4000000 in
set_option maxRecDepth 100000 in
theorem qX12_cut_N {l : Launch} {w : am_W} {h : am_H} {n : Nat} {φ : Nat → fA} {i : mI} (S : MS h φ i) (hn : 90 ≤ n) (v : Int32) (hv : inI v 0 3 = 0) (j : Int32) : RH l w mX12_cut h n [.ref 61, .int v, .int j] (mQ h (some (.int (-2))) φ (ui i 0 0)) := by
  refine RC.of [(0, .ref 61), (1, .int v), (2, .int j)] (by decide +kernel) rfl (Nat.le_of_ble_eq_true rfl) ?_
  refine R_aload_n (pc := 0) 0 dX12_cut_0 rfl rfl ?_
  refine R_iconst (pc := 1) (v := 0) dX12_cut_1 (by decide) ?_
  refine R_put' (pc := 2) (fs' := [.int 0, .ref 62, .ref 63, .int (i 1), .ref 64, .int (i 2), .ref 65, .ref 66, .ref 67, .ref 68, .ref 69, .ref 70, .ref 71, .int (i 3), .ref 72, .int (i 4), .ref 73, .int (i 5), .ref 74, .int (i 6), .ref 75, .ref 76, .ref 77, .ref 78, .ref 79, .ref 80, .ref 81, .ref 82, .ref 83, .ref 84, .int (i 7), .ref 85, .ref 86, .ref 87, .ref 88, .ref 89, .ref 90]) dX12_cut_2 fX12_105 tX12_0 rfl rfl S.2 (by omega) (Nat.le_of_ble_eq_true rfl) rfl (fun h_1 f_2 g_3 => ?_)
  have S_4 : MS h_1 φ (ui i 0 0) := MS.setI (j := (ui i 0 0)) S f_2 g_3
  have F_5 := fmI g_3
  refine R_iload_n (pc := 5) 1 dX12_cut_5 rfl rfl ?_
  refine R_iconst (pc := 6) (v := 0) dX12_cut_6 (by decide) ?_
  refine R_iconst (pc := 7) (v := 3) dX12_cut_7 (by decide) ?_
  refine R_callSp (pc := 8) (μ' := mX12_in) (As := [.int v, .int 0, .int 3]) (st := []) dX12_cut_8 zX12_in lX12_108 ⟨by decide, by decide⟩ rfl rfl ⟨by decide, by decide⟩ rfl (Nat.le_of_ble_eq_true rfl) (qX12_in l w _ _ _ _ _) ?_
  refine R_if_eq (pc := 11) (tgt := 28) dX12_cut_11 (by decide) (fun c_6 => ?_) (fun c_6 => absurd (hv) c_6)
  refine R_bipush (pc := 28) (v := (-2)) dX12_cut_28 (by decide) ?_
  exact R_ireturn (pc := 30) dX12_cut_30 rfl (by decide) (by decide) ⟨rfl, rfl, S_4, F_5⟩
set_option maxHeartbeats 4000000 in
set_option maxRecDepth 100000 in
theorem qX12_cut_R {l : Launch} {w : am_W} {h : am_H} {n : Nat} {φ : Nat → fA} {i : mI} (S : MS h φ i) (hn : 90 ≤ n) (k : Nat) (hk : k < 4) (L : Nat) (hL : φ 63 k = nI L) (hL5 : L ≤ 512) (j : Int32) (hj : inI j 0 (nI L) = 0) : RH l w mX12_cut h n [.ref 61, .int (nI k), .int j] (mQ h (some (.int (-2))) φ (ui i 0 0)) := by
  refine RC.of [(0, .ref 61), (1, .int (nI k)), (2, .int j)] (by decide +kernel) rfl (Nat.le_of_ble_eq_true rfl) ?_
  refine R_aload_n (pc := 0) 0 dX12_cut_0 rfl rfl ?_
  refine R_iconst (pc := 1) (v := 0) dX12_cut_1 (by decide) ?_
  refine R_put' (pc := 2) (fs' := [.int 0, .ref 62, .ref 63, .int (i 1), .ref 64, .int (i 2), .ref 65, .ref 66, .ref 67, .ref 68, .ref 69, .ref 70, .ref 71, .int (i 3), .ref 72, .int (i 4), .ref 73, .int (i 5), .ref 74, .int (i 6), .ref 75, .ref 76, .ref 77, .ref 78, .ref 79, .ref 80, .ref 81, .ref 82, .ref 83, .ref 84, .int (i 7), .ref 85, .ref 86, .ref 87, .ref 88, .ref 89, .ref 90]) dX12_cut_2 fX12_105 tX12_0 rfl rfl S.2 (by omega) (Nat.le_of_ble_eq_true rfl) rfl (fun h_1 f_2 g_3 => ?_)
  have S_4 : MS h_1 φ (ui i 0 0) := MS.setI (j := (ui i 0 0)) S f_2 g_3
  have F_5 := fmI g_3
  refine R_iload_n (pc := 5) 1 dX12_cut_5 rfl rfl ?_
  refine R_iconst (pc := 6) (v := 0) dX12_cut_6 (by decide) ?_
  refine R_iconst (pc := 7) (v := 3) dX12_cut_7 (by decide) ?_
  refine R_callSp (pc := 8) (μ' := mX12_in) (As := [.int (nI k), .int 0, .int 3]) (st := []) dX12_cut_8 zX12_in lX12_108 ⟨by decide, by decide⟩ rfl rfl ⟨by decide, by decide⟩ rfl (Nat.le_of_ble_eq_true rfl) (qX12_in l w _ _ _ _ _) ?_
  refine R_if_eq (pc := 11) (tgt := 28) dX12_cut_11 (by decide) (fun c_6 => absurd c_6 (in03 k hk)) (fun c_6 => ?_)
  refine R_iload_n (pc := 14) 2 dX12_cut_14 rfl rfl ?_
  refine R_iconst (pc := 15) (v := 0) dX12_cut_15 (by decide) ?_
  refine R_aload_n (pc := 16) 0 dX12_cut_16 rfl rfl ?_
  refine R_get (pc := 17) dX12_cut_17 fX12_13 S_4.2 (by omega) rfl ?_
  refine R_iload_n (pc := 20) 1 dX12_cut_20 rfl rfl ?_
  refine R_iald' (pc := 21) (j := k) dX12_cut_21 (S_4.1 63 rfl) (by omega) ⟨rfl, by show k < 4; omega, by decide⟩ ?_
  refine R_eqi (y := nI L) (hL) ?_
  refine R_callSp (pc := 22) (μ' := mX12_in) (As := [.int j, .int 0, .int (nI L)]) (st := []) dX12_cut_22 zX12_in lX12_108 ⟨by decide, by decide⟩ rfl rfl ⟨by decide, by decide⟩ rfl (Nat.le_of_ble_eq_true rfl) (qX12_in l w _ _ _ _ _) ?_
  refine R_if_ne (pc := 25) (tgt := 31) dX12_cut_25 (by decide) (fun c_7 => absurd (hj) c_7) (fun c_7 => ?_)
  refine R_bipush (pc := 28) (v := (-2)) dX12_cut_28 (by decide) ?_
  exact R_ireturn (pc := 30) dX12_cut_30 rfl (by decide) (by decide) ⟨rfl, rfl, S_4, F_5⟩
set_option maxHeartbeats 4000000 in
set_option maxRecDepth 100000 in
theorem qX12_cut {l : Launch} {w : am_W} {h : am_H} {n : Nat} {φ : Nat → fA} {i : mI} (S : MS h φ i) (hn : 90 ≤ n) (k : Nat) (hk : k < 4) (L : Nat) (hL : φ 63 k = nI L) (hL5 : L ≤ 512) (j : Int32) (hj : ¬ inI j 0 (nI L) = 0) : RH l w mX12_cut h n [.ref 61, .int (nI k), .int j] (mQ h (some (.int (nI L))) (uf φ 63 (upd (φ 63) k j)) (ui i 0 0)) := by
  refine RC.of [(0, .ref 61), (1, .int (nI k)), (2, .int j)] (by decide +kernel) rfl (Nat.le_of_ble_eq_true rfl) ?_
  refine R_aload_n (pc := 0) 0 dX12_cut_0 rfl rfl ?_
  refine R_iconst (pc := 1) (v := 0) dX12_cut_1 (by decide) ?_
  refine R_put' (pc := 2) (fs' := [.int 0, .ref 62, .ref 63, .int (i 1), .ref 64, .int (i 2), .ref 65, .ref 66, .ref 67, .ref 68, .ref 69, .ref 70, .ref 71, .int (i 3), .ref 72, .int (i 4), .ref 73, .int (i 5), .ref 74, .int (i 6), .ref 75, .ref 76, .ref 77, .ref 78, .ref 79, .ref 80, .ref 81, .ref 82, .ref 83, .ref 84, .int (i 7), .ref 85, .ref 86, .ref 87, .ref 88, .ref 89, .ref 90]) dX12_cut_2 fX12_105 tX12_0 rfl rfl S.2 (by omega) (Nat.le_of_ble_eq_true rfl) rfl (fun h_1 f_2 g_3 => ?_)
  have S_4 : MS h_1 φ (ui i 0 0) := MS.setI (j := (ui i 0 0)) S f_2 g_3
  have F_5 := fmI g_3
  refine R_iload_n (pc := 5) 1 dX12_cut_5 rfl rfl ?_
  refine R_iconst (pc := 6) (v := 0) dX12_cut_6 (by decide) ?_
  refine R_iconst (pc := 7) (v := 3) dX12_cut_7 (by decide) ?_
  refine R_callSp (pc := 8) (μ' := mX12_in) (As := [.int (nI k), .int 0, .int 3]) (st := []) dX12_cut_8 zX12_in lX12_108 ⟨by decide, by decide⟩ rfl rfl ⟨by decide, by decide⟩ rfl (Nat.le_of_ble_eq_true rfl) (qX12_in l w _ _ _ _ _) ?_
  refine R_if_eq (pc := 11) (tgt := 28) dX12_cut_11 (by decide) (fun c_6 => absurd c_6 (in03 k hk)) (fun c_6 => ?_)
  refine R_iload_n (pc := 14) 2 dX12_cut_14 rfl rfl ?_
  refine R_iconst (pc := 15) (v := 0) dX12_cut_15 (by decide) ?_
  refine R_aload_n (pc := 16) 0 dX12_cut_16 rfl rfl ?_
  refine R_get (pc := 17) dX12_cut_17 fX12_13 S_4.2 (by omega) rfl ?_
  refine R_iload_n (pc := 20) 1 dX12_cut_20 rfl rfl ?_
  refine R_iald' (pc := 21) (j := k) dX12_cut_21 (S_4.1 63 rfl) (by omega) ⟨rfl, by show k < 4; omega, by decide⟩ ?_
  refine R_eqi (y := nI L) (hL) ?_
  refine R_callSp (pc := 22) (μ' := mX12_in) (As := [.int j, .int 0, .int (nI L)]) (st := []) dX12_cut_22 zX12_in lX12_108 ⟨by decide, by decide⟩ rfl rfl ⟨by decide, by decide⟩ rfl (Nat.le_of_ble_eq_true rfl) (qX12_in l w _ _ _ _ _) ?_
  refine R_if_ne (pc := 25) (tgt := 31) dX12_cut_25 (by decide) (fun c_7 => ?_) (fun c_7 => absurd c_7 (hj))
  refine R_aload_n (pc := 31) 0 dX12_cut_31 rfl rfl ?_
  refine R_get (pc := 32) dX12_cut_32 fX12_13 S_4.2 (by omega) rfl ?_
  refine R_iload_n (pc := 35) 1 dX12_cut_35 rfl rfl ?_
  refine R_iald' (pc := 36) (j := k) dX12_cut_36 (S_4.1 63 rfl) (by omega) ⟨rfl, by show k < 4; omega, by decide⟩ ?_
  refine R_eqi (y := nI L) (hL) ?_
  refine R_istore_n (pc := 37) (lv' := [(3, .int (nI L)), (0, .ref 61), (1, .int (nI k)), (2, .int j)]) dX12_cut_37 rfl (by decide) rfl ?_
  refine R_aload_n (pc := 38) 1 dX12_cut_38 rfl rfl ?_
  refine R_get (pc := 39) dX12_cut_39 fX12_13 S_4.2 (by omega) rfl ?_
  refine R_iload_n (pc := 42) 2 dX12_cut_42 rfl rfl ?_
  refine R_iload_n (pc := 43) 3 dX12_cut_43 rfl rfl ?_
  refine R_iast' (pc := 44) (j := k) dX12_cut_44 (S_4.1 63 rfl) (by omega) ⟨rfl, by show k < 4; omega, by decide⟩ (fun h_8 f_9 g_10 => ?_)
  have S_11 : MS h_8 (uf φ 63 (upd (φ 63) k j)) (ui i 0 0) := MS.setA (p := 63) (f := upd (φ 63) k j) S_4 rfl f_9 g_10
  have F_12 := fmA (p := 63) rfl g_10
  refine R_iload_n (pc := 45) 0 dX12_cut_45 rfl rfl ?_
  exact R_ireturn (pc := 46) dX12_cut_46 rfl (by decide) (by decide) ⟨rfl, rfl, S_11, (F_5.tr F_12)⟩
set_option maxHeartbeats 4000000 in
set_option maxRecDepth 100000 in
theorem qX12_alter_N {l : Launch} {w : am_W} {h : am_H} {n : Nat} {φ : Nat → fA} {i : mI} (S : MS h φ i) (hn : 90 ≤ n) (v : Int32) (hv : inI v 0 3 = 0) (j x : Int32) : RH l w mX12_alter h n [.ref 61, .int v, .int j, .int x] (mQ h (some (.int (-2))) φ (ui i 0 0)) := by
  refine RC.of [(0, .ref 61), (1, .int v), (2, .int j), (3, .int x)] (by decide +kernel) rfl (Nat.le_of_ble_eq_true rfl) ?_
  refine R_aload_n (pc := 0) 0 dX12_alter_0 rfl rfl ?_
  refine R_iconst (pc := 1) (v := 0) dX12_alter_1 (by decide) ?_
  refine R_put' (pc := 2) (fs' := [.int 0, .ref 62, .ref 63, .int (i 1), .ref 64, .int (i 2), .ref 65, .ref 66, .ref 67, .ref 68, .ref 69, .ref 70, .ref 71, .int (i 3), .ref 72, .int (i 4), .ref 73, .int (i 5), .ref 74, .int (i 6), .ref 75, .ref 76, .ref 77, .ref 78, .ref 79, .ref 80, .ref 81, .ref 82, .ref 83, .ref 84, .int (i 7), .ref 85, .ref 86, .ref 87, .ref 88, .ref 89, .ref 90]) dX12_alter_2 fX12_105 tX12_0 rfl rfl S.2 (by omega) (Nat.le_of_ble_eq_true rfl) rfl (fun h_1 f_2 g_3 => ?_)
  have S_4 : MS h_1 φ (ui i 0 0) := MS.setI (j := (ui i 0 0)) S f_2 g_3
  have F_5 := fmI g_3
  refine R_aload_n (pc := 5) 0 dX12_alter_5 rfl rfl ?_
  refine R_iload_n (pc := 6) 1 dX12_alter_6 rfl rfl ?_
  refine R_iload_n (pc := 7) 2 dX12_alter_7 rfl rfl ?_
  refine R_callVp (pc := 8) (μ' := mX12_none) (As := [.int v, .int j]) (st := []) dX12_alter_8 zX12_none lX12_118 ⟨by decide, by decide⟩ rfl rfl ⟨by decide, by decide⟩ S_4.2 (by omega) rfl (Nat.le_of_ble_eq_true rfl) (qX12_none_N S_4 hn v hv j) ?_
  refine R_if_ne (pc := 11) (tgt := 25) dX12_alter_11 (by decide) (fun c_6 => ?_) (fun c_6 => absurd c_6 (by decide))
  refine R_bipush (pc := 25) (v := (-2)) dX12_alter_25 (by decide) ?_
  exact R_ireturn (pc := 27) dX12_alter_27 rfl (by decide) (by decide) ⟨rfl, rfl, S_4, F_5⟩
set_option maxHeartbeats 4000000 in
set_option maxRecDepth 100000 in
theorem qX12_alter_R1 {l : Launch} {w : am_W} {h : am_H} {n : Nat} {φ : Nat → fA} {i : mI} (S : MS h φ i) (hn : 90 ≤ n) (k : Nat) (hk : k < 4) (L : Nat) (hL : φ 63 k = nI L) (hL5 : L ≤ 512) (j x : Int32) (hj : ¬ noI L j = 0) : RH l w mX12_alter h n [.ref 61, .int (nI k), .int j, .int x] (mQ h (some (.int (-2))) φ (ui i 0 0)) := by
  refine RC.of [(0, .ref 61), (1, .int (nI k)), (2, .int j), (3, .int x)] (by decide +kernel) rfl (Nat.le_of_ble_eq_true rfl) ?_
  refine R_aload_n (pc := 0) 0 dX12_alter_0 rfl rfl ?_
  refine R_iconst (pc := 1) (v := 0) dX12_alter_1 (by decide) ?_
  refine R_put' (pc := 2) (fs' := [.int 0, .ref 62, .ref 63, .int (i 1), .ref 64, .int (i 2), .ref 65, .ref 66, .ref 67, .ref 68, .ref 69, .ref 70, .ref 71, .int (i 3), .ref 72, .int (i 4), .ref 73, .int (i 5), .ref 74, .int (i 6), .ref 75, .ref 76, .ref 77, .ref 78, .ref 79, .ref 80, .ref 81, .ref 82, .ref 83, .ref 84, .int (i 7), .ref 85, .ref 86, .ref 87, .ref 88, .ref 89, .ref 90]) dX12_alter_2 fX12_105 tX12_0 rfl rfl S.2 (by omega) (Nat.le_of_ble_eq_true rfl) rfl (fun h_1 f_2 g_3 => ?_)
  have S_4 : MS h_1 φ (ui i 0 0) := MS.setI (j := (ui i 0 0)) S f_2 g_3
  have F_5 := fmI g_3
  refine R_aload_n (pc := 5) 0 dX12_alter_5 rfl rfl ?_
  refine R_iload_n (pc := 6) 1 dX12_alter_6 rfl rfl ?_
  refine R_iload_n (pc := 7) 2 dX12_alter_7 rfl rfl ?_
  refine R_callVp (pc := 8) (μ' := mX12_none) (As := [.int (nI k), .int j]) (st := []) dX12_alter_8 zX12_none lX12_118 ⟨by decide, by decide⟩ rfl rfl ⟨by decide, by decide⟩ S_4.2 (by omega) rfl (Nat.le_of_ble_eq_true rfl) (qX12_none S_4 hn k hk L hL j) ?_
  refine R_if_ne (pc := 11) (tgt := 25) dX12_alter_11 (by decide) (fun c_6 => ?_) (fun c_6 => absurd c_6 (hj))
  refine R_bipush (pc := 25) (v := (-2)) dX12_alter_25 (by decide) ?_
  exact R_ireturn (pc := 27) dX12_alter_27 rfl (by decide) (by decide) ⟨rfl, rfl, S_4, F_5⟩
set_option maxHeartbeats 4000000 in
set_option maxRecDepth 100000 in
theorem qX12_alter_R2 {l : Launch} {w : am_W} {h : am_H} {n : Nat} {φ : Nat → fA} {i : mI} (S : MS h φ i) (hn : 90 ≤ n) (k : Nat) (hk : k < 4) (L : Nat) (hL : φ 63 k = nI L) (hL5 : L ≤ 512) (j x : Int32) (hj : noI L j = 0) (hx : inI x 0 255 = 0) : RH l w mX12_alter h n [.ref 61, .int (nI k), .int j, .int x] (mQ h (some (.int (-2))) φ (ui i 0 0)) := by
  refine RC.of [(0, .ref 61), (1, .int (nI k)), (2, .int j), (3, .int x)] (by decide +kernel) rfl (Nat.le_of_ble_eq_true rfl) ?_
  refine R_aload_n (pc := 0) 0 dX12_alter_0 rfl rfl ?_
  refine R_iconst (pc := 1) (v := 0) dX12_alter_1 (by decide) ?_
  refine R_put' (pc := 2) (fs' := [.int 0, .ref 62, .ref 63, .int (i 1), .ref 64, .int (i 2), .ref 65, .ref 66, .ref 67, .ref 68, .ref 69, .ref 70, .ref 71, .int (i 3), .ref 72, .int (i 4), .ref 73, .int (i 5), .ref 74, .int (i 6), .ref 75, .ref 76, .ref 77, .ref 78, .ref 79, .ref 80, .ref 81, .ref 82, .ref 83, .ref 84, .int (i 7), .ref 85, .ref 86, .ref 87, .ref 88, .ref 89, .ref 90]) dX12_alter_2 fX12_105 tX12_0 rfl rfl S.2 (by omega) (Nat.le_of_ble_eq_true rfl) rfl (fun h_1 f_2 g_3 => ?_)
  have S_4 : MS h_1 φ (ui i 0 0) := MS.setI (j := (ui i 0 0)) S f_2 g_3
  have F_5 := fmI g_3
  refine R_aload_n (pc := 5) 0 dX12_alter_5 rfl rfl ?_
  refine R_iload_n (pc := 6) 1 dX12_alter_6 rfl rfl ?_
  refine R_iload_n (pc := 7) 2 dX12_alter_7 rfl rfl ?_
  refine R_callVp (pc := 8) (μ' := mX12_none) (As := [.int (nI k), .int j]) (st := []) dX12_alter_8 zX12_none lX12_118 ⟨by decide, by decide⟩ rfl rfl ⟨by decide, by decide⟩ S_4.2 (by omega) rfl (Nat.le_of_ble_eq_true rfl) (qX12_none S_4 hn k hk L hL j) ?_
  refine R_if_ne (pc := 11) (tgt := 25) dX12_alter_11 (by decide) (fun c_6 => absurd (hj) c_6) (fun c_6 => ?_)
  refine R_iload_n (pc := 14) 3 dX12_alter_14 rfl rfl ?_
  refine R_iconst (pc := 15) (v := 0) dX12_alter_15 (by decide) ?_
  refine R_sipush (pc := 16) (v := 255) dX12_alter_16 (by decide) ?_
  refine R_callSp (pc := 19) (μ' := mX12_in) (As := [.int x, .int 0, .int 255]) (st := []) dX12_alter_19 zX12_in lX12_108 ⟨by decide, by decide⟩ rfl rfl ⟨by decide, by decide⟩ rfl (Nat.le_of_ble_eq_true rfl) (qX12_in l w _ _ _ _ _) ?_
  refine R_if_ne (pc := 22) (tgt := 28) dX12_alter_22 (by decide) (fun c_7 => absurd (hx) c_7) (fun c_7 => ?_)
  refine R_bipush (pc := 25) (v := (-2)) dX12_alter_25 (by decide) ?_
  exact R_ireturn (pc := 27) dX12_alter_27 rfl (by decide) (by decide) ⟨rfl, rfl, S_4, F_5⟩
set_option maxHeartbeats 4000000 in
set_option maxRecDepth 100000 in
theorem qX12_alter {l : Launch} {w : am_W} {h : am_H} {n : Nat} {φ : Nat → fA} {i : mI} (S : MS h φ i) (hn : 90 ≤ n) (k : Nat) (hk : k < 4) (L : Nat) (hL : φ 63 k = nI L) (hL5 : L ≤ 512) (m : Nat) (hm : m < L) (x : Int32) (hj : noI L (nI m) = 0) (hx : ¬ inI x 0 255 = 0) : RH l w mX12_alter h n [.ref 61, .int (nI k), .int (nI m), .int x] (mQ h (some (.int (φ 62 (512 * k + m)))) (uf φ 62 (upd (φ 62) (512 * k + m) x)) (ui i 0 0)) := by
  refine RC.of [(0, .ref 61), (1, .int (nI k)), (2, .int (nI m)), (3, .int x)] (by decide +kernel) rfl (Nat.le_of_ble_eq_true rfl) ?_
  refine R_aload_n (pc := 0) 0 dX12_alter_0 rfl rfl ?_
  refine R_iconst (pc := 1) (v := 0) dX12_alter_1 (by decide) ?_
  refine R_put' (pc := 2) (fs' := [.int 0, .ref 62, .ref 63, .int (i 1), .ref 64, .int (i 2), .ref 65, .ref 66, .ref 67, .ref 68, .ref 69, .ref 70, .ref 71, .int (i 3), .ref 72, .int (i 4), .ref 73, .int (i 5), .ref 74, .int (i 6), .ref 75, .ref 76, .ref 77, .ref 78, .ref 79, .ref 80, .ref 81, .ref 82, .ref 83, .ref 84, .int (i 7), .ref 85, .ref 86, .ref 87, .ref 88, .ref 89, .ref 90]) dX12_alter_2 fX12_105 tX12_0 rfl rfl S.2 (by omega) (Nat.le_of_ble_eq_true rfl) rfl (fun h_1 f_2 g_3 => ?_)
  have S_4 : MS h_1 φ (ui i 0 0) := MS.setI (j := (ui i 0 0)) S f_2 g_3
  have F_5 := fmI g_3
  refine R_aload_n (pc := 5) 0 dX12_alter_5 rfl rfl ?_
  refine R_iload_n (pc := 6) 1 dX12_alter_6 rfl rfl ?_
  refine R_iload_n (pc := 7) 2 dX12_alter_7 rfl rfl ?_
  refine R_callVp (pc := 8) (μ' := mX12_none) (As := [.int (nI k), .int (nI m)]) (st := []) dX12_alter_8 zX12_none lX12_118 ⟨by decide, by decide⟩ rfl rfl ⟨by decide, by decide⟩ S_4.2 (by omega) rfl (Nat.le_of_ble_eq_true rfl) (qX12_none S_4 hn k hk L hL (nI m)) ?_
  refine R_if_ne (pc := 11) (tgt := 25) dX12_alter_11 (by decide) (fun c_6 => absurd (hj) c_6) (fun c_6 => ?_)
  refine R_iload_n (pc := 14) 3 dX12_alter_14 rfl rfl ?_
  refine R_iconst (pc := 15) (v := 0) dX12_alter_15 (by decide) ?_
  refine R_sipush (pc := 16) (v := 255) dX12_alter_16 (by decide) ?_
  refine R_callSp (pc := 19) (μ' := mX12_in) (As := [.int x, .int 0, .int 255]) (st := []) dX12_alter_19 zX12_in lX12_108 ⟨by decide, by decide⟩ rfl rfl ⟨by decide, by decide⟩ rfl (Nat.le_of_ble_eq_true rfl) (qX12_in l w _ _ _ _ _) ?_
  refine R_if_ne (pc := 22) (tgt := 28) dX12_alter_22 (by decide) (fun c_7 => ?_) (fun c_7 => absurd c_7 (hx))
  refine R_aload_n (pc := 28) 0 dX12_alter_28 rfl rfl ?_
  refine R_get (pc := 29) dX12_alter_29 fX12_7 S_4.2 (by omega) rfl ?_
  refine R_sipush (pc := 32) (v := 512) dX12_alter_32 (by decide) ?_
  refine R_iload_n (pc := 35) 1 dX12_alter_35 rfl rfl ?_
  refine R_imul (pc := 36) dX12_alter_36 ?_
  refine R_eqi (y := nI (512 * k)) (nI_mul 512 k) ?_
  refine R_iload_n (pc := 37) 2 dX12_alter_37 rfl rfl ?_
  refine R_iadd (pc := 38) dX12_alter_38 ?_
  refine R_eqi (y := nI (512 * k + m)) (nI_add _ _) ?_
  refine R_iald' (pc := 39) (j := 512 * k + m) dX12_alter_39 (S_4.1 62 rfl) (by omega) ⟨rfl, by show 512 * k + m < 2048; omega, by decide⟩ ?_
  refine R_istore (pc := 40) (lv' := [(4, .int (φ 62 (512 * k + m))), (0, .ref 61), (1, .int (nI k)), (2, .int (nI m)), (3, .int x)]) dX12_alter_40 (by decide) rfl ?_
  refine R_aload_n (pc := 42) 1 dX12_alter_42 rfl rfl ?_
  refine R_get (pc := 43) dX12_alter_43 fX12_7 S_4.2 (by omega) rfl ?_
  refine R_sipush (pc := 46) (v := 512) dX12_alter_46 (by decide) ?_
  refine R_iload_n (pc := 49) 2 dX12_alter_49 rfl rfl ?_
  refine R_imul (pc := 50) dX12_alter_50 ?_
  refine R_eqi (y := nI (512 * k)) (nI_mul 512 k) ?_
  refine R_iload_n (pc := 51) 3 dX12_alter_51 rfl rfl ?_
  refine R_iadd (pc := 52) dX12_alter_52 ?_
  refine R_eqi (y := nI (512 * k + m)) (nI_add _ _) ?_
  refine R_iload_n (pc := 53) 4 dX12_alter_53 rfl rfl ?_
  refine R_iast' (pc := 54) (j := 512 * k + m) dX12_alter_54 (S_4.1 62 rfl) (by omega) ⟨rfl, by show 512 * k + m < 2048; omega, by decide⟩ (fun h_8 f_9 g_10 => ?_)
  have S_11 : MS h_8 (uf φ 62 (upd (φ 62) (512 * k + m) x)) (ui i 0 0) := MS.setA (p := 62) (f := upd (φ 62) (512 * k + m) x) S_4 rfl f_9 g_10
  have F_12 := fmA (p := 62) rfl g_10
  refine R_iload (pc := 55) 0 dX12_alter_55 rfl ?_
  exact R_ireturn (pc := 57) dX12_alter_57 rfl (by decide) (by decide) ⟨rfl, rfl, S_11, (F_5.tr F_12)⟩
