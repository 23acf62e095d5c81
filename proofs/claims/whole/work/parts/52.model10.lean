def rmN (k : Nat) : Nat := if k = 0 then 64 else if k = 1 then 512 else if k = 2 then 64 else 256
theorem ro_nI : ∀ k, k < 4 → roI (nI k) = nI (rmN k) := by decide
theorem rmN_le : ∀ k, k < 4 → rmN k ≤ 512 := by decide
set_option maxHeartbeats 4000000 in
set_option maxRecDepth 100000 in
theorem qX12_take_N {l : Launch} {w : am_W} {h : am_H} {n : Nat} {φ : Nat → fA} {i : mI} (S : MS h φ i) (hn : 90 ≤ n) (v : Int32) (hv : inI v 0 3 = 0) : RH l w mX12_take h n [.ref 61, .int v] (mQ h (some (.int (-2))) φ (ui i 0 0)) := by
  refine RC.of [(0, .ref 61), (1, .int v)] (by decide +kernel) rfl (Nat.le_of_ble_eq_true rfl) ?_
  refine R_aload_n (pc := 0) 0 dX12_take_0 rfl rfl ?_
  refine R_iconst (pc := 1) (v := 0) dX12_take_1 (by decide) ?_
  refine R_put' (pc := 2) (fs' := [.int 0, .ref 62, .ref 63, .int (i 1), .ref 64, .int (i 2), .ref 65, .ref 66, .ref 67, .ref 68, .ref 69, .ref 70, .ref 71, .int (i 3), .ref 72, .int (i 4), .ref 73, .int (i 5), .ref 74, .int (i 6), .ref 75, .ref 76, .ref 77, .ref 78, .ref 79, .ref 80, .ref 81, .ref 82, .ref 83, .ref 84, .int (i 7), .ref 85, .ref 86, .ref 87, .ref 88, .ref 89, .ref 90]) dX12_take_2 fX12_105 tX12_0 rfl rfl S.2 (by omega) (Nat.le_of_ble_eq_true rfl) rfl (fun h_1 f_2 g_3 => ?_)
  have S_4 : MS h_1 φ (ui i 0 0) := MS.setI (j := (ui i 0 0)) S f_2 g_3
  have F_5 := fmI g_3
  refine R_iload_n (pc := 5) 1 dX12_take_5 rfl rfl ?_
  refine R_iconst (pc := 6) (v := 0) dX12_take_6 (by decide) ?_
  refine R_iconst (pc := 7) (v := 3) dX12_take_7 (by decide) ?_
  refine R_callSp (pc := 8) (μ' := mX12_in) (As := [.int v, .int 0, .int 3]) (st := []) dX12_take_8 zX12_in lX12_108 ⟨by decide, by decide⟩ rfl rfl ⟨by decide, by decide⟩ rfl (Nat.le_of_ble_eq_true rfl) (qX12_in l w _ _ _ _ _) ?_
  refine R_if_ne (pc := 11) (tgt := 17) dX12_take_11 (by decide) (fun c_6 => absurd (hv) c_6) (fun c_6 => ?_)
  refine R_bipush (pc := 14) (v := (-2)) dX12_take_14 (by decide) ?_
  exact R_ireturn (pc := 16) dX12_take_16 rfl (by decide) (by decide) ⟨rfl, rfl, S_4, F_5⟩
set_option maxHeartbeats 4000000 in
set_option maxRecDepth 100000 in
theorem qX12_take_R {l : Launch} {w : am_W} {h : am_H} {n : Nat} {φ : Nat → fA} {i : mI} (S : MS h φ i) (hn : 90 ≤ n) (k : Nat) (hk : k < 4) (m : Nat) (hm2 : i 2 = nI m) (hm7 : m ≤ 700) (hr : ¬ m ≤ rmN k) : RH l w mX12_take h n [.ref 61, .int (nI k)] (mQ h (some (.int (-4))) φ (ui i 0 0)) := by
  refine RC.of [(0, .ref 61), (1, .int (nI k))] (by decide +kernel) rfl (Nat.le_of_ble_eq_true rfl) ?_
  have hrm := rmN_le k hk
  refine R_aload_n (pc := 0) 0 dX12_take_0 rfl rfl ?_
  refine R_iconst (pc := 1) (v := 0) dX12_take_1 (by decide) ?_
  refine R_put' (pc := 2) (fs' := [.int 0, .ref 62, .ref 63, .int (i 1), .ref 64, .int (i 2), .ref 65, .ref 66, .ref 67, .ref 68, .ref 69, .ref 70, .ref 71, .int (i 3), .ref 72, .int (i 4), .ref 73, .int (i 5), .ref 74, .int (i 6), .ref 75, .ref 76, .ref 77, .ref 78, .ref 79, .ref 80, .ref 81, .ref 82, .ref 83, .ref 84, .int (i 7), .ref 85, .ref 86, .ref 87, .ref 88, .ref 89, .ref 90]) dX12_take_2 fX12_105 tX12_0 rfl rfl S.2 (by omega) (Nat.le_of_ble_eq_true rfl) rfl (fun h_1 f_2 g_3 => ?_)
  have S_4 : MS h_1 φ (ui i 0 0) := MS.setI (j := (ui i 0 0)) S f_2 g_3
  have F_5 := fmI g_3
  refine R_iload_n (pc := 5) 1 dX12_take_5 rfl rfl ?_
  refine R_iconst (pc := 6) (v := 0) dX12_take_6 (by decide) ?_
  refine R_iconst (pc := 7) (v := 3) dX12_take_7 (by decide) ?_
  refine R_callSp (pc := 8) (μ' := mX12_in) (As := [.int (nI k), .int 0, .int 3]) (st := []) dX12_take_8 zX12_in lX12_108 ⟨by decide, by decide⟩ rfl rfl ⟨by decide, by decide⟩ rfl (Nat.le_of_ble_eq_true rfl) (qX12_in l w _ _ _ _ _) ?_
  refine R_if_ne (pc := 11) (tgt := 17) dX12_take_11 (by decide) (fun c_6 => ?_) (fun c_6 => absurd c_6 (in03 k hk))
  refine R_aload_n (pc := 17) 0 dX12_take_17 rfl rfl ?_
  refine R_get (pc := 18) dX12_take_18 fX12_301 S_4.2 (by omega) rfl ?_
  refine R_eqi (y := i 2) rfl ?_
  refine R_eqi (y := nI m) (hm2) ?_
  refine R_iload_n (pc := 21) 1 dX12_take_21 rfl rfl ?_
  refine R_callSp (pc := 22) (μ' := mX12_room) (As := [.int (nI k)]) (st := [.int (nI m)]) dX12_take_22 zX12_room lX12_112 ⟨by decide, by decide⟩ rfl rfl ⟨by decide, by decide⟩ rfl (Nat.le_of_ble_eq_true rfl) (qX12_room l w _ _ _) ?_
  refine R_eqi (y := nI (rmN k)) (ro_nI k hk) ?_
  refine R_icmp_le (pc := 25) (tgt := 31) dX12_take_25 (by decide) (fun c_7 => absurd c_7 (nI_ge (a := rmN k) (b := m) (by omega) (by omega))) (fun c_7 => ?_)
  refine R_bipush (pc := 28) (v := (-4)) dX12_take_28 (by decide) ?_
  exact R_ireturn (pc := 30) dX12_take_30 rfl (by decide) (by decide) ⟨rfl, rfl, S_4, F_5⟩
set_option maxHeartbeats 4000000 in
set_option maxRecDepth 100000 in
theorem qX12_take {l : Launch} {w : am_W} {h : am_H} {n : Nat} {φ : Nat → fA} {i : mI} (S : MS h φ i) (hn : 90 ≤ n) (k : Nat) (hk : k < 4) (m : Nat) (hm2 : i 2 = nI m) (hm7 : m ≤ 700) (hr : m ≤ rmN k) : RH l w mX12_take h n [.ref 61, .int (nI k)] (mQ h (some (.int (nI m))) (uf (uf φ 62 (cpF (φ 64) 0 (φ 62) (512 * k) m)) 63 (upd (φ 63) k (nI m))) (ui i 0 0)) := by
  refine RC.of [(0, .ref 61), (1, .int (nI k))] (by decide +kernel) rfl (Nat.le_of_ble_eq_true rfl) ?_
  have hrm := rmN_le k hk
  refine R_aload_n (pc := 0) 0 dX12_take_0 rfl rfl ?_
  refine R_iconst (pc := 1) (v := 0) dX12_take_1 (by decide) ?_
  refine R_put' (pc := 2) (fs' := [.int 0, .ref 62, .ref 63, .int (i 1), .ref 64, .int (i 2), .ref 65, .ref 66, .ref 67, .ref 68, .ref 69, .ref 70, .ref 71, .int (i 3), .ref 72, .int (i 4), .ref 73, .int (i 5), .ref 74, .int (i 6), .ref 75, .ref 76, .ref 77, .ref 78, .ref 79, .ref 80, .ref 81, .ref 82, .ref 83, .ref 84, .int (i 7), .ref 85, .ref 86, .ref 87, .ref 88, .ref 89, .ref 90]) dX12_take_2 fX12_105 tX12_0 rfl rfl S.2 (by omega) (Nat.le_of_ble_eq_true rfl) rfl (fun h_1 f_2 g_3 => ?_)
  have S_4 : MS h_1 φ (ui i 0 0) := MS.setI (j := (ui i 0 0)) S f_2 g_3
  have F_5 := fmI g_3
  refine R_iload_n (pc := 5) 1 dX12_take_5 rfl rfl ?_
  refine R_iconst (pc := 6) (v := 0) dX12_take_6 (by decide) ?_
  refine R_iconst (pc := 7) (v := 3) dX12_take_7 (by decide) ?_
  refine R_callSp (pc := 8) (μ' := mX12_in) (As := [.int (nI k), .int 0, .int 3]) (st := []) dX12_take_8 zX12_in lX12_108 ⟨by decide, by decide⟩ rfl rfl ⟨by decide, by decide⟩ rfl (Nat.le_of_ble_eq_true rfl) (qX12_in l w _ _ _ _ _) ?_
  refine R_if_ne (pc := 11) (tgt := 17) dX12_take_11 (by decide) (fun c_6 => ?_) (fun c_6 => absurd c_6 (in03 k hk))
  refine R_aload_n (pc := 17) 0 dX12_take_17 rfl rfl ?_
  refine R_get (pc := 18) dX12_take_18 fX12_301 S_4.2 (by omega) rfl ?_
  refine R_eqi (y := i 2) rfl ?_
  refine R_eqi (y := nI m) (hm2) ?_
  refine R_iload_n (pc := 21) 1 dX12_take_21 rfl rfl ?_
  refine R_callSp (pc := 22) (μ' := mX12_room) (As := [.int (nI k)]) (st := [.int (nI m)]) dX12_take_22 zX12_room lX12_112 ⟨by decide, by decide⟩ rfl rfl ⟨by decide, by decide⟩ rfl (Nat.le_of_ble_eq_true rfl) (qX12_room l w _ _ _) ?_
  refine R_eqi (y := nI (rmN k)) (ro_nI k hk) ?_
  refine R_icmp_le (pc := 25) (tgt := 31) dX12_take_25 (by decide) (fun c_7 => ?_) (fun c_7 => absurd (nI_le (a := m) (b := rmN k) (by omega) (by omega)) c_7)
  refine R_aload_n (pc := 31) 0 dX12_take_31 rfl rfl ?_
  refine R_get (pc := 32) dX12_take_32 fX12_20 S_4.2 (by omega) rfl ?_
  refine R_iconst (pc := 35) (v := 0) dX12_take_35 (by decide) ?_
  refine R_aload_n (pc := 36) 0 dX12_take_36 rfl rfl ?_
  refine R_get (pc := 37) dX12_take_37 fX12_7 S_4.2 (by omega) rfl ?_
  refine R_sipush (pc := 40) (v := 512) dX12_take_40 (by decide) ?_
  refine R_iload_n (pc := 43) 1 dX12_take_43 rfl rfl ?_
  refine R_imul (pc := 44) dX12_take_44 ?_
  refine R_eqi (y := nI (512 * k)) (nI_mul 512 k) ?_
  refine R_aload_n (pc := 45) 0 dX12_take_45 rfl rfl ?_
  refine R_get (pc := 46) dX12_take_46 fX12_301 S_4.2 (by omega) rfl ?_
  refine R_eqi (y := i 2) rfl ?_
  refine R_eqi (y := nI m) (hm2) ?_
  refine R_callSh (pc := 49) (μ' := mX12_copy) (As := [.ref 64, .int (nI 0), .ref 62, .int (nI (512 * k)), .int (nI m)]) (st := []) dX12_take_49 zX12_copy lX12_133 ⟨by decide, by decide⟩ rfl rfl ⟨by decide, by decide⟩ rfl (Nat.le_of_ble_eq_true rfl) (qX12_copy S_4 hn rfl rfl 0 (512 * k) m (by show 0 + m ≤ 700; omega) (by show 512 * k + m ≤ 2048; omega) (by decide)) (fun h_8 r_ q_9 => ?_)
  obtain ⟨rfl, S_10, F_11⟩ := q_9
  have S_12 : MS h_8 (uf φ 62 (cpF (φ 64) 0 (φ 62) (512 * k) m)) (ui i 0 0) := S_10
  refine R_aload_n (pc := 52) 0 dX12_take_52 rfl rfl ?_
  refine R_get (pc := 53) dX12_take_53 fX12_13 S_12.2 (by omega) rfl ?_
  refine R_iload_n (pc := 56) 1 dX12_take_56 rfl rfl ?_
  refine R_aload_n (pc := 57) 0 dX12_take_57 rfl rfl ?_
  refine R_get (pc := 58) dX12_take_58 fX12_301 S_12.2 (by omega) rfl ?_
  refine R_eqi (y := i 2) rfl ?_
  refine R_eqi (y := nI m) (hm2) ?_
  refine R_iast' (pc := 61) (j := k) dX12_take_61 (S_12.1 63 rfl) (by omega) ⟨rfl, by show k < 4; omega, by decide⟩ (fun h_13 f_14 g_15 => ?_)
  have f_16 : h_13 63 = .inl (mN 63, upd (φ 63) k (nI m)) := by first | exact f_14 | (simp only [uf_s] at f_14; exact f_14)
  have S_17 : MS h_13 (uf (uf φ 62 (cpF (φ 64) 0 (φ 62) (512 * k) m)) 63 (upd (φ 63) k (nI m))) (ui i 0 0) := MS.setA (p := 63) (f := upd (φ 63) k (nI m)) S_12 rfl f_16 g_15
  have F_18 := fmA (p := 63) rfl g_15
  refine R_aload_n (pc := 62) 0 dX12_take_62 rfl rfl ?_
  refine R_get (pc := 63) dX12_take_63 fX12_301 S_17.2 (by omega) rfl ?_
  refine R_eqi (y := i 2) rfl ?_
  refine R_eqi (y := nI m) (hm2) ?_
  exact R_ireturn (pc := 66) dX12_take_66 rfl (by decide) (by decide) ⟨rfl, rfl, S_17, ((F_5.tr F_11).tr F_18)⟩
