set_option maxHeartbeats 4000000 in
set_option maxRecDepth 100000 in
theorem qX12_feed_loop {l : Launch} {w : am_W} {h : am_H} {n : Nat} {φ : Nat → fA} {i : mI} (hn : 90 ≤ n) (k : Nat) (hk : k < 4) (L : Nat) (hL : φ 63 k = nI L) (m : Nat) (x : Int64) (hm : L + m ≤ rmN k) : ∀ (c a : Nat), a + c = m → ∀ h2, MS h2 (uf (uf φ 62 (pgF (fun j => (jlshr x (8 * nI (m - 1 - j))).toInt32 &&& 255) (φ 62) (512 * k + L) a)) 63 (upd (φ 63) k (nI (L + a)))) i → FM h h2 → RW l w mX12_feed h2 n 0 0 67 [(5, .int (nI c - 1)), (0, .ref 61), (1, .int (nI k)), (2, .long x), (4, .int (nI m))] [] (fun h' n' r => n' = n ∧ mQ h (some (.int (nI (L + m)))) (uf (uf φ 62 (pgF (fun j => (jlshr x (8 * nI (m - 1 - j))).toInt32 &&& 255) (φ 62) (512 * k + L) m)) 63 (upd (φ 63) k (nI (L + m)))) i h' r) := by
  have hrm := rmN_le k hk
  intro c
  induction c with
  | zero =>
    intro a hd h2 S2 hF
    refine R_iload (pc := 67) 0 dX12_feed_67 rfl ?_
    refine R_if_lt (pc := 69) (tgt := 117) dX12_feed_69 (by decide) (fun c_1 => ?_) (fun c_1 => absurd (by decide) c_1)
    refine R_aload_n (pc := 117) 1 dX12_feed_117 rfl rfl ?_
    refine R_get (pc := 118) dX12_feed_118 fX12_13 S2.2 (by omega) rfl ?_
    refine R_iload_n (pc := 121) 2 dX12_feed_121 rfl rfl ?_
    refine R_iald' (pc := 122) (j := k) dX12_feed_122 (S2.1 63 rfl) (by omega) ⟨rfl, by show k < 4; omega, by decide⟩ ?_
    refine R_eqi (y := (upd (φ 63) k (nI (L + a))) k) (by first | rfl | (simp only [uf_s, uf_n, ne_eq])) ?_
    refine R_eqi (y := nI (L + a)) (upd_s _ _ _) ?_
    obtain rfl : a = m := by omega
    exact R_ireturn (pc := 123) dX12_feed_123 rfl (by decide) (by decide) ⟨rfl, rfl, S2, hF⟩
  | succ c ih =>
    intro a hd h2 S2 hF
    refine R_iload (pc := 67) 0 dX12_feed_67 rfl ?_
    refine R_if_lt (pc := 69) (tgt := 117) dX12_feed_69 (by decide) (fun c_1 => absurd c_1 (by rw [nI_pred]; exact nI_pos (by omega))) (fun c_1 => ?_)
    refine R_aload_n (pc := 72) 1 dX12_feed_72 rfl rfl ?_
    refine R_get (pc := 73) dX12_feed_73 fX12_7 S2.2 (by omega) rfl ?_
    refine R_sipush (pc := 76) (v := 512) dX12_feed_76 (by decide) ?_
    refine R_iload_n (pc := 79) 2 dX12_feed_79 rfl rfl ?_
    refine R_imul (pc := 80) dX12_feed_80 ?_
    refine R_eqi (y := nI (512 * k)) (nI_mul 512 k) ?_
    refine R_aload_n (pc := 81) 1 dX12_feed_81 rfl rfl ?_
    refine R_get (pc := 82) dX12_feed_82 fX12_13 S2.2 (by omega) rfl ?_
    refine R_iload_n (pc := 85) 2 dX12_feed_85 rfl rfl ?_
    refine R_iald' (pc := 86) (j := k) dX12_feed_86 (S2.1 63 rfl) (by omega) ⟨rfl, by show k < 4; omega, by decide⟩ ?_
    refine R_eqi (y := (upd (φ 63) k (nI (L + a))) k) (by first | rfl | (simp only [uf_s, uf_n, ne_eq])) ?_
    refine R_eqi (y := nI (L + a)) (upd_s _ _ _) ?_
    refine R_iadd (pc := 87) dX12_feed_87 ?_
    refine R_eqi (y := nI (512 * k + L + a)) ((nI_add _ _).trans (by rw [Nat.add_assoc])) ?_
    refine R_lload_n (pc := 88) 3 dX12_feed_88 rfl rfl ?_
    refine R_bipush (pc := 89) (v := 8) dX12_feed_89 (by decide) ?_
    refine R_iload (pc := 91) 0 dX12_feed_91 rfl ?_
    refine R_eqi (y := nI c) (nI_pred c) ?_
    refine R_imul (pc := 93) dX12_feed_93 ?_
    refine R_lshr (pc := 94) (v := jlshr x (8 * (nI c))) dX12_feed_94 rfl ?_
    refine R_l2i (pc := 95) (v := (jlshr x (8 * (nI c))).toInt32) dX12_feed_95 rfl ?_
    refine R_sipush (pc := 96) (v := 255) dX12_feed_96 (by decide) ?_
    refine R_iand (pc := 99) dX12_feed_99 ?_
    refine R_iast' (pc := 100) (j := 512 * k + L + a) dX12_feed_100 (S2.1 62 rfl) (by omega) ⟨rfl, by show 512 * k + L + a < 2048; omega, by decide⟩ (fun h_2 f_3 g_4 => ?_)
    have f_5 : h_2 62 = .inl (mN 62, upd (pgF (fun j => (jlshr x (8 * nI (m - 1 - j))).toInt32 &&& 255) (φ 62) (512 * k + L) a) (512 * k + L + a) (((jlshr x (8 * (nI c))).toInt32) &&& 255)) := by first | exact f_3 | (simp only [uf_s] at f_3; exact f_3)
    have S_6 : MS h_2 (uf (uf (uf φ 62 (pgF (fun j => (jlshr x (8 * nI (m - 1 - j))).toInt32 &&& 255) (φ 62) (512 * k + L) a)) 63 (upd (φ 63) k (nI (L + a)))) 62 (upd (pgF (fun j => (jlshr x (8 * nI (m - 1 - j))).toInt32 &&& 255) (φ 62) (512 * k + L) a) (512 * k + L + a) (((jlshr x (8 * (nI c))).toInt32) &&& 255))) i := MS.setA (p := 62) (f := upd (pgF (fun j => (jlshr x (8 * nI (m - 1 - j))).toInt32 &&& 255) (φ 62) (512 * k + L) a) (512 * k + L + a) (((jlshr x (8 * (nI c))).toInt32) &&& 255)) S2 rfl f_5 g_4
    have F_7 := fmA (p := 62) rfl g_4
    refine R_aload_n (pc := 101) 1 dX12_feed_101 rfl rfl ?_
    refine R_get (pc := 102) dX12_feed_102 fX12_13 S_6.2 (by omega) rfl ?_
    refine R_iload_n (pc := 105) 2 dX12_feed_105 rfl rfl ?_
    refine R_dup2 (pc := 106) dX12_feed_106 rfl rfl ?_
    refine R_iald' (pc := 107) (j := k) dX12_feed_107 (S_6.1 63 rfl) (by omega) ⟨rfl, by show k < 4; omega, by decide⟩ ?_
    refine R_eqi (y := (upd (φ 63) k (nI (L + a))) k) (by first | rfl | (simp only [uf_s, uf_n, ne_eq])) ?_
    refine R_eqi (y := nI (L + a)) (upd_s _ _ _) ?_
    refine R_iconst (pc := 108) (v := 1) dX12_feed_108 (by decide) ?_
    refine R_iadd (pc := 109) dX12_feed_109 ?_
    refine R_eqi (y := nI (L + a + 1)) (nI_1 _) ?_
    refine R_iast' (pc := 110) (j := k) dX12_feed_110 (S_6.1 63 rfl) (by omega) ⟨rfl, by show k < 4; omega, by decide⟩ (fun h_8 f_9 g_10 => ?_)
    have f_11 : h_8 63 = .inl (mN 63, upd (upd (φ 63) k (nI (L + a))) k (nI (L + a + 1))) := by first | exact f_9 | (simp only [uf_s] at f_9; exact f_9)
    have S_12 : MS h_8 (uf (uf (uf (uf φ 62 (pgF (fun j => (jlshr x (8 * nI (m - 1 - j))).toInt32 &&& 255) (φ 62) (512 * k + L) a)) 63 (upd (φ 63) k (nI (L + a)))) 62 (upd (pgF (fun j => (jlshr x (8 * nI (m - 1 - j))).toInt32 &&& 255) (φ 62) (512 * k + L) a) (512 * k + L + a) (((jlshr x (8 * (nI c))).toInt32) &&& 255))) 63 (upd (upd (φ 63) k (nI (L + a))) k (nI (L + a + 1)))) i := MS.setA (p := 63) (f := upd (upd (φ 63) k (nI (L + a))) k (nI (L + a + 1))) S_6 rfl f_11 g_10
    have F_13 := fmA (p := 63) rfl g_10
    refine R_iinc (pc := 111) (j := 0) (v := nI c - 1) (lv' := [(5, .int (nI c - 1)), (0, .ref 61), (1, .int (nI k)), (2, .long x), (4, .int (nI m))]) dX12_feed_111 rfl (nI_dec c) (by decide) rfl ?_
    refine R_goto (pc := 114) (tgt := 67) dX12_feed_114 (by decide) ?_
    refine R_sub [0, 1, 2, 3, 4] rfl ?_
    exact ih (a + 1) (by omega) h_8 (by have z_ := S_12; rw [uf4 (by decide), upd_upd, pgF_up (fun j => (jlshr x (8 * nI (m - 1 - j))).toInt32 &&& 255) (φ 62) (512 * k + L) a (v := (jlshr x (8 * nI c)).toInt32 &&& 255) (by show _ = (jlshr x (8 * nI (m - 1 - a))).toInt32 &&& 255; rw [show m - 1 - a = c by omega])] at z_; exact z_) (hF.tr (F_7.tr F_13))
set_option maxHeartbeats 4000000 in
set_option maxRecDepth 100000 in
theorem qX12_feed_N {l : Launch} {w : am_W} {h : am_H} {n : Nat} {φ : Nat → fA} {i : mI} (S : MS h φ i) (hn : 90 ≤ n) (v : Int32) (hv : inI v 0 3 = 0) (x : Int64) (j : Int32) : RH l w mX12_feed h n [.ref 61, .int v, .long x, .int j] (mQ h (some (.int (-2))) φ (ui i 0 0)) := by
  refine RC.of [(0, .ref 61), (1, .int v), (2, .long x), (4, .int j)] (by decide +kernel) rfl (Nat.le_of_ble_eq_true rfl) ?_
  refine R_aload_n (pc := 0) 0 dX12_feed_0 rfl rfl ?_
  refine R_iconst (pc := 1) (v := 0) dX12_feed_1 (by decide) ?_
  refine R_put' (pc := 2) (fs' := [.int 0, .ref 62, .ref 63, .int (i 1), .ref 64, .int (i 2), .ref 65, .ref 66, .ref 67, .ref 68, .ref 69, .ref 70, .ref 71, .int (i 3), .ref 72, .int (i 4), .ref 73, .int (i 5), .ref 74, .int (i 6), .ref 75, .ref 76, .ref 77, .ref 78, .ref 79, .ref 80, .ref 81, .ref 82, .ref 83, .ref 84, .int (i 7), .ref 85, .ref 86, .ref 87, .ref 88, .ref 89, .ref 90]) dX12_feed_2 fX12_105 tX12_0 rfl rfl S.2 (by omega) (Nat.le_of_ble_eq_true rfl) rfl (fun h_1 f_2 g_3 => ?_)
  have S_4 : MS h_1 φ (ui i 0 0) := MS.setI (j := (ui i 0 0)) S f_2 g_3
  have F_5 := fmI g_3
  refine R_iload_n (pc := 5) 1 dX12_feed_5 rfl rfl ?_
  refine R_iconst (pc := 6) (v := 0) dX12_feed_6 (by decide) ?_
  refine R_iconst (pc := 7) (v := 3) dX12_feed_7 (by decide) ?_
  refine R_callSp (pc := 8) (μ' := mX12_in) (As := [.int v, .int 0, .int 3]) (st := []) dX12_feed_8 zX12_in lX12_108 ⟨by decide, by decide⟩ rfl rfl ⟨by decide, by decide⟩ rfl (Nat.le_of_ble_eq_true rfl) (qX12_in l w _ _ _ _ _) ?_
  refine R_if_eq (pc := 11) (tgt := 25) dX12_feed_11 (by decide) (fun c_6 => ?_) (fun c_6 => absurd (hv) c_6)
  refine R_bipush (pc := 25) (v := (-2)) dX12_feed_25 (by decide) ?_
  exact R_ireturn (pc := 27) dX12_feed_27 rfl (by decide) (by decide) ⟨rfl, rfl, S_4, F_5⟩
set_option maxHeartbeats 4000000 in
set_option maxRecDepth 100000 in
theorem qX12_feed_R1 {l : Launch} {w : am_W} {h : am_H} {n : Nat} {φ : Nat → fA} {i : mI} (S : MS h φ i) (hn : 90 ≤ n) (k : Nat) (hk : k < 4) (x : Int64) (j : Int32) (hj : inI j 0 8 = 0) : RH l w mX12_feed h n [.ref 61, .int (nI k), .long x, .int j] (mQ h (some (.int (-2))) φ (ui i 0 0)) := by
  refine RC.of [(0, .ref 61), (1, .int (nI k)), (2, .long x), (4, .int j)] (by decide +kernel) rfl (Nat.le_of_ble_eq_true rfl) ?_
  refine R_aload_n (pc := 0) 0 dX12_feed_0 rfl rfl ?_
  refine R_iconst (pc := 1) (v := 0) dX12_feed_1 (by decide) ?_
  refine R_put' (pc := 2) (fs' := [.int 0, .ref 62, .ref 63, .int (i 1), .ref 64, .int (i 2), .ref 65, .ref 66, .ref 67, .ref 68, .ref 69, .ref 70, .ref 71, .int (i 3), .ref 72, .int (i 4), .ref 73, .int (i 5), .ref 74, .int (i 6), .ref 75, .ref 76, .ref 77, .ref 78, .ref 79, .ref 80, .ref 81, .ref 82, .ref 83, .ref 84, .int (i 7), .ref 85, .ref 86, .ref 87, .ref 88, .ref 89, .ref 90]) dX12_feed_2 fX12_105 tX12_0 rfl rfl S.2 (by omega) (Nat.le_of_ble_eq_true rfl) rfl (fun h_1 f_2 g_3 => ?_)
  have S_4 : MS h_1 φ (ui i 0 0) := MS.setI (j := (ui i 0 0)) S f_2 g_3
  have F_5 := fmI g_3
  refine R_iload_n (pc := 5) 1 dX12_feed_5 rfl rfl ?_
  refine R_iconst (pc := 6) (v := 0) dX12_feed_6 (by decide) ?_
  refine R_iconst (pc := 7) (v := 3) dX12_feed_7 (by decide) ?_
  refine R_callSp (pc := 8) (μ' := mX12_in) (As := [.int (nI k), .int 0, .int 3]) (st := []) dX12_feed_8 zX12_in lX12_108 ⟨by decide, by decide⟩ rfl rfl ⟨by decide, by decide⟩ rfl (Nat.le_of_ble_eq_true rfl) (qX12_in l w _ _ _ _ _) ?_
  refine R_if_eq (pc := 11) (tgt := 25) dX12_feed_11 (by decide) (fun c_6 => absurd c_6 (in03 k hk)) (fun c_6 => ?_)
  refine R_iload (pc := 14) 3 dX12_feed_14 rfl ?_
  refine R_iconst (pc := 16) (v := 0) dX12_feed_16 (by decide) ?_
  refine R_bipush (pc := 17) (v := 8) dX12_feed_17 (by decide) ?_
  refine R_callSp (pc := 19) (μ' := mX12_in) (As := [.int j, .int 0, .int 8]) (st := []) dX12_feed_19 zX12_in lX12_108 ⟨by decide, by decide⟩ rfl rfl ⟨by decide, by decide⟩ rfl (Nat.le_of_ble_eq_true rfl) (qX12_in l w _ _ _ _ _) ?_
  refine R_if_ne (pc := 22) (tgt := 28) dX12_feed_22 (by decide) (fun c_7 => absurd (hj) c_7) (fun c_7 => ?_)
  refine R_bipush (pc := 25) (v := (-2)) dX12_feed_25 (by decide) ?_
  exact R_ireturn (pc := 27) dX12_feed_27 rfl (by decide) (by decide) ⟨rfl, rfl, S_4, F_5⟩
set_option maxHeartbeats 4000000 in
set_option maxRecDepth 100000 in
theorem qX12_feed_0 {l : Launch} {w : am_W} {h : am_H} {n : Nat} {φ : Nat → fA} {i : mI} (S : MS h φ i) (hn : 90 ≤ n) (k : Nat) (hk : k < 4) (x : Int64) : RH l w mX12_feed h n [.ref 61, .int (nI k), .long x, .int 0] (mQ h (some (.int 0)) (uf φ 63 (upd (φ 63) k 0)) (ui i 0 0)) := by
  refine RC.of [(0, .ref 61), (1, .int (nI k)), (2, .long x), (4, .int 0)] (by decide +kernel) rfl (Nat.le_of_ble_eq_true rfl) ?_
  refine R_aload_n (pc := 0) 0 dX12_feed_0 rfl rfl ?_
  refine R_iconst (pc := 1) (v := 0) dX12_feed_1 (by decide) ?_
  refine R_put' (pc := 2) (fs' := [.int 0, .ref 62, .ref 63, .int (i 1), .ref 64, .int (i 2), .ref 65, .ref 66, .ref 67, .ref 68, .ref 69, .ref 70, .ref 71, .int (i 3), .ref 72, .int (i 4), .ref 73, .int (i 5), .ref 74, .int (i 6), .ref 75, .ref 76, .ref 77, .ref 78, .ref 79, .ref 80, .ref 81, .ref 82, .ref 83, .ref 84, .int (i 7), .ref 85, .ref 86, .ref 87, .ref 88, .ref 89, .ref 90]) dX12_feed_2 fX12_105 tX12_0 rfl rfl S.2 (by omega) (Nat.le_of_ble_eq_true rfl) rfl (fun h_1 f_2 g_3 => ?_)
  have S_4 : MS h_1 φ (ui i 0 0) := MS.setI (j := (ui i 0 0)) S f_2 g_3
  have F_5 := fmI g_3
  refine R_iload_n (pc := 5) 1 dX12_feed_5 rfl rfl ?_
  refine R_iconst (pc := 6) (v := 0) dX12_feed_6 (by decide) ?_
  refine R_iconst (pc := 7) (v := 3) dX12_feed_7 (by decide) ?_
  refine R_callSp (pc := 8) (μ' := mX12_in) (As := [.int (nI k), .int 0, .int 3]) (st := []) dX12_feed_8 zX12_in lX12_108 ⟨by decide, by decide⟩ rfl rfl ⟨by decide, by decide⟩ rfl (Nat.le_of_ble_eq_true rfl) (qX12_in l w _ _ _ _ _) ?_
  refine R_if_eq (pc := 11) (tgt := 25) dX12_feed_11 (by decide) (fun c_6 => absurd c_6 (in03 k hk)) (fun c_6 => ?_)
  refine R_iload (pc := 14) 3 dX12_feed_14 rfl ?_
  refine R_iconst (pc := 16) (v := 0) dX12_feed_16 (by decide) ?_
  refine R_bipush (pc := 17) (v := 8) dX12_feed_17 (by decide) ?_
  refine R_callSp (pc := 19) (μ' := mX12_in) (As := [.int 0, .int 0, .int 8]) (st := []) dX12_feed_19 zX12_in lX12_108 ⟨by decide, by decide⟩ rfl rfl ⟨by decide, by decide⟩ rfl (Nat.le_of_ble_eq_true rfl) (qX12_in l w _ _ _ _ _) ?_
  refine R_if_ne (pc := 22) (tgt := 28) dX12_feed_22 (by decide) (fun c_7 => ?_) (fun c_7 => absurd c_7 (by decide))
  refine R_iload (pc := 28) 3 dX12_feed_28 rfl ?_
  refine R_if_ne (pc := 30) (tgt := 42) dX12_feed_30 (by decide) (fun c_8 => absurd (rfl) c_8) (fun c_8 => ?_)
  refine R_aload_n (pc := 33) 0 dX12_feed_33 rfl rfl ?_
  refine R_get (pc := 34) dX12_feed_34 fX12_13 S_4.2 (by omega) rfl ?_
  refine R_iload_n (pc := 37) 1 dX12_feed_37 rfl rfl ?_
  refine R_iconst (pc := 38) (v := 0) dX12_feed_38 (by decide) ?_
  refine R_iast' (pc := 39) (j := k) dX12_feed_39 (S_4.1 63 rfl) (by omega) ⟨rfl, by show k < 4; omega, by decide⟩ (fun h_9 f_10 g_11 => ?_)
  have S_12 : MS h_9 (uf φ 63 (upd (φ 63) k 0)) (ui i 0 0) := MS.setA (p := 63) (f := upd (φ 63) k 0) S_4 rfl f_10 g_11
  have F_13 := fmA (p := 63) rfl g_11
  refine R_iconst (pc := 40) (v := 0) dX12_feed_40 (by decide) ?_
  exact R_ireturn (pc := 41) dX12_feed_41 rfl (by decide) (by decide) ⟨rfl, rfl, S_12, (F_5.tr F_13)⟩
theorem in08 : ∀ m, m ≤ 8 → ¬ inI (nI m) 0 8 = 0 := by decide
set_option maxHeartbeats 4000000 in
set_option maxRecDepth 100000 in
theorem qX12_feed_R2 {l : Launch} {w : am_W} {h : am_H} {n : Nat} {φ : Nat → fA} {i : mI} (S : MS h φ i) (hn : 90 ≤ n) (k : Nat) (hk : k < 4) (L : Nat) (hL : φ 63 k = nI L) (hLr : L ≤ rmN k) (m : Nat) (hm1 : 0 < m) (hm8 : m ≤ 8) (x : Int64) (hm : ¬ L + m ≤ rmN k) : RH l w mX12_feed h n [.ref 61, .int (nI k), .long x, .int (nI m)] (mQ h (some (.int (-4))) φ (ui i 0 0)) := by
  refine RC.of [(0, .ref 61), (1, .int (nI k)), (2, .long x), (4, .int (nI m))] (by decide +kernel) rfl (Nat.le_of_ble_eq_true rfl) ?_
  have hrm := rmN_le k hk
  refine R_aload_n (pc := 0) 0 dX12_feed_0 rfl rfl ?_
  refine R_iconst (pc := 1) (v := 0) dX12_feed_1 (by decide) ?_
  refine R_put' (pc := 2) (fs' := [.int 0, .ref 62, .ref 63, .int (i 1), .ref 64, .int (i 2), .ref 65, .ref 66, .ref 67, .ref 68, .ref 69, .ref 70, .ref 71, .int (i 3), .ref 72, .int (i 4), .ref 73, .int (i 5), .ref 74, .int (i 6), .ref 75, .ref 76, .ref 77, .ref 78, .ref 79, .ref 80, .ref 81, .ref 82, .ref 83, .ref 84, .int (i 7), .ref 85, .ref 86, .ref 87, .ref 88, .ref 89, .ref 90]) dX12_feed_2 fX12_105 tX12_0 rfl rfl S.2 (by omega) (Nat.le_of_ble_eq_true rfl) rfl (fun h_1 f_2 g_3 => ?_)
  have S_4 : MS h_1 φ (ui i 0 0) := MS.setI (j := (ui i 0 0)) S f_2 g_3
  have F_5 := fmI g_3
  refine R_iload_n (pc := 5) 1 dX12_feed_5 rfl rfl ?_
  refine R_iconst (pc := 6) (v := 0) dX12_feed_6 (by decide) ?_
  refine R_iconst (pc := 7) (v := 3) dX12_feed_7 (by decide) ?_
  refine R_callSp (pc := 8) (μ' := mX12_in) (As := [.int (nI k), .int 0, .int 3]) (st := []) dX12_feed_8 zX12_in lX12_108 ⟨by decide, by decide⟩ rfl rfl ⟨by decide, by decide⟩ rfl (Nat.le_of_ble_eq_true rfl) (qX12_in l w _ _ _ _ _) ?_
  refine R_if_eq (pc := 11) (tgt := 25) dX12_feed_11 (by decide) (fun c_6 => absurd c_6 (in03 k hk)) (fun c_6 => ?_)
  refine R_iload (pc := 14) 3 dX12_feed_14 rfl ?_
  refine R_iconst (pc := 16) (v := 0) dX12_feed_16 (by decide) ?_
  refine R_bipush (pc := 17) (v := 8) dX12_feed_17 (by decide) ?_
  refine R_callSp (pc := 19) (μ' := mX12_in) (As := [.int (nI m), .int 0, .int 8]) (st := []) dX12_feed_19 zX12_in lX12_108 ⟨by decide, by decide⟩ rfl rfl ⟨by decide, by decide⟩ rfl (Nat.le_of_ble_eq_true rfl) (qX12_in l w _ _ _ _ _) ?_
  refine R_if_ne (pc := 22) (tgt := 28) dX12_feed_22 (by decide) (fun c_7 => ?_) (fun c_7 => absurd c_7 (in08 m hm8))
  refine R_iload (pc := 28) 3 dX12_feed_28 rfl ?_
  refine R_if_ne (pc := 30) (tgt := 42) dX12_feed_30 (by decide) (fun c_8 => ?_) (fun c_8 => absurd c_8 (nI_ne0 hm1 (by omega)))
  refine R_aload_n (pc := 42) 0 dX12_feed_42 rfl rfl ?_
  refine R_get (pc := 43) dX12_feed_43 fX12_13 S_4.2 (by omega) rfl ?_
  refine R_iload_n (pc := 46) 1 dX12_feed_46 rfl rfl ?_
  refine R_iald' (pc := 47) (j := k) dX12_feed_47 (S_4.1 63 rfl) (by omega) ⟨rfl, by show k < 4; omega, by decide⟩ ?_
  refine R_eqi (y := nI L) (hL) ?_
  refine R_iload (pc := 48) 3 dX12_feed_48 rfl ?_
  refine R_iadd (pc := 50) dX12_feed_50 ?_
  refine R_eqi (y := nI (L + m)) (nI_add _ _) ?_
  refine R_iload_n (pc := 51) 1 dX12_feed_51 rfl rfl ?_
  refine R_callSp (pc := 52) (μ' := mX12_room) (As := [.int (nI k)]) (st := [.int (nI (L + m))]) dX12_feed_52 zX12_room lX12_112 ⟨by decide, by decide⟩ rfl rfl ⟨by decide, by decide⟩ rfl (Nat.le_of_ble_eq_true rfl) (qX12_room l w _ _ _) ?_
  refine R_eqi (y := nI (rmN k)) (ro_nI k hk) ?_
  refine R_icmp_le (pc := 55) (tgt := 61) dX12_feed_55 (by decide) (fun c_9 => absurd c_9 (nI_ge (a := rmN k) (b := L + m) (by omega) (by omega))) (fun c_9 => ?_)
  refine R_bipush (pc := 58) (v := (-4)) dX12_feed_58 (by decide) ?_
  exact R_ireturn (pc := 60) dX12_feed_60 rfl (by decide) (by decide) ⟨rfl, rfl, S_4, F_5⟩
set_option maxHeartbeats 4000000 in
set_option maxRecDepth 100000 in
theorem qX12_feed {l : Launch} {w : am_W} {h : am_H} {n : Nat} {φ : Nat → fA} {i : mI} (S : MS h φ i) (hn : 90 ≤ n) (k : Nat) (hk : k < 4) (L : Nat) (hL : φ 63 k = nI L) (m : Nat) (x : Int64) (hm : L + m ≤ rmN k) (hm1 : 0 < m) (hm8 : m ≤ 8) : RH l w mX12_feed h n [.ref 61, .int (nI k), .long x, .int (nI m)] (mQ h (some (.int (nI (L + m)))) (uf (uf φ 62 (pgF (fun j => (jlshr x (8 * nI (m - 1 - j))).toInt32 &&& 255) (φ 62) (512 * k + L) m)) 63 (upd (φ 63) k (nI (L + m)))) (ui i 0 0)) := by
  refine RC.of [(0, .ref 61), (1, .int (nI k)), (2, .long x), (4, .int (nI m))] (by decide +kernel) rfl (Nat.le_of_ble_eq_true rfl) ?_
  have hrm := rmN_le k hk
  refine R_aload_n (pc := 0) 0 dX12_feed_0 rfl rfl ?_
  refine R_iconst (pc := 1) (v := 0) dX12_feed_1 (by decide) ?_
  refine R_put' (pc := 2) (fs' := [.int 0, .ref 62, .ref 63, .int (i 1), .ref 64, .int (i 2), .ref 65, .ref 66, .ref 67, .ref 68, .ref 69, .ref 70, .ref 71, .int (i 3), .ref 72, .int (i 4), .ref 73, .int (i 5), .ref 74, .int (i 6), .ref 75, .ref 76, .ref 77, .ref 78, .ref 79, .ref 80, .ref 81, .ref 82, .ref 83, .ref 84, .int (i 7), .ref 85, .ref 86, .ref 87, .ref 88, .ref 89, .ref 90]) dX12_feed_2 fX12_105 tX12_0 rfl rfl S.2 (by omega) (Nat.le_of_ble_eq_true rfl) rfl (fun h_1 f_2 g_3 => ?_)
  have S_4 : MS h_1 φ (ui i 0 0) := MS.setI (j := (ui i 0 0)) S f_2 g_3
  have F_5 := fmI g_3
  refine R_iload_n (pc := 5) 1 dX12_feed_5 rfl rfl ?_
  refine R_iconst (pc := 6) (v := 0) dX12_feed_6 (by decide) ?_
  refine R_iconst (pc := 7) (v := 3) dX12_feed_7 (by decide) ?_
  refine R_callSp (pc := 8) (μ' := mX12_in) (As := [.int (nI k), .int 0, .int 3]) (st := []) dX12_feed_8 zX12_in lX12_108 ⟨by decide, by decide⟩ rfl rfl ⟨by decide, by decide⟩ rfl (Nat.le_of_ble_eq_true rfl) (qX12_in l w _ _ _ _ _) ?_
  refine R_if_eq (pc := 11) (tgt := 25) dX12_feed_11 (by decide) (fun c_6 => absurd c_6 (in03 k hk)) (fun c_6 => ?_)
  refine R_iload (pc := 14) 3 dX12_feed_14 rfl ?_
  refine R_iconst (pc := 16) (v := 0) dX12_feed_16 (by decide) ?_
  refine R_bipush (pc := 17) (v := 8) dX12_feed_17 (by decide) ?_
  refine R_callSp (pc := 19) (μ' := mX12_in) (As := [.int (nI m), .int 0, .int 8]) (st := []) dX12_feed_19 zX12_in lX12_108 ⟨by decide, by decide⟩ rfl rfl ⟨by decide, by decide⟩ rfl (Nat.le_of_ble_eq_true rfl) (qX12_in l w _ _ _ _ _) ?_
  refine R_if_ne (pc := 22) (tgt := 28) dX12_feed_22 (by decide) (fun c_7 => ?_) (fun c_7 => absurd c_7 (in08 m hm8))
  refine R_iload (pc := 28) 3 dX12_feed_28 rfl ?_
  refine R_if_ne (pc := 30) (tgt := 42) dX12_feed_30 (by decide) (fun c_8 => ?_) (fun c_8 => absurd c_8 (nI_ne0 hm1 (by omega)))
  refine R_aload_n (pc := 42) 0 dX12_feed_42 rfl rfl ?_
  refine R_get (pc := 43) dX12_feed_43 fX12_13 S_4.2 (by omega) rfl ?_
  refine R_iload_n (pc := 46) 1 dX12_feed_46 rfl rfl ?_
  refine R_iald' (pc := 47) (j := k) dX12_feed_47 (S_4.1 63 rfl) (by omega) ⟨rfl, by show k < 4; omega, by decide⟩ ?_
  refine R_eqi (y := nI L) (hL) ?_
  refine R_iload (pc := 48) 3 dX12_feed_48 rfl ?_
  refine R_iadd (pc := 50) dX12_feed_50 ?_
  refine R_eqi (y := nI (L + m)) (nI_add _ _) ?_
  refine R_iload_n (pc := 51) 1 dX12_feed_51 rfl rfl ?_
  refine R_callSp (pc := 52) (μ' := mX12_room) (As := [.int (nI k)]) (st := [.int (nI (L + m))]) dX12_feed_52 zX12_room lX12_112 ⟨by decide, by decide⟩ rfl rfl ⟨by decide, by decide⟩ rfl (Nat.le_of_ble_eq_true rfl) (qX12_room l w _ _ _) ?_
  refine R_eqi (y := nI (rmN k)) (ro_nI k hk) ?_
  refine R_icmp_le (pc := 55) (tgt := 61) dX12_feed_55 (by decide) (fun c_9 => ?_) (fun c_9 => absurd (nI_le (a := L + m) (b := rmN k) (by omega) (by omega)) c_9)
  refine R_iload (pc := 61) 3 dX12_feed_61 rfl ?_
  refine R_iconst (pc := 63) (v := 1) dX12_feed_63 (by decide) ?_
  refine R_isub (pc := 64) dX12_feed_64 ?_
  refine R_istore (pc := 65) (lv' := [(5, .int ((nI m) - 1)), (0, .ref 61), (1, .int (nI k)), (2, .long x), (4, .int (nI m))]) dX12_feed_65 (by decide) rfl ?_
  refine R_sub [0, 1, 2, 3, 4] rfl ?_
  refine qX12_feed_loop (h := h) (φ := φ) hn k hk L hL m x hm m 0 (by omega) h_1 (by rw [pgF_0, uf_id, show L + 0 = L from rfl, upd_id hL, uf_id]; exact S_4) F_5
