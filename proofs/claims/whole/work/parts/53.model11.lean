theorem uf4 {φ : Nat → fA} {p q : Nat} (h : p ≠ q) (a b c d : fA) : uf (uf (uf (uf φ p a) q b) p c) q d = uf (uf φ p c) q d := by
  funext x
  unfold uf
  by_cases h1 : x = q
  · rw [if_pos h1, if_pos h1]
  · by_cases h2 : x = p
    · rw [if_neg h1, if_pos h2, if_neg h1, if_pos h2]
    · rw [if_neg h1, if_neg h2, if_neg h1, if_neg h2, if_neg h1, if_neg h2]
theorem upd_upd (f : fA) (k : Nat) (a b : Int32) : upd (upd f k a) k b = upd f k b := by
  funext x
  unfold upd
  by_cases h : x = k
  · rw [if_pos h, if_pos h]
  · rw [if_neg h, if_neg h, if_neg h]
theorem upd_id {f : fA} {k : Nat} {v : Int32} (h : f k = v) : upd f k v = f := by
  funext x
  unfold upd
  by_cases e : x = k
  · rw [if_pos e, e, h]
  · rw [if_neg e]
set_option maxHeartbeats 4000000 in
set_option maxRecDepth 100000 in
theorem qX12_fill_loop {l : Launch} {w : am_W} {h : am_H} {n : Nat} {φ : Nat → fA} {i : mI} (hn : 90 ≤ n) (k : Nat) (hk : k < 4) (L : Nat) (hL : φ 63 k = nI L) (m : Nat) (x : Int32) (hm : L + m ≤ rmN k) : ∀ (dd c : Nat), c + dd = m → ∀ h2, MS h2 (uf (uf φ 62 (pgF (fun j => jushr (flS x (j + 1)) 24) (φ 62) (512 * k + L) c)) 63 (upd (φ 63) k (nI (L + c)))) i → FM h h2 → RW l w mX12_fill h2 n 0 0 45 [(5, .int (nI c)), (4, .int (flS x c)), (0, .ref 61), (1, .int (nI k)), (2, .int (nI m)), (3, .int x)] [] (fun h' n' r => n' = n ∧ mQ h (some (.int (nI (L + m)))) (uf (uf φ 62 (pgF (fun j => jushr (flS x (j + 1)) 24) (φ 62) (512 * k + L) m)) 63 (upd (φ 63) k (nI (L + m)))) i h' r) := by
  have hrm := rmN_le k hk
  intro dd
  induction dd with
  | zero =>
    intro c hd h2 S2 hF
    refine R_iload (pc := 45) 0 dX12_fill_45 rfl ?_
    refine R_iload_n (pc := 47) 4 dX12_fill_47 rfl rfl ?_
    refine R_icmp_ge (pc := 48) (tgt := 99) dX12_fill_48 (by decide) (fun c_1 => ?_) (fun c_1 => absurd (nI_le (a := m) (b := c) (by omega) (by omega)) c_1)
    refine R_aload_n (pc := 99) 2 dX12_fill_99 rfl rfl ?_
    refine R_get (pc := 100) dX12_fill_100 fX12_13 S2.2 (by omega) rfl ?_
    refine R_iload_n (pc := 103) 3 dX12_fill_103 rfl rfl ?_
    refine R_iald' (pc := 104) (j := k) dX12_fill_104 (S2.1 63 rfl) (by omega) ⟨rfl, by show k < 4; omega, by decide⟩ ?_
    refine R_eqi (y := (upd (φ 63) k (nI (L + c))) k) (by first | rfl | (simp only [uf_s, uf_n, ne_eq])) ?_
    refine R_eqi (y := nI (L + c)) (upd_s _ _ _) ?_
    obtain rfl : c = m := by omega
    exact R_ireturn (pc := 105) dX12_fill_105 rfl (by decide) (by decide) ⟨rfl, rfl, S2, hF⟩
  | succ dd ih =>
    intro c hd h2 S2 hF
    refine R_iload (pc := 45) 0 dX12_fill_45 rfl ?_
    refine R_iload_n (pc := 47) 4 dX12_fill_47 rfl rfl ?_
    refine R_icmp_ge (pc := 48) (tgt := 99) dX12_fill_48 (by decide) (fun c_1 => absurd c_1 (nI_ge (a := c) (b := m) (by omega) (by omega))) (fun c_1 => ?_)
    refine R_iload (pc := 51) 1 dX12_fill_51 rfl ?_
    refine R_ldc (pc := 53) dX12_fill_53 cX12_116 ?_
    refine R_imul (pc := 55) dX12_fill_55 ?_
    refine R_ldc (pc := 56) dX12_fill_56 cX12_117 ?_
    refine R_iadd (pc := 58) dX12_fill_58 ?_
    refine R_eqi (y := flS x (c + 1)) (rfl) ?_
    refine R_istore (pc := 59) (lv' := [(4, .int (flS x (c + 1))), (5, .int (nI c)), (0, .ref 61), (1, .int (nI k)), (2, .int (nI m)), (3, .int x)]) dX12_fill_59 (by decide) rfl ?_
    refine R_aload_n (pc := 61) 2 dX12_fill_61 rfl rfl ?_
    refine R_get (pc := 62) dX12_fill_62 fX12_7 S2.2 (by omega) rfl ?_
    refine R_sipush (pc := 65) (v := 512) dX12_fill_65 (by decide) ?_
    refine R_iload_n (pc := 68) 3 dX12_fill_68 rfl rfl ?_
    refine R_imul (pc := 69) dX12_fill_69 ?_
    refine R_eqi (y := nI (512 * k)) (nI_mul 512 k) ?_
    refine R_aload_n (pc := 70) 2 dX12_fill_70 rfl rfl ?_
    refine R_get (pc := 71) dX12_fill_71 fX12_13 S2.2 (by omega) rfl ?_
    refine R_iload_n (pc := 74) 3 dX12_fill_74 rfl rfl ?_
    refine R_iald' (pc := 75) (j := k) dX12_fill_75 (S2.1 63 rfl) (by omega) ⟨rfl, by show k < 4; omega, by decide⟩ ?_
    refine R_eqi (y := (upd (φ 63) k (nI (L + c))) k) (by first | rfl | (simp only [uf_s, uf_n, ne_eq])) ?_
    refine R_eqi (y := nI (L + c)) (upd_s _ _ _) ?_
    refine R_iadd (pc := 76) dX12_fill_76 ?_
    refine R_eqi (y := nI (512 * k + L + c)) ((nI_add _ _).trans (by rw [Nat.add_assoc])) ?_
    refine R_iload (pc := 77) 0 dX12_fill_77 rfl ?_
    refine R_bipush (pc := 79) (v := 24) dX12_fill_79 (by decide) ?_
    refine R_iushr (pc := 81) (v := jushr (flS x (c + 1)) 24) dX12_fill_81 rfl ?_
    refine R_iast' (pc := 82) (j := 512 * k + L + c) dX12_fill_82 (S2.1 62 rfl) (by omega) ⟨rfl, by show 512 * k + L + c < 2048; omega, by decide⟩ (fun h_2 f_3 g_4 => ?_)
    have f_5 : h_2 62 = .inl (mN 62, upd (pgF (fun j => jushr (flS x (j + 1)) 24) (φ 62) (512 * k + L) c) (512 * k + L + c) (jushr (flS x (c + 1)) 24)) := by first | exact f_3 | (simp only [uf_s] at f_3; exact f_3)
    have S_6 : MS h_2 (uf (uf (uf φ 62 (pgF (fun j => jushr (flS x (j + 1)) 24) (φ 62) (512 * k + L) c)) 63 (upd (φ 63) k (nI (L + c)))) 62 (upd (pgF (fun j => jushr (flS x (j + 1)) 24) (φ 62) (512 * k + L) c) (512 * k + L + c) (jushr (flS x (c + 1)) 24))) i := MS.setA (p := 62) (f := upd (pgF (fun j => jushr (flS x (j + 1)) 24) (φ 62) (512 * k + L) c) (512 * k + L + c) (jushr (flS x (c + 1)) 24)) S2 rfl f_5 g_4
    have F_7 := fmA (p := 62) rfl g_4
    refine R_aload_n (pc := 83) 2 dX12_fill_83 rfl rfl ?_
    refine R_get (pc := 84) dX12_fill_84 fX12_13 S_6.2 (by omega) rfl ?_
    refine R_iload_n (pc := 87) 3 dX12_fill_87 rfl rfl ?_
    refine R_dup2 (pc := 88) dX12_fill_88 rfl rfl ?_
    refine R_iald' (pc := 89) (j := k) dX12_fill_89 (S_6.1 63 rfl) (by omega) ⟨rfl, by show k < 4; omega, by decide⟩ ?_
    refine R_eqi (y := (upd (φ 63) k (nI (L + c))) k) (by first | rfl | (simp only [uf_s, uf_n, ne_eq])) ?_
    refine R_eqi (y := nI (L + c)) (upd_s _ _ _) ?_
    refine R_iconst (pc := 90) (v := 1) dX12_fill_90 (by decide) ?_
    refine R_iadd (pc := 91) dX12_fill_91 ?_
    refine R_eqi (y := nI (L + c + 1)) (nI_1 _) ?_
    refine R_iast' (pc := 92) (j := k) dX12_fill_92 (S_6.1 63 rfl) (by omega) ⟨rfl, by show k < 4; omega, by decide⟩ (fun h_8 f_9 g_10 => ?_)
    have f_11 : h_8 63 = .inl (mN 63, upd (upd (φ 63) k (nI (L + c))) k (nI (L + c + 1))) := by first | exact f_9 | (simp only [uf_s] at f_9; exact f_9)
    have S_12 : MS h_8 (uf (uf (uf (uf φ 62 (pgF (fun j => jushr (flS x (j + 1)) 24) (φ 62) (512 * k + L) c)) 63 (upd (φ 63) k (nI (L + c)))) 62 (upd (pgF (fun j => jushr (flS x (j + 1)) 24) (φ 62) (512 * k + L) c) (512 * k + L + c) (jushr (flS x (c + 1)) 24))) 63 (upd (upd (φ 63) k (nI (L + c))) k (nI (L + c + 1)))) i := MS.setA (p := 63) (f := upd (upd (φ 63) k (nI (L + c))) k (nI (L + c + 1))) S_6 rfl f_11 g_10
    have F_13 := fmA (p := 63) rfl g_10
    refine R_iinc (pc := 93) (j := 1) (v := nI (c + 1)) (lv' := [(5, .int (nI (c + 1))), (4, .int (flS x (c + 1))), (0, .ref 61), (1, .int (nI k)), (2, .int (nI m)), (3, .int x)]) dX12_fill_93 rfl (nI_1 c) (by decide) rfl ?_
    refine R_goto (pc := 96) (tgt := 45) dX12_fill_96 (by decide) ?_
    refine R_sub [0, 1, 2, 3, 4, 5] rfl ?_
    exact ih (c + 1) (by omega) h_8 (by have z_ := S_12; rw [uf4 (by decide), upd_upd, pgF_up (fun j => jushr (flS x (j + 1)) 24) (φ 62) (512 * k + L) c (v := jushr (flS x (c + 1)) 24) rfl] at z_; exact z_) (hF.tr (F_7.tr F_13))
set_option maxHeartbeats 4000000 in
set_option maxRecDepth 100000 in
theorem qX12_fill_N {l : Launch} {w : am_W} {h : am_H} {n : Nat} {φ : Nat → fA} {i : mI} (S : MS h φ i) (hn : 90 ≤ n) (v : Int32) (hv : inI v 0 3 = 0) (j x : Int32) : RH l w mX12_fill h n [.ref 61, .int v, .int j, .int x] (mQ h (some (.int (-2))) φ (ui i 0 0)) := by
  refine RC.of [(0, .ref 61), (1, .int v), (2, .int j), (3, .int x)] (by decide +kernel) rfl (Nat.le_of_ble_eq_true rfl) ?_
  refine R_aload_n (pc := 0) 0 dX12_fill_0 rfl rfl ?_
  refine R_iconst (pc := 1) (v := 0) dX12_fill_1 (by decide) ?_
  refine R_put' (pc := 2) (fs' := [.int 0, .ref 62, .ref 63, .int (i 1), .ref 64, .int (i 2), .ref 65, .ref 66, .ref 67, .ref 68, .ref 69, .ref 70, .ref 71, .int (i 3), .ref 72, .int (i 4), .ref 73, .int (i 5), .ref 74, .int (i 6), .ref 75, .ref 76, .ref 77, .ref 78, .ref 79, .ref 80, .ref 81, .ref 82, .ref 83, .ref 84, .int (i 7), .ref 85, .ref 86, .ref 87, .ref 88, .ref 89, .ref 90]) dX12_fill_2 fX12_105 tX12_0 rfl rfl S.2 (by omega) (Nat.le_of_ble_eq_true rfl) rfl (fun h_1 f_2 g_3 => ?_)
  have S_4 : MS h_1 φ (ui i 0 0) := MS.setI (j := (ui i 0 0)) S f_2 g_3
  have F_5 := fmI g_3
  refine R_iload_n (pc := 5) 1 dX12_fill_5 rfl rfl ?_
  refine R_iconst (pc := 6) (v := 0) dX12_fill_6 (by decide) ?_
  refine R_iconst (pc := 7) (v := 3) dX12_fill_7 (by decide) ?_
  refine R_callSp (pc := 8) (μ' := mX12_in) (As := [.int v, .int 0, .int 3]) (st := []) dX12_fill_8 zX12_in lX12_108 ⟨by decide, by decide⟩ rfl rfl ⟨by decide, by decide⟩ rfl (Nat.le_of_ble_eq_true rfl) (qX12_in l w _ _ _ _ _) ?_
  refine R_if_eq (pc := 11) (tgt := 18) dX12_fill_11 (by decide) (fun c_6 => ?_) (fun c_6 => absurd (hv) c_6)
  refine R_bipush (pc := 18) (v := (-2)) dX12_fill_18 (by decide) ?_
  exact R_ireturn (pc := 20) dX12_fill_20 rfl (by decide) (by decide) ⟨rfl, rfl, S_4, F_5⟩
set_option maxHeartbeats 4000000 in
set_option maxRecDepth 100000 in
theorem qX12_fill_R1 {l : Launch} {w : am_W} {h : am_H} {n : Nat} {φ : Nat → fA} {i : mI} (S : MS h φ i) (hn : 90 ≤ n) (k : Nat) (hk : k < 4) (j x : Int32) (hj : ¬ 0 ≤ j) : RH l w mX12_fill h n [.ref 61, .int (nI k), .int j, .int x] (mQ h (some (.int (-2))) φ (ui i 0 0)) := by
  refine RC.of [(0, .ref 61), (1, .int (nI k)), (2, .int j), (3, .int x)] (by decide +kernel) rfl (Nat.le_of_ble_eq_true rfl) ?_
  refine R_aload_n (pc := 0) 0 dX12_fill_0 rfl rfl ?_
  refine R_iconst (pc := 1) (v := 0) dX12_fill_1 (by decide) ?_
  refine R_put' (pc := 2) (fs' := [.int 0, .ref 62, .ref 63, .int (i 1), .ref 64, .int (i 2), .ref 65, .ref 66, .ref 67, .ref 68, .ref 69, .ref 70, .ref 71, .int (i 3), .ref 72, .int (i 4), .ref 73, .int (i 5), .ref 74, .int (i 6), .ref 75, .ref 76, .ref 77, .ref 78, .ref 79, .ref 80, .ref 81, .ref 82, .ref 83, .ref 84, .int (i 7), .ref 85, .ref 86, .ref 87, .ref 88, .ref 89, .ref 90]) dX12_fill_2 fX12_105 tX12_0 rfl rfl S.2 (by omega) (Nat.le_of_ble_eq_true rfl) rfl (fun h_1 f_2 g_3 => ?_)
  have S_4 : MS h_1 φ (ui i 0 0) := MS.setI (j := (ui i 0 0)) S f_2 g_3
  have F_5 := fmI g_3
  refine R_iload_n (pc := 5) 1 dX12_fill_5 rfl rfl ?_
  refine R_iconst (pc := 6) (v := 0) dX12_fill_6 (by decide) ?_
  refine R_iconst (pc := 7) (v := 3) dX12_fill_7 (by decide) ?_
  refine R_callSp (pc := 8) (μ' := mX12_in) (As := [.int (nI k), .int 0, .int 3]) (st := []) dX12_fill_8 zX12_in lX12_108 ⟨by decide, by decide⟩ rfl rfl ⟨by decide, by decide⟩ rfl (Nat.le_of_ble_eq_true rfl) (qX12_in l w _ _ _ _ _) ?_
  refine R_if_eq (pc := 11) (tgt := 18) dX12_fill_11 (by decide) (fun c_6 => absurd c_6 (in03 k hk)) (fun c_6 => ?_)
  refine R_iload_n (pc := 14) 2 dX12_fill_14 rfl rfl ?_
  refine R_if_ge (pc := 15) (tgt := 21) dX12_fill_15 (by decide) (fun c_7 => absurd c_7 (hj)) (fun c_7 => ?_)
  refine R_bipush (pc := 18) (v := (-2)) dX12_fill_18 (by decide) ?_
  exact R_ireturn (pc := 20) dX12_fill_20 rfl (by decide) (by decide) ⟨rfl, rfl, S_4, F_5⟩
set_option maxHeartbeats 4000000 in
set_option maxRecDepth 100000 in
theorem qX12_fill_R2 {l : Launch} {w : am_W} {h : am_H} {n : Nat} {φ : Nat → fA} {i : mI} (S : MS h φ i) (hn : 90 ≤ n) (k : Nat) (hk : k < 4) (L : Nat) (hL : φ 63 k = nI L) (hLr : L ≤ rmN k) (m : Nat) (hm3 : m < 2 ^ 31) (x : Int32) (hm : ¬ L + m ≤ rmN k) : RH l w mX12_fill h n [.ref 61, .int (nI k), .int (nI m), .int x] (mQ h (some (.int (-4))) φ (ui i 0 0)) := by
  refine RC.of [(0, .ref 61), (1, .int (nI k)), (2, .int (nI m)), (3, .int x)] (by decide +kernel) rfl (Nat.le_of_ble_eq_true rfl) ?_
  have hrm := rmN_le k hk
  refine R_aload_n (pc := 0) 0 dX12_fill_0 rfl rfl ?_
  refine R_iconst (pc := 1) (v := 0) dX12_fill_1 (by decide) ?_
  refine R_put' (pc := 2) (fs' := [.int 0, .ref 62, .ref 63, .int (i 1), .ref 64, .int (i 2), .ref 65, .ref 66, .ref 67, .ref 68, .ref 69, .ref 70, .ref 71, .int (i 3), .ref 72, .int (i 4), .ref 73, .int (i 5), .ref 74, .int (i 6), .ref 75, .ref 76, .ref 77, .ref 78, .ref 79, .ref 80, .ref 81, .ref 82, .ref 83, .ref 84, .int (i 7), .ref 85, .ref 86, .ref 87, .ref 88, .ref 89, .ref 90]) dX12_fill_2 fX12_105 tX12_0 rfl rfl S.2 (by omega) (Nat.le_of_ble_eq_true rfl) rfl (fun h_1 f_2 g_3 => ?_)
  have S_4 : MS h_1 φ (ui i 0 0) := MS.setI (j := (ui i 0 0)) S f_2 g_3
  have F_5 := fmI g_3
  refine R_iload_n (pc := 5) 1 dX12_fill_5 rfl rfl ?_
  refine R_iconst (pc := 6) (v := 0) dX12_fill_6 (by decide) ?_
  refine R_iconst (pc := 7) (v := 3) dX12_fill_7 (by decide) ?_
  refine R_callSp (pc := 8) (μ' := mX12_in) (As := [.int (nI k), .int 0, .int 3]) (st := []) dX12_fill_8 zX12_in lX12_108 ⟨by decide, by decide⟩ rfl rfl ⟨by decide, by decide⟩ rfl (Nat.le_of_ble_eq_true rfl) (qX12_in l w _ _ _ _ _) ?_
  refine R_if_eq (pc := 11) (tgt := 18) dX12_fill_11 (by decide) (fun c_6 => absurd c_6 (in03 k hk)) (fun c_6 => ?_)
  refine R_iload_n (pc := 14) 2 dX12_fill_14 rfl rfl ?_
  refine R_if_ge (pc := 15) (tgt := 21) dX12_fill_15 (by decide) (fun c_7 => ?_) (fun c_7 => absurd (nI_pos' (by omega)) c_7)
  refine R_iload_n (pc := 21) 2 dX12_fill_21 rfl rfl ?_
  refine R_iload_n (pc := 22) 1 dX12_fill_22 rfl rfl ?_
  refine R_callSp (pc := 23) (μ' := mX12_room) (As := [.int (nI k)]) (st := [.int (nI m)]) dX12_fill_23 zX12_room lX12_112 ⟨by decide, by decide⟩ rfl rfl ⟨by decide, by decide⟩ rfl (Nat.le_of_ble_eq_true rfl) (qX12_room l w _ _ _) ?_
  refine R_eqi (y := nI (rmN k)) (ro_nI k hk) ?_
  refine R_aload_n (pc := 26) 0 dX12_fill_26 rfl rfl ?_
  refine R_get (pc := 27) dX12_fill_27 fX12_13 S_4.2 (by omega) rfl ?_
  refine R_iload_n (pc := 30) 1 dX12_fill_30 rfl rfl ?_
  refine R_iald' (pc := 31) (j := k) dX12_fill_31 (S_4.1 63 rfl) (by omega) ⟨rfl, by show k < 4; omega, by decide⟩ ?_
  refine R_eqi (y := nI L) (hL) ?_
  refine R_isub (pc := 32) dX12_fill_32 ?_
  refine R_eqi (y := nI (rmN k - L)) (nI_sub hLr) ?_
  refine R_icmp_le (pc := 33) (tgt := 39) dX12_fill_33 (by decide) (fun c_8 => absurd c_8 (nI_ge (a := rmN k - L) (b := m) (by omega) (by omega))) (fun c_8 => ?_)
  refine R_bipush (pc := 36) (v := (-4)) dX12_fill_36 (by decide) ?_
  exact R_ireturn (pc := 38) dX12_fill_38 rfl (by decide) (by decide) ⟨rfl, rfl, S_4, F_5⟩
set_option maxHeartbeats 4000000 in
set_option maxRecDepth 100000 in
theorem qX12_fill {l : Launch} {w : am_W} {h : am_H} {n : Nat} {φ : Nat → fA} {i : mI} (S : MS h φ i) (hn : 90 ≤ n) (k : Nat) (hk : k < 4) (L : Nat) (hL : φ 63 k = nI L) (m : Nat) (x : Int32) (hm : L + m ≤ rmN k) : RH l w mX12_fill h n [.ref 61, .int (nI k), .int (nI m), .int x] (mQ h (some (.int (nI (L + m)))) (uf (uf φ 62 (pgF (fun j => jushr (flS x (j + 1)) 24) (φ 62) (512 * k + L) m)) 63 (upd (φ 63) k (nI (L + m)))) (ui i 0 0)) := by
  refine RC.of [(0, .ref 61), (1, .int (nI k)), (2, .int (nI m)), (3, .int x)] (by decide +kernel) rfl (Nat.le_of_ble_eq_true rfl) ?_
  have hrm := rmN_le k hk
  refine R_aload_n (pc := 0) 0 dX12_fill_0 rfl rfl ?_
  refine R_iconst (pc := 1) (v := 0) dX12_fill_1 (by decide) ?_
  refine R_put' (pc := 2) (fs' := [.int 0, .ref 62, .ref 63, .int (i 1), .ref 64, .int (i 2), .ref 65, .ref 66, .ref 67, .ref 68, .ref 69, .ref 70, .ref 71, .int (i 3), .ref 72, .int (i 4), .ref 73, .int (i 5), .ref 74, .int (i 6), .ref 75, .ref 76, .ref 77, .ref 78, .ref 79, .ref 80, .ref 81, .ref 82, .ref 83, .ref 84, .int (i 7), .ref 85, .ref 86, .ref 87, .ref 88, .ref 89, .ref 90]) dX12_fill_2 fX12_105 tX12_0 rfl rfl S.2 (by omega) (Nat.le_of_ble_eq_true rfl) rfl (fun h_1 f_2 g_3 => ?_)
  have S_4 : MS h_1 φ (ui i 0 0) := MS.setI (j := (ui i 0 0)) S f_2 g_3
  have F_5 := fmI g_3
  refine R_iload_n (pc := 5) 1 dX12_fill_5 rfl rfl ?_
  refine R_iconst (pc := 6) (v := 0) dX12_fill_6 (by decide) ?_
  refine R_iconst (pc := 7) (v := 3) dX12_fill_7 (by decide) ?_
  refine R_callSp (pc := 8) (μ' := mX12_in) (As := [.int (nI k), .int 0, .int 3]) (st := []) dX12_fill_8 zX12_in lX12_108 ⟨by decide, by decide⟩ rfl rfl ⟨by decide, by decide⟩ rfl (Nat.le_of_ble_eq_true rfl) (qX12_in l w _ _ _ _ _) ?_
  refine R_if_eq (pc := 11) (tgt := 18) dX12_fill_11 (by decide) (fun c_6 => absurd c_6 (in03 k hk)) (fun c_6 => ?_)
  refine R_iload_n (pc := 14) 2 dX12_fill_14 rfl rfl ?_
  refine R_if_ge (pc := 15) (tgt := 21) dX12_fill_15 (by decide) (fun c_7 => ?_) (fun c_7 => absurd (nI_pos' (by omega)) c_7)
  refine R_iload_n (pc := 21) 2 dX12_fill_21 rfl rfl ?_
  refine R_iload_n (pc := 22) 1 dX12_fill_22 rfl rfl ?_
  refine R_callSp (pc := 23) (μ' := mX12_room) (As := [.int (nI k)]) (st := [.int (nI m)]) dX12_fill_23 zX12_room lX12_112 ⟨by decide, by decide⟩ rfl rfl ⟨by decide, by decide⟩ rfl (Nat.le_of_ble_eq_true rfl) (qX12_room l w _ _ _) ?_
  refine R_eqi (y := nI (rmN k)) (ro_nI k hk) ?_
  refine R_aload_n (pc := 26) 0 dX12_fill_26 rfl rfl ?_
  refine R_get (pc := 27) dX12_fill_27 fX12_13 S_4.2 (by omega) rfl ?_
  refine R_iload_n (pc := 30) 1 dX12_fill_30 rfl rfl ?_
  refine R_iald' (pc := 31) (j := k) dX12_fill_31 (S_4.1 63 rfl) (by omega) ⟨rfl, by show k < 4; omega, by decide⟩ ?_
  refine R_eqi (y := nI L) (hL) ?_
  refine R_isub (pc := 32) dX12_fill_32 ?_
  refine R_eqi (y := nI (rmN k - L)) (nI_sub (by omega)) ?_
  refine R_icmp_le (pc := 33) (tgt := 39) dX12_fill_33 (by decide) (fun c_8 => ?_) (fun c_8 => absurd (nI_le (a := m) (b := rmN k - L) (by omega) (by omega)) c_8)
  refine R_iload_n (pc := 39) 3 dX12_fill_39 rfl rfl ?_
  refine R_istore (pc := 40) (lv' := [(4, .int x), (0, .ref 61), (1, .int (nI k)), (2, .int (nI m)), (3, .int x)]) dX12_fill_40 (by decide) rfl ?_
  refine R_iconst (pc := 42) (v := 0) dX12_fill_42 (by decide) ?_
  refine R_istore (pc := 43) (lv' := [(5, .int 0), (4, .int x), (0, .ref 61), (1, .int (nI k)), (2, .int (nI m)), (3, .int x)]) dX12_fill_43 (by decide) rfl ?_
  refine R_sub [0, 1, 2, 3, 4, 5] rfl ?_
  refine qX12_fill_loop (h := h) (φ := φ) hn k hk L hL m x hm m 0 (by omega) h_1 (by rw [pgF_0, uf_id, show L + 0 = L from rfl, upd_id hL, uf_id]; exact S_4) F_5
