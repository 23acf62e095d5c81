def anG (v : Int32) (k : Nat) : Int32 := (v >>> ((8 * nI k) &&& 31)) &&& 255
def anF (v : Int32) (g : fA) (k : Nat) : fA := fun j => if j ≤ 7 ∧ 7 < j + k then g j ^^^ anG v (7 - j) else g j
theorem anF_0 (v : Int32) (g : fA) : anF v g 0 = g := by
  funext j
  unfold anF
  rw [if_neg (by omega)]
theorem anF_at (v : Int32) (g : fA) {k : Nat} (hk : k < 8) : anF v g k (7 - k) = g (7 - k) := by
  unfold anF
  rw [if_neg (by omega)]
theorem anF_up (v : Int32) (g : fA) {k : Nat} (hk : k < 8) : upd (anF v g k) (7 - k) (g (7 - k) ^^^ anG v k) = anF v g (k + 1) := by
  funext j
  unfold upd anF
  by_cases e : j = 7 - k
  · rw [if_pos e, if_pos (by omega), show 7 - j = k by omega, e]
  · rw [if_neg e]
    by_cases e2 : j ≤ 7 ∧ 7 < j + k
    · rw [if_pos e2, if_pos (by omega)]
    · rw [if_neg e2, if_neg (by omega)]
set_option maxHeartbeats 4000000 in
set_option maxRecDepth 100000 in
theorem qX12_addNumber_loop {l : Launch} {w : am_W} {h : am_H} {n : Nat} {φ : Nat → fA} {i : mI} (hn : 90 ≤ n) (v : Int32) {Q : am_H → Nat → Option Value → Prop} (kk : ∀ h2, MS h2 (uf φ 76 (anF v (φ 76) 4)) i → FM h h2 → RW l w mX12_addNumber h2 n 0 0 35 [(2, .int (nI 4)), (0, .ref 61), (1, .int v)] [] Q) : ∀ (dd k : Nat), k + dd = 4 → ∀ h2, MS h2 (uf φ 76 (anF v (φ 76) k)) i → FM h h2 → RW l w mX12_addNumber h2 n 0 0 2 [(2, .int (nI k)), (0, .ref 61), (1, .int v)] [] Q := by
  intro dd
  induction dd with
  | zero =>
    intro k hd h2 S2 hF
    refine R_iload_n (pc := 2) 0 dX12_addNumber_2 rfl rfl ?_
    refine R_iconst (pc := 3) (v := 4) dX12_addNumber_3 (by decide) ?_
    refine R_icmp_ge (pc := 4) (tgt := 35) dX12_addNumber_4 (by decide) (fun c_1 => ?_) (fun c_1 => absurd (nI_le (a := 4) (b := k) (by omega) (by omega)) c_1)
    obtain rfl : k = 4 := by omega
    exact kk h2 S2 hF
  | succ dd ih =>
    intro k hd h2 S2 hF
    refine R_iload_n (pc := 2) 0 dX12_addNumber_2 rfl rfl ?_
    refine R_iconst (pc := 3) (v := 4) dX12_addNumber_3 (by decide) ?_
    refine R_icmp_ge (pc := 4) (tgt := 35) dX12_addNumber_4 (by decide) (fun c_1 => absurd c_1 (nI_ge (a := k) (b := 4) (by omega) (by omega))) (fun c_1 => ?_)
    refine R_aload_n (pc := 7) 1 dX12_addNumber_7 rfl rfl ?_
    refine R_get (pc := 8) dX12_addNumber_8 fX12_56 S2.2 (by omega) rfl ?_
    refine R_bipush (pc := 11) (v := 7) dX12_addNumber_11 (by decide) ?_
    refine R_iload_n (pc := 13) 0 dX12_addNumber_13 rfl rfl ?_
    refine R_isub (pc := 14) dX12_addNumber_14 ?_
    refine R_eqi (y := nI (7 - k)) (nI_sub (a := 7) (b := k) (by omega)) ?_
    refine R_dup2 (pc := 15) dX12_addNumber_15 rfl rfl ?_
    refine R_iald' (pc := 16) (j := 7 - k) dX12_addNumber_16 (S2.1 76 rfl) (by omega) ⟨rfl, by show 7 - k < 16; omega, by decide⟩ ?_
    refine R_eqi (y := (anF v (φ 76) k) (7 - k)) (by first | rfl | (simp only [uf_s, uf_n, ne_eq])) ?_
    refine R_eqi (y := φ 76 (7 - k)) (anF_at _ _ (by omega)) ?_
    refine R_iload_n (pc := 17) 2 dX12_addNumber_17 rfl rfl ?_
    refine R_bipush (pc := 18) (v := 8) dX12_addNumber_18 (by decide) ?_
    refine R_iload_n (pc := 20) 0 dX12_addNumber_20 rfl rfl ?_
    refine R_imul (pc := 21) dX12_addNumber_21 ?_
    refine R_ishr (pc := 22) dX12_addNumber_22 ?_
    refine R_sipush (pc := 23) (v := 255) dX12_addNumber_23 (by decide) ?_
    refine R_iand (pc := 26) dX12_addNumber_26 ?_
    refine R_eqi (y := anG v k) (rfl) ?_
    refine R_ixor (pc := 27) dX12_addNumber_27 ?_
    refine R_iast' (pc := 28) (j := 7 - k) dX12_addNumber_28 (S2.1 76 rfl) (by omega) ⟨rfl, by show 7 - k < 16; omega, by decide⟩ (fun h_2 f_3 g_4 => ?_)
    have f_5 : h_2 76 = .inl (mN 76, upd (anF v (φ 76) k) (7 - k) ((φ 76 (7 - k)) ^^^ (anG v k))) := by first | exact f_3 | (simp only [uf_s] at f_3; exact f_3)
    have S_6 : MS h_2 (uf φ 76 (upd (anF v (φ 76) k) (7 - k) ((φ 76 (7 - k)) ^^^ (anG v k)))) i := by have z_ := MS.setA (p := 76) (f := upd (anF v (φ 76) k) (7 - k) ((φ 76 (7 - k)) ^^^ (anG v k))) S2 rfl f_5 g_4; rw [uf_uf] at z_; exact z_
    have F_7 := fmA (p := 76) rfl g_4
    refine R_iinc (pc := 29) (j := 0) (v := nI (k + 1)) (lv' := [(2, .int (nI (k + 1))), (0, .ref 61), (1, .int v)]) dX12_addNumber_29 rfl (nI_1 k) (by decide) rfl ?_
    refine R_goto (pc := 32) (tgt := 2) dX12_addNumber_32 (by decide) ?_
    refine R_sub [0, 1, 2] rfl ?_
    exact ih (k + 1) (by omega) h_2 (by have z_ := S_6; rw [anF_up v (φ 76) (by omega)] at z_; exact z_) (hF.tr F_7)
set_option maxHeartbeats 4000000 in
set_option maxRecDepth 100000 in
theorem qX12_addNumber {l : Launch} {w : am_W} {h : am_H} {n : Nat} {φ : Nat → fA} {i : mI} (S : MS h φ i) (hn : 90 ≤ n) (v : Int32) : RH l w mX12_addNumber h n [.ref 61, .int v] (mQ h none (uf φ 76 (anF v (φ 76) 4)) i) := by
  refine RC.of [(0, .ref 61), (1, .int v)] (by decide +kernel) rfl (Nat.le_of_ble_eq_true rfl) ?_
  refine R_iconst (pc := 0) (v := 0) dX12_addNumber_0 (by decide) ?_
  refine R_istore_n (pc := 1) (lv' := [(2, .int 0), (0, .ref 61), (1, .int v)]) dX12_addNumber_1 rfl (by decide) rfl ?_
  refine R_sub [0, 1, 2] rfl ?_
  refine qX12_addNumber_loop (h := h) (φ := φ) hn v (fun h2 S2 hF => ?_) 4 0 (by omega) h (by rw [anF_0, uf_id]; exact S) (FM.rf h)
  exact R_vreturn (pc := 35) dX12_addNumber_35 rfl (by decide) (by decide) ⟨rfl, rfl, S2, hF⟩
