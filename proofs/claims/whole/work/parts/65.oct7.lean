set_option maxHeartbeats 4000000 in
set_option maxRecDepth 100000 in
theorem oX12_sectorBlock_s {l : Launch} {w : am_W} {h : am_H} {n : Nat} {ψ : Nat → oA} {z : fA} {i : mI} (S : MO h ψ z i) (hn : 90 ≤ n) (t : Nat) (ht : t + 16 ≤ 700) {F G : bP → bP} (K0 : Kh ψ 0 F G) : RH l w mX12_sectorBlock h n [.ref 61, .int 0, .int (nI t)] (oQ h none (uo ψ 72 (pt (ψ 72) t (xb (F (xb (gt (ψ 72) t) (gt (ψ 75) 0))) (gt (ψ 75) 0)))) z i) := by
  refine RC.of [(0, .ref 61), (1, .int 0), (2, .int (nI t))] (by decide +kernel) rfl (Nat.le_of_ble_eq_true rfl) ?_
  refine R_aload_n (pc := 0) 0 dX12_sectorBlock_0 rfl rfl ?_
  refine R_get (pc := 1) dX12_sectorBlock_1 fX12_53 S.obj (by omega) rfl ?_
  refine R_iconst (pc := 4) (v := 0) dX12_sectorBlock_4 (by decide) ?_
  refine R_aload_n (pc := 5) 0 dX12_sectorBlock_5 rfl rfl ?_
  refine R_get (pc := 6) dX12_sectorBlock_6 fX12_44 S.obj (by omega) rfl ?_
  refine R_iload_n (pc := 9) 2 dX12_sectorBlock_9 rfl rfl ?_
  refine R_bipush (pc := 10) (v := 16) dX12_sectorBlock_10 (by decide) ?_
  refine R_callSh (pc := 12) (μ' := mX12_add) (As := [.ref 75, .int (nI 0), .ref 72, .int (nI t), .int 16]) (st := []) dX12_sectorBlock_12 zX12_add lX12_143 ⟨by decide, by decide⟩ rfl rfl ⟨by decide, by decide⟩ rfl (Nat.le_of_ble_eq_true rfl) (oX12_add16 S hn (p := 75) (q := 72) rfl rfl 0 t (by show 0 + 16 ≤ 16; omega) (by show t + 16 ≤ 700; omega) (by decide)) (fun h_1 r_ q_2 => ?_)
  obtain ⟨rfl, S_3, F_4⟩ := q_2
  have S_5 : MO h_1 (uo ψ 72 (pt (ψ 72) t (xb (gt (ψ 72) t) (gt (ψ 75) 0)))) z i := S_3
  refine R_iload_n (pc := 15) 1 dX12_sectorBlock_15 rfl rfl ?_
  refine R_if_eq (pc := 16) (tgt := 32) dX12_sectorBlock_16 (by decide) (fun c_6 => ?_) (fun c_6 => absurd (rfl) c_6)
  refine R_aload_n (pc := 32) 0 dX12_sectorBlock_32 rfl rfl ?_
  refine R_iconst (pc := 33) (v := 0) dX12_sectorBlock_33 (by decide) ?_
  refine R_aload_n (pc := 34) 0 dX12_sectorBlock_34 rfl rfl ?_
  refine R_get (pc := 35) dX12_sectorBlock_35 fX12_44 S_5.obj (by omega) rfl ?_
  refine R_iload_n (pc := 38) 2 dX12_sectorBlock_38 rfl rfl ?_
  refine R_callVh (pc := 39) (μ' := mX12_sealBlock) (As := [.int (nI 0), .ref 72, .int (nI t)]) (st := []) dX12_sectorBlock_39 zX12_sealBlock lX12_146 ⟨by decide, by decide⟩ rfl rfl ⟨by decide, by decide⟩ S_5.obj (by omega) rfl (Nat.le_of_ble_eq_true rfl) (oX12_sealBlock S_5 hn (K0.uo (by decide)) (p := 72) rfl t (by show t + 16 ≤ 700; omega)) (fun h_7 r_ q_8 => ?_)
  obtain ⟨rfl, S_9, F_10⟩ := q_8
  have S_11 : MO h_7 (uo ψ 72 (pt (pt (ψ 72) t (xb (gt (ψ 72) t) (gt (ψ 75) 0))) t (F (gt (pt (ψ 72) t (xb (gt (ψ 72) t) (gt (ψ 75) 0))) t)))) z i := by have z_ := S_9; rw [uo_uo] at z_; exact z_
  refine R_aload_n (pc := 42) 0 dX12_sectorBlock_42 rfl rfl ?_
  refine R_get (pc := 43) dX12_sectorBlock_43 fX12_53 S_11.obj (by omega) rfl ?_
  refine R_iconst (pc := 46) (v := 0) dX12_sectorBlock_46 (by decide) ?_
  refine R_aload_n (pc := 47) 0 dX12_sectorBlock_47 rfl rfl ?_
  refine R_get (pc := 48) dX12_sectorBlock_48 fX12_44 S_11.obj (by omega) rfl ?_
  refine R_iload_n (pc := 51) 2 dX12_sectorBlock_51 rfl rfl ?_
  refine R_bipush (pc := 52) (v := 16) dX12_sectorBlock_52 (by decide) ?_
  refine R_callSh (pc := 54) (μ' := mX12_add) (As := [.ref 75, .int (nI 0), .ref 72, .int (nI t), .int 16]) (st := []) dX12_sectorBlock_54 zX12_add lX12_143 ⟨by decide, by decide⟩ rfl rfl ⟨by decide, by decide⟩ rfl (Nat.le_of_ble_eq_true rfl) (oX12_add16 S_11 hn (p := 75) (q := 72) rfl rfl 0 t (by show 0 + 16 ≤ 16; omega) (by show t + 16 ≤ 700; omega) (by decide)) (fun h_12 r_ q_13 => ?_)
  obtain ⟨rfl, S_14, F_15⟩ := q_13
  have S_16 : MO h_12 (uo ψ 72 (pt (pt (pt (ψ 72) t (xb (gt (ψ 72) t) (gt (ψ 75) 0))) t (F (gt (pt (ψ 72) t (xb (gt (ψ 72) t) (gt (ψ 75) 0))) t))) t (xb (gt (pt (pt (ψ 72) t (xb (gt (ψ 72) t) (gt (ψ 75) 0))) t (F (gt (pt (ψ 72) t (xb (gt (ψ 72) t) (gt (ψ 75) 0))) t))) t) (gt (ψ 75) 0)))) z i := by have z_ := S_14; rw [uo_uo] at z_; exact z_
  exact R_vreturn (pc := 57) dX12_sectorBlock_57 rfl (by decide) (by decide) ⟨rfl, rfl, by have z_ := S_16; simp only [gt_pt, pt_pt] at z_; exact z_, ((F_4.tr F_10).tr F_15)⟩
set_option maxHeartbeats 4000000 in
set_option maxRecDepth 100000 in
theorem oX12_sectorBlock_o {l : Launch} {w : am_W} {h : am_H} {n : Nat} {ψ : Nat → oA} {z : fA} {i : mI} (S : MO h ψ z i) (hn : 90 ≤ n) (t : Nat) (ht : t + 16 ≤ 700) {F G : bP → bP} (K0 : Kh ψ 0 F G) : RH l w mX12_sectorBlock h n [.ref 61, .int 1, .int (nI t)] (oQ h none (uo ψ 72 (pt (ψ 72) t (xb (G (xb (gt (ψ 72) t) (gt (ψ 75) 0))) (gt (ψ 75) 0)))) z i) := by
  refine RC.of [(0, .ref 61), (1, .int 1), (2, .int (nI t))] (by decide +kernel) rfl (Nat.le_of_ble_eq_true rfl) ?_
  refine R_aload_n (pc := 0) 0 dX12_sectorBlock_0 rfl rfl ?_
  refine R_get (pc := 1) dX12_sectorBlock_1 fX12_53 S.obj (by omega) rfl ?_
  refine R_iconst (pc := 4) (v := 0) dX12_sectorBlock_4 (by decide) ?_
  refine R_aload_n (pc := 5) 0 dX12_sectorBlock_5 rfl rfl ?_
  refine R_get (pc := 6) dX12_sectorBlock_6 fX12_44 S.obj (by omega) rfl ?_
  refine R_iload_n (pc := 9) 2 dX12_sectorBlock_9 rfl rfl ?_
  refine R_bipush (pc := 10) (v := 16) dX12_sectorBlock_10 (by decide) ?_
  refine R_callSh (pc := 12) (μ' := mX12_add) (As := [.ref 75, .int (nI 0), .ref 72, .int (nI t), .int 16]) (st := []) dX12_sectorBlock_12 zX12_add lX12_143 ⟨by decide, by decide⟩ rfl rfl ⟨by decide, by decide⟩ rfl (Nat.le_of_ble_eq_true rfl) (oX12_add16 S hn (p := 75) (q := 72) rfl rfl 0 t (by show 0 + 16 ≤ 16; omega) (by show t + 16 ≤ 700; omega) (by decide)) (fun h_1 r_ q_2 => ?_)
  obtain ⟨rfl, S_3, F_4⟩ := q_2
  have S_5 : MO h_1 (uo ψ 72 (pt (ψ 72) t (xb (gt (ψ 72) t) (gt (ψ 75) 0)))) z i := S_3
  refine R_iload_n (pc := 15) 1 dX12_sectorBlock_15 rfl rfl ?_
  refine R_if_eq (pc := 16) (tgt := 32) dX12_sectorBlock_16 (by decide) (fun c_6 => absurd c_6 (by decide)) (fun c_6 => ?_)
  refine R_aload_n (pc := 19) 0 dX12_sectorBlock_19 rfl rfl ?_
  refine R_iconst (pc := 20) (v := 0) dX12_sectorBlock_20 (by decide) ?_
  refine R_aload_n (pc := 21) 0 dX12_sectorBlock_21 rfl rfl ?_
  refine R_get (pc := 22) dX12_sectorBlock_22 fX12_44 S_5.obj (by omega) rfl ?_
  refine R_iload_n (pc := 25) 2 dX12_sectorBlock_25 rfl rfl ?_
  refine R_callVh (pc := 26) (μ' := mX12_openBlock) (As := [.int (nI 0), .ref 72, .int (nI t)]) (st := []) dX12_sectorBlock_26 zX12_openBlock lX12_150 ⟨by decide, by decide⟩ rfl rfl ⟨by decide, by decide⟩ S_5.obj (by omega) rfl (Nat.le_of_ble_eq_true rfl) (oX12_openBlock S_5 hn (K0.uo (by decide)) (p := 72) rfl t (by show t + 16 ≤ 700; omega)) (fun h_7 r_ q_8 => ?_)
  obtain ⟨rfl, S_9, F_10⟩ := q_8
  have S_11 : MO h_7 (uo ψ 72 (pt (pt (ψ 72) t (xb (gt (ψ 72) t) (gt (ψ 75) 0))) t (G (gt (pt (ψ 72) t (xb (gt (ψ 72) t) (gt (ψ 75) 0))) t)))) z i := by have z_ := S_9; rw [uo_uo] at z_; exact z_
  refine R_goto (pc := 29) (tgt := 42) dX12_sectorBlock_29 (by decide) ?_
  refine R_aload_n (pc := 42) 0 dX12_sectorBlock_42 rfl rfl ?_
  refine R_get (pc := 43) dX12_sectorBlock_43 fX12_53 S_11.obj (by omega) rfl ?_
  refine R_iconst (pc := 46) (v := 0) dX12_sectorBlock_46 (by decide) ?_
  refine R_aload_n (pc := 47) 0 dX12_sectorBlock_47 rfl rfl ?_
  refine R_get (pc := 48) dX12_sectorBlock_48 fX12_44 S_11.obj (by omega) rfl ?_
  refine R_iload_n (pc := 51) 2 dX12_sectorBlock_51 rfl rfl ?_
  refine R_bipush (pc := 52) (v := 16) dX12_sectorBlock_52 (by decide) ?_
  refine R_callSh (pc := 54) (μ' := mX12_add) (As := [.ref 75, .int (nI 0), .ref 72, .int (nI t), .int 16]) (st := []) dX12_sectorBlock_54 zX12_add lX12_143 ⟨by decide, by decide⟩ rfl rfl ⟨by decide, by decide⟩ rfl (Nat.le_of_ble_eq_true rfl) (oX12_add16 S_11 hn (p := 75) (q := 72) rfl rfl 0 t (by show 0 + 16 ≤ 16; omega) (by show t + 16 ≤ 700; omega) (by decide)) (fun h_12 r_ q_13 => ?_)
  obtain ⟨rfl, S_14, F_15⟩ := q_13
  have S_16 : MO h_12 (uo ψ 72 (pt (pt (pt (ψ 72) t (xb (gt (ψ 72) t) (gt (ψ 75) 0))) t (G (gt (pt (ψ 72) t (xb (gt (ψ 72) t) (gt (ψ 75) 0))) t))) t (xb (gt (pt (pt (ψ 72) t (xb (gt (ψ 72) t) (gt (ψ 75) 0))) t (G (gt (pt (ψ 72) t (xb (gt (ψ 72) t) (gt (ψ 75) 0))) t))) t) (gt (ψ 75) 0)))) z i := by have z_ := S_14; rw [uo_uo] at z_; exact z_
  exact R_vreturn (pc := 57) dX12_sectorBlock_57 rfl (by decide) (by decide) ⟨rfl, rfl, by have z_ := S_16; simp only [gt_pt, pt_pt] at z_; exact z_, ((F_4.tr F_10).tr F_15)⟩
def scJ (H : bP → bP) (L : List (BitVec 8)) (x : bP) (ψ ψ2 : Nat → oA) (k : Nat) : Prop := gt (ψ2 75) 0 = (stN (scS H L) x k).1 ∧ sg (ψ2 72) 0 (stN (scS H L) x k).2 ∧ ∀ j, 16 * k ≤ j → ψ2 72 j = ψ 72 j
theorem sc_fin {f : oA} {H : bP → bP} {D Q : List (BitVec 8)} {a r : Nat} {yb w : bP} (hr : r < 16) (hQ : Q.length = 16 * a) (h0 : sg f 0 Q) (h1 : gt f (16 * a) = yb) (h2 : ∀ j, j < r → f (16 * (a + 1) + j) = og D (16 * (a + 1) + j)) (hL : D.length = 16 * (a + 1) + r) : sg (pt (swB f (16 * a) r) (16 * a) (xb (H (xb (gt (swB f (16 * a) r) (16 * a)) w)) w)) 0 (Q ++ bt (xb (H (xb (xb (df yb (nI r)) (rd D (16 * (a + 1)))) w)) w) 16 ++ bt yb r) := by
  have e : gt (swB f (16 * a) r) (16 * a) = xb (df yb (nI r)) (rd D (16 * (a + 1))) := ob_ext fun k hk => by
    rw [ob_gt _ _ hk, ob_xb _ _ hk, ob_df _ (by omega) hk, ob_rd _ _ hk]
    unfold swB
    by_cases q : k < r
    · rw [if_pos (by omega), if_pos q, show 16 * a + k + 16 = 16 * (a + 1) + k by omega, h2 k q]
      simp
    · rw [if_neg (by omega), if_neg (by omega), if_neg q, og_out (by omega), ← h1, ob_gt _ _ hk]
      simp
  rw [e]
  intro j hj
  rw [List.length_append, List.length_append, hQ, bt_len, bt_len] at hj
  rw [Nat.zero_add]
  by_cases c1 : j < 16 * a
  · rw [List.append_assoc, og_app_l (by omega), pt_out _ _ (by omega)]
    unfold swB
    rw [if_neg (by omega), if_neg (by omega)]
    have := h0 j (by omega)
    rw [Nat.zero_add] at this
    exact this
  · by_cases c2 : j < 16 * (a + 1)
    · rw [og_app_l (by rw [List.length_append, bt_len]; omega), og_app_r (by omega), hQ, og_bt _ (by omega)]
      have := pt_at (swB f (16 * a) r) (16 * a) (xb (H (xb (xb (df yb (nI r)) (rd D (16 * (a + 1)))) w)) w) (k := j - 16 * a) (by omega)
      rw [show 16 * a + (j - 16 * a) = j by omega] at this
      exact this
    · rw [og_app_r (by rw [List.length_append, bt_len]; omega), List.length_append, hQ, bt_len, og_bt _ (by omega), pt_out _ _ (by omega)]
      unfold swB
      rw [if_neg (by omega), if_pos (by omega), ← h1, ob_gt _ _ (by omega)]
      congr 1
      omega
set_option maxHeartbeats 4000000 in
set_option maxRecDepth 100000 in
theorem qX12_sector_s {l : Launch} {w : am_W} {h : am_H} {n : Nat} {ψ : Nat → oA} {z : fA} {i : mI} (hn : 90 ≤ n) (D : List (BitVec 8)) (b r : Nat) (hb1 : 1 ≤ b) (hr : r < 16) (hL : D.length = 16 * b + r) (hD : D.length ≤ 512) (hi3 : i 3 = nI D.length) {F G : bP → bP} (K0 : Kh ψ 0 F G) (hs2 : sg (ψ 72) 0 D) (x : bP)  {Q : am_H → Nat → Option Value → Prop} (kk : ∀ h2 ψ2, MO h2 ψ2 z i → FR [72, 75] ψ ψ2 → scJ F D x ψ ψ2 b → FM h h2 → RW l w mX12_sector h2 n 0 0 147 [(4, .int (nI b)), (3, .int (nI r)), (2, .int (nI b)), (0, .ref 61), (1, .int 0)] [] Q) : ∀ (dd k : Nat), k + dd = b → ∀ h2 ψ2, MO h2 ψ2 z i → FR [72, 75] ψ ψ2 → scJ F D x ψ ψ2 k → FM h h2 → RW l w mX12_sector h2 n 0 0 61 [(4, .int (nI k)), (3, .int (nI r)), (2, .int (nI b)), (0, .ref 61), (1, .int 0)] [] Q := by
  intro dd
  induction dd with
  | zero =>
    intro k hd h2 ψ2 S2 hK hJ hF
    refine R_iload (pc := 61) 0 dX12_sector_61 rfl ?_
    refine R_iload_n (pc := 63) 2 dX12_sector_63 rfl rfl ?_
    refine R_icmp_ge (pc := 64) (tgt := 147) dX12_sector_64 (by decide) (fun c_1 => ?_) (fun c_1 => absurd (nI_le (a := b) (b := k) (by omega) (by omega)) c_1)
    obtain rfl : k = b := by omega
    exact kk h2 ψ2 S2 hK hJ hF
  | succ dd ih =>
    intro k hd h2 ψ2 S2 hK hJ hF
    have K0_2 := K0.fr hK (by decide) (by decide) (by decide) (by decide)
    refine R_iload (pc := 61) 0 dX12_sector_61 rfl ?_
    refine R_iload_n (pc := 63) 2 dX12_sector_63 rfl rfl ?_
    refine R_icmp_ge (pc := 64) (tgt := 147) dX12_sector_64 (by decide) (fun c_1 => absurd c_1 (nI_ge (a := k) (b := b) (by omega) (by omega))) (fun c_1 => ?_)
    refine R_iload_n (pc := 67) 4 dX12_sector_67 rfl rfl ?_
    refine R_if_eq (pc := 68) (tgt := 87) dX12_sector_68 (by decide) (fun c_2 => ?_) (fun c_2 => absurd (rfl) c_2)
    refine R_iconst (pc := 87) (v := 0) dX12_sector_87 (by decide) ?_
    refine R_istore (pc := 88) (lv' := [(5, .int 0), (4, .int (nI k)), (3, .int (nI r)), (2, .int (nI b)), (0, .ref 61), (1, .int 0)]) dX12_sector_88 (by decide) rfl ?_
    refine R_iload (pc := 90) 0 dX12_sector_90 rfl ?_
    refine R_if_eq (pc := 92) (tgt := 118) dX12_sector_92 (by decide) (fun c_3 => ?_) (fun c_3 => absurd (rfl) c_3)
    refine R_aload_n (pc := 118) 4 dX12_sector_118 rfl rfl ?_
    refine R_iload_n (pc := 119) 5 dX12_sector_119 rfl rfl ?_
    refine R_bipush (pc := 120) (v := 16) dX12_sector_120 (by decide) ?_
    refine R_iload (pc := 122) 1 dX12_sector_122 rfl ?_
    refine R_imul (pc := 124) dX12_sector_124 ?_
    refine R_eqi (y := nI (16 * k)) (nI_mul 16 k) ?_
    refine R_callVh (pc := 125) (μ' := mX12_sectorBlock) (As := [.int 0, .int (nI (16 * k))]) (st := []) dX12_sector_125 zX12_sectorBlock lX12_176 ⟨by decide, by decide⟩ rfl rfl ⟨by decide, by decide⟩ S2.obj (by omega) rfl (Nat.le_of_ble_eq_true rfl) (oX12_sectorBlock_s S2 hn (16 * k) (by omega) K0_2) (fun h_4 r_ q_5 => ?_)
    obtain ⟨rfl, S_6, F_7⟩ := q_5
    have S_8 : MO h_4 (uo ψ2 72 (pt (ψ2 72) (16 * k) (xb (F (xb (gt (ψ2 72) (16 * k)) (gt (ψ2 75) 0))) (gt (ψ2 75) 0)))) z i := S_6
    refine R_iload (pc := 128) 0 dX12_sector_128 rfl ?_
    refine R_if_ne (pc := 130) (tgt := 141) dX12_sector_130 (by decide) (fun c_9 => absurd (rfl) c_9) (fun c_9 => ?_)
    refine R_aload_n (pc := 133) 4 dX12_sector_133 rfl rfl ?_
    refine R_aload_n (pc := 134) 4 dX12_sector_134 rfl rfl ?_
    refine R_get (pc := 135) dX12_sector_135 fX12_53 S_8.obj (by omega) rfl ?_
    refine R_callVh (pc := 138) (μ' := mX12_nextSector) (As := [.ref 75]) (st := []) dX12_sector_138 zX12_nextSector lX12_172 ⟨by decide, by decide⟩ rfl rfl ⟨by decide, by decide⟩ S_8.obj (by omega) rfl (Nat.le_of_ble_eq_true rfl) (oX12_nextSector S_8 hn (q := 75) rfl (by decide)) (fun h_10 r_ q_11 => ?_)
    obtain ⟨rfl, S_12, F_13⟩ := q_11
    have S_14 : MO h_10 (uo (uo ψ2 72 (pt (ψ2 72) (16 * k) (xb (F (xb (gt (ψ2 72) (16 * k)) (gt (ψ2 75) 0))) (gt (ψ2 75) 0)))) 75 (pt (ψ2 75) 0 (dblL (gt (ψ2 75) 0)))) z i := S_12
    refine R_iinc (pc := 141) (j := 1) (v := nI (k + 1)) (lv' := [(4, .int (nI (k + 1))), (5, .int 0), (3, .int (nI r)), (2, .int (nI b)), (0, .ref 61), (1, .int 0)]) dX12_sector_141 rfl (nI_add _ _) (by decide) rfl ?_
    refine R_goto (pc := 144) (tgt := 61) dX12_sector_144 (by decide) ?_
    refine R_sub [0, 2, 3, 4, 5] rfl ?_
    have eR : rd D (16 * k) = gt (ψ2 72) (16 * k) := (gt_of fun m_ hm_ => by rw [hJ.2.2 _ (by omega), show 16 * k + m_ = 0 + (16 * k + m_) by omega, hs2 _ (by omega), Nat.zero_add]).symm
    have eC : scS F D k (stN (scS F D) x k).1 = (dblL (gt (ψ2 75) 0), bt (xb (F (xb (gt (ψ2 72) (16 * k)) (gt (ψ2 75) 0))) (gt (ψ2 75) 0)) 16) := by rw [← hJ.1]; unfold scS; rw [eR]
    have eL : (stN (scS F D) x k).2.length = 16 * k := stN_len (scS_len F D) k
    have j1 : gt (pt (ψ2 75) 0 (dblL (gt (ψ2 75) 0))) 0 = (stN (scS F D) x (k + 1)).1 := by show _ = (scS F D k (stN (scS F D) x k).1).1; rw [eC]; simp only [gt_pt]
    have j2 : sg (pt (ψ2 72) (16 * k) (xb (F (xb (gt (ψ2 72) (16 * k)) (gt (ψ2 75) 0))) (gt (ψ2 75) 0))) 0 (stN (scS F D) x (k + 1)).2 := by show sg _ _ (_ ++ (scS F D k (stN (scS F D) x k).1).2); rw [eC]; exact hJ.2.1.pt _ (by rw [eL, Nat.zero_add]) rfl
    have j3 : ∀ j, 16 * (k + 1) ≤ j → (pt (ψ2 72) (16 * k) (xb (F (xb (gt (ψ2 72) (16 * k)) (gt (ψ2 75) 0))) (gt (ψ2 75) 0))) j = ψ 72 j := fun j_ hj_ => by rw [pt_out _ _ (by omega), hJ.2.2 j_ (by omega)]
    exact ih (k + 1) (by omega) h_10 _ S_14 ((hK.up (by decide)).up (by decide)) (⟨j1, j2, j3⟩) (hF.tr (F_7.tr F_13))
set_option maxHeartbeats 4000000 in
set_option maxRecDepth 100000 in
theorem qX12_sector_o {l : Launch} {w : am_W} {h : am_H} {n : Nat} {ψ : Nat → oA} {z : fA} {i : mI} (hn : 90 ≤ n) (D : List (BitVec 8)) (b r : Nat) (hb1 : 1 ≤ b) (hr : r < 16) (hL : D.length = 16 * b + r) (hD : D.length ≤ 512) (hi3 : i 3 = nI D.length) {F G : bP → bP} (K0 : Kh ψ 0 F G) (hs2 : sg (ψ 72) 0 D) (x : bP) (hr0 : r = 0) {Q : am_H → Nat → Option Value → Prop} (kk : ∀ h2 ψ2, MO h2 ψ2 z i → FR [72, 75] ψ ψ2 → scJ G D x ψ ψ2 b → FM h h2 → RW l w mX12_sector h2 n 0 0 147 [(4, .int (nI b)), (3, .int (nI r)), (2, .int (nI b)), (0, .ref 61), (1, .int 1)] [] Q) : ∀ (dd k : Nat), k + dd = b → ∀ h2 ψ2, MO h2 ψ2 z i → FR [72, 75] ψ ψ2 → scJ G D x ψ ψ2 k → FM h h2 → RW l w mX12_sector h2 n 0 0 61 [(4, .int (nI k)), (3, .int (nI r)), (2, .int (nI b)), (0, .ref 61), (1, .int 1)] [] Q := by
  intro dd
  induction dd with
  | zero =>
    intro k hd h2 ψ2 S2 hK hJ hF
    refine R_iload (pc := 61) 0 dX12_sector_61 rfl ?_
    refine R_iload_n (pc := 63) 2 dX12_sector_63 rfl rfl ?_
    refine R_icmp_ge (pc := 64) (tgt := 147) dX12_sector_64 (by decide) (fun c_1 => ?_) (fun c_1 => absurd (nI_le (a := b) (b := k) (by omega) (by omega)) c_1)
    obtain rfl : k = b := by omega
    exact kk h2 ψ2 S2 hK hJ hF
  | succ dd ih =>
    intro k hd h2 ψ2 S2 hK hJ hF
    have K0_2 := K0.fr hK (by decide) (by decide) (by decide) (by decide)
    refine R_iload (pc := 61) 0 dX12_sector_61 rfl ?_
    refine R_iload_n (pc := 63) 2 dX12_sector_63 rfl rfl ?_
    refine R_icmp_ge (pc := 64) (tgt := 147) dX12_sector_64 (by decide) (fun c_1 => absurd c_1 (nI_ge (a := k) (b := b) (by omega) (by omega))) (fun c_1 => ?_)
    refine R_iload_n (pc := 67) 4 dX12_sector_67 rfl rfl ?_
    refine R_if_eq (pc := 68) (tgt := 87) dX12_sector_68 (by decide) (fun c_2 => absurd c_2 (by decide)) (fun c_2 => ?_)
    refine R_iload_n (pc := 71) 1 dX12_sector_71 rfl rfl ?_
    refine R_if_le (pc := 72) (tgt := 87) dX12_sector_72 (by decide) (fun c_3 => ?_) (fun c_3 => absurd (by rw [hr0]; decide) c_3)
    refine R_iconst (pc := 87) (v := 0) dX12_sector_87 (by decide) ?_
    refine R_istore (pc := 88) (lv' := [(5, .int 0), (4, .int (nI k)), (3, .int (nI r)), (2, .int (nI b)), (0, .ref 61), (1, .int 1)]) dX12_sector_88 (by decide) rfl ?_
    refine R_iload (pc := 90) 0 dX12_sector_90 rfl ?_
    refine R_if_eq (pc := 92) (tgt := 118) dX12_sector_92 (by decide) (fun c_4 => ?_) (fun c_4 => absurd (rfl) c_4)
    refine R_aload_n (pc := 118) 4 dX12_sector_118 rfl rfl ?_
    refine R_iload_n (pc := 119) 5 dX12_sector_119 rfl rfl ?_
    refine R_bipush (pc := 120) (v := 16) dX12_sector_120 (by decide) ?_
    refine R_iload (pc := 122) 1 dX12_sector_122 rfl ?_
    refine R_imul (pc := 124) dX12_sector_124 ?_
    refine R_eqi (y := nI (16 * k)) (nI_mul 16 k) ?_
    refine R_callVh (pc := 125) (μ' := mX12_sectorBlock) (As := [.int 1, .int (nI (16 * k))]) (st := []) dX12_sector_125 zX12_sectorBlock lX12_176 ⟨by decide, by decide⟩ rfl rfl ⟨by decide, by decide⟩ S2.obj (by omega) rfl (Nat.le_of_ble_eq_true rfl) (oX12_sectorBlock_o S2 hn (16 * k) (by omega) K0_2) (fun h_5 r_ q_6 => ?_)
    obtain ⟨rfl, S_7, F_8⟩ := q_6
    have S_9 : MO h_5 (uo ψ2 72 (pt (ψ2 72) (16 * k) (xb (G (xb (gt (ψ2 72) (16 * k)) (gt (ψ2 75) 0))) (gt (ψ2 75) 0)))) z i := S_7
    refine R_iload (pc := 128) 0 dX12_sector_128 rfl ?_
    refine R_if_ne (pc := 130) (tgt := 141) dX12_sector_130 (by decide) (fun c_10 => absurd (rfl) c_10) (fun c_10 => ?_)
    refine R_aload_n (pc := 133) 4 dX12_sector_133 rfl rfl ?_
    refine R_aload_n (pc := 134) 4 dX12_sector_134 rfl rfl ?_
    refine R_get (pc := 135) dX12_sector_135 fX12_53 S_9.obj (by omega) rfl ?_
    refine R_callVh (pc := 138) (μ' := mX12_nextSector) (As := [.ref 75]) (st := []) dX12_sector_138 zX12_nextSector lX12_172 ⟨by decide, by decide⟩ rfl rfl ⟨by decide, by decide⟩ S_9.obj (by omega) rfl (Nat.le_of_ble_eq_true rfl) (oX12_nextSector S_9 hn (q := 75) rfl (by decide)) (fun h_11 r_ q_12 => ?_)
    obtain ⟨rfl, S_13, F_14⟩ := q_12
    have S_15 : MO h_11 (uo (uo ψ2 72 (pt (ψ2 72) (16 * k) (xb (G (xb (gt (ψ2 72) (16 * k)) (gt (ψ2 75) 0))) (gt (ψ2 75) 0)))) 75 (pt (ψ2 75) 0 (dblL (gt (ψ2 75) 0)))) z i := S_13
    refine R_iinc (pc := 141) (j := 1) (v := nI (k + 1)) (lv' := [(4, .int (nI (k + 1))), (5, .int 0), (3, .int (nI r)), (2, .int (nI b)), (0, .ref 61), (1, .int 1)]) dX12_sector_141 rfl (nI_add _ _) (by decide) rfl ?_
    refine R_goto (pc := 144) (tgt := 61) dX12_sector_144 (by decide) ?_
    refine R_sub [0, 2, 3, 4, 5] rfl ?_
    have eR : rd D (16 * k) = gt (ψ2 72) (16 * k) := (gt_of fun m_ hm_ => by rw [hJ.2.2 _ (by omega), show 16 * k + m_ = 0 + (16 * k + m_) by omega, hs2 _ (by omega), Nat.zero_add]).symm
    have eC : scS G D k (stN (scS G D) x k).1 = (dblL (gt (ψ2 75) 0), bt (xb (G (xb (gt (ψ2 72) (16 * k)) (gt (ψ2 75) 0))) (gt (ψ2 75) 0)) 16) := by rw [← hJ.1]; unfold scS; rw [eR]
    have eL : (stN (scS G D) x k).2.length = 16 * k := stN_len (scS_len G D) k
    have j1 : gt (pt (ψ2 75) 0 (dblL (gt (ψ2 75) 0))) 0 = (stN (scS G D) x (k + 1)).1 := by show _ = (scS G D k (stN (scS G D) x k).1).1; rw [eC]; simp only [gt_pt]
    have j2 : sg (pt (ψ2 72) (16 * k) (xb (G (xb (gt (ψ2 72) (16 * k)) (gt (ψ2 75) 0))) (gt (ψ2 75) 0))) 0 (stN (scS G D) x (k + 1)).2 := by show sg _ _ (_ ++ (scS G D k (stN (scS G D) x k).1).2); rw [eC]; exact hJ.2.1.pt _ (by rw [eL, Nat.zero_add]) rfl
    have j3 : ∀ j, 16 * (k + 1) ≤ j → (pt (ψ2 72) (16 * k) (xb (G (xb (gt (ψ2 72) (16 * k)) (gt (ψ2 75) 0))) (gt (ψ2 75) 0))) j = ψ 72 j := fun j_ hj_ => by rw [pt_out _ _ (by omega), hJ.2.2 j_ (by omega)]
    exact ih (k + 1) (by omega) h_11 _ S_15 ((hK.up (by decide)).up (by decide)) (⟨j1, j2, j3⟩) (hF.tr (F_8.tr F_14))
set_option maxHeartbeats 4000000 in
set_option maxRecDepth 100000 in
theorem qX12_sector_t {l : Launch} {w : am_W} {h : am_H} {n : Nat} {ψ : Nat → oA} {z : fA} {i : mI} (hn : 90 ≤ n) (D : List (BitVec 8)) (b r : Nat) (hb1 : 1 ≤ b) (hr : r < 16) (hL : D.length = 16 * b + r) (hD : D.length ≤ 512) (hi3 : i 3 = nI D.length) {F G : bP → bP} (K0 : Kh ψ 0 F G) (hs2 : sg (ψ 72) 0 D) (x : bP) (hr1 : 1 ≤ r) {Q : am_H → Nat → Option Value → Prop} (kk : ∀ h2 ψ2, MO h2 ψ2 z i → FR [72, 75] ψ ψ2 → scJ G D x ψ ψ2 (b - 1) → FM h h2 → RW l w mX12_sector h2 n 0 0 61 [(4, .int (nI (b - 1))), (3, .int (nI r)), (2, .int (nI b)), (0, .ref 61), (1, .int 1)] [] Q) : ∀ (dd k : Nat), k + dd = b - 1 → ∀ h2 ψ2, MO h2 ψ2 z i → FR [72, 75] ψ ψ2 → scJ G D x ψ ψ2 k → FM h h2 → RW l w mX12_sector h2 n 0 0 61 [(4, .int (nI k)), (3, .int (nI r)), (2, .int (nI b)), (0, .ref 61), (1, .int 1)] [] Q := by
  intro dd
  induction dd with
  | zero =>
    intro k hd h2 ψ2 S2 hK hJ hF
    obtain rfl : k = b - 1 := by omega
    exact kk h2 ψ2 S2 hK hJ hF
  | succ dd ih =>
    intro k hd h2 ψ2 S2 hK hJ hF
    have K0_2 := K0.fr hK (by decide) (by decide) (by decide) (by decide)
    refine R_iload (pc := 61) 0 dX12_sector_61 rfl ?_
    refine R_iload_n (pc := 63) 2 dX12_sector_63 rfl rfl ?_
    refine R_icmp_ge (pc := 64) (tgt := 147) dX12_sector_64 (by decide) (fun c_1 => absurd c_1 (nI_ge (a := k) (b := b) (by omega) (by omega))) (fun c_1 => ?_)
    refine R_iload_n (pc := 67) 4 dX12_sector_67 rfl rfl ?_
    refine R_if_eq (pc := 68) (tgt := 87) dX12_sector_68 (by decide) (fun c_2 => absurd c_2 (by decide)) (fun c_2 => ?_)
    refine R_iload_n (pc := 71) 1 dX12_sector_71 rfl rfl ?_
    refine R_if_le (pc := 72) (tgt := 87) dX12_sector_72 (by decide) (fun c_3 => absurd c_3 (nI_nle (by omega) (by omega))) (fun c_3 => ?_)
    refine R_iload (pc := 75) 0 dX12_sector_75 rfl ?_
    refine R_iload_n (pc := 77) 2 dX12_sector_77 rfl rfl ?_
    refine R_iconst (pc := 78) (v := 1) dX12_sector_78 (by decide) ?_
    refine R_isub (pc := 79) dX12_sector_79 ?_
    refine R_eqi (y := nI (b - 1)) (nI_sb (a := b) (b := 1) (by omega)) ?_
    refine R_icmp_ne (pc := 80) (tgt := 87) dX12_sector_80 (by decide) (fun c_4 => ?_) (fun c_4 => absurd c_4 (fun q_ => absurd ((nI_eq (a := k) (b := b - 1) (by omega) (by omega)).mp q_) (by omega)))
    refine R_iconst (pc := 87) (v := 0) dX12_sector_87 (by decide) ?_
    refine R_istore (pc := 88) (lv' := [(5, .int 0), (4, .int (nI k)), (3, .int (nI r)), (2, .int (nI b)), (0, .ref 61), (1, .int 1)]) dX12_sector_88 (by decide) rfl ?_
    refine R_iload (pc := 90) 0 dX12_sector_90 rfl ?_
    refine R_if_eq (pc := 92) (tgt := 118) dX12_sector_92 (by decide) (fun c_5 => ?_) (fun c_5 => absurd (rfl) c_5)
    refine R_aload_n (pc := 118) 4 dX12_sector_118 rfl rfl ?_
    refine R_iload_n (pc := 119) 5 dX12_sector_119 rfl rfl ?_
    refine R_bipush (pc := 120) (v := 16) dX12_sector_120 (by decide) ?_
    refine R_iload (pc := 122) 1 dX12_sector_122 rfl ?_
    refine R_imul (pc := 124) dX12_sector_124 ?_
    refine R_eqi (y := nI (16 * k)) (nI_mul 16 k) ?_
    refine R_callVh (pc := 125) (μ' := mX12_sectorBlock) (As := [.int 1, .int (nI (16 * k))]) (st := []) dX12_sector_125 zX12_sectorBlock lX12_176 ⟨by decide, by decide⟩ rfl rfl ⟨by decide, by decide⟩ S2.obj (by omega) rfl (Nat.le_of_ble_eq_true rfl) (oX12_sectorBlock_o S2 hn (16 * k) (by omega) K0_2) (fun h_6 r_ q_7 => ?_)
    obtain ⟨rfl, S_8, F_9⟩ := q_7
    have S_10 : MO h_6 (uo ψ2 72 (pt (ψ2 72) (16 * k) (xb (G (xb (gt (ψ2 72) (16 * k)) (gt (ψ2 75) 0))) (gt (ψ2 75) 0)))) z i := S_8
    refine R_iload (pc := 128) 0 dX12_sector_128 rfl ?_
    refine R_if_ne (pc := 130) (tgt := 141) dX12_sector_130 (by decide) (fun c_11 => absurd (rfl) c_11) (fun c_11 => ?_)
    refine R_aload_n (pc := 133) 4 dX12_sector_133 rfl rfl ?_
    refine R_aload_n (pc := 134) 4 dX12_sector_134 rfl rfl ?_
    refine R_get (pc := 135) dX12_sector_135 fX12_53 S_10.obj (by omega) rfl ?_
    refine R_callVh (pc := 138) (μ' := mX12_nextSector) (As := [.ref 75]) (st := []) dX12_sector_138 zX12_nextSector lX12_172 ⟨by decide, by decide⟩ rfl rfl ⟨by decide, by decide⟩ S_10.obj (by omega) rfl (Nat.le_of_ble_eq_true rfl) (oX12_nextSector S_10 hn (q := 75) rfl (by decide)) (fun h_12 r_ q_13 => ?_)
    obtain ⟨rfl, S_14, F_15⟩ := q_13
    have S_16 : MO h_12 (uo (uo ψ2 72 (pt (ψ2 72) (16 * k) (xb (G (xb (gt (ψ2 72) (16 * k)) (gt (ψ2 75) 0))) (gt (ψ2 75) 0)))) 75 (pt (ψ2 75) 0 (dblL (gt (ψ2 75) 0)))) z i := S_14
    refine R_iinc (pc := 141) (j := 1) (v := nI (k + 1)) (lv' := [(4, .int (nI (k + 1))), (5, .int 0), (3, .int (nI r)), (2, .int (nI b)), (0, .ref 61), (1, .int 1)]) dX12_sector_141 rfl (nI_add _ _) (by decide) rfl ?_
    refine R_goto (pc := 144) (tgt := 61) dX12_sector_144 (by decide) ?_
    refine R_sub [0, 2, 3, 4, 5] rfl ?_
    have eR : rd D (16 * k) = gt (ψ2 72) (16 * k) := (gt_of fun m_ hm_ => by rw [hJ.2.2 _ (by omega), show 16 * k + m_ = 0 + (16 * k + m_) by omega, hs2 _ (by omega), Nat.zero_add]).symm
    have eC : scS G D k (stN (scS G D) x k).1 = (dblL (gt (ψ2 75) 0), bt (xb (G (xb (gt (ψ2 72) (16 * k)) (gt (ψ2 75) 0))) (gt (ψ2 75) 0)) 16) := by rw [← hJ.1]; unfold scS; rw [eR]
    have eL : (stN (scS G D) x k).2.length = 16 * k := stN_len (scS_len G D) k
    have j1 : gt (pt (ψ2 75) 0 (dblL (gt (ψ2 75) 0))) 0 = (stN (scS G D) x (k + 1)).1 := by show _ = (scS G D k (stN (scS G D) x k).1).1; rw [eC]; simp only [gt_pt]
    have j2 : sg (pt (ψ2 72) (16 * k) (xb (G (xb (gt (ψ2 72) (16 * k)) (gt (ψ2 75) 0))) (gt (ψ2 75) 0))) 0 (stN (scS G D) x (k + 1)).2 := by show sg _ _ (_ ++ (scS G D k (stN (scS G D) x k).1).2); rw [eC]; exact hJ.2.1.pt _ (by rw [eL, Nat.zero_add]) rfl
    have j3 : ∀ j, 16 * (k + 1) ≤ j → (pt (ψ2 72) (16 * k) (xb (G (xb (gt (ψ2 72) (16 * k)) (gt (ψ2 75) 0))) (gt (ψ2 75) 0))) j = ψ 72 j := fun j_ hj_ => by rw [pt_out _ _ (by omega), hJ.2.2 j_ (by omega)]
    exact ih (k + 1) (by omega) h_12 _ S_16 ((hK.up (by decide)).up (by decide)) (⟨j1, j2, j3⟩) (hF.tr (F_9.tr F_15))
set_option maxHeartbeats 4000000 in
set_option maxRecDepth 100000 in
theorem qX12_sector_ws {l : Launch} {w : am_W} {h : am_H} {n : Nat} {ψ : Nat → oA} {z : fA} {i : mI} (hn : 90 ≤ n) (b r : Nat) (hb1 : 1 ≤ b) (hr : r < 16) (hb : 16 * b + r ≤ 700) {Q : am_H → Nat → Option Value → Prop} (kk : ∀ h2 ψ2, MO h2 ψ2 z i → FR [72] ψ ψ2 → ψ2 72 = swB (ψ 72) (16 * (b - 1)) r → FM h h2 → RW l w mX12_sector h2 n 0 0 233 [(5, .int (nI r)), (4, .int (nI (16 * (b - 1)))), (3, .int (nI r)), (2, .int (nI b)), (0, .ref 61), (1, .int 0)] [] Q) : ∀ (dd k : Nat), k + dd = r → ∀ h2 ψ2, MO h2 ψ2 z i → FR [72] ψ ψ2 → ψ2 72 = swB (ψ 72) (16 * (b - 1)) k → FM h h2 → RW l w mX12_sector h2 n 0 0 171 [(5, .int (nI k)), (4, .int (nI (16 * (b - 1)))), (3, .int (nI r)), (2, .int (nI b)), (0, .ref 61), (1, .int 0)] [] Q := by
  intro dd
  induction dd with
  | zero =>
    intro k hd h2 ψ2 S2 hK hJ hF
    refine R_iload (pc := 171) 0 dX12_sector_171 rfl ?_
    refine R_iload_n (pc := 173) 2 dX12_sector_173 rfl rfl ?_
    refine R_icmp_ge (pc := 174) (tgt := 233) dX12_sector_174 (by decide) (fun c_1 => ?_) (fun c_1 => absurd (nI_le (a := r) (b := k) (by omega) (by omega)) c_1)
    obtain rfl : k = r := by omega
    exact kk h2 ψ2 S2 hK hJ hF
  | succ dd ih =>
    intro k hd h2 ψ2 S2 hK hJ hF
    refine R_iload (pc := 171) 0 dX12_sector_171 rfl ?_
    refine R_iload_n (pc := 173) 2 dX12_sector_173 rfl rfl ?_
    refine R_icmp_ge (pc := 174) (tgt := 233) dX12_sector_174 (by decide) (fun c_1 => absurd c_1 (nI_ge (a := k) (b := r) (by omega) (by omega))) (fun c_1 => ?_)
    refine R_aload_n (pc := 177) 4 dX12_sector_177 rfl rfl ?_
    refine R_get (pc := 178) dX12_sector_178 fX12_44 S2.obj (by omega) rfl ?_
    refine R_iload (pc := 181) 1 dX12_sector_181 rfl ?_
    refine R_iload (pc := 183) 0 dX12_sector_183 rfl ?_
    refine R_iadd (pc := 185) dX12_sector_185 ?_
    refine R_eqi (y := nI (16 * (b - 1) + k)) (nI_add (16 * (b - 1)) k) ?_
    refine R_iald' (pc := 186) (j := 16 * (b - 1) + k) dX12_sector_186 (S2.arr (p := 72) rfl) (by omega) ⟨rfl, by show 16 * (b - 1) + k < 700; omega, by decide⟩ ?_
    refine R_eqi (y := oc (ψ2 72 (16 * (b - 1) + k))) rfl ?_
    refine R_istore (pc := 187) (lv' := [(6, .int (oc (ψ2 72 (16 * (b - 1) + k)))), (5, .int (nI k)), (4, .int (nI (16 * (b - 1)))), (3, .int (nI r)), (2, .int (nI b)), (0, .ref 61), (1, .int 0)]) dX12_sector_187 (by decide) rfl ?_
    refine R_aload_n (pc := 189) 5 dX12_sector_189 rfl rfl ?_
    refine R_get (pc := 190) dX12_sector_190 fX12_44 S2.obj (by omega) rfl ?_
    refine R_iload (pc := 193) 2 dX12_sector_193 rfl ?_
    refine R_iload (pc := 195) 1 dX12_sector_195 rfl ?_
    refine R_iadd (pc := 197) dX12_sector_197 ?_
    refine R_eqi (y := nI (16 * (b - 1) + k)) (nI_add (16 * (b - 1)) k) ?_
    refine R_aload_n (pc := 198) 5 dX12_sector_198 rfl rfl ?_
    refine R_get (pc := 199) dX12_sector_199 fX12_44 S2.obj (by omega) rfl ?_
    refine R_iload (pc := 202) 2 dX12_sector_202 rfl ?_
    refine R_bipush (pc := 204) (v := 16) dX12_sector_204 (by decide) ?_
    refine R_iadd (pc := 206) dX12_sector_206 ?_
    refine R_eqi (y := nI (16 * (b - 1) + 16)) (nI_add (16 * (b - 1)) 16) ?_
    refine R_iload (pc := 207) 1 dX12_sector_207 rfl ?_
    refine R_iadd (pc := 209) dX12_sector_209 ?_
    refine R_eqi (y := nI (16 * (b - 1) + 16 + k)) (nI_add (16 * (b - 1) + 16) k) ?_
    refine R_iald' (pc := 210) (j := 16 * (b - 1) + 16 + k) dX12_sector_210 (S2.arr (p := 72) rfl) (by omega) ⟨rfl, by show 16 * (b - 1) + 16 + k < 700; omega, by decide⟩ ?_
    refine R_eqi (y := oc (ψ2 72 (16 * (b - 1) + 16 + k))) rfl ?_
    refine R_iast' (pc := 211) (j := 16 * (b - 1) + k) dX12_sector_211 (S2.arr (p := 72) rfl) (by omega) ⟨rfl, by show 16 * (b - 1) + k < 700; omega, by decide⟩ (fun h_2 f_3 g_4 => ?_)
    have S_6 : MO h_2 (uo ψ2 72 (updB (ψ2 72) (16 * (b - 1) + k) (ψ2 72 (16 * (b - 1) + 16 + k)))) z i := MO.setA (p := 72) S2 rfl f_3 g_4 (fun j_ => congrFun (upd_oc _ _ _) j_)
    have F_5 := fmA (p := 72) (okA_c (by decide)).1 g_4
    refine R_aload_n (pc := 212) 5 dX12_sector_212 rfl rfl ?_
    refine R_get (pc := 213) dX12_sector_213 fX12_44 S_6.obj (by omega) rfl ?_
    refine R_iload (pc := 216) 2 dX12_sector_216 rfl ?_
    refine R_bipush (pc := 218) (v := 16) dX12_sector_218 (by decide) ?_
    refine R_iadd (pc := 220) dX12_sector_220 ?_
    refine R_eqi (y := nI (16 * (b - 1) + 16)) (nI_add (16 * (b - 1)) 16) ?_
    refine R_iload (pc := 221) 1 dX12_sector_221 rfl ?_
    refine R_iadd (pc := 223) dX12_sector_223 ?_
    refine R_eqi (y := nI (16 * (b - 1) + 16 + k)) (nI_add (16 * (b - 1) + 16) k) ?_
    refine R_iload (pc := 224) 0 dX12_sector_224 rfl ?_
    refine R_iast' (pc := 226) (j := 16 * (b - 1) + 16 + k) dX12_sector_226 (S_6.arr (p := 72) rfl) (by omega) ⟨rfl, by show 16 * (b - 1) + 16 + k < 700; omega, by decide⟩ (fun h_7 f_8 g_9 => ?_)
    have S_11 : MO h_7 (uo ψ2 72 (updB (updB (ψ2 72) (16 * (b - 1) + k) (ψ2 72 (16 * (b - 1) + 16 + k))) (16 * (b - 1) + 16 + k) (ψ2 72 (16 * (b - 1) + k)))) z i := by have z_ := MO.setA (p := 72) S_6 rfl f_8 g_9 (fun j_ => congrFun (upd_oc _ _ _) j_); rw [uo_uo] at z_; exact z_
    have F_10 := fmA (p := 72) (okA_c (by decide)).1 g_9
    refine R_iinc (pc := 227) (j := 1) (v := nI (k + 1)) (lv' := [(5, .int (nI (k + 1))), (6, .int (oc (ψ2 72 (16 * (b - 1) + k)))), (4, .int (nI (16 * (b - 1)))), (3, .int (nI r)), (2, .int (nI b)), (0, .ref 61), (1, .int 0)]) dX12_sector_227 rfl (nI_add _ _) (by decide) rfl ?_
    refine R_goto (pc := 230) (tgt := 171) dX12_sector_230 (by decide) ?_
    refine R_sub [0, 2, 3, 4, 5, 6] rfl ?_
    have j1 : updB (updB (ψ2 72) (16 * (b - 1) + k) (ψ2 72 (16 * (b - 1) + 16 + k))) (16 * (b - 1) + 16 + k) (ψ2 72 (16 * (b - 1) + k)) = swB (ψ 72) (16 * (b - 1)) (k + 1) := by rw [hJ]; exact swB_up _ (by omega) rfl
    exact ih (k + 1) (by omega) h_7 _ S_11 (hK.up (by decide)) (j1) (hF.tr (F_5.tr F_10))
set_option maxHeartbeats 4000000 in
set_option maxRecDepth 100000 in
theorem qX12_sector_wo {l : Launch} {w : am_W} {h : am_H} {n : Nat} {ψ : Nat → oA} {z : fA} {i : mI} (hn : 90 ≤ n) (b r : Nat) (hb1 : 1 ≤ b) (hr : r < 16) (hb : 16 * b + r ≤ 700) {Q : am_H → Nat → Option Value → Prop} (kk : ∀ h2 ψ2, MO h2 ψ2 z i → FR [72] ψ ψ2 → ψ2 72 = swB (ψ 72) (16 * (b - 1)) r → FM h h2 → RW l w mX12_sector h2 n 0 0 233 [(5, .int (nI r)), (4, .int (nI (16 * (b - 1)))), (3, .int (nI r)), (2, .int (nI b)), (0, .ref 61), (1, .int 1)] [] Q) : ∀ (dd k : Nat), k + dd = r → ∀ h2 ψ2, MO h2 ψ2 z i → FR [72] ψ ψ2 → ψ2 72 = swB (ψ 72) (16 * (b - 1)) k → FM h h2 → RW l w mX12_sector h2 n 0 0 171 [(5, .int (nI k)), (4, .int (nI (16 * (b - 1)))), (3, .int (nI r)), (2, .int (nI b)), (0, .ref 61), (1, .int 1)] [] Q := by
  intro dd
  induction dd with
  | zero =>
    intro k hd h2 ψ2 S2 hK hJ hF
    refine R_iload (pc := 171) 0 dX12_sector_171 rfl ?_
    refine R_iload_n (pc := 173) 2 dX12_sector_173 rfl rfl ?_
    refine R_icmp_ge (pc := 174) (tgt := 233) dX12_sector_174 (by decide) (fun c_1 => ?_) (fun c_1 => absurd (nI_le (a := r) (b := k) (by omega) (by omega)) c_1)
    obtain rfl : k = r := by omega
    exact kk h2 ψ2 S2 hK hJ hF
  | succ dd ih =>
    intro k hd h2 ψ2 S2 hK hJ hF
    refine R_iload (pc := 171) 0 dX12_sector_171 rfl ?_
    refine R_iload_n (pc := 173) 2 dX12_sector_173 rfl rfl ?_
    refine R_icmp_ge (pc := 174) (tgt := 233) dX12_sector_174 (by decide) (fun c_1 => absurd c_1 (nI_ge (a := k) (b := r) (by omega) (by omega))) (fun c_1 => ?_)
    refine R_aload_n (pc := 177) 4 dX12_sector_177 rfl rfl ?_
    refine R_get (pc := 178) dX12_sector_178 fX12_44 S2.obj (by omega) rfl ?_
    refine R_iload (pc := 181) 1 dX12_sector_181 rfl ?_
    refine R_iload (pc := 183) 0 dX12_sector_183 rfl ?_
    refine R_iadd (pc := 185) dX12_sector_185 ?_
    refine R_eqi (y := nI (16 * (b - 1) + k)) (nI_add (16 * (b - 1)) k) ?_
    refine R_iald' (pc := 186) (j := 16 * (b - 1) + k) dX12_sector_186 (S2.arr (p := 72) rfl) (by omega) ⟨rfl, by show 16 * (b - 1) + k < 700; omega, by decide⟩ ?_
    refine R_eqi (y := oc (ψ2 72 (16 * (b - 1) + k))) rfl ?_
    refine R_istore (pc := 187) (lv' := [(6, .int (oc (ψ2 72 (16 * (b - 1) + k)))), (5, .int (nI k)), (4, .int (nI (16 * (b - 1)))), (3, .int (nI r)), (2, .int (nI b)), (0, .ref 61), (1, .int 1)]) dX12_sector_187 (by decide) rfl ?_
    refine R_aload_n (pc := 189) 5 dX12_sector_189 rfl rfl ?_
    refine R_get (pc := 190) dX12_sector_190 fX12_44 S2.obj (by omega) rfl ?_
    refine R_iload (pc := 193) 2 dX12_sector_193 rfl ?_
    refine R_iload (pc := 195) 1 dX12_sector_195 rfl ?_
    refine R_iadd (pc := 197) dX12_sector_197 ?_
    refine R_eqi (y := nI (16 * (b - 1) + k)) (nI_add (16 * (b - 1)) k) ?_
    refine R_aload_n (pc := 198) 5 dX12_sector_198 rfl rfl ?_
    refine R_get (pc := 199) dX12_sector_199 fX12_44 S2.obj (by omega) rfl ?_
    refine R_iload (pc := 202) 2 dX12_sector_202 rfl ?_
    refine R_bipush (pc := 204) (v := 16) dX12_sector_204 (by decide) ?_
    refine R_iadd (pc := 206) dX12_sector_206 ?_
    refine R_eqi (y := nI (16 * (b - 1) + 16)) (nI_add (16 * (b - 1)) 16) ?_
    refine R_iload (pc := 207) 1 dX12_sector_207 rfl ?_
    refine R_iadd (pc := 209) dX12_sector_209 ?_
    refine R_eqi (y := nI (16 * (b - 1) + 16 + k)) (nI_add (16 * (b - 1) + 16) k) ?_
    refine R_iald' (pc := 210) (j := 16 * (b - 1) + 16 + k) dX12_sector_210 (S2.arr (p := 72) rfl) (by omega) ⟨rfl, by show 16 * (b - 1) + 16 + k < 700; omega, by decide⟩ ?_
    refine R_eqi (y := oc (ψ2 72 (16 * (b - 1) + 16 + k))) rfl ?_
    refine R_iast' (pc := 211) (j := 16 * (b - 1) + k) dX12_sector_211 (S2.arr (p := 72) rfl) (by omega) ⟨rfl, by show 16 * (b - 1) + k < 700; omega, by decide⟩ (fun h_2 f_3 g_4 => ?_)
    have S_6 : MO h_2 (uo ψ2 72 (updB (ψ2 72) (16 * (b - 1) + k) (ψ2 72 (16 * (b - 1) + 16 + k)))) z i := MO.setA (p := 72) S2 rfl f_3 g_4 (fun j_ => congrFun (upd_oc _ _ _) j_)
    have F_5 := fmA (p := 72) (okA_c (by decide)).1 g_4
    refine R_aload_n (pc := 212) 5 dX12_sector_212 rfl rfl ?_
    refine R_get (pc := 213) dX12_sector_213 fX12_44 S_6.obj (by omega) rfl ?_
    refine R_iload (pc := 216) 2 dX12_sector_216 rfl ?_
    refine R_bipush (pc := 218) (v := 16) dX12_sector_218 (by decide) ?_
    refine R_iadd (pc := 220) dX12_sector_220 ?_
    refine R_eqi (y := nI (16 * (b - 1) + 16)) (nI_add (16 * (b - 1)) 16) ?_
    refine R_iload (pc := 221) 1 dX12_sector_221 rfl ?_
    refine R_iadd (pc := 223) dX12_sector_223 ?_
    refine R_eqi (y := nI (16 * (b - 1) + 16 + k)) (nI_add (16 * (b - 1) + 16) k) ?_
    refine R_iload (pc := 224) 0 dX12_sector_224 rfl ?_
    refine R_iast' (pc := 226) (j := 16 * (b - 1) + 16 + k) dX12_sector_226 (S_6.arr (p := 72) rfl) (by omega) ⟨rfl, by show 16 * (b - 1) + 16 + k < 700; omega, by decide⟩ (fun h_7 f_8 g_9 => ?_)
    have S_11 : MO h_7 (uo ψ2 72 (updB (updB (ψ2 72) (16 * (b - 1) + k) (ψ2 72 (16 * (b - 1) + 16 + k))) (16 * (b - 1) + 16 + k) (ψ2 72 (16 * (b - 1) + k)))) z i := by have z_ := MO.setA (p := 72) S_6 rfl f_8 g_9 (fun j_ => congrFun (upd_oc _ _ _) j_); rw [uo_uo] at z_; exact z_
    have F_10 := fmA (p := 72) (okA_c (by decide)).1 g_9
    refine R_iinc (pc := 227) (j := 1) (v := nI (k + 1)) (lv' := [(5, .int (nI (k + 1))), (6, .int (oc (ψ2 72 (16 * (b - 1) + k)))), (4, .int (nI (16 * (b - 1)))), (3, .int (nI r)), (2, .int (nI b)), (0, .ref 61), (1, .int 1)]) dX12_sector_227 rfl (nI_add _ _) (by decide) rfl ?_
    refine R_goto (pc := 230) (tgt := 171) dX12_sector_230 (by decide) ?_
    refine R_sub [0, 2, 3, 4, 5, 6] rfl ?_
    have j1 : updB (updB (ψ2 72) (16 * (b - 1) + k) (ψ2 72 (16 * (b - 1) + 16 + k))) (16 * (b - 1) + 16 + k) (ψ2 72 (16 * (b - 1) + k)) = swB (ψ 72) (16 * (b - 1)) (k + 1) := by rw [hJ]; exact swB_up _ (by omega) rfl
    exact ih (k + 1) (by omega) h_7 _ S_11 (hK.up (by decide)) (j1) (hF.tr (F_5.tr F_10))
set_option maxHeartbeats 4000000 in
set_option maxRecDepth 100000 in
theorem oX12_sector_s0 {l : Launch} {w : am_W} {h : am_H} {n : Nat} {ψ : Nat → oA} {z : fA} {i : mI} (S : MO h ψ z i) (hn : 90 ≤ n) (D : List (BitVec 8)) (b r : Nat) (hb1 : 1 ≤ b) (hr : r < 16) (hL : D.length = 16 * b + r) (hD : D.length ≤ 512) (hi3 : i 3 = nI D.length) {F G : bP → bP} (K0 : Kh ψ 0 F G) {F1 G1 : bP → bP} (K1 : Kh ψ 1 F1 G1) (hs : sg (ψ 71) 0 D) (hr0 : r = 0) (y0 : bP) : RH l w mX12_sector h n [.ref 61, .int 0] (fun h2 q => ∃ ψ2, q = none ∧ MO h2 ψ2 z (ui i 4 (nI D.length)) ∧ FR [72, 75] ψ ψ2 ∧ sg (ψ2 72) 0 (scE F D (F1 (gt (ψ 73) 0)) y0) ∧ FM h h2) := by
  refine RC.of [(0, .ref 61), (1, .int 0)] (by decide +kernel) rfl (Nat.le_of_ble_eq_true rfl) ?_
  refine R_aload_n (pc := 0) 0 dX12_sector_0 rfl rfl ?_
  refine R_get (pc := 1) dX12_sector_1 fX12_47 S.obj (by omega) rfl ?_
  refine R_iconst (pc := 4) (v := 0) dX12_sector_4 (by decide) ?_
  refine R_aload_n (pc := 5) 0 dX12_sector_5 rfl rfl ?_
  refine R_get (pc := 6) dX12_sector_6 fX12_53 S.obj (by omega) rfl ?_
  refine R_iconst (pc := 9) (v := 0) dX12_sector_9 (by decide) ?_
  refine R_bipush (pc := 10) (v := 16) dX12_sector_10 (by decide) ?_
  refine R_callSh (pc := 12) (μ' := mX12_copy) (As := [.ref 73, .int (nI 0), .ref 75, .int (nI 0), .int 16]) (st := []) dX12_sector_12 zX12_copy lX12_133 ⟨by decide, by decide⟩ rfl rfl ⟨by decide, by decide⟩ rfl (Nat.le_of_ble_eq_true rfl) (oX12_copy16 S hn (p := 73) (q := 75) rfl rfl 0 0 (by show 0 + 16 ≤ 64; omega) (by show 0 + 16 ≤ 16; omega) (by decide)) (fun h_1 r_ q_2 => ?_)
  obtain ⟨rfl, S_3, F_4⟩ := q_2
  have S_5 : MO h_1 (uo ψ 75 (pt (ψ 75) 0 (gt (ψ 73) 0))) z i := S_3
  refine R_aload_n (pc := 15) 0 dX12_sector_15 rfl rfl ?_
  refine R_iconst (pc := 16) (v := 1) dX12_sector_16 (by decide) ?_
  refine R_aload_n (pc := 17) 0 dX12_sector_17 rfl rfl ?_
  refine R_get (pc := 18) dX12_sector_18 fX12_53 S_5.obj (by omega) rfl ?_
  refine R_iconst (pc := 21) (v := 0) dX12_sector_21 (by decide) ?_
  refine R_callVh (pc := 22) (μ' := mX12_sealBlock) (As := [.int (nI 1), .ref 75, .int (nI 0)]) (st := []) dX12_sector_22 zX12_sealBlock lX12_146 ⟨by decide, by decide⟩ rfl rfl ⟨by decide, by decide⟩ S_5.obj (by omega) rfl (Nat.le_of_ble_eq_true rfl) (oX12_sealBlock S_5 hn (K1.uo (by decide)) (p := 75) rfl 0 (by show 0 + 16 ≤ 16; omega)) (fun h_6 r_ q_7 => ?_)
  obtain ⟨rfl, S_8, F_9⟩ := q_7
  have S_10 : MO h_6 (uo ψ 75 (pt (pt (ψ 75) 0 (gt (ψ 73) 0)) 0 (F1 (gt (pt (ψ 75) 0 (gt (ψ 73) 0)) 0)))) z i := by have z_ := S_8; rw [uo_uo] at z_; exact z_
  refine R_aload_n (pc := 25) 0 dX12_sector_25 rfl rfl ?_
  refine R_get (pc := 26) dX12_sector_26 fX12_41 S_10.obj (by omega) rfl ?_
  refine R_iconst (pc := 29) (v := 0) dX12_sector_29 (by decide) ?_
  refine R_aload_n (pc := 30) 0 dX12_sector_30 rfl rfl ?_
  refine R_get (pc := 31) dX12_sector_31 fX12_44 S_10.obj (by omega) rfl ?_
  refine R_iconst (pc := 34) (v := 0) dX12_sector_34 (by decide) ?_
  refine R_aload_n (pc := 35) 0 dX12_sector_35 rfl rfl ?_
  refine R_get (pc := 36) dX12_sector_36 fX12_130 S_10.obj (by omega) rfl ?_
  refine R_eqi (y := nI D.length) (hi3) ?_
  refine R_callSh (pc := 39) (μ' := mX12_copy) (As := [.ref 71, .int (nI 0), .ref 72, .int (nI 0), .int (nI D.length)]) (st := []) dX12_sector_39 zX12_copy lX12_133 ⟨by decide, by decide⟩ rfl rfl ⟨by decide, by decide⟩ rfl (Nat.le_of_ble_eq_true rfl) (oX12_copy S_10 hn (p := 71) (q := 72) rfl rfl 0 0 D.length (by show 0 + D.length ≤ 700; omega) (by show 0 + D.length ≤ 700; omega) (by decide)) (fun h_11 r_ q_12 => ?_)
  obtain ⟨rfl, S_13, F_14⟩ := q_12
  have S_15 : MO h_11 (uo (uo ψ 75 (pt (pt (ψ 75) 0 (gt (ψ 73) 0)) 0 (F1 (gt (pt (ψ 75) 0 (gt (ψ 73) 0)) 0)))) 72 (cpB (ψ 71) 0 (ψ 72) 0 D.length)) z i := S_13
  refine R_aload_n (pc := 42) 0 dX12_sector_42 rfl rfl ?_
  refine R_get (pc := 43) dX12_sector_43 fX12_130 S_15.obj (by omega) rfl ?_
  refine R_eqi (y := nI D.length) (hi3) ?_
  refine R_bipush (pc := 46) (v := 16) dX12_sector_46 (by decide) ?_
  refine R_idiv (pc := 48) dX12_sector_48 (by decide) ?_
  refine R_eqi (y := nI b) ((nI_div (a := D.length) (b := 16) (by omega) (by omega)).trans (congrArg nI (by omega))) ?_
  refine R_istore_n (pc := 49) (lv' := [(2, .int (nI b)), (0, .ref 61), (1, .int 0)]) dX12_sector_49 rfl (by decide) rfl ?_
  refine R_aload_n (pc := 50) 1 dX12_sector_50 rfl rfl ?_
  refine R_get (pc := 51) dX12_sector_51 fX12_130 S_15.obj (by omega) rfl ?_
  refine R_eqi (y := nI D.length) (hi3) ?_
  refine R_bipush (pc := 54) (v := 16) dX12_sector_54 (by decide) ?_
  refine R_irem (pc := 56) dX12_sector_56 (by decide) ?_
  refine R_eqi (y := nI r) ((nI_rem (a := D.length) (b := 16) (by omega) (by omega)).trans (congrArg nI (by omega))) ?_
  refine R_istore_n (pc := 57) (lv' := [(3, .int (nI r)), (2, .int (nI b)), (0, .ref 61), (1, .int 0)]) dX12_sector_57 rfl (by decide) rfl ?_
  refine R_iconst (pc := 58) (v := 0) dX12_sector_58 (by decide) ?_
  refine R_istore (pc := 59) (lv' := [(4, .int 0), (3, .int (nI r)), (2, .int (nI b)), (0, .ref 61), (1, .int 0)]) dX12_sector_59 (by decide) rfl ?_
  refine R_sub [0, 1, 2, 3, 4] rfl ?_
  have sD : sg (cpB (ψ 71) 0 (ψ 72) 0 D.length) 0 D := hs.cp _ _ rfl
  refine qX12_sector_s (h := h) (ψ := (uo (uo ψ 75 (pt (pt (ψ 75) 0 (gt (ψ 73) 0)) 0 (F1 (gt (pt (ψ 75) 0 (gt (ψ 73) 0)) 0)))) 72 (cpB (ψ 71) 0 (ψ 72) 0 D.length))) hn D b r hb1 hr hL hD hi3 ((K0.uo (by decide)).uo (by decide)) sD (F1 (gt (ψ 73) 0))  (fun h2 ψ2 S2 hK hJ hF => ?_) b 0 (by omega) h_11 _ S_15 (FR.rf _ _) ⟨by simp only [uo_s, uo_n, ne_eq, Nat.reduceEqDiff, not_false_eq_true, gt_pt, pt_pt]; rfl, sg.nil _ _, fun _ _ => rfl⟩ ((F_4.tr F_9).tr F_14)
  have eO : ∀ j, 16 * b ≤ j → ψ2 72 j = cpB (ψ 71) 0 (ψ 72) 0 D.length j := hJ.2.2
  have rJ := hJ.1
  have sJ := hJ.2.1
  have K_16 := ((K0.uo (by decide)).uo (by decide)).fr hK (by decide) (by decide) (by decide) (by decide)
  refine R_aload_n (pc := 147) 3 dX12_sector_147 rfl rfl ?_
  refine R_aload_n (pc := 148) 3 dX12_sector_148 rfl rfl ?_
  refine R_get (pc := 149) dX12_sector_149 fX12_130 S2.obj (by omega) rfl ?_
  refine R_eqi (y := nI D.length) (hi3) ?_
  refine R_put' (pc := 152) (fs' := [.int (i 0), .ref 62, .ref 63, .int (i 1), .ref 64, .int (i 2), .ref 65, .ref 66, .ref 67, .ref 68, .ref 69, .ref 70, .ref 71, .int (i 3), .ref 72, .int (nI D.length), .ref 73, .int (i 5), .ref 74, .int (i 6), .ref 75, .ref 76, .ref 77, .ref 78, .ref 79, .ref 80, .ref 81, .ref 82, .ref 83, .ref 84, .int (i 7), .ref 85, .ref 86, .ref 87, .ref 88, .ref 89, .ref 90]) dX12_sector_152 fX12_153 tX12_15 rfl rfl S2.obj (by omega) (Nat.le_of_ble_eq_true rfl) rfl (fun h_17 f_18 g_19 => ?_)
  have S_20 : MO h_17 ψ2 z (ui i 4 (nI D.length)) := MO.setI (j := (ui i 4 (nI D.length))) S2 f_18 g_19
  have F_21 := fmI g_19
  refine R_iload_n (pc := 155) 1 dX12_sector_155 rfl rfl ?_
  refine R_if_ne (pc := 156) (tgt := 160) dX12_sector_156 (by decide) (fun c_22 => absurd (by rw [hr0]; rfl) c_22) (fun c_22 => ?_)
  have hy : sg (ψ2 72) 0 (scE F D (F1 (gt (ψ 73) 0)) y0) := by unfold scE; rw [show D.length / 16 = b by omega, show D.length % 16 = 0 by omega]; exact sJ
  exact R_vreturn (pc := 159) dX12_sector_159 rfl (by decide) (by decide) ⟨rfl, _, rfl, S_20, ((((FR.rf _ _).up (by decide)).up (by decide)).tr hK (by decide)), hy, (hF.tr F_21)⟩
set_option maxHeartbeats 4000000 in
set_option maxRecDepth 100000 in
theorem oX12_sector_sr {l : Launch} {w : am_W} {h : am_H} {n : Nat} {ψ : Nat → oA} {z : fA} {i : mI} (S : MO h ψ z i) (hn : 90 ≤ n) (D : List (BitVec 8)) (b r : Nat) (hb1 : 1 ≤ b) (hr : r < 16) (hL : D.length = 16 * b + r) (hD : D.length ≤ 512) (hi3 : i 3 = nI D.length) {F G : bP → bP} (K0 : Kh ψ 0 F G) {F1 G1 : bP → bP} (K1 : Kh ψ 1 F1 G1) (hs : sg (ψ 71) 0 D) (hr1 : 1 ≤ r) (y0 : bP) : RH l w mX12_sector h n [.ref 61, .int 0] (fun h2 q => ∃ ψ2, q = none ∧ MO h2 ψ2 z (ui i 4 (nI D.length)) ∧ FR [72, 75] ψ ψ2 ∧ sg (ψ2 72) 0 (scE F D (F1 (gt (ψ 73) 0)) y0) ∧ FM h h2) := by
  refine RC.of [(0, .ref 61), (1, .int 0)] (by decide +kernel) rfl (Nat.le_of_ble_eq_true rfl) ?_
  refine R_aload_n (pc := 0) 0 dX12_sector_0 rfl rfl ?_
  refine R_get (pc := 1) dX12_sector_1 fX12_47 S.obj (by omega) rfl ?_
  refine R_iconst (pc := 4) (v := 0) dX12_sector_4 (by decide) ?_
  refine R_aload_n (pc := 5) 0 dX12_sector_5 rfl rfl ?_
  refine R_get (pc := 6) dX12_sector_6 fX12_53 S.obj (by omega) rfl ?_
  refine R_iconst (pc := 9) (v := 0) dX12_sector_9 (by decide) ?_
  refine R_bipush (pc := 10) (v := 16) dX12_sector_10 (by decide) ?_
  refine R_callSh (pc := 12) (μ' := mX12_copy) (As := [.ref 73, .int (nI 0), .ref 75, .int (nI 0), .int 16]) (st := []) dX12_sector_12 zX12_copy lX12_133 ⟨by decide, by decide⟩ rfl rfl ⟨by decide, by decide⟩ rfl (Nat.le_of_ble_eq_true rfl) (oX12_copy16 S hn (p := 73) (q := 75) rfl rfl 0 0 (by show 0 + 16 ≤ 64; omega) (by show 0 + 16 ≤ 16; omega) (by decide)) (fun h_1 r_ q_2 => ?_)
  obtain ⟨rfl, S_3, F_4⟩ := q_2
  have S_5 : MO h_1 (uo ψ 75 (pt (ψ 75) 0 (gt (ψ 73) 0))) z i := S_3
  refine R_aload_n (pc := 15) 0 dX12_sector_15 rfl rfl ?_
  refine R_iconst (pc := 16) (v := 1) dX12_sector_16 (by decide) ?_
  refine R_aload_n (pc := 17) 0 dX12_sector_17 rfl rfl ?_
  refine R_get (pc := 18) dX12_sector_18 fX12_53 S_5.obj (by omega) rfl ?_
  refine R_iconst (pc := 21) (v := 0) dX12_sector_21 (by decide) ?_
  refine R_callVh (pc := 22) (μ' := mX12_sealBlock) (As := [.int (nI 1), .ref 75, .int (nI 0)]) (st := []) dX12_sector_22 zX12_sealBlock lX12_146 ⟨by decide, by decide⟩ rfl rfl ⟨by decide, by decide⟩ S_5.obj (by omega) rfl (Nat.le_of_ble_eq_true rfl) (oX12_sealBlock S_5 hn (K1.uo (by decide)) (p := 75) rfl 0 (by show 0 + 16 ≤ 16; omega)) (fun h_6 r_ q_7 => ?_)
  obtain ⟨rfl, S_8, F_9⟩ := q_7
  have S_10 : MO h_6 (uo ψ 75 (pt (pt (ψ 75) 0 (gt (ψ 73) 0)) 0 (F1 (gt (pt (ψ 75) 0 (gt (ψ 73) 0)) 0)))) z i := by have z_ := S_8; rw [uo_uo] at z_; exact z_
  refine R_aload_n (pc := 25) 0 dX12_sector_25 rfl rfl ?_
  refine R_get (pc := 26) dX12_sector_26 fX12_41 S_10.obj (by omega) rfl ?_
  refine R_iconst (pc := 29) (v := 0) dX12_sector_29 (by decide) ?_
  refine R_aload_n (pc := 30) 0 dX12_sector_30 rfl rfl ?_
  refine R_get (pc := 31) dX12_sector_31 fX12_44 S_10.obj (by omega) rfl ?_
  refine R_iconst (pc := 34) (v := 0) dX12_sector_34 (by decide) ?_
  refine R_aload_n (pc := 35) 0 dX12_sector_35 rfl rfl ?_
  refine R_get (pc := 36) dX12_sector_36 fX12_130 S_10.obj (by omega) rfl ?_
  refine R_eqi (y := nI D.length) (hi3) ?_
  refine R_callSh (pc := 39) (μ' := mX12_copy) (As := [.ref 71, .int (nI 0), .ref 72, .int (nI 0), .int (nI D.length)]) (st := []) dX12_sector_39 zX12_copy lX12_133 ⟨by decide, by decide⟩ rfl rfl ⟨by decide, by decide⟩ rfl (Nat.le_of_ble_eq_true rfl) (oX12_copy S_10 hn (p := 71) (q := 72) rfl rfl 0 0 D.length (by show 0 + D.length ≤ 700; omega) (by show 0 + D.length ≤ 700; omega) (by decide)) (fun h_11 r_ q_12 => ?_)
  obtain ⟨rfl, S_13, F_14⟩ := q_12
  have S_15 : MO h_11 (uo (uo ψ 75 (pt (pt (ψ 75) 0 (gt (ψ 73) 0)) 0 (F1 (gt (pt (ψ 75) 0 (gt (ψ 73) 0)) 0)))) 72 (cpB (ψ 71) 0 (ψ 72) 0 D.length)) z i := S_13
  refine R_aload_n (pc := 42) 0 dX12_sector_42 rfl rfl ?_
  refine R_get (pc := 43) dX12_sector_43 fX12_130 S_15.obj (by omega) rfl ?_
  refine R_eqi (y := nI D.length) (hi3) ?_
  refine R_bipush (pc := 46) (v := 16) dX12_sector_46 (by decide) ?_
  refine R_idiv (pc := 48) dX12_sector_48 (by decide) ?_
  refine R_eqi (y := nI b) ((nI_div (a := D.length) (b := 16) (by omega) (by omega)).trans (congrArg nI (by omega))) ?_
  refine R_istore_n (pc := 49) (lv' := [(2, .int (nI b)), (0, .ref 61), (1, .int 0)]) dX12_sector_49 rfl (by decide) rfl ?_
  refine R_aload_n (pc := 50) 1 dX12_sector_50 rfl rfl ?_
  refine R_get (pc := 51) dX12_sector_51 fX12_130 S_15.obj (by omega) rfl ?_
  refine R_eqi (y := nI D.length) (hi3) ?_
  refine R_bipush (pc := 54) (v := 16) dX12_sector_54 (by decide) ?_
  refine R_irem (pc := 56) dX12_sector_56 (by decide) ?_
  refine R_eqi (y := nI r) ((nI_rem (a := D.length) (b := 16) (by omega) (by omega)).trans (congrArg nI (by omega))) ?_
  refine R_istore_n (pc := 57) (lv' := [(3, .int (nI r)), (2, .int (nI b)), (0, .ref 61), (1, .int 0)]) dX12_sector_57 rfl (by decide) rfl ?_
  refine R_iconst (pc := 58) (v := 0) dX12_sector_58 (by decide) ?_
  refine R_istore (pc := 59) (lv' := [(4, .int 0), (3, .int (nI r)), (2, .int (nI b)), (0, .ref 61), (1, .int 0)]) dX12_sector_59 (by decide) rfl ?_
  refine R_sub [0, 1, 2, 3, 4] rfl ?_
  have sD : sg (cpB (ψ 71) 0 (ψ 72) 0 D.length) 0 D := hs.cp _ _ rfl
  refine qX12_sector_s (h := h) (ψ := (uo (uo ψ 75 (pt (pt (ψ 75) 0 (gt (ψ 73) 0)) 0 (F1 (gt (pt (ψ 75) 0 (gt (ψ 73) 0)) 0)))) 72 (cpB (ψ 71) 0 (ψ 72) 0 D.length))) hn D b r hb1 hr hL hD hi3 ((K0.uo (by decide)).uo (by decide)) sD (F1 (gt (ψ 73) 0))  (fun h2 ψ2 S2 hK hJ hF => ?_) b 0 (by omega) h_11 _ S_15 (FR.rf _ _) ⟨by simp only [uo_s, uo_n, ne_eq, Nat.reduceEqDiff, not_false_eq_true, gt_pt, pt_pt]; rfl, sg.nil _ _, fun _ _ => rfl⟩ ((F_4.tr F_9).tr F_14)
  have eO : ∀ j, 16 * b ≤ j → ψ2 72 j = cpB (ψ 71) 0 (ψ 72) 0 D.length j := hJ.2.2
  have rJ := hJ.1
  have sJ := hJ.2.1
  have K_16 := ((K0.uo (by decide)).uo (by decide)).fr hK (by decide) (by decide) (by decide) (by decide)
  refine R_aload_n (pc := 147) 3 dX12_sector_147 rfl rfl ?_
  refine R_aload_n (pc := 148) 3 dX12_sector_148 rfl rfl ?_
  refine R_get (pc := 149) dX12_sector_149 fX12_130 S2.obj (by omega) rfl ?_
  refine R_eqi (y := nI D.length) (hi3) ?_
  refine R_put' (pc := 152) (fs' := [.int (i 0), .ref 62, .ref 63, .int (i 1), .ref 64, .int (i 2), .ref 65, .ref 66, .ref 67, .ref 68, .ref 69, .ref 70, .ref 71, .int (i 3), .ref 72, .int (nI D.length), .ref 73, .int (i 5), .ref 74, .int (i 6), .ref 75, .ref 76, .ref 77, .ref 78, .ref 79, .ref 80, .ref 81, .ref 82, .ref 83, .ref 84, .int (i 7), .ref 85, .ref 86, .ref 87, .ref 88, .ref 89, .ref 90]) dX12_sector_152 fX12_153 tX12_15 rfl rfl S2.obj (by omega) (Nat.le_of_ble_eq_true rfl) rfl (fun h_17 f_18 g_19 => ?_)
  have S_20 : MO h_17 ψ2 z (ui i 4 (nI D.length)) := MO.setI (j := (ui i 4 (nI D.length))) S2 f_18 g_19
  have F_21 := fmI g_19
  refine R_iload_n (pc := 155) 1 dX12_sector_155 rfl rfl ?_
  refine R_if_ne (pc := 156) (tgt := 160) dX12_sector_156 (by decide) (fun c_22 => ?_) (fun c_22 => absurd c_22 (nI_ne0 (by omega) (by omega)))
  refine R_bipush (pc := 160) (v := 16) dX12_sector_160 (by decide) ?_
  refine R_iload_n (pc := 162) 2 dX12_sector_162 rfl rfl ?_
  refine R_iconst (pc := 163) (v := 1) dX12_sector_163 (by decide) ?_
  refine R_isub (pc := 164) dX12_sector_164 ?_
  refine R_eqi (y := nI (b - 1)) (nI_sb (a := b) (b := 1) (by omega)) ?_
  refine R_imul (pc := 165) dX12_sector_165 ?_
  refine R_eqi (y := nI (16 * (b - 1))) (nI_mul 16 (b - 1)) ?_
  refine R_istore (pc := 166) (lv' := [(4, .int (nI (16 * (b - 1)))), (3, .int (nI r)), (2, .int (nI b)), (0, .ref 61), (1, .int 0)]) dX12_sector_166 (by decide) rfl ?_
  refine R_iconst (pc := 168) (v := 0) dX12_sector_168 (by decide) ?_
  refine R_istore (pc := 169) (lv' := [(5, .int 0), (4, .int (nI (16 * (b - 1)))), (3, .int (nI r)), (2, .int (nI b)), (0, .ref 61), (1, .int 0)]) dX12_sector_169 (by decide) rfl ?_
  obtain ⟨f_, ef⟩ : ∃ f_ : oA, f_ = ψ2 72 := ⟨_, rfl⟩
  obtain ⟨g_, eg⟩ : ∃ g_ : oA, g_ = ψ2 75 := ⟨_, rfl⟩
  have eb : b = b - 1 + 1 := by omega
  have lP : ((stN (scS F D) (F1 (gt (ψ 73) 0)) b).2.take (16 * b - 16)).length = 16 * (b - 1) := by rw [List.length_take, stN_len (scS_len F D)]; omega
  have q0 : sg f_ 0 ((stN (scS F D) (F1 (gt (ψ 73) 0)) b).2.take (16 * b - 16)) := by rw [ef]; exact fun j_ hj_ => by rw [List.length_take, stN_len (scS_len F D)] at hj_; rw [og_take _ (by omega)]; exact sJ j_ (by rw [stN_len (scS_len F D)]; omega)
  have sJ2 : sg (ψ2 72) 0 ((stN (scS F D) (F1 (gt (ψ 73) 0)) (b - 1)).2 ++ (scS F D (b - 1) (stN (scS F D) (F1 (gt (ψ 73) 0)) (b - 1)).1).2) := by have z_ := sJ; rw [eb] at z_; exact z_
  have q1 : gt f_ (16 * (b - 1)) = (scB F D (F1 (gt (ψ 73) 0)) y0 b) := ob_ext fun k_ hk_ => by
    rw [ef, ob_gt _ _ hk_]
    have e1 : scB F D (F1 (gt (ψ 73) 0)) y0 b = xb (F (xb (rd D (16 * (b - 1))) (stN (scS F D) (F1 (gt (ψ 73) 0)) (b - 1)).1)) (stN (scS F D) (F1 (gt (ψ 73) 0)) (b - 1)).1 := by rw [show scB F D (F1 (gt (ψ 73) 0)) y0 b = scB F D (F1 (gt (ψ 73) 0)) y0 (b - 1 + 1) from congrArg _ eb]; rfl
    have l1 : (stN (scS F D) (F1 (gt (ψ 73) 0)) (b - 1)).2.length = 16 * (b - 1) := stN_len (scS_len F D) _
    have := sJ2 (16 * (b - 1) + k_) (by rw [List.length_append, l1, scS_len]; omega)
    rw [Nat.zero_add, og_app_r (by omega), l1, Nat.add_sub_cancel_left] at this
    rw [this, e1]
    exact og_bt _ hk_
  have q2 : ∀ j, j < r → f_ (16 * (b - 1 + 1) + j) = og D (16 * (b - 1 + 1) + j) := fun j_ hj_ => by
    rw [ef, eO _ (by omega)]
    have := sD (16 * (b - 1 + 1) + j_) (by omega)
    rw [Nat.zero_add] at this; exact this
  have q3 : gt g_ 0 = (stN (scS F D) (F1 (gt (ψ 73) 0)) b).1 := by rw [eg]; exact rJ
  refine R_sub [0, 1, 2, 3, 4, 5] rfl ?_
  have T_ : MO h_17 ψ2 z (ui i 4 (nI D.length)) := S_20
  refine qX12_sector_ws (h := h) (ψ := ψ2) hn b r hb1 hr (by omega) (fun h3 ψ3 S3 hK3 hJ3 hF3 => ?_) r 0 (by omega) h_17 _ T_ (FR.rf _ _) (swB_0 _ _).symm (hF.tr F_21)
  have y3 : ψ3 72 = swB f_ (16 * (b - 1)) r := by rw [ef]; exact hJ3
  have r3 : gt (ψ3 75) 0 = (stN (scS F D) (F1 (gt (ψ 73) 0)) b).1 := by rw [hK3 75 (by decide)]; exact rJ
  have K_23 := K_16.fr hK3 (by decide) (by decide) (by decide) (by decide)
  refine R_iload_n (pc := 233) 5 dX12_sector_233 rfl rfl ?_
  refine R_if_eq (pc := 234) (tgt := 252) dX12_sector_234 (by decide) (fun c_24 => ?_) (fun c_24 => absurd (rfl) c_24)
  refine R_aload_n (pc := 252) 4 dX12_sector_252 rfl rfl ?_
  refine R_iload_n (pc := 253) 5 dX12_sector_253 rfl rfl ?_
  refine R_iload (pc := 254) 1 dX12_sector_254 rfl ?_
  refine R_callVh (pc := 256) (μ' := mX12_sectorBlock) (As := [.int 0, .int (nI (16 * (b - 1)))]) (st := []) dX12_sector_256 zX12_sectorBlock lX12_176 ⟨by decide, by decide⟩ rfl rfl ⟨by decide, by decide⟩ S3.obj (by omega) rfl (Nat.le_of_ble_eq_true rfl) (oX12_sectorBlock_s S3 hn (16 * (b - 1)) (by omega) K_23) (fun h_25 r_ q_26 => ?_)
  obtain ⟨rfl, S_27, F_28⟩ := q_26
  have S_29 : MO h_25 (uo ψ3 72 (pt (ψ3 72) (16 * (b - 1)) (xb (F (xb (gt (ψ3 72) (16 * (b - 1))) (gt (ψ3 75) 0))) (gt (ψ3 75) 0)))) z (ui i 4 (nI D.length)) := S_27
  have fin := sc_fin (H := F) (w := (stN (scS F D) (F1 (gt (ψ 73) 0)) b).1) hr lP q0 q1 q2 (show D.length = 16 * (b - 1 + 1) + r by omega)
  have eE : scE F D (F1 (gt (ψ 73) 0)) y0 = ((stN (scS F D) (F1 (gt (ψ 73) 0)) b).2.take (16 * b - 16)) ++ bt (xb (F (xb (xb (df (scB F D (F1 (gt (ψ 73) 0)) y0 b) (nI r)) (rd D (16 * (b - 1 + 1)))) (stN (scS F D) (F1 (gt (ψ 73) 0)) b).1)) (stN (scS F D) (F1 (gt (ψ 73) 0)) b).1) 16 ++ bt (scB F D (F1 (gt (ψ 73) 0)) y0 b) r := by unfold scE; rw [show D.length / 16 = b by omega, show D.length % 16 = r by omega]; show (if nI r = 0 then _ else _) = _; rw [if_neg (show ¬ nI r = 0 from fun q_ => absurd ((nI_eq (a := r) (b := 0) (by omega) (by omega)).mp q_) (by omega)), show 16 * (b - 1 + 1) = 16 * b by omega]
  have hy : sg (pt (ψ3 72) (16 * (b - 1)) (xb (F (xb (gt (ψ3 72) (16 * (b - 1))) (gt (ψ3 75) 0))) (gt (ψ3 75) 0))) 0 (scE F D (F1 (gt (ψ 73) 0)) y0) := by rw [eE]; rw [r3, y3]; exact fin
  exact R_vreturn (pc := 259) dX12_sector_259 rfl (by decide) (by decide) ⟨rfl, _, rfl, S_29, ((((((FR.rf _ _).up (by decide)).up (by decide)).tr hK (by decide)).tr hK3 (by decide)).up (by decide)), hy, (hF3.tr F_28)⟩
set_option maxHeartbeats 4000000 in
set_option maxRecDepth 100000 in
theorem oX12_sector_o0 {l : Launch} {w : am_W} {h : am_H} {n : Nat} {ψ : Nat → oA} {z : fA} {i : mI} (S : MO h ψ z i) (hn : 90 ≤ n) (D : List (BitVec 8)) (b r : Nat) (hb1 : 1 ≤ b) (hr : r < 16) (hL : D.length = 16 * b + r) (hD : D.length ≤ 512) (hi3 : i 3 = nI D.length) {F G : bP → bP} (K0 : Kh ψ 0 F G) {F1 G1 : bP → bP} (K1 : Kh ψ 1 F1 G1) (hs : sg (ψ 71) 0 D) (hr0 : r = 0) : RH l w mX12_sector h n [.ref 61, .int 1] (fun h2 q => ∃ ψ2, q = none ∧ MO h2 ψ2 z (ui i 4 (nI D.length)) ∧ FR [72, 75] ψ ψ2 ∧ sg (ψ2 72) 0 (scD G D (F1 (gt (ψ 73) 0))) ∧ FM h h2) := by
  refine RC.of [(0, .ref 61), (1, .int 1)] (by decide +kernel) rfl (Nat.le_of_ble_eq_true rfl) ?_
  refine R_aload_n (pc := 0) 0 dX12_sector_0 rfl rfl ?_
  refine R_get (pc := 1) dX12_sector_1 fX12_47 S.obj (by omega) rfl ?_
  refine R_iconst (pc := 4) (v := 0) dX12_sector_4 (by decide) ?_
  refine R_aload_n (pc := 5) 0 dX12_sector_5 rfl rfl ?_
  refine R_get (pc := 6) dX12_sector_6 fX12_53 S.obj (by omega) rfl ?_
  refine R_iconst (pc := 9) (v := 0) dX12_sector_9 (by decide) ?_
  refine R_bipush (pc := 10) (v := 16) dX12_sector_10 (by decide) ?_
  refine R_callSh (pc := 12) (μ' := mX12_copy) (As := [.ref 73, .int (nI 0), .ref 75, .int (nI 0), .int 16]) (st := []) dX12_sector_12 zX12_copy lX12_133 ⟨by decide, by decide⟩ rfl rfl ⟨by decide, by decide⟩ rfl (Nat.le_of_ble_eq_true rfl) (oX12_copy16 S hn (p := 73) (q := 75) rfl rfl 0 0 (by show 0 + 16 ≤ 64; omega) (by show 0 + 16 ≤ 16; omega) (by decide)) (fun h_1 r_ q_2 => ?_)
  obtain ⟨rfl, S_3, F_4⟩ := q_2
  have S_5 : MO h_1 (uo ψ 75 (pt (ψ 75) 0 (gt (ψ 73) 0))) z i := S_3
  refine R_aload_n (pc := 15) 0 dX12_sector_15 rfl rfl ?_
  refine R_iconst (pc := 16) (v := 1) dX12_sector_16 (by decide) ?_
  refine R_aload_n (pc := 17) 0 dX12_sector_17 rfl rfl ?_
  refine R_get (pc := 18) dX12_sector_18 fX12_53 S_5.obj (by omega) rfl ?_
  refine R_iconst (pc := 21) (v := 0) dX12_sector_21 (by decide) ?_
  refine R_callVh (pc := 22) (μ' := mX12_sealBlock) (As := [.int (nI 1), .ref 75, .int (nI 0)]) (st := []) dX12_sector_22 zX12_sealBlock lX12_146 ⟨by decide, by decide⟩ rfl rfl ⟨by decide, by decide⟩ S_5.obj (by omega) rfl (Nat.le_of_ble_eq_true rfl) (oX12_sealBlock S_5 hn (K1.uo (by decide)) (p := 75) rfl 0 (by show 0 + 16 ≤ 16; omega)) (fun h_6 r_ q_7 => ?_)
  obtain ⟨rfl, S_8, F_9⟩ := q_7
  have S_10 : MO h_6 (uo ψ 75 (pt (pt (ψ 75) 0 (gt (ψ 73) 0)) 0 (F1 (gt (pt (ψ 75) 0 (gt (ψ 73) 0)) 0)))) z i := by have z_ := S_8; rw [uo_uo] at z_; exact z_
  refine R_aload_n (pc := 25) 0 dX12_sector_25 rfl rfl ?_
  refine R_get (pc := 26) dX12_sector_26 fX12_41 S_10.obj (by omega) rfl ?_
  refine R_iconst (pc := 29) (v := 0) dX12_sector_29 (by decide) ?_
  refine R_aload_n (pc := 30) 0 dX12_sector_30 rfl rfl ?_
  refine R_get (pc := 31) dX12_sector_31 fX12_44 S_10.obj (by omega) rfl ?_
  refine R_iconst (pc := 34) (v := 0) dX12_sector_34 (by decide) ?_
  refine R_aload_n (pc := 35) 0 dX12_sector_35 rfl rfl ?_
  refine R_get (pc := 36) dX12_sector_36 fX12_130 S_10.obj (by omega) rfl ?_
  refine R_eqi (y := nI D.length) (hi3) ?_
  refine R_callSh (pc := 39) (μ' := mX12_copy) (As := [.ref 71, .int (nI 0), .ref 72, .int (nI 0), .int (nI D.length)]) (st := []) dX12_sector_39 zX12_copy lX12_133 ⟨by decide, by decide⟩ rfl rfl ⟨by decide, by decide⟩ rfl (Nat.le_of_ble_eq_true rfl) (oX12_copy S_10 hn (p := 71) (q := 72) rfl rfl 0 0 D.length (by show 0 + D.length ≤ 700; omega) (by show 0 + D.length ≤ 700; omega) (by decide)) (fun h_11 r_ q_12 => ?_)
  obtain ⟨rfl, S_13, F_14⟩ := q_12
  have S_15 : MO h_11 (uo (uo ψ 75 (pt (pt (ψ 75) 0 (gt (ψ 73) 0)) 0 (F1 (gt (pt (ψ 75) 0 (gt (ψ 73) 0)) 0)))) 72 (cpB (ψ 71) 0 (ψ 72) 0 D.length)) z i := S_13
  refine R_aload_n (pc := 42) 0 dX12_sector_42 rfl rfl ?_
  refine R_get (pc := 43) dX12_sector_43 fX12_130 S_15.obj (by omega) rfl ?_
  refine R_eqi (y := nI D.length) (hi3) ?_
  refine R_bipush (pc := 46) (v := 16) dX12_sector_46 (by decide) ?_
  refine R_idiv (pc := 48) dX12_sector_48 (by decide) ?_
  refine R_eqi (y := nI b) ((nI_div (a := D.length) (b := 16) (by omega) (by omega)).trans (congrArg nI (by omega))) ?_
  refine R_istore_n (pc := 49) (lv' := [(2, .int (nI b)), (0, .ref 61), (1, .int 1)]) dX12_sector_49 rfl (by decide) rfl ?_
  refine R_aload_n (pc := 50) 1 dX12_sector_50 rfl rfl ?_
  refine R_get (pc := 51) dX12_sector_51 fX12_130 S_15.obj (by omega) rfl ?_
  refine R_eqi (y := nI D.length) (hi3) ?_
  refine R_bipush (pc := 54) (v := 16) dX12_sector_54 (by decide) ?_
  refine R_irem (pc := 56) dX12_sector_56 (by decide) ?_
  refine R_eqi (y := nI r) ((nI_rem (a := D.length) (b := 16) (by omega) (by omega)).trans (congrArg nI (by omega))) ?_
  refine R_istore_n (pc := 57) (lv' := [(3, .int (nI r)), (2, .int (nI b)), (0, .ref 61), (1, .int 1)]) dX12_sector_57 rfl (by decide) rfl ?_
  refine R_iconst (pc := 58) (v := 0) dX12_sector_58 (by decide) ?_
  refine R_istore (pc := 59) (lv' := [(4, .int 0), (3, .int (nI r)), (2, .int (nI b)), (0, .ref 61), (1, .int 1)]) dX12_sector_59 (by decide) rfl ?_
  refine R_sub [0, 1, 2, 3, 4] rfl ?_
  have sD : sg (cpB (ψ 71) 0 (ψ 72) 0 D.length) 0 D := hs.cp _ _ rfl
  refine qX12_sector_o (h := h) (ψ := (uo (uo ψ 75 (pt (pt (ψ 75) 0 (gt (ψ 73) 0)) 0 (F1 (gt (pt (ψ 75) 0 (gt (ψ 73) 0)) 0)))) 72 (cpB (ψ 71) 0 (ψ 72) 0 D.length))) hn D b r hb1 hr hL hD hi3 ((K0.uo (by decide)).uo (by decide)) sD (F1 (gt (ψ 73) 0)) hr0 (fun h2 ψ2 S2 hK hJ hF => ?_) b 0 (by omega) h_11 _ S_15 (FR.rf _ _) ⟨by simp only [uo_s, uo_n, ne_eq, Nat.reduceEqDiff, not_false_eq_true, gt_pt, pt_pt]; rfl, sg.nil _ _, fun _ _ => rfl⟩ ((F_4.tr F_9).tr F_14)
  have eO : ∀ j, 16 * b ≤ j → ψ2 72 j = cpB (ψ 71) 0 (ψ 72) 0 D.length j := hJ.2.2
  have rJ := hJ.1
  have sJ := hJ.2.1
  have K_16 := ((K0.uo (by decide)).uo (by decide)).fr hK (by decide) (by decide) (by decide) (by decide)
  refine R_aload_n (pc := 147) 3 dX12_sector_147 rfl rfl ?_
  refine R_aload_n (pc := 148) 3 dX12_sector_148 rfl rfl ?_
  refine R_get (pc := 149) dX12_sector_149 fX12_130 S2.obj (by omega) rfl ?_
  refine R_eqi (y := nI D.length) (hi3) ?_
  refine R_put' (pc := 152) (fs' := [.int (i 0), .ref 62, .ref 63, .int (i 1), .ref 64, .int (i 2), .ref 65, .ref 66, .ref 67, .ref 68, .ref 69, .ref 70, .ref 71, .int (i 3), .ref 72, .int (nI D.length), .ref 73, .int (i 5), .ref 74, .int (i 6), .ref 75, .ref 76, .ref 77, .ref 78, .ref 79, .ref 80, .ref 81, .ref 82, .ref 83, .ref 84, .int (i 7), .ref 85, .ref 86, .ref 87, .ref 88, .ref 89, .ref 90]) dX12_sector_152 fX12_153 tX12_15 rfl rfl S2.obj (by omega) (Nat.le_of_ble_eq_true rfl) rfl (fun h_17 f_18 g_19 => ?_)
  have S_20 : MO h_17 ψ2 z (ui i 4 (nI D.length)) := MO.setI (j := (ui i 4 (nI D.length))) S2 f_18 g_19
  have F_21 := fmI g_19
  refine R_iload_n (pc := 155) 1 dX12_sector_155 rfl rfl ?_
  refine R_if_ne (pc := 156) (tgt := 160) dX12_sector_156 (by decide) (fun c_22 => absurd (by rw [hr0]; rfl) c_22) (fun c_22 => ?_)
  have hy : sg (ψ2 72) 0 (scD G D (F1 (gt (ψ 73) 0))) := by unfold scD scW; rw [show D.length % 16 = 0 by omega, show D.length / 16 = b by omega]; exact sJ
  exact R_vreturn (pc := 159) dX12_sector_159 rfl (by decide) (by decide) ⟨rfl, _, rfl, S_20, ((((FR.rf _ _).up (by decide)).up (by decide)).tr hK (by decide)), hy, (hF.tr F_21)⟩
set_option maxHeartbeats 4000000 in
set_option maxRecDepth 100000 in
theorem oX12_sector_or {l : Launch} {w : am_W} {h : am_H} {n : Nat} {ψ : Nat → oA} {z : fA} {i : mI} (S : MO h ψ z i) (hn : 90 ≤ n) (D : List (BitVec 8)) (b r : Nat) (hb1 : 1 ≤ b) (hr : r < 16) (hL : D.length = 16 * b + r) (hD : D.length ≤ 512) (hi3 : i 3 = nI D.length) {F G : bP → bP} (K0 : Kh ψ 0 F G) {F1 G1 : bP → bP} (K1 : Kh ψ 1 F1 G1) (hs : sg (ψ 71) 0 D) (hr1 : 1 ≤ r) : RH l w mX12_sector h n [.ref 61, .int 1] (fun h2 q => ∃ ψ2, q = none ∧ MO h2 ψ2 z (ui i 4 (nI D.length)) ∧ FR [72, 75, 77] ψ ψ2 ∧ sg (ψ2 72) 0 (scD G D (F1 (gt (ψ 73) 0))) ∧ FM h h2) := by
  refine RC.of [(0, .ref 61), (1, .int 1)] (by decide +kernel) rfl (Nat.le_of_ble_eq_true rfl) ?_
  refine R_aload_n (pc := 0) 0 dX12_sector_0 rfl rfl ?_
  refine R_get (pc := 1) dX12_sector_1 fX12_47 S.obj (by omega) rfl ?_
  refine R_iconst (pc := 4) (v := 0) dX12_sector_4 (by decide) ?_
  refine R_aload_n (pc := 5) 0 dX12_sector_5 rfl rfl ?_
  refine R_get (pc := 6) dX12_sector_6 fX12_53 S.obj (by omega) rfl ?_
  refine R_iconst (pc := 9) (v := 0) dX12_sector_9 (by decide) ?_
  refine R_bipush (pc := 10) (v := 16) dX12_sector_10 (by decide) ?_
  refine R_callSh (pc := 12) (μ' := mX12_copy) (As := [.ref 73, .int (nI 0), .ref 75, .int (nI 0), .int 16]) (st := []) dX12_sector_12 zX12_copy lX12_133 ⟨by decide, by decide⟩ rfl rfl ⟨by decide, by decide⟩ rfl (Nat.le_of_ble_eq_true rfl) (oX12_copy16 S hn (p := 73) (q := 75) rfl rfl 0 0 (by show 0 + 16 ≤ 64; omega) (by show 0 + 16 ≤ 16; omega) (by decide)) (fun h_1 r_ q_2 => ?_)
  obtain ⟨rfl, S_3, F_4⟩ := q_2
  have S_5 : MO h_1 (uo ψ 75 (pt (ψ 75) 0 (gt (ψ 73) 0))) z i := S_3
  refine R_aload_n (pc := 15) 0 dX12_sector_15 rfl rfl ?_
  refine R_iconst (pc := 16) (v := 1) dX12_sector_16 (by decide) ?_
  refine R_aload_n (pc := 17) 0 dX12_sector_17 rfl rfl ?_
  refine R_get (pc := 18) dX12_sector_18 fX12_53 S_5.obj (by omega) rfl ?_
  refine R_iconst (pc := 21) (v := 0) dX12_sector_21 (by decide) ?_
  refine R_callVh (pc := 22) (μ' := mX12_sealBlock) (As := [.int (nI 1), .ref 75, .int (nI 0)]) (st := []) dX12_sector_22 zX12_sealBlock lX12_146 ⟨by decide, by decide⟩ rfl rfl ⟨by decide, by decide⟩ S_5.obj (by omega) rfl (Nat.le_of_ble_eq_true rfl) (oX12_sealBlock S_5 hn (K1.uo (by decide)) (p := 75) rfl 0 (by show 0 + 16 ≤ 16; omega)) (fun h_6 r_ q_7 => ?_)
  obtain ⟨rfl, S_8, F_9⟩ := q_7
  have S_10 : MO h_6 (uo ψ 75 (pt (pt (ψ 75) 0 (gt (ψ 73) 0)) 0 (F1 (gt (pt (ψ 75) 0 (gt (ψ 73) 0)) 0)))) z i := by have z_ := S_8; rw [uo_uo] at z_; exact z_
  refine R_aload_n (pc := 25) 0 dX12_sector_25 rfl rfl ?_
  refine R_get (pc := 26) dX12_sector_26 fX12_41 S_10.obj (by omega) rfl ?_
  refine R_iconst (pc := 29) (v := 0) dX12_sector_29 (by decide) ?_
  refine R_aload_n (pc := 30) 0 dX12_sector_30 rfl rfl ?_
  refine R_get (pc := 31) dX12_sector_31 fX12_44 S_10.obj (by omega) rfl ?_
  refine R_iconst (pc := 34) (v := 0) dX12_sector_34 (by decide) ?_
  refine R_aload_n (pc := 35) 0 dX12_sector_35 rfl rfl ?_
  refine R_get (pc := 36) dX12_sector_36 fX12_130 S_10.obj (by omega) rfl ?_
  refine R_eqi (y := nI D.length) (hi3) ?_
  refine R_callSh (pc := 39) (μ' := mX12_copy) (As := [.ref 71, .int (nI 0), .ref 72, .int (nI 0), .int (nI D.length)]) (st := []) dX12_sector_39 zX12_copy lX12_133 ⟨by decide, by decide⟩ rfl rfl ⟨by decide, by decide⟩ rfl (Nat.le_of_ble_eq_true rfl) (oX12_copy S_10 hn (p := 71) (q := 72) rfl rfl 0 0 D.length (by show 0 + D.length ≤ 700; omega) (by show 0 + D.length ≤ 700; omega) (by decide)) (fun h_11 r_ q_12 => ?_)
  obtain ⟨rfl, S_13, F_14⟩ := q_12
  have S_15 : MO h_11 (uo (uo ψ 75 (pt (pt (ψ 75) 0 (gt (ψ 73) 0)) 0 (F1 (gt (pt (ψ 75) 0 (gt (ψ 73) 0)) 0)))) 72 (cpB (ψ 71) 0 (ψ 72) 0 D.length)) z i := S_13
  refine R_aload_n (pc := 42) 0 dX12_sector_42 rfl rfl ?_
  refine R_get (pc := 43) dX12_sector_43 fX12_130 S_15.obj (by omega) rfl ?_
  refine R_eqi (y := nI D.length) (hi3) ?_
  refine R_bipush (pc := 46) (v := 16) dX12_sector_46 (by decide) ?_
  refine R_idiv (pc := 48) dX12_sector_48 (by decide) ?_
  refine R_eqi (y := nI b) ((nI_div (a := D.length) (b := 16) (by omega) (by omega)).trans (congrArg nI (by omega))) ?_
  refine R_istore_n (pc := 49) (lv' := [(2, .int (nI b)), (0, .ref 61), (1, .int 1)]) dX12_sector_49 rfl (by decide) rfl ?_
  refine R_aload_n (pc := 50) 1 dX12_sector_50 rfl rfl ?_
  refine R_get (pc := 51) dX12_sector_51 fX12_130 S_15.obj (by omega) rfl ?_
  refine R_eqi (y := nI D.length) (hi3) ?_
  refine R_bipush (pc := 54) (v := 16) dX12_sector_54 (by decide) ?_
  refine R_irem (pc := 56) dX12_sector_56 (by decide) ?_
  refine R_eqi (y := nI r) ((nI_rem (a := D.length) (b := 16) (by omega) (by omega)).trans (congrArg nI (by omega))) ?_
  refine R_istore_n (pc := 57) (lv' := [(3, .int (nI r)), (2, .int (nI b)), (0, .ref 61), (1, .int 1)]) dX12_sector_57 rfl (by decide) rfl ?_
  refine R_iconst (pc := 58) (v := 0) dX12_sector_58 (by decide) ?_
  refine R_istore (pc := 59) (lv' := [(4, .int 0), (3, .int (nI r)), (2, .int (nI b)), (0, .ref 61), (1, .int 1)]) dX12_sector_59 (by decide) rfl ?_
  refine R_sub [0, 1, 2, 3, 4] rfl ?_
  have sD : sg (cpB (ψ 71) 0 (ψ 72) 0 D.length) 0 D := hs.cp _ _ rfl
  refine qX12_sector_t (h := h) (ψ := (uo (uo ψ 75 (pt (pt (ψ 75) 0 (gt (ψ 73) 0)) 0 (F1 (gt (pt (ψ 75) 0 (gt (ψ 73) 0)) 0)))) 72 (cpB (ψ 71) 0 (ψ 72) 0 D.length))) hn D b r hb1 hr hL hD hi3 ((K0.uo (by decide)).uo (by decide)) sD (F1 (gt (ψ 73) 0)) hr1 (fun h2 ψ2 S2 hK hJ hF => ?_) (b - 1) 0 (by omega) h_11 _ S_15 (FR.rf _ _) ⟨by simp only [uo_s, uo_n, ne_eq, Nat.reduceEqDiff, not_false_eq_true, gt_pt, pt_pt]; rfl, sg.nil _ _, fun _ _ => rfl⟩ ((F_4.tr F_9).tr F_14)
  have eO : ∀ j, 16 * (b - 1) ≤ j → ψ2 72 j = cpB (ψ 71) 0 (ψ 72) 0 D.length j := hJ.2.2
  have rJ := hJ.1
  have sJ := hJ.2.1
  have K_16 := ((K0.uo (by decide)).uo (by decide)).fr hK (by decide) (by decide) (by decide) (by decide)
  refine R_iload (pc := 61) 0 dX12_sector_61 rfl ?_
  refine R_iload_n (pc := 63) 2 dX12_sector_63 rfl rfl ?_
  refine R_icmp_ge (pc := 64) (tgt := 147) dX12_sector_64 (by decide) (fun c_17 => absurd c_17 (nI_ge (a := b - 1) (b := b) (by omega) (by omega))) (fun c_17 => ?_)
  refine R_iload_n (pc := 67) 4 dX12_sector_67 rfl rfl ?_
  refine R_if_eq (pc := 68) (tgt := 87) dX12_sector_68 (by decide) (fun c_18 => absurd c_18 (by decide)) (fun c_18 => ?_)
  refine R_iload_n (pc := 71) 1 dX12_sector_71 rfl rfl ?_
  refine R_if_le (pc := 72) (tgt := 87) dX12_sector_72 (by decide) (fun c_19 => absurd c_19 (nI_nle (by omega) (by omega))) (fun c_19 => ?_)
  refine R_iload (pc := 75) 0 dX12_sector_75 rfl ?_
  refine R_iload_n (pc := 77) 2 dX12_sector_77 rfl rfl ?_
  refine R_iconst (pc := 78) (v := 1) dX12_sector_78 (by decide) ?_
  refine R_isub (pc := 79) dX12_sector_79 ?_
  refine R_eqi (y := nI (b - 1)) (nI_sb (a := b) (b := 1) (by omega)) ?_
  refine R_icmp_ne (pc := 80) (tgt := 87) dX12_sector_80 (by decide) (fun c_20 => absurd (rfl) c_20) (fun c_20 => ?_)
  refine R_iconst (pc := 83) (v := 1) dX12_sector_83 (by decide) ?_
  refine R_goto (pc := 84) (tgt := 88) dX12_sector_84 (by decide) ?_
  refine R_istore (pc := 88) (lv' := [(5, .int 1), (4, .int (nI (b - 1))), (3, .int (nI r)), (2, .int (nI b)), (0, .ref 61), (1, .int 1)]) dX12_sector_88 (by decide) rfl ?_
  refine R_iload (pc := 90) 0 dX12_sector_90 rfl ?_
  refine R_if_eq (pc := 92) (tgt := 118) dX12_sector_92 (by decide) (fun c_21 => absurd c_21 (by decide)) (fun c_21 => ?_)
  refine R_aload_n (pc := 95) 4 dX12_sector_95 rfl rfl ?_
  refine R_get (pc := 96) dX12_sector_96 fX12_53 S2.obj (by omega) rfl ?_
  refine R_iconst (pc := 99) (v := 0) dX12_sector_99 (by decide) ?_
  refine R_aload_n (pc := 100) 4 dX12_sector_100 rfl rfl ?_
  refine R_get (pc := 101) dX12_sector_101 fX12_59 S2.obj (by omega) rfl ?_
  refine R_iconst (pc := 104) (v := 0) dX12_sector_104 (by decide) ?_
  refine R_bipush (pc := 105) (v := 16) dX12_sector_105 (by decide) ?_
  refine R_callSh (pc := 107) (μ' := mX12_copy) (As := [.ref 75, .int (nI 0), .ref 77, .int (nI 0), .int 16]) (st := []) dX12_sector_107 zX12_copy lX12_133 ⟨by decide, by decide⟩ rfl rfl ⟨by decide, by decide⟩ rfl (Nat.le_of_ble_eq_true rfl) (oX12_copy16 S2 hn (p := 75) (q := 77) rfl rfl 0 0 (by show 0 + 16 ≤ 16; omega) (by show 0 + 16 ≤ 16; omega) (by decide)) (fun h_22 r_ q_23 => ?_)
  obtain ⟨rfl, S_24, F_25⟩ := q_23
  have S_26 : MO h_22 (uo ψ2 77 (pt (ψ2 77) 0 (gt (ψ2 75) 0))) z i := S_24
  refine R_aload_n (pc := 110) 4 dX12_sector_110 rfl rfl ?_
  refine R_aload_n (pc := 111) 4 dX12_sector_111 rfl rfl ?_
  refine R_get (pc := 112) dX12_sector_112 fX12_53 S_26.obj (by omega) rfl ?_
  refine R_callVh (pc := 115) (μ' := mX12_nextSector) (As := [.ref 75]) (st := []) dX12_sector_115 zX12_nextSector lX12_172 ⟨by decide, by decide⟩ rfl rfl ⟨by decide, by decide⟩ S_26.obj (by omega) rfl (Nat.le_of_ble_eq_true rfl) (oX12_nextSector S_26 hn (q := 75) rfl (by decide)) (fun h_27 r_ q_28 => ?_)
  obtain ⟨rfl, S_29, F_30⟩ := q_28
  have S_31 : MO h_27 (uo (uo ψ2 77 (pt (ψ2 77) 0 (gt (ψ2 75) 0))) 75 (pt (ψ2 75) 0 (dblL (gt (ψ2 75) 0)))) z i := S_29
  refine R_aload_n (pc := 118) 4 dX12_sector_118 rfl rfl ?_
  refine R_iload_n (pc := 119) 5 dX12_sector_119 rfl rfl ?_
  refine R_bipush (pc := 120) (v := 16) dX12_sector_120 (by decide) ?_
  refine R_iload (pc := 122) 1 dX12_sector_122 rfl ?_
  refine R_imul (pc := 124) dX12_sector_124 ?_
  refine R_eqi (y := nI (16 * (b - 1))) (nI_mul 16 (b - 1)) ?_
  refine R_callVh (pc := 125) (μ' := mX12_sectorBlock) (As := [.int 1, .int (nI (16 * (b - 1)))]) (st := []) dX12_sector_125 zX12_sectorBlock lX12_176 ⟨by decide, by decide⟩ rfl rfl ⟨by decide, by decide⟩ S_31.obj (by omega) rfl (Nat.le_of_ble_eq_true rfl) (oX12_sectorBlock_o S_31 hn (16 * (b - 1)) (by omega) ((K_16.uo (by decide)).uo (by decide))) (fun h_32 r_ q_33 => ?_)
  obtain ⟨rfl, S_34, F_35⟩ := q_33
  have S_36 : MO h_32 (uo (uo (uo ψ2 77 (pt (ψ2 77) 0 (gt (ψ2 75) 0))) 75 (pt (ψ2 75) 0 (dblL (gt (ψ2 75) 0)))) 72 (pt (ψ2 72) (16 * (b - 1)) (xb (G (xb (gt (ψ2 72) (16 * (b - 1))) (gt (pt (ψ2 75) 0 (dblL (gt (ψ2 75) 0))) 0))) (gt (pt (ψ2 75) 0 (dblL (gt (ψ2 75) 0))) 0)))) z i := S_34
  refine R_iload (pc := 128) 0 dX12_sector_128 rfl ?_
  refine R_if_ne (pc := 130) (tgt := 141) dX12_sector_130 (by decide) (fun c_37 => ?_) (fun c_37 => absurd c_37 (by decide))
  refine R_iinc (pc := 141) (j := 1) (v := nI (b - 1 + 1)) (lv' := [(4, .int (nI (b - 1 + 1))), (5, .int 1), (3, .int (nI r)), (2, .int (nI b)), (0, .ref 61), (1, .int 1)]) dX12_sector_141 rfl (nI_add _ _) (by decide) rfl ?_
  refine R_goto (pc := 144) (tgt := 61) dX12_sector_144 (by decide) ?_
  refine R_iload (pc := 61) 0 dX12_sector_61 rfl ?_
  refine R_iload_n (pc := 63) 3 dX12_sector_63 rfl rfl ?_
  refine R_icmp_ge (pc := 64) (tgt := 147) dX12_sector_64 (by decide) (fun c_38 => ?_) (fun c_38 => absurd (nI_le (a := b) (b := b - 1 + 1) (by omega) (by omega)) c_38)
  refine R_aload_n (pc := 147) 4 dX12_sector_147 rfl rfl ?_
  refine R_aload_n (pc := 148) 4 dX12_sector_148 rfl rfl ?_
  refine R_get (pc := 149) dX12_sector_149 fX12_130 S_36.obj (by omega) rfl ?_
  refine R_eqi (y := nI D.length) (hi3) ?_
  refine R_put' (pc := 152) (fs' := [.int (i 0), .ref 62, .ref 63, .int (i 1), .ref 64, .int (i 2), .ref 65, .ref 66, .ref 67, .ref 68, .ref 69, .ref 70, .ref 71, .int (i 3), .ref 72, .int (nI D.length), .ref 73, .int (i 5), .ref 74, .int (i 6), .ref 75, .ref 76, .ref 77, .ref 78, .ref 79, .ref 80, .ref 81, .ref 82, .ref 83, .ref 84, .int (i 7), .ref 85, .ref 86, .ref 87, .ref 88, .ref 89, .ref 90]) dX12_sector_152 fX12_153 tX12_15 rfl rfl S_36.obj (by omega) (Nat.le_of_ble_eq_true rfl) rfl (fun h_39 f_40 g_41 => ?_)
  have S_42 : MO h_39 (uo (uo (uo ψ2 77 (pt (ψ2 77) 0 (gt (ψ2 75) 0))) 75 (pt (ψ2 75) 0 (dblL (gt (ψ2 75) 0)))) 72 (pt (ψ2 72) (16 * (b - 1)) (xb (G (xb (gt (ψ2 72) (16 * (b - 1))) (gt (pt (ψ2 75) 0 (dblL (gt (ψ2 75) 0))) 0))) (gt (pt (ψ2 75) 0 (dblL (gt (ψ2 75) 0))) 0)))) z (ui i 4 (nI D.length)) := MO.setI (j := (ui i 4 (nI D.length))) S_36 f_40 g_41
  have F_43 := fmI g_41
  refine R_iload_n (pc := 155) 2 dX12_sector_155 rfl rfl ?_
  refine R_if_ne (pc := 156) (tgt := 160) dX12_sector_156 (by decide) (fun c_44 => ?_) (fun c_44 => absurd c_44 (nI_ne0 (by omega) (by omega)))
  refine R_bipush (pc := 160) (v := 16) dX12_sector_160 (by decide) ?_
  refine R_iload_n (pc := 162) 3 dX12_sector_162 rfl rfl ?_
  refine R_iconst (pc := 163) (v := 1) dX12_sector_163 (by decide) ?_
  refine R_isub (pc := 164) dX12_sector_164 ?_
  refine R_eqi (y := nI (b - 1)) (nI_sb (a := b) (b := 1) (by omega)) ?_
  refine R_imul (pc := 165) dX12_sector_165 ?_
  refine R_eqi (y := nI (16 * (b - 1))) (nI_mul 16 (b - 1)) ?_
  refine R_istore (pc := 166) (lv' := [(4, .int (nI (16 * (b - 1)))), (5, .int 1), (3, .int (nI r)), (2, .int (nI b)), (0, .ref 61), (1, .int 1)]) dX12_sector_166 (by decide) rfl ?_
  refine R_iconst (pc := 168) (v := 0) dX12_sector_168 (by decide) ?_
  refine R_istore (pc := 169) (lv' := [(5, .int 0), (4, .int (nI (16 * (b - 1)))), (3, .int (nI r)), (2, .int (nI b)), (0, .ref 61), (1, .int 1)]) dX12_sector_169 (by decide) rfl ?_
  obtain ⟨f_, ef⟩ : ∃ f_ : oA, f_ = pt (ψ2 72) (16 * (b - 1)) (xb (G (xb (gt (ψ2 72) (16 * (b - 1))) (gt (pt (ψ2 75) 0 (dblL (gt (ψ2 75) 0))) 0))) (gt (pt (ψ2 75) 0 (dblL (gt (ψ2 75) 0))) 0)) := ⟨_, rfl⟩
  obtain ⟨g_, eg⟩ : ∃ g_ : oA, g_ = pt (ψ2 75) 0 (dblL (gt (ψ2 75) 0)) := ⟨_, rfl⟩
  have lP : (stN (scS G D) (F1 (gt (ψ 73) 0)) (b - 1)).2.length = 16 * (b - 1) := stN_len (scS_len G D) _
  have eR : gt (ψ2 72) (16 * (b - 1)) = rd D (16 * (b - 1)) := gt_of fun k_ hk_ => by
    rw [eO _ (by omega)]
    have := sD (16 * (b - 1) + k_) (by omega)
    rw [Nat.zero_add] at this; exact this
  have q0 : sg f_ 0 (stN (scS G D) (F1 (gt (ψ 73) 0)) (b - 1)).2 := by rw [ef]; exact sJ.mv fun j_ hj_ => pt_out _ _ (by omega)
  have q1 : gt f_ (16 * (b - 1)) = (xb (G (xb (rd D (16 * (b - 1))) (dblL (stN (scS G D) (F1 (gt (ψ 73) 0)) (b - 1)).1))) (dblL (stN (scS G D) (F1 (gt (ψ 73) 0)) (b - 1)).1)) := by rw [ef]; simp only [gt_pt, pt_pt]; rw [eR, rJ]
  have q2 : ∀ j, j < r → f_ (16 * (b - 1 + 1) + j) = og D (16 * (b - 1 + 1) + j) := fun j_ hj_ => by
    rw [ef, pt_out _ _ (by omega), eO _ (by omega)]
    have := sD (16 * (b - 1 + 1) + j_) (by omega)
    rw [Nat.zero_add] at this; exact this
  have eBf : gt (pt (ψ2 77) 0 (gt (ψ2 75) 0)) 0 = (stN (scS G D) (F1 (gt (ψ 73) 0)) (b - 1)).1 := by rw [gt_pt]; exact rJ
  rw [← ef, ← eg] at S_42
  refine R_sub [0, 1, 2, 3, 4, 5] rfl ?_
  have T_ : MO h_39 (uo (uo (uo ψ2 77 (pt (ψ2 77) 0 (gt (ψ2 75) 0))) 75 g_) 72 f_) z (ui i 4 (nI D.length)) := S_42
  refine qX12_sector_wo (h := h) (ψ := (uo (uo (uo ψ2 77 (pt (ψ2 77) 0 (gt (ψ2 75) 0))) 75 g_) 72 f_)) hn b r hb1 hr (by omega) (fun h3 ψ3 S3 hK3 hJ3 hF3 => ?_) r 0 (by omega) h_39 _ T_ (FR.rf _ _) (swB_0 _ _).symm (hF.tr (((F_25.tr F_30).tr F_35).tr F_43))
  have y3 : ψ3 72 = swB f_ (16 * (b - 1)) r := by exact hJ3
  have r3 : gt (ψ3 77) 0 = (stN (scS G D) (F1 (gt (ψ 73) 0)) (b - 1)).1 := by rw [hK3 77 (by decide)]; exact eBf
  have K_45 := (((K_16.uo (by decide)).uo (by decide)).uo (by decide)).fr hK3 (by decide) (by decide) (by decide) (by decide)
  refine R_iload_n (pc := 233) 5 dX12_sector_233 rfl rfl ?_
  refine R_if_eq (pc := 234) (tgt := 252) dX12_sector_234 (by decide) (fun c_46 => absurd c_46 (by decide)) (fun c_46 => ?_)
  refine R_aload_n (pc := 237) 4 dX12_sector_237 rfl rfl ?_
  refine R_get (pc := 238) dX12_sector_238 fX12_59 S3.obj (by omega) rfl ?_
  refine R_iconst (pc := 241) (v := 0) dX12_sector_241 (by decide) ?_
  refine R_aload_n (pc := 242) 4 dX12_sector_242 rfl rfl ?_
  refine R_get (pc := 243) dX12_sector_243 fX12_53 S3.obj (by omega) rfl ?_
  refine R_iconst (pc := 246) (v := 0) dX12_sector_246 (by decide) ?_
  refine R_bipush (pc := 247) (v := 16) dX12_sector_247 (by decide) ?_
  refine R_callSh (pc := 249) (μ' := mX12_copy) (As := [.ref 77, .int (nI 0), .ref 75, .int (nI 0), .int 16]) (st := []) dX12_sector_249 zX12_copy lX12_133 ⟨by decide, by decide⟩ rfl rfl ⟨by decide, by decide⟩ rfl (Nat.le_of_ble_eq_true rfl) (oX12_copy16 S3 hn (p := 77) (q := 75) rfl rfl 0 0 (by show 0 + 16 ≤ 16; omega) (by show 0 + 16 ≤ 16; omega) (by decide)) (fun h_47 r_ q_48 => ?_)
  obtain ⟨rfl, S_49, F_50⟩ := q_48
  have S_51 : MO h_47 (uo ψ3 75 (pt (ψ3 75) 0 (gt (ψ3 77) 0))) z (ui i 4 (nI D.length)) := S_49
  refine R_aload_n (pc := 252) 4 dX12_sector_252 rfl rfl ?_
  refine R_iload_n (pc := 253) 5 dX12_sector_253 rfl rfl ?_
  refine R_iload (pc := 254) 1 dX12_sector_254 rfl ?_
  refine R_callVh (pc := 256) (μ' := mX12_sectorBlock) (As := [.int 1, .int (nI (16 * (b - 1)))]) (st := []) dX12_sector_256 zX12_sectorBlock lX12_176 ⟨by decide, by decide⟩ rfl rfl ⟨by decide, by decide⟩ S_51.obj (by omega) rfl (Nat.le_of_ble_eq_true rfl) (oX12_sectorBlock_o S_51 hn (16 * (b - 1)) (by omega) (K_45.uo (by decide))) (fun h_52 r_ q_53 => ?_)
  obtain ⟨rfl, S_54, F_55⟩ := q_53
  have S_56 : MO h_52 (uo (uo ψ3 75 (pt (ψ3 75) 0 (gt (ψ3 77) 0))) 72 (pt (ψ3 72) (16 * (b - 1)) (xb (G (xb (gt (ψ3 72) (16 * (b - 1))) (gt (pt (ψ3 75) 0 (gt (ψ3 77) 0)) 0))) (gt (pt (ψ3 75) 0 (gt (ψ3 77) 0)) 0)))) z (ui i 4 (nI D.length)) := S_54
  have fin := sc_fin (H := G) (w := (stN (scS G D) (F1 (gt (ψ 73) 0)) (b - 1)).1) hr lP q0 q1 q2 (show D.length = 16 * (b - 1 + 1) + r by omega)
  have eE : scD G D (F1 (gt (ψ 73) 0)) = (stN (scS G D) (F1 (gt (ψ 73) 0)) (b - 1)).2 ++ bt (xb (G (xb (xb (df (xb (G (xb (rd D (16 * (b - 1))) (dblL (stN (scS G D) (F1 (gt (ψ 73) 0)) (b - 1)).1))) (dblL (stN (scS G D) (F1 (gt (ψ 73) 0)) (b - 1)).1)) (nI r)) (rd D (16 * (b - 1 + 1)))) (stN (scS G D) (F1 (gt (ψ 73) 0)) (b - 1)).1)) (stN (scS G D) (F1 (gt (ψ 73) 0)) (b - 1)).1) 16 ++ bt (xb (G (xb (rd D (16 * (b - 1))) (dblL (stN (scS G D) (F1 (gt (ψ 73) 0)) (b - 1)).1))) (dblL (stN (scS G D) (F1 (gt (ψ 73) 0)) (b - 1)).1)) r := by
    have hne : ¬ nI r = 0 := fun q_ => absurd ((nI_eq (a := r) (b := 0) (by omega) (by omega)).mp q_) (by omega)
    have eW : scW D = b - 1 := by unfold scW; rw [show D.length % 16 = r by omega, if_neg hne, show D.length / 16 = b by omega]
    unfold scD
    rw [eW, show D.length % 16 = r by omega]
    show (if nI r = 0 then _ else _) = _
    rw [if_neg hne, show 16 * (b - 1 + 1) = 16 * (b - 1) + 16 by omega]
  have hy : sg (pt (ψ3 72) (16 * (b - 1)) (xb (G (xb (gt (ψ3 72) (16 * (b - 1))) (gt (pt (ψ3 75) 0 (gt (ψ3 77) 0)) 0))) (gt (pt (ψ3 75) 0 (gt (ψ3 77) 0)) 0))) 0 (scD G D (F1 (gt (ψ 73) 0))) := by rw [eE]; simp only [gt_pt, pt_pt]; rw [r3, y3]; exact fin
  exact R_vreturn (pc := 259) dX12_sector_259 rfl (by decide) (by decide) ⟨rfl, _, rfl, S_56, ((((((((((FR.rf _ _).up (by decide)).up (by decide)).tr hK (by decide)).up (by decide)).up (by decide)).up (by decide)).tr hK3 (by decide)).up (by decide)).up (by decide)), hy, (hF3.tr (F_50.tr F_55))⟩
