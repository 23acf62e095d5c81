theorem gt_of {f : oA} {t : Nat} {L : List (BitVec 8)} {j : Nat} (h : ∀ k, k < 16 → f (t + k) = og L (j + k)) : gt f t = rd L j := ob_ext fun k hk => by
  rw [ob_gt _ _ hk, ob_rd _ _ hk, h k hk]
def chJ (F : bP → bP) (L : List (BitVec 8)) (x : bP) (t : Nat) (ψ ψ2 : Nat → oA) (k : Nat) : Prop := gt (ψ2 75) 0 = (stN (chS F L) x k).1 ∧ sg (ψ2 72) t (stN (chS F L) x k).2 ∧ ∀ j, j < t ∨ t + 16 * k ≤ j → ψ2 72 j = ψ 72 j
set_option maxHeartbeats 4000000 in
set_option maxRecDepth 100000 in
theorem qX12_chain_loop {l : Launch} {w : am_W} {h : am_H} {n : Nat} {ψ : Nat → oA} {z : fA} {i : mI} (hn : 90 ≤ n) (u t b : Nat) (htb : t + 16 * b ≤ 700) {F G : bP → bP} (Ku : Kh ψ u F G) (L : List (BitVec 8)) (hs : ∀ j, j < 16 * b → ψ 72 (t + j) = og L j) (x : bP) (hx : gt (ψ 75) 0 = x) {Q : am_H → Nat → Option Value → Prop} (kk : ∀ h2 ψ2, MO h2 ψ2 z i → FR [72, 75] ψ ψ2 → chJ F L x t ψ ψ2 b → FM h h2 → RW l w mX12_chain h2 n 0 0 73 [(4, .int (nI b)), (0, .ref 61), (1, .int (nI u)), (2, .int (nI t)), (3, .int (nI b))] [] Q) : ∀ (dd k : Nat), k + dd = b → ∀ h2 ψ2, MO h2 ψ2 z i → FR [72, 75] ψ ψ2 → chJ F L x t ψ ψ2 k → FM h h2 → RW l w mX12_chain h2 n 0 0 3 [(4, .int (nI k)), (0, .ref 61), (1, .int (nI u)), (2, .int (nI t)), (3, .int (nI b))] [] Q := by
  intro dd
  induction dd with
  | zero =>
    intro k hd h2 ψ2 S2 hK hJ hF
    refine R_iload (pc := 3) 0 dX12_chain_3 rfl ?_
    refine R_iload_n (pc := 5) 4 dX12_chain_5 rfl rfl ?_
    refine R_icmp_ge (pc := 6) (tgt := 73) dX12_chain_6 (by decide) (fun c_1 => ?_) (fun c_1 => absurd (nI_le (a := b) (b := k) (by omega) (by omega)) c_1)
    obtain rfl : k = b := by omega
    exact kk h2 ψ2 S2 hK hJ hF
  | succ dd ih =>
    intro k hd h2 ψ2 S2 hK hJ hF
    have Ku_2 := Ku.fr hK (by decide) (by decide) (by decide) (by decide)
    refine R_iload (pc := 3) 0 dX12_chain_3 rfl ?_
    refine R_iload_n (pc := 5) 4 dX12_chain_5 rfl rfl ?_
    refine R_icmp_ge (pc := 6) (tgt := 73) dX12_chain_6 (by decide) (fun c_1 => absurd c_1 (nI_ge (a := k) (b := b) (by omega) (by omega))) (fun c_1 => ?_)
    refine R_aload_n (pc := 9) 1 dX12_chain_9 rfl rfl ?_
    refine R_get (pc := 10) dX12_chain_10 fX12_53 S2.obj (by omega) rfl ?_
    refine R_iconst (pc := 13) (v := 0) dX12_chain_13 (by decide) ?_
    refine R_aload_n (pc := 14) 1 dX12_chain_14 rfl rfl ?_
    refine R_get (pc := 15) dX12_chain_15 fX12_44 S2.obj (by omega) rfl ?_
    refine R_iload_n (pc := 18) 3 dX12_chain_18 rfl rfl ?_
    refine R_bipush (pc := 19) (v := 16) dX12_chain_19 (by decide) ?_
    refine R_iload (pc := 21) 0 dX12_chain_21 rfl ?_
    refine R_imul (pc := 23) dX12_chain_23 ?_
    refine R_eqi (y := nI (16 * k)) (nI_mul 16 k) ?_
    refine R_iadd (pc := 24) dX12_chain_24 ?_
    refine R_eqi (y := nI (t + (16 * k))) (nI_add t (16 * k)) ?_
    refine R_bipush (pc := 25) (v := 16) dX12_chain_25 (by decide) ?_
    refine R_callSh (pc := 27) (μ' := mX12_add) (As := [.ref 75, .int (nI 0), .ref 72, .int (nI (t + (16 * k))), .int 16]) (st := []) dX12_chain_27 zX12_add lX12_143 ⟨by decide, by decide⟩ rfl rfl ⟨by decide, by decide⟩ rfl (Nat.le_of_ble_eq_true rfl) (oX12_add16 S2 hn (p := 75) (q := 72) rfl rfl 0 (t + (16 * k)) (by show 0 + 16 ≤ 16; omega) (by show t + (16 * k) + 16 ≤ 700; omega) (by decide)) (fun h_2 r_ q_3 => ?_)
    obtain ⟨rfl, S_4, F_5⟩ := q_3
    have S_6 : MO h_2 (uo ψ2 72 (pt (ψ2 72) (t + (16 * k)) (xb (gt (ψ2 72) (t + (16 * k))) (gt (ψ2 75) 0)))) z i := S_4
    refine R_aload_n (pc := 30) 1 dX12_chain_30 rfl rfl ?_
    refine R_iload_n (pc := 31) 2 dX12_chain_31 rfl rfl ?_
    refine R_aload_n (pc := 32) 1 dX12_chain_32 rfl rfl ?_
    refine R_get (pc := 33) dX12_chain_33 fX12_44 S_6.obj (by omega) rfl ?_
    refine R_iload_n (pc := 36) 3 dX12_chain_36 rfl rfl ?_
    refine R_bipush (pc := 37) (v := 16) dX12_chain_37 (by decide) ?_
    refine R_iload (pc := 39) 0 dX12_chain_39 rfl ?_
    refine R_imul (pc := 41) dX12_chain_41 ?_
    refine R_eqi (y := nI (16 * k)) (nI_mul 16 k) ?_
    refine R_iadd (pc := 42) dX12_chain_42 ?_
    refine R_eqi (y := nI (t + (16 * k))) (nI_add t (16 * k)) ?_
    refine R_callVh (pc := 43) (μ' := mX12_sealBlock) (As := [.int (nI u), .ref 72, .int (nI (t + (16 * k)))]) (st := []) dX12_chain_43 zX12_sealBlock lX12_146 ⟨by decide, by decide⟩ rfl rfl ⟨by decide, by decide⟩ S_6.obj (by omega) rfl (Nat.le_of_ble_eq_true rfl) (oX12_sealBlock S_6 hn (Ku_2.uo (by decide)) (p := 72) rfl (t + (16 * k)) (by show t + (16 * k) + 16 ≤ 700; omega)) (fun h_7 r_ q_8 => ?_)
    obtain ⟨rfl, S_9, F_10⟩ := q_8
    have S_11 : MO h_7 (uo ψ2 72 (pt (pt (ψ2 72) (t + (16 * k)) (xb (gt (ψ2 72) (t + (16 * k))) (gt (ψ2 75) 0))) (t + (16 * k)) (F (gt (pt (ψ2 72) (t + (16 * k)) (xb (gt (ψ2 72) (t + (16 * k))) (gt (ψ2 75) 0))) (t + (16 * k)))))) z i := by have z_ := S_9; rw [uo_uo] at z_; exact z_
    refine R_aload_n (pc := 46) 1 dX12_chain_46 rfl rfl ?_
    refine R_get (pc := 47) dX12_chain_47 fX12_44 S_11.obj (by omega) rfl ?_
    refine R_iload_n (pc := 50) 3 dX12_chain_50 rfl rfl ?_
    refine R_bipush (pc := 51) (v := 16) dX12_chain_51 (by decide) ?_
    refine R_iload (pc := 53) 0 dX12_chain_53 rfl ?_
    refine R_imul (pc := 55) dX12_chain_55 ?_
    refine R_eqi (y := nI (16 * k)) (nI_mul 16 k) ?_
    refine R_iadd (pc := 56) dX12_chain_56 ?_
    refine R_eqi (y := nI (t + (16 * k))) (nI_add t (16 * k)) ?_
    refine R_aload_n (pc := 57) 1 dX12_chain_57 rfl rfl ?_
    refine R_get (pc := 58) dX12_chain_58 fX12_53 S_11.obj (by omega) rfl ?_
    refine R_iconst (pc := 61) (v := 0) dX12_chain_61 (by decide) ?_
    refine R_bipush (pc := 62) (v := 16) dX12_chain_62 (by decide) ?_
    refine R_callSh (pc := 64) (μ' := mX12_copy) (As := [.ref 72, .int (nI (t + (16 * k))), .ref 75, .int (nI 0), .int 16]) (st := []) dX12_chain_64 zX12_copy lX12_133 ⟨by decide, by decide⟩ rfl rfl ⟨by decide, by decide⟩ rfl (Nat.le_of_ble_eq_true rfl) (oX12_copy16 S_11 hn (p := 72) (q := 75) rfl rfl (t + (16 * k)) 0 (by show t + (16 * k) + 16 ≤ 700; omega) (by show 0 + 16 ≤ 16; omega) (by decide)) (fun h_12 r_ q_13 => ?_)
    obtain ⟨rfl, S_14, F_15⟩ := q_13
    have S_16 : MO h_12 (uo (uo ψ2 72 (pt (pt (ψ2 72) (t + (16 * k)) (xb (gt (ψ2 72) (t + (16 * k))) (gt (ψ2 75) 0))) (t + (16 * k)) (F (gt (pt (ψ2 72) (t + (16 * k)) (xb (gt (ψ2 72) (t + (16 * k))) (gt (ψ2 75) 0))) (t + (16 * k)))))) 75 (pt (ψ2 75) 0 (gt (pt (pt (ψ2 72) (t + (16 * k)) (xb (gt (ψ2 72) (t + (16 * k))) (gt (ψ2 75) 0))) (t + (16 * k)) (F (gt (pt (ψ2 72) (t + (16 * k)) (xb (gt (ψ2 72) (t + (16 * k))) (gt (ψ2 75) 0))) (t + (16 * k))))) (t + (16 * k))))) z i := S_14
    refine R_iinc (pc := 67) (j := 0) (v := nI (k + 1)) (lv' := [(4, .int (nI (k + 1))), (0, .ref 61), (1, .int (nI u)), (2, .int (nI t)), (3, .int (nI b))]) dX12_chain_67 rfl (nI_add _ _) (by decide) rfl ?_
    refine R_goto (pc := 70) (tgt := 3) dX12_chain_70 (by decide) ?_
    refine R_sub [0, 1, 2, 3, 4] rfl ?_
    have eR : rd L (16 * k) = gt (ψ2 72) (t + 16 * k) := (gt_of fun m_ hm_ => by rw [hJ.2.2 _ (by omega), Nat.add_assoc t, hs _ (by omega)]).symm
    have eC : chS F L k (stN (chS F L) x k).1 = (F (xb (gt (ψ2 72) (t + 16 * k)) (gt (ψ2 75) 0)), bt (F (xb (gt (ψ2 72) (t + 16 * k)) (gt (ψ2 75) 0))) 16) := by rw [← hJ.1]; unfold chS; rw [eR]
    have eL : (stN (chS F L) x k).2.length = 16 * k := stN_len (chS_len F L) k
    have j1 : gt (pt (ψ2 75) 0 (gt (pt (pt (ψ2 72) (t + (16 * k)) (xb (gt (ψ2 72) (t + (16 * k))) (gt (ψ2 75) 0))) (t + (16 * k)) (F (gt (pt (ψ2 72) (t + (16 * k)) (xb (gt (ψ2 72) (t + (16 * k))) (gt (ψ2 75) 0))) (t + (16 * k))))) (t + (16 * k)))) 0 = (stN (chS F L) x (k + 1)).1 := by show _ = (chS F L k _).1; rw [eC]; simp only [gt_pt]
    have j2 : sg (pt (pt (ψ2 72) (t + (16 * k)) (xb (gt (ψ2 72) (t + (16 * k))) (gt (ψ2 75) 0))) (t + (16 * k)) (F (gt (pt (ψ2 72) (t + (16 * k)) (xb (gt (ψ2 72) (t + (16 * k))) (gt (ψ2 75) 0))) (t + (16 * k))))) t (stN (chS F L) x (k + 1)).2 := by show sg _ _ (_ ++ (chS F L k _).2); rw [eC]; simp only [gt_pt, pt_pt]; exact hJ.2.1.pt _ (by rw [eL]) rfl
    have j3 : ∀ j, j < t ∨ t + 16 * (k + 1) ≤ j → (pt (pt (ψ2 72) (t + (16 * k)) (xb (gt (ψ2 72) (t + (16 * k))) (gt (ψ2 75) 0))) (t + (16 * k)) (F (gt (pt (ψ2 72) (t + (16 * k)) (xb (gt (ψ2 72) (t + (16 * k))) (gt (ψ2 75) 0))) (t + (16 * k))))) j = ψ 72 j := fun j_ hj_ => by simp only [gt_pt, pt_pt]; rw [pt_out _ _ (by omega), hJ.2.2 j_ (by omega)]
    exact ih (k + 1) (by omega) h_12 _ S_16 ((hK.up (by decide)).up (by decide)) (⟨j1, j2, j3⟩) (hF.tr ((F_5.tr F_10).tr F_15))
set_option maxHeartbeats 4000000 in
set_option maxRecDepth 100000 in
theorem oX12_chain {l : Launch} {w : am_W} {h : am_H} {n : Nat} {ψ : Nat → oA} {z : fA} {i : mI} (S : MO h ψ z i) (hn : 90 ≤ n) (u t b : Nat) (htb : t + 16 * b ≤ 700) {F G : bP → bP} (Ku : Kh ψ u F G) (L : List (BitVec 8)) (hs : ∀ j, j < 16 * b → ψ 72 (t + j) = og L j) (x : bP) (hx : gt (ψ 75) 0 = x) : RH l w mX12_chain h n [.ref 61, .int (nI u), .int (nI t), .int (nI b)] (fun h2 q => ∃ ψ2, q = none ∧ MO h2 ψ2 z i ∧ FR [72, 75] ψ ψ2 ∧ chJ F L x t ψ ψ2 b ∧ FM h h2) := by
  refine RC.of [(0, .ref 61), (1, .int (nI u)), (2, .int (nI t)), (3, .int (nI b))] (by decide +kernel) rfl (Nat.le_of_ble_eq_true rfl) ?_
  refine R_iconst (pc := 0) (v := 0) dX12_chain_0 (by decide) ?_
  refine R_istore (pc := 1) (lv' := [(4, .int 0), (0, .ref 61), (1, .int (nI u)), (2, .int (nI t)), (3, .int (nI b))]) dX12_chain_1 (by decide) rfl ?_
  refine R_sub [0, 1, 2, 3, 4] rfl ?_
  refine qX12_chain_loop (h := h) (ψ := ψ) hn u t b htb Ku L hs x hx (fun h2 ψ2 S2 hK hJ hF => ?_) b 0 (by omega) h ψ S (FR.rf _ _) ⟨hx, sg.nil _ _, fun _ _ => rfl⟩ (FM.rf h)
  exact R_vreturn (pc := 73) dX12_chain_73 rfl (by decide) (by decide) ⟨rfl, ψ2, rfl, S2, hK, hJ, hF⟩
def ucJ (G : bP → bP) (L : List (BitVec 8)) (x : bP) (ψ2 : Nat → oA) (k : Nat) : Prop := gt (ψ2 75) 0 = (stN (ucS G L) x k).1 ∧ sg (ψ2 72) 0 (stN (ucS G L) x k).2
set_option maxHeartbeats 4000000 in
set_option maxRecDepth 100000 in
theorem qX12_unchain_loop {l : Launch} {w : am_W} {h : am_H} {n : Nat} {ψ : Nat → oA} {z : fA} {i : mI} (hn : 90 ≤ n) (b : Nat) (hb : 16 * b ≤ 700) {F G : bP → bP} (K0 : Kh ψ 0 F G) (L : List (BitVec 8)) (hL : 16 * b ≤ L.length) (hs : sg (ψ 71) 0 L) (x : bP) (hx : gt (ψ 75) 0 = x) {Q : am_H → Nat → Option Value → Prop} (kk : ∀ h2 ψ2, MO h2 ψ2 z i → FR [72, 75] ψ ψ2 → ucJ G L x ψ2 b → FM h h2 → RW l w mX12_unchain h2 n 0 0 83 [(2, .int (nI b)), (0, .ref 61), (1, .int (nI b))] [] Q) : ∀ (dd k : Nat), k + dd = b → ∀ h2 ψ2, MO h2 ψ2 z i → FR [72, 75] ψ ψ2 → ucJ G L x ψ2 k → FM h h2 → RW l w mX12_unchain h2 n 0 0 2 [(2, .int (nI k)), (0, .ref 61), (1, .int (nI b))] [] Q := by
  intro dd
  induction dd with
  | zero =>
    intro k hd h2 ψ2 S2 hK hJ hF
    refine R_iload_n (pc := 2) 0 dX12_unchain_2 rfl rfl ?_
    refine R_iload_n (pc := 3) 2 dX12_unchain_3 rfl rfl ?_
    refine R_icmp_ge (pc := 4) (tgt := 83) dX12_unchain_4 (by decide) (fun c_1 => ?_) (fun c_1 => absurd (nI_le (a := b) (b := k) (by omega) (by omega)) c_1)
    obtain rfl : k = b := by omega
    exact kk h2 ψ2 S2 hK hJ hF
  | succ dd ih =>
    intro k hd h2 ψ2 S2 hK hJ hF
    have K0_2 := K0.fr hK (by decide) (by decide) (by decide) (by decide)
    refine R_iload_n (pc := 2) 0 dX12_unchain_2 rfl rfl ?_
    refine R_iload_n (pc := 3) 2 dX12_unchain_3 rfl rfl ?_
    refine R_icmp_ge (pc := 4) (tgt := 83) dX12_unchain_4 (by decide) (fun c_1 => absurd c_1 (nI_ge (a := k) (b := b) (by omega) (by omega))) (fun c_1 => ?_)
    refine R_aload_n (pc := 7) 1 dX12_unchain_7 rfl rfl ?_
    refine R_get (pc := 8) dX12_unchain_8 fX12_41 S2.obj (by omega) rfl ?_
    refine R_bipush (pc := 11) (v := 16) dX12_unchain_11 (by decide) ?_
    refine R_iload_n (pc := 13) 0 dX12_unchain_13 rfl rfl ?_
    refine R_imul (pc := 14) dX12_unchain_14 ?_
    refine R_eqi (y := nI (16 * k)) (nI_mul 16 k) ?_
    refine R_aload_n (pc := 15) 1 dX12_unchain_15 rfl rfl ?_
    refine R_get (pc := 16) dX12_unchain_16 fX12_44 S2.obj (by omega) rfl ?_
    refine R_bipush (pc := 19) (v := 16) dX12_unchain_19 (by decide) ?_
    refine R_iload_n (pc := 21) 0 dX12_unchain_21 rfl rfl ?_
    refine R_imul (pc := 22) dX12_unchain_22 ?_
    refine R_eqi (y := nI (16 * k)) (nI_mul 16 k) ?_
    refine R_bipush (pc := 23) (v := 16) dX12_unchain_23 (by decide) ?_
    refine R_callSh (pc := 25) (μ' := mX12_copy) (As := [.ref 71, .int (nI (16 * k)), .ref 72, .int (nI (16 * k)), .int 16]) (st := []) dX12_unchain_25 zX12_copy lX12_133 ⟨by decide, by decide⟩ rfl rfl ⟨by decide, by decide⟩ rfl (Nat.le_of_ble_eq_true rfl) (oX12_copy16 S2 hn (p := 71) (q := 72) rfl rfl (16 * k) (16 * k) (by show 16 * k + 16 ≤ 700; omega) (by show 16 * k + 16 ≤ 700; omega) (by decide)) (fun h_2 r_ q_3 => ?_)
    obtain ⟨rfl, S_4, F_5⟩ := q_3
    have S_6 : MO h_2 (uo ψ2 72 (pt (ψ2 72) (16 * k) (gt (ψ2 71) (16 * k)))) z i := S_4
    refine R_aload_n (pc := 28) 1 dX12_unchain_28 rfl rfl ?_
    refine R_iconst (pc := 29) (v := 0) dX12_unchain_29 (by decide) ?_
    refine R_aload_n (pc := 30) 1 dX12_unchain_30 rfl rfl ?_
    refine R_get (pc := 31) dX12_unchain_31 fX12_44 S_6.obj (by omega) rfl ?_
    refine R_bipush (pc := 34) (v := 16) dX12_unchain_34 (by decide) ?_
    refine R_iload_n (pc := 36) 0 dX12_unchain_36 rfl rfl ?_
    refine R_imul (pc := 37) dX12_unchain_37 ?_
    refine R_eqi (y := nI (16 * k)) (nI_mul 16 k) ?_
    refine R_callVh (pc := 38) (μ' := mX12_openBlock) (As := [.int (nI 0), .ref 72, .int (nI (16 * k))]) (st := []) dX12_unchain_38 zX12_openBlock lX12_150 ⟨by decide, by decide⟩ rfl rfl ⟨by decide, by decide⟩ S_6.obj (by omega) rfl (Nat.le_of_ble_eq_true rfl) (oX12_openBlock S_6 hn (K0_2.uo (by decide)) (p := 72) rfl (16 * k) (by show 16 * k + 16 ≤ 700; omega)) (fun h_7 r_ q_8 => ?_)
    obtain ⟨rfl, S_9, F_10⟩ := q_8
    have S_11 : MO h_7 (uo ψ2 72 (pt (pt (ψ2 72) (16 * k) (gt (ψ2 71) (16 * k))) (16 * k) (G (gt (pt (ψ2 72) (16 * k) (gt (ψ2 71) (16 * k))) (16 * k))))) z i := by have z_ := S_9; rw [uo_uo] at z_; exact z_
    refine R_aload_n (pc := 41) 1 dX12_unchain_41 rfl rfl ?_
    refine R_get (pc := 42) dX12_unchain_42 fX12_53 S_11.obj (by omega) rfl ?_
    refine R_iconst (pc := 45) (v := 0) dX12_unchain_45 (by decide) ?_
    refine R_aload_n (pc := 46) 1 dX12_unchain_46 rfl rfl ?_
    refine R_get (pc := 47) dX12_unchain_47 fX12_44 S_11.obj (by omega) rfl ?_
    refine R_bipush (pc := 50) (v := 16) dX12_unchain_50 (by decide) ?_
    refine R_iload_n (pc := 52) 0 dX12_unchain_52 rfl rfl ?_
    refine R_imul (pc := 53) dX12_unchain_53 ?_
    refine R_eqi (y := nI (16 * k)) (nI_mul 16 k) ?_
    refine R_bipush (pc := 54) (v := 16) dX12_unchain_54 (by decide) ?_
    refine R_callSh (pc := 56) (μ' := mX12_add) (As := [.ref 75, .int (nI 0), .ref 72, .int (nI (16 * k)), .int 16]) (st := []) dX12_unchain_56 zX12_add lX12_143 ⟨by decide, by decide⟩ rfl rfl ⟨by decide, by decide⟩ rfl (Nat.le_of_ble_eq_true rfl) (oX12_add16 S_11 hn (p := 75) (q := 72) rfl rfl 0 (16 * k) (by show 0 + 16 ≤ 16; omega) (by show 16 * k + 16 ≤ 700; omega) (by decide)) (fun h_12 r_ q_13 => ?_)
    obtain ⟨rfl, S_14, F_15⟩ := q_13
    have S_16 : MO h_12 (uo ψ2 72 (pt (pt (pt (ψ2 72) (16 * k) (gt (ψ2 71) (16 * k))) (16 * k) (G (gt (pt (ψ2 72) (16 * k) (gt (ψ2 71) (16 * k))) (16 * k)))) (16 * k) (xb (gt (pt (pt (ψ2 72) (16 * k) (gt (ψ2 71) (16 * k))) (16 * k) (G (gt (pt (ψ2 72) (16 * k) (gt (ψ2 71) (16 * k))) (16 * k)))) (16 * k)) (gt (ψ2 75) 0)))) z i := by have z_ := S_14; rw [uo_uo] at z_; exact z_
    refine R_aload_n (pc := 59) 1 dX12_unchain_59 rfl rfl ?_
    refine R_get (pc := 60) dX12_unchain_60 fX12_41 S_16.obj (by omega) rfl ?_
    refine R_bipush (pc := 63) (v := 16) dX12_unchain_63 (by decide) ?_
    refine R_iload_n (pc := 65) 0 dX12_unchain_65 rfl rfl ?_
    refine R_imul (pc := 66) dX12_unchain_66 ?_
    refine R_eqi (y := nI (16 * k)) (nI_mul 16 k) ?_
    refine R_aload_n (pc := 67) 1 dX12_unchain_67 rfl rfl ?_
    refine R_get (pc := 68) dX12_unchain_68 fX12_53 S_16.obj (by omega) rfl ?_
    refine R_iconst (pc := 71) (v := 0) dX12_unchain_71 (by decide) ?_
    refine R_bipush (pc := 72) (v := 16) dX12_unchain_72 (by decide) ?_
    refine R_callSh (pc := 74) (μ' := mX12_copy) (As := [.ref 71, .int (nI (16 * k)), .ref 75, .int (nI 0), .int 16]) (st := []) dX12_unchain_74 zX12_copy lX12_133 ⟨by decide, by decide⟩ rfl rfl ⟨by decide, by decide⟩ rfl (Nat.le_of_ble_eq_true rfl) (oX12_copy16 S_16 hn (p := 71) (q := 75) rfl rfl (16 * k) 0 (by show 16 * k + 16 ≤ 700; omega) (by show 0 + 16 ≤ 16; omega) (by decide)) (fun h_17 r_ q_18 => ?_)
    obtain ⟨rfl, S_19, F_20⟩ := q_18
    have S_21 : MO h_17 (uo (uo ψ2 72 (pt (pt (pt (ψ2 72) (16 * k) (gt (ψ2 71) (16 * k))) (16 * k) (G (gt (pt (ψ2 72) (16 * k) (gt (ψ2 71) (16 * k))) (16 * k)))) (16 * k) (xb (gt (pt (pt (ψ2 72) (16 * k) (gt (ψ2 71) (16 * k))) (16 * k) (G (gt (pt (ψ2 72) (16 * k) (gt (ψ2 71) (16 * k))) (16 * k)))) (16 * k)) (gt (ψ2 75) 0)))) 75 (pt (ψ2 75) 0 (gt (ψ2 71) (16 * k)))) z i := S_19
    refine R_iinc (pc := 77) (j := 0) (v := nI (k + 1)) (lv' := [(2, .int (nI (k + 1))), (0, .ref 61), (1, .int (nI b))]) dX12_unchain_77 rfl (nI_add _ _) (by decide) rfl ?_
    refine R_goto (pc := 80) (tgt := 2) dX12_unchain_80 (by decide) ?_
    refine R_sub [0, 1, 2] rfl ?_
    have e71 : ψ2 71 = ψ 71 := hK 71 (by decide)
    have eR : rd L (16 * k) = gt (ψ2 71) (16 * k) := by rw [e71, hs.rd (by omega), Nat.zero_add]
    have eC : ucS G L k (stN (ucS G L) x k).1 = (gt (ψ2 71) (16 * k), bt (xb (G (gt (ψ2 71) (16 * k))) (gt (ψ2 75) 0)) 16) := by rw [← hJ.1]; unfold ucS; rw [eR]
    have eL : (stN (ucS G L) x k).2.length = 16 * k := stN_len (ucS_len G L) k
    have j1 : gt (pt (ψ2 75) 0 (gt (ψ2 71) (16 * k))) 0 = (stN (ucS G L) x (k + 1)).1 := by show _ = (ucS G L k (stN (ucS G L) x k).1).1; rw [eC]; simp only [gt_pt]
    have j2 : sg (pt (pt (pt (ψ2 72) (16 * k) (gt (ψ2 71) (16 * k))) (16 * k) (G (gt (pt (ψ2 72) (16 * k) (gt (ψ2 71) (16 * k))) (16 * k)))) (16 * k) (xb (gt (pt (pt (ψ2 72) (16 * k) (gt (ψ2 71) (16 * k))) (16 * k) (G (gt (pt (ψ2 72) (16 * k) (gt (ψ2 71) (16 * k))) (16 * k)))) (16 * k)) (gt (ψ2 75) 0))) 0 (stN (ucS G L) x (k + 1)).2 := by show sg _ _ (_ ++ (ucS G L k _).2); rw [eC]; simp only [gt_pt, pt_pt]; exact hJ.2.pt _ (by rw [eL, Nat.zero_add]) rfl
    exact ih (k + 1) (by omega) h_17 _ S_21 ((hK.up (by decide)).up (by decide)) (⟨j1, j2⟩) (hF.tr (((F_5.tr F_10).tr F_15).tr F_20))
set_option maxHeartbeats 4000000 in
set_option maxRecDepth 100000 in
theorem oX12_unchain {l : Launch} {w : am_W} {h : am_H} {n : Nat} {ψ : Nat → oA} {z : fA} {i : mI} (S : MO h ψ z i) (hn : 90 ≤ n) (b : Nat) (hb : 16 * b ≤ 700) {F G : bP → bP} (K0 : Kh ψ 0 F G) (L : List (BitVec 8)) (hL : 16 * b ≤ L.length) (hs : sg (ψ 71) 0 L) (x : bP) (hx : gt (ψ 75) 0 = x) : RH l w mX12_unchain h n [.ref 61, .int (nI b)] (fun h2 q => ∃ ψ2, q = none ∧ MO h2 ψ2 z i ∧ FR [72, 75] ψ ψ2 ∧ ucJ G L x ψ2 b ∧ FM h h2) := by
  refine RC.of [(0, .ref 61), (1, .int (nI b))] (by decide +kernel) rfl (Nat.le_of_ble_eq_true rfl) ?_
  refine R_iconst (pc := 0) (v := 0) dX12_unchain_0 (by decide) ?_
  refine R_istore_n (pc := 1) (lv' := [(2, .int 0), (0, .ref 61), (1, .int (nI b))]) dX12_unchain_1 rfl (by decide) rfl ?_
  refine R_sub [0, 1, 2] rfl ?_
  refine qX12_unchain_loop (h := h) (ψ := ψ) hn b hb K0 L hL hs x hx (fun h2 ψ2 S2 hK hJ hF => ?_) b 0 (by omega) h ψ S (FR.rf _ _) ⟨hx, sg.nil _ _⟩ (FM.rf h)
  exact R_vreturn (pc := 83) dX12_unchain_83 rfl (by decide) (by decide) ⟨rfl, ψ2, rfl, S2, hK, hJ, hF⟩
