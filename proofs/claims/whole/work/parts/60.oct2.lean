theorem sg.cp {f : oA} {b : Nat} {L : List (BitVec 8)} (h : sg f b L) (g : oA) (t : Nat) {n : Nat} (hn : L.length = n) : sg (cpB f b g t n) t L := fun j hj => by
  unfold cpB
  rw [if_pos (by omega), show b + (t + j - t) = b + j by omega]
  exact h j hj
theorem cpB_out (f : oA) (b : Nat) (g : oA) {t n j : Nat} (h : j < t ∨ t + n ≤ j) : cpB f b g t n j = g j := by
  unfold cpB
  rw [if_neg (by omega)]
def bkJ (H : bP → bP) (L : List (BitVec 8)) (ψ ψ2 : Nat → oA) (k : Nat) : Prop := sg (ψ2 72) 0 (bkN H L k) ∧ ∀ j, 16 * k ≤ j → ψ2 72 j = ψ 72 j
set_option maxHeartbeats 4000000 in
set_option maxRecDepth 100000 in
theorem qX12_book_sloop {l : Launch} {w : am_W} {h : am_H} {n : Nat} {ψ : Nat → oA} {z : fA} {i : mI} (hn : 90 ≤ n) (b : Nat) (hb : 16 * b ≤ 512) (hi3 : i 3 = nI (16 * b)) {F G : bP → bP} (K0 : Kh ψ 0 F G) (L : List (BitVec 8)) (hL : L.length = 16 * b) (hs : sg (ψ 72) 0 L) {Q : am_H → Nat → Option Value → Prop} (kk : ∀ h2 ψ2, MO h2 ψ2 z i → FR [72] ψ ψ2 → bkJ F L ψ ψ2 b → FM h h2 → RW l w mX12_book h2 n 0 0 60 [(2, .int (nI (16 * b))), (0, .ref 61), (1, .int 0)] [] Q) : ∀ (dd k : Nat), k + dd = b → ∀ h2 ψ2, MO h2 ψ2 z i → FR [72] ψ ψ2 → bkJ F L ψ ψ2 k → FM h h2 → RW l w mX12_book h2 n 0 0 19 [(2, .int (nI (16 * k))), (0, .ref 61), (1, .int 0)] [] Q := by
  intro dd
  induction dd with
  | zero =>
    intro k hd h2 ψ2 S2 hK hJ hF
    refine R_iload_n (pc := 19) 0 dX12_book_19 rfl rfl ?_
    refine R_aload_n (pc := 20) 1 dX12_book_20 rfl rfl ?_
    refine R_get (pc := 21) dX12_book_21 fX12_130 S2.obj (by omega) rfl ?_
    refine R_eqi (y := nI (16 * b)) (hi3) ?_
    refine R_icmp_ge (pc := 24) (tgt := 60) dX12_book_24 (by decide) (fun c_1 => ?_) (fun c_1 => absurd (nI_le (a := 16 * b) (b := 16 * k) (by omega) (by omega)) c_1)
    obtain rfl : k = b := by omega
    exact kk h2 ψ2 S2 hK hJ hF
  | succ dd ih =>
    intro k hd h2 ψ2 S2 hK hJ hF
    have K0_2 := K0.fr hK (by decide) (by decide) (by decide) (by decide)
    refine R_iload_n (pc := 19) 0 dX12_book_19 rfl rfl ?_
    refine R_aload_n (pc := 20) 1 dX12_book_20 rfl rfl ?_
    refine R_get (pc := 21) dX12_book_21 fX12_130 S2.obj (by omega) rfl ?_
    refine R_eqi (y := nI (16 * b)) (hi3) ?_
    refine R_icmp_ge (pc := 24) (tgt := 60) dX12_book_24 (by decide) (fun c_1 => absurd c_1 (nI_ge (a := 16 * k) (b := 16 * b) (by omega) (by omega))) (fun c_1 => ?_)
    refine R_iload_n (pc := 27) 2 dX12_book_27 rfl rfl ?_
    refine R_if_eq (pc := 28) (tgt := 44) dX12_book_28 (by decide) (fun c_2 => ?_) (fun c_2 => absurd (rfl) c_2)
    refine R_aload_n (pc := 44) 1 dX12_book_44 rfl rfl ?_
    refine R_iconst (pc := 45) (v := 0) dX12_book_45 (by decide) ?_
    refine R_aload_n (pc := 46) 1 dX12_book_46 rfl rfl ?_
    refine R_get (pc := 47) dX12_book_47 fX12_44 S2.obj (by omega) rfl ?_
    refine R_iload_n (pc := 50) 0 dX12_book_50 rfl rfl ?_
    refine R_callVh (pc := 51) (μ' := mX12_sealBlock) (As := [.int (nI 0), .ref 72, .int (nI (16 * k))]) (st := []) dX12_book_51 zX12_sealBlock lX12_146 ⟨by decide, by decide⟩ rfl rfl ⟨by decide, by decide⟩ S2.obj (by omega) rfl (Nat.le_of_ble_eq_true rfl) (oX12_sealBlock S2 hn K0_2 (p := 72) rfl (16 * k) (by show 16 * k + 16 ≤ 700; omega)) (fun h_3 r_ q_4 => ?_)
    obtain ⟨rfl, S_5, F_6⟩ := q_4
    have S_7 : MO h_3 (uo ψ2 72 (pt (ψ2 72) (16 * k) (F (gt (ψ2 72) (16 * k))))) z i := S_5
    refine R_iinc (pc := 54) (j := 0) (v := nI (16 * (k + 1))) (lv' := [(2, .int (nI (16 * (k + 1)))), (0, .ref 61), (1, .int 0)]) dX12_book_54 rfl (nI_add (16 * k) 16) (by decide) rfl ?_
    refine R_goto (pc := 57) (tgt := 19) dX12_book_57 (by decide) ?_
    refine R_sub [0, 1, 2] rfl ?_
    have eR : rd L (16 * k) = gt (ψ2 72) (16 * k) := (gt_of fun m_ hm_ => by rw [hJ.2 _ (by omega), show 16 * k + m_ = 0 + (16 * k + m_) by omega, hs _ (by omega), Nat.zero_add]).symm
    have j1 : sg (pt (ψ2 72) (16 * k) (F (gt (ψ2 72) (16 * k)))) 0 (bkN F L (k + 1)) := by show sg _ _ (_ ++ bt (F (rd L (16 * k))) 16); rw [eR]; exact hJ.1.pt _ (by rw [bkN_len, Nat.zero_add]) rfl
    have j2 : ∀ j, 16 * (k + 1) ≤ j → (pt (ψ2 72) (16 * k) (F (gt (ψ2 72) (16 * k)))) j = ψ 72 j := fun j_ hj_ => by rw [pt_out _ _ (by omega), hJ.2 j_ (by omega)]
    exact ih (k + 1) (by omega) h_3 _ S_7 (hK.up (by decide)) (⟨j1, j2⟩) (hF.tr F_6)
set_option maxHeartbeats 4000000 in
set_option maxRecDepth 100000 in
theorem oX12_book_s {l : Launch} {w : am_W} {h : am_H} {n : Nat} {ψ : Nat → oA} {z : fA} {i : mI} (S : MO h ψ z i) (hn : 90 ≤ n) (b : Nat) (hb : 16 * b ≤ 512) (hi3 : i 3 = nI (16 * b)) {F G : bP → bP} (K0 : Kh ψ 0 F G) (L : List (BitVec 8)) (hL : L.length = 16 * b) (hs : sg (ψ 71) 0 L) : RH l w mX12_book h n [.ref 61, .int 0] (fun h2 q => ∃ ψ2, q = none ∧ MO h2 ψ2 z (ui i 4 (nI (16 * b))) ∧ FR [72] ψ ψ2 ∧ sg (ψ2 72) 0 (bkN F L b) ∧ FM h h2) := by
  refine RC.of [(0, .ref 61), (1, .int 0)] (by decide +kernel) rfl (Nat.le_of_ble_eq_true rfl) ?_
  refine R_aload_n (pc := 0) 0 dX12_book_0 rfl rfl ?_
  refine R_get (pc := 1) dX12_book_1 fX12_41 S.obj (by omega) rfl ?_
  refine R_iconst (pc := 4) (v := 0) dX12_book_4 (by decide) ?_
  refine R_aload_n (pc := 5) 0 dX12_book_5 rfl rfl ?_
  refine R_get (pc := 6) dX12_book_6 fX12_44 S.obj (by omega) rfl ?_
  refine R_iconst (pc := 9) (v := 0) dX12_book_9 (by decide) ?_
  refine R_aload_n (pc := 10) 0 dX12_book_10 rfl rfl ?_
  refine R_get (pc := 11) dX12_book_11 fX12_130 S.obj (by omega) rfl ?_
  refine R_eqi (y := nI (16 * b)) (hi3) ?_
  refine R_callSh (pc := 14) (μ' := mX12_copy) (As := [.ref 71, .int (nI 0), .ref 72, .int (nI 0), .int (nI (16 * b))]) (st := []) dX12_book_14 zX12_copy lX12_133 ⟨by decide, by decide⟩ rfl rfl ⟨by decide, by decide⟩ rfl (Nat.le_of_ble_eq_true rfl) (oX12_copy S hn (p := 71) (q := 72) rfl rfl 0 0 (16 * b) (by show 0 + 16 * b ≤ 700; omega) (by show 0 + 16 * b ≤ 700; omega) (by decide)) (fun h_1 r_ q_2 => ?_)
  obtain ⟨rfl, S_3, F_4⟩ := q_2
  have S_5 : MO h_1 (uo ψ 72 (cpB (ψ 71) 0 (ψ 72) 0 (16 * b))) z i := S_3
  refine R_iconst (pc := 17) (v := 0) dX12_book_17 (by decide) ?_
  refine R_istore_n (pc := 18) (lv' := [(2, .int 0), (0, .ref 61), (1, .int 0)]) dX12_book_18 rfl (by decide) rfl ?_
  refine R_sub [0, 1, 2] rfl ?_
  refine qX12_book_sloop (h := h) (ψ := (uo ψ 72 (cpB (ψ 71) 0 (ψ 72) 0 (16 * b)))) hn b hb hi3 (K0.uo (by decide)) L hL (hs.cp _ _ hL) (fun h2 ψ2 S2 hK hJ hF => ?_) b 0 (by omega) h_1 _ S_5 (FR.rf _ _) ⟨sg.nil _ _, fun _ _ => rfl⟩ F_4
  refine R_aload_n (pc := 60) 1 dX12_book_60 rfl rfl ?_
  refine R_aload_n (pc := 61) 1 dX12_book_61 rfl rfl ?_
  refine R_get (pc := 62) dX12_book_62 fX12_130 S2.obj (by omega) rfl ?_
  refine R_eqi (y := nI (16 * b)) (hi3) ?_
  refine R_put' (pc := 65) (fs' := [.int (i 0), .ref 62, .ref 63, .int (i 1), .ref 64, .int (i 2), .ref 65, .ref 66, .ref 67, .ref 68, .ref 69, .ref 70, .ref 71, .int (i 3), .ref 72, .int (nI (16 * b)), .ref 73, .int (i 5), .ref 74, .int (i 6), .ref 75, .ref 76, .ref 77, .ref 78, .ref 79, .ref 80, .ref 81, .ref 82, .ref 83, .ref 84, .int (i 7), .ref 85, .ref 86, .ref 87, .ref 88, .ref 89, .ref 90]) dX12_book_65 fX12_153 tX12_15 rfl rfl S2.obj (by omega) (Nat.le_of_ble_eq_true rfl) rfl (fun h_6 f_7 g_8 => ?_)
  have S_9 : MO h_6 ψ2 z (ui i 4 (nI (16 * b))) := MO.setI (j := (ui i 4 (nI (16 * b)))) S2 f_7 g_8
  have F_10 := fmI g_8
  exact R_vreturn (pc := 68) dX12_book_68 rfl (by decide) (by decide) ⟨rfl, ψ2, rfl, S_9, ((FR.rf _ _).up (by decide)).tr hK (fun p_ q_ => q_), hJ.1, (hF.tr F_10)⟩
set_option maxHeartbeats 4000000 in
set_option maxRecDepth 100000 in
theorem qX12_book_oloop {l : Launch} {w : am_W} {h : am_H} {n : Nat} {ψ : Nat → oA} {z : fA} {i : mI} (hn : 90 ≤ n) (b : Nat) (hb : 16 * b ≤ 512) (hi3 : i 3 = nI (16 * b)) {F G : bP → bP} (K0 : Kh ψ 0 F G) (L : List (BitVec 8)) (hL : L.length = 16 * b) (hs : sg (ψ 72) 0 L) {Q : am_H → Nat → Option Value → Prop} (kk : ∀ h2 ψ2, MO h2 ψ2 z i → FR [72] ψ ψ2 → bkJ G L ψ ψ2 b → FM h h2 → RW l w mX12_book h2 n 0 0 60 [(2, .int (nI (16 * b))), (0, .ref 61), (1, .int 1)] [] Q) : ∀ (dd k : Nat), k + dd = b → ∀ h2 ψ2, MO h2 ψ2 z i → FR [72] ψ ψ2 → bkJ G L ψ ψ2 k → FM h h2 → RW l w mX12_book h2 n 0 0 19 [(2, .int (nI (16 * k))), (0, .ref 61), (1, .int 1)] [] Q := by
  intro dd
  induction dd with
  | zero =>
    intro k hd h2 ψ2 S2 hK hJ hF
    refine R_iload_n (pc := 19) 0 dX12_book_19 rfl rfl ?_
    refine R_aload_n (pc := 20) 1 dX12_book_20 rfl rfl ?_
    refine R_get (pc := 21) dX12_book_21 fX12_130 S2.obj (by omega) rfl ?_
    refine R_eqi (y := nI (16 * b)) (hi3) ?_
    refine R_icmp_ge (pc := 24) (tgt := 60) dX12_book_24 (by decide) (fun c_1 => ?_) (fun c_1 => absurd (nI_le (a := 16 * b) (b := 16 * k) (by omega) (by omega)) c_1)
    obtain rfl : k = b := by omega
    exact kk h2 ψ2 S2 hK hJ hF
  | succ dd ih =>
    intro k hd h2 ψ2 S2 hK hJ hF
    have K0_2 := K0.fr hK (by decide) (by decide) (by decide) (by decide)
    refine R_iload_n (pc := 19) 0 dX12_book_19 rfl rfl ?_
    refine R_aload_n (pc := 20) 1 dX12_book_20 rfl rfl ?_
    refine R_get (pc := 21) dX12_book_21 fX12_130 S2.obj (by omega) rfl ?_
    refine R_eqi (y := nI (16 * b)) (hi3) ?_
    refine R_icmp_ge (pc := 24) (tgt := 60) dX12_book_24 (by decide) (fun c_1 => absurd c_1 (nI_ge (a := 16 * k) (b := 16 * b) (by omega) (by omega))) (fun c_1 => ?_)
    refine R_iload_n (pc := 27) 2 dX12_book_27 rfl rfl ?_
    refine R_if_eq (pc := 28) (tgt := 44) dX12_book_28 (by decide) (fun c_2 => absurd c_2 (by decide)) (fun c_2 => ?_)
    refine R_aload_n (pc := 31) 1 dX12_book_31 rfl rfl ?_
    refine R_iconst (pc := 32) (v := 0) dX12_book_32 (by decide) ?_
    refine R_aload_n (pc := 33) 1 dX12_book_33 rfl rfl ?_
    refine R_get (pc := 34) dX12_book_34 fX12_44 S2.obj (by omega) rfl ?_
    refine R_iload_n (pc := 37) 0 dX12_book_37 rfl rfl ?_
    refine R_callVh (pc := 38) (μ' := mX12_openBlock) (As := [.int (nI 0), .ref 72, .int (nI (16 * k))]) (st := []) dX12_book_38 zX12_openBlock lX12_150 ⟨by decide, by decide⟩ rfl rfl ⟨by decide, by decide⟩ S2.obj (by omega) rfl (Nat.le_of_ble_eq_true rfl) (oX12_openBlock S2 hn K0_2 (p := 72) rfl (16 * k) (by show 16 * k + 16 ≤ 700; omega)) (fun h_3 r_ q_4 => ?_)
    obtain ⟨rfl, S_5, F_6⟩ := q_4
    have S_7 : MO h_3 (uo ψ2 72 (pt (ψ2 72) (16 * k) (G (gt (ψ2 72) (16 * k))))) z i := S_5
    refine R_goto (pc := 41) (tgt := 54) dX12_book_41 (by decide) ?_
    refine R_iinc (pc := 54) (j := 0) (v := nI (16 * (k + 1))) (lv' := [(2, .int (nI (16 * (k + 1)))), (0, .ref 61), (1, .int 1)]) dX12_book_54 rfl (nI_add (16 * k) 16) (by decide) rfl ?_
    refine R_goto (pc := 57) (tgt := 19) dX12_book_57 (by decide) ?_
    refine R_sub [0, 1, 2] rfl ?_
    have eR : rd L (16 * k) = gt (ψ2 72) (16 * k) := (gt_of fun m_ hm_ => by rw [hJ.2 _ (by omega), show 16 * k + m_ = 0 + (16 * k + m_) by omega, hs _ (by omega), Nat.zero_add]).symm
    have j1 : sg (pt (ψ2 72) (16 * k) (G (gt (ψ2 72) (16 * k)))) 0 (bkN G L (k + 1)) := by show sg _ _ (_ ++ bt (G (rd L (16 * k))) 16); rw [eR]; exact hJ.1.pt _ (by rw [bkN_len, Nat.zero_add]) rfl
    have j2 : ∀ j, 16 * (k + 1) ≤ j → (pt (ψ2 72) (16 * k) (G (gt (ψ2 72) (16 * k)))) j = ψ 72 j := fun j_ hj_ => by rw [pt_out _ _ (by omega), hJ.2 j_ (by omega)]
    exact ih (k + 1) (by omega) h_3 _ S_7 (hK.up (by decide)) (⟨j1, j2⟩) (hF.tr F_6)
set_option maxHeartbeats 4000000 in
set_option maxRecDepth 100000 in
theorem oX12_book_o {l : Launch} {w : am_W} {h : am_H} {n : Nat} {ψ : Nat → oA} {z : fA} {i : mI} (S : MO h ψ z i) (hn : 90 ≤ n) (b : Nat) (hb : 16 * b ≤ 512) (hi3 : i 3 = nI (16 * b)) {F G : bP → bP} (K0 : Kh ψ 0 F G) (L : List (BitVec 8)) (hL : L.length = 16 * b) (hs : sg (ψ 71) 0 L) : RH l w mX12_book h n [.ref 61, .int 1] (fun h2 q => ∃ ψ2, q = none ∧ MO h2 ψ2 z (ui i 4 (nI (16 * b))) ∧ FR [72] ψ ψ2 ∧ sg (ψ2 72) 0 (bkN G L b) ∧ FM h h2) := by
  refine RC.of [(0, .ref 61), (1, .int 1)] (by decide +kernel) rfl (Nat.le_of_ble_eq_true rfl) ?_
  refine R_aload_n (pc := 0) 0 dX12_book_0 rfl rfl ?_
  refine R_get (pc := 1) dX12_book_1 fX12_41 S.obj (by omega) rfl ?_
  refine R_iconst (pc := 4) (v := 0) dX12_book_4 (by decide) ?_
  refine R_aload_n (pc := 5) 0 dX12_book_5 rfl rfl ?_
  refine R_get (pc := 6) dX12_book_6 fX12_44 S.obj (by omega) rfl ?_
  refine R_iconst (pc := 9) (v := 0) dX12_book_9 (by decide) ?_
  refine R_aload_n (pc := 10) 0 dX12_book_10 rfl rfl ?_
  refine R_get (pc := 11) dX12_book_11 fX12_130 S.obj (by omega) rfl ?_
  refine R_eqi (y := nI (16 * b)) (hi3) ?_
  refine R_callSh (pc := 14) (μ' := mX12_copy) (As := [.ref 71, .int (nI 0), .ref 72, .int (nI 0), .int (nI (16 * b))]) (st := []) dX12_book_14 zX12_copy lX12_133 ⟨by decide, by decide⟩ rfl rfl ⟨by decide, by decide⟩ rfl (Nat.le_of_ble_eq_true rfl) (oX12_copy S hn (p := 71) (q := 72) rfl rfl 0 0 (16 * b) (by show 0 + 16 * b ≤ 700; omega) (by show 0 + 16 * b ≤ 700; omega) (by decide)) (fun h_1 r_ q_2 => ?_)
  obtain ⟨rfl, S_3, F_4⟩ := q_2
  have S_5 : MO h_1 (uo ψ 72 (cpB (ψ 71) 0 (ψ 72) 0 (16 * b))) z i := S_3
  refine R_iconst (pc := 17) (v := 0) dX12_book_17 (by decide) ?_
  refine R_istore_n (pc := 18) (lv' := [(2, .int 0), (0, .ref 61), (1, .int 1)]) dX12_book_18 rfl (by decide) rfl ?_
  refine R_sub [0, 1, 2] rfl ?_
  refine qX12_book_oloop (h := h) (ψ := (uo ψ 72 (cpB (ψ 71) 0 (ψ 72) 0 (16 * b)))) hn b hb hi3 (K0.uo (by decide)) L hL (hs.cp _ _ hL) (fun h2 ψ2 S2 hK hJ hF => ?_) b 0 (by omega) h_1 _ S_5 (FR.rf _ _) ⟨sg.nil _ _, fun _ _ => rfl⟩ F_4
  refine R_aload_n (pc := 60) 1 dX12_book_60 rfl rfl ?_
  refine R_aload_n (pc := 61) 1 dX12_book_61 rfl rfl ?_
  refine R_get (pc := 62) dX12_book_62 fX12_130 S2.obj (by omega) rfl ?_
  refine R_eqi (y := nI (16 * b)) (hi3) ?_
  refine R_put' (pc := 65) (fs' := [.int (i 0), .ref 62, .ref 63, .int (i 1), .ref 64, .int (i 2), .ref 65, .ref 66, .ref 67, .ref 68, .ref 69, .ref 70, .ref 71, .int (i 3), .ref 72, .int (nI (16 * b)), .ref 73, .int (i 5), .ref 74, .int (i 6), .ref 75, .ref 76, .ref 77, .ref 78, .ref 79, .ref 80, .ref 81, .ref 82, .ref 83, .ref 84, .int (i 7), .ref 85, .ref 86, .ref 87, .ref 88, .ref 89, .ref 90]) dX12_book_65 fX12_153 tX12_15 rfl rfl S2.obj (by omega) (Nat.le_of_ble_eq_true rfl) rfl (fun h_6 f_7 g_8 => ?_)
  have S_9 : MO h_6 ψ2 z (ui i 4 (nI (16 * b))) := MO.setI (j := (ui i 4 (nI (16 * b)))) S2 f_7 g_8
  have F_10 := fmI g_8
  exact R_vreturn (pc := 68) dX12_book_68 rfl (by decide) (by decide) ⟨rfl, ψ2, rfl, S_9, ((FR.rf _ _).up (by decide)).tr hK (fun p_ q_ => q_), hJ.1, (hF.tr F_10)⟩
