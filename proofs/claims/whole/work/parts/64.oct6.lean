theorem stN_og {f : Nat → bP → bP × List (BitVec 8)} {x : bP} {L : List (BitVec 8)} {H : bP → bP} (hf : ∀ i y, (f i y).2 = bt (xb (rd L (16 * i)) (H y)) (mnb L i)) : ∀ t, ∀ j, j < min L.length (16 * t) → og (stN f x t).2 j = og L j ^^^ ob (H (stN f x (j / 16)).1) (j % 16)
  | 0, j, hj => by omega
  | t + 1, j, hj => by
    have hl : (stN f x t).2.length = min L.length (16 * t) := stN_lenM L (fun i y => by rw [hf]; exact bt_len _ _) t
    show og ((stN f x t).2 ++ (f t (stN f x t).1).2) j = _
    by_cases a : j < min L.length (16 * t)
    · rw [og_app_l (by omega)]
      exact stN_og hf t j a
    · rw [og_app_r (by omega), hf, hl, show j / 16 = t by omega, show min L.length (16 * t) = 16 * t by omega, og_bt _ (by unfold mnb; omega), ob_xb _ _ (by omega), ob_rd _ _ (by omega), show 16 * t + (j - 16 * t) = j by omega, show j - 16 * t = j % 16 by omega]
theorem stN_sg {f : Nat → bP → bP × List (BitVec 8)} {x : bP} {L : List (BitVec 8)} {H : bP → bP} (hf : ∀ i y, (f i y).2 = bt (xb (rd L (16 * i)) (H y)) (mnb L i)) {g : oA} {t : Nat} (hg : ∀ j, j < L.length → g (t + j) = og L j ^^^ ob (H (stN f x (j / 16)).1) (j % 16)) : sg g t (stN f x (nbk L)).2 := fun j hj => by
  have hb := nbk_b L
  have hl : (stN f x (nbk L)).2.length = min L.length (16 * nbk L) := stN_lenM L (fun i y => by rw [hf]; exact bt_len _ _) _
  rw [hl] at hj
  rw [hg j (by omega), stN_og hf (nbk L) j (by omega)]
theorem gt_at0 {f : oA} {q : bP} (h : gt f 0 = q) {k : Nat} (hk : k < 16) : f k = ob q k := by
  rw [← h, ob_gt _ _ hk, Nat.zero_add]
def ctJ (F : bP → bP) (X : Nat → bP) (a t : Nat) (ψ ψ2 : Nat → oA) (k : Nat) : Prop := ψ2 72 = pgB (fun j => ψ 71 (a + j) ^^^ ob (F (X (j / 16))) (j % 16)) (ψ 72) t k ∧ gt (ψ2 75) 0 = X ((k + 15) / 16) ∧ (k % 16 ≠ 0 → gt (ψ2 76) 0 = F (X (k / 16)))
set_option maxHeartbeats 4000000 in
set_option maxRecDepth 100000 in
theorem qX12_count_loop {l : Launch} {w : am_W} {h : am_H} {n : Nat} {ψ : Nat → oA} {z : fA} {i : mI} (hn : 90 ≤ n) (u a t m c : Nat) (ha : a + m ≤ 700) (ht : t + m ≤ 700) (hc : c ≤ 16) {F G : bP → bP} (Ku : Kh ψ u F G) (X : Nat → bP) (hX : ∀ i f, 16 * i < m → gt f 0 = X i → gt (omB c 16 f) 0 = X (i + 1)) {Q : am_H → Nat → Option Value → Prop} (kk : ∀ h2 ψ2, MO h2 ψ2 z i → FR [72, 75, 76] ψ ψ2 → ctJ F X a t ψ ψ2 m → FM h h2 → RW l w mX12_count h2 n 0 0 87 [(6, .int (nI m)), (0, .ref 61), (1, .int (nI u)), (2, .int (nI a)), (3, .int (nI t)), (4, .int (nI m)), (5, .int (nI c))] [] Q) : ∀ (dd k : Nat), k + dd = m → ∀ h2 ψ2, MO h2 ψ2 z i → FR [72, 75, 76] ψ ψ2 → ctJ F X a t ψ ψ2 k → FM h h2 → RW l w mX12_count h2 n 0 0 3 [(6, .int (nI k)), (0, .ref 61), (1, .int (nI u)), (2, .int (nI a)), (3, .int (nI t)), (4, .int (nI m)), (5, .int (nI c))] [] Q := by
  intro dd
  induction dd with
  | zero =>
    intro k hd h2 ψ2 S2 hK hJ hF
    refine R_iload (pc := 3) 0 dX12_count_3 rfl ?_
    refine R_iload (pc := 5) 5 dX12_count_5 rfl ?_
    refine R_icmp_ge (pc := 7) (tgt := 87) dX12_count_7 (by decide) (fun c_1 => ?_) (fun c_1 => absurd (nI_le (a := m) (b := k) (by omega) (by omega)) c_1)
    obtain rfl : k = m := by omega
    exact kk h2 ψ2 S2 hK hJ hF
  | succ dd ih =>
    intro k hd h2 ψ2 S2 hK hJ hF
    have Ku_2 := Ku.fr hK (by decide) (by decide) (by decide) (by decide)
    refine R_iload (pc := 3) 0 dX12_count_3 rfl ?_
    refine R_iload (pc := 5) 5 dX12_count_5 rfl ?_
    refine R_icmp_ge (pc := 7) (tgt := 87) dX12_count_7 (by decide) (fun c_1 => absurd c_1 (nI_ge (a := k) (b := m) (by omega) (by omega))) (fun c_1 => ?_)
    refine R_iload (pc := 10) 0 dX12_count_10 rfl ?_
    refine R_bipush (pc := 12) (v := 16) dX12_count_12 (by decide) ?_
    refine R_irem (pc := 14) dX12_count_14 (by decide) ?_
    refine R_eqi (y := nI (k % 16)) (nI_rem (a := k) (b := 16) (by omega) (by omega)) ?_
    refine R_if_ne (pc := 15) (tgt := 52) dX12_count_15 (by decide) (fun c_2 => ?_) (fun c_2 => ?_)
    · skip
      have nc_2 : ¬ (k % 16 = 0) := fun q_ => c_2 ((nI_eq (a := k % 16) (b := 0) (by omega) (by omega)).mpr q_)
      refine R_aload_n (pc := 52) 1 dX12_count_52 rfl rfl ?_
      refine R_get (pc := 53) dX12_count_53 fX12_44 S2.obj (by omega) rfl ?_
      refine R_iload_n (pc := 56) 4 dX12_count_56 rfl rfl ?_
      refine R_iload (pc := 57) 0 dX12_count_57 rfl ?_
      refine R_iadd (pc := 59) dX12_count_59 ?_
      refine R_eqi (y := nI (t + k)) (nI_add t k) ?_
      refine R_aload_n (pc := 60) 1 dX12_count_60 rfl rfl ?_
      refine R_get (pc := 61) dX12_count_61 fX12_41 S2.obj (by omega) rfl ?_
      refine R_iload_n (pc := 64) 3 dX12_count_64 rfl rfl ?_
      refine R_iload (pc := 65) 0 dX12_count_65 rfl ?_
      refine R_iadd (pc := 67) dX12_count_67 ?_
      refine R_eqi (y := nI (a + k)) (nI_add a k) ?_
      refine R_iald' (pc := 68) (j := a + k) dX12_count_68 (S2.arr (p := 71) rfl) (by omega) ⟨rfl, by show a + k < 700; omega, by decide⟩ ?_
      refine R_eqi (y := oc (ψ2 71 (a + k))) rfl ?_
      refine R_aload_n (pc := 69) 1 dX12_count_69 rfl rfl ?_
      refine R_get (pc := 70) dX12_count_70 fX12_56 S2.obj (by omega) rfl ?_
      refine R_iload (pc := 73) 0 dX12_count_73 rfl ?_
      refine R_bipush (pc := 75) (v := 16) dX12_count_75 (by decide) ?_
      refine R_irem (pc := 77) dX12_count_77 (by decide) ?_
      refine R_eqi (y := nI (k % 16)) (nI_rem (a := k) (b := 16) (by omega) (by omega)) ?_
      refine R_iald' (pc := 78) (j := k % 16) dX12_count_78 (S2.arr (p := 76) rfl) (by omega) ⟨rfl, by show k % 16 < 16; omega, by decide⟩ ?_
      refine R_eqi (y := oc (ψ2 76 (k % 16))) rfl ?_
      refine R_ixor (pc := 79) dX12_count_79 ?_
      refine R_eqi (y := oc ((ψ2 71 (a + k)) ^^^ (ψ2 76 (k % 16)))) (oc_xor _ _) ?_
      refine R_iast' (pc := 80) (j := t + k) dX12_count_80 (S2.arr (p := 72) rfl) (by omega) ⟨rfl, by show t + k < 700; omega, by decide⟩ (fun h_3 f_4 g_5 => ?_)
      have S_7 : MO h_3 (uo ψ2 72 (updB (ψ2 72) (t + k) ((ψ2 71 (a + k)) ^^^ (ψ2 76 (k % 16))))) z i := MO.setA (p := 72) S2 rfl f_4 g_5 (fun j_ => congrFun (upd_oc _ _ _) j_)
      have F_6 := fmA (p := 72) (okA_c (by decide)).1 g_5
      refine R_iinc (pc := 81) (j := 0) (v := nI (k + 1)) (lv' := [(6, .int (nI (k + 1))), (0, .ref 61), (1, .int (nI u)), (2, .int (nI a)), (3, .int (nI t)), (4, .int (nI m)), (5, .int (nI c))]) dX12_count_81 rfl (nI_add _ _) (by decide) rfl ?_
      refine R_goto (pc := 84) (tgt := 3) dX12_count_84 (by decide) ?_
      refine R_sub [0, 1, 2, 3, 4, 5, 6] rfl ?_
      have e71 : ψ2 71 = ψ 71 := hK 71 (by decide)
      have eO : gt (ψ2 76) 0 = F (X (k / 16)) := hJ.2.2 nc_2
      have eR : gt (ψ2 75) 0 = X ((k + 1 + 15) / 16) := by rw [hJ.2.1, show (k + 1 + 15) / 16 = (k + 15) / 16 by omega]
      have j1 : updB (ψ2 72) (t + k) ((ψ2 71 (a + k)) ^^^ (ψ2 76 (k % 16))) = pgB (fun j => ψ 71 (a + j) ^^^ ob (F (X (j / 16))) (j % 16)) (ψ 72) t (k + 1) := by rw [hJ.1]; exact pgB_up _ _ rfl (by rw [gt_at0 eO (by omega), e71])
      have j3 : (k + 1) % 16 ≠ 0 → gt (ψ2 76) 0 = F (X ((k + 1) / 16)) := fun q_ => by rw [eO, show (k + 1) / 16 = k / 16 by omega]
      exact ih (k + 1) (by omega) h_3 _ S_7 (hK.up (by decide)) (⟨j1, eR, j3⟩) (hF.tr F_6)
    · skip
      have nc_2 : k % 16 = 0 := (nI_eq (a := k % 16) (b := 0) (by omega) (by omega)).mp c_2
      refine R_aload_n (pc := 18) 1 dX12_count_18 rfl rfl ?_
      refine R_get (pc := 19) dX12_count_19 fX12_53 S2.obj (by omega) rfl ?_
      refine R_iconst (pc := 22) (v := 0) dX12_count_22 (by decide) ?_
      refine R_aload_n (pc := 23) 1 dX12_count_23 rfl rfl ?_
      refine R_get (pc := 24) dX12_count_24 fX12_56 S2.obj (by omega) rfl ?_
      refine R_iconst (pc := 27) (v := 0) dX12_count_27 (by decide) ?_
      refine R_bipush (pc := 28) (v := 16) dX12_count_28 (by decide) ?_
      refine R_callSh (pc := 30) (μ' := mX12_copy) (As := [.ref 75, .int (nI 0), .ref 76, .int (nI 0), .int 16]) (st := []) dX12_count_30 zX12_copy lX12_133 ⟨by decide, by decide⟩ rfl rfl ⟨by decide, by decide⟩ rfl (Nat.le_of_ble_eq_true rfl) (oX12_copy16 S2 hn (p := 75) (q := 76) rfl rfl 0 0 (by show 0 + 16 ≤ 16; omega) (by show 0 + 16 ≤ 16; omega) (by decide)) (fun h_8 r_ q_9 => ?_)
      obtain ⟨rfl, S_10, F_11⟩ := q_9
      have S_12 : MO h_8 (uo ψ2 76 (pt (ψ2 76) 0 (gt (ψ2 75) 0))) z i := S_10
      refine R_aload_n (pc := 33) 1 dX12_count_33 rfl rfl ?_
      refine R_iload_n (pc := 34) 2 dX12_count_34 rfl rfl ?_
      refine R_aload_n (pc := 35) 1 dX12_count_35 rfl rfl ?_
      refine R_get (pc := 36) dX12_count_36 fX12_56 S_12.obj (by omega) rfl ?_
      refine R_iconst (pc := 39) (v := 0) dX12_count_39 (by decide) ?_
      refine R_callVh (pc := 40) (μ' := mX12_sealBlock) (As := [.int (nI u), .ref 76, .int (nI 0)]) (st := []) dX12_count_40 zX12_sealBlock lX12_146 ⟨by decide, by decide⟩ rfl rfl ⟨by decide, by decide⟩ S_12.obj (by omega) rfl (Nat.le_of_ble_eq_true rfl) (oX12_sealBlock S_12 hn (Ku_2.uo (by decide)) (p := 76) rfl 0 (by show 0 + 16 ≤ 16; omega)) (fun h_13 r_ q_14 => ?_)
      obtain ⟨rfl, S_15, F_16⟩ := q_14
      have S_17 : MO h_13 (uo ψ2 76 (pt (pt (ψ2 76) 0 (gt (ψ2 75) 0)) 0 (F (gt (pt (ψ2 76) 0 (gt (ψ2 75) 0)) 0)))) z i := by have z_ := S_15; rw [uo_uo] at z_; exact z_
      refine R_aload_n (pc := 43) 1 dX12_count_43 rfl rfl ?_
      refine R_get (pc := 44) dX12_count_44 fX12_53 S_17.obj (by omega) rfl ?_
      refine R_iload (pc := 47) 6 dX12_count_47 rfl ?_
      refine R_callSh (pc := 49) (μ' := mX12_oneMore) (As := [.ref 75, .int (nI c)]) (st := []) dX12_count_49 zX12_oneMore lX12_168 ⟨by decide, by decide⟩ rfl rfl ⟨by decide, by decide⟩ rfl (Nat.le_of_ble_eq_true rfl) (oX12_oneMore S_17 hn (q := 75) rfl (by decide) c (by omega)) (fun h_18 r_ q_19 => ?_)
      obtain ⟨rfl, S_20, F_21⟩ := q_19
      have S_22 : MO h_18 (uo (uo ψ2 76 (pt (pt (ψ2 76) 0 (gt (ψ2 75) 0)) 0 (F (gt (pt (ψ2 76) 0 (gt (ψ2 75) 0)) 0)))) 75 (omB c 16 (ψ2 75))) z i := S_20
      refine R_aload_n (pc := 52) 1 dX12_count_52 rfl rfl ?_
      refine R_get (pc := 53) dX12_count_53 fX12_44 S_22.obj (by omega) rfl ?_
      refine R_iload_n (pc := 56) 4 dX12_count_56 rfl rfl ?_
      refine R_iload (pc := 57) 0 dX12_count_57 rfl ?_
      refine R_iadd (pc := 59) dX12_count_59 ?_
      refine R_eqi (y := nI (t + k)) (nI_add t k) ?_
      refine R_aload_n (pc := 60) 1 dX12_count_60 rfl rfl ?_
      refine R_get (pc := 61) dX12_count_61 fX12_41 S_22.obj (by omega) rfl ?_
      refine R_iload_n (pc := 64) 3 dX12_count_64 rfl rfl ?_
      refine R_iload (pc := 65) 0 dX12_count_65 rfl ?_
      refine R_iadd (pc := 67) dX12_count_67 ?_
      refine R_eqi (y := nI (a + k)) (nI_add a k) ?_
      refine R_iald' (pc := 68) (j := a + k) dX12_count_68 (S_22.arr (p := 71) rfl) (by omega) ⟨rfl, by show a + k < 700; omega, by decide⟩ ?_
      refine R_eqi (y := oc (ψ2 71 (a + k))) rfl ?_
      refine R_aload_n (pc := 69) 1 dX12_count_69 rfl rfl ?_
      refine R_get (pc := 70) dX12_count_70 fX12_56 S_22.obj (by omega) rfl ?_
      refine R_iload (pc := 73) 0 dX12_count_73 rfl ?_
      refine R_bipush (pc := 75) (v := 16) dX12_count_75 (by decide) ?_
      refine R_irem (pc := 77) dX12_count_77 (by decide) ?_
      refine R_eqi (y := nI (k % 16)) (nI_rem (a := k) (b := 16) (by omega) (by omega)) ?_
      refine R_iald' (pc := 78) (j := k % 16) dX12_count_78 (S_22.arr (p := 76) rfl) (by omega) ⟨rfl, by show k % 16 < 16; omega, by decide⟩ ?_
      refine R_eqi (y := oc ((pt (pt (ψ2 76) 0 (gt (ψ2 75) 0)) 0 (F (gt (pt (ψ2 76) 0 (gt (ψ2 75) 0)) 0))) (k % 16))) rfl ?_
      refine R_ixor (pc := 79) dX12_count_79 ?_
      refine R_eqi (y := oc ((ψ2 71 (a + k)) ^^^ ((pt (pt (ψ2 76) 0 (gt (ψ2 75) 0)) 0 (F (gt (pt (ψ2 76) 0 (gt (ψ2 75) 0)) 0))) (k % 16)))) (oc_xor _ _) ?_
      refine R_iast' (pc := 80) (j := t + k) dX12_count_80 (S_22.arr (p := 72) rfl) (by omega) ⟨rfl, by show t + k < 700; omega, by decide⟩ (fun h_23 f_24 g_25 => ?_)
      have S_27 : MO h_23 (uo (uo (uo ψ2 76 (pt (pt (ψ2 76) 0 (gt (ψ2 75) 0)) 0 (F (gt (pt (ψ2 76) 0 (gt (ψ2 75) 0)) 0)))) 75 (omB c 16 (ψ2 75))) 72 (updB (ψ2 72) (t + k) ((ψ2 71 (a + k)) ^^^ ((pt (pt (ψ2 76) 0 (gt (ψ2 75) 0)) 0 (F (gt (pt (ψ2 76) 0 (gt (ψ2 75) 0)) 0))) (k % 16))))) z i := MO.setA (p := 72) S_22 rfl f_24 g_25 (fun j_ => congrFun (upd_oc _ _ _) j_)
      have F_26 := fmA (p := 72) (okA_c (by decide)).1 g_25
      refine R_iinc (pc := 81) (j := 0) (v := nI (k + 1)) (lv' := [(6, .int (nI (k + 1))), (0, .ref 61), (1, .int (nI u)), (2, .int (nI a)), (3, .int (nI t)), (4, .int (nI m)), (5, .int (nI c))]) dX12_count_81 rfl (nI_add _ _) (by decide) rfl ?_
      refine R_goto (pc := 84) (tgt := 3) dX12_count_84 (by decide) ?_
      refine R_sub [0, 1, 2, 3, 4, 5, 6] rfl ?_
      have e71 : ψ2 71 = ψ 71 := hK 71 (by decide)
      have eX : gt (ψ2 75) 0 = X (k / 16) := by rw [hJ.2.1, show (k + 15) / 16 = k / 16 by omega]
      have eO : gt (pt (pt (ψ2 76) 0 (gt (ψ2 75) 0)) 0 (F (gt (pt (ψ2 76) 0 (gt (ψ2 75) 0)) 0))) 0 = F (X (k / 16)) := by simp only [gt_pt, pt_pt]; rw [eX]
      have eR : gt (omB c 16 (ψ2 75)) 0 = X ((k + 1 + 15) / 16) := by rw [show (k + 1 + 15) / 16 = k / 16 + 1 by omega]; exact hX _ _ (by omega) eX
      have j1 : updB (ψ2 72) (t + k) ((ψ2 71 (a + k)) ^^^ ((pt (pt (ψ2 76) 0 (gt (ψ2 75) 0)) 0 (F (gt (pt (ψ2 76) 0 (gt (ψ2 75) 0)) 0))) (k % 16))) = pgB (fun j => ψ 71 (a + j) ^^^ ob (F (X (j / 16))) (j % 16)) (ψ 72) t (k + 1) := by rw [hJ.1]; exact pgB_up _ _ rfl (by rw [gt_at0 eO (by omega), e71])
      have j3 : (k + 1) % 16 ≠ 0 → gt (pt (pt (ψ2 76) 0 (gt (ψ2 75) 0)) 0 (F (gt (pt (ψ2 76) 0 (gt (ψ2 75) 0)) 0))) 0 = F (X ((k + 1) / 16)) := fun q_ => by rw [eO, show (k + 1) / 16 = k / 16 by omega]
      exact ih (k + 1) (by omega) h_23 _ S_27 (((hK.up (by decide)).up (by decide)).up (by decide)) (⟨j1, eR, j3⟩) (hF.tr (((F_11.tr F_16).tr F_21).tr F_26))
set_option maxHeartbeats 4000000 in
set_option maxRecDepth 100000 in
theorem oX12_count {l : Launch} {w : am_W} {h : am_H} {n : Nat} {ψ : Nat → oA} {z : fA} {i : mI} (S : MO h ψ z i) (hn : 90 ≤ n) (u a t m c : Nat) (ha : a + m ≤ 700) (ht : t + m ≤ 700) (hc : c ≤ 16) {F G : bP → bP} (Ku : Kh ψ u F G) (X : Nat → bP) (hX : ∀ i f, 16 * i < m → gt f 0 = X i → gt (omB c 16 f) 0 = X (i + 1)) (hX0 : gt (ψ 75) 0 = X 0) : RH l w mX12_count h n [.ref 61, .int (nI u), .int (nI a), .int (nI t), .int (nI m), .int (nI c)] (fun h2 q => ∃ ψ2, q = none ∧ MO h2 ψ2 z i ∧ FR [72, 75, 76] ψ ψ2 ∧ ψ2 72 = pgB (fun j => ψ 71 (a + j) ^^^ ob (F (X (j / 16))) (j % 16)) (ψ 72) t m ∧ FM h h2) := by
  refine RC.of [(0, .ref 61), (1, .int (nI u)), (2, .int (nI a)), (3, .int (nI t)), (4, .int (nI m)), (5, .int (nI c))] (by decide +kernel) rfl (Nat.le_of_ble_eq_true rfl) ?_
  refine R_iconst (pc := 0) (v := 0) dX12_count_0 (by decide) ?_
  refine R_istore (pc := 1) (lv' := [(6, .int 0), (0, .ref 61), (1, .int (nI u)), (2, .int (nI a)), (3, .int (nI t)), (4, .int (nI m)), (5, .int (nI c))]) dX12_count_1 (by decide) rfl ?_
  refine R_sub [0, 1, 2, 3, 4, 5, 6] rfl ?_
  refine qX12_count_loop (h := h) (ψ := ψ) hn u a t m c ha ht hc Ku X hX (fun h2 ψ2 S2 hK hJ hF => ?_) m 0 (by omega) h ψ S (FR.rf _ _) ⟨(pgB_0 _ _ _).symm, hX0, fun q_ => absurd rfl q_⟩ (FM.rf h)
  exact R_vreturn (pc := 87) dX12_count_87 rfl (by decide) (by decide) ⟨rfl, ψ2, rfl, S2, hK, hJ.1, hF⟩
def ofJ (F : bP → bP) (D : List (BitVec 8)) (x : bP) (ψ2 : Nat → oA) (k : Nat) : Prop := (∀ j, j < k → ψ2 72 j = og D j ^^^ ob (F (stN (toS F D) x (j / 16)).1) (j % 16)) ∧ gt (ψ2 75) 0 = (stN (toS F D) x ((k + 15) / 16)).1
set_option maxHeartbeats 4000000 in
set_option maxRecDepth 100000 in
theorem qX12_outFed_loop {l : Launch} {w : am_W} {h : am_H} {n : Nat} {ψ : Nat → oA} {z : fA} {i : mI} (hn : 90 ≤ n) (D : List (BitVec 8)) (hD : D.length ≤ 512) (hi3 : i 3 = nI D.length) {F G : bP → bP} (K0 : Kh ψ 0 F G) (hs : sg (ψ 71) 0 D) (x : bP) {Q : am_H → Nat → Option Value → Prop} (kk : ∀ h2 ψ2, MO h2 ψ2 z i → FR [72, 75] ψ ψ2 → ofJ F D x ψ2 D.length → FM h h2 → RW l w mX12_outFed h2 n 0 0 70 [(1, .int (nI D.length)), (0, .ref 61)] [] Q) : ∀ (dd k : Nat), k + dd = D.length → ∀ h2 ψ2, MO h2 ψ2 z i → FR [72, 75] ψ ψ2 → ofJ F D x ψ2 k → FM h h2 → RW l w mX12_outFed h2 n 0 0 17 [(1, .int (nI k)), (0, .ref 61)] [] Q := by
  intro dd
  induction dd with
  | zero =>
    intro k hd h2 ψ2 S2 hK hJ hF
    refine R_iload_n (pc := 17) 0 dX12_outFed_17 rfl rfl ?_
    refine R_aload_n (pc := 18) 1 dX12_outFed_18 rfl rfl ?_
    refine R_get (pc := 19) dX12_outFed_19 fX12_130 S2.obj (by omega) rfl ?_
    refine R_eqi (y := nI D.length) (hi3) ?_
    refine R_icmp_ge (pc := 22) (tgt := 70) dX12_outFed_22 (by decide) (fun c_1 => ?_) (fun c_1 => absurd (nI_le (a := D.length) (b := k) (by omega) (by omega)) c_1)
    obtain rfl : k = D.length := by omega
    exact kk h2 ψ2 S2 hK hJ hF
  | succ dd ih =>
    intro k hd h2 ψ2 S2 hK hJ hF
    have K0_2 := K0.fr hK (by decide) (by decide) (by decide) (by decide)
    refine R_iload_n (pc := 17) 0 dX12_outFed_17 rfl rfl ?_
    refine R_aload_n (pc := 18) 1 dX12_outFed_18 rfl rfl ?_
    refine R_get (pc := 19) dX12_outFed_19 fX12_130 S2.obj (by omega) rfl ?_
    refine R_eqi (y := nI D.length) (hi3) ?_
    refine R_icmp_ge (pc := 22) (tgt := 70) dX12_outFed_22 (by decide) (fun c_1 => absurd c_1 (nI_ge (a := k) (b := D.length) (by omega) (by omega))) (fun c_1 => ?_)
    refine R_iload_n (pc := 25) 0 dX12_outFed_25 rfl rfl ?_
    refine R_bipush (pc := 26) (v := 16) dX12_outFed_26 (by decide) ?_
    refine R_irem (pc := 28) dX12_outFed_28 (by decide) ?_
    refine R_eqi (y := nI (k % 16)) (nI_rem (a := k) (b := 16) (by omega) (by omega)) ?_
    refine R_if_ne (pc := 29) (tgt := 42) dX12_outFed_29 (by decide) (fun c_2 => ?_) (fun c_2 => ?_)
    · skip
      have nc_2 : ¬ (k % 16 = 0) := fun q_ => c_2 ((nI_eq (a := k % 16) (b := 0) (by omega) (by omega)).mpr q_)
      refine R_aload_n (pc := 42) 1 dX12_outFed_42 rfl rfl ?_
      refine R_get (pc := 43) dX12_outFed_43 fX12_44 S2.obj (by omega) rfl ?_
      refine R_iload_n (pc := 46) 0 dX12_outFed_46 rfl rfl ?_
      refine R_aload_n (pc := 47) 1 dX12_outFed_47 rfl rfl ?_
      refine R_get (pc := 48) dX12_outFed_48 fX12_41 S2.obj (by omega) rfl ?_
      refine R_iload_n (pc := 51) 0 dX12_outFed_51 rfl rfl ?_
      refine R_iald' (pc := 52) (j := k) dX12_outFed_52 (S2.arr (p := 71) rfl) (by omega) ⟨rfl, by show k < 700; omega, by decide⟩ ?_
      refine R_eqi (y := oc (ψ2 71 k)) rfl ?_
      refine R_aload_n (pc := 53) 1 dX12_outFed_53 rfl rfl ?_
      refine R_get (pc := 54) dX12_outFed_54 fX12_53 S2.obj (by omega) rfl ?_
      refine R_iload_n (pc := 57) 0 dX12_outFed_57 rfl rfl ?_
      refine R_bipush (pc := 58) (v := 16) dX12_outFed_58 (by decide) ?_
      refine R_irem (pc := 60) dX12_outFed_60 (by decide) ?_
      refine R_eqi (y := nI (k % 16)) (nI_rem (a := k) (b := 16) (by omega) (by omega)) ?_
      refine R_iald' (pc := 61) (j := k % 16) dX12_outFed_61 (S2.arr (p := 75) rfl) (by omega) ⟨rfl, by show k % 16 < 16; omega, by decide⟩ ?_
      refine R_eqi (y := oc (ψ2 75 (k % 16))) rfl ?_
      refine R_ixor (pc := 62) dX12_outFed_62 ?_
      refine R_eqi (y := oc ((ψ2 71 k) ^^^ (ψ2 75 (k % 16)))) (oc_xor _ _) ?_
      refine R_iast' (pc := 63) (j := k) dX12_outFed_63 (S2.arr (p := 72) rfl) (by omega) ⟨rfl, by show k < 700; omega, by decide⟩ (fun h_3 f_4 g_5 => ?_)
      have S_7 : MO h_3 (uo ψ2 72 (updB (ψ2 72) k ((ψ2 71 k) ^^^ (ψ2 75 (k % 16))))) z i := MO.setA (p := 72) S2 rfl f_4 g_5 (fun j_ => congrFun (upd_oc _ _ _) j_)
      have F_6 := fmA (p := 72) (okA_c (by decide)).1 g_5
      refine R_iinc (pc := 64) (j := 0) (v := nI (k + 1)) (lv' := [(1, .int (nI (k + 1))), (0, .ref 61)]) dX12_outFed_64 rfl (nI_add _ _) (by decide) rfl ?_
      refine R_goto (pc := 67) (tgt := 17) dX12_outFed_67 (by decide) ?_
      refine R_sub [0, 1] rfl ?_
      have e71 : ψ2 71 = ψ 71 := hK 71 (by decide)
      have eD : ψ2 71 k = og D k := by rw [e71, ← hs _ (by omega), Nat.zero_add]
      have eR : gt (ψ2 75) 0 = F (stN (toS F D) x (k / 16)).1 := by rw [hJ.2, show (k + 15) / 16 = k / 16 + 1 by omega]; rfl
      have j1 : ∀ j, j < k + 1 → (updB (ψ2 72) k ((ψ2 71 k) ^^^ (ψ2 75 (k % 16)))) j = og D j ^^^ ob (F (stN (toS F D) x (j / 16)).1) (j % 16) := by
        intro j_ hj_
        by_cases q_ : j_ = k
        · rw [q_, updB_s, eD, gt_at0 eR (by omega)]
        · rw [updB_n q_]; exact hJ.1 j_ (by omega)
      have j2 : gt (ψ2 75) 0 = (stN (toS F D) x ((k + 1 + 15) / 16)).1 := by rw [eR, show (k + 1 + 15) / 16 = k / 16 + 1 by omega]; rfl
      exact ih (k + 1) (by omega) h_3 _ S_7 (hK.up (by decide)) (⟨j1, j2⟩) (hF.tr F_6)
    · skip
      have nc_2 : k % 16 = 0 := (nI_eq (a := k % 16) (b := 0) (by omega) (by omega)).mp c_2
      refine R_aload_n (pc := 32) 1 dX12_outFed_32 rfl rfl ?_
      refine R_iconst (pc := 33) (v := 0) dX12_outFed_33 (by decide) ?_
      refine R_aload_n (pc := 34) 1 dX12_outFed_34 rfl rfl ?_
      refine R_get (pc := 35) dX12_outFed_35 fX12_53 S2.obj (by omega) rfl ?_
      refine R_iconst (pc := 38) (v := 0) dX12_outFed_38 (by decide) ?_
      refine R_callVh (pc := 39) (μ' := mX12_sealBlock) (As := [.int (nI 0), .ref 75, .int (nI 0)]) (st := []) dX12_outFed_39 zX12_sealBlock lX12_146 ⟨by decide, by decide⟩ rfl rfl ⟨by decide, by decide⟩ S2.obj (by omega) rfl (Nat.le_of_ble_eq_true rfl) (oX12_sealBlock S2 hn K0_2 (p := 75) rfl 0 (by show 0 + 16 ≤ 16; omega)) (fun h_8 r_ q_9 => ?_)
      obtain ⟨rfl, S_10, F_11⟩ := q_9
      have S_12 : MO h_8 (uo ψ2 75 (pt (ψ2 75) 0 (F (gt (ψ2 75) 0)))) z i := S_10
      refine R_aload_n (pc := 42) 1 dX12_outFed_42 rfl rfl ?_
      refine R_get (pc := 43) dX12_outFed_43 fX12_44 S_12.obj (by omega) rfl ?_
      refine R_iload_n (pc := 46) 0 dX12_outFed_46 rfl rfl ?_
      refine R_aload_n (pc := 47) 1 dX12_outFed_47 rfl rfl ?_
      refine R_get (pc := 48) dX12_outFed_48 fX12_41 S_12.obj (by omega) rfl ?_
      refine R_iload_n (pc := 51) 0 dX12_outFed_51 rfl rfl ?_
      refine R_iald' (pc := 52) (j := k) dX12_outFed_52 (S_12.arr (p := 71) rfl) (by omega) ⟨rfl, by show k < 700; omega, by decide⟩ ?_
      refine R_eqi (y := oc (ψ2 71 k)) rfl ?_
      refine R_aload_n (pc := 53) 1 dX12_outFed_53 rfl rfl ?_
      refine R_get (pc := 54) dX12_outFed_54 fX12_53 S_12.obj (by omega) rfl ?_
      refine R_iload_n (pc := 57) 0 dX12_outFed_57 rfl rfl ?_
      refine R_bipush (pc := 58) (v := 16) dX12_outFed_58 (by decide) ?_
      refine R_irem (pc := 60) dX12_outFed_60 (by decide) ?_
      refine R_eqi (y := nI (k % 16)) (nI_rem (a := k) (b := 16) (by omega) (by omega)) ?_
      refine R_iald' (pc := 61) (j := k % 16) dX12_outFed_61 (S_12.arr (p := 75) rfl) (by omega) ⟨rfl, by show k % 16 < 16; omega, by decide⟩ ?_
      refine R_eqi (y := oc ((pt (ψ2 75) 0 (F (gt (ψ2 75) 0))) (k % 16))) rfl ?_
      refine R_ixor (pc := 62) dX12_outFed_62 ?_
      refine R_eqi (y := oc ((ψ2 71 k) ^^^ ((pt (ψ2 75) 0 (F (gt (ψ2 75) 0))) (k % 16)))) (oc_xor _ _) ?_
      refine R_iast' (pc := 63) (j := k) dX12_outFed_63 (S_12.arr (p := 72) rfl) (by omega) ⟨rfl, by show k < 700; omega, by decide⟩ (fun h_13 f_14 g_15 => ?_)
      have S_17 : MO h_13 (uo (uo ψ2 75 (pt (ψ2 75) 0 (F (gt (ψ2 75) 0)))) 72 (updB (ψ2 72) k ((ψ2 71 k) ^^^ ((pt (ψ2 75) 0 (F (gt (ψ2 75) 0))) (k % 16))))) z i := MO.setA (p := 72) S_12 rfl f_14 g_15 (fun j_ => congrFun (upd_oc _ _ _) j_)
      have F_16 := fmA (p := 72) (okA_c (by decide)).1 g_15
      refine R_iinc (pc := 64) (j := 0) (v := nI (k + 1)) (lv' := [(1, .int (nI (k + 1))), (0, .ref 61)]) dX12_outFed_64 rfl (nI_add _ _) (by decide) rfl ?_
      refine R_goto (pc := 67) (tgt := 17) dX12_outFed_67 (by decide) ?_
      refine R_sub [0, 1] rfl ?_
      have e71 : ψ2 71 = ψ 71 := hK 71 (by decide)
      have eD : ψ2 71 k = og D k := by rw [e71, ← hs _ (by omega), Nat.zero_add]
      have eX : gt (ψ2 75) 0 = (stN (toS F D) x (k / 16)).1 := by rw [hJ.2, show (k + 15) / 16 = k / 16 by omega]
      have eR : gt (pt (ψ2 75) 0 (F (gt (ψ2 75) 0))) 0 = F (stN (toS F D) x (k / 16)).1 := by simp only [gt_pt, pt_pt]; rw [eX]
      have j1 : ∀ j, j < k + 1 → (updB (ψ2 72) k ((ψ2 71 k) ^^^ ((pt (ψ2 75) 0 (F (gt (ψ2 75) 0))) (k % 16)))) j = og D j ^^^ ob (F (stN (toS F D) x (j / 16)).1) (j % 16) := by
        intro j_ hj_
        by_cases q_ : j_ = k
        · rw [q_, updB_s, eD, gt_at0 eR (by omega)]
        · rw [updB_n q_]; exact hJ.1 j_ (by omega)
      have j2 : gt (pt (ψ2 75) 0 (F (gt (ψ2 75) 0))) 0 = (stN (toS F D) x ((k + 1 + 15) / 16)).1 := by rw [eR, show (k + 1 + 15) / 16 = k / 16 + 1 by omega]; rfl
      exact ih (k + 1) (by omega) h_13 _ S_17 ((hK.up (by decide)).up (by decide)) (⟨j1, j2⟩) (hF.tr (F_11.tr F_16))
set_option maxHeartbeats 4000000 in
set_option maxRecDepth 100000 in
theorem oX12_outFed {l : Launch} {w : am_W} {h : am_H} {n : Nat} {ψ : Nat → oA} {z : fA} {i : mI} (S : MO h ψ z i) (hn : 90 ≤ n) (D : List (BitVec 8)) (hD : D.length ≤ 512) (hi3 : i 3 = nI D.length) {F G : bP → bP} (K0 : Kh ψ 0 F G) (hs : sg (ψ 71) 0 D) : RH l w mX12_outFed h n [.ref 61] (fun h2 q => ∃ ψ2, q = none ∧ MO h2 ψ2 z (ui i 4 (nI D.length)) ∧ FR [72, 75] ψ ψ2 ∧ sg (ψ2 72) 0 (stN (toS F D) (gt (ψ 73) 0) (nbk D)).2 ∧ FM h h2) := by
  refine RC.of [(0, .ref 61)] (by decide +kernel) rfl (Nat.le_of_ble_eq_true rfl) ?_
  refine R_aload_n (pc := 0) 0 dX12_outFed_0 rfl rfl ?_
  refine R_get (pc := 1) dX12_outFed_1 fX12_47 S.obj (by omega) rfl ?_
  refine R_iconst (pc := 4) (v := 0) dX12_outFed_4 (by decide) ?_
  refine R_aload_n (pc := 5) 0 dX12_outFed_5 rfl rfl ?_
  refine R_get (pc := 6) dX12_outFed_6 fX12_53 S.obj (by omega) rfl ?_
  refine R_iconst (pc := 9) (v := 0) dX12_outFed_9 (by decide) ?_
  refine R_bipush (pc := 10) (v := 16) dX12_outFed_10 (by decide) ?_
  refine R_callSh (pc := 12) (μ' := mX12_copy) (As := [.ref 73, .int (nI 0), .ref 75, .int (nI 0), .int 16]) (st := []) dX12_outFed_12 zX12_copy lX12_133 ⟨by decide, by decide⟩ rfl rfl ⟨by decide, by decide⟩ rfl (Nat.le_of_ble_eq_true rfl) (oX12_copy16 S hn (p := 73) (q := 75) rfl rfl 0 0 (by show 0 + 16 ≤ 64; omega) (by show 0 + 16 ≤ 16; omega) (by decide)) (fun h_1 r_ q_2 => ?_)
  obtain ⟨rfl, S_3, F_4⟩ := q_2
  have S_5 : MO h_1 (uo ψ 75 (pt (ψ 75) 0 (gt (ψ 73) 0))) z i := S_3
  refine R_iconst (pc := 15) (v := 0) dX12_outFed_15 (by decide) ?_
  refine R_istore_n (pc := 16) (lv' := [(1, .int 0), (0, .ref 61)]) dX12_outFed_16 rfl (by decide) rfl ?_
  refine R_sub [0, 1] rfl ?_
  refine qX12_outFed_loop (h := h) (ψ := (uo ψ 75 (pt (ψ 75) 0 (gt (ψ 73) 0)))) hn D hD hi3 (K0.uo (by decide)) hs (gt (ψ 73) 0) (fun h2 ψ2 S2 hK hJ hF => ?_) D.length 0 (by omega) h_1 _ S_5 (FR.rf _ _) ⟨fun j_ hj_ => absurd hj_ (Nat.not_lt_zero j_), gt_pt _ _ _⟩ F_4
  refine R_aload_n (pc := 70) 1 dX12_outFed_70 rfl rfl ?_
  refine R_aload_n (pc := 71) 1 dX12_outFed_71 rfl rfl ?_
  refine R_get (pc := 72) dX12_outFed_72 fX12_130 S2.obj (by omega) rfl ?_
  refine R_eqi (y := nI D.length) (hi3) ?_
  refine R_put' (pc := 75) (fs' := [.int (i 0), .ref 62, .ref 63, .int (i 1), .ref 64, .int (i 2), .ref 65, .ref 66, .ref 67, .ref 68, .ref 69, .ref 70, .ref 71, .int (i 3), .ref 72, .int (nI D.length), .ref 73, .int (i 5), .ref 74, .int (i 6), .ref 75, .ref 76, .ref 77, .ref 78, .ref 79, .ref 80, .ref 81, .ref 82, .ref 83, .ref 84, .int (i 7), .ref 85, .ref 86, .ref 87, .ref 88, .ref 89, .ref 90]) dX12_outFed_75 fX12_153 tX12_15 rfl rfl S2.obj (by omega) (Nat.le_of_ble_eq_true rfl) rfl (fun h_6 f_7 g_8 => ?_)
  have S_9 : MO h_6 ψ2 z (ui i 4 (nI D.length)) := MO.setI (j := (ui i 4 (nI D.length))) S2 f_7 g_8
  have F_10 := fmI g_8
  exact R_vreturn (pc := 78) dX12_outFed_78 rfl (by decide) (by decide) ⟨rfl, ψ2, rfl, S_9, (((FR.rf _ _).up (by decide)).tr hK (by decide)), stN_sg (H := F) (fun _ _ => rfl) (fun j_ hj_ => by rw [Nat.zero_add]; exact hJ.1 j_ hj_), (hF.tr F_10)⟩
def feJ (op : Int32) (F : bP → bP) (D : List (BitVec 8)) (x : bP) (ψ2 : Nat → oA) (k : Nat) : Prop := (∀ j, j < k → ψ2 72 j = og D j ^^^ ob (F (stN (fbS F op D) x (j / 16)).1) (j % 16)) ∧ (k % 16 = 0 → gt (ψ2 75) 0 = (stN (fbS F op D) x (k / 16)).1) ∧ (k % 16 ≠ 0 → ∀ j, j < 16 → ψ2 75 j = if j < k % 16 then ob (stN (fbS F op D) x (k / 16 + 1)).1 j else ob (F (stN (fbS F op D) x (k / 16)).1) j)
set_option maxHeartbeats 4000000 in
set_option maxRecDepth 100000 in
theorem qX12_fed_sloop {l : Launch} {w : am_W} {h : am_H} {n : Nat} {ψ : Nat → oA} {z : fA} {i : mI} (hn : 90 ≤ n) (D : List (BitVec 8)) (hD : D.length ≤ 512) (hi3 : i 3 = nI D.length) {F G : bP → bP} (K0 : Kh ψ 0 F G) (hs : sg (ψ 71) 0 D) (x : bP) {Q : am_H → Nat → Option Value → Prop} (kk : ∀ h2 ψ2, MO h2 ψ2 z i → FR [72, 75] ψ ψ2 → feJ 0 F D x ψ2 D.length → FM h h2 → RW l w mX12_fed h2 n 0 0 98 [(2, .int (nI D.length)), (0, .ref 61), (1, .int 0)] [] Q) : ∀ (dd k : Nat), k + dd = D.length → ∀ h2 ψ2, MO h2 ψ2 z i → FR [72, 75] ψ ψ2 → feJ 0 F D x ψ2 k → FM h h2 → RW l w mX12_fed h2 n 0 0 17 [(2, .int (nI k)), (0, .ref 61), (1, .int 0)] [] Q := by
  intro dd
  induction dd with
  | zero =>
    intro k hd h2 ψ2 S2 hK hJ hF
    refine R_iload_n (pc := 17) 0 dX12_fed_17 rfl rfl ?_
    refine R_aload_n (pc := 18) 1 dX12_fed_18 rfl rfl ?_
    refine R_get (pc := 19) dX12_fed_19 fX12_130 S2.obj (by omega) rfl ?_
    refine R_eqi (y := nI D.length) (hi3) ?_
    refine R_icmp_ge (pc := 22) (tgt := 98) dX12_fed_22 (by decide) (fun c_1 => ?_) (fun c_1 => absurd (nI_le (a := D.length) (b := k) (by omega) (by omega)) c_1)
    obtain rfl : k = D.length := by omega
    exact kk h2 ψ2 S2 hK hJ hF
  | succ dd ih =>
    intro k hd h2 ψ2 S2 hK hJ hF
    have K0_2 := K0.fr hK (by decide) (by decide) (by decide) (by decide)
    refine R_iload_n (pc := 17) 0 dX12_fed_17 rfl rfl ?_
    refine R_aload_n (pc := 18) 1 dX12_fed_18 rfl rfl ?_
    refine R_get (pc := 19) dX12_fed_19 fX12_130 S2.obj (by omega) rfl ?_
    refine R_eqi (y := nI D.length) (hi3) ?_
    refine R_icmp_ge (pc := 22) (tgt := 98) dX12_fed_22 (by decide) (fun c_1 => absurd c_1 (nI_ge (a := k) (b := D.length) (by omega) (by omega))) (fun c_1 => ?_)
    refine R_iload_n (pc := 25) 0 dX12_fed_25 rfl rfl ?_
    refine R_bipush (pc := 26) (v := 16) dX12_fed_26 (by decide) ?_
    refine R_irem (pc := 28) dX12_fed_28 (by decide) ?_
    refine R_eqi (y := nI (k % 16)) (nI_rem (a := k) (b := 16) (by omega) (by omega)) ?_
    refine R_if_ne (pc := 29) (tgt := 42) dX12_fed_29 (by decide) (fun c_2 => ?_) (fun c_2 => ?_)
    · skip
      have nc_2 : ¬ (k % 16 = 0) := fun q_ => c_2 ((nI_eq (a := k % 16) (b := 0) (by omega) (by omega)).mpr q_)
      refine R_aload_n (pc := 42) 1 dX12_fed_42 rfl rfl ?_
      refine R_get (pc := 43) dX12_fed_43 fX12_44 S2.obj (by omega) rfl ?_
      refine R_iload_n (pc := 46) 0 dX12_fed_46 rfl rfl ?_
      refine R_aload_n (pc := 47) 1 dX12_fed_47 rfl rfl ?_
      refine R_get (pc := 48) dX12_fed_48 fX12_41 S2.obj (by omega) rfl ?_
      refine R_iload_n (pc := 51) 0 dX12_fed_51 rfl rfl ?_
      refine R_iald' (pc := 52) (j := k) dX12_fed_52 (S2.arr (p := 71) rfl) (by omega) ⟨rfl, by show k < 700; omega, by decide⟩ ?_
      refine R_eqi (y := oc (ψ2 71 k)) rfl ?_
      refine R_aload_n (pc := 53) 1 dX12_fed_53 rfl rfl ?_
      refine R_get (pc := 54) dX12_fed_54 fX12_53 S2.obj (by omega) rfl ?_
      refine R_iload_n (pc := 57) 0 dX12_fed_57 rfl rfl ?_
      refine R_bipush (pc := 58) (v := 16) dX12_fed_58 (by decide) ?_
      refine R_irem (pc := 60) dX12_fed_60 (by decide) ?_
      refine R_eqi (y := nI (k % 16)) (nI_rem (a := k) (b := 16) (by omega) (by omega)) ?_
      refine R_iald' (pc := 61) (j := k % 16) dX12_fed_61 (S2.arr (p := 75) rfl) (by omega) ⟨rfl, by show k % 16 < 16; omega, by decide⟩ ?_
      refine R_eqi (y := oc (ψ2 75 (k % 16))) rfl ?_
      refine R_ixor (pc := 62) dX12_fed_62 ?_
      refine R_eqi (y := oc ((ψ2 71 k) ^^^ (ψ2 75 (k % 16)))) (oc_xor _ _) ?_
      refine R_iast' (pc := 63) (j := k) dX12_fed_63 (S2.arr (p := 72) rfl) (by omega) ⟨rfl, by show k < 700; omega, by decide⟩ (fun h_3 f_4 g_5 => ?_)
      have S_7 : MO h_3 (uo ψ2 72 (updB (ψ2 72) k ((ψ2 71 k) ^^^ (ψ2 75 (k % 16))))) z i := MO.setA (p := 72) S2 rfl f_4 g_5 (fun j_ => congrFun (upd_oc _ _ _) j_)
      have F_6 := fmA (p := 72) (okA_c (by decide)).1 g_5
      refine R_aload_n (pc := 64) 1 dX12_fed_64 rfl rfl ?_
      refine R_get (pc := 65) dX12_fed_65 fX12_53 S_7.obj (by omega) rfl ?_
      refine R_iload_n (pc := 68) 0 dX12_fed_68 rfl rfl ?_
      refine R_bipush (pc := 69) (v := 16) dX12_fed_69 (by decide) ?_
      refine R_irem (pc := 71) dX12_fed_71 (by decide) ?_
      refine R_eqi (y := nI (k % 16)) (nI_rem (a := k) (b := 16) (by omega) (by omega)) ?_
      refine R_iload_n (pc := 72) 2 dX12_fed_72 rfl rfl ?_
      refine R_if_eq (pc := 73) (tgt := 85) dX12_fed_73 (by decide) (fun c_8 => ?_) (fun c_8 => absurd (rfl) c_8)
      refine R_aload_n (pc := 85) 1 dX12_fed_85 rfl rfl ?_
      refine R_get (pc := 86) dX12_fed_86 fX12_44 S_7.obj (by omega) rfl ?_
      refine R_iload_n (pc := 89) 0 dX12_fed_89 rfl rfl ?_
      refine R_iald' (pc := 90) (j := k) dX12_fed_90 (S_7.arr (p := 72) rfl) (by omega) ⟨rfl, by show k < 700; omega, by decide⟩ ?_
      refine R_eqi (y := oc ((updB (ψ2 72) k ((ψ2 71 k) ^^^ (ψ2 75 (k % 16)))) k)) rfl ?_
      refine R_iast' (pc := 91) (j := k % 16) dX12_fed_91 (S_7.arr (p := 75) rfl) (by omega) ⟨rfl, by show k % 16 < 16; omega, by decide⟩ (fun h_9 f_10 g_11 => ?_)
      have S_13 : MO h_9 (uo (uo ψ2 72 (updB (ψ2 72) k ((ψ2 71 k) ^^^ (ψ2 75 (k % 16))))) 75 (updB (ψ2 75) (k % 16) ((updB (ψ2 72) k ((ψ2 71 k) ^^^ (ψ2 75 (k % 16)))) k))) z i := MO.setA (p := 75) S_7 rfl f_10 g_11 (fun j_ => congrFun (upd_oc _ _ _) j_)
      have F_12 := fmA (p := 75) (okA_c (by decide)).1 g_11
      refine R_iinc (pc := 92) (j := 0) (v := nI (k + 1)) (lv' := [(2, .int (nI (k + 1))), (0, .ref 61), (1, .int 0)]) dX12_fed_92 rfl (nI_add _ _) (by decide) rfl ?_
      refine R_goto (pc := 95) (tgt := 17) dX12_fed_95 (by decide) ?_
      refine R_sub [0, 1, 2] rfl ?_
      have e71 : ψ2 71 = ψ 71 := hK 71 (by decide)
      have eD : ψ2 71 k = og D k := by rw [e71, ← hs _ (by omega), Nat.zero_add]
      have e0 : ∀ j, j < 16 → (ψ2 75) j = if j < k % 16 then ob (stN (fbS F 0 D) x (k / 16 + 1)).1 j else ob (F (stN (fbS F 0 D) x (k / 16)).1) j := by
        exact hJ.2.2 nc_2
      have ek : (ψ2 75) (k % 16) = ob (F (stN (fbS F 0 D) x (k / 16)).1) (k % 16) := by rw [e0 _ (by omega), if_neg (by omega)]
      have j1 : ∀ j, j < k + 1 → (updB (ψ2 72) k ((ψ2 71 k) ^^^ (ψ2 75 (k % 16)))) j = og D j ^^^ ob (F (stN (fbS F 0 D) x (j / 16)).1) (j % 16) := by
        intro j_ hj_
        by_cases q_ : j_ = k
        · rw [q_, updB_s, eD, ek]
        · rw [updB_n q_]; exact hJ.1 j_ (by omega)
      have en : ob (stN (fbS F 0 D) x (k / 16 + 1)).1 (k % 16) = og D k ^^^ ob (F (stN (fbS F 0 D) x (k / 16)).1) (k % 16) := by
        show ob (if (0 : Int32) = 0 then xb (rd D (16 * (k / 16))) (F (stN (fbS F 0 D) x (k / 16)).1) else rd D (16 * (k / 16))) (k % 16) = _
        rw [if_pos rfl, ob_xb _ _ (by omega), ob_rd _ _ (by omega), show 16 * (k / 16) + k % 16 = k by omega]
      have er : ∀ j, j < 16 → (updB (ψ2 75) (k % 16) ((updB (ψ2 72) k ((ψ2 71 k) ^^^ (ψ2 75 (k % 16)))) k)) j = if j < k % 16 + 1 then ob (stN (fbS F 0 D) x (k / 16 + 1)).1 j else ob (F (stN (fbS F 0 D) x (k / 16)).1) j := by
        intro j_ hj_
        by_cases q_ : j_ = k % 16
        · rw [q_, updB_s, if_pos (by omega), en, updB_s, eD, ek]
        · rw [updB_n q_, e0 _ hj_]
          by_cases q2_ : j_ < k % 16
          · rw [if_pos q2_, if_pos (by omega)]
          · rw [if_neg q2_, if_neg (by omega)]
      have j2 : (k + 1) % 16 = 0 → gt (updB (ψ2 75) (k % 16) ((updB (ψ2 72) k ((ψ2 71 k) ^^^ (ψ2 75 (k % 16)))) k)) 0 = (stN (fbS F 0 D) x ((k + 1) / 16)).1 := fun q_ => ob_ext fun j_ hj_ => by rw [ob_gt _ _ hj_, Nat.zero_add, er _ hj_, if_pos (by omega), show (k + 1) / 16 = k / 16 + 1 by omega]
      have j3 : (k + 1) % 16 ≠ 0 → ∀ j, j < 16 → (updB (ψ2 75) (k % 16) ((updB (ψ2 72) k ((ψ2 71 k) ^^^ (ψ2 75 (k % 16)))) k)) j = if j < (k + 1) % 16 then ob (stN (fbS F 0 D) x ((k + 1) / 16 + 1)).1 j else ob (F (stN (fbS F 0 D) x ((k + 1) / 16)).1) j := fun q_ j_ hj_ => by rw [er _ hj_, show (k + 1) / 16 = k / 16 by omega, show (k + 1) % 16 = k % 16 + 1 by omega]
      exact ih (k + 1) (by omega) h_9 _ S_13 ((hK.up (by decide)).up (by decide)) (⟨j1, j2, j3⟩) (hF.tr (F_6.tr F_12))
    · skip
      have nc_2 : k % 16 = 0 := (nI_eq (a := k % 16) (b := 0) (by omega) (by omega)).mp c_2
      refine R_aload_n (pc := 32) 1 dX12_fed_32 rfl rfl ?_
      refine R_iconst (pc := 33) (v := 0) dX12_fed_33 (by decide) ?_
      refine R_aload_n (pc := 34) 1 dX12_fed_34 rfl rfl ?_
      refine R_get (pc := 35) dX12_fed_35 fX12_53 S2.obj (by omega) rfl ?_
      refine R_iconst (pc := 38) (v := 0) dX12_fed_38 (by decide) ?_
      refine R_callVh (pc := 39) (μ' := mX12_sealBlock) (As := [.int (nI 0), .ref 75, .int (nI 0)]) (st := []) dX12_fed_39 zX12_sealBlock lX12_146 ⟨by decide, by decide⟩ rfl rfl ⟨by decide, by decide⟩ S2.obj (by omega) rfl (Nat.le_of_ble_eq_true rfl) (oX12_sealBlock S2 hn K0_2 (p := 75) rfl 0 (by show 0 + 16 ≤ 16; omega)) (fun h_14 r_ q_15 => ?_)
      obtain ⟨rfl, S_16, F_17⟩ := q_15
      have S_18 : MO h_14 (uo ψ2 75 (pt (ψ2 75) 0 (F (gt (ψ2 75) 0)))) z i := S_16
      refine R_aload_n (pc := 42) 1 dX12_fed_42 rfl rfl ?_
      refine R_get (pc := 43) dX12_fed_43 fX12_44 S_18.obj (by omega) rfl ?_
      refine R_iload_n (pc := 46) 0 dX12_fed_46 rfl rfl ?_
      refine R_aload_n (pc := 47) 1 dX12_fed_47 rfl rfl ?_
      refine R_get (pc := 48) dX12_fed_48 fX12_41 S_18.obj (by omega) rfl ?_
      refine R_iload_n (pc := 51) 0 dX12_fed_51 rfl rfl ?_
      refine R_iald' (pc := 52) (j := k) dX12_fed_52 (S_18.arr (p := 71) rfl) (by omega) ⟨rfl, by show k < 700; omega, by decide⟩ ?_
      refine R_eqi (y := oc (ψ2 71 k)) rfl ?_
      refine R_aload_n (pc := 53) 1 dX12_fed_53 rfl rfl ?_
      refine R_get (pc := 54) dX12_fed_54 fX12_53 S_18.obj (by omega) rfl ?_
      refine R_iload_n (pc := 57) 0 dX12_fed_57 rfl rfl ?_
      refine R_bipush (pc := 58) (v := 16) dX12_fed_58 (by decide) ?_
      refine R_irem (pc := 60) dX12_fed_60 (by decide) ?_
      refine R_eqi (y := nI (k % 16)) (nI_rem (a := k) (b := 16) (by omega) (by omega)) ?_
      refine R_iald' (pc := 61) (j := k % 16) dX12_fed_61 (S_18.arr (p := 75) rfl) (by omega) ⟨rfl, by show k % 16 < 16; omega, by decide⟩ ?_
      refine R_eqi (y := oc ((pt (ψ2 75) 0 (F (gt (ψ2 75) 0))) (k % 16))) rfl ?_
      refine R_ixor (pc := 62) dX12_fed_62 ?_
      refine R_eqi (y := oc ((ψ2 71 k) ^^^ ((pt (ψ2 75) 0 (F (gt (ψ2 75) 0))) (k % 16)))) (oc_xor _ _) ?_
      refine R_iast' (pc := 63) (j := k) dX12_fed_63 (S_18.arr (p := 72) rfl) (by omega) ⟨rfl, by show k < 700; omega, by decide⟩ (fun h_19 f_20 g_21 => ?_)
      have S_23 : MO h_19 (uo (uo ψ2 75 (pt (ψ2 75) 0 (F (gt (ψ2 75) 0)))) 72 (updB (ψ2 72) k ((ψ2 71 k) ^^^ ((pt (ψ2 75) 0 (F (gt (ψ2 75) 0))) (k % 16))))) z i := MO.setA (p := 72) S_18 rfl f_20 g_21 (fun j_ => congrFun (upd_oc _ _ _) j_)
      have F_22 := fmA (p := 72) (okA_c (by decide)).1 g_21
      refine R_aload_n (pc := 64) 1 dX12_fed_64 rfl rfl ?_
      refine R_get (pc := 65) dX12_fed_65 fX12_53 S_23.obj (by omega) rfl ?_
      refine R_iload_n (pc := 68) 0 dX12_fed_68 rfl rfl ?_
      refine R_bipush (pc := 69) (v := 16) dX12_fed_69 (by decide) ?_
      refine R_irem (pc := 71) dX12_fed_71 (by decide) ?_
      refine R_eqi (y := nI (k % 16)) (nI_rem (a := k) (b := 16) (by omega) (by omega)) ?_
      refine R_iload_n (pc := 72) 2 dX12_fed_72 rfl rfl ?_
      refine R_if_eq (pc := 73) (tgt := 85) dX12_fed_73 (by decide) (fun c_24 => ?_) (fun c_24 => absurd (rfl) c_24)
      refine R_aload_n (pc := 85) 1 dX12_fed_85 rfl rfl ?_
      refine R_get (pc := 86) dX12_fed_86 fX12_44 S_23.obj (by omega) rfl ?_
      refine R_iload_n (pc := 89) 0 dX12_fed_89 rfl rfl ?_
      refine R_iald' (pc := 90) (j := k) dX12_fed_90 (S_23.arr (p := 72) rfl) (by omega) ⟨rfl, by show k < 700; omega, by decide⟩ ?_
      refine R_eqi (y := oc ((updB (ψ2 72) k ((ψ2 71 k) ^^^ ((pt (ψ2 75) 0 (F (gt (ψ2 75) 0))) (k % 16)))) k)) rfl ?_
      refine R_iast' (pc := 91) (j := k % 16) dX12_fed_91 (S_23.arr (p := 75) rfl) (by omega) ⟨rfl, by show k % 16 < 16; omega, by decide⟩ (fun h_25 f_26 g_27 => ?_)
      have S_29 : MO h_25 (uo (uo (uo ψ2 75 (pt (ψ2 75) 0 (F (gt (ψ2 75) 0)))) 72 (updB (ψ2 72) k ((ψ2 71 k) ^^^ ((pt (ψ2 75) 0 (F (gt (ψ2 75) 0))) (k % 16))))) 75 (updB (pt (ψ2 75) 0 (F (gt (ψ2 75) 0))) (k % 16) ((updB (ψ2 72) k ((ψ2 71 k) ^^^ ((pt (ψ2 75) 0 (F (gt (ψ2 75) 0))) (k % 16)))) k))) z i := MO.setA (p := 75) S_23 rfl f_26 g_27 (fun j_ => congrFun (upd_oc _ _ _) j_)
      have F_28 := fmA (p := 75) (okA_c (by decide)).1 g_27
      refine R_iinc (pc := 92) (j := 0) (v := nI (k + 1)) (lv' := [(2, .int (nI (k + 1))), (0, .ref 61), (1, .int 0)]) dX12_fed_92 rfl (nI_add _ _) (by decide) rfl ?_
      refine R_goto (pc := 95) (tgt := 17) dX12_fed_95 (by decide) ?_
      refine R_sub [0, 1, 2] rfl ?_
      have e71 : ψ2 71 = ψ 71 := hK 71 (by decide)
      have eD : ψ2 71 k = og D k := by rw [e71, ← hs _ (by omega), Nat.zero_add]
      have e0 : ∀ j, j < 16 → (pt (ψ2 75) 0 (F (gt (ψ2 75) 0))) j = if j < k % 16 then ob (stN (fbS F 0 D) x (k / 16 + 1)).1 j else ob (F (stN (fbS F 0 D) x (k / 16)).1) j := by
        intro j_ hj_; rw [if_neg (by omega), hJ.2.1 nc_2, pt_at0 _ _ hj_]
      have ek : (pt (ψ2 75) 0 (F (gt (ψ2 75) 0))) (k % 16) = ob (F (stN (fbS F 0 D) x (k / 16)).1) (k % 16) := by rw [e0 _ (by omega), if_neg (by omega)]
      have j1 : ∀ j, j < k + 1 → (updB (ψ2 72) k ((ψ2 71 k) ^^^ ((pt (ψ2 75) 0 (F (gt (ψ2 75) 0))) (k % 16)))) j = og D j ^^^ ob (F (stN (fbS F 0 D) x (j / 16)).1) (j % 16) := by
        intro j_ hj_
        by_cases q_ : j_ = k
        · rw [q_, updB_s, eD, ek]
        · rw [updB_n q_]; exact hJ.1 j_ (by omega)
      have en : ob (stN (fbS F 0 D) x (k / 16 + 1)).1 (k % 16) = og D k ^^^ ob (F (stN (fbS F 0 D) x (k / 16)).1) (k % 16) := by
        show ob (if (0 : Int32) = 0 then xb (rd D (16 * (k / 16))) (F (stN (fbS F 0 D) x (k / 16)).1) else rd D (16 * (k / 16))) (k % 16) = _
        rw [if_pos rfl, ob_xb _ _ (by omega), ob_rd _ _ (by omega), show 16 * (k / 16) + k % 16 = k by omega]
      have er : ∀ j, j < 16 → (updB (pt (ψ2 75) 0 (F (gt (ψ2 75) 0))) (k % 16) ((updB (ψ2 72) k ((ψ2 71 k) ^^^ ((pt (ψ2 75) 0 (F (gt (ψ2 75) 0))) (k % 16)))) k)) j = if j < k % 16 + 1 then ob (stN (fbS F 0 D) x (k / 16 + 1)).1 j else ob (F (stN (fbS F 0 D) x (k / 16)).1) j := by
        intro j_ hj_
        by_cases q_ : j_ = k % 16
        · rw [q_, updB_s, if_pos (by omega), en, updB_s, eD, ek]
        · rw [updB_n q_, e0 _ hj_]
          by_cases q2_ : j_ < k % 16
          · rw [if_pos q2_, if_pos (by omega)]
          · rw [if_neg q2_, if_neg (by omega)]
      have j2 : (k + 1) % 16 = 0 → gt (updB (pt (ψ2 75) 0 (F (gt (ψ2 75) 0))) (k % 16) ((updB (ψ2 72) k ((ψ2 71 k) ^^^ ((pt (ψ2 75) 0 (F (gt (ψ2 75) 0))) (k % 16)))) k)) 0 = (stN (fbS F 0 D) x ((k + 1) / 16)).1 := fun q_ => ob_ext fun j_ hj_ => by rw [ob_gt _ _ hj_, Nat.zero_add, er _ hj_, if_pos (by omega), show (k + 1) / 16 = k / 16 + 1 by omega]
      have j3 : (k + 1) % 16 ≠ 0 → ∀ j, j < 16 → (updB (pt (ψ2 75) 0 (F (gt (ψ2 75) 0))) (k % 16) ((updB (ψ2 72) k ((ψ2 71 k) ^^^ ((pt (ψ2 75) 0 (F (gt (ψ2 75) 0))) (k % 16)))) k)) j = if j < (k + 1) % 16 then ob (stN (fbS F 0 D) x ((k + 1) / 16 + 1)).1 j else ob (F (stN (fbS F 0 D) x ((k + 1) / 16)).1) j := fun q_ j_ hj_ => by rw [er _ hj_, show (k + 1) / 16 = k / 16 by omega, show (k + 1) % 16 = k % 16 + 1 by omega]
      exact ih (k + 1) (by omega) h_25 _ S_29 (((hK.up (by decide)).up (by decide)).up (by decide)) (⟨j1, j2, j3⟩) (hF.tr ((F_17.tr F_22).tr F_28))
set_option maxHeartbeats 4000000 in
set_option maxRecDepth 100000 in
theorem oX12_fed_s {l : Launch} {w : am_W} {h : am_H} {n : Nat} {ψ : Nat → oA} {z : fA} {i : mI} (S : MO h ψ z i) (hn : 90 ≤ n) (D : List (BitVec 8)) (hD : D.length ≤ 512) (hi3 : i 3 = nI D.length) {F G : bP → bP} (K0 : Kh ψ 0 F G) (hs : sg (ψ 71) 0 D) : RH l w mX12_fed h n [.ref 61, .int 0] (fun h2 q => ∃ ψ2, q = none ∧ MO h2 ψ2 z (ui i 4 (nI D.length)) ∧ FR [72, 75] ψ ψ2 ∧ sg (ψ2 72) 0 (stN (fbS F 0 D) (gt (ψ 73) 0) (nbk D)).2 ∧ FM h h2) := by
  refine RC.of [(0, .ref 61), (1, .int 0)] (by decide +kernel) rfl (Nat.le_of_ble_eq_true rfl) ?_
  refine R_aload_n (pc := 0) 0 dX12_fed_0 rfl rfl ?_
  refine R_get (pc := 1) dX12_fed_1 fX12_47 S.obj (by omega) rfl ?_
  refine R_iconst (pc := 4) (v := 0) dX12_fed_4 (by decide) ?_
  refine R_aload_n (pc := 5) 0 dX12_fed_5 rfl rfl ?_
  refine R_get (pc := 6) dX12_fed_6 fX12_53 S.obj (by omega) rfl ?_
  refine R_iconst (pc := 9) (v := 0) dX12_fed_9 (by decide) ?_
  refine R_bipush (pc := 10) (v := 16) dX12_fed_10 (by decide) ?_
  refine R_callSh (pc := 12) (μ' := mX12_copy) (As := [.ref 73, .int (nI 0), .ref 75, .int (nI 0), .int 16]) (st := []) dX12_fed_12 zX12_copy lX12_133 ⟨by decide, by decide⟩ rfl rfl ⟨by decide, by decide⟩ rfl (Nat.le_of_ble_eq_true rfl) (oX12_copy16 S hn (p := 73) (q := 75) rfl rfl 0 0 (by show 0 + 16 ≤ 64; omega) (by show 0 + 16 ≤ 16; omega) (by decide)) (fun h_1 r_ q_2 => ?_)
  obtain ⟨rfl, S_3, F_4⟩ := q_2
  have S_5 : MO h_1 (uo ψ 75 (pt (ψ 75) 0 (gt (ψ 73) 0))) z i := S_3
  refine R_iconst (pc := 15) (v := 0) dX12_fed_15 (by decide) ?_
  refine R_istore_n (pc := 16) (lv' := [(2, .int 0), (0, .ref 61), (1, .int 0)]) dX12_fed_16 rfl (by decide) rfl ?_
  refine R_sub [0, 1, 2] rfl ?_
  refine qX12_fed_sloop (h := h) (ψ := (uo ψ 75 (pt (ψ 75) 0 (gt (ψ 73) 0)))) hn D hD hi3 (K0.uo (by decide)) hs (gt (ψ 73) 0) (fun h2 ψ2 S2 hK hJ hF => ?_) D.length 0 (by omega) h_1 _ S_5 (FR.rf _ _) ⟨fun j_ hj_ => absurd hj_ (Nat.not_lt_zero j_), fun _ => gt_pt _ _ _, fun q_ => absurd rfl q_⟩ F_4
  refine R_aload_n (pc := 98) 1 dX12_fed_98 rfl rfl ?_
  refine R_aload_n (pc := 99) 1 dX12_fed_99 rfl rfl ?_
  refine R_get (pc := 100) dX12_fed_100 fX12_130 S2.obj (by omega) rfl ?_
  refine R_eqi (y := nI D.length) (hi3) ?_
  refine R_put' (pc := 103) (fs' := [.int (i 0), .ref 62, .ref 63, .int (i 1), .ref 64, .int (i 2), .ref 65, .ref 66, .ref 67, .ref 68, .ref 69, .ref 70, .ref 71, .int (i 3), .ref 72, .int (nI D.length), .ref 73, .int (i 5), .ref 74, .int (i 6), .ref 75, .ref 76, .ref 77, .ref 78, .ref 79, .ref 80, .ref 81, .ref 82, .ref 83, .ref 84, .int (i 7), .ref 85, .ref 86, .ref 87, .ref 88, .ref 89, .ref 90]) dX12_fed_103 fX12_153 tX12_15 rfl rfl S2.obj (by omega) (Nat.le_of_ble_eq_true rfl) rfl (fun h_6 f_7 g_8 => ?_)
  have S_9 : MO h_6 ψ2 z (ui i 4 (nI D.length)) := MO.setI (j := (ui i 4 (nI D.length))) S2 f_7 g_8
  have F_10 := fmI g_8
  exact R_vreturn (pc := 106) dX12_fed_106 rfl (by decide) (by decide) ⟨rfl, ψ2, rfl, S_9, (((FR.rf _ _).up (by decide)).tr hK (by decide)), stN_sg (H := F) (fun _ _ => rfl) (fun j_ hj_ => by rw [Nat.zero_add]; exact hJ.1 j_ hj_), (hF.tr F_10)⟩
set_option maxHeartbeats 4000000 in
set_option maxRecDepth 100000 in
theorem qX12_fed_oloop {l : Launch} {w : am_W} {h : am_H} {n : Nat} {ψ : Nat → oA} {z : fA} {i : mI} (hn : 90 ≤ n) (D : List (BitVec 8)) (hD : D.length ≤ 512) (hi3 : i 3 = nI D.length) {F G : bP → bP} (K0 : Kh ψ 0 F G) (hs : sg (ψ 71) 0 D) (x : bP) {Q : am_H → Nat → Option Value → Prop} (kk : ∀ h2 ψ2, MO h2 ψ2 z i → FR [72, 75] ψ ψ2 → feJ 1 F D x ψ2 D.length → FM h h2 → RW l w mX12_fed h2 n 0 0 98 [(2, .int (nI D.length)), (0, .ref 61), (1, .int 1)] [] Q) : ∀ (dd k : Nat), k + dd = D.length → ∀ h2 ψ2, MO h2 ψ2 z i → FR [72, 75] ψ ψ2 → feJ 1 F D x ψ2 k → FM h h2 → RW l w mX12_fed h2 n 0 0 17 [(2, .int (nI k)), (0, .ref 61), (1, .int 1)] [] Q := by
  intro dd
  induction dd with
  | zero =>
    intro k hd h2 ψ2 S2 hK hJ hF
    refine R_iload_n (pc := 17) 0 dX12_fed_17 rfl rfl ?_
    refine R_aload_n (pc := 18) 1 dX12_fed_18 rfl rfl ?_
    refine R_get (pc := 19) dX12_fed_19 fX12_130 S2.obj (by omega) rfl ?_
    refine R_eqi (y := nI D.length) (hi3) ?_
    refine R_icmp_ge (pc := 22) (tgt := 98) dX12_fed_22 (by decide) (fun c_1 => ?_) (fun c_1 => absurd (nI_le (a := D.length) (b := k) (by omega) (by omega)) c_1)
    obtain rfl : k = D.length := by omega
    exact kk h2 ψ2 S2 hK hJ hF
  | succ dd ih =>
    intro k hd h2 ψ2 S2 hK hJ hF
    have K0_2 := K0.fr hK (by decide) (by decide) (by decide) (by decide)
    refine R_iload_n (pc := 17) 0 dX12_fed_17 rfl rfl ?_
    refine R_aload_n (pc := 18) 1 dX12_fed_18 rfl rfl ?_
    refine R_get (pc := 19) dX12_fed_19 fX12_130 S2.obj (by omega) rfl ?_
    refine R_eqi (y := nI D.length) (hi3) ?_
    refine R_icmp_ge (pc := 22) (tgt := 98) dX12_fed_22 (by decide) (fun c_1 => absurd c_1 (nI_ge (a := k) (b := D.length) (by omega) (by omega))) (fun c_1 => ?_)
    refine R_iload_n (pc := 25) 0 dX12_fed_25 rfl rfl ?_
    refine R_bipush (pc := 26) (v := 16) dX12_fed_26 (by decide) ?_
    refine R_irem (pc := 28) dX12_fed_28 (by decide) ?_
    refine R_eqi (y := nI (k % 16)) (nI_rem (a := k) (b := 16) (by omega) (by omega)) ?_
    refine R_if_ne (pc := 29) (tgt := 42) dX12_fed_29 (by decide) (fun c_2 => ?_) (fun c_2 => ?_)
    · skip
      have nc_2 : ¬ (k % 16 = 0) := fun q_ => c_2 ((nI_eq (a := k % 16) (b := 0) (by omega) (by omega)).mpr q_)
      refine R_aload_n (pc := 42) 1 dX12_fed_42 rfl rfl ?_
      refine R_get (pc := 43) dX12_fed_43 fX12_44 S2.obj (by omega) rfl ?_
      refine R_iload_n (pc := 46) 0 dX12_fed_46 rfl rfl ?_
      refine R_aload_n (pc := 47) 1 dX12_fed_47 rfl rfl ?_
      refine R_get (pc := 48) dX12_fed_48 fX12_41 S2.obj (by omega) rfl ?_
      refine R_iload_n (pc := 51) 0 dX12_fed_51 rfl rfl ?_
      refine R_iald' (pc := 52) (j := k) dX12_fed_52 (S2.arr (p := 71) rfl) (by omega) ⟨rfl, by show k < 700; omega, by decide⟩ ?_
      refine R_eqi (y := oc (ψ2 71 k)) rfl ?_
      refine R_aload_n (pc := 53) 1 dX12_fed_53 rfl rfl ?_
      refine R_get (pc := 54) dX12_fed_54 fX12_53 S2.obj (by omega) rfl ?_
      refine R_iload_n (pc := 57) 0 dX12_fed_57 rfl rfl ?_
      refine R_bipush (pc := 58) (v := 16) dX12_fed_58 (by decide) ?_
      refine R_irem (pc := 60) dX12_fed_60 (by decide) ?_
      refine R_eqi (y := nI (k % 16)) (nI_rem (a := k) (b := 16) (by omega) (by omega)) ?_
      refine R_iald' (pc := 61) (j := k % 16) dX12_fed_61 (S2.arr (p := 75) rfl) (by omega) ⟨rfl, by show k % 16 < 16; omega, by decide⟩ ?_
      refine R_eqi (y := oc (ψ2 75 (k % 16))) rfl ?_
      refine R_ixor (pc := 62) dX12_fed_62 ?_
      refine R_eqi (y := oc ((ψ2 71 k) ^^^ (ψ2 75 (k % 16)))) (oc_xor _ _) ?_
      refine R_iast' (pc := 63) (j := k) dX12_fed_63 (S2.arr (p := 72) rfl) (by omega) ⟨rfl, by show k < 700; omega, by decide⟩ (fun h_3 f_4 g_5 => ?_)
      have S_7 : MO h_3 (uo ψ2 72 (updB (ψ2 72) k ((ψ2 71 k) ^^^ (ψ2 75 (k % 16))))) z i := MO.setA (p := 72) S2 rfl f_4 g_5 (fun j_ => congrFun (upd_oc _ _ _) j_)
      have F_6 := fmA (p := 72) (okA_c (by decide)).1 g_5
      refine R_aload_n (pc := 64) 1 dX12_fed_64 rfl rfl ?_
      refine R_get (pc := 65) dX12_fed_65 fX12_53 S_7.obj (by omega) rfl ?_
      refine R_iload_n (pc := 68) 0 dX12_fed_68 rfl rfl ?_
      refine R_bipush (pc := 69) (v := 16) dX12_fed_69 (by decide) ?_
      refine R_irem (pc := 71) dX12_fed_71 (by decide) ?_
      refine R_eqi (y := nI (k % 16)) (nI_rem (a := k) (b := 16) (by omega) (by omega)) ?_
      refine R_iload_n (pc := 72) 2 dX12_fed_72 rfl rfl ?_
      refine R_if_eq (pc := 73) (tgt := 85) dX12_fed_73 (by decide) (fun c_8 => absurd c_8 (by decide)) (fun c_8 => ?_)
      refine R_aload_n (pc := 76) 1 dX12_fed_76 rfl rfl ?_
      refine R_get (pc := 77) dX12_fed_77 fX12_41 S_7.obj (by omega) rfl ?_
      refine R_iload_n (pc := 80) 0 dX12_fed_80 rfl rfl ?_
      refine R_iald' (pc := 81) (j := k) dX12_fed_81 (S_7.arr (p := 71) rfl) (by omega) ⟨rfl, by show k < 700; omega, by decide⟩ ?_
      refine R_eqi (y := oc (ψ2 71 k)) rfl ?_
      refine R_goto (pc := 82) (tgt := 91) dX12_fed_82 (by decide) ?_
      refine R_iast' (pc := 91) (j := k % 16) dX12_fed_91 (S_7.arr (p := 75) rfl) (by omega) ⟨rfl, by show k % 16 < 16; omega, by decide⟩ (fun h_9 f_10 g_11 => ?_)
      have S_13 : MO h_9 (uo (uo ψ2 72 (updB (ψ2 72) k ((ψ2 71 k) ^^^ (ψ2 75 (k % 16))))) 75 (updB (ψ2 75) (k % 16) (ψ2 71 k))) z i := MO.setA (p := 75) S_7 rfl f_10 g_11 (fun j_ => congrFun (upd_oc _ _ _) j_)
      have F_12 := fmA (p := 75) (okA_c (by decide)).1 g_11
      refine R_iinc (pc := 92) (j := 0) (v := nI (k + 1)) (lv' := [(2, .int (nI (k + 1))), (0, .ref 61), (1, .int 1)]) dX12_fed_92 rfl (nI_add _ _) (by decide) rfl ?_
      refine R_goto (pc := 95) (tgt := 17) dX12_fed_95 (by decide) ?_
      refine R_sub [0, 1, 2] rfl ?_
      have e71 : ψ2 71 = ψ 71 := hK 71 (by decide)
      have eD : ψ2 71 k = og D k := by rw [e71, ← hs _ (by omega), Nat.zero_add]
      have e0 : ∀ j, j < 16 → (ψ2 75) j = if j < k % 16 then ob (stN (fbS F 1 D) x (k / 16 + 1)).1 j else ob (F (stN (fbS F 1 D) x (k / 16)).1) j := by
        exact hJ.2.2 nc_2
      have ek : (ψ2 75) (k % 16) = ob (F (stN (fbS F 1 D) x (k / 16)).1) (k % 16) := by rw [e0 _ (by omega), if_neg (by omega)]
      have j1 : ∀ j, j < k + 1 → (updB (ψ2 72) k ((ψ2 71 k) ^^^ (ψ2 75 (k % 16)))) j = og D j ^^^ ob (F (stN (fbS F 1 D) x (j / 16)).1) (j % 16) := by
        intro j_ hj_
        by_cases q_ : j_ = k
        · rw [q_, updB_s, eD, ek]
        · rw [updB_n q_]; exact hJ.1 j_ (by omega)
      have en : ob (stN (fbS F 1 D) x (k / 16 + 1)).1 (k % 16) = og D k := by
        show ob (if (1 : Int32) = 0 then xb (rd D (16 * (k / 16))) (F (stN (fbS F 1 D) x (k / 16)).1) else rd D (16 * (k / 16))) (k % 16) = _
        rw [if_neg (by decide), ob_rd _ _ (by omega), show 16 * (k / 16) + k % 16 = k by omega]
      have er : ∀ j, j < 16 → (updB (ψ2 75) (k % 16) (ψ2 71 k)) j = if j < k % 16 + 1 then ob (stN (fbS F 1 D) x (k / 16 + 1)).1 j else ob (F (stN (fbS F 1 D) x (k / 16)).1) j := by
        intro j_ hj_
        by_cases q_ : j_ = k % 16
        · rw [q_, updB_s, if_pos (by omega), en, eD]
        · rw [updB_n q_, e0 _ hj_]
          by_cases q2_ : j_ < k % 16
          · rw [if_pos q2_, if_pos (by omega)]
          · rw [if_neg q2_, if_neg (by omega)]
      have j2 : (k + 1) % 16 = 0 → gt (updB (ψ2 75) (k % 16) (ψ2 71 k)) 0 = (stN (fbS F 1 D) x ((k + 1) / 16)).1 := fun q_ => ob_ext fun j_ hj_ => by rw [ob_gt _ _ hj_, Nat.zero_add, er _ hj_, if_pos (by omega), show (k + 1) / 16 = k / 16 + 1 by omega]
      have j3 : (k + 1) % 16 ≠ 0 → ∀ j, j < 16 → (updB (ψ2 75) (k % 16) (ψ2 71 k)) j = if j < (k + 1) % 16 then ob (stN (fbS F 1 D) x ((k + 1) / 16 + 1)).1 j else ob (F (stN (fbS F 1 D) x ((k + 1) / 16)).1) j := fun q_ j_ hj_ => by rw [er _ hj_, show (k + 1) / 16 = k / 16 by omega, show (k + 1) % 16 = k % 16 + 1 by omega]
      exact ih (k + 1) (by omega) h_9 _ S_13 ((hK.up (by decide)).up (by decide)) (⟨j1, j2, j3⟩) (hF.tr (F_6.tr F_12))
    · skip
      have nc_2 : k % 16 = 0 := (nI_eq (a := k % 16) (b := 0) (by omega) (by omega)).mp c_2
      refine R_aload_n (pc := 32) 1 dX12_fed_32 rfl rfl ?_
      refine R_iconst (pc := 33) (v := 0) dX12_fed_33 (by decide) ?_
      refine R_aload_n (pc := 34) 1 dX12_fed_34 rfl rfl ?_
      refine R_get (pc := 35) dX12_fed_35 fX12_53 S2.obj (by omega) rfl ?_
      refine R_iconst (pc := 38) (v := 0) dX12_fed_38 (by decide) ?_
      refine R_callVh (pc := 39) (μ' := mX12_sealBlock) (As := [.int (nI 0), .ref 75, .int (nI 0)]) (st := []) dX12_fed_39 zX12_sealBlock lX12_146 ⟨by decide, by decide⟩ rfl rfl ⟨by decide, by decide⟩ S2.obj (by omega) rfl (Nat.le_of_ble_eq_true rfl) (oX12_sealBlock S2 hn K0_2 (p := 75) rfl 0 (by show 0 + 16 ≤ 16; omega)) (fun h_14 r_ q_15 => ?_)
      obtain ⟨rfl, S_16, F_17⟩ := q_15
      have S_18 : MO h_14 (uo ψ2 75 (pt (ψ2 75) 0 (F (gt (ψ2 75) 0)))) z i := S_16
      refine R_aload_n (pc := 42) 1 dX12_fed_42 rfl rfl ?_
      refine R_get (pc := 43) dX12_fed_43 fX12_44 S_18.obj (by omega) rfl ?_
      refine R_iload_n (pc := 46) 0 dX12_fed_46 rfl rfl ?_
      refine R_aload_n (pc := 47) 1 dX12_fed_47 rfl rfl ?_
      refine R_get (pc := 48) dX12_fed_48 fX12_41 S_18.obj (by omega) rfl ?_
      refine R_iload_n (pc := 51) 0 dX12_fed_51 rfl rfl ?_
      refine R_iald' (pc := 52) (j := k) dX12_fed_52 (S_18.arr (p := 71) rfl) (by omega) ⟨rfl, by show k < 700; omega, by decide⟩ ?_
      refine R_eqi (y := oc (ψ2 71 k)) rfl ?_
      refine R_aload_n (pc := 53) 1 dX12_fed_53 rfl rfl ?_
      refine R_get (pc := 54) dX12_fed_54 fX12_53 S_18.obj (by omega) rfl ?_
      refine R_iload_n (pc := 57) 0 dX12_fed_57 rfl rfl ?_
      refine R_bipush (pc := 58) (v := 16) dX12_fed_58 (by decide) ?_
      refine R_irem (pc := 60) dX12_fed_60 (by decide) ?_
      refine R_eqi (y := nI (k % 16)) (nI_rem (a := k) (b := 16) (by omega) (by omega)) ?_
      refine R_iald' (pc := 61) (j := k % 16) dX12_fed_61 (S_18.arr (p := 75) rfl) (by omega) ⟨rfl, by show k % 16 < 16; omega, by decide⟩ ?_
      refine R_eqi (y := oc ((pt (ψ2 75) 0 (F (gt (ψ2 75) 0))) (k % 16))) rfl ?_
      refine R_ixor (pc := 62) dX12_fed_62 ?_
      refine R_eqi (y := oc ((ψ2 71 k) ^^^ ((pt (ψ2 75) 0 (F (gt (ψ2 75) 0))) (k % 16)))) (oc_xor _ _) ?_
      refine R_iast' (pc := 63) (j := k) dX12_fed_63 (S_18.arr (p := 72) rfl) (by omega) ⟨rfl, by show k < 700; omega, by decide⟩ (fun h_19 f_20 g_21 => ?_)
      have S_23 : MO h_19 (uo (uo ψ2 75 (pt (ψ2 75) 0 (F (gt (ψ2 75) 0)))) 72 (updB (ψ2 72) k ((ψ2 71 k) ^^^ ((pt (ψ2 75) 0 (F (gt (ψ2 75) 0))) (k % 16))))) z i := MO.setA (p := 72) S_18 rfl f_20 g_21 (fun j_ => congrFun (upd_oc _ _ _) j_)
      have F_22 := fmA (p := 72) (okA_c (by decide)).1 g_21
      refine R_aload_n (pc := 64) 1 dX12_fed_64 rfl rfl ?_
      refine R_get (pc := 65) dX12_fed_65 fX12_53 S_23.obj (by omega) rfl ?_
      refine R_iload_n (pc := 68) 0 dX12_fed_68 rfl rfl ?_
      refine R_bipush (pc := 69) (v := 16) dX12_fed_69 (by decide) ?_
      refine R_irem (pc := 71) dX12_fed_71 (by decide) ?_
      refine R_eqi (y := nI (k % 16)) (nI_rem (a := k) (b := 16) (by omega) (by omega)) ?_
      refine R_iload_n (pc := 72) 2 dX12_fed_72 rfl rfl ?_
      refine R_if_eq (pc := 73) (tgt := 85) dX12_fed_73 (by decide) (fun c_24 => absurd c_24 (by decide)) (fun c_24 => ?_)
      refine R_aload_n (pc := 76) 1 dX12_fed_76 rfl rfl ?_
      refine R_get (pc := 77) dX12_fed_77 fX12_41 S_23.obj (by omega) rfl ?_
      refine R_iload_n (pc := 80) 0 dX12_fed_80 rfl rfl ?_
      refine R_iald' (pc := 81) (j := k) dX12_fed_81 (S_23.arr (p := 71) rfl) (by omega) ⟨rfl, by show k < 700; omega, by decide⟩ ?_
      refine R_eqi (y := oc (ψ2 71 k)) rfl ?_
      refine R_goto (pc := 82) (tgt := 91) dX12_fed_82 (by decide) ?_
      refine R_iast' (pc := 91) (j := k % 16) dX12_fed_91 (S_23.arr (p := 75) rfl) (by omega) ⟨rfl, by show k % 16 < 16; omega, by decide⟩ (fun h_25 f_26 g_27 => ?_)
      have S_29 : MO h_25 (uo (uo (uo ψ2 75 (pt (ψ2 75) 0 (F (gt (ψ2 75) 0)))) 72 (updB (ψ2 72) k ((ψ2 71 k) ^^^ ((pt (ψ2 75) 0 (F (gt (ψ2 75) 0))) (k % 16))))) 75 (updB (pt (ψ2 75) 0 (F (gt (ψ2 75) 0))) (k % 16) (ψ2 71 k))) z i := MO.setA (p := 75) S_23 rfl f_26 g_27 (fun j_ => congrFun (upd_oc _ _ _) j_)
      have F_28 := fmA (p := 75) (okA_c (by decide)).1 g_27
      refine R_iinc (pc := 92) (j := 0) (v := nI (k + 1)) (lv' := [(2, .int (nI (k + 1))), (0, .ref 61), (1, .int 1)]) dX12_fed_92 rfl (nI_add _ _) (by decide) rfl ?_
      refine R_goto (pc := 95) (tgt := 17) dX12_fed_95 (by decide) ?_
      refine R_sub [0, 1, 2] rfl ?_
      have e71 : ψ2 71 = ψ 71 := hK 71 (by decide)
      have eD : ψ2 71 k = og D k := by rw [e71, ← hs _ (by omega), Nat.zero_add]
      have e0 : ∀ j, j < 16 → (pt (ψ2 75) 0 (F (gt (ψ2 75) 0))) j = if j < k % 16 then ob (stN (fbS F 1 D) x (k / 16 + 1)).1 j else ob (F (stN (fbS F 1 D) x (k / 16)).1) j := by
        intro j_ hj_; rw [if_neg (by omega), hJ.2.1 nc_2, pt_at0 _ _ hj_]
      have ek : (pt (ψ2 75) 0 (F (gt (ψ2 75) 0))) (k % 16) = ob (F (stN (fbS F 1 D) x (k / 16)).1) (k % 16) := by rw [e0 _ (by omega), if_neg (by omega)]
      have j1 : ∀ j, j < k + 1 → (updB (ψ2 72) k ((ψ2 71 k) ^^^ ((pt (ψ2 75) 0 (F (gt (ψ2 75) 0))) (k % 16)))) j = og D j ^^^ ob (F (stN (fbS F 1 D) x (j / 16)).1) (j % 16) := by
        intro j_ hj_
        by_cases q_ : j_ = k
        · rw [q_, updB_s, eD, ek]
        · rw [updB_n q_]; exact hJ.1 j_ (by omega)
      have en : ob (stN (fbS F 1 D) x (k / 16 + 1)).1 (k % 16) = og D k := by
        show ob (if (1 : Int32) = 0 then xb (rd D (16 * (k / 16))) (F (stN (fbS F 1 D) x (k / 16)).1) else rd D (16 * (k / 16))) (k % 16) = _
        rw [if_neg (by decide), ob_rd _ _ (by omega), show 16 * (k / 16) + k % 16 = k by omega]
      have er : ∀ j, j < 16 → (updB (pt (ψ2 75) 0 (F (gt (ψ2 75) 0))) (k % 16) (ψ2 71 k)) j = if j < k % 16 + 1 then ob (stN (fbS F 1 D) x (k / 16 + 1)).1 j else ob (F (stN (fbS F 1 D) x (k / 16)).1) j := by
        intro j_ hj_
        by_cases q_ : j_ = k % 16
        · rw [q_, updB_s, if_pos (by omega), en, eD]
        · rw [updB_n q_, e0 _ hj_]
          by_cases q2_ : j_ < k % 16
          · rw [if_pos q2_, if_pos (by omega)]
          · rw [if_neg q2_, if_neg (by omega)]
      have j2 : (k + 1) % 16 = 0 → gt (updB (pt (ψ2 75) 0 (F (gt (ψ2 75) 0))) (k % 16) (ψ2 71 k)) 0 = (stN (fbS F 1 D) x ((k + 1) / 16)).1 := fun q_ => ob_ext fun j_ hj_ => by rw [ob_gt _ _ hj_, Nat.zero_add, er _ hj_, if_pos (by omega), show (k + 1) / 16 = k / 16 + 1 by omega]
      have j3 : (k + 1) % 16 ≠ 0 → ∀ j, j < 16 → (updB (pt (ψ2 75) 0 (F (gt (ψ2 75) 0))) (k % 16) (ψ2 71 k)) j = if j < (k + 1) % 16 then ob (stN (fbS F 1 D) x ((k + 1) / 16 + 1)).1 j else ob (F (stN (fbS F 1 D) x ((k + 1) / 16)).1) j := fun q_ j_ hj_ => by rw [er _ hj_, show (k + 1) / 16 = k / 16 by omega, show (k + 1) % 16 = k % 16 + 1 by omega]
      exact ih (k + 1) (by omega) h_25 _ S_29 (((hK.up (by decide)).up (by decide)).up (by decide)) (⟨j1, j2, j3⟩) (hF.tr ((F_17.tr F_22).tr F_28))
set_option maxHeartbeats 4000000 in
set_option maxRecDepth 100000 in
theorem oX12_fed_o {l : Launch} {w : am_W} {h : am_H} {n : Nat} {ψ : Nat → oA} {z : fA} {i : mI} (S : MO h ψ z i) (hn : 90 ≤ n) (D : List (BitVec 8)) (hD : D.length ≤ 512) (hi3 : i 3 = nI D.length) {F G : bP → bP} (K0 : Kh ψ 0 F G) (hs : sg (ψ 71) 0 D) : RH l w mX12_fed h n [.ref 61, .int 1] (fun h2 q => ∃ ψ2, q = none ∧ MO h2 ψ2 z (ui i 4 (nI D.length)) ∧ FR [72, 75] ψ ψ2 ∧ sg (ψ2 72) 0 (stN (fbS F 1 D) (gt (ψ 73) 0) (nbk D)).2 ∧ FM h h2) := by
  refine RC.of [(0, .ref 61), (1, .int 1)] (by decide +kernel) rfl (Nat.le_of_ble_eq_true rfl) ?_
  refine R_aload_n (pc := 0) 0 dX12_fed_0 rfl rfl ?_
  refine R_get (pc := 1) dX12_fed_1 fX12_47 S.obj (by omega) rfl ?_
  refine R_iconst (pc := 4) (v := 0) dX12_fed_4 (by decide) ?_
  refine R_aload_n (pc := 5) 0 dX12_fed_5 rfl rfl ?_
  refine R_get (pc := 6) dX12_fed_6 fX12_53 S.obj (by omega) rfl ?_
  refine R_iconst (pc := 9) (v := 0) dX12_fed_9 (by decide) ?_
  refine R_bipush (pc := 10) (v := 16) dX12_fed_10 (by decide) ?_
  refine R_callSh (pc := 12) (μ' := mX12_copy) (As := [.ref 73, .int (nI 0), .ref 75, .int (nI 0), .int 16]) (st := []) dX12_fed_12 zX12_copy lX12_133 ⟨by decide, by decide⟩ rfl rfl ⟨by decide, by decide⟩ rfl (Nat.le_of_ble_eq_true rfl) (oX12_copy16 S hn (p := 73) (q := 75) rfl rfl 0 0 (by show 0 + 16 ≤ 64; omega) (by show 0 + 16 ≤ 16; omega) (by decide)) (fun h_1 r_ q_2 => ?_)
  obtain ⟨rfl, S_3, F_4⟩ := q_2
  have S_5 : MO h_1 (uo ψ 75 (pt (ψ 75) 0 (gt (ψ 73) 0))) z i := S_3
  refine R_iconst (pc := 15) (v := 0) dX12_fed_15 (by decide) ?_
  refine R_istore_n (pc := 16) (lv' := [(2, .int 0), (0, .ref 61), (1, .int 1)]) dX12_fed_16 rfl (by decide) rfl ?_
  refine R_sub [0, 1, 2] rfl ?_
  refine qX12_fed_oloop (h := h) (ψ := (uo ψ 75 (pt (ψ 75) 0 (gt (ψ 73) 0)))) hn D hD hi3 (K0.uo (by decide)) hs (gt (ψ 73) 0) (fun h2 ψ2 S2 hK hJ hF => ?_) D.length 0 (by omega) h_1 _ S_5 (FR.rf _ _) ⟨fun j_ hj_ => absurd hj_ (Nat.not_lt_zero j_), fun _ => gt_pt _ _ _, fun q_ => absurd rfl q_⟩ F_4
  refine R_aload_n (pc := 98) 1 dX12_fed_98 rfl rfl ?_
  refine R_aload_n (pc := 99) 1 dX12_fed_99 rfl rfl ?_
  refine R_get (pc := 100) dX12_fed_100 fX12_130 S2.obj (by omega) rfl ?_
  refine R_eqi (y := nI D.length) (hi3) ?_
  refine R_put' (pc := 103) (fs' := [.int (i 0), .ref 62, .ref 63, .int (i 1), .ref 64, .int (i 2), .ref 65, .ref 66, .ref 67, .ref 68, .ref 69, .ref 70, .ref 71, .int (i 3), .ref 72, .int (nI D.length), .ref 73, .int (i 5), .ref 74, .int (i 6), .ref 75, .ref 76, .ref 77, .ref 78, .ref 79, .ref 80, .ref 81, .ref 82, .ref 83, .ref 84, .int (i 7), .ref 85, .ref 86, .ref 87, .ref 88, .ref 89, .ref 90]) dX12_fed_103 fX12_153 tX12_15 rfl rfl S2.obj (by omega) (Nat.le_of_ble_eq_true rfl) rfl (fun h_6 f_7 g_8 => ?_)
  have S_9 : MO h_6 ψ2 z (ui i 4 (nI D.length)) := MO.setI (j := (ui i 4 (nI D.length))) S2 f_7 g_8
  have F_10 := fmI g_8
  exact R_vreturn (pc := 106) dX12_fed_106 rfl (by decide) (by decide) ⟨rfl, ψ2, rfl, S_9, (((FR.rf _ _).up (by decide)).tr hK (by decide)), stN_sg (H := F) (fun _ _ => rfl) (fun j_ hj_ => by rw [Nat.zero_add]; exact hJ.1 j_ hj_), (hF.tr F_10)⟩
theorem bo2_oc (q : bP) (k : Nat) : bo2 q (nI k) = oc (ob q k) := by
  unfold bo2 ob bo vX0_octetAt
  rw [oc_t8, t8_oc]
theorem sg.one {f : oA} {t : Nat} {L : List (BitVec 8)} (h : sg f t L) {u : Nat} (hu : u = t + L.length) {v w : BitVec 8} (hv : v = w) : sg (updB f u v) t (L ++ [w]) := by
  subst hu
  subst hv
  refine sg.app (h.mv fun j hj => updB_n (by omega)) fun j hj => ?_
  have : j = 0 := by rw [List.length_singleton] at hj; omega
  subst this
  rw [Nat.add_zero, updB_s]
  rfl
theorem bci_gt (f : oA) (v : BitVec 8) : gt (updB (cpB f 1 f 0 15) 15 v) 0 = bci (gt f 0) (oc v) := ob_ext fun k hk => by
  rw [ob_gt _ _ hk, ob_bci _ _ hk, Nat.zero_add]
  by_cases h : k = 15
  · rw [if_pos h, h, updB_s, t8_oc]
  · rw [if_neg h, updB_n h, ob_gt _ _ (by omega)]
    unfold cpB
    rw [if_pos (by omega)]
    congr 1
    omega
def foJ (op : Int32) (F : bP → bP) (D : List (BitVec 8)) (x : bP) (ψ2 : Nat → oA) (k : Nat) : Prop := gt (ψ2 75) 0 = (stN (foS F op D) x k).1 ∧ sg (ψ2 72) 0 (stN (foS F op D) x k).2
theorem foS_len (F : bP → bP) (op : Int32) (D : List (BitVec 8)) (x : bP) : ∀ k, (stN (foS F op D) x k).2.length = k
  | 0 => rfl
  | k + 1 => by
    show (_ ++ [_] : List (BitVec 8)).length = k + 1
    rw [List.length_append, foS_len F op D x k]
    rfl
set_option maxHeartbeats 4000000 in
set_option maxRecDepth 100000 in
theorem qX12_fedOne_sloop {l : Launch} {w : am_W} {h : am_H} {n : Nat} {ψ : Nat → oA} {z : fA} {i : mI} (hn : 90 ≤ n) (D : List (BitVec 8)) (hD : D.length ≤ 512) (hi3 : i 3 = nI D.length) {F G : bP → bP} (K0 : Kh ψ 0 F G) (hs : sg (ψ 71) 0 D) (x : bP) {Q : am_H → Nat → Option Value → Prop} (kk : ∀ h2 ψ2, MO h2 ψ2 z i → FR [72, 75, 76] ψ ψ2 → foJ 0 F D x ψ2 D.length → FM h h2 → RW l w mX12_fedOne h2 n 0 0 116 [(2, .int (nI D.length)), (0, .ref 61), (1, .int 0)] [] Q) : ∀ (dd k : Nat), k + dd = D.length → ∀ h2 ψ2, MO h2 ψ2 z i → FR [72, 75, 76] ψ ψ2 → foJ 0 F D x ψ2 k → FM h h2 → RW l w mX12_fedOne h2 n 0 0 17 [(2, .int (nI k)), (0, .ref 61), (1, .int 0)] [] Q := by
  intro dd
  induction dd with
  | zero =>
    intro k hd h2 ψ2 S2 hK hJ hF
    refine R_iload_n (pc := 17) 0 dX12_fedOne_17 rfl rfl ?_
    refine R_aload_n (pc := 18) 1 dX12_fedOne_18 rfl rfl ?_
    refine R_get (pc := 19) dX12_fedOne_19 fX12_130 S2.obj (by omega) rfl ?_
    refine R_eqi (y := nI D.length) (hi3) ?_
    refine R_icmp_ge (pc := 22) (tgt := 116) dX12_fedOne_22 (by decide) (fun c_1 => ?_) (fun c_1 => absurd (nI_le (a := D.length) (b := k) (by omega) (by omega)) c_1)
    obtain rfl : k = D.length := by omega
    exact kk h2 ψ2 S2 hK hJ hF
  | succ dd ih =>
    intro k hd h2 ψ2 S2 hK hJ hF
    have K0_2 := K0.fr hK (by decide) (by decide) (by decide) (by decide)
    refine R_iload_n (pc := 17) 0 dX12_fedOne_17 rfl rfl ?_
    refine R_aload_n (pc := 18) 1 dX12_fedOne_18 rfl rfl ?_
    refine R_get (pc := 19) dX12_fedOne_19 fX12_130 S2.obj (by omega) rfl ?_
    refine R_eqi (y := nI D.length) (hi3) ?_
    refine R_icmp_ge (pc := 22) (tgt := 116) dX12_fedOne_22 (by decide) (fun c_1 => absurd c_1 (nI_ge (a := k) (b := D.length) (by omega) (by omega))) (fun c_1 => ?_)
    refine R_aload_n (pc := 25) 1 dX12_fedOne_25 rfl rfl ?_
    refine R_get (pc := 26) dX12_fedOne_26 fX12_53 S2.obj (by omega) rfl ?_
    refine R_iconst (pc := 29) (v := 0) dX12_fedOne_29 (by decide) ?_
    refine R_aload_n (pc := 30) 1 dX12_fedOne_30 rfl rfl ?_
    refine R_get (pc := 31) dX12_fedOne_31 fX12_56 S2.obj (by omega) rfl ?_
    refine R_iconst (pc := 34) (v := 0) dX12_fedOne_34 (by decide) ?_
    refine R_bipush (pc := 35) (v := 16) dX12_fedOne_35 (by decide) ?_
    refine R_callSh (pc := 37) (μ' := mX12_copy) (As := [.ref 75, .int (nI 0), .ref 76, .int (nI 0), .int 16]) (st := []) dX12_fedOne_37 zX12_copy lX12_133 ⟨by decide, by decide⟩ rfl rfl ⟨by decide, by decide⟩ rfl (Nat.le_of_ble_eq_true rfl) (oX12_copy16 S2 hn (p := 75) (q := 76) rfl rfl 0 0 (by show 0 + 16 ≤ 16; omega) (by show 0 + 16 ≤ 16; omega) (by decide)) (fun h_2 r_ q_3 => ?_)
    obtain ⟨rfl, S_4, F_5⟩ := q_3
    have S_6 : MO h_2 (uo ψ2 76 (pt (ψ2 76) 0 (gt (ψ2 75) 0))) z i := S_4
    refine R_aload_n (pc := 40) 1 dX12_fedOne_40 rfl rfl ?_
    refine R_iconst (pc := 41) (v := 0) dX12_fedOne_41 (by decide) ?_
    refine R_aload_n (pc := 42) 1 dX12_fedOne_42 rfl rfl ?_
    refine R_get (pc := 43) dX12_fedOne_43 fX12_56 S_6.obj (by omega) rfl ?_
    refine R_iconst (pc := 46) (v := 0) dX12_fedOne_46 (by decide) ?_
    refine R_callVh (pc := 47) (μ' := mX12_sealBlock) (As := [.int (nI 0), .ref 76, .int (nI 0)]) (st := []) dX12_fedOne_47 zX12_sealBlock lX12_146 ⟨by decide, by decide⟩ rfl rfl ⟨by decide, by decide⟩ S_6.obj (by omega) rfl (Nat.le_of_ble_eq_true rfl) (oX12_sealBlock S_6 hn (K0_2.uo (by decide)) (p := 76) rfl 0 (by show 0 + 16 ≤ 16; omega)) (fun h_7 r_ q_8 => ?_)
    obtain ⟨rfl, S_9, F_10⟩ := q_8
    have S_11 : MO h_7 (uo ψ2 76 (pt (pt (ψ2 76) 0 (gt (ψ2 75) 0)) 0 (F (gt (pt (ψ2 76) 0 (gt (ψ2 75) 0)) 0)))) z i := by have z_ := S_9; rw [uo_uo] at z_; exact z_
    refine R_aload_n (pc := 50) 1 dX12_fedOne_50 rfl rfl ?_
    refine R_get (pc := 51) dX12_fedOne_51 fX12_44 S_11.obj (by omega) rfl ?_
    refine R_iload_n (pc := 54) 0 dX12_fedOne_54 rfl rfl ?_
    refine R_aload_n (pc := 55) 1 dX12_fedOne_55 rfl rfl ?_
    refine R_get (pc := 56) dX12_fedOne_56 fX12_41 S_11.obj (by omega) rfl ?_
    refine R_iload_n (pc := 59) 0 dX12_fedOne_59 rfl rfl ?_
    refine R_iald' (pc := 60) (j := k) dX12_fedOne_60 (S_11.arr (p := 71) rfl) (by omega) ⟨rfl, by show k < 700; omega, by decide⟩ ?_
    refine R_eqi (y := oc (ψ2 71 k)) rfl ?_
    refine R_aload_n (pc := 61) 1 dX12_fedOne_61 rfl rfl ?_
    refine R_get (pc := 62) dX12_fedOne_62 fX12_56 S_11.obj (by omega) rfl ?_
    refine R_iconst (pc := 65) (v := 0) dX12_fedOne_65 (by decide) ?_
    refine R_iald' (pc := 66) (j := 0) dX12_fedOne_66 (S_11.arr (p := 76) rfl) (by omega) ⟨rfl, by show 0 < 16; omega, by decide⟩ ?_
    refine R_eqi (y := oc ((pt (pt (ψ2 76) 0 (gt (ψ2 75) 0)) 0 (F (gt (pt (ψ2 76) 0 (gt (ψ2 75) 0)) 0))) 0)) rfl ?_
    refine R_ixor (pc := 67) dX12_fedOne_67 ?_
    refine R_eqi (y := oc ((ψ2 71 k) ^^^ ((pt (pt (ψ2 76) 0 (gt (ψ2 75) 0)) 0 (F (gt (pt (ψ2 76) 0 (gt (ψ2 75) 0)) 0))) 0))) (oc_xor _ _) ?_
    refine R_iast' (pc := 68) (j := k) dX12_fedOne_68 (S_11.arr (p := 72) rfl) (by omega) ⟨rfl, by show k < 700; omega, by decide⟩ (fun h_12 f_13 g_14 => ?_)
    have S_16 : MO h_12 (uo (uo ψ2 76 (pt (pt (ψ2 76) 0 (gt (ψ2 75) 0)) 0 (F (gt (pt (ψ2 76) 0 (gt (ψ2 75) 0)) 0)))) 72 (updB (ψ2 72) k ((ψ2 71 k) ^^^ ((pt (pt (ψ2 76) 0 (gt (ψ2 75) 0)) 0 (F (gt (pt (ψ2 76) 0 (gt (ψ2 75) 0)) 0))) 0)))) z i := MO.setA (p := 72) S_11 rfl f_13 g_14 (fun j_ => congrFun (upd_oc _ _ _) j_)
    have F_15 := fmA (p := 72) (okA_c (by decide)).1 g_14
    refine R_aload_n (pc := 69) 1 dX12_fedOne_69 rfl rfl ?_
    refine R_get (pc := 70) dX12_fedOne_70 fX12_53 S_16.obj (by omega) rfl ?_
    refine R_iconst (pc := 73) (v := 1) dX12_fedOne_73 (by decide) ?_
    refine R_aload_n (pc := 74) 1 dX12_fedOne_74 rfl rfl ?_
    refine R_get (pc := 75) dX12_fedOne_75 fX12_53 S_16.obj (by omega) rfl ?_
    refine R_iconst (pc := 78) (v := 0) dX12_fedOne_78 (by decide) ?_
    refine R_bipush (pc := 79) (v := 15) dX12_fedOne_79 (by decide) ?_
    refine R_callSh (pc := 81) (μ' := mX12_copy) (As := [.ref 75, .int (nI 1), .ref 75, .int (nI 0), .int (nI 15)]) (st := []) dX12_fedOne_81 zX12_copy lX12_133 ⟨by decide, by decide⟩ rfl rfl ⟨by decide, by decide⟩ rfl (Nat.le_of_ble_eq_true rfl) (oX12_copy1 S_16 hn rfl 1 0 15 (by show 1 + 15 ≤ 16; omega) (by omega)) (fun h_17 r_ q_18 => ?_)
    obtain ⟨rfl, S_19, F_20⟩ := q_18
    have S_21 : MO h_17 (uo (uo (uo ψ2 76 (pt (pt (ψ2 76) 0 (gt (ψ2 75) 0)) 0 (F (gt (pt (ψ2 76) 0 (gt (ψ2 75) 0)) 0)))) 72 (updB (ψ2 72) k ((ψ2 71 k) ^^^ ((pt (pt (ψ2 76) 0 (gt (ψ2 75) 0)) 0 (F (gt (pt (ψ2 76) 0 (gt (ψ2 75) 0)) 0))) 0)))) 75 (cpB (ψ2 75) 1 (ψ2 75) 0 15)) z i := S_19
    refine R_aload_n (pc := 84) 1 dX12_fedOne_84 rfl rfl ?_
    refine R_get (pc := 85) dX12_fedOne_85 fX12_53 S_21.obj (by omega) rfl ?_
    refine R_bipush (pc := 88) (v := 15) dX12_fedOne_88 (by decide) ?_
    refine R_iload_n (pc := 90) 2 dX12_fedOne_90 rfl rfl ?_
    refine R_if_eq (pc := 91) (tgt := 103) dX12_fedOne_91 (by decide) (fun c_22 => ?_) (fun c_22 => absurd (rfl) c_22)
    refine R_aload_n (pc := 103) 1 dX12_fedOne_103 rfl rfl ?_
    refine R_get (pc := 104) dX12_fedOne_104 fX12_44 S_21.obj (by omega) rfl ?_
    refine R_iload_n (pc := 107) 0 dX12_fedOne_107 rfl rfl ?_
    refine R_iald' (pc := 108) (j := k) dX12_fedOne_108 (S_21.arr (p := 72) rfl) (by omega) ⟨rfl, by show k < 700; omega, by decide⟩ ?_
    refine R_eqi (y := oc ((updB (ψ2 72) k ((ψ2 71 k) ^^^ ((pt (pt (ψ2 76) 0 (gt (ψ2 75) 0)) 0 (F (gt (pt (ψ2 76) 0 (gt (ψ2 75) 0)) 0))) 0))) k)) rfl ?_
    refine R_iast' (pc := 109) (j := 15) dX12_fedOne_109 (S_21.arr (p := 75) rfl) (by omega) ⟨rfl, by show 15 < 16; omega, by decide⟩ (fun h_23 f_24 g_25 => ?_)
    have S_27 : MO h_23 (uo (uo (uo ψ2 76 (pt (pt (ψ2 76) 0 (gt (ψ2 75) 0)) 0 (F (gt (pt (ψ2 76) 0 (gt (ψ2 75) 0)) 0)))) 72 (updB (ψ2 72) k ((ψ2 71 k) ^^^ ((pt (pt (ψ2 76) 0 (gt (ψ2 75) 0)) 0 (F (gt (pt (ψ2 76) 0 (gt (ψ2 75) 0)) 0))) 0)))) 75 (updB (cpB (ψ2 75) 1 (ψ2 75) 0 15) 15 ((updB (ψ2 72) k ((ψ2 71 k) ^^^ ((pt (pt (ψ2 76) 0 (gt (ψ2 75) 0)) 0 (F (gt (pt (ψ2 76) 0 (gt (ψ2 75) 0)) 0))) 0))) k))) z i := by have z_ := MO.setA (p := 75) S_21 rfl f_24 g_25 (fun j_ => congrFun (upd_oc _ _ _) j_); rw [uo_uo] at z_; exact z_
    have F_26 := fmA (p := 75) (okA_c (by decide)).1 g_25
    refine R_iinc (pc := 110) (j := 0) (v := nI (k + 1)) (lv' := [(2, .int (nI (k + 1))), (0, .ref 61), (1, .int 0)]) dX12_fedOne_110 rfl (nI_add _ _) (by decide) rfl ?_
    refine R_goto (pc := 113) (tgt := 17) dX12_fedOne_113 (by decide) ?_
    refine R_sub [0, 1, 2] rfl ?_
    have e71 : ψ2 71 = ψ 71 := hK 71 (by decide)
    have eD : ψ2 71 k = og D k := by rw [e71, ← hs _ (by omega), Nat.zero_add]
    have eF : ∀ q : bP, bo2 q 0 = oc (ob q 0) := fun q_ => bo2_oc q_ 0
    have j1 : gt (updB (cpB (ψ2 75) 1 (ψ2 75) 0 15) 15 ((updB (ψ2 72) k ((ψ2 71 k) ^^^ ((pt (pt (ψ2 76) 0 (gt (ψ2 75) 0)) 0 (F (gt (pt (ψ2 76) 0 (gt (ψ2 75) 0)) 0))) 0))) k)) 0 = (stN (foS F 0 D) x (k + 1)).1 := by
      rw [bci_gt]
      show _ = bci (stN (foS F 0 D) x k).1 (if (0 : Int32) = 0 then oc (og D k) ^^^ bo2 (F (stN (foS F 0 D) x k).1) 0 else oc (og D k))
      rw [if_pos rfl, hJ.1, eF, oc_xor, updB_s, eD]; simp only [gt_pt, pt_pt]; rw [pt_at0 _ _ (by omega)]
    have j2 : sg (updB (ψ2 72) k ((ψ2 71 k) ^^^ ((pt (pt (ψ2 76) 0 (gt (ψ2 75) 0)) 0 (F (gt (pt (ψ2 76) 0 (gt (ψ2 75) 0)) 0))) 0))) 0 (stN (foS F 0 D) x (k + 1)).2 := by
      show sg _ _ (_ ++ [t8 (oc (og D k) ^^^ bo2 (F (stN (foS F 0 D) x k).1) 0)])
      refine hJ.2.one (by rw [foS_len, Nat.zero_add]) ?_
      rw [eF, oc_xor, t8_oc, eD]; simp only [gt_pt, pt_pt]; rw [pt_at0 _ _ (by omega), hJ.1]
    exact ih (k + 1) (by omega) h_23 _ S_27 (((hK.up (by decide)).up (by decide)).up (by decide)) (⟨j1, j2⟩) (hF.tr ((((F_5.tr F_10).tr F_15).tr F_20).tr F_26))
set_option maxHeartbeats 4000000 in
set_option maxRecDepth 100000 in
theorem oX12_fedOne_s {l : Launch} {w : am_W} {h : am_H} {n : Nat} {ψ : Nat → oA} {z : fA} {i : mI} (S : MO h ψ z i) (hn : 90 ≤ n) (D : List (BitVec 8)) (hD : D.length ≤ 512) (hi3 : i 3 = nI D.length) {F G : bP → bP} (K0 : Kh ψ 0 F G) (hs : sg (ψ 71) 0 D) : RH l w mX12_fedOne h n [.ref 61, .int 0] (fun h2 q => ∃ ψ2, q = none ∧ MO h2 ψ2 z (ui i 4 (nI D.length)) ∧ FR [72, 75, 76] ψ ψ2 ∧ sg (ψ2 72) 0 (stN (foS F 0 D) (gt (ψ 73) 0) D.length).2 ∧ FM h h2) := by
  refine RC.of [(0, .ref 61), (1, .int 0)] (by decide +kernel) rfl (Nat.le_of_ble_eq_true rfl) ?_
  refine R_aload_n (pc := 0) 0 dX12_fedOne_0 rfl rfl ?_
  refine R_get (pc := 1) dX12_fedOne_1 fX12_47 S.obj (by omega) rfl ?_
  refine R_iconst (pc := 4) (v := 0) dX12_fedOne_4 (by decide) ?_
  refine R_aload_n (pc := 5) 0 dX12_fedOne_5 rfl rfl ?_
  refine R_get (pc := 6) dX12_fedOne_6 fX12_53 S.obj (by omega) rfl ?_
  refine R_iconst (pc := 9) (v := 0) dX12_fedOne_9 (by decide) ?_
  refine R_bipush (pc := 10) (v := 16) dX12_fedOne_10 (by decide) ?_
  refine R_callSh (pc := 12) (μ' := mX12_copy) (As := [.ref 73, .int (nI 0), .ref 75, .int (nI 0), .int 16]) (st := []) dX12_fedOne_12 zX12_copy lX12_133 ⟨by decide, by decide⟩ rfl rfl ⟨by decide, by decide⟩ rfl (Nat.le_of_ble_eq_true rfl) (oX12_copy16 S hn (p := 73) (q := 75) rfl rfl 0 0 (by show 0 + 16 ≤ 64; omega) (by show 0 + 16 ≤ 16; omega) (by decide)) (fun h_1 r_ q_2 => ?_)
  obtain ⟨rfl, S_3, F_4⟩ := q_2
  have S_5 : MO h_1 (uo ψ 75 (pt (ψ 75) 0 (gt (ψ 73) 0))) z i := S_3
  refine R_iconst (pc := 15) (v := 0) dX12_fedOne_15 (by decide) ?_
  refine R_istore_n (pc := 16) (lv' := [(2, .int 0), (0, .ref 61), (1, .int 0)]) dX12_fedOne_16 rfl (by decide) rfl ?_
  refine R_sub [0, 1, 2] rfl ?_
  refine qX12_fedOne_sloop (h := h) (ψ := (uo ψ 75 (pt (ψ 75) 0 (gt (ψ 73) 0)))) hn D hD hi3 (K0.uo (by decide)) hs (gt (ψ 73) 0) (fun h2 ψ2 S2 hK hJ hF => ?_) D.length 0 (by omega) h_1 _ S_5 (FR.rf _ _) ⟨gt_pt _ _ _, sg.nil _ _⟩ F_4
  refine R_aload_n (pc := 116) 1 dX12_fedOne_116 rfl rfl ?_
  refine R_aload_n (pc := 117) 1 dX12_fedOne_117 rfl rfl ?_
  refine R_get (pc := 118) dX12_fedOne_118 fX12_130 S2.obj (by omega) rfl ?_
  refine R_eqi (y := nI D.length) (hi3) ?_
  refine R_put' (pc := 121) (fs' := [.int (i 0), .ref 62, .ref 63, .int (i 1), .ref 64, .int (i 2), .ref 65, .ref 66, .ref 67, .ref 68, .ref 69, .ref 70, .ref 71, .int (i 3), .ref 72, .int (nI D.length), .ref 73, .int (i 5), .ref 74, .int (i 6), .ref 75, .ref 76, .ref 77, .ref 78, .ref 79, .ref 80, .ref 81, .ref 82, .ref 83, .ref 84, .int (i 7), .ref 85, .ref 86, .ref 87, .ref 88, .ref 89, .ref 90]) dX12_fedOne_121 fX12_153 tX12_15 rfl rfl S2.obj (by omega) (Nat.le_of_ble_eq_true rfl) rfl (fun h_6 f_7 g_8 => ?_)
  have S_9 : MO h_6 ψ2 z (ui i 4 (nI D.length)) := MO.setI (j := (ui i 4 (nI D.length))) S2 f_7 g_8
  have F_10 := fmI g_8
  exact R_vreturn (pc := 124) dX12_fedOne_124 rfl (by decide) (by decide) ⟨rfl, ψ2, rfl, S_9, (((FR.rf _ _).up (by decide)).tr hK (by decide)), hJ.2, (hF.tr F_10)⟩
set_option maxHeartbeats 4000000 in
set_option maxRecDepth 100000 in
theorem qX12_fedOne_oloop {l : Launch} {w : am_W} {h : am_H} {n : Nat} {ψ : Nat → oA} {z : fA} {i : mI} (hn : 90 ≤ n) (D : List (BitVec 8)) (hD : D.length ≤ 512) (hi3 : i 3 = nI D.length) {F G : bP → bP} (K0 : Kh ψ 0 F G) (hs : sg (ψ 71) 0 D) (x : bP) {Q : am_H → Nat → Option Value → Prop} (kk : ∀ h2 ψ2, MO h2 ψ2 z i → FR [72, 75, 76] ψ ψ2 → foJ 1 F D x ψ2 D.length → FM h h2 → RW l w mX12_fedOne h2 n 0 0 116 [(2, .int (nI D.length)), (0, .ref 61), (1, .int 1)] [] Q) : ∀ (dd k : Nat), k + dd = D.length → ∀ h2 ψ2, MO h2 ψ2 z i → FR [72, 75, 76] ψ ψ2 → foJ 1 F D x ψ2 k → FM h h2 → RW l w mX12_fedOne h2 n 0 0 17 [(2, .int (nI k)), (0, .ref 61), (1, .int 1)] [] Q := by
  intro dd
  induction dd with
  | zero =>
    intro k hd h2 ψ2 S2 hK hJ hF
    refine R_iload_n (pc := 17) 0 dX12_fedOne_17 rfl rfl ?_
    refine R_aload_n (pc := 18) 1 dX12_fedOne_18 rfl rfl ?_
    refine R_get (pc := 19) dX12_fedOne_19 fX12_130 S2.obj (by omega) rfl ?_
    refine R_eqi (y := nI D.length) (hi3) ?_
    refine R_icmp_ge (pc := 22) (tgt := 116) dX12_fedOne_22 (by decide) (fun c_1 => ?_) (fun c_1 => absurd (nI_le (a := D.length) (b := k) (by omega) (by omega)) c_1)
    obtain rfl : k = D.length := by omega
    exact kk h2 ψ2 S2 hK hJ hF
  | succ dd ih =>
    intro k hd h2 ψ2 S2 hK hJ hF
    have K0_2 := K0.fr hK (by decide) (by decide) (by decide) (by decide)
    refine R_iload_n (pc := 17) 0 dX12_fedOne_17 rfl rfl ?_
    refine R_aload_n (pc := 18) 1 dX12_fedOne_18 rfl rfl ?_
    refine R_get (pc := 19) dX12_fedOne_19 fX12_130 S2.obj (by omega) rfl ?_
    refine R_eqi (y := nI D.length) (hi3) ?_
    refine R_icmp_ge (pc := 22) (tgt := 116) dX12_fedOne_22 (by decide) (fun c_1 => absurd c_1 (nI_ge (a := k) (b := D.length) (by omega) (by omega))) (fun c_1 => ?_)
    refine R_aload_n (pc := 25) 1 dX12_fedOne_25 rfl rfl ?_
    refine R_get (pc := 26) dX12_fedOne_26 fX12_53 S2.obj (by omega) rfl ?_
    refine R_iconst (pc := 29) (v := 0) dX12_fedOne_29 (by decide) ?_
    refine R_aload_n (pc := 30) 1 dX12_fedOne_30 rfl rfl ?_
    refine R_get (pc := 31) dX12_fedOne_31 fX12_56 S2.obj (by omega) rfl ?_
    refine R_iconst (pc := 34) (v := 0) dX12_fedOne_34 (by decide) ?_
    refine R_bipush (pc := 35) (v := 16) dX12_fedOne_35 (by decide) ?_
    refine R_callSh (pc := 37) (μ' := mX12_copy) (As := [.ref 75, .int (nI 0), .ref 76, .int (nI 0), .int 16]) (st := []) dX12_fedOne_37 zX12_copy lX12_133 ⟨by decide, by decide⟩ rfl rfl ⟨by decide, by decide⟩ rfl (Nat.le_of_ble_eq_true rfl) (oX12_copy16 S2 hn (p := 75) (q := 76) rfl rfl 0 0 (by show 0 + 16 ≤ 16; omega) (by show 0 + 16 ≤ 16; omega) (by decide)) (fun h_2 r_ q_3 => ?_)
    obtain ⟨rfl, S_4, F_5⟩ := q_3
    have S_6 : MO h_2 (uo ψ2 76 (pt (ψ2 76) 0 (gt (ψ2 75) 0))) z i := S_4
    refine R_aload_n (pc := 40) 1 dX12_fedOne_40 rfl rfl ?_
    refine R_iconst (pc := 41) (v := 0) dX12_fedOne_41 (by decide) ?_
    refine R_aload_n (pc := 42) 1 dX12_fedOne_42 rfl rfl ?_
    refine R_get (pc := 43) dX12_fedOne_43 fX12_56 S_6.obj (by omega) rfl ?_
    refine R_iconst (pc := 46) (v := 0) dX12_fedOne_46 (by decide) ?_
    refine R_callVh (pc := 47) (μ' := mX12_sealBlock) (As := [.int (nI 0), .ref 76, .int (nI 0)]) (st := []) dX12_fedOne_47 zX12_sealBlock lX12_146 ⟨by decide, by decide⟩ rfl rfl ⟨by decide, by decide⟩ S_6.obj (by omega) rfl (Nat.le_of_ble_eq_true rfl) (oX12_sealBlock S_6 hn (K0_2.uo (by decide)) (p := 76) rfl 0 (by show 0 + 16 ≤ 16; omega)) (fun h_7 r_ q_8 => ?_)
    obtain ⟨rfl, S_9, F_10⟩ := q_8
    have S_11 : MO h_7 (uo ψ2 76 (pt (pt (ψ2 76) 0 (gt (ψ2 75) 0)) 0 (F (gt (pt (ψ2 76) 0 (gt (ψ2 75) 0)) 0)))) z i := by have z_ := S_9; rw [uo_uo] at z_; exact z_
    refine R_aload_n (pc := 50) 1 dX12_fedOne_50 rfl rfl ?_
    refine R_get (pc := 51) dX12_fedOne_51 fX12_44 S_11.obj (by omega) rfl ?_
    refine R_iload_n (pc := 54) 0 dX12_fedOne_54 rfl rfl ?_
    refine R_aload_n (pc := 55) 1 dX12_fedOne_55 rfl rfl ?_
    refine R_get (pc := 56) dX12_fedOne_56 fX12_41 S_11.obj (by omega) rfl ?_
    refine R_iload_n (pc := 59) 0 dX12_fedOne_59 rfl rfl ?_
    refine R_iald' (pc := 60) (j := k) dX12_fedOne_60 (S_11.arr (p := 71) rfl) (by omega) ⟨rfl, by show k < 700; omega, by decide⟩ ?_
    refine R_eqi (y := oc (ψ2 71 k)) rfl ?_
    refine R_aload_n (pc := 61) 1 dX12_fedOne_61 rfl rfl ?_
    refine R_get (pc := 62) dX12_fedOne_62 fX12_56 S_11.obj (by omega) rfl ?_
    refine R_iconst (pc := 65) (v := 0) dX12_fedOne_65 (by decide) ?_
    refine R_iald' (pc := 66) (j := 0) dX12_fedOne_66 (S_11.arr (p := 76) rfl) (by omega) ⟨rfl, by show 0 < 16; omega, by decide⟩ ?_
    refine R_eqi (y := oc ((pt (pt (ψ2 76) 0 (gt (ψ2 75) 0)) 0 (F (gt (pt (ψ2 76) 0 (gt (ψ2 75) 0)) 0))) 0)) rfl ?_
    refine R_ixor (pc := 67) dX12_fedOne_67 ?_
    refine R_eqi (y := oc ((ψ2 71 k) ^^^ ((pt (pt (ψ2 76) 0 (gt (ψ2 75) 0)) 0 (F (gt (pt (ψ2 76) 0 (gt (ψ2 75) 0)) 0))) 0))) (oc_xor _ _) ?_
    refine R_iast' (pc := 68) (j := k) dX12_fedOne_68 (S_11.arr (p := 72) rfl) (by omega) ⟨rfl, by show k < 700; omega, by decide⟩ (fun h_12 f_13 g_14 => ?_)
    have S_16 : MO h_12 (uo (uo ψ2 76 (pt (pt (ψ2 76) 0 (gt (ψ2 75) 0)) 0 (F (gt (pt (ψ2 76) 0 (gt (ψ2 75) 0)) 0)))) 72 (updB (ψ2 72) k ((ψ2 71 k) ^^^ ((pt (pt (ψ2 76) 0 (gt (ψ2 75) 0)) 0 (F (gt (pt (ψ2 76) 0 (gt (ψ2 75) 0)) 0))) 0)))) z i := MO.setA (p := 72) S_11 rfl f_13 g_14 (fun j_ => congrFun (upd_oc _ _ _) j_)
    have F_15 := fmA (p := 72) (okA_c (by decide)).1 g_14
    refine R_aload_n (pc := 69) 1 dX12_fedOne_69 rfl rfl ?_
    refine R_get (pc := 70) dX12_fedOne_70 fX12_53 S_16.obj (by omega) rfl ?_
    refine R_iconst (pc := 73) (v := 1) dX12_fedOne_73 (by decide) ?_
    refine R_aload_n (pc := 74) 1 dX12_fedOne_74 rfl rfl ?_
    refine R_get (pc := 75) dX12_fedOne_75 fX12_53 S_16.obj (by omega) rfl ?_
    refine R_iconst (pc := 78) (v := 0) dX12_fedOne_78 (by decide) ?_
    refine R_bipush (pc := 79) (v := 15) dX12_fedOne_79 (by decide) ?_
    refine R_callSh (pc := 81) (μ' := mX12_copy) (As := [.ref 75, .int (nI 1), .ref 75, .int (nI 0), .int (nI 15)]) (st := []) dX12_fedOne_81 zX12_copy lX12_133 ⟨by decide, by decide⟩ rfl rfl ⟨by decide, by decide⟩ rfl (Nat.le_of_ble_eq_true rfl) (oX12_copy1 S_16 hn rfl 1 0 15 (by show 1 + 15 ≤ 16; omega) (by omega)) (fun h_17 r_ q_18 => ?_)
    obtain ⟨rfl, S_19, F_20⟩ := q_18
    have S_21 : MO h_17 (uo (uo (uo ψ2 76 (pt (pt (ψ2 76) 0 (gt (ψ2 75) 0)) 0 (F (gt (pt (ψ2 76) 0 (gt (ψ2 75) 0)) 0)))) 72 (updB (ψ2 72) k ((ψ2 71 k) ^^^ ((pt (pt (ψ2 76) 0 (gt (ψ2 75) 0)) 0 (F (gt (pt (ψ2 76) 0 (gt (ψ2 75) 0)) 0))) 0)))) 75 (cpB (ψ2 75) 1 (ψ2 75) 0 15)) z i := S_19
    refine R_aload_n (pc := 84) 1 dX12_fedOne_84 rfl rfl ?_
    refine R_get (pc := 85) dX12_fedOne_85 fX12_53 S_21.obj (by omega) rfl ?_
    refine R_bipush (pc := 88) (v := 15) dX12_fedOne_88 (by decide) ?_
    refine R_iload_n (pc := 90) 2 dX12_fedOne_90 rfl rfl ?_
    refine R_if_eq (pc := 91) (tgt := 103) dX12_fedOne_91 (by decide) (fun c_22 => absurd c_22 (by decide)) (fun c_22 => ?_)
    refine R_aload_n (pc := 94) 1 dX12_fedOne_94 rfl rfl ?_
    refine R_get (pc := 95) dX12_fedOne_95 fX12_41 S_21.obj (by omega) rfl ?_
    refine R_iload_n (pc := 98) 0 dX12_fedOne_98 rfl rfl ?_
    refine R_iald' (pc := 99) (j := k) dX12_fedOne_99 (S_21.arr (p := 71) rfl) (by omega) ⟨rfl, by show k < 700; omega, by decide⟩ ?_
    refine R_eqi (y := oc (ψ2 71 k)) rfl ?_
    refine R_goto (pc := 100) (tgt := 109) dX12_fedOne_100 (by decide) ?_
    refine R_iast' (pc := 109) (j := 15) dX12_fedOne_109 (S_21.arr (p := 75) rfl) (by omega) ⟨rfl, by show 15 < 16; omega, by decide⟩ (fun h_23 f_24 g_25 => ?_)
    have S_27 : MO h_23 (uo (uo (uo ψ2 76 (pt (pt (ψ2 76) 0 (gt (ψ2 75) 0)) 0 (F (gt (pt (ψ2 76) 0 (gt (ψ2 75) 0)) 0)))) 72 (updB (ψ2 72) k ((ψ2 71 k) ^^^ ((pt (pt (ψ2 76) 0 (gt (ψ2 75) 0)) 0 (F (gt (pt (ψ2 76) 0 (gt (ψ2 75) 0)) 0))) 0)))) 75 (updB (cpB (ψ2 75) 1 (ψ2 75) 0 15) 15 (ψ2 71 k))) z i := by have z_ := MO.setA (p := 75) S_21 rfl f_24 g_25 (fun j_ => congrFun (upd_oc _ _ _) j_); rw [uo_uo] at z_; exact z_
    have F_26 := fmA (p := 75) (okA_c (by decide)).1 g_25
    refine R_iinc (pc := 110) (j := 0) (v := nI (k + 1)) (lv' := [(2, .int (nI (k + 1))), (0, .ref 61), (1, .int 1)]) dX12_fedOne_110 rfl (nI_add _ _) (by decide) rfl ?_
    refine R_goto (pc := 113) (tgt := 17) dX12_fedOne_113 (by decide) ?_
    refine R_sub [0, 1, 2] rfl ?_
    have e71 : ψ2 71 = ψ 71 := hK 71 (by decide)
    have eD : ψ2 71 k = og D k := by rw [e71, ← hs _ (by omega), Nat.zero_add]
    have eF : ∀ q : bP, bo2 q 0 = oc (ob q 0) := fun q_ => bo2_oc q_ 0
    have j1 : gt (updB (cpB (ψ2 75) 1 (ψ2 75) 0 15) 15 (ψ2 71 k)) 0 = (stN (foS F 1 D) x (k + 1)).1 := by
      rw [bci_gt]
      show _ = bci (stN (foS F 1 D) x k).1 (if (1 : Int32) = 0 then oc (og D k) ^^^ bo2 (F (stN (foS F 1 D) x k).1) 0 else oc (og D k))
      rw [if_neg (by decide), hJ.1, eD]
    have j2 : sg (updB (ψ2 72) k ((ψ2 71 k) ^^^ ((pt (pt (ψ2 76) 0 (gt (ψ2 75) 0)) 0 (F (gt (pt (ψ2 76) 0 (gt (ψ2 75) 0)) 0))) 0))) 0 (stN (foS F 1 D) x (k + 1)).2 := by
      show sg _ _ (_ ++ [t8 (oc (og D k) ^^^ bo2 (F (stN (foS F 1 D) x k).1) 0)])
      refine hJ.2.one (by rw [foS_len, Nat.zero_add]) ?_
      rw [eF, oc_xor, t8_oc, eD]; simp only [gt_pt, pt_pt]; rw [pt_at0 _ _ (by omega), hJ.1]
    exact ih (k + 1) (by omega) h_23 _ S_27 (((hK.up (by decide)).up (by decide)).up (by decide)) (⟨j1, j2⟩) (hF.tr ((((F_5.tr F_10).tr F_15).tr F_20).tr F_26))
set_option maxHeartbeats 4000000 in
set_option maxRecDepth 100000 in
theorem oX12_fedOne_o {l : Launch} {w : am_W} {h : am_H} {n : Nat} {ψ : Nat → oA} {z : fA} {i : mI} (S : MO h ψ z i) (hn : 90 ≤ n) (D : List (BitVec 8)) (hD : D.length ≤ 512) (hi3 : i 3 = nI D.length) {F G : bP → bP} (K0 : Kh ψ 0 F G) (hs : sg (ψ 71) 0 D) : RH l w mX12_fedOne h n [.ref 61, .int 1] (fun h2 q => ∃ ψ2, q = none ∧ MO h2 ψ2 z (ui i 4 (nI D.length)) ∧ FR [72, 75, 76] ψ ψ2 ∧ sg (ψ2 72) 0 (stN (foS F 1 D) (gt (ψ 73) 0) D.length).2 ∧ FM h h2) := by
  refine RC.of [(0, .ref 61), (1, .int 1)] (by decide +kernel) rfl (Nat.le_of_ble_eq_true rfl) ?_
  refine R_aload_n (pc := 0) 0 dX12_fedOne_0 rfl rfl ?_
  refine R_get (pc := 1) dX12_fedOne_1 fX12_47 S.obj (by omega) rfl ?_
  refine R_iconst (pc := 4) (v := 0) dX12_fedOne_4 (by decide) ?_
  refine R_aload_n (pc := 5) 0 dX12_fedOne_5 rfl rfl ?_
  refine R_get (pc := 6) dX12_fedOne_6 fX12_53 S.obj (by omega) rfl ?_
  refine R_iconst (pc := 9) (v := 0) dX12_fedOne_9 (by decide) ?_
  refine R_bipush (pc := 10) (v := 16) dX12_fedOne_10 (by decide) ?_
  refine R_callSh (pc := 12) (μ' := mX12_copy) (As := [.ref 73, .int (nI 0), .ref 75, .int (nI 0), .int 16]) (st := []) dX12_fedOne_12 zX12_copy lX12_133 ⟨by decide, by decide⟩ rfl rfl ⟨by decide, by decide⟩ rfl (Nat.le_of_ble_eq_true rfl) (oX12_copy16 S hn (p := 73) (q := 75) rfl rfl 0 0 (by show 0 + 16 ≤ 64; omega) (by show 0 + 16 ≤ 16; omega) (by decide)) (fun h_1 r_ q_2 => ?_)
  obtain ⟨rfl, S_3, F_4⟩ := q_2
  have S_5 : MO h_1 (uo ψ 75 (pt (ψ 75) 0 (gt (ψ 73) 0))) z i := S_3
  refine R_iconst (pc := 15) (v := 0) dX12_fedOne_15 (by decide) ?_
  refine R_istore_n (pc := 16) (lv' := [(2, .int 0), (0, .ref 61), (1, .int 1)]) dX12_fedOne_16 rfl (by decide) rfl ?_
  refine R_sub [0, 1, 2] rfl ?_
  refine qX12_fedOne_oloop (h := h) (ψ := (uo ψ 75 (pt (ψ 75) 0 (gt (ψ 73) 0)))) hn D hD hi3 (K0.uo (by decide)) hs (gt (ψ 73) 0) (fun h2 ψ2 S2 hK hJ hF => ?_) D.length 0 (by omega) h_1 _ S_5 (FR.rf _ _) ⟨gt_pt _ _ _, sg.nil _ _⟩ F_4
  refine R_aload_n (pc := 116) 1 dX12_fedOne_116 rfl rfl ?_
  refine R_aload_n (pc := 117) 1 dX12_fedOne_117 rfl rfl ?_
  refine R_get (pc := 118) dX12_fedOne_118 fX12_130 S2.obj (by omega) rfl ?_
  refine R_eqi (y := nI D.length) (hi3) ?_
  refine R_put' (pc := 121) (fs' := [.int (i 0), .ref 62, .ref 63, .int (i 1), .ref 64, .int (i 2), .ref 65, .ref 66, .ref 67, .ref 68, .ref 69, .ref 70, .ref 71, .int (i 3), .ref 72, .int (nI D.length), .ref 73, .int (i 5), .ref 74, .int (i 6), .ref 75, .ref 76, .ref 77, .ref 78, .ref 79, .ref 80, .ref 81, .ref 82, .ref 83, .ref 84, .int (i 7), .ref 85, .ref 86, .ref 87, .ref 88, .ref 89, .ref 90]) dX12_fedOne_121 fX12_153 tX12_15 rfl rfl S2.obj (by omega) (Nat.le_of_ble_eq_true rfl) rfl (fun h_6 f_7 g_8 => ?_)
  have S_9 : MO h_6 ψ2 z (ui i 4 (nI D.length)) := MO.setI (j := (ui i 4 (nI D.length))) S2 f_7 g_8
  have F_10 := fmI g_8
  exact R_vreturn (pc := 124) dX12_fedOne_124 rfl (by decide) (by decide) ⟨rfl, ψ2, rfl, S_9, (((FR.rf _ _).up (by decide)).tr hK (by decide)), hJ.2, (hF.tr F_10)⟩
