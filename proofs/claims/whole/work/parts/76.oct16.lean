theorem xb_comm (p q : bP) : xb p q = xb q p := by
  unfold xb
  rw [Int64.xor_comm, Int64.xor_comm p.2]
theorem gJ_12 {f g : oA} {N : List (BitVec 8)} (hN : N.length = 12) (h : sg f 0 N) : gt (updB (cpB f 0 (pt g 0 (0, 0)) 0 12) 15 (t8 1)) 0 = aoc (rd N 0) 15 1 := ob_ext fun k hk => by
  rw [ob_gt _ _ hk, Nat.zero_add, show (15 : Int32) = nI 15 from rfl, ob_aoc _ (by omega) _ hk, ob_rd _ _ hk, Nat.zero_add]
  by_cases h15 : k = 15
  · subst h15
    rw [updB_s, if_pos rfl, og_out (by omega)]
    simp
  · rw [updB_n h15, if_neg h15]
    unfold cpB
    by_cases h12 : k < 12
    · rw [if_pos (by omega), Nat.sub_zero, Nat.zero_add]
      exact sg0 h (by omega)
    · rw [if_neg (by omega), pt_at0 _ _ hk, ob_0 hk, og_out (by omega)]
theorem l8_nil : l8 [] = 0 := by decide
set_option maxHeartbeats 1000000 in
set_option maxRecDepth 100000 in
theorem oX12_galois_s {l : Launch} {w : am_W} {h : am_H} {n : Nat} {ψ : Nat → oA} {z : fA} {i : mI} (S : MO h ψ z i) (hn : 90 ≤ n) (A N D : List (BitVec 8)) (hA : A.length ≤ 256) (hN : N.length ≤ 64) (hD : D.length ≤ 512) (hi5 : i 5 = nI N.length) (hi6 : i 6 = nI A.length) (hsA : sg (ψ 74) 0 A) (hsN : sg (ψ 73) 0 N) (hsD : sg (ψ 71) 0 D) {F G : bP → bP} (K0 : Kh ψ 0 F G) : RH l w mX12_galois h n [.ref 61, .int 0, .int (nI D.length)] (fun h2 q => ∃ ψ2, q = none ∧ MO h2 ψ2 z i ∧ FR [72, 75, 76, 78, 79, 80, 81, 85] ψ ψ2 ∧ (sg (ψ2 72) 0 (gcO F D (gJ (F (0, 0)) N)) ∧ gt (ψ2 85) 0 = gTag F A (gcO F D (gJ (F (0, 0)) N)) D N) ∧ FM h h2) := by
  refine RC.of [(0, .ref 61), (1, .int 0), (2, .int (nI D.length))] (by decide +kernel) rfl (Nat.le_of_ble_eq_true rfl) ?_
  refine R_aload_n (pc := 0) 0 dX12_galois_0 rfl rfl ?_
  refine R_get (pc := 1) dX12_galois_1 fX12_62 S.obj (by omega) rfl ?_
  refine R_iconst (pc := 4) (v := 0) dX12_galois_4 (by decide) ?_
  refine R_bipush (pc := 5) (v := 16) dX12_galois_5 (by decide) ?_
  refine R_callSh (pc := 7) (μ' := mX12_clear) (As := [.ref 78, .int 0, .int 16]) (st := []) dX12_galois_7 zX12_clear lX12_164 ⟨by decide, by decide⟩ rfl rfl ⟨by decide, by decide⟩ rfl (Nat.le_of_ble_eq_true rfl) (oX12_clear16 S hn (q := 78) rfl (by decide)) (fun h_1 r_ q_2 => ?_)
  obtain ⟨rfl, S_3, F_4⟩ := q_2
  have S_5 : MO h_1 (uo ψ 78 (pt (ψ 78) 0 (0, 0))) z i := S_3
  refine R_aload_n (pc := 10) 0 dX12_galois_10 rfl rfl ?_
  refine R_iconst (pc := 11) (v := 0) dX12_galois_11 (by decide) ?_
  refine R_aload_n (pc := 12) 0 dX12_galois_12 rfl rfl ?_
  refine R_get (pc := 13) dX12_galois_13 fX12_62 S_5.obj (by omega) rfl ?_
  refine R_iconst (pc := 16) (v := 0) dX12_galois_16 (by decide) ?_
  refine R_callVh (pc := 17) (μ' := mX12_sealBlock) (As := [.int (nI 0), .ref 78, .int (nI 0)]) (st := []) dX12_galois_17 zX12_sealBlock lX12_146 ⟨by decide, by decide⟩ rfl rfl ⟨by decide, by decide⟩ S_5.obj (by omega) rfl (Nat.le_of_ble_eq_true rfl) (oX12_sealBlock S_5 hn (K0.uo (by decide)) (p := 78) rfl 0 (by show 0 + 16 ≤ 16; omega)) (fun h_6 r_ q_7 => ?_)
  obtain ⟨rfl, S_8, F_9⟩ := q_7
  have S_10 : MO h_6 (uo ψ 78 (pt (pt (ψ 78) 0 (0, 0)) 0 (F (gt (pt (ψ 78) 0 (0, 0)) 0)))) z i := by have z_ := S_8; rw [uo_uo] at z_; exact z_
  refine R_aload_n (pc := 20) 0 dX12_galois_20 rfl rfl ?_
  refine R_get (pc := 21) dX12_galois_21 fX12_65 S_10.obj (by omega) rfl ?_
  refine R_iconst (pc := 24) (v := 0) dX12_galois_24 (by decide) ?_
  refine R_bipush (pc := 25) (v := 16) dX12_galois_25 (by decide) ?_
  refine R_callSh (pc := 27) (μ' := mX12_clear) (As := [.ref 79, .int 0, .int 16]) (st := []) dX12_galois_27 zX12_clear lX12_164 ⟨by decide, by decide⟩ rfl rfl ⟨by decide, by decide⟩ rfl (Nat.le_of_ble_eq_true rfl) (oX12_clear16 S_10 hn (q := 79) rfl (by decide)) (fun h_11 r_ q_12 => ?_)
  obtain ⟨rfl, S_13, F_14⟩ := q_12
  have S_15 : MO h_11 (uo (uo ψ 78 (pt (pt (ψ 78) 0 (0, 0)) 0 (F (gt (pt (ψ 78) 0 (0, 0)) 0)))) 79 (pt (ψ 79) 0 (0, 0))) z i := S_13
  refine R_aload_n (pc := 30) 0 dX12_galois_30 rfl rfl ?_
  refine R_get (pc := 31) dX12_galois_31 fX12_137 S_15.obj (by omega) rfl ?_
  refine R_eqi (y := nI N.length) (hi5) ?_
  refine R_bipush (pc := 34) (v := 12) dX12_galois_34 (by decide) ?_
  refine R_icmp_ne (pc := 36) (tgt := 65) dX12_galois_36 (by decide) (fun c_16 => ?_) (fun c_16 => ?_)
  · skip
    have nc_16 : ¬ (N.length = 12) := fun q_ => c_16 ((nI_eq (a := N.length) (b := 12) (by omega) (by omega)).mpr q_)
    refine R_aload_n (pc := 65) 0 dX12_galois_65 rfl rfl ?_
    refine R_aload_n (pc := 66) 0 dX12_galois_66 rfl rfl ?_
    refine R_get (pc := 67) dX12_galois_67 fX12_47 S_15.obj (by omega) rfl ?_
    refine R_iconst (pc := 70) (v := 0) dX12_galois_70 (by decide) ?_
    refine R_aload_n (pc := 71) 0 dX12_galois_71 rfl rfl ?_
    refine R_get (pc := 72) dX12_galois_72 fX12_137 S_15.obj (by omega) rfl ?_
    refine R_eqi (y := nI N.length) (hi5) ?_
    have h75 : gt (pt (pt (ψ 78) 0 (0, 0)) 0 (F (gt (pt (ψ 78) 0 (0, 0)) 0))) 0 = (F (0, 0)) := by simp only [gt_pt, pt_pt]
    refine R_callVh (pc := 75) (μ' := mX12_sumRow) (As := [.ref 73, .int 0, .int (nI N.length)]) (st := []) dX12_galois_75 zX12_sumRow lX12_198 ⟨by decide, by decide⟩ rfl rfl ⟨by decide, by decide⟩ S_15.obj (by omega) rfl (Nat.le_of_ble_eq_true rfl) (oX12_sumRow S_15 hn (p := 73) rfl (by decide) N (by omega) (by show N.length ≤ 64; omega) hsN (F (0, 0)) h75) (fun h_17 r_ q_18 => ?_)
    obtain ⟨ψ_22, rfl, S_19, K_21, J_23, F_20⟩ := q_18
    have K_24 := ((K0.uo (by decide)).uo (by decide)).fr K_21 (by decide) (by decide) (by decide) (by decide)
    have s75 : gt (ψ_22 79) 0 = gab (F (0, 0)) N (gt (pt (ψ 79) 0 (0, 0)) 0) := J_23
    have eH : gt (ψ_22 78) 0 = (F (0, 0)) := by rw [K_21 78 (by decide)]; exact h75
    have t75 : ψ_22 85 = ψ 85 := K_21 85 (by decide)
    have y75 : ψ_22 72 = ψ 72 := K_21 72 (by decide)
    refine R_aload_n (pc := 78) 0 dX12_galois_78 rfl rfl ?_
    refine R_iconst (pc := 79) (v := 0) dX12_galois_79 (by decide) ?_
    refine R_aload_n (pc := 80) 0 dX12_galois_80 rfl rfl ?_
    refine R_get (pc := 81) dX12_galois_81 fX12_137 S_19.obj (by omega) rfl ?_
    refine R_eqi (y := nI N.length) (hi5) ?_
    refine R_callVh (pc := 84) (μ' := mX12_sumLengths) (As := [.int (nI 0), .int (nI N.length)]) (st := []) dX12_galois_84 zX12_sumLengths lX12_201 ⟨by decide, by decide⟩ rfl rfl ⟨by decide, by decide⟩ S_19.obj (by omega) rfl (Nat.le_of_ble_eq_true rfl) (oX12_sumLengths S_19 hn 0 N.length (by omega) (by omega)) (fun h_25 r_ q_26 => ?_)
    obtain ⟨ψ_30, rfl, S_27, K_29, J_31, F_28⟩ := q_26
    have K_32 := K_24.fr K_29 (by decide) (by decide) (by decide) (by decide)
    have s84 : gt (ψ_30 79) 0 = gmu (xb (gt (ψ_22 79) 0) (l8 [], l8 N)) (F (0, 0)) := by have z_ : gt (ψ_30 79) 0 = gmu (gt (slF 0 N.length (ψ_22 79) 4) 0) (gt (ψ_22 78) 0) := J_31; rw [show gt (slF 0 N.length (ψ_22 79) 4) 0 = _ from slF_gt (A := []) (B := N) (by simp; try omega) (by omega), eH] at z_; exact z_
    have fH : gt (ψ_30 78) 0 = (F (0, 0)) := by rw [K_29 78 (by decide)]; exact eH
    have t84 : ψ_30 85 = ψ_22 85 := K_29 85 (by decide)
    have y84 : ψ_30 72 = ψ_22 72 := K_29 72 (by decide)
    have eJ : gt (ψ_30 79) 0 = (gJ (F (0, 0)) N) := by rw [show (gJ (F (0, 0)) N) = gmu (xb (gab (F (0, 0)) N (0, 0)) (0, l8 N)) (F (0, 0)) from if_neg c_16, s84, s75, gt_pt, l8_nil]
    have gH : gt (ψ_30 78) 0 = (F (0, 0)) := fH
    obtain ⟨ψ5, e5⟩ : ∃ x, x = ψ_30 := ⟨_, rfl⟩
    have K5 : FR [72, 75, 76, 78, 79, 80, 81, 85] ψ ψ5 := by rw [e5]; exact (((((FR.rf _ _).up (by decide)).up (by decide)).tr K_21 (by decide)).tr K_29 (by decide))
    have Kk : Kh ψ5 0 F G := by rw [e5]; exact K_32
    have j5 : gt (ψ5 79) 0 = (gJ (F (0, 0)) N) := by rw [e5]; exact eJ
    have g5 : gt (ψ5 78) 0 = (F (0, 0)) := by rw [e5]; exact gH
    have S5 : MO h_25 ψ5 z i := by rw [e5]; exact S_27
    refine R_aload_n (pc := 87) 0 dX12_galois_87 rfl rfl ?_
    refine R_get (pc := 88) dX12_galois_88 fX12_65 S5.obj (by omega) rfl ?_
    refine R_iconst (pc := 91) (v := 0) dX12_galois_91 (by decide) ?_
    refine R_aload_n (pc := 92) 0 dX12_galois_92 rfl rfl ?_
    refine R_get (pc := 93) dX12_galois_93 fX12_53 S5.obj (by omega) rfl ?_
    refine R_iconst (pc := 96) (v := 0) dX12_galois_96 (by decide) ?_
    refine R_bipush (pc := 97) (v := 16) dX12_galois_97 (by decide) ?_
    refine R_callSh (pc := 99) (μ' := mX12_copy) (As := [.ref 79, .int (nI 0), .ref 75, .int (nI 0), .int 16]) (st := []) dX12_galois_99 zX12_copy lX12_133 ⟨by decide, by decide⟩ rfl rfl ⟨by decide, by decide⟩ rfl (Nat.le_of_ble_eq_true rfl) (oX12_copy16 S5 hn (p := 79) (q := 75) rfl rfl 0 0 (by show 0 + 16 ≤ 16; omega) (by show 0 + 16 ≤ 16; omega) (by decide)) (fun h_33 r_ q_34 => ?_)
    obtain ⟨rfl, S_35, F_36⟩ := q_34
    have S_37 : MO h_33 (uo ψ5 75 (pt (ψ5 75) 0 (gt (ψ5 79) 0))) z i := S_35
    refine R_aload_n (pc := 102) 0 dX12_galois_102 rfl rfl ?_
    refine R_get (pc := 103) dX12_galois_103 fX12_65 S_37.obj (by omega) rfl ?_
    refine R_iconst (pc := 106) (v := 0) dX12_galois_106 (by decide) ?_
    refine R_aload_n (pc := 107) 0 dX12_galois_107 rfl rfl ?_
    refine R_get (pc := 108) dX12_galois_108 fX12_83 S_37.obj (by omega) rfl ?_
    refine R_iconst (pc := 111) (v := 0) dX12_galois_111 (by decide) ?_
    refine R_bipush (pc := 112) (v := 16) dX12_galois_112 (by decide) ?_
    refine R_callSh (pc := 114) (μ' := mX12_copy) (As := [.ref 79, .int (nI 0), .ref 85, .int (nI 0), .int 16]) (st := []) dX12_galois_114 zX12_copy lX12_133 ⟨by decide, by decide⟩ rfl rfl ⟨by decide, by decide⟩ rfl (Nat.le_of_ble_eq_true rfl) (oX12_copy16 S_37 hn (p := 79) (q := 85) rfl rfl 0 0 (by show 0 + 16 ≤ 16; omega) (by show 0 + 16 ≤ 16; omega) (by decide)) (fun h_38 r_ q_39 => ?_)
    obtain ⟨rfl, S_40, F_41⟩ := q_39
    have S_42 : MO h_38 (uo (uo ψ5 75 (pt (ψ5 75) 0 (gt (ψ5 79) 0))) 85 (pt (ψ5 85) 0 (gt (ψ5 79) 0))) z i := S_40
    refine R_aload_n (pc := 117) 0 dX12_galois_117 rfl rfl ?_
    refine R_iconst (pc := 118) (v := 0) dX12_galois_118 (by decide) ?_
    refine R_aload_n (pc := 119) 0 dX12_galois_119 rfl rfl ?_
    refine R_get (pc := 120) dX12_galois_120 fX12_83 S_42.obj (by omega) rfl ?_
    refine R_iconst (pc := 123) (v := 0) dX12_galois_123 (by decide) ?_
    refine R_callVh (pc := 124) (μ' := mX12_sealBlock) (As := [.int (nI 0), .ref 85, .int (nI 0)]) (st := []) dX12_galois_124 zX12_sealBlock lX12_146 ⟨by decide, by decide⟩ rfl rfl ⟨by decide, by decide⟩ S_42.obj (by omega) rfl (Nat.le_of_ble_eq_true rfl) (oX12_sealBlock S_42 hn ((Kk.uo (by decide)).uo (by decide)) (p := 85) rfl 0 (by show 0 + 16 ≤ 16; omega)) (fun h_43 r_ q_44 => ?_)
    obtain ⟨rfl, S_45, F_46⟩ := q_44
    have S_47 : MO h_43 (uo (uo ψ5 75 (pt (ψ5 75) 0 (gt (ψ5 79) 0))) 85 (pt (pt (ψ5 85) 0 (gt (ψ5 79) 0)) 0 (F (gt (pt (ψ5 85) 0 (gt (ψ5 79) 0)) 0)))) z i := by have z_ := S_45; rw [uo_uo] at z_; exact z_
    refine R_aload_n (pc := 127) 0 dX12_galois_127 rfl rfl ?_
    refine R_get (pc := 128) dX12_galois_128 fX12_53 S_47.obj (by omega) rfl ?_
    refine R_bipush (pc := 131) (v := 12) dX12_galois_131 (by decide) ?_
    refine R_callSh (pc := 133) (μ' := mX12_oneMore) (As := [.ref 75, .int (nI 12)]) (st := []) dX12_galois_133 zX12_oneMore lX12_168 ⟨by decide, by decide⟩ rfl rfl ⟨by decide, by decide⟩ rfl (Nat.le_of_ble_eq_true rfl) (oX12_oneMore S_47 hn (q := 75) rfl (by decide) 12 (by omega)) (fun h_48 r_ q_49 => ?_)
    obtain ⟨rfl, S_50, F_51⟩ := q_49
    have S_52 : MO h_48 (uo (uo (uo ψ5 75 (pt (ψ5 75) 0 (gt (ψ5 79) 0))) 85 (pt (pt (ψ5 85) 0 (gt (ψ5 79) 0)) 0 (F (gt (pt (ψ5 85) 0 (gt (ψ5 79) 0)) 0)))) 75 (omB 12 16 (pt (ψ5 75) 0 (gt (ψ5 79) 0)))) z i := S_50
    refine R_aload_n (pc := 136) 0 dX12_galois_136 rfl rfl ?_
    refine R_iconst (pc := 137) (v := 0) dX12_galois_137 (by decide) ?_
    refine R_iconst (pc := 138) (v := 0) dX12_galois_138 (by decide) ?_
    refine R_iconst (pc := 139) (v := 0) dX12_galois_139 (by decide) ?_
    refine R_iload_n (pc := 140) 2 dX12_galois_140 rfl rfl ?_
    refine R_bipush (pc := 141) (v := 12) dX12_galois_141 (by decide) ?_
    have e71 : ψ5 71 = ψ 71 := (show FR [72, 75, 76, 78, 79, 80, 81, 85] ψ _ from K5) 71 (by decide)
    refine R_callVh (pc := 143) (μ' := mX12_count) (As := [.int (nI 0), .int (nI 0), .int (nI 0), .int (nI D.length), .int (nI 12)]) (st := []) dX12_galois_143 zX12_count lX12_204 ⟨by decide, by decide⟩ rfl rfl ⟨by decide, by decide⟩ S_52.obj (by omega) rfl (Nat.le_of_ble_eq_true rfl) (oX12_count S_52 hn 0 0 0 D.length 12 (by omega) (by omega) (by omega) (((Kk.uo (by decide)).uo (by decide)).uo (by decide)) (fun j => one4 (stN (gcS F D) (gJ (F (0, 0)) N) j).1) (fun j_ f_ _ e_ => by rw [om_one4 f_, e_]; rfl) ((om_one4 _).trans (congrArg one4 ((gt_pt _ _ _).trans j5)))) (fun h_53 r_ q_54 => ?_)
    obtain ⟨ψ_58, rfl, S_55, K_57, J_59, F_56⟩ := q_54
    have K_60 := (((Kk.uo (by decide)).uo (by decide)).uo (by decide)).fr K_57 (by decide) (by decide) (by decide) (by decide)
    have eH : gt (ψ_58 78) 0 = (F (0, 0)) := by rw [K_57 78 (by decide)]; exact g5
    have t143 : ψ_58 85 = pt (pt (ψ5 85) 0 (gt (ψ5 79) 0)) 0 (F (gt (pt (ψ5 85) 0 (gt (ψ5 79) 0)) 0)) := K_57 85 (by decide)
    have lO : (gcO F D (gJ (F (0, 0)) N)).length = D.length := by unfold gcO; rw [stN_lenM D (fun j_ y_ => gcS_len F D j_ y_)]; have := nbk_b D; omega
    have c_ : ψ_58 72 = pgB _ _ 0 D.length := J_59
    have yC : sg (ψ_58 72) 0 (gcO F D (gJ (F (0, 0)) N)) := by
      refine stN_sg (H := fun x_ => F (one4 x_)) (fun _ _ => rfl) (fun j_ hj_ => ?_)
      rw [c_, pgB_in _ _ (by omega) (by omega), Nat.zero_add, Nat.sub_zero, Nat.zero_add]
      exact congrArg (fun v_ => v_ ^^^ _) (by show ψ5 71 j_ = _; rw [e71]; exact sg0 hsD hj_)
    refine R_aload_n (pc := 146) 0 dX12_galois_146 rfl rfl ?_
    refine R_get (pc := 147) dX12_galois_147 fX12_65 S_55.obj (by omega) rfl ?_
    refine R_iconst (pc := 150) (v := 0) dX12_galois_150 (by decide) ?_
    refine R_bipush (pc := 151) (v := 16) dX12_galois_151 (by decide) ?_
    refine R_callSh (pc := 153) (μ' := mX12_clear) (As := [.ref 79, .int 0, .int 16]) (st := []) dX12_galois_153 zX12_clear lX12_164 ⟨by decide, by decide⟩ rfl rfl ⟨by decide, by decide⟩ rfl (Nat.le_of_ble_eq_true rfl) (oX12_clear16 S_55 hn (q := 79) rfl (by decide)) (fun h_61 r_ q_62 => ?_)
    obtain ⟨rfl, S_63, F_64⟩ := q_62
    have S_65 : MO h_61 (uo ψ_58 79 (pt (ψ_58 79) 0 (0, 0))) z i := S_63
    refine R_aload_n (pc := 156) 0 dX12_galois_156 rfl rfl ?_
    refine R_aload_n (pc := 157) 0 dX12_galois_157 rfl rfl ?_
    refine R_get (pc := 158) dX12_galois_158 fX12_50 S_65.obj (by omega) rfl ?_
    refine R_iconst (pc := 161) (v := 0) dX12_galois_161 (by decide) ?_
    refine R_aload_n (pc := 162) 0 dX12_galois_162 rfl rfl ?_
    refine R_get (pc := 163) dX12_galois_163 fX12_140 S_65.obj (by omega) rfl ?_
    refine R_eqi (y := nI A.length) (hi6) ?_
    have h166 : gt (ψ_58 78) 0 = (F (0, 0)) := by exact eH
    refine R_callVh (pc := 166) (μ' := mX12_sumRow) (As := [.ref 74, .int 0, .int (nI A.length)]) (st := []) dX12_galois_166 zX12_sumRow lX12_198 ⟨by decide, by decide⟩ rfl rfl ⟨by decide, by decide⟩ S_65.obj (by omega) rfl (Nat.le_of_ble_eq_true rfl) (oX12_sumRow S_65 hn (p := 74) rfl (by decide) A (by omega) (by show A.length ≤ 256; omega) (show sg (ψ_58 74) 0 A by rw [show ψ_58 74 = ψ 74 from (show FR [72, 75, 76, 78, 79, 80, 81, 85] ψ _ from ((((K5.up (by decide)).up (by decide)).up (by decide)).tr K_57 (by decide))) 74 (by decide)]; exact hsA) (F (0, 0)) h166) (fun h_66 r_ q_67 => ?_)
    obtain ⟨ψ_71, rfl, S_68, K_70, J_72, F_69⟩ := q_67
    have K_73 := (K_60.uo (by decide)).fr K_70 (by decide) (by decide) (by decide) (by decide)
    have s166 : gt (ψ_71 79) 0 = gab (F (0, 0)) A (gt (pt (ψ_58 79) 0 (0, 0)) 0) := J_72
    have eH : gt (ψ_71 78) 0 = (F (0, 0)) := by rw [K_70 78 (by decide)]; exact h166
    have t166 : ψ_71 85 = ψ_58 85 := K_70 85 (by decide)
    have y166 : ψ_71 72 = ψ_58 72 := K_70 72 (by decide)
    have yO : sg (ψ_71 72) 0 (gcO F D (gJ (F (0, 0)) N)) := by rw [y166]; exact yC
    refine R_aload_n (pc := 169) 0 dX12_galois_169 rfl rfl ?_
    refine R_iload_n (pc := 170) 1 dX12_galois_170 rfl rfl ?_
    refine R_if_eq (pc := 171) (tgt := 181) dX12_galois_171 (by decide) (fun c_74 => ?_) (fun c_74 => absurd (rfl) c_74)
    refine R_aload_n (pc := 181) 0 dX12_galois_181 rfl rfl ?_
    refine R_get (pc := 182) dX12_galois_182 fX12_44 S_68.obj (by omega) rfl ?_
    refine R_iconst (pc := 185) (v := 0) dX12_galois_185 (by decide) ?_
    refine R_iload_n (pc := 186) 2 dX12_galois_186 rfl rfl ?_
    refine R_eqi (y := nI (gcO F D (gJ (F (0, 0)) N)).length) (by rw [lO]) ?_
    have h187 : gt (ψ_71 78) 0 = (F (0, 0)) := by exact eH
    refine R_callVh (pc := 187) (μ' := mX12_sumRow) (As := [.ref 72, .int 0, .int (nI (gcO F D (gJ (F (0, 0)) N)).length)]) (st := []) dX12_galois_187 zX12_sumRow lX12_198 ⟨by decide, by decide⟩ rfl rfl ⟨by decide, by decide⟩ S_68.obj (by omega) rfl (Nat.le_of_ble_eq_true rfl) (oX12_sumRow S_68 hn (p := 72) rfl (by decide) (gcO F D (gJ (F (0, 0)) N)) (by rw [lO]; omega) (by rw [lO]; show D.length ≤ 700; omega) yO (F (0, 0)) h187) (fun h_75 r_ q_76 => ?_)
    obtain ⟨ψ_80, rfl, S_77, K_79, J_81, F_78⟩ := q_76
    have K_82 := K_73.fr K_79 (by decide) (by decide) (by decide) (by decide)
    have s187 : gt (ψ_80 79) 0 = gab (F (0, 0)) (gcO F D (gJ (F (0, 0)) N)) (gt (ψ_71 79) 0) := J_81
    have eH : gt (ψ_80 78) 0 = (F (0, 0)) := by rw [K_79 78 (by decide)]; exact h187
    have t187 : ψ_80 85 = ψ_71 85 := K_79 85 (by decide)
    have y187 : ψ_80 72 = ψ_71 72 := K_79 72 (by decide)
    refine R_aload_n (pc := 190) 0 dX12_galois_190 rfl rfl ?_
    refine R_aload_n (pc := 191) 0 dX12_galois_191 rfl rfl ?_
    refine R_get (pc := 192) dX12_galois_192 fX12_140 S_77.obj (by omega) rfl ?_
    refine R_eqi (y := nI A.length) (hi6) ?_
    refine R_iload_n (pc := 195) 2 dX12_galois_195 rfl rfl ?_
    refine R_callVh (pc := 196) (μ' := mX12_sumLengths) (As := [.int (nI A.length), .int (nI D.length)]) (st := []) dX12_galois_196 zX12_sumLengths lX12_201 ⟨by decide, by decide⟩ rfl rfl ⟨by decide, by decide⟩ S_77.obj (by omega) rfl (Nat.le_of_ble_eq_true rfl) (oX12_sumLengths S_77 hn A.length D.length (by omega) (by omega)) (fun h_83 r_ q_84 => ?_)
    obtain ⟨ψ_88, rfl, S_85, K_87, J_89, F_86⟩ := q_84
    have K_90 := K_82.fr K_87 (by decide) (by decide) (by decide) (by decide)
    have s196 : gt (ψ_88 79) 0 = gmu (xb (gt (ψ_80 79) 0) (l8 A, l8 D)) (F (0, 0)) := by have z_ : gt (ψ_88 79) 0 = gmu (gt (slF A.length D.length (ψ_80 79) 4) 0) (gt (ψ_80 78) 0) := J_89; rw [show gt (slF A.length D.length (ψ_80 79) 4) 0 = _ from slF_gt (A := A) (B := D) (by simp; try omega) (by omega), eH] at z_; exact z_
    have fH : gt (ψ_88 78) 0 = (F (0, 0)) := by rw [K_87 78 (by decide)]; exact eH
    have t196 : ψ_88 85 = ψ_80 85 := K_87 85 (by decide)
    have y196 : ψ_88 72 = ψ_80 72 := K_87 72 (by decide)
    refine R_aload_n (pc := 199) 0 dX12_galois_199 rfl rfl ?_
    refine R_get (pc := 200) dX12_galois_200 fX12_65 S_85.obj (by omega) rfl ?_
    refine R_iconst (pc := 203) (v := 0) dX12_galois_203 (by decide) ?_
    refine R_aload_n (pc := 204) 0 dX12_galois_204 rfl rfl ?_
    refine R_get (pc := 205) dX12_galois_205 fX12_83 S_85.obj (by omega) rfl ?_
    refine R_iconst (pc := 208) (v := 0) dX12_galois_208 (by decide) ?_
    refine R_bipush (pc := 209) (v := 16) dX12_galois_209 (by decide) ?_
    refine R_callSh (pc := 211) (μ' := mX12_add) (As := [.ref 79, .int (nI 0), .ref 85, .int (nI 0), .int 16]) (st := []) dX12_galois_211 zX12_add lX12_143 ⟨by decide, by decide⟩ rfl rfl ⟨by decide, by decide⟩ rfl (Nat.le_of_ble_eq_true rfl) (oX12_add16 S_85 hn (p := 79) (q := 85) rfl rfl 0 0 (by show 0 + 16 ≤ 16; omega) (by show 0 + 16 ≤ 16; omega) (by decide)) (fun h_91 r_ q_92 => ?_)
    obtain ⟨rfl, S_93, F_94⟩ := q_92
    have S_95 : MO h_91 (uo ψ_88 85 (pt (ψ_88 85) 0 (xb (gt (ψ_88 85) 0) (gt (ψ_88 79) 0)))) z i := S_93
    have hy : gt (pt (ψ_88 85) 0 (xb (gt (ψ_88 85) 0) (gt (ψ_88 79) 0))) 0 = gTag F A (gcO F D (gJ (F (0, 0)) N)) D N := by
      unfold gTag
      rw [gt_pt, s196, s187, s166, t196, t187, t166]
      rw [gt_pt, t143]
      simp only [gt_pt, pt_pt]
      rw [j5, xb_comm]
    have hz : sg (ψ_88 72) 0 (gcO F D (gJ (F (0, 0)) N)) := by rw [y196, y187]; exact yO
    exact R_vreturn (pc := 214) dX12_galois_214 rfl (by decide) (by decide) ⟨rfl, _, rfl, S_95, (((((((((K5.up (by decide)).up (by decide)).up (by decide)).tr K_57 (by decide)).up (by decide)).tr K_70 (by decide)).tr K_79 (by decide)).tr K_87 (by decide)).up (by decide)), ⟨hz, hy⟩, ((((((((((((((F_4.tr F_9).tr F_14).tr F_20).tr F_28).tr F_36).tr F_41).tr F_46).tr F_51).tr F_56).tr F_64).tr F_69).tr F_78).tr F_86).tr F_94)⟩
  · skip
    have nc_16 : N.length = 12 := (nI_eq (a := N.length) (b := 12) (by omega) (by omega)).mp c_16
    refine R_aload_n (pc := 39) 0 dX12_galois_39 rfl rfl ?_
    refine R_get (pc := 40) dX12_galois_40 fX12_47 S_15.obj (by omega) rfl ?_
    refine R_iconst (pc := 43) (v := 0) dX12_galois_43 (by decide) ?_
    refine R_aload_n (pc := 44) 0 dX12_galois_44 rfl rfl ?_
    refine R_get (pc := 45) dX12_galois_45 fX12_65 S_15.obj (by omega) rfl ?_
    refine R_iconst (pc := 48) (v := 0) dX12_galois_48 (by decide) ?_
    refine R_bipush (pc := 49) (v := 12) dX12_galois_49 (by decide) ?_
    refine R_callSh (pc := 51) (μ' := mX12_copy) (As := [.ref 73, .int (nI 0), .ref 79, .int (nI 0), .int (nI 12)]) (st := []) dX12_galois_51 zX12_copy lX12_133 ⟨by decide, by decide⟩ rfl rfl ⟨by decide, by decide⟩ rfl (Nat.le_of_ble_eq_true rfl) (oX12_copy S_15 hn (p := 73) (q := 79) rfl rfl 0 0 12 (by show 0 + 12 ≤ 64; omega) (by show 0 + 12 ≤ 16; omega) (by decide)) (fun h_96 r_ q_97 => ?_)
    obtain ⟨rfl, S_98, F_99⟩ := q_97
    have S_100 : MO h_96 (uo (uo ψ 78 (pt (pt (ψ 78) 0 (0, 0)) 0 (F (gt (pt (ψ 78) 0 (0, 0)) 0)))) 79 (cpB (ψ 73) 0 (pt (ψ 79) 0 (0, 0)) 0 12)) z i := by have z_ := S_98; rw [uo_uo] at z_; exact z_
    refine R_aload_n (pc := 54) 0 dX12_galois_54 rfl rfl ?_
    refine R_get (pc := 55) dX12_galois_55 fX12_65 S_100.obj (by omega) rfl ?_
    refine R_bipush (pc := 58) (v := 15) dX12_galois_58 (by decide) ?_
    refine R_iconst (pc := 60) (v := 1) dX12_galois_60 (by decide) ?_
    refine R_eqi (y := oc (t8 1)) (by decide) ?_
    refine R_iast' (pc := 61) (j := 15) dX12_galois_61 (S_100.arr (p := 79) rfl) (by omega) ⟨rfl, by show 15 < 16; omega, by decide⟩ (fun h_101 f_102 g_103 => ?_)
    have S_105 : MO h_101 (uo (uo ψ 78 (pt (pt (ψ 78) 0 (0, 0)) 0 (F (gt (pt (ψ 78) 0 (0, 0)) 0)))) 79 (updB (cpB (ψ 73) 0 (pt (ψ 79) 0 (0, 0)) 0 12) 15 (t8 1))) z i := by have z_ := MO.setA (p := 79) S_100 rfl f_102 g_103 (fun j_ => congrFun (upd_oc _ _ _) j_); rw [uo_uo] at z_; exact z_
    have F_104 := fmA (p := 79) (okA_c (by decide)).1 g_103
    refine R_goto (pc := 62) (tgt := 87) dX12_galois_62 (by decide) ?_
    have eJ : gt (updB (cpB (ψ 73) 0 (pt (ψ 79) 0 (0, 0)) 0 12) 15 (t8 1)) 0 = (gJ (F (0, 0)) N) := by rw [show (gJ (F (0, 0)) N) = aoc (rd N 0) 15 1 from if_pos c_16]; exact gJ_12 nc_16 hsN
    have gH : gt (pt (pt (ψ 78) 0 (0, 0)) 0 (F (gt (pt (ψ 78) 0 (0, 0)) 0))) 0 = (F (0, 0)) := by simp only [gt_pt, pt_pt]
    obtain ⟨ψ5, e5⟩ : ∃ x, x = (uo (uo ψ 78 (pt (pt (ψ 78) 0 (0, 0)) 0 (F (gt (pt (ψ 78) 0 (0, 0)) 0)))) 79 (updB (cpB (ψ 73) 0 (pt (ψ 79) 0 (0, 0)) 0 12) 15 (t8 1))) := ⟨_, rfl⟩
    have K5 : FR [72, 75, 76, 78, 79, 80, 81, 85] ψ ψ5 := by rw [e5]; exact (((FR.rf _ _).up (by decide)).up (by decide))
    have Kk : Kh ψ5 0 F G := by rw [e5]; exact ((K0.uo (by decide)).uo (by decide))
    have j5 : gt (ψ5 79) 0 = (gJ (F (0, 0)) N) := by rw [e5]; exact eJ
    have g5 : gt (ψ5 78) 0 = (F (0, 0)) := by rw [e5]; exact gH
    have S5 : MO h_101 ψ5 z i := by rw [e5]; exact S_105
    refine R_aload_n (pc := 87) 0 dX12_galois_87 rfl rfl ?_
    refine R_get (pc := 88) dX12_galois_88 fX12_65 S5.obj (by omega) rfl ?_
    refine R_iconst (pc := 91) (v := 0) dX12_galois_91 (by decide) ?_
    refine R_aload_n (pc := 92) 0 dX12_galois_92 rfl rfl ?_
    refine R_get (pc := 93) dX12_galois_93 fX12_53 S5.obj (by omega) rfl ?_
    refine R_iconst (pc := 96) (v := 0) dX12_galois_96 (by decide) ?_
    refine R_bipush (pc := 97) (v := 16) dX12_galois_97 (by decide) ?_
    refine R_callSh (pc := 99) (μ' := mX12_copy) (As := [.ref 79, .int (nI 0), .ref 75, .int (nI 0), .int 16]) (st := []) dX12_galois_99 zX12_copy lX12_133 ⟨by decide, by decide⟩ rfl rfl ⟨by decide, by decide⟩ rfl (Nat.le_of_ble_eq_true rfl) (oX12_copy16 S5 hn (p := 79) (q := 75) rfl rfl 0 0 (by show 0 + 16 ≤ 16; omega) (by show 0 + 16 ≤ 16; omega) (by decide)) (fun h_106 r_ q_107 => ?_)
    obtain ⟨rfl, S_108, F_109⟩ := q_107
    have S_110 : MO h_106 (uo ψ5 75 (pt (ψ5 75) 0 (gt (ψ5 79) 0))) z i := S_108
    refine R_aload_n (pc := 102) 0 dX12_galois_102 rfl rfl ?_
    refine R_get (pc := 103) dX12_galois_103 fX12_65 S_110.obj (by omega) rfl ?_
    refine R_iconst (pc := 106) (v := 0) dX12_galois_106 (by decide) ?_
    refine R_aload_n (pc := 107) 0 dX12_galois_107 rfl rfl ?_
    refine R_get (pc := 108) dX12_galois_108 fX12_83 S_110.obj (by omega) rfl ?_
    refine R_iconst (pc := 111) (v := 0) dX12_galois_111 (by decide) ?_
    refine R_bipush (pc := 112) (v := 16) dX12_galois_112 (by decide) ?_
    refine R_callSh (pc := 114) (μ' := mX12_copy) (As := [.ref 79, .int (nI 0), .ref 85, .int (nI 0), .int 16]) (st := []) dX12_galois_114 zX12_copy lX12_133 ⟨by decide, by decide⟩ rfl rfl ⟨by decide, by decide⟩ rfl (Nat.le_of_ble_eq_true rfl) (oX12_copy16 S_110 hn (p := 79) (q := 85) rfl rfl 0 0 (by show 0 + 16 ≤ 16; omega) (by show 0 + 16 ≤ 16; omega) (by decide)) (fun h_111 r_ q_112 => ?_)
    obtain ⟨rfl, S_113, F_114⟩ := q_112
    have S_115 : MO h_111 (uo (uo ψ5 75 (pt (ψ5 75) 0 (gt (ψ5 79) 0))) 85 (pt (ψ5 85) 0 (gt (ψ5 79) 0))) z i := S_113
    refine R_aload_n (pc := 117) 0 dX12_galois_117 rfl rfl ?_
    refine R_iconst (pc := 118) (v := 0) dX12_galois_118 (by decide) ?_
    refine R_aload_n (pc := 119) 0 dX12_galois_119 rfl rfl ?_
    refine R_get (pc := 120) dX12_galois_120 fX12_83 S_115.obj (by omega) rfl ?_
    refine R_iconst (pc := 123) (v := 0) dX12_galois_123 (by decide) ?_
    refine R_callVh (pc := 124) (μ' := mX12_sealBlock) (As := [.int (nI 0), .ref 85, .int (nI 0)]) (st := []) dX12_galois_124 zX12_sealBlock lX12_146 ⟨by decide, by decide⟩ rfl rfl ⟨by decide, by decide⟩ S_115.obj (by omega) rfl (Nat.le_of_ble_eq_true rfl) (oX12_sealBlock S_115 hn ((Kk.uo (by decide)).uo (by decide)) (p := 85) rfl 0 (by show 0 + 16 ≤ 16; omega)) (fun h_116 r_ q_117 => ?_)
    obtain ⟨rfl, S_118, F_119⟩ := q_117
    have S_120 : MO h_116 (uo (uo ψ5 75 (pt (ψ5 75) 0 (gt (ψ5 79) 0))) 85 (pt (pt (ψ5 85) 0 (gt (ψ5 79) 0)) 0 (F (gt (pt (ψ5 85) 0 (gt (ψ5 79) 0)) 0)))) z i := by have z_ := S_118; rw [uo_uo] at z_; exact z_
    refine R_aload_n (pc := 127) 0 dX12_galois_127 rfl rfl ?_
    refine R_get (pc := 128) dX12_galois_128 fX12_53 S_120.obj (by omega) rfl ?_
    refine R_bipush (pc := 131) (v := 12) dX12_galois_131 (by decide) ?_
    refine R_callSh (pc := 133) (μ' := mX12_oneMore) (As := [.ref 75, .int (nI 12)]) (st := []) dX12_galois_133 zX12_oneMore lX12_168 ⟨by decide, by decide⟩ rfl rfl ⟨by decide, by decide⟩ rfl (Nat.le_of_ble_eq_true rfl) (oX12_oneMore S_120 hn (q := 75) rfl (by decide) 12 (by omega)) (fun h_121 r_ q_122 => ?_)
    obtain ⟨rfl, S_123, F_124⟩ := q_122
    have S_125 : MO h_121 (uo (uo (uo ψ5 75 (pt (ψ5 75) 0 (gt (ψ5 79) 0))) 85 (pt (pt (ψ5 85) 0 (gt (ψ5 79) 0)) 0 (F (gt (pt (ψ5 85) 0 (gt (ψ5 79) 0)) 0)))) 75 (omB 12 16 (pt (ψ5 75) 0 (gt (ψ5 79) 0)))) z i := S_123
    refine R_aload_n (pc := 136) 0 dX12_galois_136 rfl rfl ?_
    refine R_iconst (pc := 137) (v := 0) dX12_galois_137 (by decide) ?_
    refine R_iconst (pc := 138) (v := 0) dX12_galois_138 (by decide) ?_
    refine R_iconst (pc := 139) (v := 0) dX12_galois_139 (by decide) ?_
    refine R_iload_n (pc := 140) 2 dX12_galois_140 rfl rfl ?_
    refine R_bipush (pc := 141) (v := 12) dX12_galois_141 (by decide) ?_
    have e71 : ψ5 71 = ψ 71 := (show FR [72, 75, 76, 78, 79, 80, 81, 85] ψ _ from K5) 71 (by decide)
    refine R_callVh (pc := 143) (μ' := mX12_count) (As := [.int (nI 0), .int (nI 0), .int (nI 0), .int (nI D.length), .int (nI 12)]) (st := []) dX12_galois_143 zX12_count lX12_204 ⟨by decide, by decide⟩ rfl rfl ⟨by decide, by decide⟩ S_125.obj (by omega) rfl (Nat.le_of_ble_eq_true rfl) (oX12_count S_125 hn 0 0 0 D.length 12 (by omega) (by omega) (by omega) (((Kk.uo (by decide)).uo (by decide)).uo (by decide)) (fun j => one4 (stN (gcS F D) (gJ (F (0, 0)) N) j).1) (fun j_ f_ _ e_ => by rw [om_one4 f_, e_]; rfl) ((om_one4 _).trans (congrArg one4 ((gt_pt _ _ _).trans j5)))) (fun h_126 r_ q_127 => ?_)
    obtain ⟨ψ_131, rfl, S_128, K_130, J_132, F_129⟩ := q_127
    have K_133 := (((Kk.uo (by decide)).uo (by decide)).uo (by decide)).fr K_130 (by decide) (by decide) (by decide) (by decide)
    have eH : gt (ψ_131 78) 0 = (F (0, 0)) := by rw [K_130 78 (by decide)]; exact g5
    have t143 : ψ_131 85 = pt (pt (ψ5 85) 0 (gt (ψ5 79) 0)) 0 (F (gt (pt (ψ5 85) 0 (gt (ψ5 79) 0)) 0)) := K_130 85 (by decide)
    have lO : (gcO F D (gJ (F (0, 0)) N)).length = D.length := by unfold gcO; rw [stN_lenM D (fun j_ y_ => gcS_len F D j_ y_)]; have := nbk_b D; omega
    have c_ : ψ_131 72 = pgB _ _ 0 D.length := J_132
    have yC : sg (ψ_131 72) 0 (gcO F D (gJ (F (0, 0)) N)) := by
      refine stN_sg (H := fun x_ => F (one4 x_)) (fun _ _ => rfl) (fun j_ hj_ => ?_)
      rw [c_, pgB_in _ _ (by omega) (by omega), Nat.zero_add, Nat.sub_zero, Nat.zero_add]
      exact congrArg (fun v_ => v_ ^^^ _) (by show ψ5 71 j_ = _; rw [e71]; exact sg0 hsD hj_)
    refine R_aload_n (pc := 146) 0 dX12_galois_146 rfl rfl ?_
    refine R_get (pc := 147) dX12_galois_147 fX12_65 S_128.obj (by omega) rfl ?_
    refine R_iconst (pc := 150) (v := 0) dX12_galois_150 (by decide) ?_
    refine R_bipush (pc := 151) (v := 16) dX12_galois_151 (by decide) ?_
    refine R_callSh (pc := 153) (μ' := mX12_clear) (As := [.ref 79, .int 0, .int 16]) (st := []) dX12_galois_153 zX12_clear lX12_164 ⟨by decide, by decide⟩ rfl rfl ⟨by decide, by decide⟩ rfl (Nat.le_of_ble_eq_true rfl) (oX12_clear16 S_128 hn (q := 79) rfl (by decide)) (fun h_134 r_ q_135 => ?_)
    obtain ⟨rfl, S_136, F_137⟩ := q_135
    have S_138 : MO h_134 (uo ψ_131 79 (pt (ψ_131 79) 0 (0, 0))) z i := S_136
    refine R_aload_n (pc := 156) 0 dX12_galois_156 rfl rfl ?_
    refine R_aload_n (pc := 157) 0 dX12_galois_157 rfl rfl ?_
    refine R_get (pc := 158) dX12_galois_158 fX12_50 S_138.obj (by omega) rfl ?_
    refine R_iconst (pc := 161) (v := 0) dX12_galois_161 (by decide) ?_
    refine R_aload_n (pc := 162) 0 dX12_galois_162 rfl rfl ?_
    refine R_get (pc := 163) dX12_galois_163 fX12_140 S_138.obj (by omega) rfl ?_
    refine R_eqi (y := nI A.length) (hi6) ?_
    have h166 : gt (ψ_131 78) 0 = (F (0, 0)) := by exact eH
    refine R_callVh (pc := 166) (μ' := mX12_sumRow) (As := [.ref 74, .int 0, .int (nI A.length)]) (st := []) dX12_galois_166 zX12_sumRow lX12_198 ⟨by decide, by decide⟩ rfl rfl ⟨by decide, by decide⟩ S_138.obj (by omega) rfl (Nat.le_of_ble_eq_true rfl) (oX12_sumRow S_138 hn (p := 74) rfl (by decide) A (by omega) (by show A.length ≤ 256; omega) (show sg (ψ_131 74) 0 A by rw [show ψ_131 74 = ψ 74 from (show FR [72, 75, 76, 78, 79, 80, 81, 85] ψ _ from ((((K5.up (by decide)).up (by decide)).up (by decide)).tr K_130 (by decide))) 74 (by decide)]; exact hsA) (F (0, 0)) h166) (fun h_139 r_ q_140 => ?_)
    obtain ⟨ψ_144, rfl, S_141, K_143, J_145, F_142⟩ := q_140
    have K_146 := (K_133.uo (by decide)).fr K_143 (by decide) (by decide) (by decide) (by decide)
    have s166 : gt (ψ_144 79) 0 = gab (F (0, 0)) A (gt (pt (ψ_131 79) 0 (0, 0)) 0) := J_145
    have eH : gt (ψ_144 78) 0 = (F (0, 0)) := by rw [K_143 78 (by decide)]; exact h166
    have t166 : ψ_144 85 = ψ_131 85 := K_143 85 (by decide)
    have y166 : ψ_144 72 = ψ_131 72 := K_143 72 (by decide)
    have yO : sg (ψ_144 72) 0 (gcO F D (gJ (F (0, 0)) N)) := by rw [y166]; exact yC
    refine R_aload_n (pc := 169) 0 dX12_galois_169 rfl rfl ?_
    refine R_iload_n (pc := 170) 1 dX12_galois_170 rfl rfl ?_
    refine R_if_eq (pc := 171) (tgt := 181) dX12_galois_171 (by decide) (fun c_147 => ?_) (fun c_147 => absurd (rfl) c_147)
    refine R_aload_n (pc := 181) 0 dX12_galois_181 rfl rfl ?_
    refine R_get (pc := 182) dX12_galois_182 fX12_44 S_141.obj (by omega) rfl ?_
    refine R_iconst (pc := 185) (v := 0) dX12_galois_185 (by decide) ?_
    refine R_iload_n (pc := 186) 2 dX12_galois_186 rfl rfl ?_
    refine R_eqi (y := nI (gcO F D (gJ (F (0, 0)) N)).length) (by rw [lO]) ?_
    have h187 : gt (ψ_144 78) 0 = (F (0, 0)) := by exact eH
    refine R_callVh (pc := 187) (μ' := mX12_sumRow) (As := [.ref 72, .int 0, .int (nI (gcO F D (gJ (F (0, 0)) N)).length)]) (st := []) dX12_galois_187 zX12_sumRow lX12_198 ⟨by decide, by decide⟩ rfl rfl ⟨by decide, by decide⟩ S_141.obj (by omega) rfl (Nat.le_of_ble_eq_true rfl) (oX12_sumRow S_141 hn (p := 72) rfl (by decide) (gcO F D (gJ (F (0, 0)) N)) (by rw [lO]; omega) (by rw [lO]; show D.length ≤ 700; omega) yO (F (0, 0)) h187) (fun h_148 r_ q_149 => ?_)
    obtain ⟨ψ_153, rfl, S_150, K_152, J_154, F_151⟩ := q_149
    have K_155 := K_146.fr K_152 (by decide) (by decide) (by decide) (by decide)
    have s187 : gt (ψ_153 79) 0 = gab (F (0, 0)) (gcO F D (gJ (F (0, 0)) N)) (gt (ψ_144 79) 0) := J_154
    have eH : gt (ψ_153 78) 0 = (F (0, 0)) := by rw [K_152 78 (by decide)]; exact h187
    have t187 : ψ_153 85 = ψ_144 85 := K_152 85 (by decide)
    have y187 : ψ_153 72 = ψ_144 72 := K_152 72 (by decide)
    refine R_aload_n (pc := 190) 0 dX12_galois_190 rfl rfl ?_
    refine R_aload_n (pc := 191) 0 dX12_galois_191 rfl rfl ?_
    refine R_get (pc := 192) dX12_galois_192 fX12_140 S_150.obj (by omega) rfl ?_
    refine R_eqi (y := nI A.length) (hi6) ?_
    refine R_iload_n (pc := 195) 2 dX12_galois_195 rfl rfl ?_
    refine R_callVh (pc := 196) (μ' := mX12_sumLengths) (As := [.int (nI A.length), .int (nI D.length)]) (st := []) dX12_galois_196 zX12_sumLengths lX12_201 ⟨by decide, by decide⟩ rfl rfl ⟨by decide, by decide⟩ S_150.obj (by omega) rfl (Nat.le_of_ble_eq_true rfl) (oX12_sumLengths S_150 hn A.length D.length (by omega) (by omega)) (fun h_156 r_ q_157 => ?_)
    obtain ⟨ψ_161, rfl, S_158, K_160, J_162, F_159⟩ := q_157
    have K_163 := K_155.fr K_160 (by decide) (by decide) (by decide) (by decide)
    have s196 : gt (ψ_161 79) 0 = gmu (xb (gt (ψ_153 79) 0) (l8 A, l8 D)) (F (0, 0)) := by have z_ : gt (ψ_161 79) 0 = gmu (gt (slF A.length D.length (ψ_153 79) 4) 0) (gt (ψ_153 78) 0) := J_162; rw [show gt (slF A.length D.length (ψ_153 79) 4) 0 = _ from slF_gt (A := A) (B := D) (by simp; try omega) (by omega), eH] at z_; exact z_
    have fH : gt (ψ_161 78) 0 = (F (0, 0)) := by rw [K_160 78 (by decide)]; exact eH
    have t196 : ψ_161 85 = ψ_153 85 := K_160 85 (by decide)
    have y196 : ψ_161 72 = ψ_153 72 := K_160 72 (by decide)
    refine R_aload_n (pc := 199) 0 dX12_galois_199 rfl rfl ?_
    refine R_get (pc := 200) dX12_galois_200 fX12_65 S_158.obj (by omega) rfl ?_
    refine R_iconst (pc := 203) (v := 0) dX12_galois_203 (by decide) ?_
    refine R_aload_n (pc := 204) 0 dX12_galois_204 rfl rfl ?_
    refine R_get (pc := 205) dX12_galois_205 fX12_83 S_158.obj (by omega) rfl ?_
    refine R_iconst (pc := 208) (v := 0) dX12_galois_208 (by decide) ?_
    refine R_bipush (pc := 209) (v := 16) dX12_galois_209 (by decide) ?_
    refine R_callSh (pc := 211) (μ' := mX12_add) (As := [.ref 79, .int (nI 0), .ref 85, .int (nI 0), .int 16]) (st := []) dX12_galois_211 zX12_add lX12_143 ⟨by decide, by decide⟩ rfl rfl ⟨by decide, by decide⟩ rfl (Nat.le_of_ble_eq_true rfl) (oX12_add16 S_158 hn (p := 79) (q := 85) rfl rfl 0 0 (by show 0 + 16 ≤ 16; omega) (by show 0 + 16 ≤ 16; omega) (by decide)) (fun h_164 r_ q_165 => ?_)
    obtain ⟨rfl, S_166, F_167⟩ := q_165
    have S_168 : MO h_164 (uo ψ_161 85 (pt (ψ_161 85) 0 (xb (gt (ψ_161 85) 0) (gt (ψ_161 79) 0)))) z i := S_166
    have hy : gt (pt (ψ_161 85) 0 (xb (gt (ψ_161 85) 0) (gt (ψ_161 79) 0))) 0 = gTag F A (gcO F D (gJ (F (0, 0)) N)) D N := by
      unfold gTag
      rw [gt_pt, s196, s187, s166, t196, t187, t166]
      rw [gt_pt, t143]
      simp only [gt_pt, pt_pt]
      rw [j5, xb_comm]
    have hz : sg (ψ_161 72) 0 (gcO F D (gJ (F (0, 0)) N)) := by rw [y196, y187]; exact yO
    exact R_vreturn (pc := 214) dX12_galois_214 rfl (by decide) (by decide) ⟨rfl, _, rfl, S_168, (((((((((K5.up (by decide)).up (by decide)).up (by decide)).tr K_130 (by decide)).up (by decide)).tr K_143 (by decide)).tr K_152 (by decide)).tr K_160 (by decide)).up (by decide)), ⟨hz, hy⟩, ((((((((((((((F_4.tr F_9).tr F_14).tr F_99).tr F_104).tr F_109).tr F_114).tr F_119).tr F_124).tr F_129).tr F_137).tr F_142).tr F_151).tr F_159).tr F_167)⟩
set_option maxHeartbeats 1000000 in
set_option maxRecDepth 100000 in
theorem oX12_galois_o {l : Launch} {w : am_W} {h : am_H} {n : Nat} {ψ : Nat → oA} {z : fA} {i : mI} (S : MO h ψ z i) (hn : 90 ≤ n) (A N D : List (BitVec 8)) (hA : A.length ≤ 256) (hN : N.length ≤ 64) (hD : D.length ≤ 512) (hi5 : i 5 = nI N.length) (hi6 : i 6 = nI A.length) (hsA : sg (ψ 74) 0 A) (hsN : sg (ψ 73) 0 N) (hsD : sg (ψ 71) 0 D) {F G : bP → bP} (K0 : Kh ψ 0 F G) : RH l w mX12_galois h n [.ref 61, .int 1, .int (nI D.length)] (fun h2 q => ∃ ψ2, q = none ∧ MO h2 ψ2 z i ∧ FR [72, 75, 76, 78, 79, 80, 81, 85] ψ ψ2 ∧ (sg (ψ2 72) 0 (gcO F D (gJ (F (0, 0)) N)) ∧ gt (ψ2 85) 0 = gTag F A D D N) ∧ FM h h2) := by
  refine RC.of [(0, .ref 61), (1, .int 1), (2, .int (nI D.length))] (by decide +kernel) rfl (Nat.le_of_ble_eq_true rfl) ?_
  refine R_aload_n (pc := 0) 0 dX12_galois_0 rfl rfl ?_
  refine R_get (pc := 1) dX12_galois_1 fX12_62 S.obj (by omega) rfl ?_
  refine R_iconst (pc := 4) (v := 0) dX12_galois_4 (by decide) ?_
  refine R_bipush (pc := 5) (v := 16) dX12_galois_5 (by decide) ?_
  refine R_callSh (pc := 7) (μ' := mX12_clear) (As := [.ref 78, .int 0, .int 16]) (st := []) dX12_galois_7 zX12_clear lX12_164 ⟨by decide, by decide⟩ rfl rfl ⟨by decide, by decide⟩ rfl (Nat.le_of_ble_eq_true rfl) (oX12_clear16 S hn (q := 78) rfl (by decide)) (fun h_1 r_ q_2 => ?_)
  obtain ⟨rfl, S_3, F_4⟩ := q_2
  have S_5 : MO h_1 (uo ψ 78 (pt (ψ 78) 0 (0, 0))) z i := S_3
  refine R_aload_n (pc := 10) 0 dX12_galois_10 rfl rfl ?_
  refine R_iconst (pc := 11) (v := 0) dX12_galois_11 (by decide) ?_
  refine R_aload_n (pc := 12) 0 dX12_galois_12 rfl rfl ?_
  refine R_get (pc := 13) dX12_galois_13 fX12_62 S_5.obj (by omega) rfl ?_
  refine R_iconst (pc := 16) (v := 0) dX12_galois_16 (by decide) ?_
  refine R_callVh (pc := 17) (μ' := mX12_sealBlock) (As := [.int (nI 0), .ref 78, .int (nI 0)]) (st := []) dX12_galois_17 zX12_sealBlock lX12_146 ⟨by decide, by decide⟩ rfl rfl ⟨by decide, by decide⟩ S_5.obj (by omega) rfl (Nat.le_of_ble_eq_true rfl) (oX12_sealBlock S_5 hn (K0.uo (by decide)) (p := 78) rfl 0 (by show 0 + 16 ≤ 16; omega)) (fun h_6 r_ q_7 => ?_)
  obtain ⟨rfl, S_8, F_9⟩ := q_7
  have S_10 : MO h_6 (uo ψ 78 (pt (pt (ψ 78) 0 (0, 0)) 0 (F (gt (pt (ψ 78) 0 (0, 0)) 0)))) z i := by have z_ := S_8; rw [uo_uo] at z_; exact z_
  refine R_aload_n (pc := 20) 0 dX12_galois_20 rfl rfl ?_
  refine R_get (pc := 21) dX12_galois_21 fX12_65 S_10.obj (by omega) rfl ?_
  refine R_iconst (pc := 24) (v := 0) dX12_galois_24 (by decide) ?_
  refine R_bipush (pc := 25) (v := 16) dX12_galois_25 (by decide) ?_
  refine R_callSh (pc := 27) (μ' := mX12_clear) (As := [.ref 79, .int 0, .int 16]) (st := []) dX12_galois_27 zX12_clear lX12_164 ⟨by decide, by decide⟩ rfl rfl ⟨by decide, by decide⟩ rfl (Nat.le_of_ble_eq_true rfl) (oX12_clear16 S_10 hn (q := 79) rfl (by decide)) (fun h_11 r_ q_12 => ?_)
  obtain ⟨rfl, S_13, F_14⟩ := q_12
  have S_15 : MO h_11 (uo (uo ψ 78 (pt (pt (ψ 78) 0 (0, 0)) 0 (F (gt (pt (ψ 78) 0 (0, 0)) 0)))) 79 (pt (ψ 79) 0 (0, 0))) z i := S_13
  refine R_aload_n (pc := 30) 0 dX12_galois_30 rfl rfl ?_
  refine R_get (pc := 31) dX12_galois_31 fX12_137 S_15.obj (by omega) rfl ?_
  refine R_eqi (y := nI N.length) (hi5) ?_
  refine R_bipush (pc := 34) (v := 12) dX12_galois_34 (by decide) ?_
  refine R_icmp_ne (pc := 36) (tgt := 65) dX12_galois_36 (by decide) (fun c_16 => ?_) (fun c_16 => ?_)
  · skip
    have nc_16 : ¬ (N.length = 12) := fun q_ => c_16 ((nI_eq (a := N.length) (b := 12) (by omega) (by omega)).mpr q_)
    refine R_aload_n (pc := 65) 0 dX12_galois_65 rfl rfl ?_
    refine R_aload_n (pc := 66) 0 dX12_galois_66 rfl rfl ?_
    refine R_get (pc := 67) dX12_galois_67 fX12_47 S_15.obj (by omega) rfl ?_
    refine R_iconst (pc := 70) (v := 0) dX12_galois_70 (by decide) ?_
    refine R_aload_n (pc := 71) 0 dX12_galois_71 rfl rfl ?_
    refine R_get (pc := 72) dX12_galois_72 fX12_137 S_15.obj (by omega) rfl ?_
    refine R_eqi (y := nI N.length) (hi5) ?_
    have h75 : gt (pt (pt (ψ 78) 0 (0, 0)) 0 (F (gt (pt (ψ 78) 0 (0, 0)) 0))) 0 = (F (0, 0)) := by simp only [gt_pt, pt_pt]
    refine R_callVh (pc := 75) (μ' := mX12_sumRow) (As := [.ref 73, .int 0, .int (nI N.length)]) (st := []) dX12_galois_75 zX12_sumRow lX12_198 ⟨by decide, by decide⟩ rfl rfl ⟨by decide, by decide⟩ S_15.obj (by omega) rfl (Nat.le_of_ble_eq_true rfl) (oX12_sumRow S_15 hn (p := 73) rfl (by decide) N (by omega) (by show N.length ≤ 64; omega) hsN (F (0, 0)) h75) (fun h_17 r_ q_18 => ?_)
    obtain ⟨ψ_22, rfl, S_19, K_21, J_23, F_20⟩ := q_18
    have K_24 := ((K0.uo (by decide)).uo (by decide)).fr K_21 (by decide) (by decide) (by decide) (by decide)
    have s75 : gt (ψ_22 79) 0 = gab (F (0, 0)) N (gt (pt (ψ 79) 0 (0, 0)) 0) := J_23
    have eH : gt (ψ_22 78) 0 = (F (0, 0)) := by rw [K_21 78 (by decide)]; exact h75
    have t75 : ψ_22 85 = ψ 85 := K_21 85 (by decide)
    have y75 : ψ_22 72 = ψ 72 := K_21 72 (by decide)
    refine R_aload_n (pc := 78) 0 dX12_galois_78 rfl rfl ?_
    refine R_iconst (pc := 79) (v := 0) dX12_galois_79 (by decide) ?_
    refine R_aload_n (pc := 80) 0 dX12_galois_80 rfl rfl ?_
    refine R_get (pc := 81) dX12_galois_81 fX12_137 S_19.obj (by omega) rfl ?_
    refine R_eqi (y := nI N.length) (hi5) ?_
    refine R_callVh (pc := 84) (μ' := mX12_sumLengths) (As := [.int (nI 0), .int (nI N.length)]) (st := []) dX12_galois_84 zX12_sumLengths lX12_201 ⟨by decide, by decide⟩ rfl rfl ⟨by decide, by decide⟩ S_19.obj (by omega) rfl (Nat.le_of_ble_eq_true rfl) (oX12_sumLengths S_19 hn 0 N.length (by omega) (by omega)) (fun h_25 r_ q_26 => ?_)
    obtain ⟨ψ_30, rfl, S_27, K_29, J_31, F_28⟩ := q_26
    have K_32 := K_24.fr K_29 (by decide) (by decide) (by decide) (by decide)
    have s84 : gt (ψ_30 79) 0 = gmu (xb (gt (ψ_22 79) 0) (l8 [], l8 N)) (F (0, 0)) := by have z_ : gt (ψ_30 79) 0 = gmu (gt (slF 0 N.length (ψ_22 79) 4) 0) (gt (ψ_22 78) 0) := J_31; rw [show gt (slF 0 N.length (ψ_22 79) 4) 0 = _ from slF_gt (A := []) (B := N) (by simp; try omega) (by omega), eH] at z_; exact z_
    have fH : gt (ψ_30 78) 0 = (F (0, 0)) := by rw [K_29 78 (by decide)]; exact eH
    have t84 : ψ_30 85 = ψ_22 85 := K_29 85 (by decide)
    have y84 : ψ_30 72 = ψ_22 72 := K_29 72 (by decide)
    have eJ : gt (ψ_30 79) 0 = (gJ (F (0, 0)) N) := by rw [show (gJ (F (0, 0)) N) = gmu (xb (gab (F (0, 0)) N (0, 0)) (0, l8 N)) (F (0, 0)) from if_neg c_16, s84, s75, gt_pt, l8_nil]
    have gH : gt (ψ_30 78) 0 = (F (0, 0)) := fH
    obtain ⟨ψ5, e5⟩ : ∃ x, x = ψ_30 := ⟨_, rfl⟩
    have K5 : FR [72, 75, 76, 78, 79, 80, 81, 85] ψ ψ5 := by rw [e5]; exact (((((FR.rf _ _).up (by decide)).up (by decide)).tr K_21 (by decide)).tr K_29 (by decide))
    have Kk : Kh ψ5 0 F G := by rw [e5]; exact K_32
    have j5 : gt (ψ5 79) 0 = (gJ (F (0, 0)) N) := by rw [e5]; exact eJ
    have g5 : gt (ψ5 78) 0 = (F (0, 0)) := by rw [e5]; exact gH
    have S5 : MO h_25 ψ5 z i := by rw [e5]; exact S_27
    refine R_aload_n (pc := 87) 0 dX12_galois_87 rfl rfl ?_
    refine R_get (pc := 88) dX12_galois_88 fX12_65 S5.obj (by omega) rfl ?_
    refine R_iconst (pc := 91) (v := 0) dX12_galois_91 (by decide) ?_
    refine R_aload_n (pc := 92) 0 dX12_galois_92 rfl rfl ?_
    refine R_get (pc := 93) dX12_galois_93 fX12_53 S5.obj (by omega) rfl ?_
    refine R_iconst (pc := 96) (v := 0) dX12_galois_96 (by decide) ?_
    refine R_bipush (pc := 97) (v := 16) dX12_galois_97 (by decide) ?_
    refine R_callSh (pc := 99) (μ' := mX12_copy) (As := [.ref 79, .int (nI 0), .ref 75, .int (nI 0), .int 16]) (st := []) dX12_galois_99 zX12_copy lX12_133 ⟨by decide, by decide⟩ rfl rfl ⟨by decide, by decide⟩ rfl (Nat.le_of_ble_eq_true rfl) (oX12_copy16 S5 hn (p := 79) (q := 75) rfl rfl 0 0 (by show 0 + 16 ≤ 16; omega) (by show 0 + 16 ≤ 16; omega) (by decide)) (fun h_33 r_ q_34 => ?_)
    obtain ⟨rfl, S_35, F_36⟩ := q_34
    have S_37 : MO h_33 (uo ψ5 75 (pt (ψ5 75) 0 (gt (ψ5 79) 0))) z i := S_35
    refine R_aload_n (pc := 102) 0 dX12_galois_102 rfl rfl ?_
    refine R_get (pc := 103) dX12_galois_103 fX12_65 S_37.obj (by omega) rfl ?_
    refine R_iconst (pc := 106) (v := 0) dX12_galois_106 (by decide) ?_
    refine R_aload_n (pc := 107) 0 dX12_galois_107 rfl rfl ?_
    refine R_get (pc := 108) dX12_galois_108 fX12_83 S_37.obj (by omega) rfl ?_
    refine R_iconst (pc := 111) (v := 0) dX12_galois_111 (by decide) ?_
    refine R_bipush (pc := 112) (v := 16) dX12_galois_112 (by decide) ?_
    refine R_callSh (pc := 114) (μ' := mX12_copy) (As := [.ref 79, .int (nI 0), .ref 85, .int (nI 0), .int 16]) (st := []) dX12_galois_114 zX12_copy lX12_133 ⟨by decide, by decide⟩ rfl rfl ⟨by decide, by decide⟩ rfl (Nat.le_of_ble_eq_true rfl) (oX12_copy16 S_37 hn (p := 79) (q := 85) rfl rfl 0 0 (by show 0 + 16 ≤ 16; omega) (by show 0 + 16 ≤ 16; omega) (by decide)) (fun h_38 r_ q_39 => ?_)
    obtain ⟨rfl, S_40, F_41⟩ := q_39
    have S_42 : MO h_38 (uo (uo ψ5 75 (pt (ψ5 75) 0 (gt (ψ5 79) 0))) 85 (pt (ψ5 85) 0 (gt (ψ5 79) 0))) z i := S_40
    refine R_aload_n (pc := 117) 0 dX12_galois_117 rfl rfl ?_
    refine R_iconst (pc := 118) (v := 0) dX12_galois_118 (by decide) ?_
    refine R_aload_n (pc := 119) 0 dX12_galois_119 rfl rfl ?_
    refine R_get (pc := 120) dX12_galois_120 fX12_83 S_42.obj (by omega) rfl ?_
    refine R_iconst (pc := 123) (v := 0) dX12_galois_123 (by decide) ?_
    refine R_callVh (pc := 124) (μ' := mX12_sealBlock) (As := [.int (nI 0), .ref 85, .int (nI 0)]) (st := []) dX12_galois_124 zX12_sealBlock lX12_146 ⟨by decide, by decide⟩ rfl rfl ⟨by decide, by decide⟩ S_42.obj (by omega) rfl (Nat.le_of_ble_eq_true rfl) (oX12_sealBlock S_42 hn ((Kk.uo (by decide)).uo (by decide)) (p := 85) rfl 0 (by show 0 + 16 ≤ 16; omega)) (fun h_43 r_ q_44 => ?_)
    obtain ⟨rfl, S_45, F_46⟩ := q_44
    have S_47 : MO h_43 (uo (uo ψ5 75 (pt (ψ5 75) 0 (gt (ψ5 79) 0))) 85 (pt (pt (ψ5 85) 0 (gt (ψ5 79) 0)) 0 (F (gt (pt (ψ5 85) 0 (gt (ψ5 79) 0)) 0)))) z i := by have z_ := S_45; rw [uo_uo] at z_; exact z_
    refine R_aload_n (pc := 127) 0 dX12_galois_127 rfl rfl ?_
    refine R_get (pc := 128) dX12_galois_128 fX12_53 S_47.obj (by omega) rfl ?_
    refine R_bipush (pc := 131) (v := 12) dX12_galois_131 (by decide) ?_
    refine R_callSh (pc := 133) (μ' := mX12_oneMore) (As := [.ref 75, .int (nI 12)]) (st := []) dX12_galois_133 zX12_oneMore lX12_168 ⟨by decide, by decide⟩ rfl rfl ⟨by decide, by decide⟩ rfl (Nat.le_of_ble_eq_true rfl) (oX12_oneMore S_47 hn (q := 75) rfl (by decide) 12 (by omega)) (fun h_48 r_ q_49 => ?_)
    obtain ⟨rfl, S_50, F_51⟩ := q_49
    have S_52 : MO h_48 (uo (uo (uo ψ5 75 (pt (ψ5 75) 0 (gt (ψ5 79) 0))) 85 (pt (pt (ψ5 85) 0 (gt (ψ5 79) 0)) 0 (F (gt (pt (ψ5 85) 0 (gt (ψ5 79) 0)) 0)))) 75 (omB 12 16 (pt (ψ5 75) 0 (gt (ψ5 79) 0)))) z i := S_50
    refine R_aload_n (pc := 136) 0 dX12_galois_136 rfl rfl ?_
    refine R_iconst (pc := 137) (v := 0) dX12_galois_137 (by decide) ?_
    refine R_iconst (pc := 138) (v := 0) dX12_galois_138 (by decide) ?_
    refine R_iconst (pc := 139) (v := 0) dX12_galois_139 (by decide) ?_
    refine R_iload_n (pc := 140) 2 dX12_galois_140 rfl rfl ?_
    refine R_bipush (pc := 141) (v := 12) dX12_galois_141 (by decide) ?_
    have e71 : ψ5 71 = ψ 71 := (show FR [72, 75, 76, 78, 79, 80, 81, 85] ψ _ from K5) 71 (by decide)
    refine R_callVh (pc := 143) (μ' := mX12_count) (As := [.int (nI 0), .int (nI 0), .int (nI 0), .int (nI D.length), .int (nI 12)]) (st := []) dX12_galois_143 zX12_count lX12_204 ⟨by decide, by decide⟩ rfl rfl ⟨by decide, by decide⟩ S_52.obj (by omega) rfl (Nat.le_of_ble_eq_true rfl) (oX12_count S_52 hn 0 0 0 D.length 12 (by omega) (by omega) (by omega) (((Kk.uo (by decide)).uo (by decide)).uo (by decide)) (fun j => one4 (stN (gcS F D) (gJ (F (0, 0)) N) j).1) (fun j_ f_ _ e_ => by rw [om_one4 f_, e_]; rfl) ((om_one4 _).trans (congrArg one4 ((gt_pt _ _ _).trans j5)))) (fun h_53 r_ q_54 => ?_)
    obtain ⟨ψ_58, rfl, S_55, K_57, J_59, F_56⟩ := q_54
    have K_60 := (((Kk.uo (by decide)).uo (by decide)).uo (by decide)).fr K_57 (by decide) (by decide) (by decide) (by decide)
    have eH : gt (ψ_58 78) 0 = (F (0, 0)) := by rw [K_57 78 (by decide)]; exact g5
    have t143 : ψ_58 85 = pt (pt (ψ5 85) 0 (gt (ψ5 79) 0)) 0 (F (gt (pt (ψ5 85) 0 (gt (ψ5 79) 0)) 0)) := K_57 85 (by decide)
    have lO : (gcO F D (gJ (F (0, 0)) N)).length = D.length := by unfold gcO; rw [stN_lenM D (fun j_ y_ => gcS_len F D j_ y_)]; have := nbk_b D; omega
    have c_ : ψ_58 72 = pgB _ _ 0 D.length := J_59
    have yC : sg (ψ_58 72) 0 (gcO F D (gJ (F (0, 0)) N)) := by
      refine stN_sg (H := fun x_ => F (one4 x_)) (fun _ _ => rfl) (fun j_ hj_ => ?_)
      rw [c_, pgB_in _ _ (by omega) (by omega), Nat.zero_add, Nat.sub_zero, Nat.zero_add]
      exact congrArg (fun v_ => v_ ^^^ _) (by show ψ5 71 j_ = _; rw [e71]; exact sg0 hsD hj_)
    refine R_aload_n (pc := 146) 0 dX12_galois_146 rfl rfl ?_
    refine R_get (pc := 147) dX12_galois_147 fX12_65 S_55.obj (by omega) rfl ?_
    refine R_iconst (pc := 150) (v := 0) dX12_galois_150 (by decide) ?_
    refine R_bipush (pc := 151) (v := 16) dX12_galois_151 (by decide) ?_
    refine R_callSh (pc := 153) (μ' := mX12_clear) (As := [.ref 79, .int 0, .int 16]) (st := []) dX12_galois_153 zX12_clear lX12_164 ⟨by decide, by decide⟩ rfl rfl ⟨by decide, by decide⟩ rfl (Nat.le_of_ble_eq_true rfl) (oX12_clear16 S_55 hn (q := 79) rfl (by decide)) (fun h_61 r_ q_62 => ?_)
    obtain ⟨rfl, S_63, F_64⟩ := q_62
    have S_65 : MO h_61 (uo ψ_58 79 (pt (ψ_58 79) 0 (0, 0))) z i := S_63
    refine R_aload_n (pc := 156) 0 dX12_galois_156 rfl rfl ?_
    refine R_aload_n (pc := 157) 0 dX12_galois_157 rfl rfl ?_
    refine R_get (pc := 158) dX12_galois_158 fX12_50 S_65.obj (by omega) rfl ?_
    refine R_iconst (pc := 161) (v := 0) dX12_galois_161 (by decide) ?_
    refine R_aload_n (pc := 162) 0 dX12_galois_162 rfl rfl ?_
    refine R_get (pc := 163) dX12_galois_163 fX12_140 S_65.obj (by omega) rfl ?_
    refine R_eqi (y := nI A.length) (hi6) ?_
    have h166 : gt (ψ_58 78) 0 = (F (0, 0)) := by exact eH
    refine R_callVh (pc := 166) (μ' := mX12_sumRow) (As := [.ref 74, .int 0, .int (nI A.length)]) (st := []) dX12_galois_166 zX12_sumRow lX12_198 ⟨by decide, by decide⟩ rfl rfl ⟨by decide, by decide⟩ S_65.obj (by omega) rfl (Nat.le_of_ble_eq_true rfl) (oX12_sumRow S_65 hn (p := 74) rfl (by decide) A (by omega) (by show A.length ≤ 256; omega) (show sg (ψ_58 74) 0 A by rw [show ψ_58 74 = ψ 74 from (show FR [72, 75, 76, 78, 79, 80, 81, 85] ψ _ from ((((K5.up (by decide)).up (by decide)).up (by decide)).tr K_57 (by decide))) 74 (by decide)]; exact hsA) (F (0, 0)) h166) (fun h_66 r_ q_67 => ?_)
    obtain ⟨ψ_71, rfl, S_68, K_70, J_72, F_69⟩ := q_67
    have K_73 := (K_60.uo (by decide)).fr K_70 (by decide) (by decide) (by decide) (by decide)
    have s166 : gt (ψ_71 79) 0 = gab (F (0, 0)) A (gt (pt (ψ_58 79) 0 (0, 0)) 0) := J_72
    have eH : gt (ψ_71 78) 0 = (F (0, 0)) := by rw [K_70 78 (by decide)]; exact h166
    have t166 : ψ_71 85 = ψ_58 85 := K_70 85 (by decide)
    have y166 : ψ_71 72 = ψ_58 72 := K_70 72 (by decide)
    have yO : sg (ψ_71 72) 0 (gcO F D (gJ (F (0, 0)) N)) := by rw [y166]; exact yC
    refine R_aload_n (pc := 169) 0 dX12_galois_169 rfl rfl ?_
    refine R_iload_n (pc := 170) 1 dX12_galois_170 rfl rfl ?_
    refine R_if_eq (pc := 171) (tgt := 181) dX12_galois_171 (by decide) (fun c_74 => absurd c_74 (by decide)) (fun c_74 => ?_)
    refine R_aload_n (pc := 174) 0 dX12_galois_174 rfl rfl ?_
    refine R_get (pc := 175) dX12_galois_175 fX12_41 S_68.obj (by omega) rfl ?_
    refine R_goto (pc := 178) (tgt := 185) dX12_galois_178 (by decide) ?_
    refine R_iconst (pc := 185) (v := 0) dX12_galois_185 (by decide) ?_
    refine R_iload_n (pc := 186) 2 dX12_galois_186 rfl rfl ?_
    have h187 : gt (ψ_71 78) 0 = (F (0, 0)) := by exact eH
    refine R_callVh (pc := 187) (μ' := mX12_sumRow) (As := [.ref 71, .int 0, .int (nI D.length)]) (st := []) dX12_galois_187 zX12_sumRow lX12_198 ⟨by decide, by decide⟩ rfl rfl ⟨by decide, by decide⟩ S_68.obj (by omega) rfl (Nat.le_of_ble_eq_true rfl) (oX12_sumRow S_68 hn (p := 71) rfl (by decide) D (by omega) (by show D.length ≤ 700; omega) (show sg (ψ_71 71) 0 D by rw [show ψ_71 71 = ψ 71 from (show FR [72, 75, 76, 78, 79, 80, 81, 85] ψ _ from ((((((K5.up (by decide)).up (by decide)).up (by decide)).tr K_57 (by decide)).up (by decide)).tr K_70 (by decide))) 71 (by decide)]; exact hsD) (F (0, 0)) h187) (fun h_75 r_ q_76 => ?_)
    obtain ⟨ψ_80, rfl, S_77, K_79, J_81, F_78⟩ := q_76
    have K_82 := K_73.fr K_79 (by decide) (by decide) (by decide) (by decide)
    have s187 : gt (ψ_80 79) 0 = gab (F (0, 0)) D (gt (ψ_71 79) 0) := J_81
    have eH : gt (ψ_80 78) 0 = (F (0, 0)) := by rw [K_79 78 (by decide)]; exact h187
    have t187 : ψ_80 85 = ψ_71 85 := K_79 85 (by decide)
    have y187 : ψ_80 72 = ψ_71 72 := K_79 72 (by decide)
    refine R_aload_n (pc := 190) 0 dX12_galois_190 rfl rfl ?_
    refine R_aload_n (pc := 191) 0 dX12_galois_191 rfl rfl ?_
    refine R_get (pc := 192) dX12_galois_192 fX12_140 S_77.obj (by omega) rfl ?_
    refine R_eqi (y := nI A.length) (hi6) ?_
    refine R_iload_n (pc := 195) 2 dX12_galois_195 rfl rfl ?_
    refine R_callVh (pc := 196) (μ' := mX12_sumLengths) (As := [.int (nI A.length), .int (nI D.length)]) (st := []) dX12_galois_196 zX12_sumLengths lX12_201 ⟨by decide, by decide⟩ rfl rfl ⟨by decide, by decide⟩ S_77.obj (by omega) rfl (Nat.le_of_ble_eq_true rfl) (oX12_sumLengths S_77 hn A.length D.length (by omega) (by omega)) (fun h_83 r_ q_84 => ?_)
    obtain ⟨ψ_88, rfl, S_85, K_87, J_89, F_86⟩ := q_84
    have K_90 := K_82.fr K_87 (by decide) (by decide) (by decide) (by decide)
    have s196 : gt (ψ_88 79) 0 = gmu (xb (gt (ψ_80 79) 0) (l8 A, l8 D)) (F (0, 0)) := by have z_ : gt (ψ_88 79) 0 = gmu (gt (slF A.length D.length (ψ_80 79) 4) 0) (gt (ψ_80 78) 0) := J_89; rw [show gt (slF A.length D.length (ψ_80 79) 4) 0 = _ from slF_gt (A := A) (B := D) (by simp; try omega) (by omega), eH] at z_; exact z_
    have fH : gt (ψ_88 78) 0 = (F (0, 0)) := by rw [K_87 78 (by decide)]; exact eH
    have t196 : ψ_88 85 = ψ_80 85 := K_87 85 (by decide)
    have y196 : ψ_88 72 = ψ_80 72 := K_87 72 (by decide)
    refine R_aload_n (pc := 199) 0 dX12_galois_199 rfl rfl ?_
    refine R_get (pc := 200) dX12_galois_200 fX12_65 S_85.obj (by omega) rfl ?_
    refine R_iconst (pc := 203) (v := 0) dX12_galois_203 (by decide) ?_
    refine R_aload_n (pc := 204) 0 dX12_galois_204 rfl rfl ?_
    refine R_get (pc := 205) dX12_galois_205 fX12_83 S_85.obj (by omega) rfl ?_
    refine R_iconst (pc := 208) (v := 0) dX12_galois_208 (by decide) ?_
    refine R_bipush (pc := 209) (v := 16) dX12_galois_209 (by decide) ?_
    refine R_callSh (pc := 211) (μ' := mX12_add) (As := [.ref 79, .int (nI 0), .ref 85, .int (nI 0), .int 16]) (st := []) dX12_galois_211 zX12_add lX12_143 ⟨by decide, by decide⟩ rfl rfl ⟨by decide, by decide⟩ rfl (Nat.le_of_ble_eq_true rfl) (oX12_add16 S_85 hn (p := 79) (q := 85) rfl rfl 0 0 (by show 0 + 16 ≤ 16; omega) (by show 0 + 16 ≤ 16; omega) (by decide)) (fun h_91 r_ q_92 => ?_)
    obtain ⟨rfl, S_93, F_94⟩ := q_92
    have S_95 : MO h_91 (uo ψ_88 85 (pt (ψ_88 85) 0 (xb (gt (ψ_88 85) 0) (gt (ψ_88 79) 0)))) z i := S_93
    have hy : gt (pt (ψ_88 85) 0 (xb (gt (ψ_88 85) 0) (gt (ψ_88 79) 0))) 0 = gTag F A D D N := by
      unfold gTag
      rw [gt_pt, s196, s187, s166, t196, t187, t166]
      rw [gt_pt, t143]
      simp only [gt_pt, pt_pt]
      rw [j5, xb_comm]
    have hz : sg (ψ_88 72) 0 (gcO F D (gJ (F (0, 0)) N)) := by rw [y196, y187]; exact yO
    exact R_vreturn (pc := 214) dX12_galois_214 rfl (by decide) (by decide) ⟨rfl, _, rfl, S_95, (((((((((K5.up (by decide)).up (by decide)).up (by decide)).tr K_57 (by decide)).up (by decide)).tr K_70 (by decide)).tr K_79 (by decide)).tr K_87 (by decide)).up (by decide)), ⟨hz, hy⟩, ((((((((((((((F_4.tr F_9).tr F_14).tr F_20).tr F_28).tr F_36).tr F_41).tr F_46).tr F_51).tr F_56).tr F_64).tr F_69).tr F_78).tr F_86).tr F_94)⟩
  · skip
    have nc_16 : N.length = 12 := (nI_eq (a := N.length) (b := 12) (by omega) (by omega)).mp c_16
    refine R_aload_n (pc := 39) 0 dX12_galois_39 rfl rfl ?_
    refine R_get (pc := 40) dX12_galois_40 fX12_47 S_15.obj (by omega) rfl ?_
    refine R_iconst (pc := 43) (v := 0) dX12_galois_43 (by decide) ?_
    refine R_aload_n (pc := 44) 0 dX12_galois_44 rfl rfl ?_
    refine R_get (pc := 45) dX12_galois_45 fX12_65 S_15.obj (by omega) rfl ?_
    refine R_iconst (pc := 48) (v := 0) dX12_galois_48 (by decide) ?_
    refine R_bipush (pc := 49) (v := 12) dX12_galois_49 (by decide) ?_
    refine R_callSh (pc := 51) (μ' := mX12_copy) (As := [.ref 73, .int (nI 0), .ref 79, .int (nI 0), .int (nI 12)]) (st := []) dX12_galois_51 zX12_copy lX12_133 ⟨by decide, by decide⟩ rfl rfl ⟨by decide, by decide⟩ rfl (Nat.le_of_ble_eq_true rfl) (oX12_copy S_15 hn (p := 73) (q := 79) rfl rfl 0 0 12 (by show 0 + 12 ≤ 64; omega) (by show 0 + 12 ≤ 16; omega) (by decide)) (fun h_96 r_ q_97 => ?_)
    obtain ⟨rfl, S_98, F_99⟩ := q_97
    have S_100 : MO h_96 (uo (uo ψ 78 (pt (pt (ψ 78) 0 (0, 0)) 0 (F (gt (pt (ψ 78) 0 (0, 0)) 0)))) 79 (cpB (ψ 73) 0 (pt (ψ 79) 0 (0, 0)) 0 12)) z i := by have z_ := S_98; rw [uo_uo] at z_; exact z_
    refine R_aload_n (pc := 54) 0 dX12_galois_54 rfl rfl ?_
    refine R_get (pc := 55) dX12_galois_55 fX12_65 S_100.obj (by omega) rfl ?_
    refine R_bipush (pc := 58) (v := 15) dX12_galois_58 (by decide) ?_
    refine R_iconst (pc := 60) (v := 1) dX12_galois_60 (by decide) ?_
    refine R_eqi (y := oc (t8 1)) (by decide) ?_
    refine R_iast' (pc := 61) (j := 15) dX12_galois_61 (S_100.arr (p := 79) rfl) (by omega) ⟨rfl, by show 15 < 16; omega, by decide⟩ (fun h_101 f_102 g_103 => ?_)
    have S_105 : MO h_101 (uo (uo ψ 78 (pt (pt (ψ 78) 0 (0, 0)) 0 (F (gt (pt (ψ 78) 0 (0, 0)) 0)))) 79 (updB (cpB (ψ 73) 0 (pt (ψ 79) 0 (0, 0)) 0 12) 15 (t8 1))) z i := by have z_ := MO.setA (p := 79) S_100 rfl f_102 g_103 (fun j_ => congrFun (upd_oc _ _ _) j_); rw [uo_uo] at z_; exact z_
    have F_104 := fmA (p := 79) (okA_c (by decide)).1 g_103
    refine R_goto (pc := 62) (tgt := 87) dX12_galois_62 (by decide) ?_
    have eJ : gt (updB (cpB (ψ 73) 0 (pt (ψ 79) 0 (0, 0)) 0 12) 15 (t8 1)) 0 = (gJ (F (0, 0)) N) := by rw [show (gJ (F (0, 0)) N) = aoc (rd N 0) 15 1 from if_pos c_16]; exact gJ_12 nc_16 hsN
    have gH : gt (pt (pt (ψ 78) 0 (0, 0)) 0 (F (gt (pt (ψ 78) 0 (0, 0)) 0))) 0 = (F (0, 0)) := by simp only [gt_pt, pt_pt]
    obtain ⟨ψ5, e5⟩ : ∃ x, x = (uo (uo ψ 78 (pt (pt (ψ 78) 0 (0, 0)) 0 (F (gt (pt (ψ 78) 0 (0, 0)) 0)))) 79 (updB (cpB (ψ 73) 0 (pt (ψ 79) 0 (0, 0)) 0 12) 15 (t8 1))) := ⟨_, rfl⟩
    have K5 : FR [72, 75, 76, 78, 79, 80, 81, 85] ψ ψ5 := by rw [e5]; exact (((FR.rf _ _).up (by decide)).up (by decide))
    have Kk : Kh ψ5 0 F G := by rw [e5]; exact ((K0.uo (by decide)).uo (by decide))
    have j5 : gt (ψ5 79) 0 = (gJ (F (0, 0)) N) := by rw [e5]; exact eJ
    have g5 : gt (ψ5 78) 0 = (F (0, 0)) := by rw [e5]; exact gH
    have S5 : MO h_101 ψ5 z i := by rw [e5]; exact S_105
    refine R_aload_n (pc := 87) 0 dX12_galois_87 rfl rfl ?_
    refine R_get (pc := 88) dX12_galois_88 fX12_65 S5.obj (by omega) rfl ?_
    refine R_iconst (pc := 91) (v := 0) dX12_galois_91 (by decide) ?_
    refine R_aload_n (pc := 92) 0 dX12_galois_92 rfl rfl ?_
    refine R_get (pc := 93) dX12_galois_93 fX12_53 S5.obj (by omega) rfl ?_
    refine R_iconst (pc := 96) (v := 0) dX12_galois_96 (by decide) ?_
    refine R_bipush (pc := 97) (v := 16) dX12_galois_97 (by decide) ?_
    refine R_callSh (pc := 99) (μ' := mX12_copy) (As := [.ref 79, .int (nI 0), .ref 75, .int (nI 0), .int 16]) (st := []) dX12_galois_99 zX12_copy lX12_133 ⟨by decide, by decide⟩ rfl rfl ⟨by decide, by decide⟩ rfl (Nat.le_of_ble_eq_true rfl) (oX12_copy16 S5 hn (p := 79) (q := 75) rfl rfl 0 0 (by show 0 + 16 ≤ 16; omega) (by show 0 + 16 ≤ 16; omega) (by decide)) (fun h_106 r_ q_107 => ?_)
    obtain ⟨rfl, S_108, F_109⟩ := q_107
    have S_110 : MO h_106 (uo ψ5 75 (pt (ψ5 75) 0 (gt (ψ5 79) 0))) z i := S_108
    refine R_aload_n (pc := 102) 0 dX12_galois_102 rfl rfl ?_
    refine R_get (pc := 103) dX12_galois_103 fX12_65 S_110.obj (by omega) rfl ?_
    refine R_iconst (pc := 106) (v := 0) dX12_galois_106 (by decide) ?_
    refine R_aload_n (pc := 107) 0 dX12_galois_107 rfl rfl ?_
    refine R_get (pc := 108) dX12_galois_108 fX12_83 S_110.obj (by omega) rfl ?_
    refine R_iconst (pc := 111) (v := 0) dX12_galois_111 (by decide) ?_
    refine R_bipush (pc := 112) (v := 16) dX12_galois_112 (by decide) ?_
    refine R_callSh (pc := 114) (μ' := mX12_copy) (As := [.ref 79, .int (nI 0), .ref 85, .int (nI 0), .int 16]) (st := []) dX12_galois_114 zX12_copy lX12_133 ⟨by decide, by decide⟩ rfl rfl ⟨by decide, by decide⟩ rfl (Nat.le_of_ble_eq_true rfl) (oX12_copy16 S_110 hn (p := 79) (q := 85) rfl rfl 0 0 (by show 0 + 16 ≤ 16; omega) (by show 0 + 16 ≤ 16; omega) (by decide)) (fun h_111 r_ q_112 => ?_)
    obtain ⟨rfl, S_113, F_114⟩ := q_112
    have S_115 : MO h_111 (uo (uo ψ5 75 (pt (ψ5 75) 0 (gt (ψ5 79) 0))) 85 (pt (ψ5 85) 0 (gt (ψ5 79) 0))) z i := S_113
    refine R_aload_n (pc := 117) 0 dX12_galois_117 rfl rfl ?_
    refine R_iconst (pc := 118) (v := 0) dX12_galois_118 (by decide) ?_
    refine R_aload_n (pc := 119) 0 dX12_galois_119 rfl rfl ?_
    refine R_get (pc := 120) dX12_galois_120 fX12_83 S_115.obj (by omega) rfl ?_
    refine R_iconst (pc := 123) (v := 0) dX12_galois_123 (by decide) ?_
    refine R_callVh (pc := 124) (μ' := mX12_sealBlock) (As := [.int (nI 0), .ref 85, .int (nI 0)]) (st := []) dX12_galois_124 zX12_sealBlock lX12_146 ⟨by decide, by decide⟩ rfl rfl ⟨by decide, by decide⟩ S_115.obj (by omega) rfl (Nat.le_of_ble_eq_true rfl) (oX12_sealBlock S_115 hn ((Kk.uo (by decide)).uo (by decide)) (p := 85) rfl 0 (by show 0 + 16 ≤ 16; omega)) (fun h_116 r_ q_117 => ?_)
    obtain ⟨rfl, S_118, F_119⟩ := q_117
    have S_120 : MO h_116 (uo (uo ψ5 75 (pt (ψ5 75) 0 (gt (ψ5 79) 0))) 85 (pt (pt (ψ5 85) 0 (gt (ψ5 79) 0)) 0 (F (gt (pt (ψ5 85) 0 (gt (ψ5 79) 0)) 0)))) z i := by have z_ := S_118; rw [uo_uo] at z_; exact z_
    refine R_aload_n (pc := 127) 0 dX12_galois_127 rfl rfl ?_
    refine R_get (pc := 128) dX12_galois_128 fX12_53 S_120.obj (by omega) rfl ?_
    refine R_bipush (pc := 131) (v := 12) dX12_galois_131 (by decide) ?_
    refine R_callSh (pc := 133) (μ' := mX12_oneMore) (As := [.ref 75, .int (nI 12)]) (st := []) dX12_galois_133 zX12_oneMore lX12_168 ⟨by decide, by decide⟩ rfl rfl ⟨by decide, by decide⟩ rfl (Nat.le_of_ble_eq_true rfl) (oX12_oneMore S_120 hn (q := 75) rfl (by decide) 12 (by omega)) (fun h_121 r_ q_122 => ?_)
    obtain ⟨rfl, S_123, F_124⟩ := q_122
    have S_125 : MO h_121 (uo (uo (uo ψ5 75 (pt (ψ5 75) 0 (gt (ψ5 79) 0))) 85 (pt (pt (ψ5 85) 0 (gt (ψ5 79) 0)) 0 (F (gt (pt (ψ5 85) 0 (gt (ψ5 79) 0)) 0)))) 75 (omB 12 16 (pt (ψ5 75) 0 (gt (ψ5 79) 0)))) z i := S_123
    refine R_aload_n (pc := 136) 0 dX12_galois_136 rfl rfl ?_
    refine R_iconst (pc := 137) (v := 0) dX12_galois_137 (by decide) ?_
    refine R_iconst (pc := 138) (v := 0) dX12_galois_138 (by decide) ?_
    refine R_iconst (pc := 139) (v := 0) dX12_galois_139 (by decide) ?_
    refine R_iload_n (pc := 140) 2 dX12_galois_140 rfl rfl ?_
    refine R_bipush (pc := 141) (v := 12) dX12_galois_141 (by decide) ?_
    have e71 : ψ5 71 = ψ 71 := (show FR [72, 75, 76, 78, 79, 80, 81, 85] ψ _ from K5) 71 (by decide)
    refine R_callVh (pc := 143) (μ' := mX12_count) (As := [.int (nI 0), .int (nI 0), .int (nI 0), .int (nI D.length), .int (nI 12)]) (st := []) dX12_galois_143 zX12_count lX12_204 ⟨by decide, by decide⟩ rfl rfl ⟨by decide, by decide⟩ S_125.obj (by omega) rfl (Nat.le_of_ble_eq_true rfl) (oX12_count S_125 hn 0 0 0 D.length 12 (by omega) (by omega) (by omega) (((Kk.uo (by decide)).uo (by decide)).uo (by decide)) (fun j => one4 (stN (gcS F D) (gJ (F (0, 0)) N) j).1) (fun j_ f_ _ e_ => by rw [om_one4 f_, e_]; rfl) ((om_one4 _).trans (congrArg one4 ((gt_pt _ _ _).trans j5)))) (fun h_126 r_ q_127 => ?_)
    obtain ⟨ψ_131, rfl, S_128, K_130, J_132, F_129⟩ := q_127
    have K_133 := (((Kk.uo (by decide)).uo (by decide)).uo (by decide)).fr K_130 (by decide) (by decide) (by decide) (by decide)
    have eH : gt (ψ_131 78) 0 = (F (0, 0)) := by rw [K_130 78 (by decide)]; exact g5
    have t143 : ψ_131 85 = pt (pt (ψ5 85) 0 (gt (ψ5 79) 0)) 0 (F (gt (pt (ψ5 85) 0 (gt (ψ5 79) 0)) 0)) := K_130 85 (by decide)
    have lO : (gcO F D (gJ (F (0, 0)) N)).length = D.length := by unfold gcO; rw [stN_lenM D (fun j_ y_ => gcS_len F D j_ y_)]; have := nbk_b D; omega
    have c_ : ψ_131 72 = pgB _ _ 0 D.length := J_132
    have yC : sg (ψ_131 72) 0 (gcO F D (gJ (F (0, 0)) N)) := by
      refine stN_sg (H := fun x_ => F (one4 x_)) (fun _ _ => rfl) (fun j_ hj_ => ?_)
      rw [c_, pgB_in _ _ (by omega) (by omega), Nat.zero_add, Nat.sub_zero, Nat.zero_add]
      exact congrArg (fun v_ => v_ ^^^ _) (by show ψ5 71 j_ = _; rw [e71]; exact sg0 hsD hj_)
    refine R_aload_n (pc := 146) 0 dX12_galois_146 rfl rfl ?_
    refine R_get (pc := 147) dX12_galois_147 fX12_65 S_128.obj (by omega) rfl ?_
    refine R_iconst (pc := 150) (v := 0) dX12_galois_150 (by decide) ?_
    refine R_bipush (pc := 151) (v := 16) dX12_galois_151 (by decide) ?_
    refine R_callSh (pc := 153) (μ' := mX12_clear) (As := [.ref 79, .int 0, .int 16]) (st := []) dX12_galois_153 zX12_clear lX12_164 ⟨by decide, by decide⟩ rfl rfl ⟨by decide, by decide⟩ rfl (Nat.le_of_ble_eq_true rfl) (oX12_clear16 S_128 hn (q := 79) rfl (by decide)) (fun h_134 r_ q_135 => ?_)
    obtain ⟨rfl, S_136, F_137⟩ := q_135
    have S_138 : MO h_134 (uo ψ_131 79 (pt (ψ_131 79) 0 (0, 0))) z i := S_136
    refine R_aload_n (pc := 156) 0 dX12_galois_156 rfl rfl ?_
    refine R_aload_n (pc := 157) 0 dX12_galois_157 rfl rfl ?_
    refine R_get (pc := 158) dX12_galois_158 fX12_50 S_138.obj (by omega) rfl ?_
    refine R_iconst (pc := 161) (v := 0) dX12_galois_161 (by decide) ?_
    refine R_aload_n (pc := 162) 0 dX12_galois_162 rfl rfl ?_
    refine R_get (pc := 163) dX12_galois_163 fX12_140 S_138.obj (by omega) rfl ?_
    refine R_eqi (y := nI A.length) (hi6) ?_
    have h166 : gt (ψ_131 78) 0 = (F (0, 0)) := by exact eH
    refine R_callVh (pc := 166) (μ' := mX12_sumRow) (As := [.ref 74, .int 0, .int (nI A.length)]) (st := []) dX12_galois_166 zX12_sumRow lX12_198 ⟨by decide, by decide⟩ rfl rfl ⟨by decide, by decide⟩ S_138.obj (by omega) rfl (Nat.le_of_ble_eq_true rfl) (oX12_sumRow S_138 hn (p := 74) rfl (by decide) A (by omega) (by show A.length ≤ 256; omega) (show sg (ψ_131 74) 0 A by rw [show ψ_131 74 = ψ 74 from (show FR [72, 75, 76, 78, 79, 80, 81, 85] ψ _ from ((((K5.up (by decide)).up (by decide)).up (by decide)).tr K_130 (by decide))) 74 (by decide)]; exact hsA) (F (0, 0)) h166) (fun h_139 r_ q_140 => ?_)
    obtain ⟨ψ_144, rfl, S_141, K_143, J_145, F_142⟩ := q_140
    have K_146 := (K_133.uo (by decide)).fr K_143 (by decide) (by decide) (by decide) (by decide)
    have s166 : gt (ψ_144 79) 0 = gab (F (0, 0)) A (gt (pt (ψ_131 79) 0 (0, 0)) 0) := J_145
    have eH : gt (ψ_144 78) 0 = (F (0, 0)) := by rw [K_143 78 (by decide)]; exact h166
    have t166 : ψ_144 85 = ψ_131 85 := K_143 85 (by decide)
    have y166 : ψ_144 72 = ψ_131 72 := K_143 72 (by decide)
    have yO : sg (ψ_144 72) 0 (gcO F D (gJ (F (0, 0)) N)) := by rw [y166]; exact yC
    refine R_aload_n (pc := 169) 0 dX12_galois_169 rfl rfl ?_
    refine R_iload_n (pc := 170) 1 dX12_galois_170 rfl rfl ?_
    refine R_if_eq (pc := 171) (tgt := 181) dX12_galois_171 (by decide) (fun c_147 => absurd c_147 (by decide)) (fun c_147 => ?_)
    refine R_aload_n (pc := 174) 0 dX12_galois_174 rfl rfl ?_
    refine R_get (pc := 175) dX12_galois_175 fX12_41 S_141.obj (by omega) rfl ?_
    refine R_goto (pc := 178) (tgt := 185) dX12_galois_178 (by decide) ?_
    refine R_iconst (pc := 185) (v := 0) dX12_galois_185 (by decide) ?_
    refine R_iload_n (pc := 186) 2 dX12_galois_186 rfl rfl ?_
    have h187 : gt (ψ_144 78) 0 = (F (0, 0)) := by exact eH
    refine R_callVh (pc := 187) (μ' := mX12_sumRow) (As := [.ref 71, .int 0, .int (nI D.length)]) (st := []) dX12_galois_187 zX12_sumRow lX12_198 ⟨by decide, by decide⟩ rfl rfl ⟨by decide, by decide⟩ S_141.obj (by omega) rfl (Nat.le_of_ble_eq_true rfl) (oX12_sumRow S_141 hn (p := 71) rfl (by decide) D (by omega) (by show D.length ≤ 700; omega) (show sg (ψ_144 71) 0 D by rw [show ψ_144 71 = ψ 71 from (show FR [72, 75, 76, 78, 79, 80, 81, 85] ψ _ from ((((((K5.up (by decide)).up (by decide)).up (by decide)).tr K_130 (by decide)).up (by decide)).tr K_143 (by decide))) 71 (by decide)]; exact hsD) (F (0, 0)) h187) (fun h_148 r_ q_149 => ?_)
    obtain ⟨ψ_153, rfl, S_150, K_152, J_154, F_151⟩ := q_149
    have K_155 := K_146.fr K_152 (by decide) (by decide) (by decide) (by decide)
    have s187 : gt (ψ_153 79) 0 = gab (F (0, 0)) D (gt (ψ_144 79) 0) := J_154
    have eH : gt (ψ_153 78) 0 = (F (0, 0)) := by rw [K_152 78 (by decide)]; exact h187
    have t187 : ψ_153 85 = ψ_144 85 := K_152 85 (by decide)
    have y187 : ψ_153 72 = ψ_144 72 := K_152 72 (by decide)
    refine R_aload_n (pc := 190) 0 dX12_galois_190 rfl rfl ?_
    refine R_aload_n (pc := 191) 0 dX12_galois_191 rfl rfl ?_
    refine R_get (pc := 192) dX12_galois_192 fX12_140 S_150.obj (by omega) rfl ?_
    refine R_eqi (y := nI A.length) (hi6) ?_
    refine R_iload_n (pc := 195) 2 dX12_galois_195 rfl rfl ?_
    refine R_callVh (pc := 196) (μ' := mX12_sumLengths) (As := [.int (nI A.length), .int (nI D.length)]) (st := []) dX12_galois_196 zX12_sumLengths lX12_201 ⟨by decide, by decide⟩ rfl rfl ⟨by decide, by decide⟩ S_150.obj (by omega) rfl (Nat.le_of_ble_eq_true rfl) (oX12_sumLengths S_150 hn A.length D.length (by omega) (by omega)) (fun h_156 r_ q_157 => ?_)
    obtain ⟨ψ_161, rfl, S_158, K_160, J_162, F_159⟩ := q_157
    have K_163 := K_155.fr K_160 (by decide) (by decide) (by decide) (by decide)
    have s196 : gt (ψ_161 79) 0 = gmu (xb (gt (ψ_153 79) 0) (l8 A, l8 D)) (F (0, 0)) := by have z_ : gt (ψ_161 79) 0 = gmu (gt (slF A.length D.length (ψ_153 79) 4) 0) (gt (ψ_153 78) 0) := J_162; rw [show gt (slF A.length D.length (ψ_153 79) 4) 0 = _ from slF_gt (A := A) (B := D) (by simp; try omega) (by omega), eH] at z_; exact z_
    have fH : gt (ψ_161 78) 0 = (F (0, 0)) := by rw [K_160 78 (by decide)]; exact eH
    have t196 : ψ_161 85 = ψ_153 85 := K_160 85 (by decide)
    have y196 : ψ_161 72 = ψ_153 72 := K_160 72 (by decide)
    refine R_aload_n (pc := 199) 0 dX12_galois_199 rfl rfl ?_
    refine R_get (pc := 200) dX12_galois_200 fX12_65 S_158.obj (by omega) rfl ?_
    refine R_iconst (pc := 203) (v := 0) dX12_galois_203 (by decide) ?_
    refine R_aload_n (pc := 204) 0 dX12_galois_204 rfl rfl ?_
    refine R_get (pc := 205) dX12_galois_205 fX12_83 S_158.obj (by omega) rfl ?_
    refine R_iconst (pc := 208) (v := 0) dX12_galois_208 (by decide) ?_
    refine R_bipush (pc := 209) (v := 16) dX12_galois_209 (by decide) ?_
    refine R_callSh (pc := 211) (μ' := mX12_add) (As := [.ref 79, .int (nI 0), .ref 85, .int (nI 0), .int 16]) (st := []) dX12_galois_211 zX12_add lX12_143 ⟨by decide, by decide⟩ rfl rfl ⟨by decide, by decide⟩ rfl (Nat.le_of_ble_eq_true rfl) (oX12_add16 S_158 hn (p := 79) (q := 85) rfl rfl 0 0 (by show 0 + 16 ≤ 16; omega) (by show 0 + 16 ≤ 16; omega) (by decide)) (fun h_164 r_ q_165 => ?_)
    obtain ⟨rfl, S_166, F_167⟩ := q_165
    have S_168 : MO h_164 (uo ψ_161 85 (pt (ψ_161 85) 0 (xb (gt (ψ_161 85) 0) (gt (ψ_161 79) 0)))) z i := S_166
    have hy : gt (pt (ψ_161 85) 0 (xb (gt (ψ_161 85) 0) (gt (ψ_161 79) 0))) 0 = gTag F A D D N := by
      unfold gTag
      rw [gt_pt, s196, s187, s166, t196, t187, t166]
      rw [gt_pt, t143]
      simp only [gt_pt, pt_pt]
      rw [j5, xb_comm]
    have hz : sg (ψ_161 72) 0 (gcO F D (gJ (F (0, 0)) N)) := by rw [y196, y187]; exact yO
    exact R_vreturn (pc := 214) dX12_galois_214 rfl (by decide) (by decide) ⟨rfl, _, rfl, S_168, (((((((((K5.up (by decide)).up (by decide)).up (by decide)).tr K_130 (by decide)).up (by decide)).tr K_143 (by decide)).tr K_152 (by decide)).tr K_160 (by decide)).up (by decide)), ⟨hz, hy⟩, ((((((((((((((F_4.tr F_9).tr F_14).tr F_99).tr F_104).tr F_109).tr F_114).tr F_119).tr F_124).tr F_129).tr F_137).tr F_142).tr F_151).tr F_159).tr F_167)⟩
