theorem sg_rd0 {f : oA} {L : List (BitVec 8)} (h : sg f 0 L) (h16 : 16 ≤ L.length) : gt f 0 = rd L 0 := gt_of fun k hk => by
  rw [Nat.zero_add]
  exact sg0 h (by omega)
theorem oc_127 : ∀ a : BitVec 8, oc a &&& 127 = oc (a &&& 127) := by decide +kernel
theorem m127 : ∀ i, i < 64 → (9223372034707292159 : Int64).toBitVec.getLsbD i = decide (i ≠ 63 ∧ i ≠ 31) := by decide
theorem b127 : ∀ i, i < 8 → (127 : BitVec 8).getLsbD i = decide (i ≠ 7) := by decide
theorem ob_cfm (q : bP) {k : Nat} (hk : k < 16) : ob (cfm q) k = if k = 8 ∨ k = 12 then ob q k &&& 127 else ob q k := by
  apply BitVec.eq_of_getLsbD_eq
  intro m hm
  rw [ob_bit _ hk hm]
  unfold cfm
  by_cases h8 : 8 ≤ k
  · simp only [if_pos h8, Int64.toBitVec_and, BitVec.getLsbD_and]
    rw [m127 _ (by omega)]
    by_cases c : k = 8 ∨ k = 12
    · rw [if_pos c, BitVec.getLsbD_and, b127 m hm, ob_bit _ hk hm, if_pos h8, show decide (56 - 8 * (k % 8) + m ≠ 63 ∧ 56 - 8 * (k % 8) + m ≠ 31) = decide (m ≠ 7) from decide_eq_decide.mpr (by omega)]
    · rw [if_neg c, ob_bit _ hk hm, if_pos h8, decide_eq_true (show 56 - 8 * (k % 8) + m ≠ 63 ∧ 56 - 8 * (k % 8) + m ≠ 31 by omega), Bool.and_true]
  · rw [if_neg h8, if_neg (by omega), ob_bit _ hk hm, if_neg h8]
theorem gt_cfm (f : oA) : gt (updB (updB f 8 (f 8 &&& 127)) 12 (updB f 8 (f 8 &&& 127) 12 &&& 127)) 0 = cfm (gt f 0) := ob_ext fun k hk => by
  rw [ob_gt _ _ hk, Nat.zero_add, ob_cfm _ hk, ob_gt _ _ hk, Nat.zero_add]
  by_cases h12 : k = 12
  · subst h12
    rw [updB_s, if_pos (by omega), updB_n (by omega)]
  · rw [updB_n h12]
    by_cases h8 : k = 8
    · subst h8
      rw [updB_s, if_pos (by omega)]
    · rw [updB_n h8, if_neg (by omega)]
theorem smI_iff (p q : bP) : smI p q = if p = q then 1 else 0 := by
  unfold smI vX0_same
  have e : lg_cmp ((p.1 ^^^ q.1) ||| (p.2 ^^^ q.2)) 0 = 0 ↔ p = q := by
    constructor
    · intro h
      obtain ⟨a, b⟩ := or0_64 (lg_cmp0 h)
      have x0 : ∀ u v : Int64, u ^^^ v = 0 → u = v := fun u v q => by
        have := congrArg (fun w => w ^^^ v) q
        simp only [Int64.xor_assoc, Int64.xor_self, Int64.xor_zero, Int64.zero_xor] at this
        exact this
      exact Prod.ext (x0 _ _ a) (x0 _ _ b)
    · intro h
      subst h
      rw [Int64.xor_self, Int64.xor_self]
      decide
  simp only [e]
theorem good16 {f g : oA} {p q : bP} (hf : gt f 0 = p) (hg : gt g 0 = q) : allI 1 (fun j => decide (oc (f j) = oc (g j))) 16 = smI p q := by
  rw [allI_iff, smI_iff]
  have e : (∀ j, j < 16 → decide (oc (f j) = oc (g j)) = true) ↔ p = q := by
    constructor
    · intro h
      apply ob_ext
      intro k hk
      rw [← hf, ← hg, ob_gt _ _ hk, ob_gt _ _ hk, Nat.zero_add]
      exact oc_inj (of_decide_eq_true (h k hk))
    · intro h j hj
      apply decide_eq_true
      rw [gt_at0 hf hj, gt_at0 hg hj, h]
  simp only [e]
set_option maxHeartbeats 1000000 in
set_option maxRecDepth 100000 in
theorem oX12_siv_s {l : Launch} {w : am_W} {h : am_H} {n : Nat} {ψ : Nat → oA} {z : fA} {i : mI} (S : MO h ψ z i) (hn : 90 ≤ n) (A N D : List (BitVec 8)) (hA : A.length ≤ 256) (hN : N.length ≤ 64) (hD : D.length ≤ 512) (hi3 : i 3 = nI D.length) (hi5 : i 5 = nI N.length) (hi6 : i 6 = nI A.length) (hsA : sg (ψ 74) 0 A) (hsN : sg (ψ 73) 0 N) (hsD : sg (ψ 71) 0 D) {F G : bP → bP} (K0 : Kh ψ 0 F G) {F1 G1 : bP → bP} (K1 : Kh ψ 1 F1 G1) : RH l w mX12_siv h n [.ref 61, .int 0] (fun h2 q => ∃ ψ2 i2, q = some (.int 0) ∧ MO h2 ψ2 z i2 ∧ IE [4, 7] i i2 ∧ i2 4 = nI (D.length + 16) ∧ FR [72, 75, 76, 82, 83, 84, 86] ψ ψ2 ∧ sg (ψ2 72) 0 (bt (mdV F A N D) 16 ++ ctO F1 D (cfm (mdV F A N D))) ∧ FM h h2) := by
  refine RC.of [(0, .ref 61), (1, .int 0)] (by decide +kernel) rfl (Nat.le_of_ble_eq_true rfl) ?_
  refine R_iload_n (pc := 0) 1 dX12_siv_0 rfl rfl ?_
  refine R_if_ne (pc := 1) (tgt := 97) dX12_siv_1 (by decide) (fun c_1 => absurd (rfl) c_1) (fun c_1 => ?_)
  refine R_aload_n (pc := 4) 0 dX12_siv_4 rfl rfl ?_
  refine R_aload_n (pc := 5) 0 dX12_siv_5 rfl rfl ?_
  refine R_get (pc := 6) dX12_siv_6 fX12_41 S.obj (by omega) rfl ?_
  refine R_iconst (pc := 9) (v := 0) dX12_siv_9 (by decide) ?_
  refine R_aload_n (pc := 10) 0 dX12_siv_10 rfl rfl ?_
  refine R_get (pc := 11) dX12_siv_11 fX12_130 S.obj (by omega) rfl ?_
  refine R_eqi (y := nI D.length) (hi3) ?_
  refine R_callVh (pc := 14) (μ' := mX12_made) (As := [.ref 71, .int 0, .int (nI D.length)]) (st := []) dX12_siv_14 zX12_made lX12_220 ⟨by decide, by decide⟩ rfl rfl ⟨by decide, by decide⟩ S.obj (by omega) rfl (Nat.le_of_ble_eq_true rfl) (oX12_made_71 S hn A N D hA hN (by omega) hi5 hi6 hsA hsN hsD K0) (fun h_2 r_ q_3 => ?_)
  obtain ⟨ψ_7, i_9, rfl, S_4, I_10, K_6, J_8, F_5⟩ := q_3
  have K_11 := K0.fr K_6 (by decide) (by decide) (by decide) (by decide)
  have K_12 := K1.fr K_6 (by decide) (by decide) (by decide) (by decide)
  have mM : gt (ψ_7 82) 0 = (mdV F A N D) := J_8
  have e71 : ψ_7 71 = ψ 71 := (show FR [72, 75, 76, 82, 83, 84, 86] ψ _ from ((FR.rf _ _).tr K_6 (by decide))) 71 (by decide)
  refine R_aload_n (pc := 17) 0 dX12_siv_17 rfl rfl ?_
  refine R_get (pc := 18) dX12_siv_18 fX12_74 S_4.obj (by omega) rfl ?_
  refine R_iconst (pc := 21) (v := 0) dX12_siv_21 (by decide) ?_
  refine R_aload_n (pc := 22) 0 dX12_siv_22 rfl rfl ?_
  refine R_get (pc := 23) dX12_siv_23 fX12_44 S_4.obj (by omega) rfl ?_
  refine R_iconst (pc := 26) (v := 0) dX12_siv_26 (by decide) ?_
  refine R_bipush (pc := 27) (v := 16) dX12_siv_27 (by decide) ?_
  refine R_callSh (pc := 29) (μ' := mX12_copy) (As := [.ref 82, .int (nI 0), .ref 72, .int (nI 0), .int 16]) (st := []) dX12_siv_29 zX12_copy lX12_133 ⟨by decide, by decide⟩ rfl rfl ⟨by decide, by decide⟩ rfl (Nat.le_of_ble_eq_true rfl) (oX12_copy16 S_4 hn (p := 82) (q := 72) rfl rfl 0 0 (by show 0 + 16 ≤ 16; omega) (by show 0 + 16 ≤ 700; omega) (by decide)) (fun h_13 r_ q_14 => ?_)
  obtain ⟨rfl, S_15, F_16⟩ := q_14
  have S_17 : MO h_13 (uo ψ_7 72 (pt (ψ_7 72) 0 (gt (ψ_7 82) 0))) z i_9 := S_15
  refine R_aload_n (pc := 32) 0 dX12_siv_32 rfl rfl ?_
  refine R_get (pc := 33) dX12_siv_33 fX12_74 S_17.obj (by omega) rfl ?_
  refine R_iconst (pc := 36) (v := 0) dX12_siv_36 (by decide) ?_
  refine R_aload_n (pc := 37) 0 dX12_siv_37 rfl rfl ?_
  refine R_get (pc := 38) dX12_siv_38 fX12_53 S_17.obj (by omega) rfl ?_
  refine R_iconst (pc := 41) (v := 0) dX12_siv_41 (by decide) ?_
  refine R_bipush (pc := 42) (v := 16) dX12_siv_42 (by decide) ?_
  refine R_callSh (pc := 44) (μ' := mX12_copy) (As := [.ref 82, .int (nI 0), .ref 75, .int (nI 0), .int 16]) (st := []) dX12_siv_44 zX12_copy lX12_133 ⟨by decide, by decide⟩ rfl rfl ⟨by decide, by decide⟩ rfl (Nat.le_of_ble_eq_true rfl) (oX12_copy16 S_17 hn (p := 82) (q := 75) rfl rfl 0 0 (by show 0 + 16 ≤ 16; omega) (by show 0 + 16 ≤ 16; omega) (by decide)) (fun h_18 r_ q_19 => ?_)
  obtain ⟨rfl, S_20, F_21⟩ := q_19
  have S_22 : MO h_18 (uo (uo ψ_7 72 (pt (ψ_7 72) 0 (gt (ψ_7 82) 0))) 75 (pt (ψ_7 75) 0 (gt (ψ_7 82) 0))) z i_9 := S_20
  refine R_aload_n (pc := 47) 0 dX12_siv_47 rfl rfl ?_
  refine R_get (pc := 48) dX12_siv_48 fX12_53 S_22.obj (by omega) rfl ?_
  refine R_bipush (pc := 51) (v := 8) dX12_siv_51 (by decide) ?_
  refine R_dup2 (pc := 53) dX12_siv_53 rfl rfl ?_
  refine R_iald' (pc := 54) (j := 8) dX12_siv_54 (S_22.arr (p := 75) rfl) (by omega) ⟨rfl, by show 8 < 16; omega, by decide⟩ ?_
  refine R_eqi (y := oc ((pt (ψ_7 75) 0 (gt (ψ_7 82) 0)) 8)) rfl ?_
  refine R_bipush (pc := 55) (v := 127) dX12_siv_55 (by decide) ?_
  refine R_iand (pc := 57) dX12_siv_57 ?_
  refine R_eqi (y := oc (((pt (ψ_7 75) 0 (gt (ψ_7 82) 0)) 8) &&& 127)) (oc_127 _) ?_
  refine R_iast' (pc := 58) (j := 8) dX12_siv_58 (S_22.arr (p := 75) rfl) (by omega) ⟨rfl, by show 8 < 16; omega, by decide⟩ (fun h_23 f_24 g_25 => ?_)
  have S_27 : MO h_23 (uo (uo ψ_7 72 (pt (ψ_7 72) 0 (gt (ψ_7 82) 0))) 75 (updB (pt (ψ_7 75) 0 (gt (ψ_7 82) 0)) 8 (((pt (ψ_7 75) 0 (gt (ψ_7 82) 0)) 8) &&& 127))) z i_9 := by have z_ := MO.setA (p := 75) S_22 rfl f_24 g_25 (fun j_ => congrFun (upd_oc _ _ _) j_); rw [uo_uo] at z_; exact z_
  have F_26 := fmA (p := 75) (okA_c (by decide)).1 g_25
  refine R_aload_n (pc := 59) 0 dX12_siv_59 rfl rfl ?_
  refine R_get (pc := 60) dX12_siv_60 fX12_53 S_27.obj (by omega) rfl ?_
  refine R_bipush (pc := 63) (v := 12) dX12_siv_63 (by decide) ?_
  refine R_dup2 (pc := 65) dX12_siv_65 rfl rfl ?_
  refine R_iald' (pc := 66) (j := 12) dX12_siv_66 (S_27.arr (p := 75) rfl) (by omega) ⟨rfl, by show 12 < 16; omega, by decide⟩ ?_
  refine R_eqi (y := oc ((updB (pt (ψ_7 75) 0 (gt (ψ_7 82) 0)) 8 (((pt (ψ_7 75) 0 (gt (ψ_7 82) 0)) 8) &&& 127)) 12)) rfl ?_
  refine R_bipush (pc := 67) (v := 127) dX12_siv_67 (by decide) ?_
  refine R_iand (pc := 69) dX12_siv_69 ?_
  refine R_eqi (y := oc (((updB (pt (ψ_7 75) 0 (gt (ψ_7 82) 0)) 8 (((pt (ψ_7 75) 0 (gt (ψ_7 82) 0)) 8) &&& 127)) 12) &&& 127)) (oc_127 _) ?_
  refine R_iast' (pc := 70) (j := 12) dX12_siv_70 (S_27.arr (p := 75) rfl) (by omega) ⟨rfl, by show 12 < 16; omega, by decide⟩ (fun h_28 f_29 g_30 => ?_)
  have S_32 : MO h_28 (uo (uo ψ_7 72 (pt (ψ_7 72) 0 (gt (ψ_7 82) 0))) 75 (updB (updB (pt (ψ_7 75) 0 (gt (ψ_7 82) 0)) 8 (((pt (ψ_7 75) 0 (gt (ψ_7 82) 0)) 8) &&& 127)) 12 (((updB (pt (ψ_7 75) 0 (gt (ψ_7 82) 0)) 8 (((pt (ψ_7 75) 0 (gt (ψ_7 82) 0)) 8) &&& 127)) 12) &&& 127))) z i_9 := by have z_ := MO.setA (p := 75) S_27 rfl f_29 g_30 (fun j_ => congrFun (upd_oc _ _ _) j_); rw [uo_uo] at z_; exact z_
  have F_31 := fmA (p := 75) (okA_c (by decide)).1 g_30
  refine R_aload_n (pc := 71) 0 dX12_siv_71 rfl rfl ?_
  refine R_iconst (pc := 72) (v := 1) dX12_siv_72 (by decide) ?_
  refine R_iconst (pc := 73) (v := 0) dX12_siv_73 (by decide) ?_
  refine R_bipush (pc := 74) (v := 16) dX12_siv_74 (by decide) ?_
  refine R_aload_n (pc := 76) 0 dX12_siv_76 rfl rfl ?_
  refine R_get (pc := 77) dX12_siv_77 fX12_130 S_32.obj (by omega) rfl ?_
  refine R_eqi (y := nI D.length) ((I_10 3 (by decide)).trans (hi3)) ?_
  refine R_iconst (pc := 80) (v := 0) dX12_siv_80 (by decide) ?_
  refine R_callVh (pc := 81) (μ' := mX12_count) (As := [.int (nI 1), .int (nI 0), .int (nI 16), .int (nI D.length), .int (nI 0)]) (st := []) dX12_siv_81 zX12_count lX12_204 ⟨by decide, by decide⟩ rfl rfl ⟨by decide, by decide⟩ S_32.obj (by omega) rfl (Nat.le_of_ble_eq_true rfl) (oX12_count S_32 hn 1 0 16 D.length 0 (by omega) (by omega) (by omega) ((K_12.uo (by decide)).uo (by decide)) (fun j => (stN (ctS F1 D) (cfm (mdV F A N D)) j).1) (fun j_ f_ _ e_ => by rw [om_one1 f_ (by omega) (Or.inl rfl), e_]; rfl) ((gt_cfm _).trans (congrArg cfm ((gt_pt _ _ _).trans mM)))) (fun h_33 r_ q_34 => ?_)
  obtain ⟨ψ_38, rfl, S_35, K_37, J_39, F_36⟩ := q_34
  have K_40 := ((K_11.uo (by decide)).uo (by decide)).fr K_37 (by decide) (by decide) (by decide) (by decide)
  have K_41 := ((K_12.uo (by decide)).uo (by decide)).fr K_37 (by decide) (by decide) (by decide) (by decide)
  have c_ : ψ_38 72 = pgB _ (pt (ψ_7 72) 0 (gt (ψ_7 82) 0)) 16 D.length := J_39
  have hy : sg (ψ_38 72) 0 (bt (mdV F A N D) 16 ++ ctO F1 D (cfm (mdV F A N D))) := by
    refine sg.app (fun j_ hj_ => ?_) ?_
    · rw [bt_len] at hj_; rw [Nat.zero_add, c_, pgB_out _ _ (by omega), pt_at0 _ _ hj_, og_bt _ hj_, mM]
    · rw [bt_len, Nat.zero_add]
      refine stN_sg (H := F1) (fun _ _ => rfl) (fun j_ hj_ => ?_)
      rw [c_, pgB_in _ _ (by omega) (by omega), show 16 + j_ - 16 = j_ by omega, Nat.zero_add]
      exact congrArg (fun v_ => v_ ^^^ _) (by show ψ_7 71 j_ = _; rw [e71]; exact sg0 hsD hj_)
  refine R_aload_n (pc := 84) 0 dX12_siv_84 rfl rfl ?_
  refine R_aload_n (pc := 85) 0 dX12_siv_85 rfl rfl ?_
  refine R_get (pc := 86) dX12_siv_86 fX12_130 S_35.obj (by omega) rfl ?_
  refine R_eqi (y := nI D.length) ((I_10 3 (by decide)).trans (hi3)) ?_
  refine R_bipush (pc := 89) (v := 16) dX12_siv_89 (by decide) ?_
  refine R_iadd (pc := 91) dX12_siv_91 ?_
  refine R_eqi (y := nI (D.length + 16)) (nI_add D.length 16) ?_
  refine R_put' (pc := 92) (fs' := [.int (i_9 0), .ref 62, .ref 63, .int (i_9 1), .ref 64, .int (i_9 2), .ref 65, .ref 66, .ref 67, .ref 68, .ref 69, .ref 70, .ref 71, .int (i_9 3), .ref 72, .int (nI (D.length + 16)), .ref 73, .int (i_9 5), .ref 74, .int (i_9 6), .ref 75, .ref 76, .ref 77, .ref 78, .ref 79, .ref 80, .ref 81, .ref 82, .ref 83, .ref 84, .int (i_9 7), .ref 85, .ref 86, .ref 87, .ref 88, .ref 89, .ref 90]) dX12_siv_92 fX12_153 tX12_15 rfl rfl S_35.obj (by omega) (Nat.le_of_ble_eq_true rfl) rfl (fun h_42 f_43 g_44 => ?_)
  have S_45 : MO h_42 ψ_38 z (ui i_9 4 (nI (D.length + 16))) := MO.setI (j := (ui i_9 4 (nI (D.length + 16)))) S_35 f_43 g_44
  have F_46 := fmI g_44
  refine R_iconst (pc := 95) (v := 0) dX12_siv_95 (by decide) ?_
  have hI : IE [4, 7] i (ui i_9 4 (nI (D.length + 16))) := fun k_ hk_ => by rw [ui_n (fun e_ => hk_ (by rw [e_]; decide))]; exact I_10 k_ (fun q_ => hk_ (by revert q_; simp; omega))
  exact R_ireturn (pc := 96) dX12_siv_96 rfl (by decide) (by decide) ⟨rfl, _, _, rfl, S_45, hI, rfl, (((((FR.rf _ _).tr K_6 (by decide)).up (by decide)).up (by decide)).tr K_37 (by decide)), hy, ((((((F_5.tr F_16).tr F_21).tr F_26).tr F_31).tr F_36).tr F_46)⟩
set_option maxHeartbeats 1000000 in
set_option maxRecDepth 100000 in
theorem qX12_siv_good {l : Launch} {w : am_W} {h : am_H} {n : Nat} {ψ : Nat → oA} {z : fA} {i : mI} (S : MO h ψ z i) (hn : 90 ≤ n)  {Q : am_H → Nat → Option Value → Prop} (kk : RW l w mX12_siv h n 0 0 220 [(3, .int (nI 16)), (2, .int (allI 1 (fun j => decide (oc (ψ 82 j) = oc (ψ 71 j))) 16)), (0, .ref 61), (1, .int 1)] [] Q) : ∀ (dd k : Nat), k + dd = 16 → RW l w mX12_siv h n 0 0 183 [(3, .int (nI k)), (2, .int (allI 1 (fun j => decide (oc (ψ 82 j) = oc (ψ 71 j))) k)), (0, .ref 61), (1, .int 1)] [] Q := by
  intro dd
  induction dd with
  | zero =>
    intro k hd
    refine R_iload_n (pc := 183) 0 dX12_siv_183 rfl rfl ?_
    refine R_bipush (pc := 184) (v := 16) dX12_siv_184 (by decide) ?_
    refine R_icmp_ge (pc := 186) (tgt := 220) dX12_siv_186 (by decide) (fun c_1 => ?_) (fun c_1 => absurd (nI_le (a := 16) (b := k) (by omega) (by omega)) c_1)
    obtain rfl : k = 16 := by omega
    exact kk
  | succ dd ih =>
    intro k hd
    refine R_iload_n (pc := 183) 0 dX12_siv_183 rfl rfl ?_
    refine R_bipush (pc := 184) (v := 16) dX12_siv_184 (by decide) ?_
    refine R_icmp_ge (pc := 186) (tgt := 220) dX12_siv_186 (by decide) (fun c_1 => absurd c_1 (nI_ge (a := k) (b := 16) (by omega) (by omega))) (fun c_1 => ?_)
    refine R_iload_n (pc := 189) 1 dX12_siv_189 rfl rfl ?_
    refine R_if_eq (pc := 190) (tgt := 212) dX12_siv_190 (by decide) (fun c_2 => ?_) (fun c_2 => ?_)
    · skip
      refine R_iconst (pc := 212) (v := 0) dX12_siv_212 (by decide) ?_
      refine R_istore_n (pc := 213) (lv' := [(2, .int 0), (3, .int (nI k)), (0, .ref 61), (1, .int 1)]) dX12_siv_213 rfl (by decide) rfl ?_
      refine R_iinc (pc := 214) (j := 1) (v := nI (k + 1)) (lv' := [(3, .int (nI (k + 1))), (2, .int 0), (0, .ref 61), (1, .int 1)]) dX12_siv_214 rfl (nI_add _ _) (by decide) rfl ?_
      refine R_goto (pc := 217) (tgt := 183) dX12_siv_217 (by decide) ?_
      refine R_sub [0, 1, 2, 3] rfl ?_
      have e_ : allI 1 (fun j => decide (oc (ψ 82 j) = oc (ψ 71 j))) (k + 1) = 0 := by show (if (fun j => decide (oc (ψ 82 j) = oc (ψ 71 j))) k then allI 1 (fun j => decide (oc (ψ 82 j) = oc (ψ 71 j))) k else 0) = 0; rw [c_2, ite_self]
      have r_ := ih (k + 1) (by omega)
      rw [e_] at r_
      exact r_
    · skip
      refine R_aload_n (pc := 193) 2 dX12_siv_193 rfl rfl ?_
      refine R_get (pc := 194) dX12_siv_194 fX12_74 S.obj (by omega) rfl ?_
      refine R_iload_n (pc := 197) 0 dX12_siv_197 rfl rfl ?_
      refine R_iald' (pc := 198) (j := k) dX12_siv_198 (S.arr (p := 82) rfl) (by omega) ⟨rfl, by show k < 16; omega, by decide⟩ ?_
      refine R_eqi (y := oc (ψ 82 k)) rfl ?_
      refine R_aload_n (pc := 199) 2 dX12_siv_199 rfl rfl ?_
      refine R_get (pc := 200) dX12_siv_200 fX12_41 S.obj (by omega) rfl ?_
      refine R_iload_n (pc := 203) 0 dX12_siv_203 rfl rfl ?_
      refine R_iald' (pc := 204) (j := k) dX12_siv_204 (S.arr (p := 71) rfl) (by omega) ⟨rfl, by show k < 700; omega, by decide⟩ ?_
      refine R_eqi (y := oc (ψ 71 k)) rfl ?_
      refine R_icmp_ne (pc := 205) (tgt := 212) dX12_siv_205 (by decide) (fun c_3 => ?_) (fun c_3 => ?_)
      · skip
        refine R_iconst (pc := 212) (v := 0) dX12_siv_212 (by decide) ?_
        refine R_istore_n (pc := 213) (lv' := [(2, .int 0), (3, .int (nI k)), (0, .ref 61), (1, .int 1)]) dX12_siv_213 rfl (by decide) rfl ?_
        refine R_iinc (pc := 214) (j := 1) (v := nI (k + 1)) (lv' := [(3, .int (nI (k + 1))), (2, .int 0), (0, .ref 61), (1, .int 1)]) dX12_siv_214 rfl (nI_add _ _) (by decide) rfl ?_
        refine R_goto (pc := 217) (tgt := 183) dX12_siv_217 (by decide) ?_
        refine R_sub [0, 1, 2, 3] rfl ?_
        have a1 : allI 1 (fun j => decide (oc (ψ 82 j) = oc (ψ 71 j))) k = 1 := (allI_01 (Or.inr rfl) _ k).resolve_left c_2
        have e_ : allI 1 (fun j => decide (oc (ψ 82 j) = oc (ψ 71 j))) (k + 1) = 0 := by rw [allI_up a1]; exact if_neg (fun q_ => c_3 (of_decide_eq_true q_))
        have r_ := ih (k + 1) (by omega)
        rw [e_] at r_
        exact r_
      · skip
        refine R_iconst (pc := 208) (v := 1) dX12_siv_208 (by decide) ?_
        refine R_goto (pc := 209) (tgt := 213) dX12_siv_209 (by decide) ?_
        refine R_istore_n (pc := 213) (lv' := [(2, .int 1), (3, .int (nI k)), (0, .ref 61), (1, .int 1)]) dX12_siv_213 rfl (by decide) rfl ?_
        refine R_iinc (pc := 214) (j := 1) (v := nI (k + 1)) (lv' := [(3, .int (nI (k + 1))), (2, .int 1), (0, .ref 61), (1, .int 1)]) dX12_siv_214 rfl (nI_add _ _) (by decide) rfl ?_
        refine R_goto (pc := 217) (tgt := 183) dX12_siv_217 (by decide) ?_
        refine R_sub [0, 1, 2, 3] rfl ?_
        have a1 : allI 1 (fun j => decide (oc (ψ 82 j) = oc (ψ 71 j))) k = 1 := (allI_01 (Or.inr rfl) _ k).resolve_left c_2
        have e_ : allI 1 (fun j => decide (oc (ψ 82 j) = oc (ψ 71 j))) (k + 1) = 1 := by rw [allI_up a1]; exact if_pos (decide_eq_true c_3)
        have r_ := ih (k + 1) (by omega)
        rw [e_] at r_
        exact r_
set_option maxHeartbeats 1000000 in
set_option maxRecDepth 100000 in
theorem oX12_siv_o {l : Launch} {w : am_W} {h : am_H} {n : Nat} {ψ : Nat → oA} {z : fA} {i : mI} (S : MO h ψ z i) (hn : 90 ≤ n) (A N D : List (BitVec 8)) (hA : A.length ≤ 256) (hN : N.length ≤ 64) (hD : D.length ≤ 512) (hi3 : i 3 = nI D.length) (hi5 : i 5 = nI N.length) (hi6 : i 6 = nI A.length) (hsA : sg (ψ 74) 0 A) (hsN : sg (ψ 73) 0 N) (hsD : sg (ψ 71) 0 D) {F G : bP → bP} (K0 : Kh ψ 0 F G) {F1 G1 : bP → bP} (K1 : Kh ψ 1 F1 G1) (hD16 : 16 ≤ D.length) : RH l w mX12_siv h n [.ref 61, .int 1] (fun h2 q => ∃ ψ2 i2, q = some (.int (if smI (mdV F A N (ctO F1 (sl D 16 (D.length - 16)) (cfm (rd D 0)))) (rd D 0) = 0 then -6 else 0)) ∧ MO h2 ψ2 z i2 ∧ IE [4, 7] i i2 ∧ i2 4 = nI (D.length - 16) ∧ FR [72, 75, 76, 82, 83, 84, 86] ψ ψ2 ∧ sg (ψ2 72) 0 (ctO F1 (sl D 16 (D.length - 16)) (cfm (rd D 0))) ∧ FM h h2) := by
  refine RC.of [(0, .ref 61), (1, .int 1)] (by decide +kernel) rfl (Nat.le_of_ble_eq_true rfl) ?_
  refine R_iload_n (pc := 0) 1 dX12_siv_0 rfl rfl ?_
  refine R_if_ne (pc := 1) (tgt := 97) dX12_siv_1 (by decide) (fun c_1 => ?_) (fun c_1 => absurd c_1 (by decide))
  have eD0 : gt (ψ 71) 0 = rd D 0 := sg_rd0 hsD (by omega)
  refine R_aload_n (pc := 97) 0 dX12_siv_97 rfl rfl ?_
  refine R_get (pc := 98) dX12_siv_98 fX12_41 S.obj (by omega) rfl ?_
  refine R_iconst (pc := 101) (v := 0) dX12_siv_101 (by decide) ?_
  refine R_aload_n (pc := 102) 0 dX12_siv_102 rfl rfl ?_
  refine R_get (pc := 103) dX12_siv_103 fX12_53 S.obj (by omega) rfl ?_
  refine R_iconst (pc := 106) (v := 0) dX12_siv_106 (by decide) ?_
  refine R_bipush (pc := 107) (v := 16) dX12_siv_107 (by decide) ?_
  refine R_callSh (pc := 109) (μ' := mX12_copy) (As := [.ref 71, .int (nI 0), .ref 75, .int (nI 0), .int 16]) (st := []) dX12_siv_109 zX12_copy lX12_133 ⟨by decide, by decide⟩ rfl rfl ⟨by decide, by decide⟩ rfl (Nat.le_of_ble_eq_true rfl) (oX12_copy16 S hn (p := 71) (q := 75) rfl rfl 0 0 (by show 0 + 16 ≤ 700; omega) (by show 0 + 16 ≤ 16; omega) (by decide)) (fun h_2 r_ q_3 => ?_)
  obtain ⟨rfl, S_4, F_5⟩ := q_3
  have S_6 : MO h_2 (uo ψ 75 (pt (ψ 75) 0 (gt (ψ 71) 0))) z i := S_4
  refine R_aload_n (pc := 112) 0 dX12_siv_112 rfl rfl ?_
  refine R_get (pc := 113) dX12_siv_113 fX12_53 S_6.obj (by omega) rfl ?_
  refine R_bipush (pc := 116) (v := 8) dX12_siv_116 (by decide) ?_
  refine R_dup2 (pc := 118) dX12_siv_118 rfl rfl ?_
  refine R_iald' (pc := 119) (j := 8) dX12_siv_119 (S_6.arr (p := 75) rfl) (by omega) ⟨rfl, by show 8 < 16; omega, by decide⟩ ?_
  refine R_eqi (y := oc ((pt (ψ 75) 0 (gt (ψ 71) 0)) 8)) rfl ?_
  refine R_bipush (pc := 120) (v := 127) dX12_siv_120 (by decide) ?_
  refine R_iand (pc := 122) dX12_siv_122 ?_
  refine R_eqi (y := oc (((pt (ψ 75) 0 (gt (ψ 71) 0)) 8) &&& 127)) (oc_127 _) ?_
  refine R_iast' (pc := 123) (j := 8) dX12_siv_123 (S_6.arr (p := 75) rfl) (by omega) ⟨rfl, by show 8 < 16; omega, by decide⟩ (fun h_7 f_8 g_9 => ?_)
  have S_11 : MO h_7 (uo ψ 75 (updB (pt (ψ 75) 0 (gt (ψ 71) 0)) 8 (((pt (ψ 75) 0 (gt (ψ 71) 0)) 8) &&& 127))) z i := by have z_ := MO.setA (p := 75) S_6 rfl f_8 g_9 (fun j_ => congrFun (upd_oc _ _ _) j_); rw [uo_uo] at z_; exact z_
  have F_10 := fmA (p := 75) (okA_c (by decide)).1 g_9
  refine R_aload_n (pc := 124) 0 dX12_siv_124 rfl rfl ?_
  refine R_get (pc := 125) dX12_siv_125 fX12_53 S_11.obj (by omega) rfl ?_
  refine R_bipush (pc := 128) (v := 12) dX12_siv_128 (by decide) ?_
  refine R_dup2 (pc := 130) dX12_siv_130 rfl rfl ?_
  refine R_iald' (pc := 131) (j := 12) dX12_siv_131 (S_11.arr (p := 75) rfl) (by omega) ⟨rfl, by show 12 < 16; omega, by decide⟩ ?_
  refine R_eqi (y := oc ((updB (pt (ψ 75) 0 (gt (ψ 71) 0)) 8 (((pt (ψ 75) 0 (gt (ψ 71) 0)) 8) &&& 127)) 12)) rfl ?_
  refine R_bipush (pc := 132) (v := 127) dX12_siv_132 (by decide) ?_
  refine R_iand (pc := 134) dX12_siv_134 ?_
  refine R_eqi (y := oc (((updB (pt (ψ 75) 0 (gt (ψ 71) 0)) 8 (((pt (ψ 75) 0 (gt (ψ 71) 0)) 8) &&& 127)) 12) &&& 127)) (oc_127 _) ?_
  refine R_iast' (pc := 135) (j := 12) dX12_siv_135 (S_11.arr (p := 75) rfl) (by omega) ⟨rfl, by show 12 < 16; omega, by decide⟩ (fun h_12 f_13 g_14 => ?_)
  have S_16 : MO h_12 (uo ψ 75 (updB (updB (pt (ψ 75) 0 (gt (ψ 71) 0)) 8 (((pt (ψ 75) 0 (gt (ψ 71) 0)) 8) &&& 127)) 12 (((updB (pt (ψ 75) 0 (gt (ψ 71) 0)) 8 (((pt (ψ 75) 0 (gt (ψ 71) 0)) 8) &&& 127)) 12) &&& 127))) z i := by have z_ := MO.setA (p := 75) S_11 rfl f_13 g_14 (fun j_ => congrFun (upd_oc _ _ _) j_); rw [uo_uo] at z_; exact z_
  have F_15 := fmA (p := 75) (okA_c (by decide)).1 g_14
  refine R_aload_n (pc := 136) 0 dX12_siv_136 rfl rfl ?_
  refine R_iconst (pc := 137) (v := 1) dX12_siv_137 (by decide) ?_
  refine R_bipush (pc := 138) (v := 16) dX12_siv_138 (by decide) ?_
  refine R_iconst (pc := 140) (v := 0) dX12_siv_140 (by decide) ?_
  refine R_aload_n (pc := 141) 0 dX12_siv_141 rfl rfl ?_
  refine R_get (pc := 142) dX12_siv_142 fX12_130 S_16.obj (by omega) rfl ?_
  refine R_eqi (y := nI D.length) (hi3) ?_
  refine R_bipush (pc := 145) (v := 16) dX12_siv_145 (by decide) ?_
  refine R_isub (pc := 147) dX12_siv_147 ?_
  refine R_eqi (y := nI (D.length - 16)) (nI_sb (a := D.length) (b := 16) (by omega)) ?_
  refine R_iconst (pc := 148) (v := 0) dX12_siv_148 (by decide) ?_
  refine R_callVh (pc := 149) (μ' := mX12_count) (As := [.int (nI 1), .int (nI 16), .int (nI 0), .int (nI (D.length - 16)), .int (nI 0)]) (st := []) dX12_siv_149 zX12_count lX12_204 ⟨by decide, by decide⟩ rfl rfl ⟨by decide, by decide⟩ S_16.obj (by omega) rfl (Nat.le_of_ble_eq_true rfl) (oX12_count S_16 hn 1 16 0 (D.length - 16) 0 (by omega) (by omega) (by omega) (K1.uo (by decide)) (fun j => (stN (ctS F1 (sl D 16 (D.length - 16))) (cfm (rd D 0)) j).1) (fun j_ f_ _ e_ => by rw [om_one1 f_ (by omega) (Or.inl rfl), e_]; rfl) ((gt_cfm _).trans (congrArg cfm ((gt_pt _ _ _).trans eD0)))) (fun h_17 r_ q_18 => ?_)
  obtain ⟨ψ_22, rfl, S_19, K_21, J_23, F_20⟩ := q_18
  have K_24 := (K0.uo (by decide)).fr K_21 (by decide) (by decide) (by decide) (by decide)
  have K_25 := (K1.uo (by decide)).fr K_21 (by decide) (by decide) (by decide) (by decide)
  have c_ : ψ_22 72 = pgB _ (ψ 72) 0 (D.length - 16) := J_23
  have lS : (sl D 16 (D.length - 16)).length = D.length - 16 := sl_len _ _ _
  have lP : (ctO F1 (sl D 16 (D.length - 16)) (cfm (rd D 0))).length = D.length - 16 := by unfold ctO; rw [stN_lenM (sl D 16 (D.length - 16)) (fun j_ y_ => ctS_len F1 (sl D 16 (D.length - 16)) j_ y_), lS]; have := nbk_b (sl D 16 (D.length - 16)); rw [lS] at this; omega
  have yP : sg (ψ_22 72) 0 (ctO F1 (sl D 16 (D.length - 16)) (cfm (rd D 0))) := by
    refine stN_sg (H := F1) (fun _ _ => rfl) (fun j_ hj_ => ?_)
    rw [lS] at hj_
    rw [c_, pgB_in _ _ (by omega) (by omega), Nat.zero_add, Nat.sub_zero, og_sl _ _ hj_]
    exact congrArg (fun v_ => v_ ^^^ _) (by show ψ 71 (16 + j_) = _; exact sg0 hsD (by omega))
  refine R_aload_n (pc := 152) 0 dX12_siv_152 rfl rfl ?_
  refine R_aload_n (pc := 153) 0 dX12_siv_153 rfl rfl ?_
  refine R_get (pc := 154) dX12_siv_154 fX12_44 S_19.obj (by omega) rfl ?_
  refine R_iconst (pc := 157) (v := 0) dX12_siv_157 (by decide) ?_
  refine R_aload_n (pc := 158) 0 dX12_siv_158 rfl rfl ?_
  refine R_get (pc := 159) dX12_siv_159 fX12_130 S_19.obj (by omega) rfl ?_
  refine R_eqi (y := nI D.length) (hi3) ?_
  refine R_bipush (pc := 162) (v := 16) dX12_siv_162 (by decide) ?_
  refine R_isub (pc := 164) dX12_siv_164 ?_
  refine R_eqi (y := nI (D.length - 16)) (nI_sb (a := D.length) (b := 16) (by omega)) ?_
  refine R_eqi (y := nI (ctO F1 (sl D 16 (D.length - 16)) (cfm (rd D 0))).length) (by rw [lP]) ?_
  refine R_callVh (pc := 165) (μ' := mX12_made) (As := [.ref 72, .int 0, .int (nI (ctO F1 (sl D 16 (D.length - 16)) (cfm (rd D 0))).length)]) (st := []) dX12_siv_165 zX12_made lX12_220 ⟨by decide, by decide⟩ rfl rfl ⟨by decide, by decide⟩ S_19.obj (by omega) rfl (Nat.le_of_ble_eq_true rfl) (oX12_made_72 S_19 hn A N (ctO F1 (sl D 16 (D.length - 16)) (cfm (rd D 0))) hA hN (by rw [lP]; omega) hi5 hi6 (by rw [(show FR [72, 75, 76, 82, 83, 84, 86] ψ _ from (((FR.rf _ _).up (by decide)).tr K_21 (by decide))) 74 (by decide)]; exact hsA) (by rw [(show FR [72, 75, 76, 82, 83, 84, 86] ψ _ from (((FR.rf _ _).up (by decide)).tr K_21 (by decide))) 73 (by decide)]; exact hsN) yP K_24) (fun h_26 r_ q_27 => ?_)
  obtain ⟨ψ_31, i_33, rfl, S_28, I_34, K_30, J_32, F_29⟩ := q_27
  have K_35 := K_24.fr K_30 (by decide) (by decide) (by decide) (by decide)
  have K_36 := K_25.fr K_30 (by decide) (by decide) (by decide) (by decide)
  have mM : gt (ψ_31 82) 0 = (mdV F A N (ctO F1 (sl D 16 (D.length - 16)) (cfm (rd D 0)))) := J_32
  have yQ : sg (ψ_31 72) 0 (ctO F1 (sl D 16 (D.length - 16)) (cfm (rd D 0))) := by rw [K_30 72 (by decide)]; exact yP
  have e71 : ψ_31 71 = ψ 71 := (show FR [72, 75, 76, 82, 83, 84, 86] ψ _ from ((((FR.rf _ _).up (by decide)).tr K_21 (by decide)).tr K_30 (by decide))) 71 (by decide)
  refine R_aload_n (pc := 168) 0 dX12_siv_168 rfl rfl ?_
  refine R_aload_n (pc := 169) 0 dX12_siv_169 rfl rfl ?_
  refine R_get (pc := 170) dX12_siv_170 fX12_130 S_28.obj (by omega) rfl ?_
  refine R_eqi (y := nI D.length) ((I_34 3 (by decide)).trans (hi3)) ?_
  refine R_bipush (pc := 173) (v := 16) dX12_siv_173 (by decide) ?_
  refine R_isub (pc := 175) dX12_siv_175 ?_
  refine R_eqi (y := nI (D.length - 16)) (nI_sb (a := D.length) (b := 16) (by omega)) ?_
  refine R_put' (pc := 176) (fs' := [.int (i_33 0), .ref 62, .ref 63, .int (i_33 1), .ref 64, .int (i_33 2), .ref 65, .ref 66, .ref 67, .ref 68, .ref 69, .ref 70, .ref 71, .int (i_33 3), .ref 72, .int (nI (D.length - 16)), .ref 73, .int (i_33 5), .ref 74, .int (i_33 6), .ref 75, .ref 76, .ref 77, .ref 78, .ref 79, .ref 80, .ref 81, .ref 82, .ref 83, .ref 84, .int (i_33 7), .ref 85, .ref 86, .ref 87, .ref 88, .ref 89, .ref 90]) dX12_siv_176 fX12_153 tX12_15 rfl rfl S_28.obj (by omega) (Nat.le_of_ble_eq_true rfl) rfl (fun h_37 f_38 g_39 => ?_)
  have S_40 : MO h_37 ψ_31 z (ui i_33 4 (nI (D.length - 16))) := MO.setI (j := (ui i_33 4 (nI (D.length - 16)))) S_28 f_38 g_39
  have F_41 := fmI g_39
  refine R_iconst (pc := 179) (v := 1) dX12_siv_179 (by decide) ?_
  refine R_istore_n (pc := 180) (lv' := [(2, .int 1), (0, .ref 61), (1, .int 1)]) dX12_siv_180 rfl (by decide) rfl ?_
  refine R_iconst (pc := 181) (v := 0) dX12_siv_181 (by decide) ?_
  refine R_istore_n (pc := 182) (lv' := [(3, .int 0), (2, .int 1), (0, .ref 61), (1, .int 1)]) dX12_siv_182 rfl (by decide) rfl ?_
  refine R_sub [0, 1, 2, 3] rfl ?_
  refine qX12_siv_good (h := h_37) (ψ := ψ_31) S_40 hn ?_ 16 0 (by omega)
  rw [good16 mM (show gt (ψ_31 71) 0 = rd D 0 by rw [e71]; exact eD0)]
  refine R_iload_n (pc := 220) 1 dX12_siv_220 rfl rfl ?_
  refine R_if_eq (pc := 221) (tgt := 228) dX12_siv_221 (by decide) (fun c_42 => ?_) (fun c_42 => ?_)
  · skip
    refine R_bipush (pc := 228) (v := (-6)) dX12_siv_228 (by decide) ?_
    have hA_ : (some (.int (-6)) : Option Value) = some (.int (if smI (mdV F A N (ctO F1 (sl D 16 (D.length - 16)) (cfm (rd D 0)))) (rd D 0) = 0 then -6 else 0)) := by rw [if_pos c_42]
    have hI : IE [4, 7] i (ui i_33 4 (nI (D.length - 16))) := fun k_ hk_ => by rw [ui_n (fun e_ => hk_ (by rw [e_]; decide))]; exact I_34 k_ (fun q_ => hk_ (by revert q_; simp; omega))
    exact R_ireturn (pc := 230) dX12_siv_230 rfl (by decide) (by decide) ⟨rfl, _, _, hA_, S_40, hI, rfl, ((((FR.rf _ _).up (by decide)).tr K_21 (by decide)).tr K_30 (by decide)), yQ, (((((F_5.tr F_10).tr F_15).tr F_20).tr F_29).tr F_41)⟩
  · skip
    refine R_iconst (pc := 224) (v := 0) dX12_siv_224 (by decide) ?_
    refine R_goto (pc := 225) (tgt := 230) dX12_siv_225 (by decide) ?_
    have hA_ : (some (.int (0)) : Option Value) = some (.int (if smI (mdV F A N (ctO F1 (sl D 16 (D.length - 16)) (cfm (rd D 0)))) (rd D 0) = 0 then -6 else 0)) := by rw [if_neg c_42]
    have hI : IE [4, 7] i (ui i_33 4 (nI (D.length - 16))) := fun k_ hk_ => by rw [ui_n (fun e_ => hk_ (by rw [e_]; decide))]; exact I_34 k_ (fun q_ => hk_ (by revert q_; simp; omega))
    exact R_ireturn (pc := 230) dX12_siv_230 rfl (by decide) (by decide) ⟨rfl, _, _, hA_, S_40, hI, rfl, ((((FR.rf _ _).up (by decide)).tr K_21 (by decide)).tr K_30 (by decide)), yQ, (((((F_5.tr F_10).tr F_15).tr F_20).tr F_29).tr F_41)⟩
