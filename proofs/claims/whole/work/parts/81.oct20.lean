set_option maxHeartbeats 1000000 in
set_option maxRecDepth 100000 in
theorem qX12_tagged_good {l : Launch} {w : am_W} {h : am_H} {n : Nat} {ψ : Nat → oA} {z : fA} {i : mI} (S : MO h ψ z i) (hn : 90 ≤ n) (mm M : Nat) (v : Int32) (hmm : mm ≤ 16) (hM : M + mm ≤ 512) (hi1 : i 1 = nI mm) {Q : am_H → Nat → Option Value → Prop} (kk : RW l w mX12_tagged h n 0 0 171 [(5, .int (nI mm)), (4, .int (allI 1 (fun j => decide (oc (ψ 85 j) = oc (ψ 71 (M + j)))) mm)), (3, .int (nI M)), (0, .ref 61), (1, .int v), (2, .int 1)] [] Q) : ∀ (dd k : Nat), k + dd = mm → RW l w mX12_tagged h n 0 0 125 [(5, .int (nI k)), (4, .int (allI 1 (fun j => decide (oc (ψ 85 j) = oc (ψ 71 (M + j)))) k)), (3, .int (nI M)), (0, .ref 61), (1, .int v), (2, .int 1)] [] Q := by
  intro dd
  induction dd with
  | zero =>
    intro k hd
    refine R_iload (pc := 125) 0 dX12_tagged_125 rfl ?_
    refine R_aload_n (pc := 127) 3 dX12_tagged_127 rfl rfl ?_
    refine R_get (pc := 128) dX12_tagged_128 fX12_16 S.obj (by omega) rfl ?_
    refine R_eqi (y := nI mm) (hi1) ?_
    refine R_icmp_ge (pc := 131) (tgt := 171) dX12_tagged_131 (by decide) (fun c_1 => ?_) (fun c_1 => absurd (nI_le (a := mm) (b := k) (by omega) (by omega)) c_1)
    obtain rfl : k = mm := by omega
    exact kk
  | succ dd ih =>
    intro k hd
    refine R_iload (pc := 125) 0 dX12_tagged_125 rfl ?_
    refine R_aload_n (pc := 127) 3 dX12_tagged_127 rfl rfl ?_
    refine R_get (pc := 128) dX12_tagged_128 fX12_16 S.obj (by omega) rfl ?_
    refine R_eqi (y := nI mm) (hi1) ?_
    refine R_icmp_ge (pc := 131) (tgt := 171) dX12_tagged_131 (by decide) (fun c_1 => absurd c_1 (nI_ge (a := k) (b := mm) (by omega) (by omega))) (fun c_1 => ?_)
    refine R_iload (pc := 134) 1 dX12_tagged_134 rfl ?_
    refine R_if_eq (pc := 136) (tgt := 162) dX12_tagged_136 (by decide) (fun c_2 => ?_) (fun c_2 => ?_)
    · skip
      refine R_iconst (pc := 162) (v := 0) dX12_tagged_162 (by decide) ?_
      refine R_istore (pc := 163) (lv' := [(4, .int 0), (5, .int (nI k)), (3, .int (nI M)), (0, .ref 61), (1, .int v), (2, .int 1)]) dX12_tagged_163 (by decide) rfl ?_
      refine R_iinc (pc := 165) (j := 1) (v := nI (k + 1)) (lv' := [(5, .int (nI (k + 1))), (4, .int 0), (3, .int (nI M)), (0, .ref 61), (1, .int v), (2, .int 1)]) dX12_tagged_165 rfl (nI_add _ _) (by decide) rfl ?_
      refine R_goto (pc := 168) (tgt := 125) dX12_tagged_168 (by decide) ?_
      refine R_sub [0, 1, 2, 3, 4, 5] rfl ?_
      have e_ : allI 1 (fun j => decide (oc (ψ 85 j) = oc (ψ 71 (M + j)))) (k + 1) = 0 := by show (if (fun j => decide (oc (ψ 85 j) = oc (ψ 71 (M + j)))) k then allI 1 (fun j => decide (oc (ψ 85 j) = oc (ψ 71 (M + j)))) k else 0) = 0; rw [c_2, ite_self]
      have r_ := ih (k + 1) (by omega)
      rw [e_] at r_
      exact r_
    · skip
      refine R_aload_n (pc := 139) 3 dX12_tagged_139 rfl rfl ?_
      refine R_get (pc := 140) dX12_tagged_140 fX12_83 S.obj (by omega) rfl ?_
      refine R_iload (pc := 143) 0 dX12_tagged_143 rfl ?_
      refine R_iald' (pc := 145) (j := k) dX12_tagged_145 (S.arr (p := 85) rfl) (by omega) ⟨rfl, by show k < 16; omega, by decide⟩ ?_
      refine R_eqi (y := oc (ψ 85 k)) rfl ?_
      refine R_aload_n (pc := 146) 3 dX12_tagged_146 rfl rfl ?_
      refine R_get (pc := 147) dX12_tagged_147 fX12_41 S.obj (by omega) rfl ?_
      refine R_iload_n (pc := 150) 2 dX12_tagged_150 rfl rfl ?_
      refine R_iload (pc := 151) 0 dX12_tagged_151 rfl ?_
      refine R_iadd (pc := 153) dX12_tagged_153 ?_
      refine R_eqi (y := nI (M + k)) (nI_add M k) ?_
      refine R_iald' (pc := 154) (j := M + k) dX12_tagged_154 (S.arr (p := 71) rfl) (by omega) ⟨rfl, by show M + k < 700; omega, by decide⟩ ?_
      refine R_eqi (y := oc (ψ 71 (M + k))) rfl ?_
      refine R_icmp_ne (pc := 155) (tgt := 162) dX12_tagged_155 (by decide) (fun c_3 => ?_) (fun c_3 => ?_)
      · skip
        refine R_iconst (pc := 162) (v := 0) dX12_tagged_162 (by decide) ?_
        refine R_istore (pc := 163) (lv' := [(4, .int 0), (5, .int (nI k)), (3, .int (nI M)), (0, .ref 61), (1, .int v), (2, .int 1)]) dX12_tagged_163 (by decide) rfl ?_
        refine R_iinc (pc := 165) (j := 1) (v := nI (k + 1)) (lv' := [(5, .int (nI (k + 1))), (4, .int 0), (3, .int (nI M)), (0, .ref 61), (1, .int v), (2, .int 1)]) dX12_tagged_165 rfl (nI_add _ _) (by decide) rfl ?_
        refine R_goto (pc := 168) (tgt := 125) dX12_tagged_168 (by decide) ?_
        refine R_sub [0, 1, 2, 3, 4, 5] rfl ?_
        have a1 : allI 1 (fun j => decide (oc (ψ 85 j) = oc (ψ 71 (M + j)))) k = 1 := (allI_01 (Or.inr rfl) _ k).resolve_left c_2
        have e_ : allI 1 (fun j => decide (oc (ψ 85 j) = oc (ψ 71 (M + j)))) (k + 1) = 0 := by rw [allI_up a1]; exact if_neg (fun q_ => c_3 (of_decide_eq_true q_))
        have r_ := ih (k + 1) (by omega)
        rw [e_] at r_
        exact r_
      · skip
        refine R_iconst (pc := 158) (v := 1) dX12_tagged_158 (by decide) ?_
        refine R_goto (pc := 159) (tgt := 163) dX12_tagged_159 (by decide) ?_
        refine R_istore (pc := 163) (lv' := [(4, .int 1), (5, .int (nI k)), (3, .int (nI M)), (0, .ref 61), (1, .int v), (2, .int 1)]) dX12_tagged_163 (by decide) rfl ?_
        refine R_iinc (pc := 165) (j := 1) (v := nI (k + 1)) (lv' := [(5, .int (nI (k + 1))), (4, .int 1), (3, .int (nI M)), (0, .ref 61), (1, .int v), (2, .int 1)]) dX12_tagged_165 rfl (nI_add _ _) (by decide) rfl ?_
        refine R_goto (pc := 168) (tgt := 125) dX12_tagged_168 (by decide) ?_
        refine R_sub [0, 1, 2, 3, 4, 5] rfl ?_
        have a1 : allI 1 (fun j => decide (oc (ψ 85 j) = oc (ψ 71 (M + j)))) k = 1 := (allI_01 (Or.inr rfl) _ k).resolve_left c_2
        have e_ : allI 1 (fun j => decide (oc (ψ 85 j) = oc (ψ 71 (M + j)))) (k + 1) = 1 := by rw [allI_up a1]; exact if_pos (decide_eq_true c_3)
        have r_ := ih (k + 1) (by omega)
        rw [e_] at r_
        exact r_
theorem goodT {f g : oA} {T : bP} {D : List (BitVec 8)} {M mm : Nat} (hm : mm ≤ 16) (hD : D.length = M + mm) (hf : gt f 0 = T) (hg : sg g 0 D) : allI 1 (fun j => decide (oc (f j) = oc (g (M + j)))) mm = smI (kf T (nI mm)) (rd D M) := by
  rw [allI_iff, smI_iff]
  have e : (∀ j, j < mm → decide (oc (f j) = oc (g (M + j))) = true) ↔ kf T (nI mm) = rd D M := by
    constructor
    · intro h
      apply ob_ext
      intro k hk
      rw [ob_kf _ hm hk, ob_rd _ _ hk]
      by_cases q : k < mm
      · rw [if_pos q, ← gt_at0 hf hk, ← sg0 hg (by omega)]
        exact oc_inj (of_decide_eq_true (h k q))
      · rw [if_neg q, og_out (by omega)]
    · intro h j hj
      apply decide_eq_true
      have := congrArg (fun q => ob q j) h
      simp only [ob_kf T hm (show j < 16 by omega), ob_rd D M (show j < 16 by omega), if_pos hj] at this
      rw [gt_at0 hf (by omega), sg0 hg (by omega), this]
  simp only [e]
set_option maxHeartbeats 1000000 in
set_option maxRecDepth 100000 in
theorem oX12_tagged_12s {l : Launch} {w : am_W} {h : am_H} {n : Nat} {ψ : Nat → oA} {z : fA} {i : mI} (S : MO h ψ z i) (hn : 90 ≤ n) (A N D : List (BitVec 8)) (mm : Nat) (hA : A.length ≤ 256) (hN : N.length ≤ 64) (hD : D.length ≤ 512) (hmm : 4 ≤ mm) (hmm16 : mm ≤ 16) (hi1 : i 1 = nI mm) (hi3 : i 3 = nI D.length) (hi5 : i 5 = nI N.length) (hi6 : i 6 = nI A.length) (hsA : sg (ψ 74) 0 A) (hsN : sg (ψ 73) 0 N) (hsD : sg (ψ 71) 0 D) {F G : bP → bP} (K0 : Kh ψ 0 F G) : RH l w mX12_tagged h n [.ref 61, .int 12, .int 0] (fun h2 q => ∃ ψ2 i2, q = some (.int 0) ∧ MO h2 ψ2 z i2 ∧ IE [4, 7] i i2 ∧ i2 4 = nI (D.length + mm) ∧ FR [72, 75, 76, 78, 79, 80, 81, 82, 83, 84, 85, 87, 88, 89, 90] ψ ψ2 ∧ sg (ψ2 72) 0 ((gcO F D (gJ (F (0, 0)) N)) ++ bt (gTag F A (gcO F D (gJ (F (0, 0)) N)) D N) mm) ∧ FM h h2) := by
  refine RC.of [(0, .ref 61), (1, .int 12), (2, .int 0)] (by decide +kernel) rfl (Nat.le_of_ble_eq_true rfl) ?_
  refine R_iload_n (pc := 0) 2 dX12_tagged_0 rfl rfl ?_
  refine R_if_eq (pc := 1) (tgt := 16) dX12_tagged_1 (by decide) (fun c_1 => ?_) (fun c_1 => absurd (rfl) c_1)
  refine R_aload_n (pc := 16) 0 dX12_tagged_16 rfl rfl ?_
  refine R_get (pc := 17) dX12_tagged_17 fX12_130 S.obj (by omega) rfl ?_
  refine R_eqi (y := nI D.length) (hi3) ?_
  refine R_istore_n (pc := 20) (lv' := [(3, .int (nI D.length)), (0, .ref 61), (1, .int 12), (2, .int 0)]) dX12_tagged_20 rfl (by decide) rfl ?_
  refine R_iload_n (pc := 21) 2 dX12_tagged_21 rfl rfl ?_
  refine R_tableIn (pc := 22) (tgt := 48) dX12_tagged_22 (by decide) (by decide) rfl (by decide) ?_
  refine R_aload_n (pc := 48) 1 dX12_tagged_48 rfl rfl ?_
  refine R_iload_n (pc := 49) 3 dX12_tagged_49 rfl rfl ?_
  refine R_iload_n (pc := 50) 0 dX12_tagged_50 rfl rfl ?_
  refine R_callVh (pc := 51) (μ' := mX12_galois) (As := [.int 0, .int (nI D.length)]) (st := []) dX12_tagged_51 zX12_galois lX12_235 ⟨by decide, by decide⟩ rfl rfl ⟨by decide, by decide⟩ S.obj (by omega) rfl (Nat.le_of_ble_eq_true rfl) (oX12_galois_s S hn A N D hA hN (by omega) hi5 hi6 hsA hsN hsD K0) (fun h_2 r_ q_3 => ?_)
  obtain ⟨ψ_7, rfl, S_4, K_6, J_8, F_5⟩ := q_3
  have K_9 := K0.fr K_6 (by decide) (by decide) (by decide) (by decide)
  have yO : sg (ψ_7 72) 0 (gcO F D (gJ (F (0, 0)) N)) := J_8.1
  have tO : gt (ψ_7 85) 0 = (gTag F A (gcO F D (gJ (F (0, 0)) N)) D N) := J_8.2
  have KU : FR [72, 75, 76, 78, 79, 80, 81, 82, 83, 84, 85, 87, 88, 89, 90] ψ ψ_7 := ((FR.rf _ _).tr K_6 (by decide))
  have lO : (gcO F D (gJ (F (0, 0)) N)).length = D.length := by unfold gcO; rw [stN_lenM D (fun j_ y_ => gcS_len F D j_ y_)]; have := nbk_b D; omega
  refine R_goto (pc := 54) (tgt := 81) dX12_tagged_54 (by decide) ?_
  refine R_aload_n (pc := 81) 1 dX12_tagged_81 rfl rfl ?_
  refine R_iload_n (pc := 82) 0 dX12_tagged_82 rfl rfl ?_
  refine R_put' (pc := 83) (fs' := [.int (i 0), .ref 62, .ref 63, .int (i 1), .ref 64, .int (i 2), .ref 65, .ref 66, .ref 67, .ref 68, .ref 69, .ref 70, .ref 71, .int (i 3), .ref 72, .int (nI D.length), .ref 73, .int (i 5), .ref 74, .int (i 6), .ref 75, .ref 76, .ref 77, .ref 78, .ref 79, .ref 80, .ref 81, .ref 82, .ref 83, .ref 84, .int (i 7), .ref 85, .ref 86, .ref 87, .ref 88, .ref 89, .ref 90]) dX12_tagged_83 fX12_153 tX12_15 rfl rfl S_4.obj (by omega) (Nat.le_of_ble_eq_true rfl) rfl (fun h_10 f_11 g_12 => ?_)
  have S_13 : MO h_10 ψ_7 z (ui i 4 (nI D.length)) := MO.setI (j := (ui i 4 (nI D.length))) S_4 f_11 g_12
  have F_14 := fmI g_12
  refine R_iload_n (pc := 86) 3 dX12_tagged_86 rfl rfl ?_
  refine R_if_ne (pc := 87) (tgt := 119) dX12_tagged_87 (by decide) (fun c_15 => absurd (rfl) c_15) (fun c_15 => ?_)
  refine R_aload_n (pc := 90) 1 dX12_tagged_90 rfl rfl ?_
  refine R_get (pc := 91) dX12_tagged_91 fX12_83 S_13.obj (by omega) rfl ?_
  refine R_iconst (pc := 94) (v := 0) dX12_tagged_94 (by decide) ?_
  refine R_aload_n (pc := 95) 1 dX12_tagged_95 rfl rfl ?_
  refine R_get (pc := 96) dX12_tagged_96 fX12_44 S_13.obj (by omega) rfl ?_
  refine R_iload_n (pc := 99) 0 dX12_tagged_99 rfl rfl ?_
  refine R_aload_n (pc := 100) 1 dX12_tagged_100 rfl rfl ?_
  refine R_get (pc := 101) dX12_tagged_101 fX12_16 S_13.obj (by omega) rfl ?_
  refine R_eqi (y := nI mm) (hi1) ?_
  refine R_callSh (pc := 104) (μ' := mX12_copy) (As := [.ref 85, .int (nI 0), .ref 72, .int (nI D.length), .int (nI mm)]) (st := []) dX12_tagged_104 zX12_copy lX12_133 ⟨by decide, by decide⟩ rfl rfl ⟨by decide, by decide⟩ rfl (Nat.le_of_ble_eq_true rfl) (oX12_copy S_13 hn (p := 85) (q := 72) rfl rfl 0 D.length mm (by show 0 + mm ≤ 16; omega) (by show D.length + mm ≤ 700; omega) (by decide)) (fun h_16 r_ q_17 => ?_)
  obtain ⟨rfl, S_18, F_19⟩ := q_17
  have S_20 : MO h_16 (uo ψ_7 72 (cpB (ψ_7 85) 0 (ψ_7 72) D.length mm)) z (ui i 4 (nI D.length)) := S_18
  refine R_aload_n (pc := 107) 1 dX12_tagged_107 rfl rfl ?_
  refine R_iload_n (pc := 108) 0 dX12_tagged_108 rfl rfl ?_
  refine R_aload_n (pc := 109) 1 dX12_tagged_109 rfl rfl ?_
  refine R_get (pc := 110) dX12_tagged_110 fX12_16 S_20.obj (by omega) rfl ?_
  refine R_eqi (y := nI mm) (hi1) ?_
  refine R_iadd (pc := 113) dX12_tagged_113 ?_
  refine R_eqi (y := nI (D.length + mm)) (nI_add D.length mm) ?_
  refine R_put' (pc := 114) (fs' := [.int (i 0), .ref 62, .ref 63, .int (i 1), .ref 64, .int (i 2), .ref 65, .ref 66, .ref 67, .ref 68, .ref 69, .ref 70, .ref 71, .int (i 3), .ref 72, .int (nI (D.length + mm)), .ref 73, .int (i 5), .ref 74, .int (i 6), .ref 75, .ref 76, .ref 77, .ref 78, .ref 79, .ref 80, .ref 81, .ref 82, .ref 83, .ref 84, .int (i 7), .ref 85, .ref 86, .ref 87, .ref 88, .ref 89, .ref 90]) dX12_tagged_114 fX12_153 tX12_15 rfl rfl S_20.obj (by omega) (Nat.le_of_ble_eq_true rfl) rfl (fun h_21 f_22 g_23 => ?_)
  have S_24 : MO h_21 (uo ψ_7 72 (cpB (ψ_7 85) 0 (ψ_7 72) D.length mm)) z (ui i 4 (nI (D.length + mm))) := MO.setI (j := (ui i 4 (nI (D.length + mm)))) S_20 f_22 g_23
  have F_25 := fmI g_23
  refine R_iconst (pc := 117) (v := 0) dX12_tagged_117 (by decide) ?_
  have hI : IE [4, 7] i (ui i 4 (nI (D.length + mm))) := fun k_ hk_ => by
    rw [ui_n (fun e_ => hk_ (by rw [e_]; decide))]
  have hy : sg (cpB (ψ_7 85) 0 (ψ_7 72) D.length mm) 0 ((gcO F D (gJ (F (0, 0)) N)) ++ bt (gTag F A (gcO F D (gJ (F (0, 0)) N)) D N) mm) := by
    refine sg.app (yO.mv fun j_ hj_ => by rw [cpB_out _ _ _ (by omega)]) (fun j_ hj_ => ?_)
    rw [bt_len] at hj_
    rw [lO, Nat.zero_add, og_bt _ hj_, ← gt_at0 tO (by omega)]
    unfold cpB
    rw [if_pos (by omega), show 0 + (D.length + j_ - D.length) = j_ by omega]
  exact R_ireturn (pc := 118) dX12_tagged_118 rfl (by decide) (by decide) ⟨rfl, _, _, rfl, S_24, hI, rfl, (KU.up (by decide)), hy, (((F_5.tr F_14).tr F_19).tr F_25)⟩
set_option maxHeartbeats 1000000 in
set_option maxRecDepth 100000 in
theorem oX12_tagged_12o {l : Launch} {w : am_W} {h : am_H} {n : Nat} {ψ : Nat → oA} {z : fA} {i : mI} (S : MO h ψ z i) (hn : 90 ≤ n) (A N D : List (BitVec 8)) (mm : Nat) (hA : A.length ≤ 256) (hN : N.length ≤ 64) (hD : D.length ≤ 512) (hmm : 4 ≤ mm) (hmm16 : mm ≤ 16) (hi1 : i 1 = nI mm) (hi3 : i 3 = nI D.length) (hi5 : i 5 = nI N.length) (hi6 : i 6 = nI A.length) (hsA : sg (ψ 74) 0 A) (hsN : sg (ψ 73) 0 N) (hsD : sg (ψ 71) 0 D) {F G : bP → bP} (K0 : Kh ψ 0 F G) (hDm : mm ≤ D.length) : RH l w mX12_tagged h n [.ref 61, .int 12, .int 1] (fun h2 q => ∃ ψ2 i2, q = some (.int (if smI (kf (gTag F A (sl D 0 (D.length - mm)) (sl D 0 (D.length - mm)) N) (nI mm)) (rd D (D.length - mm)) = 0 then -6 else 0)) ∧ MO h2 ψ2 z i2 ∧ IE [4, 7] i i2 ∧ i2 4 = nI (D.length - mm) ∧ FR [72, 75, 76, 78, 79, 80, 81, 82, 83, 84, 85, 87, 88, 89, 90] ψ ψ2 ∧ sg (ψ2 72) 0 (gcO F (sl D 0 (D.length - mm)) (gJ (F (0, 0)) N)) ∧ FM h h2) := by
  refine RC.of [(0, .ref 61), (1, .int 12), (2, .int 1)] (by decide +kernel) rfl (Nat.le_of_ble_eq_true rfl) ?_
  have lD : (sl D 0 (D.length - mm)).length = D.length - mm := sl_len _ _ _
  have hsE : sg (ψ 71) 0 (sl D 0 (D.length - mm)) := fun j_ hj_ => by rw [lD] at hj_; rw [og_sl _ _ hj_, Nat.zero_add]; exact sg0 hsD (by omega)
  refine R_iload_n (pc := 0) 2 dX12_tagged_0 rfl rfl ?_
  refine R_if_eq (pc := 1) (tgt := 16) dX12_tagged_1 (by decide) (fun c_1 => absurd c_1 (by decide)) (fun c_1 => ?_)
  refine R_aload_n (pc := 4) 0 dX12_tagged_4 rfl rfl ?_
  refine R_get (pc := 5) dX12_tagged_5 fX12_130 S.obj (by omega) rfl ?_
  refine R_eqi (y := nI D.length) (hi3) ?_
  refine R_aload_n (pc := 8) 0 dX12_tagged_8 rfl rfl ?_
  refine R_get (pc := 9) dX12_tagged_9 fX12_16 S.obj (by omega) rfl ?_
  refine R_eqi (y := nI mm) (hi1) ?_
  refine R_isub (pc := 12) dX12_tagged_12 ?_
  refine R_eqi (y := nI (D.length - mm)) (nI_sb (a := D.length) (b := mm) (by omega)) ?_
  refine R_goto (pc := 13) (tgt := 20) dX12_tagged_13 (by decide) ?_
  refine R_istore_n (pc := 20) (lv' := [(3, .int (nI (D.length - mm))), (0, .ref 61), (1, .int 12), (2, .int 1)]) dX12_tagged_20 rfl (by decide) rfl ?_
  refine R_iload_n (pc := 21) 2 dX12_tagged_21 rfl rfl ?_
  refine R_tableIn (pc := 22) (tgt := 48) dX12_tagged_22 (by decide) (by decide) rfl (by decide) ?_
  refine R_aload_n (pc := 48) 1 dX12_tagged_48 rfl rfl ?_
  refine R_iload_n (pc := 49) 3 dX12_tagged_49 rfl rfl ?_
  refine R_iload_n (pc := 50) 0 dX12_tagged_50 rfl rfl ?_
  refine R_eqi (y := nI (sl D 0 (D.length - mm)).length) (by rw [lD]) ?_
  refine R_callVh (pc := 51) (μ' := mX12_galois) (As := [.int 1, .int (nI (sl D 0 (D.length - mm)).length)]) (st := []) dX12_tagged_51 zX12_galois lX12_235 ⟨by decide, by decide⟩ rfl rfl ⟨by decide, by decide⟩ S.obj (by omega) rfl (Nat.le_of_ble_eq_true rfl) (oX12_galois_o S hn A N (sl D 0 (D.length - mm)) hA hN (by rw [lD]; omega) hi5 hi6 hsA hsN hsE K0) (fun h_2 r_ q_3 => ?_)
  obtain ⟨ψ_7, rfl, S_4, K_6, J_8, F_5⟩ := q_3
  have K_9 := K0.fr K_6 (by decide) (by decide) (by decide) (by decide)
  have yO : sg (ψ_7 72) 0 (gcO F (sl D 0 (D.length - mm)) (gJ (F (0, 0)) N)) := J_8.1
  have tO : gt (ψ_7 85) 0 = (gTag F A (sl D 0 (D.length - mm)) (sl D 0 (D.length - mm)) N) := J_8.2
  have KU : FR [72, 75, 76, 78, 79, 80, 81, 82, 83, 84, 85, 87, 88, 89, 90] ψ ψ_7 := ((FR.rf _ _).tr K_6 (by decide))
  have lO : (gcO F (sl D 0 (D.length - mm)) (gJ (F (0, 0)) N)).length = (sl D 0 (D.length - mm)).length := by unfold gcO; rw [stN_lenM (sl D 0 (D.length - mm)) (fun j_ y_ => gcS_len F (sl D 0 (D.length - mm)) j_ y_)]; have := nbk_b (sl D 0 (D.length - mm)); omega
  refine R_goto (pc := 54) (tgt := 81) dX12_tagged_54 (by decide) ?_
  refine R_aload_n (pc := 81) 1 dX12_tagged_81 rfl rfl ?_
  refine R_iload_n (pc := 82) 0 dX12_tagged_82 rfl rfl ?_
  refine R_put' (pc := 83) (fs' := [.int (i 0), .ref 62, .ref 63, .int (i 1), .ref 64, .int (i 2), .ref 65, .ref 66, .ref 67, .ref 68, .ref 69, .ref 70, .ref 71, .int (i 3), .ref 72, .int (nI (D.length - mm)), .ref 73, .int (i 5), .ref 74, .int (i 6), .ref 75, .ref 76, .ref 77, .ref 78, .ref 79, .ref 80, .ref 81, .ref 82, .ref 83, .ref 84, .int (i 7), .ref 85, .ref 86, .ref 87, .ref 88, .ref 89, .ref 90]) dX12_tagged_83 fX12_153 tX12_15 rfl rfl S_4.obj (by omega) (Nat.le_of_ble_eq_true rfl) rfl (fun h_10 f_11 g_12 => ?_)
  have S_13 : MO h_10 ψ_7 z (ui i 4 (nI (D.length - mm))) := MO.setI (j := (ui i 4 (nI (D.length - mm)))) S_4 f_11 g_12
  have F_14 := fmI g_12
  refine R_iload_n (pc := 86) 3 dX12_tagged_86 rfl rfl ?_
  refine R_if_ne (pc := 87) (tgt := 119) dX12_tagged_87 (by decide) (fun c_15 => ?_) (fun c_15 => absurd c_15 (by decide))
  refine R_iconst (pc := 119) (v := 1) dX12_tagged_119 (by decide) ?_
  refine R_istore (pc := 120) (lv' := [(4, .int 1), (3, .int (nI (D.length - mm))), (0, .ref 61), (1, .int 12), (2, .int 1)]) dX12_tagged_120 (by decide) rfl ?_
  refine R_iconst (pc := 122) (v := 0) dX12_tagged_122 (by decide) ?_
  refine R_istore (pc := 123) (lv' := [(5, .int 0), (4, .int 1), (3, .int (nI (D.length - mm))), (0, .ref 61), (1, .int 12), (2, .int 1)]) dX12_tagged_123 (by decide) rfl ?_
  have e71 : ψ_7 71 = ψ 71 := KU 71 (by decide)
  refine R_sub [0, 1, 2, 3, 4, 5] rfl ?_
  refine qX12_tagged_good (h := h_10) (ψ := ψ_7) S_13 hn mm (D.length - mm) 12 hmm16 (by omega) (hi1) ?_ mm 0 (by omega)
  rw [goodT (M := D.length - mm) hmm16 (by omega) tO (show sg (ψ_7 71) 0 D by rw [e71]; exact hsD)]
  refine R_iload (pc := 171) 1 dX12_tagged_171 rfl ?_
  refine R_if_eq (pc := 173) (tgt := 180) dX12_tagged_173 (by decide) (fun c_16 => ?_) (fun c_16 => ?_)
  · skip
    refine R_bipush (pc := 180) (v := (-6)) dX12_tagged_180 (by decide) ?_
    have hI : IE [4, 7] i (ui i 4 (nI (D.length - mm))) := fun k_ hk_ => by
      rw [ui_n (fun e_ => hk_ (by rw [e_]; decide))]
    have hA_ : (some (.int (-6)) : Option Value) = some (.int (if smI (kf (gTag F A (sl D 0 (D.length - mm)) (sl D 0 (D.length - mm)) N) (nI mm)) (rd D (D.length - mm)) = 0 then -6 else 0)) := by rw [if_pos c_16]
    exact R_ireturn (pc := 182) dX12_tagged_182 rfl (by decide) (by decide) ⟨rfl, _, _, hA_, S_13, hI, rfl, KU, yO, (F_5.tr F_14)⟩
  · skip
    refine R_iconst (pc := 176) (v := 0) dX12_tagged_176 (by decide) ?_
    refine R_goto (pc := 177) (tgt := 182) dX12_tagged_177 (by decide) ?_
    have hI : IE [4, 7] i (ui i 4 (nI (D.length - mm))) := fun k_ hk_ => by
      rw [ui_n (fun e_ => hk_ (by rw [e_]; decide))]
    have hA_ : (some (.int (0)) : Option Value) = some (.int (if smI (kf (gTag F A (sl D 0 (D.length - mm)) (sl D 0 (D.length - mm)) N) (nI mm)) (rd D (D.length - mm)) = 0 then -6 else 0)) := by rw [if_neg c_16]
    exact R_ireturn (pc := 182) dX12_tagged_182 rfl (by decide) (by decide) ⟨rfl, _, _, hA_, S_13, hI, rfl, KU, yO, (F_5.tr F_14)⟩
set_option maxHeartbeats 1000000 in
set_option maxRecDepth 100000 in
theorem oX12_tagged_13s {l : Launch} {w : am_W} {h : am_H} {n : Nat} {ψ : Nat → oA} {z : fA} {i : mI} (S : MO h ψ z i) (hn : 90 ≤ n) (A N D : List (BitVec 8)) (mm : Nat) (hA : A.length ≤ 256) (hN : N.length ≤ 64) (hD : D.length ≤ 512) (hmm : 4 ≤ mm) (hmm16 : mm ≤ 16) (hi1 : i 1 = nI mm) (hi3 : i 3 = nI D.length) (hi5 : i 5 = nI N.length) (hi6 : i 6 = nI A.length) (hsA : sg (ψ 74) 0 A) (hsN : sg (ψ 73) 0 N) (hsD : sg (ψ 71) 0 D) {F G : bP → bP} (K0 : Kh ψ 0 F G) (hN7 : 7 ≤ N.length) (hN13 : N.length ≤ 13) : RH l w mX12_tagged h n [.ref 61, .int 13, .int 0] (fun h2 q => ∃ ψ2 i2, q = some (.int 0) ∧ MO h2 ψ2 z i2 ∧ IE [4, 7] i i2 ∧ i2 4 = nI (D.length + mm) ∧ FR [72, 75, 76, 78, 79, 80, 81, 82, 83, 84, 85, 87, 88, 89, 90] ψ ψ2 ∧ sg (ψ2 72) 0 ((ctO F D (one1 (cnB N (15 - N.length)))) ++ bt (cnT F A N D (15 - N.length) mm) mm) ∧ FM h h2) := by
  refine RC.of [(0, .ref 61), (1, .int 13), (2, .int 0)] (by decide +kernel) rfl (Nat.le_of_ble_eq_true rfl) ?_
  refine R_iload_n (pc := 0) 2 dX12_tagged_0 rfl rfl ?_
  refine R_if_eq (pc := 1) (tgt := 16) dX12_tagged_1 (by decide) (fun c_1 => ?_) (fun c_1 => absurd (rfl) c_1)
  refine R_aload_n (pc := 16) 0 dX12_tagged_16 rfl rfl ?_
  refine R_get (pc := 17) dX12_tagged_17 fX12_130 S.obj (by omega) rfl ?_
  refine R_eqi (y := nI D.length) (hi3) ?_
  refine R_istore_n (pc := 20) (lv' := [(3, .int (nI D.length)), (0, .ref 61), (1, .int 13), (2, .int 0)]) dX12_tagged_20 rfl (by decide) rfl ?_
  refine R_iload_n (pc := 21) 2 dX12_tagged_21 rfl rfl ?_
  refine R_tableIn (pc := 22) (tgt := 57) dX12_tagged_22 (by decide) (by decide) rfl (by decide) ?_
  refine R_aload_n (pc := 57) 1 dX12_tagged_57 rfl rfl ?_
  refine R_iload_n (pc := 58) 3 dX12_tagged_58 rfl rfl ?_
  refine R_iload_n (pc := 59) 0 dX12_tagged_59 rfl rfl ?_
  refine R_callVh (pc := 60) (μ' := mX12_counted) (As := [.int 0, .int (nI D.length)]) (st := []) dX12_tagged_60 zX12_counted lX12_238 ⟨by decide, by decide⟩ rfl rfl ⟨by decide, by decide⟩ S.obj (by omega) rfl (Nat.le_of_ble_eq_true rfl) (oX12_counted_s S hn A N D mm hA hN7 hN13 (by omega) hmm hmm16 hi1 hi5 hi6 hsA hsN hsD K0) (fun h_2 r_ q_3 => ?_)
  obtain ⟨ψ_7, rfl, S_4, K_6, J_8, F_5⟩ := q_3
  have K_9 := K0.fr K_6 (by decide) (by decide) (by decide) (by decide)
  have yO : sg (ψ_7 72) 0 (ctO F D (one1 (cnB N (15 - N.length)))) := J_8.1
  have tO : gt (ψ_7 85) 0 = (cnT F A N D (15 - N.length) mm) := J_8.2
  have KU : FR [72, 75, 76, 78, 79, 80, 81, 82, 83, 84, 85, 87, 88, 89, 90] ψ ψ_7 := ((FR.rf _ _).tr K_6 (by decide))
  have lO : (ctO F D (one1 (cnB N (15 - N.length)))).length = D.length := by unfold ctO; rw [stN_lenM D (fun j_ y_ => ctS_len F D j_ y_)]; have := nbk_b D; omega
  refine R_goto (pc := 63) (tgt := 81) dX12_tagged_63 (by decide) ?_
  refine R_aload_n (pc := 81) 1 dX12_tagged_81 rfl rfl ?_
  refine R_iload_n (pc := 82) 0 dX12_tagged_82 rfl rfl ?_
  refine R_put' (pc := 83) (fs' := [.int (i 0), .ref 62, .ref 63, .int (i 1), .ref 64, .int (i 2), .ref 65, .ref 66, .ref 67, .ref 68, .ref 69, .ref 70, .ref 71, .int (i 3), .ref 72, .int (nI D.length), .ref 73, .int (i 5), .ref 74, .int (i 6), .ref 75, .ref 76, .ref 77, .ref 78, .ref 79, .ref 80, .ref 81, .ref 82, .ref 83, .ref 84, .int (i 7), .ref 85, .ref 86, .ref 87, .ref 88, .ref 89, .ref 90]) dX12_tagged_83 fX12_153 tX12_15 rfl rfl S_4.obj (by omega) (Nat.le_of_ble_eq_true rfl) rfl (fun h_10 f_11 g_12 => ?_)
  have S_13 : MO h_10 ψ_7 z (ui i 4 (nI D.length)) := MO.setI (j := (ui i 4 (nI D.length))) S_4 f_11 g_12
  have F_14 := fmI g_12
  refine R_iload_n (pc := 86) 3 dX12_tagged_86 rfl rfl ?_
  refine R_if_ne (pc := 87) (tgt := 119) dX12_tagged_87 (by decide) (fun c_15 => absurd (rfl) c_15) (fun c_15 => ?_)
  refine R_aload_n (pc := 90) 1 dX12_tagged_90 rfl rfl ?_
  refine R_get (pc := 91) dX12_tagged_91 fX12_83 S_13.obj (by omega) rfl ?_
  refine R_iconst (pc := 94) (v := 0) dX12_tagged_94 (by decide) ?_
  refine R_aload_n (pc := 95) 1 dX12_tagged_95 rfl rfl ?_
  refine R_get (pc := 96) dX12_tagged_96 fX12_44 S_13.obj (by omega) rfl ?_
  refine R_iload_n (pc := 99) 0 dX12_tagged_99 rfl rfl ?_
  refine R_aload_n (pc := 100) 1 dX12_tagged_100 rfl rfl ?_
  refine R_get (pc := 101) dX12_tagged_101 fX12_16 S_13.obj (by omega) rfl ?_
  refine R_eqi (y := nI mm) (hi1) ?_
  refine R_callSh (pc := 104) (μ' := mX12_copy) (As := [.ref 85, .int (nI 0), .ref 72, .int (nI D.length), .int (nI mm)]) (st := []) dX12_tagged_104 zX12_copy lX12_133 ⟨by decide, by decide⟩ rfl rfl ⟨by decide, by decide⟩ rfl (Nat.le_of_ble_eq_true rfl) (oX12_copy S_13 hn (p := 85) (q := 72) rfl rfl 0 D.length mm (by show 0 + mm ≤ 16; omega) (by show D.length + mm ≤ 700; omega) (by decide)) (fun h_16 r_ q_17 => ?_)
  obtain ⟨rfl, S_18, F_19⟩ := q_17
  have S_20 : MO h_16 (uo ψ_7 72 (cpB (ψ_7 85) 0 (ψ_7 72) D.length mm)) z (ui i 4 (nI D.length)) := S_18
  refine R_aload_n (pc := 107) 1 dX12_tagged_107 rfl rfl ?_
  refine R_iload_n (pc := 108) 0 dX12_tagged_108 rfl rfl ?_
  refine R_aload_n (pc := 109) 1 dX12_tagged_109 rfl rfl ?_
  refine R_get (pc := 110) dX12_tagged_110 fX12_16 S_20.obj (by omega) rfl ?_
  refine R_eqi (y := nI mm) (hi1) ?_
  refine R_iadd (pc := 113) dX12_tagged_113 ?_
  refine R_eqi (y := nI (D.length + mm)) (nI_add D.length mm) ?_
  refine R_put' (pc := 114) (fs' := [.int (i 0), .ref 62, .ref 63, .int (i 1), .ref 64, .int (i 2), .ref 65, .ref 66, .ref 67, .ref 68, .ref 69, .ref 70, .ref 71, .int (i 3), .ref 72, .int (nI (D.length + mm)), .ref 73, .int (i 5), .ref 74, .int (i 6), .ref 75, .ref 76, .ref 77, .ref 78, .ref 79, .ref 80, .ref 81, .ref 82, .ref 83, .ref 84, .int (i 7), .ref 85, .ref 86, .ref 87, .ref 88, .ref 89, .ref 90]) dX12_tagged_114 fX12_153 tX12_15 rfl rfl S_20.obj (by omega) (Nat.le_of_ble_eq_true rfl) rfl (fun h_21 f_22 g_23 => ?_)
  have S_24 : MO h_21 (uo ψ_7 72 (cpB (ψ_7 85) 0 (ψ_7 72) D.length mm)) z (ui i 4 (nI (D.length + mm))) := MO.setI (j := (ui i 4 (nI (D.length + mm)))) S_20 f_22 g_23
  have F_25 := fmI g_23
  refine R_iconst (pc := 117) (v := 0) dX12_tagged_117 (by decide) ?_
  have hI : IE [4, 7] i (ui i 4 (nI (D.length + mm))) := fun k_ hk_ => by
    rw [ui_n (fun e_ => hk_ (by rw [e_]; decide))]
  have hy : sg (cpB (ψ_7 85) 0 (ψ_7 72) D.length mm) 0 ((ctO F D (one1 (cnB N (15 - N.length)))) ++ bt (cnT F A N D (15 - N.length) mm) mm) := by
    refine sg.app (yO.mv fun j_ hj_ => by rw [cpB_out _ _ _ (by omega)]) (fun j_ hj_ => ?_)
    rw [bt_len] at hj_
    rw [lO, Nat.zero_add, og_bt _ hj_, ← gt_at0 tO (by omega)]
    unfold cpB
    rw [if_pos (by omega), show 0 + (D.length + j_ - D.length) = j_ by omega]
  exact R_ireturn (pc := 118) dX12_tagged_118 rfl (by decide) (by decide) ⟨rfl, _, _, rfl, S_24, hI, rfl, (KU.up (by decide)), hy, (((F_5.tr F_14).tr F_19).tr F_25)⟩
set_option maxHeartbeats 1000000 in
set_option maxRecDepth 100000 in
theorem oX12_tagged_13o {l : Launch} {w : am_W} {h : am_H} {n : Nat} {ψ : Nat → oA} {z : fA} {i : mI} (S : MO h ψ z i) (hn : 90 ≤ n) (A N D : List (BitVec 8)) (mm : Nat) (hA : A.length ≤ 256) (hN : N.length ≤ 64) (hD : D.length ≤ 512) (hmm : 4 ≤ mm) (hmm16 : mm ≤ 16) (hi1 : i 1 = nI mm) (hi3 : i 3 = nI D.length) (hi5 : i 5 = nI N.length) (hi6 : i 6 = nI A.length) (hsA : sg (ψ 74) 0 A) (hsN : sg (ψ 73) 0 N) (hsD : sg (ψ 71) 0 D) {F G : bP → bP} (K0 : Kh ψ 0 F G) (hN7 : 7 ≤ N.length) (hN13 : N.length ≤ 13) (hDm : mm ≤ D.length) : RH l w mX12_tagged h n [.ref 61, .int 13, .int 1] (fun h2 q => ∃ ψ2 i2, q = some (.int (if smI (kf (cnT F A N (ctO F (sl D 0 (D.length - mm)) (one1 (cnB N (15 - N.length)))) (15 - N.length) mm) (nI mm)) (rd D (D.length - mm)) = 0 then -6 else 0)) ∧ MO h2 ψ2 z i2 ∧ IE [4, 7] i i2 ∧ i2 4 = nI (D.length - mm) ∧ FR [72, 75, 76, 78, 79, 80, 81, 82, 83, 84, 85, 87, 88, 89, 90] ψ ψ2 ∧ sg (ψ2 72) 0 (ctO F (sl D 0 (D.length - mm)) (one1 (cnB N (15 - N.length)))) ∧ FM h h2) := by
  refine RC.of [(0, .ref 61), (1, .int 13), (2, .int 1)] (by decide +kernel) rfl (Nat.le_of_ble_eq_true rfl) ?_
  have lD : (sl D 0 (D.length - mm)).length = D.length - mm := sl_len _ _ _
  have hsE : sg (ψ 71) 0 (sl D 0 (D.length - mm)) := fun j_ hj_ => by rw [lD] at hj_; rw [og_sl _ _ hj_, Nat.zero_add]; exact sg0 hsD (by omega)
  refine R_iload_n (pc := 0) 2 dX12_tagged_0 rfl rfl ?_
  refine R_if_eq (pc := 1) (tgt := 16) dX12_tagged_1 (by decide) (fun c_1 => absurd c_1 (by decide)) (fun c_1 => ?_)
  refine R_aload_n (pc := 4) 0 dX12_tagged_4 rfl rfl ?_
  refine R_get (pc := 5) dX12_tagged_5 fX12_130 S.obj (by omega) rfl ?_
  refine R_eqi (y := nI D.length) (hi3) ?_
  refine R_aload_n (pc := 8) 0 dX12_tagged_8 rfl rfl ?_
  refine R_get (pc := 9) dX12_tagged_9 fX12_16 S.obj (by omega) rfl ?_
  refine R_eqi (y := nI mm) (hi1) ?_
  refine R_isub (pc := 12) dX12_tagged_12 ?_
  refine R_eqi (y := nI (D.length - mm)) (nI_sb (a := D.length) (b := mm) (by omega)) ?_
  refine R_goto (pc := 13) (tgt := 20) dX12_tagged_13 (by decide) ?_
  refine R_istore_n (pc := 20) (lv' := [(3, .int (nI (D.length - mm))), (0, .ref 61), (1, .int 13), (2, .int 1)]) dX12_tagged_20 rfl (by decide) rfl ?_
  refine R_iload_n (pc := 21) 2 dX12_tagged_21 rfl rfl ?_
  refine R_tableIn (pc := 22) (tgt := 57) dX12_tagged_22 (by decide) (by decide) rfl (by decide) ?_
  refine R_aload_n (pc := 57) 1 dX12_tagged_57 rfl rfl ?_
  refine R_iload_n (pc := 58) 3 dX12_tagged_58 rfl rfl ?_
  refine R_iload_n (pc := 59) 0 dX12_tagged_59 rfl rfl ?_
  refine R_eqi (y := nI (sl D 0 (D.length - mm)).length) (by rw [lD]) ?_
  refine R_callVh (pc := 60) (μ' := mX12_counted) (As := [.int 1, .int (nI (sl D 0 (D.length - mm)).length)]) (st := []) dX12_tagged_60 zX12_counted lX12_238 ⟨by decide, by decide⟩ rfl rfl ⟨by decide, by decide⟩ S.obj (by omega) rfl (Nat.le_of_ble_eq_true rfl) (oX12_counted_o S hn A N (sl D 0 (D.length - mm)) mm hA hN7 hN13 (by rw [lD]; omega) hmm hmm16 hi1 hi5 hi6 hsA hsN hsE K0) (fun h_2 r_ q_3 => ?_)
  obtain ⟨ψ_7, rfl, S_4, K_6, J_8, F_5⟩ := q_3
  have K_9 := K0.fr K_6 (by decide) (by decide) (by decide) (by decide)
  have yO : sg (ψ_7 72) 0 (ctO F (sl D 0 (D.length - mm)) (one1 (cnB N (15 - N.length)))) := J_8.1
  have tO : gt (ψ_7 85) 0 = (cnT F A N (ctO F (sl D 0 (D.length - mm)) (one1 (cnB N (15 - N.length)))) (15 - N.length) mm) := J_8.2
  have KU : FR [72, 75, 76, 78, 79, 80, 81, 82, 83, 84, 85, 87, 88, 89, 90] ψ ψ_7 := ((FR.rf _ _).tr K_6 (by decide))
  have lO : (ctO F (sl D 0 (D.length - mm)) (one1 (cnB N (15 - N.length)))).length = (sl D 0 (D.length - mm)).length := by unfold ctO; rw [stN_lenM (sl D 0 (D.length - mm)) (fun j_ y_ => ctS_len F (sl D 0 (D.length - mm)) j_ y_)]; have := nbk_b (sl D 0 (D.length - mm)); omega
  refine R_goto (pc := 63) (tgt := 81) dX12_tagged_63 (by decide) ?_
  refine R_aload_n (pc := 81) 1 dX12_tagged_81 rfl rfl ?_
  refine R_iload_n (pc := 82) 0 dX12_tagged_82 rfl rfl ?_
  refine R_put' (pc := 83) (fs' := [.int (i 0), .ref 62, .ref 63, .int (i 1), .ref 64, .int (i 2), .ref 65, .ref 66, .ref 67, .ref 68, .ref 69, .ref 70, .ref 71, .int (i 3), .ref 72, .int (nI (D.length - mm)), .ref 73, .int (i 5), .ref 74, .int (i 6), .ref 75, .ref 76, .ref 77, .ref 78, .ref 79, .ref 80, .ref 81, .ref 82, .ref 83, .ref 84, .int (i 7), .ref 85, .ref 86, .ref 87, .ref 88, .ref 89, .ref 90]) dX12_tagged_83 fX12_153 tX12_15 rfl rfl S_4.obj (by omega) (Nat.le_of_ble_eq_true rfl) rfl (fun h_10 f_11 g_12 => ?_)
  have S_13 : MO h_10 ψ_7 z (ui i 4 (nI (D.length - mm))) := MO.setI (j := (ui i 4 (nI (D.length - mm)))) S_4 f_11 g_12
  have F_14 := fmI g_12
  refine R_iload_n (pc := 86) 3 dX12_tagged_86 rfl rfl ?_
  refine R_if_ne (pc := 87) (tgt := 119) dX12_tagged_87 (by decide) (fun c_15 => ?_) (fun c_15 => absurd c_15 (by decide))
  refine R_iconst (pc := 119) (v := 1) dX12_tagged_119 (by decide) ?_
  refine R_istore (pc := 120) (lv' := [(4, .int 1), (3, .int (nI (D.length - mm))), (0, .ref 61), (1, .int 13), (2, .int 1)]) dX12_tagged_120 (by decide) rfl ?_
  refine R_iconst (pc := 122) (v := 0) dX12_tagged_122 (by decide) ?_
  refine R_istore (pc := 123) (lv' := [(5, .int 0), (4, .int 1), (3, .int (nI (D.length - mm))), (0, .ref 61), (1, .int 13), (2, .int 1)]) dX12_tagged_123 (by decide) rfl ?_
  have e71 : ψ_7 71 = ψ 71 := KU 71 (by decide)
  refine R_sub [0, 1, 2, 3, 4, 5] rfl ?_
  refine qX12_tagged_good (h := h_10) (ψ := ψ_7) S_13 hn mm (D.length - mm) 13 hmm16 (by omega) (hi1) ?_ mm 0 (by omega)
  rw [goodT (M := D.length - mm) hmm16 (by omega) tO (show sg (ψ_7 71) 0 D by rw [e71]; exact hsD)]
  refine R_iload (pc := 171) 1 dX12_tagged_171 rfl ?_
  refine R_if_eq (pc := 173) (tgt := 180) dX12_tagged_173 (by decide) (fun c_16 => ?_) (fun c_16 => ?_)
  · skip
    refine R_bipush (pc := 180) (v := (-6)) dX12_tagged_180 (by decide) ?_
    have hI : IE [4, 7] i (ui i 4 (nI (D.length - mm))) := fun k_ hk_ => by
      rw [ui_n (fun e_ => hk_ (by rw [e_]; decide))]
    have hA_ : (some (.int (-6)) : Option Value) = some (.int (if smI (kf (cnT F A N (ctO F (sl D 0 (D.length - mm)) (one1 (cnB N (15 - N.length)))) (15 - N.length) mm) (nI mm)) (rd D (D.length - mm)) = 0 then -6 else 0)) := by rw [if_pos c_16]
    exact R_ireturn (pc := 182) dX12_tagged_182 rfl (by decide) (by decide) ⟨rfl, _, _, hA_, S_13, hI, rfl, KU, yO, (F_5.tr F_14)⟩
  · skip
    refine R_iconst (pc := 176) (v := 0) dX12_tagged_176 (by decide) ?_
    refine R_goto (pc := 177) (tgt := 182) dX12_tagged_177 (by decide) ?_
    have hI : IE [4, 7] i (ui i 4 (nI (D.length - mm))) := fun k_ hk_ => by
      rw [ui_n (fun e_ => hk_ (by rw [e_]; decide))]
    have hA_ : (some (.int (0)) : Option Value) = some (.int (if smI (kf (cnT F A N (ctO F (sl D 0 (D.length - mm)) (one1 (cnB N (15 - N.length)))) (15 - N.length) mm) (nI mm)) (rd D (D.length - mm)) = 0 then -6 else 0)) := by rw [if_neg c_16]
    exact R_ireturn (pc := 182) dX12_tagged_182 rfl (by decide) (by decide) ⟨rfl, _, _, hA_, S_13, hI, rfl, KU, yO, (F_5.tr F_14)⟩
set_option maxHeartbeats 1000000 in
set_option maxRecDepth 100000 in
theorem oX12_tagged_14s {l : Launch} {w : am_W} {h : am_H} {n : Nat} {ψ : Nat → oA} {z : fA} {i : mI} (S : MO h ψ z i) (hn : 90 ≤ n) (A N D : List (BitVec 8)) (mm : Nat) (hA : A.length ≤ 256) (hN : N.length ≤ 64) (hD : D.length ≤ 512) (hmm : 4 ≤ mm) (hmm16 : mm ≤ 16) (hi1 : i 1 = nI mm) (hi3 : i 3 = nI D.length) (hi5 : i 5 = nI N.length) (hi6 : i 6 = nI A.length) (hsA : sg (ψ 74) 0 A) (hsN : sg (ψ 73) 0 N) (hsD : sg (ψ 71) 0 D) {F G : bP → bP} (K0 : Kh ψ 0 F G) : RH l w mX12_tagged h n [.ref 61, .int 14, .int 0] (fun h2 q => ∃ ψ2 i2, q = some (.int 0) ∧ MO h2 ψ2 z i2 ∧ IE [4, 7] i i2 ∧ i2 4 = nI (D.length + mm) ∧ FR [72, 75, 76, 78, 79, 80, 81, 82, 83, 84, 85, 87, 88, 89, 90] ψ ψ2 ∧ sg (ψ2 72) 0 ((ctO F D (macV F (layN 0 N))) ++ bt (twT F A N (ctO F D (macV F (layN 0 N)))) mm) ∧ FM h h2) := by
  refine RC.of [(0, .ref 61), (1, .int 14), (2, .int 0)] (by decide +kernel) rfl (Nat.le_of_ble_eq_true rfl) ?_
  refine R_iload_n (pc := 0) 2 dX12_tagged_0 rfl rfl ?_
  refine R_if_eq (pc := 1) (tgt := 16) dX12_tagged_1 (by decide) (fun c_1 => ?_) (fun c_1 => absurd (rfl) c_1)
  refine R_aload_n (pc := 16) 0 dX12_tagged_16 rfl rfl ?_
  refine R_get (pc := 17) dX12_tagged_17 fX12_130 S.obj (by omega) rfl ?_
  refine R_eqi (y := nI D.length) (hi3) ?_
  refine R_istore_n (pc := 20) (lv' := [(3, .int (nI D.length)), (0, .ref 61), (1, .int 14), (2, .int 0)]) dX12_tagged_20 rfl (by decide) rfl ?_
  refine R_iload_n (pc := 21) 2 dX12_tagged_21 rfl rfl ?_
  refine R_tableIn (pc := 22) (tgt := 66) dX12_tagged_22 (by decide) (by decide) rfl (by decide) ?_
  refine R_aload_n (pc := 66) 1 dX12_tagged_66 rfl rfl ?_
  refine R_iload_n (pc := 67) 3 dX12_tagged_67 rfl rfl ?_
  refine R_iload_n (pc := 68) 0 dX12_tagged_68 rfl rfl ?_
  refine R_callVh (pc := 69) (μ' := mX12_twice) (As := [.int 0, .int (nI D.length)]) (st := []) dX12_tagged_69 zX12_twice lX12_241 ⟨by decide, by decide⟩ rfl rfl ⟨by decide, by decide⟩ S.obj (by omega) rfl (Nat.le_of_ble_eq_true rfl) (oX12_twice_s S hn A N D hA hN (by omega) hi5 hi6 hsA hsN hsD K0) (fun h_2 r_ q_3 => ?_)
  obtain ⟨ψ_7, i_9, rfl, S_4, I_10, K_6, J_8, F_5⟩ := q_3
  have K_11 := K0.fr K_6 (by decide) (by decide) (by decide) (by decide)
  have yO : sg (ψ_7 72) 0 (ctO F D (macV F (layN 0 N))) := J_8.1
  have tO : gt (ψ_7 85) 0 = (twT F A N (ctO F D (macV F (layN 0 N)))) := J_8.2
  have KU : FR [72, 75, 76, 78, 79, 80, 81, 82, 83, 84, 85, 87, 88, 89, 90] ψ ψ_7 := ((FR.rf _ _).tr K_6 (by decide))
  have lO : (ctO F D (macV F (layN 0 N))).length = D.length := by unfold ctO; rw [stN_lenM D (fun j_ y_ => ctS_len F D j_ y_)]; have := nbk_b D; omega
  refine R_goto (pc := 72) (tgt := 81) dX12_tagged_72 (by decide) ?_
  refine R_aload_n (pc := 81) 1 dX12_tagged_81 rfl rfl ?_
  refine R_iload_n (pc := 82) 0 dX12_tagged_82 rfl rfl ?_
  refine R_put' (pc := 83) (fs' := [.int (i_9 0), .ref 62, .ref 63, .int (i_9 1), .ref 64, .int (i_9 2), .ref 65, .ref 66, .ref 67, .ref 68, .ref 69, .ref 70, .ref 71, .int (i_9 3), .ref 72, .int (nI D.length), .ref 73, .int (i_9 5), .ref 74, .int (i_9 6), .ref 75, .ref 76, .ref 77, .ref 78, .ref 79, .ref 80, .ref 81, .ref 82, .ref 83, .ref 84, .int (i_9 7), .ref 85, .ref 86, .ref 87, .ref 88, .ref 89, .ref 90]) dX12_tagged_83 fX12_153 tX12_15 rfl rfl S_4.obj (by omega) (Nat.le_of_ble_eq_true rfl) rfl (fun h_12 f_13 g_14 => ?_)
  have S_15 : MO h_12 ψ_7 z (ui i_9 4 (nI D.length)) := MO.setI (j := (ui i_9 4 (nI D.length))) S_4 f_13 g_14
  have F_16 := fmI g_14
  refine R_iload_n (pc := 86) 3 dX12_tagged_86 rfl rfl ?_
  refine R_if_ne (pc := 87) (tgt := 119) dX12_tagged_87 (by decide) (fun c_17 => absurd (rfl) c_17) (fun c_17 => ?_)
  refine R_aload_n (pc := 90) 1 dX12_tagged_90 rfl rfl ?_
  refine R_get (pc := 91) dX12_tagged_91 fX12_83 S_15.obj (by omega) rfl ?_
  refine R_iconst (pc := 94) (v := 0) dX12_tagged_94 (by decide) ?_
  refine R_aload_n (pc := 95) 1 dX12_tagged_95 rfl rfl ?_
  refine R_get (pc := 96) dX12_tagged_96 fX12_44 S_15.obj (by omega) rfl ?_
  refine R_iload_n (pc := 99) 0 dX12_tagged_99 rfl rfl ?_
  refine R_aload_n (pc := 100) 1 dX12_tagged_100 rfl rfl ?_
  refine R_get (pc := 101) dX12_tagged_101 fX12_16 S_15.obj (by omega) rfl ?_
  refine R_eqi (y := nI mm) ((I_10 1 (by decide)).trans (hi1)) ?_
  refine R_callSh (pc := 104) (μ' := mX12_copy) (As := [.ref 85, .int (nI 0), .ref 72, .int (nI D.length), .int (nI mm)]) (st := []) dX12_tagged_104 zX12_copy lX12_133 ⟨by decide, by decide⟩ rfl rfl ⟨by decide, by decide⟩ rfl (Nat.le_of_ble_eq_true rfl) (oX12_copy S_15 hn (p := 85) (q := 72) rfl rfl 0 D.length mm (by show 0 + mm ≤ 16; omega) (by show D.length + mm ≤ 700; omega) (by decide)) (fun h_18 r_ q_19 => ?_)
  obtain ⟨rfl, S_20, F_21⟩ := q_19
  have S_22 : MO h_18 (uo ψ_7 72 (cpB (ψ_7 85) 0 (ψ_7 72) D.length mm)) z (ui i_9 4 (nI D.length)) := S_20
  refine R_aload_n (pc := 107) 1 dX12_tagged_107 rfl rfl ?_
  refine R_iload_n (pc := 108) 0 dX12_tagged_108 rfl rfl ?_
  refine R_aload_n (pc := 109) 1 dX12_tagged_109 rfl rfl ?_
  refine R_get (pc := 110) dX12_tagged_110 fX12_16 S_22.obj (by omega) rfl ?_
  refine R_eqi (y := nI mm) ((I_10 1 (by decide)).trans (hi1)) ?_
  refine R_iadd (pc := 113) dX12_tagged_113 ?_
  refine R_eqi (y := nI (D.length + mm)) (nI_add D.length mm) ?_
  refine R_put' (pc := 114) (fs' := [.int (i_9 0), .ref 62, .ref 63, .int (i_9 1), .ref 64, .int (i_9 2), .ref 65, .ref 66, .ref 67, .ref 68, .ref 69, .ref 70, .ref 71, .int (i_9 3), .ref 72, .int (nI (D.length + mm)), .ref 73, .int (i_9 5), .ref 74, .int (i_9 6), .ref 75, .ref 76, .ref 77, .ref 78, .ref 79, .ref 80, .ref 81, .ref 82, .ref 83, .ref 84, .int (i_9 7), .ref 85, .ref 86, .ref 87, .ref 88, .ref 89, .ref 90]) dX12_tagged_114 fX12_153 tX12_15 rfl rfl S_22.obj (by omega) (Nat.le_of_ble_eq_true rfl) rfl (fun h_23 f_24 g_25 => ?_)
  have S_26 : MO h_23 (uo ψ_7 72 (cpB (ψ_7 85) 0 (ψ_7 72) D.length mm)) z (ui i_9 4 (nI (D.length + mm))) := MO.setI (j := (ui i_9 4 (nI (D.length + mm)))) S_22 f_24 g_25
  have F_27 := fmI g_25
  refine R_iconst (pc := 117) (v := 0) dX12_tagged_117 (by decide) ?_
  have hI : IE [4, 7] i (ui i_9 4 (nI (D.length + mm))) := fun k_ hk_ => by
    rw [ui_n (fun e_ => hk_ (by rw [e_]; decide))]
    rw [I_10 k_ (fun q_ => hk_ (by revert q_; simp; omega))]
  have hy : sg (cpB (ψ_7 85) 0 (ψ_7 72) D.length mm) 0 ((ctO F D (macV F (layN 0 N))) ++ bt (twT F A N (ctO F D (macV F (layN 0 N)))) mm) := by
    refine sg.app (yO.mv fun j_ hj_ => by rw [cpB_out _ _ _ (by omega)]) (fun j_ hj_ => ?_)
    rw [bt_len] at hj_
    rw [lO, Nat.zero_add, og_bt _ hj_, ← gt_at0 tO (by omega)]
    unfold cpB
    rw [if_pos (by omega), show 0 + (D.length + j_ - D.length) = j_ by omega]
  exact R_ireturn (pc := 118) dX12_tagged_118 rfl (by decide) (by decide) ⟨rfl, _, _, rfl, S_26, hI, rfl, (KU.up (by decide)), hy, (((F_5.tr F_16).tr F_21).tr F_27)⟩
set_option maxHeartbeats 1000000 in
set_option maxRecDepth 100000 in
theorem oX12_tagged_14o {l : Launch} {w : am_W} {h : am_H} {n : Nat} {ψ : Nat → oA} {z : fA} {i : mI} (S : MO h ψ z i) (hn : 90 ≤ n) (A N D : List (BitVec 8)) (mm : Nat) (hA : A.length ≤ 256) (hN : N.length ≤ 64) (hD : D.length ≤ 512) (hmm : 4 ≤ mm) (hmm16 : mm ≤ 16) (hi1 : i 1 = nI mm) (hi3 : i 3 = nI D.length) (hi5 : i 5 = nI N.length) (hi6 : i 6 = nI A.length) (hsA : sg (ψ 74) 0 A) (hsN : sg (ψ 73) 0 N) (hsD : sg (ψ 71) 0 D) {F G : bP → bP} (K0 : Kh ψ 0 F G) (hDm : mm ≤ D.length) : RH l w mX12_tagged h n [.ref 61, .int 14, .int 1] (fun h2 q => ∃ ψ2 i2, q = some (.int (if smI (kf (twT F A N (sl D 0 (D.length - mm))) (nI mm)) (rd D (D.length - mm)) = 0 then -6 else 0)) ∧ MO h2 ψ2 z i2 ∧ IE [4, 7] i i2 ∧ i2 4 = nI (D.length - mm) ∧ FR [72, 75, 76, 78, 79, 80, 81, 82, 83, 84, 85, 87, 88, 89, 90] ψ ψ2 ∧ sg (ψ2 72) 0 (ctO F (sl D 0 (D.length - mm)) (macV F (layN 0 N))) ∧ FM h h2) := by
  refine RC.of [(0, .ref 61), (1, .int 14), (2, .int 1)] (by decide +kernel) rfl (Nat.le_of_ble_eq_true rfl) ?_
  have lD : (sl D 0 (D.length - mm)).length = D.length - mm := sl_len _ _ _
  have hsE : sg (ψ 71) 0 (sl D 0 (D.length - mm)) := fun j_ hj_ => by rw [lD] at hj_; rw [og_sl _ _ hj_, Nat.zero_add]; exact sg0 hsD (by omega)
  refine R_iload_n (pc := 0) 2 dX12_tagged_0 rfl rfl ?_
  refine R_if_eq (pc := 1) (tgt := 16) dX12_tagged_1 (by decide) (fun c_1 => absurd c_1 (by decide)) (fun c_1 => ?_)
  refine R_aload_n (pc := 4) 0 dX12_tagged_4 rfl rfl ?_
  refine R_get (pc := 5) dX12_tagged_5 fX12_130 S.obj (by omega) rfl ?_
  refine R_eqi (y := nI D.length) (hi3) ?_
  refine R_aload_n (pc := 8) 0 dX12_tagged_8 rfl rfl ?_
  refine R_get (pc := 9) dX12_tagged_9 fX12_16 S.obj (by omega) rfl ?_
  refine R_eqi (y := nI mm) (hi1) ?_
  refine R_isub (pc := 12) dX12_tagged_12 ?_
  refine R_eqi (y := nI (D.length - mm)) (nI_sb (a := D.length) (b := mm) (by omega)) ?_
  refine R_goto (pc := 13) (tgt := 20) dX12_tagged_13 (by decide) ?_
  refine R_istore_n (pc := 20) (lv' := [(3, .int (nI (D.length - mm))), (0, .ref 61), (1, .int 14), (2, .int 1)]) dX12_tagged_20 rfl (by decide) rfl ?_
  refine R_iload_n (pc := 21) 2 dX12_tagged_21 rfl rfl ?_
  refine R_tableIn (pc := 22) (tgt := 66) dX12_tagged_22 (by decide) (by decide) rfl (by decide) ?_
  refine R_aload_n (pc := 66) 1 dX12_tagged_66 rfl rfl ?_
  refine R_iload_n (pc := 67) 3 dX12_tagged_67 rfl rfl ?_
  refine R_iload_n (pc := 68) 0 dX12_tagged_68 rfl rfl ?_
  refine R_eqi (y := nI (sl D 0 (D.length - mm)).length) (by rw [lD]) ?_
  refine R_callVh (pc := 69) (μ' := mX12_twice) (As := [.int 1, .int (nI (sl D 0 (D.length - mm)).length)]) (st := []) dX12_tagged_69 zX12_twice lX12_241 ⟨by decide, by decide⟩ rfl rfl ⟨by decide, by decide⟩ S.obj (by omega) rfl (Nat.le_of_ble_eq_true rfl) (oX12_twice_o S hn A N (sl D 0 (D.length - mm)) hA hN (by rw [lD]; omega) hi5 hi6 hsA hsN hsE K0) (fun h_2 r_ q_3 => ?_)
  obtain ⟨ψ_7, i_9, rfl, S_4, I_10, K_6, J_8, F_5⟩ := q_3
  have K_11 := K0.fr K_6 (by decide) (by decide) (by decide) (by decide)
  have yO : sg (ψ_7 72) 0 (ctO F (sl D 0 (D.length - mm)) (macV F (layN 0 N))) := J_8.1
  have tO : gt (ψ_7 85) 0 = (twT F A N (sl D 0 (D.length - mm))) := J_8.2
  have KU : FR [72, 75, 76, 78, 79, 80, 81, 82, 83, 84, 85, 87, 88, 89, 90] ψ ψ_7 := ((FR.rf _ _).tr K_6 (by decide))
  have lO : (ctO F (sl D 0 (D.length - mm)) (macV F (layN 0 N))).length = (sl D 0 (D.length - mm)).length := by unfold ctO; rw [stN_lenM (sl D 0 (D.length - mm)) (fun j_ y_ => ctS_len F (sl D 0 (D.length - mm)) j_ y_)]; have := nbk_b (sl D 0 (D.length - mm)); omega
  refine R_goto (pc := 72) (tgt := 81) dX12_tagged_72 (by decide) ?_
  refine R_aload_n (pc := 81) 1 dX12_tagged_81 rfl rfl ?_
  refine R_iload_n (pc := 82) 0 dX12_tagged_82 rfl rfl ?_
  refine R_put' (pc := 83) (fs' := [.int (i_9 0), .ref 62, .ref 63, .int (i_9 1), .ref 64, .int (i_9 2), .ref 65, .ref 66, .ref 67, .ref 68, .ref 69, .ref 70, .ref 71, .int (i_9 3), .ref 72, .int (nI (D.length - mm)), .ref 73, .int (i_9 5), .ref 74, .int (i_9 6), .ref 75, .ref 76, .ref 77, .ref 78, .ref 79, .ref 80, .ref 81, .ref 82, .ref 83, .ref 84, .int (i_9 7), .ref 85, .ref 86, .ref 87, .ref 88, .ref 89, .ref 90]) dX12_tagged_83 fX12_153 tX12_15 rfl rfl S_4.obj (by omega) (Nat.le_of_ble_eq_true rfl) rfl (fun h_12 f_13 g_14 => ?_)
  have S_15 : MO h_12 ψ_7 z (ui i_9 4 (nI (D.length - mm))) := MO.setI (j := (ui i_9 4 (nI (D.length - mm)))) S_4 f_13 g_14
  have F_16 := fmI g_14
  refine R_iload_n (pc := 86) 3 dX12_tagged_86 rfl rfl ?_
  refine R_if_ne (pc := 87) (tgt := 119) dX12_tagged_87 (by decide) (fun c_17 => ?_) (fun c_17 => absurd c_17 (by decide))
  refine R_iconst (pc := 119) (v := 1) dX12_tagged_119 (by decide) ?_
  refine R_istore (pc := 120) (lv' := [(4, .int 1), (3, .int (nI (D.length - mm))), (0, .ref 61), (1, .int 14), (2, .int 1)]) dX12_tagged_120 (by decide) rfl ?_
  refine R_iconst (pc := 122) (v := 0) dX12_tagged_122 (by decide) ?_
  refine R_istore (pc := 123) (lv' := [(5, .int 0), (4, .int 1), (3, .int (nI (D.length - mm))), (0, .ref 61), (1, .int 14), (2, .int 1)]) dX12_tagged_123 (by decide) rfl ?_
  have e71 : ψ_7 71 = ψ 71 := KU 71 (by decide)
  refine R_sub [0, 1, 2, 3, 4, 5] rfl ?_
  refine qX12_tagged_good (h := h_12) (ψ := ψ_7) S_15 hn mm (D.length - mm) 14 hmm16 (by omega) ((I_10 1 (by decide)).trans (hi1)) ?_ mm 0 (by omega)
  rw [goodT (M := D.length - mm) hmm16 (by omega) tO (show sg (ψ_7 71) 0 D by rw [e71]; exact hsD)]
  refine R_iload (pc := 171) 1 dX12_tagged_171 rfl ?_
  refine R_if_eq (pc := 173) (tgt := 180) dX12_tagged_173 (by decide) (fun c_18 => ?_) (fun c_18 => ?_)
  · skip
    refine R_bipush (pc := 180) (v := (-6)) dX12_tagged_180 (by decide) ?_
    have hI : IE [4, 7] i (ui i_9 4 (nI (D.length - mm))) := fun k_ hk_ => by
      rw [ui_n (fun e_ => hk_ (by rw [e_]; decide))]
      rw [I_10 k_ (fun q_ => hk_ (by revert q_; simp; omega))]
    have hA_ : (some (.int (-6)) : Option Value) = some (.int (if smI (kf (twT F A N (sl D 0 (D.length - mm))) (nI mm)) (rd D (D.length - mm)) = 0 then -6 else 0)) := by rw [if_pos c_18]
    exact R_ireturn (pc := 182) dX12_tagged_182 rfl (by decide) (by decide) ⟨rfl, _, _, hA_, S_15, hI, rfl, KU, yO, (F_5.tr F_16)⟩
  · skip
    refine R_iconst (pc := 176) (v := 0) dX12_tagged_176 (by decide) ?_
    refine R_goto (pc := 177) (tgt := 182) dX12_tagged_177 (by decide) ?_
    have hI : IE [4, 7] i (ui i_9 4 (nI (D.length - mm))) := fun k_ hk_ => by
      rw [ui_n (fun e_ => hk_ (by rw [e_]; decide))]
      rw [I_10 k_ (fun q_ => hk_ (by revert q_; simp; omega))]
    have hA_ : (some (.int (0)) : Option Value) = some (.int (if smI (kf (twT F A N (sl D 0 (D.length - mm))) (nI mm)) (rd D (D.length - mm)) = 0 then -6 else 0)) := by rw [if_neg c_18]
    exact R_ireturn (pc := 182) dX12_tagged_182 rfl (by decide) (by decide) ⟨rfl, _, _, hA_, S_15, hI, rfl, KU, yO, (F_5.tr F_16)⟩
set_option maxHeartbeats 1000000 in
set_option maxRecDepth 100000 in
theorem oX12_tagged_16s {l : Launch} {w : am_W} {h : am_H} {n : Nat} {ψ : Nat → oA} {z : fA} {i : mI} (S : MO h ψ z i) (hn : 90 ≤ n) (A N D : List (BitVec 8)) (mm : Nat) (hA : A.length ≤ 256) (hN : N.length ≤ 64) (hD : D.length ≤ 512) (hmm : 4 ≤ mm) (hmm16 : mm ≤ 16) (hi1 : i 1 = nI mm) (hi3 : i 3 = nI D.length) (hi5 : i 5 = nI N.length) (hi6 : i 6 = nI A.length) (hsA : sg (ψ 74) 0 A) (hsN : sg (ψ 73) 0 N) (hsD : sg (ψ 71) 0 D) {F G : bP → bP} (K0 : Kh ψ 0 F G) (hN1 : 1 ≤ N.length) (hN15 : N.length ≤ 15) : RH l w mX12_tagged h n [.ref 61, .int 16, .int 0] (fun h2 q => ∃ ψ2 i2, q = some (.int 0) ∧ MO h2 ψ2 z i2 ∧ IE [4, 7] i i2 ∧ i2 4 = nI (D.length + mm) ∧ FR [72, 75, 76, 78, 79, 80, 81, 82, 83, 84, 85, 87, 88, 89, 90] ψ ψ2 ∧ sg (ψ2 72) 0 ((osF F G false D (bgO F N (nI mm))).2.2 ++ bt (osTag F G false D A (bgO F N (nI mm))) mm) ∧ FM h h2) := by
  refine RC.of [(0, .ref 61), (1, .int 16), (2, .int 0)] (by decide +kernel) rfl (Nat.le_of_ble_eq_true rfl) ?_
  refine R_iload_n (pc := 0) 2 dX12_tagged_0 rfl rfl ?_
  refine R_if_eq (pc := 1) (tgt := 16) dX12_tagged_1 (by decide) (fun c_1 => ?_) (fun c_1 => absurd (rfl) c_1)
  refine R_aload_n (pc := 16) 0 dX12_tagged_16 rfl rfl ?_
  refine R_get (pc := 17) dX12_tagged_17 fX12_130 S.obj (by omega) rfl ?_
  refine R_eqi (y := nI D.length) (hi3) ?_
  refine R_istore_n (pc := 20) (lv' := [(3, .int (nI D.length)), (0, .ref 61), (1, .int 16), (2, .int 0)]) dX12_tagged_20 rfl (by decide) rfl ?_
  refine R_iload_n (pc := 21) 2 dX12_tagged_21 rfl rfl ?_
  refine R_tableOut (pc := 22) (tgt := 75) dX12_tagged_22 (by decide) (by decide) ?_
  refine R_aload_n (pc := 75) 1 dX12_tagged_75 rfl rfl ?_
  refine R_iload_n (pc := 76) 3 dX12_tagged_76 rfl rfl ?_
  refine R_iload_n (pc := 77) 0 dX12_tagged_77 rfl rfl ?_
  refine R_callVh (pc := 78) (μ' := mX12_offsets) (As := [.int 0, .int (nI D.length)]) (st := []) dX12_tagged_78 zX12_offsets lX12_244 ⟨by decide, by decide⟩ rfl rfl ⟨by decide, by decide⟩ S.obj (by omega) rfl (Nat.le_of_ble_eq_true rfl) (oX12_offsets_s S hn A N D (D.length / 16) (D.length % 16) mm (by omega) (by omega) hA hN1 hN15 (by omega) hmm hmm16 hi1 hi5 hi6 hsA hsN hsD K0) (fun h_2 r_ q_3 => ?_)
  obtain ⟨ψ_7, rfl, S_4, K_6, J_8, F_5⟩ := q_3
  have K_9 := K0.fr K_6 (by decide) (by decide) (by decide) (by decide)
  have yO : sg (ψ_7 72) 0 (osF F G false D (bgO F N (nI mm))).2.2 := J_8.1
  have tO : gt (ψ_7 85) 0 = (osTag F G false D A (bgO F N (nI mm))) := J_8.2
  have KU : FR [72, 75, 76, 78, 79, 80, 81, 82, 83, 84, 85, 87, 88, 89, 90] ψ ψ_7 := ((FR.rf _ _).tr K_6 (by decide))
  have lO : (osF F G false D (bgO F N (nI mm))).2.2.length = D.length := osF_len _ _ _ _ _ (by omega)
  refine R_aload_n (pc := 81) 1 dX12_tagged_81 rfl rfl ?_
  refine R_iload_n (pc := 82) 0 dX12_tagged_82 rfl rfl ?_
  refine R_put' (pc := 83) (fs' := [.int (i 0), .ref 62, .ref 63, .int (i 1), .ref 64, .int (i 2), .ref 65, .ref 66, .ref 67, .ref 68, .ref 69, .ref 70, .ref 71, .int (i 3), .ref 72, .int (nI D.length), .ref 73, .int (i 5), .ref 74, .int (i 6), .ref 75, .ref 76, .ref 77, .ref 78, .ref 79, .ref 80, .ref 81, .ref 82, .ref 83, .ref 84, .int (i 7), .ref 85, .ref 86, .ref 87, .ref 88, .ref 89, .ref 90]) dX12_tagged_83 fX12_153 tX12_15 rfl rfl S_4.obj (by omega) (Nat.le_of_ble_eq_true rfl) rfl (fun h_10 f_11 g_12 => ?_)
  have S_13 : MO h_10 ψ_7 z (ui i 4 (nI D.length)) := MO.setI (j := (ui i 4 (nI D.length))) S_4 f_11 g_12
  have F_14 := fmI g_12
  refine R_iload_n (pc := 86) 3 dX12_tagged_86 rfl rfl ?_
  refine R_if_ne (pc := 87) (tgt := 119) dX12_tagged_87 (by decide) (fun c_15 => absurd (rfl) c_15) (fun c_15 => ?_)
  refine R_aload_n (pc := 90) 1 dX12_tagged_90 rfl rfl ?_
  refine R_get (pc := 91) dX12_tagged_91 fX12_83 S_13.obj (by omega) rfl ?_
  refine R_iconst (pc := 94) (v := 0) dX12_tagged_94 (by decide) ?_
  refine R_aload_n (pc := 95) 1 dX12_tagged_95 rfl rfl ?_
  refine R_get (pc := 96) dX12_tagged_96 fX12_44 S_13.obj (by omega) rfl ?_
  refine R_iload_n (pc := 99) 0 dX12_tagged_99 rfl rfl ?_
  refine R_aload_n (pc := 100) 1 dX12_tagged_100 rfl rfl ?_
  refine R_get (pc := 101) dX12_tagged_101 fX12_16 S_13.obj (by omega) rfl ?_
  refine R_eqi (y := nI mm) (hi1) ?_
  refine R_callSh (pc := 104) (μ' := mX12_copy) (As := [.ref 85, .int (nI 0), .ref 72, .int (nI D.length), .int (nI mm)]) (st := []) dX12_tagged_104 zX12_copy lX12_133 ⟨by decide, by decide⟩ rfl rfl ⟨by decide, by decide⟩ rfl (Nat.le_of_ble_eq_true rfl) (oX12_copy S_13 hn (p := 85) (q := 72) rfl rfl 0 D.length mm (by show 0 + mm ≤ 16; omega) (by show D.length + mm ≤ 700; omega) (by decide)) (fun h_16 r_ q_17 => ?_)
  obtain ⟨rfl, S_18, F_19⟩ := q_17
  have S_20 : MO h_16 (uo ψ_7 72 (cpB (ψ_7 85) 0 (ψ_7 72) D.length mm)) z (ui i 4 (nI D.length)) := S_18
  refine R_aload_n (pc := 107) 1 dX12_tagged_107 rfl rfl ?_
  refine R_iload_n (pc := 108) 0 dX12_tagged_108 rfl rfl ?_
  refine R_aload_n (pc := 109) 1 dX12_tagged_109 rfl rfl ?_
  refine R_get (pc := 110) dX12_tagged_110 fX12_16 S_20.obj (by omega) rfl ?_
  refine R_eqi (y := nI mm) (hi1) ?_
  refine R_iadd (pc := 113) dX12_tagged_113 ?_
  refine R_eqi (y := nI (D.length + mm)) (nI_add D.length mm) ?_
  refine R_put' (pc := 114) (fs' := [.int (i 0), .ref 62, .ref 63, .int (i 1), .ref 64, .int (i 2), .ref 65, .ref 66, .ref 67, .ref 68, .ref 69, .ref 70, .ref 71, .int (i 3), .ref 72, .int (nI (D.length + mm)), .ref 73, .int (i 5), .ref 74, .int (i 6), .ref 75, .ref 76, .ref 77, .ref 78, .ref 79, .ref 80, .ref 81, .ref 82, .ref 83, .ref 84, .int (i 7), .ref 85, .ref 86, .ref 87, .ref 88, .ref 89, .ref 90]) dX12_tagged_114 fX12_153 tX12_15 rfl rfl S_20.obj (by omega) (Nat.le_of_ble_eq_true rfl) rfl (fun h_21 f_22 g_23 => ?_)
  have S_24 : MO h_21 (uo ψ_7 72 (cpB (ψ_7 85) 0 (ψ_7 72) D.length mm)) z (ui i 4 (nI (D.length + mm))) := MO.setI (j := (ui i 4 (nI (D.length + mm)))) S_20 f_22 g_23
  have F_25 := fmI g_23
  refine R_iconst (pc := 117) (v := 0) dX12_tagged_117 (by decide) ?_
  have hI : IE [4, 7] i (ui i 4 (nI (D.length + mm))) := fun k_ hk_ => by
    rw [ui_n (fun e_ => hk_ (by rw [e_]; decide))]
  have hy : sg (cpB (ψ_7 85) 0 (ψ_7 72) D.length mm) 0 ((osF F G false D (bgO F N (nI mm))).2.2 ++ bt (osTag F G false D A (bgO F N (nI mm))) mm) := by
    refine sg.app (yO.mv fun j_ hj_ => by rw [cpB_out _ _ _ (by omega)]) (fun j_ hj_ => ?_)
    rw [bt_len] at hj_
    rw [lO, Nat.zero_add, og_bt _ hj_, ← gt_at0 tO (by omega)]
    unfold cpB
    rw [if_pos (by omega), show 0 + (D.length + j_ - D.length) = j_ by omega]
  exact R_ireturn (pc := 118) dX12_tagged_118 rfl (by decide) (by decide) ⟨rfl, _, _, rfl, S_24, hI, rfl, (KU.up (by decide)), hy, (((F_5.tr F_14).tr F_19).tr F_25)⟩
set_option maxHeartbeats 1000000 in
set_option maxRecDepth 100000 in
theorem oX12_tagged_16o {l : Launch} {w : am_W} {h : am_H} {n : Nat} {ψ : Nat → oA} {z : fA} {i : mI} (S : MO h ψ z i) (hn : 90 ≤ n) (A N D : List (BitVec 8)) (mm : Nat) (hA : A.length ≤ 256) (hN : N.length ≤ 64) (hD : D.length ≤ 512) (hmm : 4 ≤ mm) (hmm16 : mm ≤ 16) (hi1 : i 1 = nI mm) (hi3 : i 3 = nI D.length) (hi5 : i 5 = nI N.length) (hi6 : i 6 = nI A.length) (hsA : sg (ψ 74) 0 A) (hsN : sg (ψ 73) 0 N) (hsD : sg (ψ 71) 0 D) {F G : bP → bP} (K0 : Kh ψ 0 F G) (hN1 : 1 ≤ N.length) (hN15 : N.length ≤ 15) (hDm : mm ≤ D.length) : RH l w mX12_tagged h n [.ref 61, .int 16, .int 1] (fun h2 q => ∃ ψ2 i2, q = some (.int (if smI (kf (osTag F G true (sl D 0 (D.length - mm)) A (bgO F N (nI mm))) (nI mm)) (rd D (D.length - mm)) = 0 then -6 else 0)) ∧ MO h2 ψ2 z i2 ∧ IE [4, 7] i i2 ∧ i2 4 = nI (D.length - mm) ∧ FR [72, 75, 76, 78, 79, 80, 81, 82, 83, 84, 85, 87, 88, 89, 90] ψ ψ2 ∧ sg (ψ2 72) 0 (osF F G true (sl D 0 (D.length - mm)) (bgO F N (nI mm))).2.2 ∧ FM h h2) := by
  refine RC.of [(0, .ref 61), (1, .int 16), (2, .int 1)] (by decide +kernel) rfl (Nat.le_of_ble_eq_true rfl) ?_
  have lD : (sl D 0 (D.length - mm)).length = D.length - mm := sl_len _ _ _
  have hsE : sg (ψ 71) 0 (sl D 0 (D.length - mm)) := fun j_ hj_ => by rw [lD] at hj_; rw [og_sl _ _ hj_, Nat.zero_add]; exact sg0 hsD (by omega)
  refine R_iload_n (pc := 0) 2 dX12_tagged_0 rfl rfl ?_
  refine R_if_eq (pc := 1) (tgt := 16) dX12_tagged_1 (by decide) (fun c_1 => absurd c_1 (by decide)) (fun c_1 => ?_)
  refine R_aload_n (pc := 4) 0 dX12_tagged_4 rfl rfl ?_
  refine R_get (pc := 5) dX12_tagged_5 fX12_130 S.obj (by omega) rfl ?_
  refine R_eqi (y := nI D.length) (hi3) ?_
  refine R_aload_n (pc := 8) 0 dX12_tagged_8 rfl rfl ?_
  refine R_get (pc := 9) dX12_tagged_9 fX12_16 S.obj (by omega) rfl ?_
  refine R_eqi (y := nI mm) (hi1) ?_
  refine R_isub (pc := 12) dX12_tagged_12 ?_
  refine R_eqi (y := nI (D.length - mm)) (nI_sb (a := D.length) (b := mm) (by omega)) ?_
  refine R_goto (pc := 13) (tgt := 20) dX12_tagged_13 (by decide) ?_
  refine R_istore_n (pc := 20) (lv' := [(3, .int (nI (D.length - mm))), (0, .ref 61), (1, .int 16), (2, .int 1)]) dX12_tagged_20 rfl (by decide) rfl ?_
  refine R_iload_n (pc := 21) 2 dX12_tagged_21 rfl rfl ?_
  refine R_tableOut (pc := 22) (tgt := 75) dX12_tagged_22 (by decide) (by decide) ?_
  refine R_aload_n (pc := 75) 1 dX12_tagged_75 rfl rfl ?_
  refine R_iload_n (pc := 76) 3 dX12_tagged_76 rfl rfl ?_
  refine R_iload_n (pc := 77) 0 dX12_tagged_77 rfl rfl ?_
  refine R_eqi (y := nI (sl D 0 (D.length - mm)).length) (by rw [lD]) ?_
  refine R_callVh (pc := 78) (μ' := mX12_offsets) (As := [.int 1, .int (nI (sl D 0 (D.length - mm)).length)]) (st := []) dX12_tagged_78 zX12_offsets lX12_244 ⟨by decide, by decide⟩ rfl rfl ⟨by decide, by decide⟩ S.obj (by omega) rfl (Nat.le_of_ble_eq_true rfl) (oX12_offsets_o S hn A N (sl D 0 (D.length - mm)) ((sl D 0 (D.length - mm)).length / 16) ((sl D 0 (D.length - mm)).length % 16) mm (by omega) (by omega) hA hN1 hN15 (by rw [lD]; omega) hmm hmm16 hi1 hi5 hi6 hsA hsN hsE K0) (fun h_2 r_ q_3 => ?_)
  obtain ⟨ψ_7, rfl, S_4, K_6, J_8, F_5⟩ := q_3
  have K_9 := K0.fr K_6 (by decide) (by decide) (by decide) (by decide)
  have yO : sg (ψ_7 72) 0 (osF F G true (sl D 0 (D.length - mm)) (bgO F N (nI mm))).2.2 := J_8.1
  have tO : gt (ψ_7 85) 0 = (osTag F G true (sl D 0 (D.length - mm)) A (bgO F N (nI mm))) := J_8.2
  have KU : FR [72, 75, 76, 78, 79, 80, 81, 82, 83, 84, 85, 87, 88, 89, 90] ψ ψ_7 := ((FR.rf _ _).tr K_6 (by decide))
  have lO : (osF F G true (sl D 0 (D.length - mm)) (bgO F N (nI mm))).2.2.length = (sl D 0 (D.length - mm)).length := osF_len _ _ _ _ _ (by rw [lD]; omega)
  refine R_aload_n (pc := 81) 1 dX12_tagged_81 rfl rfl ?_
  refine R_iload_n (pc := 82) 0 dX12_tagged_82 rfl rfl ?_
  refine R_put' (pc := 83) (fs' := [.int (i 0), .ref 62, .ref 63, .int (i 1), .ref 64, .int (i 2), .ref 65, .ref 66, .ref 67, .ref 68, .ref 69, .ref 70, .ref 71, .int (i 3), .ref 72, .int (nI (D.length - mm)), .ref 73, .int (i 5), .ref 74, .int (i 6), .ref 75, .ref 76, .ref 77, .ref 78, .ref 79, .ref 80, .ref 81, .ref 82, .ref 83, .ref 84, .int (i 7), .ref 85, .ref 86, .ref 87, .ref 88, .ref 89, .ref 90]) dX12_tagged_83 fX12_153 tX12_15 rfl rfl S_4.obj (by omega) (Nat.le_of_ble_eq_true rfl) rfl (fun h_10 f_11 g_12 => ?_)
  have S_13 : MO h_10 ψ_7 z (ui i 4 (nI (D.length - mm))) := MO.setI (j := (ui i 4 (nI (D.length - mm)))) S_4 f_11 g_12
  have F_14 := fmI g_12
  refine R_iload_n (pc := 86) 3 dX12_tagged_86 rfl rfl ?_
  refine R_if_ne (pc := 87) (tgt := 119) dX12_tagged_87 (by decide) (fun c_15 => ?_) (fun c_15 => absurd c_15 (by decide))
  refine R_iconst (pc := 119) (v := 1) dX12_tagged_119 (by decide) ?_
  refine R_istore (pc := 120) (lv' := [(4, .int 1), (3, .int (nI (D.length - mm))), (0, .ref 61), (1, .int 16), (2, .int 1)]) dX12_tagged_120 (by decide) rfl ?_
  refine R_iconst (pc := 122) (v := 0) dX12_tagged_122 (by decide) ?_
  refine R_istore (pc := 123) (lv' := [(5, .int 0), (4, .int 1), (3, .int (nI (D.length - mm))), (0, .ref 61), (1, .int 16), (2, .int 1)]) dX12_tagged_123 (by decide) rfl ?_
  have e71 : ψ_7 71 = ψ 71 := KU 71 (by decide)
  refine R_sub [0, 1, 2, 3, 4, 5] rfl ?_
  refine qX12_tagged_good (h := h_10) (ψ := ψ_7) S_13 hn mm (D.length - mm) 16 hmm16 (by omega) (hi1) ?_ mm 0 (by omega)
  rw [goodT (M := D.length - mm) hmm16 (by omega) tO (show sg (ψ_7 71) 0 D by rw [e71]; exact hsD)]
  refine R_iload (pc := 171) 1 dX12_tagged_171 rfl ?_
  refine R_if_eq (pc := 173) (tgt := 180) dX12_tagged_173 (by decide) (fun c_16 => ?_) (fun c_16 => ?_)
  · skip
    refine R_bipush (pc := 180) (v := (-6)) dX12_tagged_180 (by decide) ?_
    have hI : IE [4, 7] i (ui i 4 (nI (D.length - mm))) := fun k_ hk_ => by
      rw [ui_n (fun e_ => hk_ (by rw [e_]; decide))]
    have hA_ : (some (.int (-6)) : Option Value) = some (.int (if smI (kf (osTag F G true (sl D 0 (D.length - mm)) A (bgO F N (nI mm))) (nI mm)) (rd D (D.length - mm)) = 0 then -6 else 0)) := by rw [if_pos c_16]
    exact R_ireturn (pc := 182) dX12_tagged_182 rfl (by decide) (by decide) ⟨rfl, _, _, hA_, S_13, hI, rfl, KU, yO, (F_5.tr F_14)⟩
  · skip
    refine R_iconst (pc := 176) (v := 0) dX12_tagged_176 (by decide) ?_
    refine R_goto (pc := 177) (tgt := 182) dX12_tagged_177 (by decide) ?_
    have hI : IE [4, 7] i (ui i 4 (nI (D.length - mm))) := fun k_ hk_ => by
      rw [ui_n (fun e_ => hk_ (by rw [e_]; decide))]
    have hA_ : (some (.int (0)) : Option Value) = some (.int (if smI (kf (osTag F G true (sl D 0 (D.length - mm)) A (bgO F N (nI mm))) (nI mm)) (rd D (D.length - mm)) = 0 then -6 else 0)) := by rw [if_neg c_16]
    exact R_ireturn (pc := 182) dX12_tagged_182 rfl (by decide) (by decide) ⟨rfl, _, _, hA_, S_13, hI, rfl, KU, yO, (F_5.tr F_14)⟩
