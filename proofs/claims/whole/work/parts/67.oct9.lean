theorem a6 : ∀ k, k < 8 → ob ((-6438275382588823898 : Int64), 0) k = t8 (nI 166) := by decide +kernel
theorem lay8_og (D : List (BitVec 8)) (j : Nat) : og (lay8 D) (8 + j) = og D j := by
  unfold lay8 pdd
  by_cases h : j < D.length
  · rw [og_app_l (by rw [List.length_append, List.length_replicate]; omega), og_app_r (by rw [List.length_replicate]; omega), List.length_replicate, Nat.add_sub_cancel_left]
  · rw [og_out (show D.length ≤ j by omega), og_app_r (by rw [List.length_append, List.length_replicate]; omega)]
    generalize 8 + j - (List.replicate 8 (0 : BitVec 8) ++ D).length = m
    by_cases h2 : m < pad2 (List.replicate 8 (0 : BitVec 8) ++ D).length 3
    · rw [og_rep _ _ h2]
    · exact og_out (by rw [List.length_replicate]; omega)
set_option maxHeartbeats 1000000 in
set_option maxRecDepth 100000 in
theorem qX12_wrap_s {l : Launch} {w : am_W} {h : am_H} {n : Nat} {ψ : Nat → oA} {z : fA} {i : mI} (hn : 90 ≤ n)  {Q : am_H → Nat → Option Value → Prop} (kk : ∀ h2 ψ2, MO h2 ψ2 z i → FR [72] ψ ψ2 → ψ2 72 = pgB (fun _ => t8 (nI 166)) (ψ 72) 0 8 → FM h h2 → RW l w mX12_wrap h2 n 0 0 27 [(2, .int (nI 8)), (0, .ref 61), (1, .int 0)] [] Q) : ∀ (dd k : Nat), k + dd = 8 → ∀ h2 ψ2, MO h2 ψ2 z i → FR [72] ψ ψ2 → ψ2 72 = pgB (fun _ => t8 (nI 166)) (ψ 72) 0 k → FM h h2 → RW l w mX12_wrap h2 n 0 0 6 [(2, .int (nI k)), (0, .ref 61), (1, .int 0)] [] Q := by
  intro dd
  induction dd with
  | zero =>
    intro k hd h2 ψ2 S2 hK hJ hF
    refine R_iload_n (pc := 6) 0 dX12_wrap_6 rfl rfl ?_
    refine R_bipush (pc := 7) (v := 8) dX12_wrap_7 (by decide) ?_
    refine R_icmp_ge (pc := 9) (tgt := 27) dX12_wrap_9 (by decide) (fun c_1 => ?_) (fun c_1 => absurd (nI_le (a := 8) (b := k) (by omega) (by omega)) c_1)
    obtain rfl : k = 8 := by omega
    exact kk h2 ψ2 S2 hK hJ hF
  | succ dd ih =>
    intro k hd h2 ψ2 S2 hK hJ hF
    refine R_iload_n (pc := 6) 0 dX12_wrap_6 rfl rfl ?_
    refine R_bipush (pc := 7) (v := 8) dX12_wrap_7 (by decide) ?_
    refine R_icmp_ge (pc := 9) (tgt := 27) dX12_wrap_9 (by decide) (fun c_1 => absurd c_1 (nI_ge (a := k) (b := 8) (by omega) (by omega))) (fun c_1 => ?_)
    refine R_aload_n (pc := 12) 1 dX12_wrap_12 rfl rfl ?_
    refine R_get (pc := 13) dX12_wrap_13 fX12_44 S2.obj (by omega) rfl ?_
    refine R_iload_n (pc := 16) 0 dX12_wrap_16 rfl rfl ?_
    refine R_sipush (pc := 17) (v := 166) dX12_wrap_17 (by decide) ?_
    refine R_eqi (y := oc (t8 (nI 166))) (ocN (m := 166) (by omega)) ?_
    refine R_iast' (pc := 20) (j := k) dX12_wrap_20 (S2.arr (p := 72) rfl) (by omega) ⟨rfl, by show k < 700; omega, by decide⟩ (fun h_2 f_3 g_4 => ?_)
    have S_6 : MO h_2 (uo ψ2 72 (updB (ψ2 72) k (t8 (nI 166)))) z i := MO.setA (p := 72) S2 rfl f_3 g_4 (fun j_ => congrFun (upd_oc _ _ _) j_)
    have F_5 := fmA (p := 72) (okA_c (by decide)).1 g_4
    refine R_iinc (pc := 21) (j := 0) (v := nI (k + 1)) (lv' := [(2, .int (nI (k + 1))), (0, .ref 61), (1, .int 0)]) dX12_wrap_21 rfl (nI_add _ _) (by decide) rfl ?_
    refine R_goto (pc := 24) (tgt := 6) dX12_wrap_24 (by decide) ?_
    refine R_sub [0, 1, 2] rfl ?_
    have j1 : updB (ψ2 72) k (t8 (nI 166)) = pgB (fun _ => t8 (nI 166)) (ψ 72) 0 (k + 1) := by rw [hJ]; exact pgB_up _ _ (by omega) rfl
    exact ih (k + 1) (by omega) h_2 _ S_6 (hK.up (by decide)) (j1) (hF.tr F_5)
set_option maxHeartbeats 1000000 in
set_option maxRecDepth 100000 in
theorem oX12_wrap_s {l : Launch} {w : am_W} {h : am_H} {n : Nat} {ψ : Nat → oA} {z : fA} {i : mI} (S : MO h ψ z i) (hn : 90 ≤ n) (D : List (BitVec 8)) (b : Nat) (hb : D.length = 8 * b) (hD : D.length ≤ 512) (hi3 : i 3 = nI D.length) {F G : bP → bP} (K0 : Kh ψ 0 F G) (hs : sg (ψ 71) 0 D) : RH l w mX12_wrap h n [.ref 61, .int 0] (fun h2 q => ∃ ψ2, q = some (.int 0) ∧ MO h2 ψ2 z (ui i 4 (nI (D.length + 8))) ∧ FR [72, 76] ψ ψ2 ∧ sg (ψ2 72) 0 (wMx F ((lay8 D).length / 8 - 1) ((-6438275382588823898 : Int64), lay8 D)) ∧ FM h h2) := by
  refine RC.of [(0, .ref 61), (1, .int 0)] (by decide +kernel) rfl (Nat.le_of_ble_eq_true rfl) ?_
  refine R_iload_n (pc := 0) 1 dX12_wrap_0 rfl rfl ?_
  refine R_if_ne (pc := 1) (tgt := 69) dX12_wrap_1 (by decide) (fun c_1 => absurd (rfl) c_1) (fun c_1 => ?_)
  refine R_iconst (pc := 4) (v := 0) dX12_wrap_4 (by decide) ?_
  refine R_istore_n (pc := 5) (lv' := [(2, .int 0), (0, .ref 61), (1, .int 0)]) dX12_wrap_5 rfl (by decide) rfl ?_
  refine R_sub [0, 1, 2] rfl ?_
  refine qX12_wrap_s (h := h) (ψ := ψ) hn (fun h2 ψ2 S2 hK hJ hF => ?_) 8 0 (by omega) h ψ S (FR.rf _ _) (pgB_0 _ _ _).symm (FM.rf h)
  have K_2 := K0.fr hK (by decide) (by decide) (by decide) (by decide)
  have e71 : ψ2 71 = ψ 71 := hK 71 (by decide)
  have lN : (lay8 D).length = 8 * (b + 1) := by rw [lay8_len]; omega
  have hy : wR (cpB (ψ2 71) 0 (ψ2 72) 8 D.length) ((-6438275382588823898 : Int64), lay8 D) := by
    constructor
    · intro k_ hk_
      rw [cpB_out _ _ _ (by omega), hJ, pgB_in _ _ (by omega) (by omega)]; exact (a6 k_ hk_).symm
    · intro j_ h8_ hj_
      have := (show sg (ψ2 71) 0 D by rw [e71]; exact hs).cp (ψ2 72) 8 rfl (j_ - 8) (by have : j_ < (lay8 D).length := hj_; omega)
      rw [show 8 + (j_ - 8) = j_ by omega] at this
      rw [this]
      show _ = og (lay8 D) j_
      rw [show j_ = 8 + (j_ - 8) by omega, lay8_og, Nat.add_sub_cancel_left]
  refine R_aload_n (pc := 27) 1 dX12_wrap_27 rfl rfl ?_
  refine R_get (pc := 28) dX12_wrap_28 fX12_41 S2.obj (by omega) rfl ?_
  refine R_iconst (pc := 31) (v := 0) dX12_wrap_31 (by decide) ?_
  refine R_aload_n (pc := 32) 1 dX12_wrap_32 rfl rfl ?_
  refine R_get (pc := 33) dX12_wrap_33 fX12_44 S2.obj (by omega) rfl ?_
  refine R_bipush (pc := 36) (v := 8) dX12_wrap_36 (by decide) ?_
  refine R_aload_n (pc := 38) 1 dX12_wrap_38 rfl rfl ?_
  refine R_get (pc := 39) dX12_wrap_39 fX12_130 S2.obj (by omega) rfl ?_
  refine R_eqi (y := nI D.length) (hi3) ?_
  refine R_callSh (pc := 42) (μ' := mX12_copy) (As := [.ref 71, .int (nI 0), .ref 72, .int (nI 8), .int (nI D.length)]) (st := []) dX12_wrap_42 zX12_copy lX12_133 ⟨by decide, by decide⟩ rfl rfl ⟨by decide, by decide⟩ rfl (Nat.le_of_ble_eq_true rfl) (oX12_copy S2 hn (p := 71) (q := 72) rfl rfl 0 8 D.length (by show 0 + D.length ≤ 700; omega) (by show 8 + D.length ≤ 700; omega) (by decide)) (fun h_3 r_ q_4 => ?_)
  obtain ⟨rfl, S_5, F_6⟩ := q_4
  have S_7 : MO h_3 (uo ψ2 72 (cpB (ψ2 71) 0 (ψ2 72) 8 D.length)) z i := S_5
  refine R_aload_n (pc := 45) 1 dX12_wrap_45 rfl rfl ?_
  refine R_aload_n (pc := 46) 1 dX12_wrap_46 rfl rfl ?_
  refine R_get (pc := 47) dX12_wrap_47 fX12_130 S_7.obj (by omega) rfl ?_
  refine R_eqi (y := nI D.length) (hi3) ?_
  refine R_bipush (pc := 50) (v := 8) dX12_wrap_50 (by decide) ?_
  refine R_idiv (pc := 52) dX12_wrap_52 (by decide) ?_
  refine R_eqi (y := nI b) ((nI_div (a := D.length) (b := 8) (by omega) (by omega)).trans (congrArg nI (by omega))) ?_
  refine R_callVh (pc := 53) (μ' := mX12_wrapAll) (As := [.int (nI b)]) (st := []) dX12_wrap_53 zX12_wrapAll lX12_183 ⟨by decide, by decide⟩ rfl rfl ⟨by decide, by decide⟩ S_7.obj (by omega) rfl (Nat.le_of_ble_eq_true rfl) (oX12_wrapAll S_7 hn b (by omega) (K_2.uo (by decide)) ((-6438275382588823898 : Int64), lay8 D) (lN) (hy)) (fun h_8 r_ q_9 => ?_)
  obtain ⟨ψ_13, rfl, S_10, K_12, J_14, F_11⟩ := q_9
  have K_15 := (K_2.uo (by decide)).fr K_12 (by decide) (by decide) (by decide) (by decide)
  refine R_aload_n (pc := 56) 1 dX12_wrap_56 rfl rfl ?_
  refine R_aload_n (pc := 57) 1 dX12_wrap_57 rfl rfl ?_
  refine R_get (pc := 58) dX12_wrap_58 fX12_130 S_10.obj (by omega) rfl ?_
  refine R_eqi (y := nI D.length) (hi3) ?_
  refine R_bipush (pc := 61) (v := 8) dX12_wrap_61 (by decide) ?_
  refine R_iadd (pc := 63) dX12_wrap_63 ?_
  refine R_eqi (y := nI (D.length + 8)) (nI_add D.length 8) ?_
  refine R_put' (pc := 64) (fs' := [.int (i 0), .ref 62, .ref 63, .int (i 1), .ref 64, .int (i 2), .ref 65, .ref 66, .ref 67, .ref 68, .ref 69, .ref 70, .ref 71, .int (i 3), .ref 72, .int (nI (D.length + 8)), .ref 73, .int (i 5), .ref 74, .int (i 6), .ref 75, .ref 76, .ref 77, .ref 78, .ref 79, .ref 80, .ref 81, .ref 82, .ref 83, .ref 84, .int (i 7), .ref 85, .ref 86, .ref 87, .ref 88, .ref 89, .ref 90]) dX12_wrap_64 fX12_153 tX12_15 rfl rfl S_10.obj (by omega) (Nat.le_of_ble_eq_true rfl) rfl (fun h_16 f_17 g_18 => ?_)
  have S_19 : MO h_16 ψ_13 z (ui i 4 (nI (D.length + 8))) := MO.setI (j := (ui i 4 (nI (D.length + 8)))) S_10 f_17 g_18
  have F_20 := fmI g_18
  refine R_iconst (pc := 67) (v := 0) dX12_wrap_67 (by decide) ?_
  have lM : (lay8 D).length / 8 - 1 = b := by omega
  have hz : sg (ψ_13 72) 0 (wMx F ((lay8 D).length / 8 - 1) ((-6438275382588823898 : Int64), lay8 D)) := by rw [lM]; exact wR_sg J_14 (by rw [wOut_len]; show 8 ≤ (lay8 D).length; omega) (by rw [wOut_len]; show (lay8 D).length < _; omega)
  exact R_ireturn (pc := 68) dX12_wrap_68 rfl (by decide) (by decide) ⟨rfl, ψ_13, rfl, S_19, ((((FR.rf [72, 76] _).tr hK (by decide)).up (by decide)).tr K_12 (by decide)), hz, (hF.tr ((F_6.tr F_11).tr F_20))⟩
set_option maxHeartbeats 1000000 in
set_option maxRecDepth 100000 in
theorem qX12_wrap_o {l : Launch} {w : am_W} {h : am_H} {n : Nat} {ψ : Nat → oA} {z : fA} {i : mI} (S : MO h ψ z i) (hn : 90 ≤ n) {Q : am_H → Nat → Option Value → Prop} (kk : RW l w mX12_wrap h n 0 0 137 [(3, .int (nI 8)), (2, .int (allI 1 (fun j => decide (oc (ψ 72 j) = 166)) 8)), (0, .ref 61), (1, .int 1)] [] Q) : ∀ (dd k : Nat), k + dd = 8 → RW l w mX12_wrap h n 0 0 103 [(3, .int (nI k)), (2, .int (allI 1 (fun j => decide (oc (ψ 72 j) = 166)) k)), (0, .ref 61), (1, .int 1)] [] Q := by
  intro dd
  induction dd with
  | zero =>
    intro k hd
    refine R_iload_n (pc := 103) 0 dX12_wrap_103 rfl rfl ?_
    refine R_bipush (pc := 104) (v := 8) dX12_wrap_104 (by decide) ?_
    refine R_icmp_ge (pc := 106) (tgt := 137) dX12_wrap_106 (by decide) (fun c_1 => ?_) (fun c_1 => absurd (nI_le (a := 8) (b := k) (by omega) (by omega)) c_1)
    obtain rfl : k = 8 := by omega
    exact kk
  | succ dd ih =>
    intro k hd
    refine R_iload_n (pc := 103) 0 dX12_wrap_103 rfl rfl ?_
    refine R_bipush (pc := 104) (v := 8) dX12_wrap_104 (by decide) ?_
    refine R_icmp_ge (pc := 106) (tgt := 137) dX12_wrap_106 (by decide) (fun c_1 => absurd c_1 (nI_ge (a := k) (b := 8) (by omega) (by omega))) (fun c_1 => ?_)
    refine R_iload_n (pc := 109) 1 dX12_wrap_109 rfl rfl ?_
    refine R_if_eq (pc := 110) (tgt := 129) dX12_wrap_110 (by decide) (fun c_2 => ?_) (fun c_2 => ?_)
    · skip
      refine R_iconst (pc := 129) (v := 0) dX12_wrap_129 (by decide) ?_
      refine R_istore_n (pc := 130) (lv' := [(2, .int 0), (3, .int (nI k)), (0, .ref 61), (1, .int 1)]) dX12_wrap_130 rfl (by decide) rfl ?_
      refine R_iinc (pc := 131) (j := 1) (v := nI (k + 1)) (lv' := [(3, .int (nI (k + 1))), (2, .int 0), (0, .ref 61), (1, .int 1)]) dX12_wrap_131 rfl (nI_add _ _) (by decide) rfl ?_
      refine R_goto (pc := 134) (tgt := 103) dX12_wrap_134 (by decide) ?_
      refine R_sub [0, 1, 2, 3] rfl ?_
      have e_ : allI 1 (fun j => decide (oc (ψ 72 j) = 166)) (k + 1) = 0 := by show (if (fun j => decide (oc (ψ 72 j) = 166)) k then allI 1 (fun j => decide (oc (ψ 72 j) = 166)) k else 0) = 0; rw [c_2, ite_self]
      have r_ := ih (k + 1) (by omega)
      rw [e_] at r_
      exact r_
    · skip
      refine R_aload_n (pc := 113) 2 dX12_wrap_113 rfl rfl ?_
      refine R_get (pc := 114) dX12_wrap_114 fX12_44 S.obj (by omega) rfl ?_
      refine R_iload_n (pc := 117) 0 dX12_wrap_117 rfl rfl ?_
      refine R_iald' (pc := 118) (j := k) dX12_wrap_118 (S.arr (p := 72) rfl) (by omega) ⟨rfl, by show k < 700; omega, by decide⟩ ?_
      refine R_eqi (y := oc (ψ 72 k)) rfl ?_
      refine R_sipush (pc := 119) (v := 166) dX12_wrap_119 (by decide) ?_
      refine R_icmp_ne (pc := 122) (tgt := 129) dX12_wrap_122 (by decide) (fun c_3 => ?_) (fun c_3 => ?_)
      · skip
        refine R_iconst (pc := 129) (v := 0) dX12_wrap_129 (by decide) ?_
        refine R_istore_n (pc := 130) (lv' := [(2, .int 0), (3, .int (nI k)), (0, .ref 61), (1, .int 1)]) dX12_wrap_130 rfl (by decide) rfl ?_
        refine R_iinc (pc := 131) (j := 1) (v := nI (k + 1)) (lv' := [(3, .int (nI (k + 1))), (2, .int 0), (0, .ref 61), (1, .int 1)]) dX12_wrap_131 rfl (nI_add _ _) (by decide) rfl ?_
        refine R_goto (pc := 134) (tgt := 103) dX12_wrap_134 (by decide) ?_
        refine R_sub [0, 1, 2, 3] rfl ?_
        have a1 : allI 1 (fun j => decide (oc (ψ 72 j) = 166)) k = 1 := (allI_01 (Or.inr rfl) _ k).resolve_left c_2
        have e_ : allI 1 (fun j => decide (oc (ψ 72 j) = 166)) (k + 1) = 0 := by rw [allI_up a1]; exact if_neg (fun q_ => c_3 (of_decide_eq_true q_))
        have r_ := ih (k + 1) (by omega)
        rw [e_] at r_
        exact r_
      · skip
        refine R_iconst (pc := 125) (v := 1) dX12_wrap_125 (by decide) ?_
        refine R_goto (pc := 126) (tgt := 130) dX12_wrap_126 (by decide) ?_
        refine R_istore_n (pc := 130) (lv' := [(2, .int 1), (3, .int (nI k)), (0, .ref 61), (1, .int 1)]) dX12_wrap_130 rfl (by decide) rfl ?_
        refine R_iinc (pc := 131) (j := 1) (v := nI (k + 1)) (lv' := [(3, .int (nI (k + 1))), (2, .int 1), (0, .ref 61), (1, .int 1)]) dX12_wrap_131 rfl (nI_add _ _) (by decide) rfl ?_
        refine R_goto (pc := 134) (tgt := 103) dX12_wrap_134 (by decide) ?_
        refine R_sub [0, 1, 2, 3] rfl ?_
        have a1 : allI 1 (fun j => decide (oc (ψ 72 j) = 166)) k = 1 := (allI_01 (Or.inr rfl) _ k).resolve_left c_2
        have e_ : allI 1 (fun j => decide (oc (ψ 72 j) = 166)) (k + 1) = 1 := by rw [allI_up a1]; exact if_pos (decide_eq_true c_3)
        have r_ := ih (k + 1) (by omega)
        rw [e_] at r_
        exact r_
theorem tkN_og (L : List (BitVec 8)) (hL : L.length < 2 ^ 30) : ∀ i, i + 8 ≤ L.length → ∀ j, og (tkN L i) j = if j < i then og L (8 + j) else og L j
  | 0, _, j => by rw [if_neg (by omega)]; rfl
  | i + 1, hi, j => by
    show og (rput (tkN L i) (nI i) (t8 (atI (tkN L i) (nI (8 + i))))) j = _
    rw [rput_nI _ _ (by omega) (by rw [tkN_len]; omega), og_set _ _ _ (by rw [tkN_len]; omega), atI_nI _ (by omega) (by rw [tkN_len]; omega), t8_oc, tkN_og L hL i (by omega), tkN_og L hL i (by omega)]
    by_cases h : j = i
    · rw [if_pos h, if_neg (by omega), if_pos (by omega), h]
    · rw [if_neg h]
      by_cases h2 : j < i
      · rw [if_pos h2, if_pos (by omega)]
      · rw [if_neg h2, if_neg (by omega)]
theorem tk8_og (L : List (BitVec 8)) (hL : L.length < 2 ^ 30) {j : Nat} (hj : j < L.length - 8) : og (tk8 L) j = og L (8 + j) := by
  unfold tk8
  rw [og_take _ hj, tkN_og L hL _ (by omega), if_pos hj]
theorem ob_eq8 {a b : Int64} (h : ∀ k, k < 8 → ob (a, 0) k = ob (b, 0) k) : a = b := by
  have : (a, (0 : Int64)) = (b, 0) := ob_ext fun k hk => by
    by_cases h8 : k < 8
    · exact h k h8
    · rw [show k = 8 + (k - 8) by omega, ob_r _ _ (by omega), ob_r _ _ (by omega)]
  exact congrArg Prod.fst this
theorem good8 {y : oA} {s : wT} (h : wR y s) : allI 1 (fun j => decide (oc (y j) = 166)) 8 = if lg_cmp s.1 (-6438275382588823898) = 0 then 1 else 0 := by
  rw [allI_iff]
  have e166 : (166 : Int32) = oc (t8 (nI 166)) := ocN (m := 166) (by omega)
  have e : (∀ j, j < 8 → decide (oc (y j) = 166) = true) ↔ lg_cmp s.1 (-6438275382588823898) = 0 := by
    rw [lg_cmp_eq]
    constructor
    · intro q
      apply ob_eq8
      intro k hk
      rw [a6 k hk, ← h.1 k hk]
      apply oc_inj
      rw [← e166]
      exact of_decide_eq_true (q k hk)
    · intro q j hj
      apply decide_eq_true
      rw [h.1 j hj, q, a6 j hj, ← e166]
  simp only [e]
set_option maxHeartbeats 1000000 in
set_option maxRecDepth 100000 in
theorem oX12_wrap_o {l : Launch} {w : am_W} {h : am_H} {n : Nat} {ψ : Nat → oA} {z : fA} {i : mI} (S : MO h ψ z i) (hn : 90 ≤ n) (D : List (BitVec 8)) (b : Nat) (hb : D.length = 8 * b) (hD : D.length ≤ 512) (hi3 : i 3 = nI D.length) {F G : bP → bP} (K0 : Kh ψ 0 F G) (hs : sg (ψ 71) 0 D) (hb3 : 3 ≤ b) : RH l w mX12_wrap h n [.ref 61, .int 1] (fun h2 q => ∃ ψ2, q = some (.int (if lg_cmp (uOut G (D.length / 8 - 1) (e8 D 0, D) 6).1 (-6438275382588823898) = 0 then 0 else -6)) ∧ MO h2 ψ2 z (ui i 4 (nI (D.length - 8))) ∧ FR [72, 76] ψ ψ2 ∧ sg (ψ2 72) 0 (tk8 (uOut G (D.length / 8 - 1) (e8 D 0, D) 6).2) ∧ FM h h2) := by
  refine RC.of [(0, .ref 61), (1, .int 1)] (by decide +kernel) rfl (Nat.le_of_ble_eq_true rfl) ?_
  refine R_iload_n (pc := 0) 1 dX12_wrap_0 rfl rfl ?_
  refine R_if_ne (pc := 1) (tgt := 69) dX12_wrap_1 (by decide) (fun c_1 => ?_) (fun c_1 => absurd c_1 (by decide))
  refine R_aload_n (pc := 69) 0 dX12_wrap_69 rfl rfl ?_
  refine R_get (pc := 70) dX12_wrap_70 fX12_41 S.obj (by omega) rfl ?_
  refine R_iconst (pc := 73) (v := 0) dX12_wrap_73 (by decide) ?_
  refine R_aload_n (pc := 74) 0 dX12_wrap_74 rfl rfl ?_
  refine R_get (pc := 75) dX12_wrap_75 fX12_44 S.obj (by omega) rfl ?_
  refine R_iconst (pc := 78) (v := 0) dX12_wrap_78 (by decide) ?_
  refine R_aload_n (pc := 79) 0 dX12_wrap_79 rfl rfl ?_
  refine R_get (pc := 80) dX12_wrap_80 fX12_130 S.obj (by omega) rfl ?_
  refine R_eqi (y := nI D.length) (hi3) ?_
  refine R_callSh (pc := 83) (μ' := mX12_copy) (As := [.ref 71, .int (nI 0), .ref 72, .int (nI 0), .int (nI D.length)]) (st := []) dX12_wrap_83 zX12_copy lX12_133 ⟨by decide, by decide⟩ rfl rfl ⟨by decide, by decide⟩ rfl (Nat.le_of_ble_eq_true rfl) (oX12_copy S hn (p := 71) (q := 72) rfl rfl 0 0 D.length (by show 0 + D.length ≤ 700; omega) (by show 0 + D.length ≤ 700; omega) (by decide)) (fun h_2 r_ q_3 => ?_)
  obtain ⟨rfl, S_4, F_5⟩ := q_3
  have S_6 : MO h_2 (uo ψ 72 (cpB (ψ 71) 0 (ψ 72) 0 D.length)) z i := S_4
  have hy : wR (cpB (ψ 71) 0 (ψ 72) 0 D.length) (e8 D 0, D) := by
    have q_ := hs.cp (ψ 72) 0 rfl
    constructor
    · intro k_ hk_; have := q_ k_ (by omega); rw [Nat.zero_add] at this; rw [this, ob_e8 _ _ hk_, Nat.zero_add]
    · intro j_ _ hj_; have := q_ j_ hj_; rw [Nat.zero_add] at this; exact this
  refine R_aload_n (pc := 86) 0 dX12_wrap_86 rfl rfl ?_
  refine R_aload_n (pc := 87) 0 dX12_wrap_87 rfl rfl ?_
  refine R_get (pc := 88) dX12_wrap_88 fX12_130 S_6.obj (by omega) rfl ?_
  refine R_eqi (y := nI D.length) (hi3) ?_
  refine R_bipush (pc := 91) (v := 8) dX12_wrap_91 (by decide) ?_
  refine R_idiv (pc := 93) dX12_wrap_93 (by decide) ?_
  refine R_eqi (y := nI b) ((nI_div (a := D.length) (b := 8) (by omega) (by omega)).trans (congrArg nI (by omega))) ?_
  refine R_iconst (pc := 94) (v := 1) dX12_wrap_94 (by decide) ?_
  refine R_isub (pc := 95) dX12_wrap_95 ?_
  refine R_eqi (y := nI (b - 1)) (nI_sb (a := b) (b := 1) (by omega)) ?_
  refine R_callVh (pc := 96) (μ' := mX12_unwrapAll) (As := [.int (nI (b - 1))]) (st := []) dX12_wrap_96 zX12_unwrapAll lX12_186 ⟨by decide, by decide⟩ rfl rfl ⟨by decide, by decide⟩ S_6.obj (by omega) rfl (Nat.le_of_ble_eq_true rfl) (oX12_unwrapAll S_6 hn (b - 1) (by omega) (K0.uo (by decide)) (e8 D 0, D) (by show D.length = _; omega) (hy)) (fun h_7 r_ q_8 => ?_)
  obtain ⟨ψ_12, rfl, S_9, K_11, J_13, F_10⟩ := q_8
  have K_14 := (K0.uo (by decide)).fr K_11 (by decide) (by decide) (by decide) (by decide)
  refine R_iconst (pc := 99) (v := 1) dX12_wrap_99 (by decide) ?_
  refine R_istore_n (pc := 100) (lv' := [(2, .int 1), (0, .ref 61), (1, .int 1)]) dX12_wrap_100 rfl (by decide) rfl ?_
  refine R_iconst (pc := 101) (v := 0) dX12_wrap_101 (by decide) ?_
  refine R_istore_n (pc := 102) (lv' := [(3, .int 0), (2, .int 1), (0, .ref 61), (1, .int 1)]) dX12_wrap_102 rfl (by decide) rfl ?_
  have wU : wR (ψ_12 72) (uOut G (D.length / 8 - 1) (e8 D 0, D) 6) := by have z_ := J_13; rw [show b - 1 = D.length / 8 - 1 by omega] at z_; exact z_
  have lU : (uOut G (D.length / 8 - 1) (e8 D 0, D) 6).2.length = D.length := by rw [uOut_len]
  refine R_sub [0, 1, 2, 3] rfl ?_
  refine qX12_wrap_o (h := h_7) (ψ := ψ_12) S_9 hn ?_ 8 0 (by omega)
  rw [good8 wU]
  refine R_aload_n (pc := 137) 2 dX12_wrap_137 rfl rfl ?_
  refine R_get (pc := 138) dX12_wrap_138 fX12_44 S_9.obj (by omega) rfl ?_
  refine R_bipush (pc := 141) (v := 8) dX12_wrap_141 (by decide) ?_
  refine R_aload_n (pc := 143) 2 dX12_wrap_143 rfl rfl ?_
  refine R_get (pc := 144) dX12_wrap_144 fX12_44 S_9.obj (by omega) rfl ?_
  refine R_iconst (pc := 147) (v := 0) dX12_wrap_147 (by decide) ?_
  refine R_aload_n (pc := 148) 2 dX12_wrap_148 rfl rfl ?_
  refine R_get (pc := 149) dX12_wrap_149 fX12_130 S_9.obj (by omega) rfl ?_
  refine R_eqi (y := nI D.length) (hi3) ?_
  refine R_bipush (pc := 152) (v := 8) dX12_wrap_152 (by decide) ?_
  refine R_isub (pc := 154) dX12_wrap_154 ?_
  refine R_eqi (y := nI (D.length - 8)) (nI_sb (a := D.length) (b := 8) (by omega)) ?_
  refine R_callSh (pc := 155) (μ' := mX12_copy) (As := [.ref 72, .int (nI 8), .ref 72, .int (nI 0), .int (nI (D.length - 8))]) (st := []) dX12_wrap_155 zX12_copy lX12_133 ⟨by decide, by decide⟩ rfl rfl ⟨by decide, by decide⟩ rfl (Nat.le_of_ble_eq_true rfl) (oX12_copy1 S_9 hn rfl 8 0 (D.length - 8) (by show 8 + (D.length - 8) ≤ 700; omega) (by omega)) (fun h_15 r_ q_16 => ?_)
  obtain ⟨rfl, S_17, F_18⟩ := q_16
  have S_19 : MO h_15 (uo ψ_12 72 (cpB (ψ_12 72) 8 (ψ_12 72) 0 (D.length - 8))) z i := S_17
  refine R_aload_n (pc := 158) 2 dX12_wrap_158 rfl rfl ?_
  refine R_aload_n (pc := 159) 2 dX12_wrap_159 rfl rfl ?_
  refine R_get (pc := 160) dX12_wrap_160 fX12_130 S_19.obj (by omega) rfl ?_
  refine R_eqi (y := nI D.length) (hi3) ?_
  refine R_bipush (pc := 163) (v := 8) dX12_wrap_163 (by decide) ?_
  refine R_isub (pc := 165) dX12_wrap_165 ?_
  refine R_eqi (y := nI (D.length - 8)) (nI_sb (a := D.length) (b := 8) (by omega)) ?_
  refine R_put' (pc := 166) (fs' := [.int (i 0), .ref 62, .ref 63, .int (i 1), .ref 64, .int (i 2), .ref 65, .ref 66, .ref 67, .ref 68, .ref 69, .ref 70, .ref 71, .int (i 3), .ref 72, .int (nI (D.length - 8)), .ref 73, .int (i 5), .ref 74, .int (i 6), .ref 75, .ref 76, .ref 77, .ref 78, .ref 79, .ref 80, .ref 81, .ref 82, .ref 83, .ref 84, .int (i 7), .ref 85, .ref 86, .ref 87, .ref 88, .ref 89, .ref 90]) dX12_wrap_166 fX12_153 tX12_15 rfl rfl S_19.obj (by omega) (Nat.le_of_ble_eq_true rfl) rfl (fun h_20 f_21 g_22 => ?_)
  have S_23 : MO h_20 (uo ψ_12 72 (cpB (ψ_12 72) 8 (ψ_12 72) 0 (D.length - 8))) z (ui i 4 (nI (D.length - 8))) := MO.setI (j := (ui i 4 (nI (D.length - 8)))) S_19 f_21 g_22
  have F_24 := fmI g_22
  refine R_iload_n (pc := 169) 1 dX12_wrap_169 rfl rfl ?_
  refine R_if_eq (pc := 170) (tgt := 177) dX12_wrap_170 (by decide) (fun c_25 => ?_) (fun c_25 => ?_)
  · skip
    refine R_bipush (pc := 177) (v := (-6)) dX12_wrap_177 (by decide) ?_
    have hg : ¬ lg_cmp (uOut G (D.length / 8 - 1) (e8 D 0, D) 6).1 (-6438275382588823898) = 0 := fun q_ => by rw [if_pos q_] at c_25; exact absurd c_25 (by decide)
    have hA : (some (.int (-6)) : Option Value) = some (.int (if lg_cmp (uOut G (D.length / 8 - 1) (e8 D 0, D) 6).1 (-6438275382588823898) = 0 then 0 else -6)) := by rw [if_neg hg]
    have hz : sg (cpB (ψ_12 72) 8 (ψ_12 72) 0 (D.length - 8)) 0 (tk8 (uOut G (D.length / 8 - 1) (e8 D 0, D) 6).2) := fun j_ hj_ => by
      rw [tk8_len, lU] at hj_
      rw [tk8_og _ (by rw [lU]; omega) (by rw [lU]; omega), Nat.zero_add, ← wU.2 _ (by omega) (by rw [lU]; omega)]
      unfold cpB
      rw [if_pos (by omega), Nat.sub_zero]
    exact R_ireturn (pc := 179) dX12_wrap_179 rfl (by decide) (by decide) ⟨rfl, _, hA, S_23, ((((FR.rf _ _).up (by decide)).tr K_11 (by decide)).up (by decide)), hz, (((F_5.tr F_10).tr F_18).tr F_24)⟩
  · skip
    refine R_iconst (pc := 173) (v := 0) dX12_wrap_173 (by decide) ?_
    refine R_goto (pc := 174) (tgt := 179) dX12_wrap_174 (by decide) ?_
    have hg : lg_cmp (uOut G (D.length / 8 - 1) (e8 D 0, D) 6).1 (-6438275382588823898) = 0 := by by_cases q_ : lg_cmp (uOut G (D.length / 8 - 1) (e8 D 0, D) 6).1 (-6438275382588823898) = 0; exact q_; exact absurd (if_neg q_) c_25
    have hA : (some (.int (0)) : Option Value) = some (.int (if lg_cmp (uOut G (D.length / 8 - 1) (e8 D 0, D) 6).1 (-6438275382588823898) = 0 then 0 else -6)) := by rw [if_pos hg]
    have hz : sg (cpB (ψ_12 72) 8 (ψ_12 72) 0 (D.length - 8)) 0 (tk8 (uOut G (D.length / 8 - 1) (e8 D 0, D) 6).2) := fun j_ hj_ => by
      rw [tk8_len, lU] at hj_
      rw [tk8_og _ (by rw [lU]; omega) (by rw [lU]; omega), Nat.zero_add, ← wU.2 _ (by omega) (by rw [lU]; omega)]
      unfold cpB
      rw [if_pos (by omega), Nat.sub_zero]
    exact R_ireturn (pc := 179) dX12_wrap_179 rfl (by decide) (by decide) ⟨rfl, _, hA, S_23, ((((FR.rf _ _).up (by decide)).tr K_11 (by decide)).up (by decide)), hz, (((F_5.tr F_10).tr F_18).tr F_24)⟩
