set_option maxHeartbeats 1000000 in
set_option maxRecDepth 100000 in
theorem qX12_paddedWrap_s {l : Launch} {w : am_W} {h : am_H} {n : Nat} {ψ : Nat → oA} {z : fA} {i : mI} (hn : 90 ≤ n) (D : List (BitVec 8)) (c : Nat) (hi3 : i 3 = nI D.length) {Q : am_H → Nat → Option Value → Prop} (kk : ∀ h2 ψ2, MO h2 ψ2 z i → FR [72] ψ ψ2 → ψ2 72 = pgB (fun j => t8 (nI D.length >>> (nI (24 - 8 * j) &&& 31))) (ψ 72) 4 4 → FM h h2 → RW l w mX12_paddedWrap h2 n 0 0 89 [(3, .int (nI 4)), (2, .int (nI (8 * c))), (0, .ref 61), (1, .int 0)] [] Q) : ∀ (dd k : Nat), k + dd = 4 → ∀ h2 ψ2, MO h2 ψ2 z i → FR [72] ψ ψ2 → ψ2 72 = pgB (fun j => t8 (nI D.length >>> (nI (24 - 8 * j) &&& 31))) (ψ 72) 4 k → FM h h2 → RW l w mX12_paddedWrap h2 n 0 0 54 [(3, .int (nI k)), (2, .int (nI (8 * c))), (0, .ref 61), (1, .int 0)] [] Q := by
  intro dd
  induction dd with
  | zero =>
    intro k hd h2 ψ2 S2 hK hJ hF
    refine R_iload_n (pc := 54) 0 dX12_paddedWrap_54 rfl rfl ?_
    refine R_iconst (pc := 55) (v := 4) dX12_paddedWrap_55 (by decide) ?_
    refine R_icmp_ge (pc := 56) (tgt := 89) dX12_paddedWrap_56 (by decide) (fun c_1 => ?_) (fun c_1 => absurd (nI_le (a := 4) (b := k) (by omega) (by omega)) c_1)
    obtain rfl : k = 4 := by omega
    exact kk h2 ψ2 S2 hK hJ hF
  | succ dd ih =>
    intro k hd h2 ψ2 S2 hK hJ hF
    refine R_iload_n (pc := 54) 0 dX12_paddedWrap_54 rfl rfl ?_
    refine R_iconst (pc := 55) (v := 4) dX12_paddedWrap_55 (by decide) ?_
    refine R_icmp_ge (pc := 56) (tgt := 89) dX12_paddedWrap_56 (by decide) (fun c_1 => absurd c_1 (nI_ge (a := k) (b := 4) (by omega) (by omega))) (fun c_1 => ?_)
    refine R_aload_n (pc := 59) 2 dX12_paddedWrap_59 rfl rfl ?_
    refine R_get (pc := 60) dX12_paddedWrap_60 fX12_44 S2.obj (by omega) rfl ?_
    refine R_iconst (pc := 63) (v := 4) dX12_paddedWrap_63 (by decide) ?_
    refine R_iload_n (pc := 64) 0 dX12_paddedWrap_64 rfl rfl ?_
    refine R_iadd (pc := 65) dX12_paddedWrap_65 ?_
    refine R_eqi (y := nI (4 + k)) (nI_add 4 k) ?_
    refine R_aload_n (pc := 66) 2 dX12_paddedWrap_66 rfl rfl ?_
    refine R_get (pc := 67) dX12_paddedWrap_67 fX12_130 S2.obj (by omega) rfl ?_
    refine R_eqi (y := nI D.length) (hi3) ?_
    refine R_bipush (pc := 70) (v := 24) dX12_paddedWrap_70 (by decide) ?_
    refine R_bipush (pc := 72) (v := 8) dX12_paddedWrap_72 (by decide) ?_
    refine R_iload_n (pc := 74) 0 dX12_paddedWrap_74 rfl rfl ?_
    refine R_imul (pc := 75) dX12_paddedWrap_75 ?_
    refine R_eqi (y := nI (8 * k)) (nI_mul 8 k) ?_
    refine R_isub (pc := 76) dX12_paddedWrap_76 ?_
    refine R_eqi (y := nI (24 - (8 * k))) (nI_sb (a := 24) (b := 8 * k) (by omega)) ?_
    refine R_ishr (pc := 77) dX12_paddedWrap_77 ?_
    refine R_sipush (pc := 78) (v := 255) dX12_paddedWrap_78 (by decide) ?_
    refine R_iand (pc := 81) dX12_paddedWrap_81 ?_
    refine R_eqi (y := oc (t8 (nI D.length >>> (nI (24 - 8 * k) &&& 31)))) (oc_t8 _) ?_
    refine R_iast' (pc := 82) (j := 4 + k) dX12_paddedWrap_82 (S2.arr (p := 72) rfl) (by omega) ⟨rfl, by show 4 + k < 700; omega, by decide⟩ (fun h_2 f_3 g_4 => ?_)
    have S_6 : MO h_2 (uo ψ2 72 (updB (ψ2 72) (4 + k) (t8 (nI D.length >>> (nI (24 - 8 * k) &&& 31))))) z i := MO.setA (p := 72) S2 rfl f_3 g_4 (fun j_ => congrFun (upd_oc _ _ _) j_)
    have F_5 := fmA (p := 72) (okA_c (by decide)).1 g_4
    refine R_iinc (pc := 83) (j := 0) (v := nI (k + 1)) (lv' := [(3, .int (nI (k + 1))), (2, .int (nI (8 * c))), (0, .ref 61), (1, .int 0)]) dX12_paddedWrap_83 rfl (nI_add _ _) (by decide) rfl ?_
    refine R_goto (pc := 86) (tgt := 54) dX12_paddedWrap_86 (by decide) ?_
    refine R_sub [0, 1, 2, 3] rfl ?_
    have j1 : updB (ψ2 72) (4 + k) (t8 (nI D.length >>> (nI (24 - 8 * k) &&& 31))) = pgB (fun j => t8 (nI D.length >>> (nI (24 - 8 * j) &&& 31))) (ψ 72) 4 (k + 1) := by rw [hJ]; exact pgB_up _ _ rfl rfl
    exact ih (k + 1) (by omega) h_2 _ S_6 (hK.up (by decide)) (j1) (hF.tr F_5)
theorem ob_or (a b : Int64) {k : Nat} (hk : k < 16) : ob (a ||| b, 0) k = ob (a, 0) k ||| ob (b, 0) k := by
  apply BitVec.eq_of_getLsbD_eq
  intro m hm
  rw [BitVec.getLsbD_or, ob_bit _ hk hm, ob_bit _ hk hm, ob_bit _ hk hm]
  by_cases h8 : 8 ≤ k
  · simp only [if_pos h8]
    simp
  · simp only [if_neg h8, Int64.toBitVec_or, BitVec.getLsbD_or]
theorem pwA_k : ∀ k, k < 8 → ob ((-6460033620986822656 : Int64), 0) k = if k = 0 then t8 (nI 166) else if k = 1 then t8 (nI 89) else if k = 2 then t8 (nI 89) else if k = 3 then t8 (nI 166) else 0 := by decide +kernel
theorem sh24 : ∀ j, j < 4 → (8 : Int32) * nI (7 - (4 + j)) = nI (24 - 8 * j) := by decide
theorem pwA_ob (D : List (BitVec 8)) (hD : D.length < 2 ^ 31) {k : Nat} (hk : k < 8) : ob (pwA D, 0) k = if k = 0 then t8 (nI 166) else if k = 1 then t8 (nI 89) else if k = 2 then t8 (nI 89) else if k = 3 then t8 (nI 166) else t8 (nI D.length >>> (nI (24 - 8 * (k - 4)) &&& 31)) := by
  unfold pwA
  rw [ob_or _ _ (by omega), pwA_k k hk, ob_num hD (by omega)]
  by_cases h : 4 ≤ k ∧ k < 8
  · rw [if_pos h, if_neg (by omega), if_neg (by omega), if_neg (by omega), if_neg (by omega), if_neg (by omega), if_neg (by omega), if_neg (by omega), if_neg (by omega)]
    have := sh24 (k - 4) (by omega)
    rw [show 4 + (k - 4) = k by omega] at this
    rw [this]
    simp
  · rw [if_neg h]
    rcases (show k = 0 ∨ k = 1 ∨ k = 2 ∨ k = 3 by omega) with rfl | rfl | rfl | rfl <;> simp
theorem wR_gt1 {y : oA} {s : wT} (h : wR y s) (hl : s.2.length = 16) : gt y 0 = (s.1, e8 s.2 8) := ob_ext fun k hk => by
  rw [ob_gt _ _ hk, Nat.zero_add]
  by_cases h8 : k < 8
  · rw [ob_l _ _ h8, h.1 k h8]
  · rw [h.2 k (by omega) (by omega)]
    conv => rhs; rw [show k = 8 + (k - 8) by omega]
    rw [ob_r _ _ (by omega), ob_e8 _ _ (by omega), show 8 + (k - 8) = k by omega]
set_option maxHeartbeats 1000000 in
set_option maxRecDepth 100000 in
theorem oX12_paddedWrap_s {l : Launch} {w : am_W} {h : am_H} {n : Nat} {ψ : Nat → oA} {z : fA} {i : mI} (S : MO h ψ z i) (hn : 90 ≤ n) (D : List (BitVec 8)) (c : Nat) (hc : (D.length + 7) / 8 = c) (hD1 : 1 ≤ D.length) (hD : D.length ≤ 512) (hi3 : i 3 = nI D.length) {F G : bP → bP} (K0 : Kh ψ 0 F G) (hs : sg (ψ 71) 0 D) : RH l w mX12_paddedWrap h n [.ref 61, .int 0] (fun h2 q => ∃ ψ2, q = some (.int 0) ∧ MO h2 ψ2 z (ui i 4 (nI (8 * c + 8))) ∧ FR [72, 76] ψ ψ2 ∧ sg (ψ2 72) 0 (pwE F D) ∧ FM h h2) := by
  refine RC.of [(0, .ref 61), (1, .int 0)] (by decide +kernel) rfl (Nat.le_of_ble_eq_true rfl) ?_
  refine R_iload_n (pc := 0) 1 dX12_paddedWrap_0 rfl rfl ?_
  refine R_if_ne (pc := 1) (tgt := 162) dX12_paddedWrap_1 (by decide) (fun c_1 => absurd (rfl) c_1) (fun c_1 => ?_)
  refine R_aload_n (pc := 4) 0 dX12_paddedWrap_4 rfl rfl ?_
  refine R_get (pc := 5) dX12_paddedWrap_5 fX12_130 S.obj (by omega) rfl ?_
  refine R_eqi (y := nI D.length) (hi3) ?_
  refine R_bipush (pc := 8) (v := 7) dX12_paddedWrap_8 (by decide) ?_
  refine R_iadd (pc := 10) dX12_paddedWrap_10 ?_
  refine R_eqi (y := nI (D.length + 7)) (nI_add D.length 7) ?_
  refine R_bipush (pc := 11) (v := 8) dX12_paddedWrap_11 (by decide) ?_
  refine R_idiv (pc := 13) dX12_paddedWrap_13 (by decide) ?_
  refine R_eqi (y := nI c) ((nI_div (a := D.length + 7) (b := 8) (by omega) (by omega)).trans (congrArg nI hc)) ?_
  refine R_bipush (pc := 14) (v := 8) dX12_paddedWrap_14 (by decide) ?_
  refine R_imul (pc := 16) dX12_paddedWrap_16 ?_
  refine R_eqi (y := nI (8 * c)) ((nI_mul c 8).trans (congrArg nI (Nat.mul_comm c 8))) ?_
  refine R_istore_n (pc := 17) (lv' := [(2, .int (nI (8 * c))), (0, .ref 61), (1, .int 0)]) dX12_paddedWrap_17 rfl (by decide) rfl ?_
  refine R_aload_n (pc := 18) 1 dX12_paddedWrap_18 rfl rfl ?_
  refine R_get (pc := 19) dX12_paddedWrap_19 fX12_44 S.obj (by omega) rfl ?_
  refine R_iconst (pc := 22) (v := 0) dX12_paddedWrap_22 (by decide) ?_
  refine R_sipush (pc := 23) (v := 166) dX12_paddedWrap_23 (by decide) ?_
  refine R_eqi (y := oc (t8 (nI 166))) (ocN (m := 166) (by omega)) ?_
  refine R_iast' (pc := 26) (j := 0) dX12_paddedWrap_26 (S.arr (p := 72) rfl) (by omega) ⟨rfl, by show 0 < 700; omega, by decide⟩ (fun h_2 f_3 g_4 => ?_)
  have S_6 : MO h_2 (uo ψ 72 (updB (ψ 72) 0 (t8 (nI 166)))) z i := MO.setA (p := 72) S rfl f_3 g_4 (fun j_ => congrFun (upd_oc _ _ _) j_)
  have F_5 := fmA (p := 72) (okA_c (by decide)).1 g_4
  refine R_aload_n (pc := 27) 1 dX12_paddedWrap_27 rfl rfl ?_
  refine R_get (pc := 28) dX12_paddedWrap_28 fX12_44 S_6.obj (by omega) rfl ?_
  refine R_iconst (pc := 31) (v := 1) dX12_paddedWrap_31 (by decide) ?_
  refine R_bipush (pc := 32) (v := 89) dX12_paddedWrap_32 (by decide) ?_
  refine R_eqi (y := oc (t8 (nI 89))) (ocN (m := 89) (by omega)) ?_
  refine R_iast' (pc := 34) (j := 1) dX12_paddedWrap_34 (S_6.arr (p := 72) rfl) (by omega) ⟨rfl, by show 1 < 700; omega, by decide⟩ (fun h_7 f_8 g_9 => ?_)
  have S_11 : MO h_7 (uo ψ 72 (updB (updB (ψ 72) 0 (t8 (nI 166))) 1 (t8 (nI 89)))) z i := by have z_ := MO.setA (p := 72) S_6 rfl f_8 g_9 (fun j_ => congrFun (upd_oc _ _ _) j_); rw [uo_uo] at z_; exact z_
  have F_10 := fmA (p := 72) (okA_c (by decide)).1 g_9
  refine R_aload_n (pc := 35) 1 dX12_paddedWrap_35 rfl rfl ?_
  refine R_get (pc := 36) dX12_paddedWrap_36 fX12_44 S_11.obj (by omega) rfl ?_
  refine R_iconst (pc := 39) (v := 2) dX12_paddedWrap_39 (by decide) ?_
  refine R_bipush (pc := 40) (v := 89) dX12_paddedWrap_40 (by decide) ?_
  refine R_eqi (y := oc (t8 (nI 89))) (ocN (m := 89) (by omega)) ?_
  refine R_iast' (pc := 42) (j := 2) dX12_paddedWrap_42 (S_11.arr (p := 72) rfl) (by omega) ⟨rfl, by show 2 < 700; omega, by decide⟩ (fun h_12 f_13 g_14 => ?_)
  have S_16 : MO h_12 (uo ψ 72 (updB (updB (updB (ψ 72) 0 (t8 (nI 166))) 1 (t8 (nI 89))) 2 (t8 (nI 89)))) z i := by have z_ := MO.setA (p := 72) S_11 rfl f_13 g_14 (fun j_ => congrFun (upd_oc _ _ _) j_); rw [uo_uo] at z_; exact z_
  have F_15 := fmA (p := 72) (okA_c (by decide)).1 g_14
  refine R_aload_n (pc := 43) 1 dX12_paddedWrap_43 rfl rfl ?_
  refine R_get (pc := 44) dX12_paddedWrap_44 fX12_44 S_16.obj (by omega) rfl ?_
  refine R_iconst (pc := 47) (v := 3) dX12_paddedWrap_47 (by decide) ?_
  refine R_sipush (pc := 48) (v := 166) dX12_paddedWrap_48 (by decide) ?_
  refine R_eqi (y := oc (t8 (nI 166))) (ocN (m := 166) (by omega)) ?_
  refine R_iast' (pc := 51) (j := 3) dX12_paddedWrap_51 (S_16.arr (p := 72) rfl) (by omega) ⟨rfl, by show 3 < 700; omega, by decide⟩ (fun h_17 f_18 g_19 => ?_)
  have S_21 : MO h_17 (uo ψ 72 (updB (updB (updB (updB (ψ 72) 0 (t8 (nI 166))) 1 (t8 (nI 89))) 2 (t8 (nI 89))) 3 (t8 (nI 166)))) z i := by have z_ := MO.setA (p := 72) S_16 rfl f_18 g_19 (fun j_ => congrFun (upd_oc _ _ _) j_); rw [uo_uo] at z_; exact z_
  have F_20 := fmA (p := 72) (okA_c (by decide)).1 g_19
  refine R_iconst (pc := 52) (v := 0) dX12_paddedWrap_52 (by decide) ?_
  refine R_istore_n (pc := 53) (lv' := [(3, .int 0), (2, .int (nI (8 * c))), (0, .ref 61), (1, .int 0)]) dX12_paddedWrap_53 rfl (by decide) rfl ?_
  refine R_sub [0, 1, 2, 3] rfl ?_
  refine qX12_paddedWrap_s (h := h) (ψ := (uo ψ 72 (updB (updB (updB (updB (ψ 72) 0 (t8 (nI 166))) 1 (t8 (nI 89))) 2 (t8 (nI 89))) 3 (t8 (nI 166))))) hn D c hi3 (fun h2 ψ2 S2 hK hJ hF => ?_) 4 0 (by omega) h_17 _ S_21 (FR.rf _ _) (pgB_0 _ _ _).symm (((F_5.tr F_10).tr F_15).tr F_20)
  have K_22 := (K0.uo (by decide)).fr hK (by decide) (by decide) (by decide) (by decide)
  have y2 : ψ2 72 = pgB (fun j => t8 (nI D.length >>> (nI (24 - 8 * j) &&& 31))) (updB (updB (updB (updB (ψ 72) 0 (t8 (nI 166))) 1 (t8 (nI 89))) 2 (t8 (nI 89))) 3 (t8 (nI 166))) 4 4 := hJ
  have e71 : ψ2 71 = ψ 71 := hK 71 (by decide)
  have lN : (lay8 D).length = 8 * (c + 1) := by rw [lay8_len]; omega
  have hy : wR (clB (cpB (ψ2 71) 0 (ψ2 72) 8 D.length) (8 + D.length) (8 + 8 * c)) (pwA D, lay8 D) := by
    constructor
    · intro k_ hk_
      show clB _ _ _ k_ = ob (pwA D, 0) k_
      have e_ : clB (cpB (ψ2 71) 0 (ψ2 72) 8 D.length) (8 + D.length) (8 + 8 * c) k_ = ψ2 72 k_ := by unfold clB; rw [if_neg (by omega), cpB_out _ _ _ (by omega)]
      rw [e_, pwA_ob D (by omega) hk_, y2]
      by_cases q_ : 4 ≤ k_
      · rw [pgB_in _ _ q_ (by omega), if_neg (by omega), if_neg (by omega), if_neg (by omega), if_neg (by omega)]
      · rw [pgB_out _ _ (by omega)]
        unfold updB
        rcases (show k_ = 0 ∨ k_ = 1 ∨ k_ = 2 ∨ k_ = 3 by omega) with rfl | rfl | rfl | rfl <;> rfl
    · intro j_ h8_ hj_
      have hj2 : j_ < 8 * (c + 1) := by rw [← lN]; exact hj_
      show clB _ _ _ j_ = og (lay8 D) j_
      rw [show og (lay8 D) j_ = og D (j_ - 8) by rw [← lay8_og D (j_ - 8), show 8 + (j_ - 8) = j_ by omega]]
      unfold clB
      by_cases q_ : 8 + D.length ≤ j_
      · rw [if_pos (by omega), og_out (by omega)]
      · rw [if_neg (by omega)]
        have := (show sg (ψ2 71) 0 D by rw [e71]; exact hs).cp (ψ2 72) 8 rfl (j_ - 8) (by omega)
        rw [show 8 + (j_ - 8) = j_ by omega] at this; exact this
  refine R_aload_n (pc := 89) 2 dX12_paddedWrap_89 rfl rfl ?_
  refine R_get (pc := 90) dX12_paddedWrap_90 fX12_41 S2.obj (by omega) rfl ?_
  refine R_iconst (pc := 93) (v := 0) dX12_paddedWrap_93 (by decide) ?_
  refine R_aload_n (pc := 94) 2 dX12_paddedWrap_94 rfl rfl ?_
  refine R_get (pc := 95) dX12_paddedWrap_95 fX12_44 S2.obj (by omega) rfl ?_
  refine R_bipush (pc := 98) (v := 8) dX12_paddedWrap_98 (by decide) ?_
  refine R_aload_n (pc := 100) 2 dX12_paddedWrap_100 rfl rfl ?_
  refine R_get (pc := 101) dX12_paddedWrap_101 fX12_130 S2.obj (by omega) rfl ?_
  refine R_eqi (y := nI D.length) (hi3) ?_
  refine R_callSh (pc := 104) (μ' := mX12_copy) (As := [.ref 71, .int (nI 0), .ref 72, .int (nI 8), .int (nI D.length)]) (st := []) dX12_paddedWrap_104 zX12_copy lX12_133 ⟨by decide, by decide⟩ rfl rfl ⟨by decide, by decide⟩ rfl (Nat.le_of_ble_eq_true rfl) (oX12_copy S2 hn (p := 71) (q := 72) rfl rfl 0 8 D.length (by show 0 + D.length ≤ 700; omega) (by show 8 + D.length ≤ 700; omega) (by decide)) (fun h_23 r_ q_24 => ?_)
  obtain ⟨rfl, S_25, F_26⟩ := q_24
  have S_27 : MO h_23 (uo ψ2 72 (cpB (ψ2 71) 0 (ψ2 72) 8 D.length)) z i := S_25
  refine R_aload_n (pc := 107) 2 dX12_paddedWrap_107 rfl rfl ?_
  refine R_get (pc := 108) dX12_paddedWrap_108 fX12_44 S_27.obj (by omega) rfl ?_
  refine R_bipush (pc := 111) (v := 8) dX12_paddedWrap_111 (by decide) ?_
  refine R_aload_n (pc := 113) 2 dX12_paddedWrap_113 rfl rfl ?_
  refine R_get (pc := 114) dX12_paddedWrap_114 fX12_130 S_27.obj (by omega) rfl ?_
  refine R_eqi (y := nI D.length) (hi3) ?_
  refine R_iadd (pc := 117) dX12_paddedWrap_117 ?_
  refine R_eqi (y := nI (8 + D.length)) (nI_add 8 D.length) ?_
  refine R_bipush (pc := 118) (v := 8) dX12_paddedWrap_118 (by decide) ?_
  refine R_iload_n (pc := 120) 1 dX12_paddedWrap_120 rfl rfl ?_
  refine R_iadd (pc := 121) dX12_paddedWrap_121 ?_
  refine R_eqi (y := nI (8 + (8 * c))) (nI_add 8 (8 * c)) ?_
  refine R_callSh (pc := 122) (μ' := mX12_clear) (As := [.ref 72, .int (nI (8 + D.length)), .int (nI (8 + (8 * c)))]) (st := []) dX12_paddedWrap_122 zX12_clear lX12_164 ⟨by decide, by decide⟩ rfl rfl ⟨by decide, by decide⟩ rfl (Nat.le_of_ble_eq_true rfl) (oX12_clear S_27 hn (q := 72) rfl (8 + D.length) (8 + (8 * c)) (by omega) (by show 8 + (8 * c) ≤ 700; omega)) (fun h_28 r_ q_29 => ?_)
  obtain ⟨rfl, S_30, F_31⟩ := q_29
  have S_32 : MO h_28 (uo ψ2 72 (clB (cpB (ψ2 71) 0 (ψ2 72) 8 D.length) (8 + D.length) (8 + (8 * c)))) z i := by have z_ := S_30; rw [uo_uo] at z_; exact z_
  refine R_iload_n (pc := 125) 1 dX12_paddedWrap_125 rfl rfl ?_
  refine R_bipush (pc := 126) (v := 8) dX12_paddedWrap_126 (by decide) ?_
  refine R_icmp_ne (pc := 128) (tgt := 144) dX12_paddedWrap_128 (by decide) (fun c_33 => ?_) (fun c_33 => ?_)
  · skip
    have nc_33 : ¬ (8 * c = 8) := fun q_ => c_33 ((nI_eq (a := 8 * c) (b := 8) (by omega) (by omega)).mpr q_)
    refine R_aload_n (pc := 144) 2 dX12_paddedWrap_144 rfl rfl ?_
    refine R_iload_n (pc := 145) 1 dX12_paddedWrap_145 rfl rfl ?_
    refine R_bipush (pc := 146) (v := 8) dX12_paddedWrap_146 (by decide) ?_
    refine R_idiv (pc := 148) dX12_paddedWrap_148 (by decide) ?_
    refine R_eqi (y := nI c) ((nI_div (a := 8 * c) (b := 8) (by omega) (by omega)).trans (congrArg nI (by omega))) ?_
    refine R_callVh (pc := 149) (μ' := mX12_wrapAll) (As := [.int (nI c)]) (st := []) dX12_paddedWrap_149 zX12_wrapAll lX12_183 ⟨by decide, by decide⟩ rfl rfl ⟨by decide, by decide⟩ S_32.obj (by omega) rfl (Nat.le_of_ble_eq_true rfl) (oX12_wrapAll S_32 hn c (by omega) (K_22.uo (by decide)) (pwA D, lay8 D) (lN) (hy)) (fun h_34 r_ q_35 => ?_)
    obtain ⟨ψ_39, rfl, S_36, K_38, J_40, F_37⟩ := q_35
    have K_41 := (K_22.uo (by decide)).fr K_38 (by decide) (by decide) (by decide) (by decide)
    refine R_aload_n (pc := 152) 2 dX12_paddedWrap_152 rfl rfl ?_
    refine R_iload_n (pc := 153) 1 dX12_paddedWrap_153 rfl rfl ?_
    refine R_bipush (pc := 154) (v := 8) dX12_paddedWrap_154 (by decide) ?_
    refine R_iadd (pc := 156) dX12_paddedWrap_156 ?_
    refine R_eqi (y := nI (8 * c + 8)) (nI_add (8 * c) 8) ?_
    refine R_put' (pc := 157) (fs' := [.int (i 0), .ref 62, .ref 63, .int (i 1), .ref 64, .int (i 2), .ref 65, .ref 66, .ref 67, .ref 68, .ref 69, .ref 70, .ref 71, .int (i 3), .ref 72, .int (nI (8 * c + 8)), .ref 73, .int (i 5), .ref 74, .int (i 6), .ref 75, .ref 76, .ref 77, .ref 78, .ref 79, .ref 80, .ref 81, .ref 82, .ref 83, .ref 84, .int (i 7), .ref 85, .ref 86, .ref 87, .ref 88, .ref 89, .ref 90]) dX12_paddedWrap_157 fX12_153 tX12_15 rfl rfl S_36.obj (by omega) (Nat.le_of_ble_eq_true rfl) rfl (fun h_42 f_43 g_44 => ?_)
    have S_45 : MO h_42 ψ_39 z (ui i 4 (nI (8 * c + 8))) := MO.setI (j := (ui i 4 (nI (8 * c + 8)))) S_36 f_43 g_44
    have F_46 := fmI g_44
    refine R_iconst (pc := 160) (v := 0) dX12_paddedWrap_160 (by decide) ?_
    have hz : sg (ψ_39 72) 0 (pwE F D) := by
      rw [show pwE F D = wMx F ((lay8 D).length / 8 - 1) (pwA D, lay8 D) from if_neg (by rw [lN]; exact fun q_ => absurd ((nI_eq (a := 8 * (c + 1)) (b := 16) (by omega) (by omega)).mp q_) (by omega)), show (lay8 D).length / 8 - 1 = c by omega]
      exact wR_sg J_40 (by rw [wOut_len]; show 8 ≤ (lay8 D).length; omega) (by rw [wOut_len]; show (lay8 D).length < _; omega)
    exact R_ireturn (pc := 161) dX12_paddedWrap_161 rfl (by decide) (by decide) ⟨rfl, _, rfl, S_45, ((((((FR.rf [72, 76] _).up (by decide))).tr hK (by decide)).up (by decide)).tr K_38 (by decide)), hz, (hF.tr (((F_26.tr F_31).tr F_37).tr F_46))⟩
  · skip
    have nc_33 : 8 * c = 8 := (nI_eq (a := 8 * c) (b := 8) (by omega) (by omega)).mp c_33
    refine R_aload_n (pc := 131) 2 dX12_paddedWrap_131 rfl rfl ?_
    refine R_iconst (pc := 132) (v := 0) dX12_paddedWrap_132 (by decide) ?_
    refine R_aload_n (pc := 133) 2 dX12_paddedWrap_133 rfl rfl ?_
    refine R_get (pc := 134) dX12_paddedWrap_134 fX12_44 S_32.obj (by omega) rfl ?_
    refine R_iconst (pc := 137) (v := 0) dX12_paddedWrap_137 (by decide) ?_
    refine R_callVh (pc := 138) (μ' := mX12_sealBlock) (As := [.int (nI 0), .ref 72, .int (nI 0)]) (st := []) dX12_paddedWrap_138 zX12_sealBlock lX12_146 ⟨by decide, by decide⟩ rfl rfl ⟨by decide, by decide⟩ S_32.obj (by omega) rfl (Nat.le_of_ble_eq_true rfl) (oX12_sealBlock S_32 hn (K_22.uo (by decide)) (p := 72) rfl 0 (by show 0 + 16 ≤ 700; omega)) (fun h_47 r_ q_48 => ?_)
    obtain ⟨rfl, S_49, F_50⟩ := q_48
    have S_51 : MO h_47 (uo ψ2 72 (pt (clB (cpB (ψ2 71) 0 (ψ2 72) 8 D.length) (8 + D.length) (8 + (8 * c))) 0 (F (gt (clB (cpB (ψ2 71) 0 (ψ2 72) 8 D.length) (8 + D.length) (8 + (8 * c))) 0)))) z i := by have z_ := S_49; rw [uo_uo] at z_; exact z_
    refine R_goto (pc := 141) (tgt := 152) dX12_paddedWrap_141 (by decide) ?_
    refine R_aload_n (pc := 152) 2 dX12_paddedWrap_152 rfl rfl ?_
    refine R_iload_n (pc := 153) 1 dX12_paddedWrap_153 rfl rfl ?_
    refine R_bipush (pc := 154) (v := 8) dX12_paddedWrap_154 (by decide) ?_
    refine R_iadd (pc := 156) dX12_paddedWrap_156 ?_
    refine R_eqi (y := nI (8 * c + 8)) (nI_add (8 * c) 8) ?_
    refine R_put' (pc := 157) (fs' := [.int (i 0), .ref 62, .ref 63, .int (i 1), .ref 64, .int (i 2), .ref 65, .ref 66, .ref 67, .ref 68, .ref 69, .ref 70, .ref 71, .int (i 3), .ref 72, .int (nI (8 * c + 8)), .ref 73, .int (i 5), .ref 74, .int (i 6), .ref 75, .ref 76, .ref 77, .ref 78, .ref 79, .ref 80, .ref 81, .ref 82, .ref 83, .ref 84, .int (i 7), .ref 85, .ref 86, .ref 87, .ref 88, .ref 89, .ref 90]) dX12_paddedWrap_157 fX12_153 tX12_15 rfl rfl S_51.obj (by omega) (Nat.le_of_ble_eq_true rfl) rfl (fun h_52 f_53 g_54 => ?_)
    have S_55 : MO h_52 (uo ψ2 72 (pt (clB (cpB (ψ2 71) 0 (ψ2 72) 8 D.length) (8 + D.length) (8 + (8 * c))) 0 (F (gt (clB (cpB (ψ2 71) 0 (ψ2 72) 8 D.length) (8 + D.length) (8 + (8 * c))) 0)))) z (ui i 4 (nI (8 * c + 8))) := MO.setI (j := (ui i 4 (nI (8 * c + 8)))) S_51 f_53 g_54
    have F_56 := fmI g_54
    refine R_iconst (pc := 160) (v := 0) dX12_paddedWrap_160 (by decide) ?_
    have hz : sg (pt (clB (cpB (ψ2 71) 0 (ψ2 72) 8 D.length) (8 + D.length) (8 + (8 * c))) 0 (F (gt (clB (cpB (ψ2 71) 0 (ψ2 72) 8 D.length) (8 + D.length) (8 + (8 * c))) 0))) 0 (pwE F D) := by
      rw [show pwE F D = bt (F (pwA D, e8 (lay8 D) 8)) 16 from if_pos (by rw [lN]; exact congrArg nI (show 8 * (c + 1) = 16 by omega)), wR_gt1 hy (by show (lay8 D).length = 16; omega)]
      have q_ := (sg.nil (clB (cpB (ψ2 71) 0 (ψ2 72) 8 D.length) (8 + D.length) (8 + 8 * c)) 0).pt (F (pwA D, e8 (lay8 D) 8)) (u := 0) rfl rfl
      exact q_
    exact R_ireturn (pc := 161) dX12_paddedWrap_161 rfl (by decide) (by decide) ⟨rfl, _, rfl, S_55, (((((FR.rf [72, 76] _).up (by decide))).tr hK (by decide)).up (by decide)), hz, (hF.tr (((F_26.tr F_31).tr F_50).tr F_56))⟩
