def pgB (G : oA) (g : oA) (t k : Nat) : oA := fun i => if t ≤ i ∧ i < t + k then G (i - t) else g i
theorem pgB_0 (G g : oA) (t : Nat) : pgB G g t 0 = g := by
  funext i
  unfold pgB
  rw [if_neg (by omega)]
theorem pgB_up (G g : oA) {t k c : Nat} (hc : c = t + k) {v : BitVec 8} (hv : v = G k) : updB (pgB G g t k) c v = pgB G g t (k + 1) := by
  subst hc
  funext i
  unfold updB pgB
  by_cases e : i = t + k
  · rw [if_pos e, if_pos (by omega), hv, show i - t = k by omega]
  · rw [if_neg e]
    by_cases e2 : t ≤ i ∧ i < t + k
    · rw [if_pos e2, if_pos (by omega)]
    · rw [if_neg e2, if_neg (by omega)]
theorem pgB_in (G g : oA) {t k j : Nat} (h1 : t ≤ j) (h2 : j < t + k) : pgB G g t k j = G (j - t) := if_pos ⟨h1, h2⟩
theorem pgB_out (G g : oA) {t k j : Nat} (h : j < t ∨ t + k ≤ j) : pgB G g t k j = g j := if_neg (by omega)
def swB (f : oA) (a k : Nat) : oA := fun j => if a ≤ j ∧ j < a + k then f (j + 16) else if a + 16 ≤ j ∧ j < a + 16 + k then f (j - 16) else f j
theorem swB_0 (f : oA) (a : Nat) : swB f a 0 = f := by
  funext j
  unfold swB
  rw [if_neg (by omega), if_neg (by omega)]
theorem swB_up (f : oA) {a k c : Nat} (hk : k < 16) (hc : c = a + 16 + k) : updB (updB (swB f a k) (a + k) (swB f a k c)) c (swB f a k (a + k)) = swB f a (k + 1) := by
  subst hc
  have e1 : swB f a k (a + 16 + k) = f (a + 16 + k) := by unfold swB; rw [if_neg (by omega), if_neg (by omega)]
  have e2 : swB f a k (a + k) = f (a + k) := by unfold swB; rw [if_neg (by omega), if_neg (by omega)]
  rw [e1, e2]
  funext j
  unfold updB swB
  by_cases h1 : j = a + 16 + k
  · rw [if_pos h1, if_neg (by omega), if_pos (by omega), show j - 16 = a + k by omega]
  · rw [if_neg h1]
    by_cases h2 : j = a + k
    · rw [if_pos h2, if_pos (by omega), show j + 16 = a + 16 + k by omega]
    · rw [if_neg h2]
      by_cases h3 : a ≤ j ∧ j < a + k
      · rw [if_pos h3, if_pos (by omega)]
      · rw [if_neg h3, if_neg (show ¬ (a ≤ j ∧ j < a + (k + 1)) by omega)]
        by_cases h4 : a + 16 ≤ j ∧ j < a + 16 + k
        · rw [if_pos h4, if_pos (by omega)]
        · rw [if_neg h4, if_neg (by omega)]
set_option maxHeartbeats 4000000 in
set_option maxRecDepth 100000 in
theorem qX12_stolen_sw {l : Launch} {w : am_W} {h : am_H} {n : Nat} {ψ : Nat → oA} {z : fA} {i : mI} (hn : 90 ≤ n) (b r : Nat) (hb : 16 * (b + 2) ≤ 700) {Q : am_H → Nat → Option Value → Prop} (kk : ∀ h2 ψ2, MO h2 ψ2 z i → FR [72] ψ ψ2 → ψ2 72 = swB (ψ 72) (16 * b) 16 → FM h h2 → RW l w mX12_stolen h2 n 0 0 163 [(5, .int (nI 16)), (4, .int (nI (16 * (b + 1)))), (3, .int (nI r)), (2, .int (nI (b + 2))), (0, .ref 61), (1, .int 0)] [] Q) : ∀ (dd k : Nat), k + dd = 16 → ∀ h2 ψ2, MO h2 ψ2 z i → FR [72] ψ ψ2 → ψ2 72 = swB (ψ 72) (16 * b) k → FM h h2 → RW l w mX12_stolen h2 n 0 0 100 [(5, .int (nI k)), (4, .int (nI (16 * (b + 1)))), (3, .int (nI r)), (2, .int (nI (b + 2))), (0, .ref 61), (1, .int 0)] [] Q := by
  intro dd
  induction dd with
  | zero =>
    intro k hd h2 ψ2 S2 hK hJ hF
    refine R_iload (pc := 100) 0 dX12_stolen_100 rfl ?_
    refine R_bipush (pc := 102) (v := 16) dX12_stolen_102 (by decide) ?_
    refine R_icmp_ge (pc := 104) (tgt := 163) dX12_stolen_104 (by decide) (fun c_1 => ?_) (fun c_1 => absurd (nI_le (a := 16) (b := k) (by omega) (by omega)) c_1)
    obtain rfl : k = 16 := by omega
    exact kk h2 ψ2 S2 hK hJ hF
  | succ dd ih =>
    intro k hd h2 ψ2 S2 hK hJ hF
    refine R_iload (pc := 100) 0 dX12_stolen_100 rfl ?_
    refine R_bipush (pc := 102) (v := 16) dX12_stolen_102 (by decide) ?_
    refine R_icmp_ge (pc := 104) (tgt := 163) dX12_stolen_104 (by decide) (fun c_1 => absurd c_1 (nI_ge (a := k) (b := 16) (by omega) (by omega))) (fun c_1 => ?_)
    refine R_aload_n (pc := 107) 4 dX12_stolen_107 rfl rfl ?_
    refine R_get (pc := 108) dX12_stolen_108 fX12_44 S2.obj (by omega) rfl ?_
    refine R_iload (pc := 111) 1 dX12_stolen_111 rfl ?_
    refine R_bipush (pc := 113) (v := 16) dX12_stolen_113 (by decide) ?_
    refine R_isub (pc := 115) dX12_stolen_115 ?_
    refine R_eqi (y := nI (16 * b)) ((nI_sb (a := 16 * (b + 1)) (b := 16) (by omega)).trans (congrArg nI (by omega))) ?_
    refine R_iload (pc := 116) 0 dX12_stolen_116 rfl ?_
    refine R_iadd (pc := 118) dX12_stolen_118 ?_
    refine R_eqi (y := nI (16 * b + k)) (nI_add (16 * b) k) ?_
    refine R_iald' (pc := 119) (j := 16 * b + k) dX12_stolen_119 (S2.arr (p := 72) rfl) (by omega) ⟨rfl, by show 16 * b + k < 700; omega, by decide⟩ ?_
    refine R_eqi (y := oc (ψ2 72 (16 * b + k))) rfl ?_
    refine R_istore (pc := 120) (lv' := [(6, .int (oc (ψ2 72 (16 * b + k)))), (5, .int (nI k)), (4, .int (nI (16 * (b + 1)))), (3, .int (nI r)), (2, .int (nI (b + 2))), (0, .ref 61), (1, .int 0)]) dX12_stolen_120 (by decide) rfl ?_
    refine R_aload_n (pc := 122) 5 dX12_stolen_122 rfl rfl ?_
    refine R_get (pc := 123) dX12_stolen_123 fX12_44 S2.obj (by omega) rfl ?_
    refine R_iload (pc := 126) 2 dX12_stolen_126 rfl ?_
    refine R_bipush (pc := 128) (v := 16) dX12_stolen_128 (by decide) ?_
    refine R_isub (pc := 130) dX12_stolen_130 ?_
    refine R_eqi (y := nI (16 * b)) ((nI_sb (a := 16 * (b + 1)) (b := 16) (by omega)).trans (congrArg nI (by omega))) ?_
    refine R_iload (pc := 131) 1 dX12_stolen_131 rfl ?_
    refine R_iadd (pc := 133) dX12_stolen_133 ?_
    refine R_eqi (y := nI (16 * b + k)) (nI_add (16 * b) k) ?_
    refine R_aload_n (pc := 134) 5 dX12_stolen_134 rfl rfl ?_
    refine R_get (pc := 135) dX12_stolen_135 fX12_44 S2.obj (by omega) rfl ?_
    refine R_iload (pc := 138) 2 dX12_stolen_138 rfl ?_
    refine R_iload (pc := 140) 1 dX12_stolen_140 rfl ?_
    refine R_iadd (pc := 142) dX12_stolen_142 ?_
    refine R_eqi (y := nI (16 * (b + 1) + k)) (nI_add (16 * (b + 1)) k) ?_
    refine R_iald' (pc := 143) (j := 16 * (b + 1) + k) dX12_stolen_143 (S2.arr (p := 72) rfl) (by omega) ⟨rfl, by show 16 * (b + 1) + k < 700; omega, by decide⟩ ?_
    refine R_eqi (y := oc (ψ2 72 (16 * (b + 1) + k))) rfl ?_
    refine R_iast' (pc := 144) (j := 16 * b + k) dX12_stolen_144 (S2.arr (p := 72) rfl) (by omega) ⟨rfl, by show 16 * b + k < 700; omega, by decide⟩ (fun h_2 f_3 g_4 => ?_)
    have S_6 : MO h_2 (uo ψ2 72 (updB (ψ2 72) (16 * b + k) (ψ2 72 (16 * (b + 1) + k)))) z i := MO.setA (p := 72) S2 rfl f_3 g_4 (fun j_ => congrFun (upd_oc _ _ _) j_)
    have F_5 := fmA (p := 72) (okA_c (by decide)).1 g_4
    refine R_aload_n (pc := 145) 5 dX12_stolen_145 rfl rfl ?_
    refine R_get (pc := 146) dX12_stolen_146 fX12_44 S_6.obj (by omega) rfl ?_
    refine R_iload (pc := 149) 2 dX12_stolen_149 rfl ?_
    refine R_iload (pc := 151) 1 dX12_stolen_151 rfl ?_
    refine R_iadd (pc := 153) dX12_stolen_153 ?_
    refine R_eqi (y := nI (16 * (b + 1) + k)) (nI_add (16 * (b + 1)) k) ?_
    refine R_iload (pc := 154) 0 dX12_stolen_154 rfl ?_
    refine R_iast' (pc := 156) (j := 16 * (b + 1) + k) dX12_stolen_156 (S_6.arr (p := 72) rfl) (by omega) ⟨rfl, by show 16 * (b + 1) + k < 700; omega, by decide⟩ (fun h_7 f_8 g_9 => ?_)
    have S_11 : MO h_7 (uo ψ2 72 (updB (updB (ψ2 72) (16 * b + k) (ψ2 72 (16 * (b + 1) + k))) (16 * (b + 1) + k) (ψ2 72 (16 * b + k)))) z i := by have z_ := MO.setA (p := 72) S_6 rfl f_8 g_9 (fun j_ => congrFun (upd_oc _ _ _) j_); rw [uo_uo] at z_; exact z_
    have F_10 := fmA (p := 72) (okA_c (by decide)).1 g_9
    refine R_iinc (pc := 157) (j := 1) (v := nI (k + 1)) (lv' := [(5, .int (nI (k + 1))), (6, .int (oc (ψ2 72 (16 * b + k)))), (4, .int (nI (16 * (b + 1)))), (3, .int (nI r)), (2, .int (nI (b + 2))), (0, .ref 61), (1, .int 0)]) dX12_stolen_157 rfl (nI_add _ _) (by decide) rfl ?_
    refine R_goto (pc := 160) (tgt := 100) dX12_stolen_160 (by decide) ?_
    refine R_sub [0, 2, 3, 4, 5, 6] rfl ?_
    have j1 : updB (updB (ψ2 72) (16 * b + k) (ψ2 72 (16 * (b + 1) + k))) (16 * (b + 1) + k) (ψ2 72 (16 * b + k)) = swB (ψ 72) (16 * b) (k + 1) := by rw [hJ]; exact swB_up _ (by omega) (by omega)
    exact ih (k + 1) (by omega) h_7 _ S_11 (hK.up (by decide)) (j1) (hF.tr (F_5.tr F_10))
theorem stE_sg {f : oA} {C : List (BitVec 8)} {b n : Nat} (h : sg f 0 C) (hC : C.length = 16 * (b + 2)) (h1 : n ≤ 16 * (b + 2)) (h2 : 16 * (b + 1) ≤ n) : sg (swB f (16 * b) 16) 0 (stE C n) := fun j hj => by
  unfold stE at hj ⊢
  have l1 : (C.take (C.length - 32)).length = 16 * b := by rw [List.length_take]; omega
  rw [List.length_take, List.length_append, List.length_append, l1, bt_len, bt_len] at hj
  rw [og_take _ (by omega), Nat.zero_add]
  have hf : ∀ m, m < C.length → f m = og C m := fun m hm => by have := h m hm; rw [Nat.zero_add] at this; exact this
  by_cases a : j < 16 * b
  · rw [og_app_l (by rw [List.length_append, l1, bt_len]; omega), og_app_l (by omega), og_take _ (by omega)]
    unfold swB
    rw [if_neg (by omega), if_neg (by omega), hf _ (by omega)]
  · by_cases c : j < 16 * (b + 1)
    · rw [og_app_l (by rw [List.length_append, l1, bt_len]; omega), og_app_r (by omega), l1, og_bt _ (by omega), ob_rd _ _ (by omega)]
      unfold swB
      rw [if_pos (by omega), hf _ (by omega)]
      congr 1
      omega
    · rw [og_app_r (by rw [List.length_append, l1, bt_len]; omega), List.length_append, l1, bt_len, og_bt _ (by omega), ob_rd _ _ (by omega)]
      unfold swB
      rw [if_neg (by omega), if_pos (by omega), hf _ (by omega)]
      congr 1
      omega
set_option maxHeartbeats 4000000 in
set_option maxRecDepth 100000 in
theorem oX12_stolen_s {l : Launch} {w : am_W} {h : am_H} {n : Nat} {ψ : Nat → oA} {z : fA} {i : mI} (S : MO h ψ z i) (hn : 90 ≤ n) (D : List (BitVec 8)) (b r : Nat) (hr1 : 1 ≤ r) (hr16 : r ≤ 16) (hL : D.length = 16 * (b + 1) + r) (hD : D.length ≤ 512) (hi3 : i 3 = nI D.length) {F G : bP → bP} (K0 : Kh ψ 0 F G) (hs : sg (ψ 71) 0 D) : RH l w mX12_stolen h n [.ref 61, .int 0] (fun h2 q => ∃ ψ2, q = none ∧ MO h2 ψ2 z (ui i 4 (nI D.length)) ∧ FR [72, 75] ψ ψ2 ∧ sg (ψ2 72) 0 (stE (chE F (gt (ψ 73) 0) D) D.length) ∧ FM h h2) := by
  refine RC.of [(0, .ref 61), (1, .int 0)] (by decide +kernel) rfl (Nat.le_of_ble_eq_true rfl) ?_
  refine R_aload_n (pc := 0) 0 dX12_stolen_0 rfl rfl ?_
  refine R_get (pc := 1) dX12_stolen_1 fX12_47 S.obj (by omega) rfl ?_
  refine R_iconst (pc := 4) (v := 0) dX12_stolen_4 (by decide) ?_
  refine R_aload_n (pc := 5) 0 dX12_stolen_5 rfl rfl ?_
  refine R_get (pc := 6) dX12_stolen_6 fX12_53 S.obj (by omega) rfl ?_
  refine R_iconst (pc := 9) (v := 0) dX12_stolen_9 (by decide) ?_
  refine R_bipush (pc := 10) (v := 16) dX12_stolen_10 (by decide) ?_
  refine R_callSh (pc := 12) (μ' := mX12_copy) (As := [.ref 73, .int (nI 0), .ref 75, .int (nI 0), .int 16]) (st := []) dX12_stolen_12 zX12_copy lX12_133 ⟨by decide, by decide⟩ rfl rfl ⟨by decide, by decide⟩ rfl (Nat.le_of_ble_eq_true rfl) (oX12_copy16 S hn (p := 73) (q := 75) rfl rfl 0 0 (by show 0 + 16 ≤ 64; omega) (by show 0 + 16 ≤ 16; omega) (by decide)) (fun h_1 r_ q_2 => ?_)
  obtain ⟨rfl, S_3, F_4⟩ := q_2
  have S_5 : MO h_1 (uo ψ 75 (pt (ψ 75) 0 (gt (ψ 73) 0))) z i := S_3
  refine R_aload_n (pc := 15) 0 dX12_stolen_15 rfl rfl ?_
  refine R_get (pc := 16) dX12_stolen_16 fX12_130 S_5.obj (by omega) rfl ?_
  refine R_eqi (y := nI D.length) (hi3) ?_
  refine R_bipush (pc := 19) (v := 15) dX12_stolen_19 (by decide) ?_
  refine R_iadd (pc := 21) dX12_stolen_21 ?_
  refine R_eqi (y := nI (D.length + 15)) (nI_add D.length 15) ?_
  refine R_bipush (pc := 22) (v := 16) dX12_stolen_22 (by decide) ?_
  refine R_idiv (pc := 24) dX12_stolen_24 (by decide) ?_
  refine R_eqi (y := nI (b + 2)) ((nI_div (a := D.length + 15) (b := 16) (by omega) (by omega)).trans (congrArg nI (by omega))) ?_
  refine R_istore_n (pc := 25) (lv' := [(2, .int (nI (b + 2))), (0, .ref 61), (1, .int 0)]) dX12_stolen_25 rfl (by decide) rfl ?_
  refine R_aload_n (pc := 26) 1 dX12_stolen_26 rfl rfl ?_
  refine R_get (pc := 27) dX12_stolen_27 fX12_130 S_5.obj (by omega) rfl ?_
  refine R_eqi (y := nI D.length) (hi3) ?_
  refine R_bipush (pc := 30) (v := 16) dX12_stolen_30 (by decide) ?_
  refine R_iload_n (pc := 32) 0 dX12_stolen_32 rfl rfl ?_
  refine R_iconst (pc := 33) (v := 1) dX12_stolen_33 (by decide) ?_
  refine R_isub (pc := 34) dX12_stolen_34 ?_
  refine R_eqi (y := nI (b + 1)) ((nI_sb (a := b + 2) (b := 1) (by omega)).trans (congrArg nI (by omega))) ?_
  refine R_imul (pc := 35) dX12_stolen_35 ?_
  refine R_eqi (y := nI (16 * (b + 1))) (nI_mul 16 (b + 1)) ?_
  refine R_isub (pc := 36) dX12_stolen_36 ?_
  refine R_eqi (y := nI r) ((nI_sb (a := D.length) (b := 16 * (b + 1)) (by omega)).trans (congrArg nI (by omega))) ?_
  refine R_istore_n (pc := 37) (lv' := [(3, .int (nI r)), (2, .int (nI (b + 2))), (0, .ref 61), (1, .int 0)]) dX12_stolen_37 rfl (by decide) rfl ?_
  refine R_bipush (pc := 38) (v := 16) dX12_stolen_38 (by decide) ?_
  refine R_iload_n (pc := 40) 1 dX12_stolen_40 rfl rfl ?_
  refine R_iconst (pc := 41) (v := 1) dX12_stolen_41 (by decide) ?_
  refine R_isub (pc := 42) dX12_stolen_42 ?_
  refine R_eqi (y := nI (b + 1)) ((nI_sb (a := b + 2) (b := 1) (by omega)).trans (congrArg nI (by omega))) ?_
  refine R_imul (pc := 43) dX12_stolen_43 ?_
  refine R_eqi (y := nI (16 * (b + 1))) (nI_mul 16 (b + 1)) ?_
  refine R_istore (pc := 44) (lv' := [(4, .int (nI (16 * (b + 1)))), (3, .int (nI r)), (2, .int (nI (b + 2))), (0, .ref 61), (1, .int 0)]) dX12_stolen_44 (by decide) rfl ?_
  refine R_aload_n (pc := 46) 3 dX12_stolen_46 rfl rfl ?_
  refine R_aload_n (pc := 47) 3 dX12_stolen_47 rfl rfl ?_
  refine R_get (pc := 48) dX12_stolen_48 fX12_130 S_5.obj (by omega) rfl ?_
  refine R_eqi (y := nI D.length) (hi3) ?_
  refine R_put' (pc := 51) (fs' := [.int (i 0), .ref 62, .ref 63, .int (i 1), .ref 64, .int (i 2), .ref 65, .ref 66, .ref 67, .ref 68, .ref 69, .ref 70, .ref 71, .int (i 3), .ref 72, .int (nI D.length), .ref 73, .int (i 5), .ref 74, .int (i 6), .ref 75, .ref 76, .ref 77, .ref 78, .ref 79, .ref 80, .ref 81, .ref 82, .ref 83, .ref 84, .int (i 7), .ref 85, .ref 86, .ref 87, .ref 88, .ref 89, .ref 90]) dX12_stolen_51 fX12_153 tX12_15 rfl rfl S_5.obj (by omega) (Nat.le_of_ble_eq_true rfl) rfl (fun h_6 f_7 g_8 => ?_)
  have S_9 : MO h_6 (uo ψ 75 (pt (ψ 75) 0 (gt (ψ 73) 0))) z (ui i 4 (nI D.length)) := MO.setI (j := (ui i 4 (nI D.length))) S_5 f_7 g_8
  have F_10 := fmI g_8
  refine R_iload_n (pc := 54) 4 dX12_stolen_54 rfl rfl ?_
  refine R_if_ne (pc := 55) (tgt := 164) dX12_stolen_55 (by decide) (fun c_11 => absurd (rfl) c_11) (fun c_11 => ?_)
  refine R_aload_n (pc := 58) 3 dX12_stolen_58 rfl rfl ?_
  refine R_get (pc := 59) dX12_stolen_59 fX12_41 S_9.obj (by omega) rfl ?_
  refine R_iconst (pc := 62) (v := 0) dX12_stolen_62 (by decide) ?_
  refine R_aload_n (pc := 63) 3 dX12_stolen_63 rfl rfl ?_
  refine R_get (pc := 64) dX12_stolen_64 fX12_44 S_9.obj (by omega) rfl ?_
  refine R_iconst (pc := 67) (v := 0) dX12_stolen_67 (by decide) ?_
  refine R_aload_n (pc := 68) 3 dX12_stolen_68 rfl rfl ?_
  refine R_get (pc := 69) dX12_stolen_69 fX12_130 S_9.obj (by omega) rfl ?_
  refine R_eqi (y := nI D.length) (hi3) ?_
  refine R_callSh (pc := 72) (μ' := mX12_copy) (As := [.ref 71, .int (nI 0), .ref 72, .int (nI 0), .int (nI D.length)]) (st := []) dX12_stolen_72 zX12_copy lX12_133 ⟨by decide, by decide⟩ rfl rfl ⟨by decide, by decide⟩ rfl (Nat.le_of_ble_eq_true rfl) (oX12_copy S_9 hn (p := 71) (q := 72) rfl rfl 0 0 D.length (by show 0 + D.length ≤ 700; omega) (by show 0 + D.length ≤ 700; omega) (by decide)) (fun h_12 r_ q_13 => ?_)
  obtain ⟨rfl, S_14, F_15⟩ := q_13
  have S_16 : MO h_12 (uo (uo ψ 75 (pt (ψ 75) 0 (gt (ψ 73) 0))) 72 (cpB (ψ 71) 0 (ψ 72) 0 D.length)) z (ui i 4 (nI D.length)) := S_14
  refine R_aload_n (pc := 75) 3 dX12_stolen_75 rfl rfl ?_
  refine R_get (pc := 76) dX12_stolen_76 fX12_44 S_16.obj (by omega) rfl ?_
  refine R_aload_n (pc := 79) 3 dX12_stolen_79 rfl rfl ?_
  refine R_get (pc := 80) dX12_stolen_80 fX12_130 S_16.obj (by omega) rfl ?_
  refine R_eqi (y := nI D.length) (hi3) ?_
  refine R_bipush (pc := 83) (v := 16) dX12_stolen_83 (by decide) ?_
  refine R_iload_n (pc := 85) 2 dX12_stolen_85 rfl rfl ?_
  refine R_imul (pc := 86) dX12_stolen_86 ?_
  refine R_eqi (y := nI (16 * (b + 2))) (nI_mul 16 (b + 2)) ?_
  refine R_callSh (pc := 87) (μ' := mX12_clear) (As := [.ref 72, .int (nI D.length), .int (nI (16 * (b + 2)))]) (st := []) dX12_stolen_87 zX12_clear lX12_164 ⟨by decide, by decide⟩ rfl rfl ⟨by decide, by decide⟩ rfl (Nat.le_of_ble_eq_true rfl) (oX12_clear S_16 hn (q := 72) rfl D.length (16 * (b + 2)) (by omega) (by show 16 * (b + 2) ≤ 700; omega)) (fun h_17 r_ q_18 => ?_)
  obtain ⟨rfl, S_19, F_20⟩ := q_18
  have S_21 : MO h_17 (uo (uo ψ 75 (pt (ψ 75) 0 (gt (ψ 73) 0))) 72 (clB (cpB (ψ 71) 0 (ψ 72) 0 D.length) D.length (16 * (b + 2)))) z (ui i 4 (nI D.length)) := by have z_ := S_19; rw [uo_uo] at z_; exact z_
  refine R_aload_n (pc := 90) 3 dX12_stolen_90 rfl rfl ?_
  refine R_iconst (pc := 91) (v := 0) dX12_stolen_91 (by decide) ?_
  refine R_iconst (pc := 92) (v := 0) dX12_stolen_92 (by decide) ?_
  refine R_iload_n (pc := 93) 2 dX12_stolen_93 rfl rfl ?_
  refine R_callVh (pc := 94) (μ' := mX12_chain) (As := [.int (nI 0), .int (nI 0), .int (nI (b + 2))]) (st := []) dX12_stolen_94 zX12_chain lX12_160 ⟨by decide, by decide⟩ rfl rfl ⟨by decide, by decide⟩ S_21.obj (by omega) rfl (Nat.le_of_ble_eq_true rfl) (oX12_chain S_21 hn 0 0 (b + 2) (by omega) ((K0.uo (by decide)).uo (by decide)) D (fun j_ hj_ => by show clB (cpB (ψ 71) 0 (ψ 72) 0 D.length) D.length (16 * (b + 2)) (0 + j_) = og D j_; unfold clB; by_cases q_ : D.length ≤ j_; rw [if_pos (by omega), og_out q_]; rw [if_neg (by omega)]; exact hs.cp (ψ 72) 0 rfl j_ (by omega)) (gt (ψ 73) 0) (gt_pt _ _ _)) (fun h_22 r_ q_23 => ?_)
  obtain ⟨ψ_27, rfl, S_24, K_26, J_28, F_25⟩ := q_23
  have K_29 := ((K0.uo (by decide)).uo (by decide)).fr K_26 (by decide) (by decide) (by decide) (by decide)
  refine R_iconst (pc := 97) (v := 0) dX12_stolen_97 (by decide) ?_
  refine R_istore (pc := 98) (lv' := [(5, .int 0), (4, .int (nI (16 * (b + 1)))), (3, .int (nI r)), (2, .int (nI (b + 2))), (0, .ref 61), (1, .int 0)]) dX12_stolen_98 (by decide) rfl ?_
  have eb : b + 2 = nbk D := by unfold nbk; omega
  have sC : sg (ψ_27 72) 0 (chE F (gt (ψ 73) 0) D) := by have z_ := J_28.2.1; rw [eb] at z_; exact z_
  have lC : (chE F (gt (ψ 73) 0) D).length = 16 * (b + 2) := by unfold chE; rw [stN_len (chS_len F D), eb]
  refine R_sub [0, 1, 2, 3, 4, 5] rfl ?_
  refine qX12_stolen_sw (h := h) (ψ := ψ_27) hn b r (by omega) (fun h2 ψ2 S2 hK hJ hF => ?_) 16 0 (by omega) h_22 _ S_24 (FR.rf _ _) (swB_0 _ _).symm ((((F_4.tr F_10).tr F_15).tr F_20).tr F_25)
  have hy : sg (ψ2 72) 0 (stE (chE F (gt (ψ 73) 0) D) D.length) := by rw [hJ]; exact stE_sg sC lC (by omega) (by omega)
  exact R_vreturn (pc := 163) dX12_stolen_163 rfl (by decide) (by decide) ⟨rfl, ψ2, rfl, S2, (((((FR.rf _ _).up (by decide)).up (by decide)).tr K_26 (by decide)).tr hK (by decide)), hy, hF⟩
set_option maxHeartbeats 4000000 in
set_option maxRecDepth 100000 in
theorem qX12_stolen_a {l : Launch} {w : am_W} {h : am_H} {n : Nat} {ψ : Nat → oA} {z : fA} {i : mI} (hn : 90 ≤ n) (b r : Nat) (hr16 : r ≤ 16) (hb : 16 * (b + 2) ≤ 700) {Q : am_H → Nat → Option Value → Prop} (kk : ∀ h2 ψ2, MO h2 ψ2 z i → FR [72, 76] ψ ψ2 → ψ2 72 = pgB (fun j => ψ 76 j ^^^ ψ 71 (16 * (b + 1) + j)) (ψ 72) (16 * (b + 1)) r ∧ ψ2 76 = pgB (fun j => ψ 71 (16 * (b + 1) + j)) (ψ 76) 0 r → FM h h2 → RW l w mX12_stolen h2 n 0 0 260 [(5, .int (nI r)), (4, .int (nI (16 * (b + 1)))), (3, .int (nI r)), (2, .int (nI (b + 2))), (0, .ref 61), (1, .int 1)] [] Q) : ∀ (dd k : Nat), k + dd = r → ∀ h2 ψ2, MO h2 ψ2 z i → FR [72, 76] ψ ψ2 → ψ2 72 = pgB (fun j => ψ 76 j ^^^ ψ 71 (16 * (b + 1) + j)) (ψ 72) (16 * (b + 1)) k ∧ ψ2 76 = pgB (fun j => ψ 71 (16 * (b + 1) + j)) (ψ 76) 0 k → FM h h2 → RW l w mX12_stolen h2 n 0 0 203 [(5, .int (nI k)), (4, .int (nI (16 * (b + 1)))), (3, .int (nI r)), (2, .int (nI (b + 2))), (0, .ref 61), (1, .int 1)] [] Q := by
  intro dd
  induction dd with
  | zero =>
    intro k hd h2 ψ2 S2 hK hJ hF
    refine R_iload (pc := 203) 0 dX12_stolen_203 rfl ?_
    refine R_iload_n (pc := 205) 2 dX12_stolen_205 rfl rfl ?_
    refine R_icmp_ge (pc := 206) (tgt := 260) dX12_stolen_206 (by decide) (fun c_1 => ?_) (fun c_1 => absurd (nI_le (a := r) (b := k) (by omega) (by omega)) c_1)
    obtain rfl : k = r := by omega
    exact kk h2 ψ2 S2 hK hJ hF
  | succ dd ih =>
    intro k hd h2 ψ2 S2 hK hJ hF
    refine R_iload (pc := 203) 0 dX12_stolen_203 rfl ?_
    refine R_iload_n (pc := 205) 2 dX12_stolen_205 rfl rfl ?_
    refine R_icmp_ge (pc := 206) (tgt := 260) dX12_stolen_206 (by decide) (fun c_1 => absurd c_1 (nI_ge (a := k) (b := r) (by omega) (by omega))) (fun c_1 => ?_)
    refine R_aload_n (pc := 209) 4 dX12_stolen_209 rfl rfl ?_
    refine R_get (pc := 210) dX12_stolen_210 fX12_44 S2.obj (by omega) rfl ?_
    refine R_iload (pc := 213) 1 dX12_stolen_213 rfl ?_
    refine R_iload (pc := 215) 0 dX12_stolen_215 rfl ?_
    refine R_iadd (pc := 217) dX12_stolen_217 ?_
    refine R_eqi (y := nI (16 * (b + 1) + k)) (nI_add (16 * (b + 1)) k) ?_
    refine R_aload_n (pc := 218) 4 dX12_stolen_218 rfl rfl ?_
    refine R_get (pc := 219) dX12_stolen_219 fX12_56 S2.obj (by omega) rfl ?_
    refine R_iload (pc := 222) 0 dX12_stolen_222 rfl ?_
    refine R_iald' (pc := 224) (j := k) dX12_stolen_224 (S2.arr (p := 76) rfl) (by omega) ⟨rfl, by show k < 16; omega, by decide⟩ ?_
    refine R_eqi (y := oc (ψ2 76 k)) rfl ?_
    refine R_aload_n (pc := 225) 4 dX12_stolen_225 rfl rfl ?_
    refine R_get (pc := 226) dX12_stolen_226 fX12_41 S2.obj (by omega) rfl ?_
    refine R_iload (pc := 229) 1 dX12_stolen_229 rfl ?_
    refine R_iload (pc := 231) 0 dX12_stolen_231 rfl ?_
    refine R_iadd (pc := 233) dX12_stolen_233 ?_
    refine R_eqi (y := nI (16 * (b + 1) + k)) (nI_add (16 * (b + 1)) k) ?_
    refine R_iald' (pc := 234) (j := 16 * (b + 1) + k) dX12_stolen_234 (S2.arr (p := 71) rfl) (by omega) ⟨rfl, by show 16 * (b + 1) + k < 700; omega, by decide⟩ ?_
    refine R_eqi (y := oc (ψ2 71 (16 * (b + 1) + k))) rfl ?_
    refine R_ixor (pc := 235) dX12_stolen_235 ?_
    refine R_eqi (y := oc ((ψ2 76 k) ^^^ (ψ2 71 (16 * (b + 1) + k)))) (oc_xor _ _) ?_
    refine R_iast' (pc := 236) (j := 16 * (b + 1) + k) dX12_stolen_236 (S2.arr (p := 72) rfl) (by omega) ⟨rfl, by show 16 * (b + 1) + k < 700; omega, by decide⟩ (fun h_2 f_3 g_4 => ?_)
    have S_6 : MO h_2 (uo ψ2 72 (updB (ψ2 72) (16 * (b + 1) + k) ((ψ2 76 k) ^^^ (ψ2 71 (16 * (b + 1) + k))))) z i := MO.setA (p := 72) S2 rfl f_3 g_4 (fun j_ => congrFun (upd_oc _ _ _) j_)
    have F_5 := fmA (p := 72) (okA_c (by decide)).1 g_4
    refine R_aload_n (pc := 237) 4 dX12_stolen_237 rfl rfl ?_
    refine R_get (pc := 238) dX12_stolen_238 fX12_56 S_6.obj (by omega) rfl ?_
    refine R_iload (pc := 241) 0 dX12_stolen_241 rfl ?_
    refine R_aload_n (pc := 243) 4 dX12_stolen_243 rfl rfl ?_
    refine R_get (pc := 244) dX12_stolen_244 fX12_41 S_6.obj (by omega) rfl ?_
    refine R_iload (pc := 247) 1 dX12_stolen_247 rfl ?_
    refine R_iload (pc := 249) 0 dX12_stolen_249 rfl ?_
    refine R_iadd (pc := 251) dX12_stolen_251 ?_
    refine R_eqi (y := nI (16 * (b + 1) + k)) (nI_add (16 * (b + 1)) k) ?_
    refine R_iald' (pc := 252) (j := 16 * (b + 1) + k) dX12_stolen_252 (S_6.arr (p := 71) rfl) (by omega) ⟨rfl, by show 16 * (b + 1) + k < 700; omega, by decide⟩ ?_
    refine R_eqi (y := oc (ψ2 71 (16 * (b + 1) + k))) rfl ?_
    refine R_iast' (pc := 253) (j := k) dX12_stolen_253 (S_6.arr (p := 76) rfl) (by omega) ⟨rfl, by show k < 16; omega, by decide⟩ (fun h_7 f_8 g_9 => ?_)
    have S_11 : MO h_7 (uo (uo ψ2 72 (updB (ψ2 72) (16 * (b + 1) + k) ((ψ2 76 k) ^^^ (ψ2 71 (16 * (b + 1) + k))))) 76 (updB (ψ2 76) k (ψ2 71 (16 * (b + 1) + k)))) z i := MO.setA (p := 76) S_6 rfl f_8 g_9 (fun j_ => congrFun (upd_oc _ _ _) j_)
    have F_10 := fmA (p := 76) (okA_c (by decide)).1 g_9
    refine R_iinc (pc := 254) (j := 0) (v := nI (k + 1)) (lv' := [(5, .int (nI (k + 1))), (4, .int (nI (16 * (b + 1)))), (3, .int (nI r)), (2, .int (nI (b + 2))), (0, .ref 61), (1, .int 1)]) dX12_stolen_254 rfl (nI_add _ _) (by decide) rfl ?_
    refine R_goto (pc := 257) (tgt := 203) dX12_stolen_257 (by decide) ?_
    refine R_sub [0, 1, 2, 3, 4, 5] rfl ?_
    have e71 : ψ2 71 = ψ 71 := hK 71 (by decide)
    have j1 : updB (ψ2 72) (16 * (b + 1) + k) ((ψ2 76 k) ^^^ (ψ2 71 (16 * (b + 1) + k))) = pgB (fun j => ψ 76 j ^^^ ψ 71 (16 * (b + 1) + j)) (ψ 72) (16 * (b + 1)) (k + 1) := by rw [hJ.1]; exact pgB_up _ _ rfl (by rw [hJ.2, e71, pgB_out _ _ (by omega)])
    have j2 : updB (ψ2 76) k (ψ2 71 (16 * (b + 1) + k)) = pgB (fun j => ψ 71 (16 * (b + 1) + j)) (ψ 76) 0 (k + 1) := by rw [hJ.2]; exact pgB_up _ _ (by omega) (by rw [e71])
    exact ih (k + 1) (by omega) h_7 _ S_11 ((hK.up (by decide)).up (by decide)) (⟨j1, j2⟩) (hF.tr (F_5.tr F_10))
set_option maxHeartbeats 4000000 in
set_option maxRecDepth 100000 in
theorem qX12_stolen_b {l : Launch} {w : am_W} {h : am_H} {n : Nat} {ψ : Nat → oA} {z : fA} {i : mI} (hn : 90 ≤ n) (b r : Nat) (hb : 16 * (b + 2) ≤ 700) {Q : am_H → Nat → Option Value → Prop} (kk : ∀ h2 ψ2, MO h2 ψ2 z i → FR [72] ψ ψ2 → ψ2 72 = pgB (fun j => ψ 76 j ^^^ ψ 75 j) (ψ 72) (16 * b) 16 → FM h h2 → RW l w mX12_stolen h2 n 0 0 314 [(5, .int (nI 16)), (4, .int (nI (16 * (b + 1)))), (3, .int (nI r)), (2, .int (nI (b + 2))), (0, .ref 61), (1, .int 1)] [] Q) : ∀ (dd k : Nat), k + dd = 16 → ∀ h2 ψ2, MO h2 ψ2 z i → FR [72] ψ ψ2 → ψ2 72 = pgB (fun j => ψ 76 j ^^^ ψ 75 j) (ψ 72) (16 * b) k → FM h h2 → RW l w mX12_stolen h2 n 0 0 273 [(5, .int (nI k)), (4, .int (nI (16 * (b + 1)))), (3, .int (nI r)), (2, .int (nI (b + 2))), (0, .ref 61), (1, .int 1)] [] Q := by
  intro dd
  induction dd with
  | zero =>
    intro k hd h2 ψ2 S2 hK hJ hF
    refine R_iload (pc := 273) 0 dX12_stolen_273 rfl ?_
    refine R_bipush (pc := 275) (v := 16) dX12_stolen_275 (by decide) ?_
    refine R_icmp_ge (pc := 277) (tgt := 314) dX12_stolen_277 (by decide) (fun c_1 => ?_) (fun c_1 => absurd (nI_le (a := 16) (b := k) (by omega) (by omega)) c_1)
    obtain rfl : k = 16 := by omega
    exact kk h2 ψ2 S2 hK hJ hF
  | succ dd ih =>
    intro k hd h2 ψ2 S2 hK hJ hF
    refine R_iload (pc := 273) 0 dX12_stolen_273 rfl ?_
    refine R_bipush (pc := 275) (v := 16) dX12_stolen_275 (by decide) ?_
    refine R_icmp_ge (pc := 277) (tgt := 314) dX12_stolen_277 (by decide) (fun c_1 => absurd c_1 (nI_ge (a := k) (b := 16) (by omega) (by omega))) (fun c_1 => ?_)
    refine R_aload_n (pc := 280) 4 dX12_stolen_280 rfl rfl ?_
    refine R_get (pc := 281) dX12_stolen_281 fX12_44 S2.obj (by omega) rfl ?_
    refine R_iload (pc := 284) 1 dX12_stolen_284 rfl ?_
    refine R_bipush (pc := 286) (v := 16) dX12_stolen_286 (by decide) ?_
    refine R_isub (pc := 288) dX12_stolen_288 ?_
    refine R_eqi (y := nI (16 * b)) ((nI_sb (a := 16 * (b + 1)) (b := 16) (by omega)).trans (congrArg nI (by omega))) ?_
    refine R_iload (pc := 289) 0 dX12_stolen_289 rfl ?_
    refine R_iadd (pc := 291) dX12_stolen_291 ?_
    refine R_eqi (y := nI (16 * b + k)) (nI_add (16 * b) k) ?_
    refine R_aload_n (pc := 292) 4 dX12_stolen_292 rfl rfl ?_
    refine R_get (pc := 293) dX12_stolen_293 fX12_56 S2.obj (by omega) rfl ?_
    refine R_iload (pc := 296) 0 dX12_stolen_296 rfl ?_
    refine R_iald' (pc := 298) (j := k) dX12_stolen_298 (S2.arr (p := 76) rfl) (by omega) ⟨rfl, by show k < 16; omega, by decide⟩ ?_
    refine R_eqi (y := oc (ψ2 76 k)) rfl ?_
    refine R_aload_n (pc := 299) 4 dX12_stolen_299 rfl rfl ?_
    refine R_get (pc := 300) dX12_stolen_300 fX12_53 S2.obj (by omega) rfl ?_
    refine R_iload (pc := 303) 0 dX12_stolen_303 rfl ?_
    refine R_iald' (pc := 305) (j := k) dX12_stolen_305 (S2.arr (p := 75) rfl) (by omega) ⟨rfl, by show k < 16; omega, by decide⟩ ?_
    refine R_eqi (y := oc (ψ2 75 k)) rfl ?_
    refine R_ixor (pc := 306) dX12_stolen_306 ?_
    refine R_eqi (y := oc ((ψ2 76 k) ^^^ (ψ2 75 k))) (oc_xor _ _) ?_
    refine R_iast' (pc := 307) (j := 16 * b + k) dX12_stolen_307 (S2.arr (p := 72) rfl) (by omega) ⟨rfl, by show 16 * b + k < 700; omega, by decide⟩ (fun h_2 f_3 g_4 => ?_)
    have S_6 : MO h_2 (uo ψ2 72 (updB (ψ2 72) (16 * b + k) ((ψ2 76 k) ^^^ (ψ2 75 k)))) z i := MO.setA (p := 72) S2 rfl f_3 g_4 (fun j_ => congrFun (upd_oc _ _ _) j_)
    have F_5 := fmA (p := 72) (okA_c (by decide)).1 g_4
    refine R_iinc (pc := 308) (j := 0) (v := nI (k + 1)) (lv' := [(5, .int (nI (k + 1))), (4, .int (nI (16 * (b + 1)))), (3, .int (nI r)), (2, .int (nI (b + 2))), (0, .ref 61), (1, .int 1)]) dX12_stolen_308 rfl (nI_add _ _) (by decide) rfl ?_
    refine R_goto (pc := 311) (tgt := 273) dX12_stolen_311 (by decide) ?_
    refine R_sub [0, 1, 2, 3, 4, 5] rfl ?_
    have e75 : ψ2 75 = ψ 75 := hK 75 (by decide)
    have e76 : ψ2 76 = ψ 76 := hK 76 (by decide)
    have j1 : updB (ψ2 72) (16 * b + k) ((ψ2 76 k) ^^^ (ψ2 75 k)) = pgB (fun j => ψ 76 j ^^^ ψ 75 j) (ψ 72) (16 * b) (k + 1) := by rw [hJ]; exact pgB_up _ _ rfl (by rw [e75, e76])
    exact ih (k + 1) (by omega) h_2 _ S_6 (hK.up (by decide)) (j1) (hF.tr F_5)
theorem stN_cg {f g : Nat → bP → bP × List (BitVec 8)} {x : bP} : ∀ k, (∀ i y, i < k → f i y = g i y) → stN f x k = stN g x k
  | 0, _ => rfl
  | k + 1, h => by
    show ((f k (stN f x k).1).1, (stN f x k).2 ++ (f k (stN f x k).1).2) = ((g k (stN g x k).1).1, (stN g x k).2 ++ (g k (stN g x k).1).2)
    rw [stN_cg k (fun i y hi => h i y (by omega)), h k _ (by omega)]
theorem og_sl (L : List (BitVec 8)) (b : Nat) {t j : Nat} (h : j < t) : og (sl L b t) j = og L (b + j) := by
  unfold sl
  unfold og
  rw [List.getD_eq_getElem?_getD, List.getElem?_map, List.getElem?_range h]
  rfl
theorem rd_cg {L M : List (BitVec 8)} {a b : Nat} (h : ∀ k, k < 16 → og L (a + k) = og M (b + k)) : rd L a = rd M b := ob_ext fun k hk => by
  rw [ob_rd _ _ hk, ob_rd _ _ hk, h k hk]
theorem rd_bt (A B : List (BitVec 8)) (q : bP) {a : Nat} (ha : a = A.length) : rd (A ++ bt q 16 ++ B) a = q := ob_ext fun k hk => by
  rw [ob_rd _ _ hk, og_app_l (by rw [List.length_append, bt_len]; omega), og_app_r (by omega), og_bt _ (by omega)]
  congr 1
  omega
theorem rd_bt2 (A : List (BitVec 8)) (q : bP) {a : Nat} (ha : a = A.length) : rd (A ++ bt q 16) a = q := ob_ext fun k hk => by
  rw [ob_rd _ _ hk, og_app_r (by omega), og_bt _ (by omega)]
  congr 1
  omega
/-- the stolen end, opened: what the reference writes -/
theorem stT_sg {f g : oA} {G : bP → bP} {x : bP} {D : List (BitVec 8)} {b r : Nat} (hr1 : 1 ≤ r) (hr16 : r ≤ 16) (hL : D.length = 16 * (b + 1) + r) {c d : bP} (hf : sg f 0 (stN (ucS G D) x b).2) (hc : c = xb (rd D (16 * (b + 1))) (df (G (rd D (16 * b))) (nI r))) (h1 : ∀ j, j < r → g (16 * (b + 1) + j) = ob (G (rd D (16 * b))) j ^^^ og D (16 * (b + 1) + j)) (h2 : ∀ j, j < 16 → g (16 * b + j) = ob (G c) j ^^^ ob (stN (ucS G D) x b).1 j) (h3 : ∀ j, j < 16 * b → g j = f j) : sg g 0 ((chD G x (stT G D)).take D.length) := by
  have la : (D.length - 1) / 16 * 16 = 16 * (b + 1) := by omega
  have eT : stT G D = sl D 0 (16 * b) ++ bt c 16 ++ bt (rd D (16 * b)) 16 := by
    unfold stT
    rw [la]
    show sl D 0 (16 * (b + 1) - 16) ++ bt (xb (rd D (16 * (b + 1))) (df (G (rd D (16 * (b + 1) - 16))) (nI (D.length - 16 * (b + 1))))) 16 ++ bt (rd D (16 * (b + 1) - 16)) 16 = _
    rw [hL, show 16 * (b + 1) + r - 16 * (b + 1) = r by omega, show 16 * (b + 1) - 16 = 16 * b by omega, ← hc]
  have lT : (stT G D).length = 16 * (b + 2) := by rw [eT, List.length_append, List.length_append, sl_len, bt_len, bt_len]; omega
  have nT : nbk (stT G D) = b + 1 + 1 := by unfold nbk; rw [lT]; omega
  have e0 : stN (ucS G (stT G D)) x b = stN (ucS G D) x b := stN_cg b (fun i y hi => by
    unfold ucS
    rw [show rd (stT G D) (16 * i) = rd D (16 * i) from rd_cg (fun k hk => by rw [eT, List.append_assoc, og_app_l (by rw [sl_len]; omega), og_sl _ _ (by omega), Nat.zero_add])])
  have rb : rd (stT G D) (16 * b) = c := by rw [eT]; exact rd_bt _ _ _ (by rw [sl_len])
  have rb1 : rd (stT G D) (16 * (b + 1)) = rd D (16 * b) := by rw [eT]; exact rd_bt2 _ _ (by rw [List.length_append, sl_len, bt_len]; omega)
  have eC : chD G x (stT G D) = ((stN (ucS G D) x b).2 ++ bt (xb (G c) (stN (ucS G D) x b).1) 16) ++ bt (xb (G (rd D (16 * b))) c) 16 := by
    unfold chD
    rw [nT]
    show ((stN (ucS G (stT G D)) x b).2 ++ (ucS G (stT G D) b (stN (ucS G (stT G D)) x b).1).2) ++ (ucS G (stT G D) (b + 1) (ucS G (stT G D) b (stN (ucS G (stT G D)) x b).1).1).2 = _
    rw [e0]
    show ((stN (ucS G D) x b).2 ++ bt (xb (G (rd (stT G D) (16 * b))) (stN (ucS G D) x b).1) 16) ++ bt (xb (G (rd (stT G D) (16 * (b + 1)))) (rd (stT G D) (16 * b))) 16 = _
    rw [rb, rb1]
  have l0 : (stN (ucS G D) x b).2.length = 16 * b := stN_len (ucS_len G D) b
  intro j hj
  rw [List.length_take, eC, List.length_append, List.length_append, l0, bt_len, bt_len] at hj
  rw [og_take _ (by omega), eC, Nat.zero_add]
  by_cases a : j < 16 * b
  · rw [og_app_l (by rw [List.length_append, l0, bt_len]; omega), og_app_l (by omega), h3 j a, ← hf j (by omega), Nat.zero_add]
  · by_cases a2 : j < 16 * (b + 1)
    · rw [og_app_l (by rw [List.length_append, l0, bt_len]; omega), og_app_r (by omega), l0, og_bt _ (by omega), ob_xb _ _ (by omega)]
      have := h2 (j - 16 * b) (by omega)
      rw [show 16 * b + (j - 16 * b) = j by omega] at this
      exact this
    · rw [og_app_r (by rw [List.length_append, l0, bt_len]; omega), List.length_append, l0, bt_len, og_bt _ (by omega), ob_xb _ _ (by omega)]
      have := h1 (j - 16 * (b + 1)) (by omega)
      rw [show 16 * (b + 1) + (j - 16 * (b + 1)) = j by omega] at this
      rw [this, show j - (16 * b + 16) = j - 16 * (b + 1) by omega, hc, ob_xb _ _ (by omega), ob_rd _ _ (by omega), ob_df _ (by omega) (by omega), if_pos (by omega), show 16 * (b + 1) + (j - 16 * (b + 1)) = j by omega]
      simp
set_option maxHeartbeats 4000000 in
set_option maxRecDepth 100000 in
theorem oX12_stolen_o {l : Launch} {w : am_W} {h : am_H} {n : Nat} {ψ : Nat → oA} {z : fA} {i : mI} (S : MO h ψ z i) (hn : 90 ≤ n) (D : List (BitVec 8)) (b r : Nat) (hr1 : 1 ≤ r) (hr16 : r ≤ 16) (hL : D.length = 16 * (b + 1) + r) (hD : D.length ≤ 512) (hi3 : i 3 = nI D.length) {F G : bP → bP} (K0 : Kh ψ 0 F G) (hs : sg (ψ 71) 0 D) : RH l w mX12_stolen h n [.ref 61, .int 1] (fun h2 q => ∃ ψ2, q = none ∧ MO h2 ψ2 z (ui i 4 (nI D.length)) ∧ FR [72, 75, 76] ψ ψ2 ∧ sg (ψ2 72) 0 ((chD G (gt (ψ 73) 0) (stT G D)).take D.length) ∧ FM h h2) := by
  refine RC.of [(0, .ref 61), (1, .int 1)] (by decide +kernel) rfl (Nat.le_of_ble_eq_true rfl) ?_
  refine R_aload_n (pc := 0) 0 dX12_stolen_0 rfl rfl ?_
  refine R_get (pc := 1) dX12_stolen_1 fX12_47 S.obj (by omega) rfl ?_
  refine R_iconst (pc := 4) (v := 0) dX12_stolen_4 (by decide) ?_
  refine R_aload_n (pc := 5) 0 dX12_stolen_5 rfl rfl ?_
  refine R_get (pc := 6) dX12_stolen_6 fX12_53 S.obj (by omega) rfl ?_
  refine R_iconst (pc := 9) (v := 0) dX12_stolen_9 (by decide) ?_
  refine R_bipush (pc := 10) (v := 16) dX12_stolen_10 (by decide) ?_
  refine R_callSh (pc := 12) (μ' := mX12_copy) (As := [.ref 73, .int (nI 0), .ref 75, .int (nI 0), .int 16]) (st := []) dX12_stolen_12 zX12_copy lX12_133 ⟨by decide, by decide⟩ rfl rfl ⟨by decide, by decide⟩ rfl (Nat.le_of_ble_eq_true rfl) (oX12_copy16 S hn (p := 73) (q := 75) rfl rfl 0 0 (by show 0 + 16 ≤ 64; omega) (by show 0 + 16 ≤ 16; omega) (by decide)) (fun h_1 r_ q_2 => ?_)
  obtain ⟨rfl, S_3, F_4⟩ := q_2
  have S_5 : MO h_1 (uo ψ 75 (pt (ψ 75) 0 (gt (ψ 73) 0))) z i := S_3
  refine R_aload_n (pc := 15) 0 dX12_stolen_15 rfl rfl ?_
  refine R_get (pc := 16) dX12_stolen_16 fX12_130 S_5.obj (by omega) rfl ?_
  refine R_eqi (y := nI D.length) (hi3) ?_
  refine R_bipush (pc := 19) (v := 15) dX12_stolen_19 (by decide) ?_
  refine R_iadd (pc := 21) dX12_stolen_21 ?_
  refine R_eqi (y := nI (D.length + 15)) (nI_add D.length 15) ?_
  refine R_bipush (pc := 22) (v := 16) dX12_stolen_22 (by decide) ?_
  refine R_idiv (pc := 24) dX12_stolen_24 (by decide) ?_
  refine R_eqi (y := nI (b + 2)) ((nI_div (a := D.length + 15) (b := 16) (by omega) (by omega)).trans (congrArg nI (by omega))) ?_
  refine R_istore_n (pc := 25) (lv' := [(2, .int (nI (b + 2))), (0, .ref 61), (1, .int 1)]) dX12_stolen_25 rfl (by decide) rfl ?_
  refine R_aload_n (pc := 26) 1 dX12_stolen_26 rfl rfl ?_
  refine R_get (pc := 27) dX12_stolen_27 fX12_130 S_5.obj (by omega) rfl ?_
  refine R_eqi (y := nI D.length) (hi3) ?_
  refine R_bipush (pc := 30) (v := 16) dX12_stolen_30 (by decide) ?_
  refine R_iload_n (pc := 32) 0 dX12_stolen_32 rfl rfl ?_
  refine R_iconst (pc := 33) (v := 1) dX12_stolen_33 (by decide) ?_
  refine R_isub (pc := 34) dX12_stolen_34 ?_
  refine R_eqi (y := nI (b + 1)) ((nI_sb (a := b + 2) (b := 1) (by omega)).trans (congrArg nI (by omega))) ?_
  refine R_imul (pc := 35) dX12_stolen_35 ?_
  refine R_eqi (y := nI (16 * (b + 1))) (nI_mul 16 (b + 1)) ?_
  refine R_isub (pc := 36) dX12_stolen_36 ?_
  refine R_eqi (y := nI r) ((nI_sb (a := D.length) (b := 16 * (b + 1)) (by omega)).trans (congrArg nI (by omega))) ?_
  refine R_istore_n (pc := 37) (lv' := [(3, .int (nI r)), (2, .int (nI (b + 2))), (0, .ref 61), (1, .int 1)]) dX12_stolen_37 rfl (by decide) rfl ?_
  refine R_bipush (pc := 38) (v := 16) dX12_stolen_38 (by decide) ?_
  refine R_iload_n (pc := 40) 1 dX12_stolen_40 rfl rfl ?_
  refine R_iconst (pc := 41) (v := 1) dX12_stolen_41 (by decide) ?_
  refine R_isub (pc := 42) dX12_stolen_42 ?_
  refine R_eqi (y := nI (b + 1)) ((nI_sb (a := b + 2) (b := 1) (by omega)).trans (congrArg nI (by omega))) ?_
  refine R_imul (pc := 43) dX12_stolen_43 ?_
  refine R_eqi (y := nI (16 * (b + 1))) (nI_mul 16 (b + 1)) ?_
  refine R_istore (pc := 44) (lv' := [(4, .int (nI (16 * (b + 1)))), (3, .int (nI r)), (2, .int (nI (b + 2))), (0, .ref 61), (1, .int 1)]) dX12_stolen_44 (by decide) rfl ?_
  refine R_aload_n (pc := 46) 3 dX12_stolen_46 rfl rfl ?_
  refine R_aload_n (pc := 47) 3 dX12_stolen_47 rfl rfl ?_
  refine R_get (pc := 48) dX12_stolen_48 fX12_130 S_5.obj (by omega) rfl ?_
  refine R_eqi (y := nI D.length) (hi3) ?_
  refine R_put' (pc := 51) (fs' := [.int (i 0), .ref 62, .ref 63, .int (i 1), .ref 64, .int (i 2), .ref 65, .ref 66, .ref 67, .ref 68, .ref 69, .ref 70, .ref 71, .int (i 3), .ref 72, .int (nI D.length), .ref 73, .int (i 5), .ref 74, .int (i 6), .ref 75, .ref 76, .ref 77, .ref 78, .ref 79, .ref 80, .ref 81, .ref 82, .ref 83, .ref 84, .int (i 7), .ref 85, .ref 86, .ref 87, .ref 88, .ref 89, .ref 90]) dX12_stolen_51 fX12_153 tX12_15 rfl rfl S_5.obj (by omega) (Nat.le_of_ble_eq_true rfl) rfl (fun h_6 f_7 g_8 => ?_)
  have S_9 : MO h_6 (uo ψ 75 (pt (ψ 75) 0 (gt (ψ 73) 0))) z (ui i 4 (nI D.length)) := MO.setI (j := (ui i 4 (nI D.length))) S_5 f_7 g_8
  have F_10 := fmI g_8
  refine R_iload_n (pc := 54) 4 dX12_stolen_54 rfl rfl ?_
  refine R_if_ne (pc := 55) (tgt := 164) dX12_stolen_55 (by decide) (fun c_11 => ?_) (fun c_11 => absurd c_11 (by decide))
  refine R_aload_n (pc := 164) 3 dX12_stolen_164 rfl rfl ?_
  refine R_iload_n (pc := 165) 2 dX12_stolen_165 rfl rfl ?_
  refine R_iconst (pc := 166) (v := 2) dX12_stolen_166 (by decide) ?_
  refine R_isub (pc := 167) dX12_stolen_167 ?_
  refine R_eqi (y := nI b) ((nI_sb (a := b + 2) (b := 2) (by omega)).trans (congrArg nI (by omega))) ?_
  refine R_callVh (pc := 168) (μ' := mX12_unchain) (As := [.int (nI b)]) (st := []) dX12_stolen_168 zX12_unchain lX12_156 ⟨by decide, by decide⟩ rfl rfl ⟨by decide, by decide⟩ S_9.obj (by omega) rfl (Nat.le_of_ble_eq_true rfl) (oX12_unchain S_9 hn b (by omega) (K0.uo (by decide)) D (by omega) hs (gt (ψ 73) 0) (gt_pt _ _ _)) (fun h_12 r_ q_13 => ?_)
  obtain ⟨ψ_17, rfl, S_14, K_16, J_18, F_15⟩ := q_13
  have K_19 := (K0.uo (by decide)).fr K_16 (by decide) (by decide) (by decide) (by decide)
  refine R_aload_n (pc := 171) 3 dX12_stolen_171 rfl rfl ?_
  refine R_get (pc := 172) dX12_stolen_172 fX12_41 S_14.obj (by omega) rfl ?_
  refine R_iload (pc := 175) 0 dX12_stolen_175 rfl ?_
  refine R_bipush (pc := 177) (v := 16) dX12_stolen_177 (by decide) ?_
  refine R_isub (pc := 179) dX12_stolen_179 ?_
  refine R_eqi (y := nI (16 * b)) ((nI_sb (a := 16 * (b + 1)) (b := 16) (by omega)).trans (congrArg nI (by omega))) ?_
  refine R_aload_n (pc := 180) 3 dX12_stolen_180 rfl rfl ?_
  refine R_get (pc := 181) dX12_stolen_181 fX12_56 S_14.obj (by omega) rfl ?_
  refine R_iconst (pc := 184) (v := 0) dX12_stolen_184 (by decide) ?_
  refine R_bipush (pc := 185) (v := 16) dX12_stolen_185 (by decide) ?_
  refine R_callSh (pc := 187) (μ' := mX12_copy) (As := [.ref 71, .int (nI (16 * b)), .ref 76, .int (nI 0), .int 16]) (st := []) dX12_stolen_187 zX12_copy lX12_133 ⟨by decide, by decide⟩ rfl rfl ⟨by decide, by decide⟩ rfl (Nat.le_of_ble_eq_true rfl) (oX12_copy16 S_14 hn (p := 71) (q := 76) rfl rfl (16 * b) 0 (by show 16 * b + 16 ≤ 700; omega) (by show 0 + 16 ≤ 16; omega) (by decide)) (fun h_20 r_ q_21 => ?_)
  obtain ⟨rfl, S_22, F_23⟩ := q_21
  have S_24 : MO h_20 (uo ψ_17 76 (pt (ψ_17 76) 0 (gt (ψ_17 71) (16 * b)))) z (ui i 4 (nI D.length)) := S_22
  refine R_aload_n (pc := 190) 3 dX12_stolen_190 rfl rfl ?_
  refine R_iconst (pc := 191) (v := 0) dX12_stolen_191 (by decide) ?_
  refine R_aload_n (pc := 192) 3 dX12_stolen_192 rfl rfl ?_
  refine R_get (pc := 193) dX12_stolen_193 fX12_56 S_24.obj (by omega) rfl ?_
  refine R_iconst (pc := 196) (v := 0) dX12_stolen_196 (by decide) ?_
  refine R_callVh (pc := 197) (μ' := mX12_openBlock) (As := [.int (nI 0), .ref 76, .int (nI 0)]) (st := []) dX12_stolen_197 zX12_openBlock lX12_150 ⟨by decide, by decide⟩ rfl rfl ⟨by decide, by decide⟩ S_24.obj (by omega) rfl (Nat.le_of_ble_eq_true rfl) (oX12_openBlock S_24 hn (K_19.uo (by decide)) (p := 76) rfl 0 (by show 0 + 16 ≤ 16; omega)) (fun h_25 r_ q_26 => ?_)
  obtain ⟨rfl, S_27, F_28⟩ := q_26
  have S_29 : MO h_25 (uo ψ_17 76 (pt (pt (ψ_17 76) 0 (gt (ψ_17 71) (16 * b))) 0 (G (gt (pt (ψ_17 76) 0 (gt (ψ_17 71) (16 * b))) 0)))) z (ui i 4 (nI D.length)) := by have z_ := S_27; rw [uo_uo] at z_; exact z_
  refine R_iconst (pc := 200) (v := 0) dX12_stolen_200 (by decide) ?_
  refine R_istore (pc := 201) (lv' := [(5, .int 0), (4, .int (nI (16 * (b + 1)))), (3, .int (nI r)), (2, .int (nI (b + 2))), (0, .ref 61), (1, .int 1)]) dX12_stolen_201 (by decide) rfl ?_
  have sU := J_18.2
  have rU := J_18.1
  have e71 : ψ_17 71 = ψ 71 := (show FR [72, 75, 76] ψ _ from (((FR.rf _ _).up (by decide)).tr K_16 (by decide))) 71 (by decide)
  have eD : gt (ψ_17 71) (16 * b) = rd D (16 * b) := by rw [e71, hs.rd (by omega), Nat.zero_add]
  have eO : ∀ j, j < 16 → (pt (pt (ψ_17 76) 0 (gt (ψ_17 71) (16 * b))) 0 (G (gt (pt (ψ_17 76) 0 (gt (ψ_17 71) (16 * b))) 0))) j = ob (G (rd D (16 * b))) j := fun j_ hj_ => by simp only [gt_pt, pt_pt]; rw [pt_at0 _ _ hj_, eD]
  obtain ⟨one_, e1⟩ : ∃ f_ : oA, f_ = pt (pt (ψ_17 76) 0 (gt (ψ_17 71) (16 * b))) 0 (G (gt (pt (ψ_17 76) 0 (gt (ψ_17 71) (16 * b))) 0)) := ⟨_, rfl⟩
  rw [← e1] at S_29 eO
  refine R_sub [0, 1, 2, 3, 4, 5] rfl ?_
  refine qX12_stolen_a (h := h) (ψ := (uo ψ_17 76 one_)) hn b r hr16 (by omega) (fun h2 ψ2 S2 hK hJ hF => ?_) r 0 (by omega) h_25 _ S_29 (FR.rf _ _) ⟨(pgB_0 _ _ _).symm, (pgB_0 _ _ _).symm⟩ ((((F_4.tr F_10).tr F_15).tr F_23).tr F_28)
  have K_30 := (K_19.uo (by decide)).fr hK (by decide) (by decide) (by decide) (by decide)
  have y2 : ψ2 72 = pgB (fun j => one_ j ^^^ ψ_17 71 (16 * (b + 1) + j)) (ψ_17 72) (16 * (b + 1)) r := hJ.1
  have o2 : ψ2 76 = pgB (fun j => ψ_17 71 (16 * (b + 1) + j)) one_ 0 r := hJ.2
  have r2 : ψ2 75 = ψ_17 75 := hK 75 (by decide)
  refine R_aload_n (pc := 260) 4 dX12_stolen_260 rfl rfl ?_
  refine R_iconst (pc := 261) (v := 0) dX12_stolen_261 (by decide) ?_
  refine R_aload_n (pc := 262) 4 dX12_stolen_262 rfl rfl ?_
  refine R_get (pc := 263) dX12_stolen_263 fX12_56 S2.obj (by omega) rfl ?_
  refine R_iconst (pc := 266) (v := 0) dX12_stolen_266 (by decide) ?_
  refine R_callVh (pc := 267) (μ' := mX12_openBlock) (As := [.int (nI 0), .ref 76, .int (nI 0)]) (st := []) dX12_stolen_267 zX12_openBlock lX12_150 ⟨by decide, by decide⟩ rfl rfl ⟨by decide, by decide⟩ S2.obj (by omega) rfl (Nat.le_of_ble_eq_true rfl) (oX12_openBlock S2 hn K_30 (p := 76) rfl 0 (by show 0 + 16 ≤ 16; omega)) (fun h_31 r_ q_32 => ?_)
  obtain ⟨rfl, S_33, F_34⟩ := q_32
  have S_35 : MO h_31 (uo ψ2 76 (pt (ψ2 76) 0 (G (gt (ψ2 76) 0)))) z (ui i 4 (nI D.length)) := S_33
  refine R_iconst (pc := 270) (v := 0) dX12_stolen_270 (by decide) ?_
  refine R_istore (pc := 271) (lv' := [(5, .int 0), (4, .int (nI (16 * (b + 1)))), (3, .int (nI r)), (2, .int (nI (b + 2))), (0, .ref 61), (1, .int 1)]) dX12_stolen_271 (by decide) rfl ?_
  have eo : gt (ψ2 76) 0 = xb (rd D (16 * (b + 1))) (df (G (rd D (16 * b))) (nI r)) := ob_ext fun k_ hk_ => by
    rw [ob_gt _ _ hk_, Nat.zero_add, ob_xb _ _ hk_, ob_rd _ _ hk_, ob_df _ hr16 hk_, o2, e71]
    by_cases q_ : k_ < r
    · rw [pgB_in _ _ (by omega) (by omega), if_pos q_, Nat.sub_zero]
      have := hs (16 * (b + 1) + k_) (by omega)
      rw [Nat.zero_add] at this
      rw [this]; simp
    · rw [pgB_out _ _ (by omega), if_neg q_, eO _ hk_, og_out (by omega)]; simp
  refine R_sub [0, 1, 2, 3, 4, 5] rfl ?_
  refine qX12_stolen_b (h := h) (ψ := (uo ψ2 76 (pt (ψ2 76) 0 (G (gt (ψ2 76) 0))))) hn b r (by omega) (fun h3 ψ3 S3 hK3 hJ3 hF3 => ?_) 16 0 (by omega) h_31 _ S_35 (FR.rf _ _) (pgB_0 _ _ _).symm (hF.tr F_34)
  have y3 : ψ3 72 = pgB (fun j => (pt (ψ2 76) 0 (G (gt (ψ2 76) 0))) j ^^^ ψ2 75 j) (ψ2 72) (16 * b) 16 := hJ3
  have hy : sg (ψ3 72) 0 ((chD G (gt (ψ 73) 0) (stT G D)).take D.length) := by
    refine stT_sg (f := ψ_17 72) (c := gt (ψ2 76) 0) (d := (0, 0)) hr1 hr16 hL sU eo (fun j_ hj_ => ?_) (fun j_ hj_ => ?_) (fun j_ hj_ => ?_)
    · rw [y3, pgB_out _ _ (by omega), y2, pgB_in _ _ (by omega) (by omega), show 16 * (b + 1) + j_ - 16 * (b + 1) = j_ by omega, eO _ (by omega), e71]
      have := hs (16 * (b + 1) + j_) (by omega)
      rw [Nat.zero_add] at this
      rw [this]
    · rw [y3, pgB_in _ _ (by omega) (by omega), show 16 * b + j_ - 16 * b = j_ by omega, pt_at0 _ _ hj_, r2, ← rU, ob_gt _ _ hj_, Nat.zero_add]
    · rw [y3, pgB_out _ _ (by omega), y2, pgB_out _ _ (by omega)]
  exact R_vreturn (pc := 314) dX12_stolen_314 rfl (by decide) (by decide) ⟨rfl, ψ3, rfl, S3, (((((((FR.rf _ _).up (by decide)).tr K_16 (by decide)).up (by decide)).tr hK (by decide)).up (by decide)).tr hK3 (by decide)), hy, hF3⟩
