def ofsJ (F G : bP → bP) (op : Bool) (D : List (BitVec 8)) (q0 : bP) (ψ2 : Nat → oA) (k : Nat) : Prop := gt (ψ2 88) 0 = (osN F G op (dbl (F (0, 0))) D q0 k).1 ∧ gt (ψ2 79) 0 = (osN F G op (dbl (F (0, 0))) D q0 k).2.1 ∧ sg (ψ2 72) 0 (osN F G op (dbl (F (0, 0))) D q0 k).2.2
set_option maxHeartbeats 1000000 in
set_option maxRecDepth 100000 in
theorem qX12_offsets_s {l : Launch} {w : am_W} {h : am_H} {n : Nat} {ψ : Nat → oA} {z : fA} {i : mI} (hn : 90 ≤ n) (D : List (BitVec 8)) (b r : Nat) (hL : D.length = 16 * b + r) (hr : r < 16) (hD : D.length ≤ 512) {F G : bP → bP} (K0 : Kh ψ 0 F G) (q0 : bP) (hsD : sg (ψ 71) 0 D) (hls : ∀ m, m < 10 → gt (ψ 87) (16 * m) = dbN m (F (0, 0))) {Q : am_H → Nat → Option Value → Prop} (kk : ∀ h2 ψ2, MO h2 ψ2 z i → FR [72, 79, 88] ψ ψ2 → ofsJ F G false D q0 ψ2 b → FM h h2 → RW l w mX12_offsets h2 n 0 0 180 [(4, .int (nI (b + 1))), (3, .int (nI b)), (0, .ref 61), (1, .int 0), (2, .int (nI D.length))] [] Q) : ∀ (dd k : Nat), k + dd = b → ∀ h2 ψ2, MO h2 ψ2 z i → FR [72, 79, 88] ψ ψ2 → ofsJ F G false D q0 ψ2 k → FM h h2 → RW l w mX12_offsets h2 n 0 0 30 [(4, .int (nI (k + 1))), (3, .int (nI b)), (0, .ref 61), (1, .int 0), (2, .int (nI D.length))] [] Q := by
  intro dd
  induction dd with
  | zero =>
    intro k hd h2 ψ2 S2 hK hJ hF
    refine R_iload (pc := 30) 0 dX12_offsets_30 rfl ?_
    refine R_iload_n (pc := 32) 1 dX12_offsets_32 rfl rfl ?_
    refine R_icmp_gt (pc := 33) (tgt := 180) dX12_offsets_33 (by decide) (fun c_1 => ?_) (fun c_1 => absurd (nI_lt (a := b) (b := k + 1) (by omega) (by omega)) c_1)
    obtain rfl : k = b := by omega
    exact kk h2 ψ2 S2 hK hJ hF
  | succ dd ih =>
    intro k hd h2 ψ2 S2 hK hJ hF
    have K0_2 := K0.fr hK (by decide) (by decide) (by decide) (by decide)
    have htz := tz_le (k + 1) (by omega)
    refine R_iload (pc := 30) 0 dX12_offsets_30 rfl ?_
    refine R_iload_n (pc := 32) 1 dX12_offsets_32 rfl rfl ?_
    refine R_icmp_gt (pc := 33) (tgt := 180) dX12_offsets_33 (by decide) (fun c_1 => absurd c_1 (nI_nlt (a := b) (b := k + 1) (by omega) (by omega))) (fun c_1 => ?_)
    refine R_bipush (pc := 36) (v := 16) dX12_offsets_36 (by decide) ?_
    refine R_iload (pc := 38) 0 dX12_offsets_38 rfl ?_
    refine R_iconst (pc := 40) (v := 1) dX12_offsets_40 (by decide) ?_
    refine R_isub (pc := 41) dX12_offsets_41 ?_
    refine R_eqi (y := nI k) ((nI_sb (a := k + 1) (b := 1) (by omega)).trans (congrArg nI (by omega))) ?_
    refine R_imul (pc := 42) dX12_offsets_42 ?_
    refine R_eqi (y := nI (16 * k)) (nI_mul 16 k) ?_
    refine R_istore (pc := 43) (lv' := [(5, .int (nI (16 * k))), (4, .int (nI (k + 1))), (3, .int (nI b)), (0, .ref 61), (1, .int 0), (2, .int (nI D.length))]) dX12_offsets_43 (by decide) rfl ?_
    refine R_aload_n (pc := 45) 3 dX12_offsets_45 rfl rfl ?_
    refine R_get (pc := 46) dX12_offsets_46 fX12_89 S2.obj (by omega) rfl ?_
    refine R_bipush (pc := 49) (v := 16) dX12_offsets_49 (by decide) ?_
    refine R_iconst (pc := 51) (v := 2) dX12_offsets_51 (by decide) ?_
    refine R_iload (pc := 52) 1 dX12_offsets_52 rfl ?_
    refine R_callSp (pc := 54) (μ' := mX12_twos) (As := [.int (nI (k + 1))]) (st := [.int 2, .int 16, .ref 87]) dX12_offsets_54 zX12_twos lX12_223 ⟨by decide, by decide⟩ rfl rfl ⟨by decide, by decide⟩ rfl (Nat.le_of_ble_eq_true rfl) (qX12_twos l w _ _ (i := k + 1) (by omega) (by omega)) ?_
    refine R_iadd (pc := 57) dX12_offsets_57 ?_
    refine R_eqi (y := nI (2 + (tzG 7 (k + 1)))) (nI_add 2 (tzG 7 (k + 1))) ?_
    refine R_imul (pc := 58) dX12_offsets_58 ?_
    refine R_eqi (y := nI (16 * (2 + (tzG 7 (k + 1))))) (nI_mul 16 (2 + (tzG 7 (k + 1)))) ?_
    refine R_aload_n (pc := 59) 3 dX12_offsets_59 rfl rfl ?_
    refine R_get (pc := 60) dX12_offsets_60 fX12_92 S2.obj (by omega) rfl ?_
    refine R_iconst (pc := 63) (v := 0) dX12_offsets_63 (by decide) ?_
    refine R_bipush (pc := 64) (v := 16) dX12_offsets_64 (by decide) ?_
    refine R_callSh (pc := 66) (μ' := mX12_add) (As := [.ref 87, .int (nI (16 * (2 + (tzG 7 (k + 1))))), .ref 88, .int (nI 0), .int 16]) (st := []) dX12_offsets_66 zX12_add lX12_143 ⟨by decide, by decide⟩ rfl rfl ⟨by decide, by decide⟩ rfl (Nat.le_of_ble_eq_true rfl) (oX12_add16 S2 hn (p := 87) (q := 88) rfl rfl (16 * (2 + (tzG 7 (k + 1)))) 0 (by show 16 * (2 + (tzG 7 (k + 1))) + 16 ≤ 160; omega) (by show 0 + 16 ≤ 16; omega) (by decide)) (fun h_2 r_ q_3 => ?_)
    obtain ⟨rfl, S_4, F_5⟩ := q_3
    have S_6 : MO h_2 (uo ψ2 88 (pt (ψ2 88) 0 (xb (gt (ψ2 88) 0) (gt (ψ2 87) (16 * (2 + (tzG 7 (k + 1)))))))) z i := S_4
    refine R_aload_n (pc := 69) 3 dX12_offsets_69 rfl rfl ?_
    refine R_get (pc := 70) dX12_offsets_70 fX12_41 S_6.obj (by omega) rfl ?_
    refine R_iload (pc := 73) 0 dX12_offsets_73 rfl ?_
    refine R_aload_n (pc := 75) 3 dX12_offsets_75 rfl rfl ?_
    refine R_get (pc := 76) dX12_offsets_76 fX12_44 S_6.obj (by omega) rfl ?_
    refine R_iload (pc := 79) 0 dX12_offsets_79 rfl ?_
    refine R_bipush (pc := 81) (v := 16) dX12_offsets_81 (by decide) ?_
    refine R_callSh (pc := 83) (μ' := mX12_copy) (As := [.ref 71, .int (nI (16 * k)), .ref 72, .int (nI (16 * k)), .int 16]) (st := []) dX12_offsets_83 zX12_copy lX12_133 ⟨by decide, by decide⟩ rfl rfl ⟨by decide, by decide⟩ rfl (Nat.le_of_ble_eq_true rfl) (oX12_copy16 S_6 hn (p := 71) (q := 72) rfl rfl (16 * k) (16 * k) (by show 16 * k + 16 ≤ 700; omega) (by show 16 * k + 16 ≤ 700; omega) (by decide)) (fun h_7 r_ q_8 => ?_)
    obtain ⟨rfl, S_9, F_10⟩ := q_8
    have S_11 : MO h_7 (uo (uo ψ2 88 (pt (ψ2 88) 0 (xb (gt (ψ2 88) 0) (gt (ψ2 87) (16 * (2 + (tzG 7 (k + 1)))))))) 72 (pt (ψ2 72) (16 * k) (gt (ψ2 71) (16 * k)))) z i := S_9
    refine R_aload_n (pc := 86) 3 dX12_offsets_86 rfl rfl ?_
    refine R_get (pc := 87) dX12_offsets_87 fX12_92 S_11.obj (by omega) rfl ?_
    refine R_iconst (pc := 90) (v := 0) dX12_offsets_90 (by decide) ?_
    refine R_aload_n (pc := 91) 3 dX12_offsets_91 rfl rfl ?_
    refine R_get (pc := 92) dX12_offsets_92 fX12_44 S_11.obj (by omega) rfl ?_
    refine R_iload (pc := 95) 0 dX12_offsets_95 rfl ?_
    refine R_bipush (pc := 97) (v := 16) dX12_offsets_97 (by decide) ?_
    refine R_callSh (pc := 99) (μ' := mX12_add) (As := [.ref 88, .int (nI 0), .ref 72, .int (nI (16 * k)), .int 16]) (st := []) dX12_offsets_99 zX12_add lX12_143 ⟨by decide, by decide⟩ rfl rfl ⟨by decide, by decide⟩ rfl (Nat.le_of_ble_eq_true rfl) (oX12_add16 S_11 hn (p := 88) (q := 72) rfl rfl 0 (16 * k) (by show 0 + 16 ≤ 16; omega) (by show 16 * k + 16 ≤ 700; omega) (by decide)) (fun h_12 r_ q_13 => ?_)
    obtain ⟨rfl, S_14, F_15⟩ := q_13
    have S_16 : MO h_12 (uo (uo ψ2 88 (pt (ψ2 88) 0 (xb (gt (ψ2 88) 0) (gt (ψ2 87) (16 * (2 + (tzG 7 (k + 1)))))))) 72 (pt (pt (ψ2 72) (16 * k) (gt (ψ2 71) (16 * k))) (16 * k) (xb (gt (pt (ψ2 72) (16 * k) (gt (ψ2 71) (16 * k))) (16 * k)) (gt (pt (ψ2 88) 0 (xb (gt (ψ2 88) 0) (gt (ψ2 87) (16 * (2 + (tzG 7 (k + 1))))))) 0)))) z i := by have z_ := S_14; rw [uo_uo] at z_; exact z_
    refine R_iload_n (pc := 102) 4 dX12_offsets_102 rfl rfl ?_
    refine R_if_eq (pc := 103) (tgt := 120) dX12_offsets_103 (by decide) (fun c_17 => ?_) (fun c_17 => absurd (rfl) c_17)
    refine R_aload_n (pc := 120) 3 dX12_offsets_120 rfl rfl ?_
    refine R_iconst (pc := 121) (v := 0) dX12_offsets_121 (by decide) ?_
    refine R_aload_n (pc := 122) 3 dX12_offsets_122 rfl rfl ?_
    refine R_get (pc := 123) dX12_offsets_123 fX12_44 S_16.obj (by omega) rfl ?_
    refine R_iload (pc := 126) 0 dX12_offsets_126 rfl ?_
    refine R_callVh (pc := 128) (μ' := mX12_sealBlock) (As := [.int (nI 0), .ref 72, .int (nI (16 * k))]) (st := []) dX12_offsets_128 zX12_sealBlock lX12_146 ⟨by decide, by decide⟩ rfl rfl ⟨by decide, by decide⟩ S_16.obj (by omega) rfl (Nat.le_of_ble_eq_true rfl) (oX12_sealBlock S_16 hn ((K0_2.uo (by decide)).uo (by decide)) (p := 72) rfl (16 * k) (by show 16 * k + 16 ≤ 700; omega)) (fun h_18 r_ q_19 => ?_)
    obtain ⟨rfl, S_20, F_21⟩ := q_19
    have S_22 : MO h_18 (uo (uo ψ2 88 (pt (ψ2 88) 0 (xb (gt (ψ2 88) 0) (gt (ψ2 87) (16 * (2 + (tzG 7 (k + 1)))))))) 72 (pt (pt (pt (ψ2 72) (16 * k) (gt (ψ2 71) (16 * k))) (16 * k) (xb (gt (pt (ψ2 72) (16 * k) (gt (ψ2 71) (16 * k))) (16 * k)) (gt (pt (ψ2 88) 0 (xb (gt (ψ2 88) 0) (gt (ψ2 87) (16 * (2 + (tzG 7 (k + 1))))))) 0))) (16 * k) (F (gt (pt (pt (ψ2 72) (16 * k) (gt (ψ2 71) (16 * k))) (16 * k) (xb (gt (pt (ψ2 72) (16 * k) (gt (ψ2 71) (16 * k))) (16 * k)) (gt (pt (ψ2 88) 0 (xb (gt (ψ2 88) 0) (gt (ψ2 87) (16 * (2 + (tzG 7 (k + 1))))))) 0))) (16 * k))))) z i := by have z_ := S_20; rw [uo_uo] at z_; exact z_
    refine R_aload_n (pc := 131) 3 dX12_offsets_131 rfl rfl ?_
    refine R_get (pc := 132) dX12_offsets_132 fX12_92 S_22.obj (by omega) rfl ?_
    refine R_iconst (pc := 135) (v := 0) dX12_offsets_135 (by decide) ?_
    refine R_aload_n (pc := 136) 3 dX12_offsets_136 rfl rfl ?_
    refine R_get (pc := 137) dX12_offsets_137 fX12_44 S_22.obj (by omega) rfl ?_
    refine R_iload (pc := 140) 0 dX12_offsets_140 rfl ?_
    refine R_bipush (pc := 142) (v := 16) dX12_offsets_142 (by decide) ?_
    refine R_callSh (pc := 144) (μ' := mX12_add) (As := [.ref 88, .int (nI 0), .ref 72, .int (nI (16 * k)), .int 16]) (st := []) dX12_offsets_144 zX12_add lX12_143 ⟨by decide, by decide⟩ rfl rfl ⟨by decide, by decide⟩ rfl (Nat.le_of_ble_eq_true rfl) (oX12_add16 S_22 hn (p := 88) (q := 72) rfl rfl 0 (16 * k) (by show 0 + 16 ≤ 16; omega) (by show 16 * k + 16 ≤ 700; omega) (by decide)) (fun h_23 r_ q_24 => ?_)
    obtain ⟨rfl, S_25, F_26⟩ := q_24
    have S_27 : MO h_23 (uo (uo ψ2 88 (pt (ψ2 88) 0 (xb (gt (ψ2 88) 0) (gt (ψ2 87) (16 * (2 + (tzG 7 (k + 1)))))))) 72 (pt (pt (pt (pt (ψ2 72) (16 * k) (gt (ψ2 71) (16 * k))) (16 * k) (xb (gt (pt (ψ2 72) (16 * k) (gt (ψ2 71) (16 * k))) (16 * k)) (gt (pt (ψ2 88) 0 (xb (gt (ψ2 88) 0) (gt (ψ2 87) (16 * (2 + (tzG 7 (k + 1))))))) 0))) (16 * k) (F (gt (pt (pt (ψ2 72) (16 * k) (gt (ψ2 71) (16 * k))) (16 * k) (xb (gt (pt (ψ2 72) (16 * k) (gt (ψ2 71) (16 * k))) (16 * k)) (gt (pt (ψ2 88) 0 (xb (gt (ψ2 88) 0) (gt (ψ2 87) (16 * (2 + (tzG 7 (k + 1))))))) 0))) (16 * k)))) (16 * k) (xb (gt (pt (pt (pt (ψ2 72) (16 * k) (gt (ψ2 71) (16 * k))) (16 * k) (xb (gt (pt (ψ2 72) (16 * k) (gt (ψ2 71) (16 * k))) (16 * k)) (gt (pt (ψ2 88) 0 (xb (gt (ψ2 88) 0) (gt (ψ2 87) (16 * (2 + (tzG 7 (k + 1))))))) 0))) (16 * k) (F (gt (pt (pt (ψ2 72) (16 * k) (gt (ψ2 71) (16 * k))) (16 * k) (xb (gt (pt (ψ2 72) (16 * k) (gt (ψ2 71) (16 * k))) (16 * k)) (gt (pt (ψ2 88) 0 (xb (gt (ψ2 88) 0) (gt (ψ2 87) (16 * (2 + (tzG 7 (k + 1))))))) 0))) (16 * k)))) (16 * k)) (gt (pt (ψ2 88) 0 (xb (gt (ψ2 88) 0) (gt (ψ2 87) (16 * (2 + (tzG 7 (k + 1))))))) 0)))) z i := by have z_ := S_25; rw [uo_uo] at z_; exact z_
    refine R_iload_n (pc := 147) 4 dX12_offsets_147 rfl rfl ?_
    refine R_if_eq (pc := 148) (tgt := 158) dX12_offsets_148 (by decide) (fun c_28 => ?_) (fun c_28 => absurd (rfl) c_28)
    refine R_aload_n (pc := 158) 3 dX12_offsets_158 rfl rfl ?_
    refine R_get (pc := 159) dX12_offsets_159 fX12_41 S_27.obj (by omega) rfl ?_
    refine R_iload (pc := 162) 0 dX12_offsets_162 rfl ?_
    refine R_aload_n (pc := 164) 3 dX12_offsets_164 rfl rfl ?_
    refine R_get (pc := 165) dX12_offsets_165 fX12_65 S_27.obj (by omega) rfl ?_
    refine R_iconst (pc := 168) (v := 0) dX12_offsets_168 (by decide) ?_
    refine R_bipush (pc := 169) (v := 16) dX12_offsets_169 (by decide) ?_
    refine R_callSh (pc := 171) (μ' := mX12_add) (As := [.ref 71, .int (nI (16 * k)), .ref 79, .int (nI 0), .int 16]) (st := []) dX12_offsets_171 zX12_add lX12_143 ⟨by decide, by decide⟩ rfl rfl ⟨by decide, by decide⟩ rfl (Nat.le_of_ble_eq_true rfl) (oX12_add16 S_27 hn (p := 71) (q := 79) rfl rfl (16 * k) 0 (by show 16 * k + 16 ≤ 700; omega) (by show 0 + 16 ≤ 16; omega) (by decide)) (fun h_29 r_ q_30 => ?_)
    obtain ⟨rfl, S_31, F_32⟩ := q_30
    have S_33 : MO h_29 (uo (uo (uo ψ2 88 (pt (ψ2 88) 0 (xb (gt (ψ2 88) 0) (gt (ψ2 87) (16 * (2 + (tzG 7 (k + 1)))))))) 72 (pt (pt (pt (pt (ψ2 72) (16 * k) (gt (ψ2 71) (16 * k))) (16 * k) (xb (gt (pt (ψ2 72) (16 * k) (gt (ψ2 71) (16 * k))) (16 * k)) (gt (pt (ψ2 88) 0 (xb (gt (ψ2 88) 0) (gt (ψ2 87) (16 * (2 + (tzG 7 (k + 1))))))) 0))) (16 * k) (F (gt (pt (pt (ψ2 72) (16 * k) (gt (ψ2 71) (16 * k))) (16 * k) (xb (gt (pt (ψ2 72) (16 * k) (gt (ψ2 71) (16 * k))) (16 * k)) (gt (pt (ψ2 88) 0 (xb (gt (ψ2 88) 0) (gt (ψ2 87) (16 * (2 + (tzG 7 (k + 1))))))) 0))) (16 * k)))) (16 * k) (xb (gt (pt (pt (pt (ψ2 72) (16 * k) (gt (ψ2 71) (16 * k))) (16 * k) (xb (gt (pt (ψ2 72) (16 * k) (gt (ψ2 71) (16 * k))) (16 * k)) (gt (pt (ψ2 88) 0 (xb (gt (ψ2 88) 0) (gt (ψ2 87) (16 * (2 + (tzG 7 (k + 1))))))) 0))) (16 * k) (F (gt (pt (pt (ψ2 72) (16 * k) (gt (ψ2 71) (16 * k))) (16 * k) (xb (gt (pt (ψ2 72) (16 * k) (gt (ψ2 71) (16 * k))) (16 * k)) (gt (pt (ψ2 88) 0 (xb (gt (ψ2 88) 0) (gt (ψ2 87) (16 * (2 + (tzG 7 (k + 1))))))) 0))) (16 * k)))) (16 * k)) (gt (pt (ψ2 88) 0 (xb (gt (ψ2 88) 0) (gt (ψ2 87) (16 * (2 + (tzG 7 (k + 1))))))) 0)))) 79 (pt (ψ2 79) 0 (xb (gt (ψ2 79) 0) (gt (ψ2 71) (16 * k))))) z i := S_31
    refine R_iinc (pc := 174) (j := 1) (v := nI (k + 1 + 1)) (lv' := [(4, .int (nI (k + 1 + 1))), (5, .int (nI (16 * k))), (3, .int (nI b)), (0, .ref 61), (1, .int 0), (2, .int (nI D.length))]) dX12_offsets_174 rfl (nI_add (k + 1) 1) (by decide) rfl ?_
    refine R_goto (pc := 177) (tgt := 30) dX12_offsets_177 (by decide) ?_
    refine R_sub [0, 2, 3, 4, 5] rfl ?_
    have eL : gt (ψ2 87) (16 * (2 + tzG 7 (k + 1))) = mvZ (nI (k + 1)) (dbl (dbl (F (0, 0)))) := by rw [hK 87 (by decide)]; exact mv_ls hls (by omega) (by omega)
    have eA : gt (ψ2 71) (16 * k) = rd D (16 * k) := by rw [hK 71 (by decide)]; exact gt_of fun k_ hk_ => sg0 hsD (by omega)
    have j1 : gt (pt (ψ2 88) 0 (xb (gt (ψ2 88) 0) (gt (ψ2 87) (16 * (2 + (tzG 7 (k + 1))))))) 0 = (osN F G false (dbl (F (0, 0))) D q0 (k + 1)).1 := by rw [gt_pt, hJ.1, eL]; rfl
    have eL2 : (osN F G false (dbl (F (0, 0))) D q0 k).2.2.length = 16 * k := osN_len _ _ _ _ _ _ _
    have j2 : gt (pt (ψ2 79) 0 (xb (gt (ψ2 79) 0) (gt (ψ2 71) (16 * k)))) 0 = (osN F G false (dbl (F (0, 0))) D q0 (k + 1)).2.1 := by
      simp only [gt_pt, pt_pt]
      rw [hJ.2.1, eA]
      rfl
    have j3 : sg (pt (pt (pt (pt (ψ2 72) (16 * k) (gt (ψ2 71) (16 * k))) (16 * k) (xb (gt (pt (ψ2 72) (16 * k) (gt (ψ2 71) (16 * k))) (16 * k)) (gt (pt (ψ2 88) 0 (xb (gt (ψ2 88) 0) (gt (ψ2 87) (16 * (2 + (tzG 7 (k + 1))))))) 0))) (16 * k) (F (gt (pt (pt (ψ2 72) (16 * k) (gt (ψ2 71) (16 * k))) (16 * k) (xb (gt (pt (ψ2 72) (16 * k) (gt (ψ2 71) (16 * k))) (16 * k)) (gt (pt (ψ2 88) 0 (xb (gt (ψ2 88) 0) (gt (ψ2 87) (16 * (2 + (tzG 7 (k + 1))))))) 0))) (16 * k)))) (16 * k) (xb (gt (pt (pt (pt (ψ2 72) (16 * k) (gt (ψ2 71) (16 * k))) (16 * k) (xb (gt (pt (ψ2 72) (16 * k) (gt (ψ2 71) (16 * k))) (16 * k)) (gt (pt (ψ2 88) 0 (xb (gt (ψ2 88) 0) (gt (ψ2 87) (16 * (2 + (tzG 7 (k + 1))))))) 0))) (16 * k) (F (gt (pt (pt (ψ2 72) (16 * k) (gt (ψ2 71) (16 * k))) (16 * k) (xb (gt (pt (ψ2 72) (16 * k) (gt (ψ2 71) (16 * k))) (16 * k)) (gt (pt (ψ2 88) 0 (xb (gt (ψ2 88) 0) (gt (ψ2 87) (16 * (2 + (tzG 7 (k + 1))))))) 0))) (16 * k)))) (16 * k)) (gt (pt (ψ2 88) 0 (xb (gt (ψ2 88) 0) (gt (ψ2 87) (16 * (2 + (tzG 7 (k + 1))))))) 0))) 0 (osN F G false (dbl (F (0, 0))) D q0 (k + 1)).2.2 := by
      simp only [gt_pt, pt_pt]
      rw [hJ.1, eL, eA]
      exact hJ.2.2.pt _ (by rw [eL2, Nat.zero_add]) rfl
    exact ih (k + 1) (by omega) h_29 _ S_33 (((hK.up (by decide)).up (by decide)).up (by decide)) (⟨j1, j2, j3⟩) (hF.tr (((((F_5.tr F_10).tr F_15).tr F_21).tr F_26).tr F_32))
set_option maxHeartbeats 1000000 in
set_option maxRecDepth 100000 in
theorem qX12_offsets_rs {l : Launch} {w : am_W} {h : am_H} {n : Nat} {ψ : Nat → oA} {z : fA} {i : mI} (hn : 90 ≤ n) (D : List (BitVec 8)) (b r : Nat) (hL : D.length = 16 * b + r) (hr : r < 16) (hD : D.length ≤ 512) {Q : am_H → Nat → Option Value → Prop} (kk : ∀ h2 ψ2, MO h2 ψ2 z i → FR [72, 79] ψ ψ2 → ψ2 72 = pgB (fun j => ψ 71 (16 * b + j) ^^^ ψ 76 j) (ψ 72) (16 * b) r ∧ ψ2 79 = pgB (fun j => ψ 79 j ^^^ ψ 71 (16 * b + j)) (ψ 79) 0 r → FM h h2 → RW l w mX12_offsets h2 n 0 0 322 [(5, .int (nI r)), (4, .int (nI r)), (3, .int (nI b)), (0, .ref 61), (1, .int 0), (2, .int (nI D.length))] [] Q) : ∀ (dd k : Nat), k + dd = r → ∀ h2 ψ2, MO h2 ψ2 z i → FR [72, 79] ψ ψ2 → ψ2 72 = pgB (fun j => ψ 71 (16 * b + j) ^^^ ψ 76 j) (ψ 72) (16 * b) k ∧ ψ2 79 = pgB (fun j => ψ 79 j ^^^ ψ 71 (16 * b + j)) (ψ 79) 0 k → FM h h2 → RW l w mX12_offsets h2 n 0 0 236 [(5, .int (nI k)), (4, .int (nI r)), (3, .int (nI b)), (0, .ref 61), (1, .int 0), (2, .int (nI D.length))] [] Q := by
  intro dd
  induction dd with
  | zero =>
    intro k hd h2 ψ2 S2 hK hJ hF
    refine R_iload (pc := 236) 0 dX12_offsets_236 rfl ?_
    refine R_iload (pc := 238) 1 dX12_offsets_238 rfl ?_
    refine R_icmp_ge (pc := 240) (tgt := 322) dX12_offsets_240 (by decide) (fun c_1 => ?_) (fun c_1 => absurd (nI_le (a := r) (b := k) (by omega) (by omega)) c_1)
    obtain rfl : k = r := by omega
    exact kk h2 ψ2 S2 hK hJ hF
  | succ dd ih =>
    intro k hd h2 ψ2 S2 hK hJ hF
    refine R_iload (pc := 236) 0 dX12_offsets_236 rfl ?_
    refine R_iload (pc := 238) 1 dX12_offsets_238 rfl ?_
    refine R_icmp_ge (pc := 240) (tgt := 322) dX12_offsets_240 (by decide) (fun c_1 => absurd c_1 (nI_ge (a := k) (b := r) (by omega) (by omega))) (fun c_1 => ?_)
    refine R_aload_n (pc := 243) 3 dX12_offsets_243 rfl rfl ?_
    refine R_get (pc := 244) dX12_offsets_244 fX12_44 S2.obj (by omega) rfl ?_
    refine R_bipush (pc := 247) (v := 16) dX12_offsets_247 (by decide) ?_
    refine R_iload_n (pc := 249) 2 dX12_offsets_249 rfl rfl ?_
    refine R_imul (pc := 250) dX12_offsets_250 ?_
    refine R_eqi (y := nI (16 * b)) (nI_mul 16 b) ?_
    refine R_iload (pc := 251) 0 dX12_offsets_251 rfl ?_
    refine R_iadd (pc := 253) dX12_offsets_253 ?_
    refine R_eqi (y := nI (16 * b + k)) (nI_add (16 * b) k) ?_
    refine R_aload_n (pc := 254) 3 dX12_offsets_254 rfl rfl ?_
    refine R_get (pc := 255) dX12_offsets_255 fX12_41 S2.obj (by omega) rfl ?_
    refine R_bipush (pc := 258) (v := 16) dX12_offsets_258 (by decide) ?_
    refine R_iload_n (pc := 260) 2 dX12_offsets_260 rfl rfl ?_
    refine R_imul (pc := 261) dX12_offsets_261 ?_
    refine R_eqi (y := nI (16 * b)) (nI_mul 16 b) ?_
    refine R_iload (pc := 262) 0 dX12_offsets_262 rfl ?_
    refine R_iadd (pc := 264) dX12_offsets_264 ?_
    refine R_eqi (y := nI (16 * b + k)) (nI_add (16 * b) k) ?_
    refine R_iald' (pc := 265) (j := 16 * b + k) dX12_offsets_265 (S2.arr (p := 71) rfl) (by omega) ⟨rfl, by show 16 * b + k < 700; omega, by decide⟩ ?_
    refine R_eqi (y := oc (ψ2 71 (16 * b + k))) rfl ?_
    refine R_aload_n (pc := 266) 3 dX12_offsets_266 rfl rfl ?_
    refine R_get (pc := 267) dX12_offsets_267 fX12_56 S2.obj (by omega) rfl ?_
    refine R_iload (pc := 270) 0 dX12_offsets_270 rfl ?_
    refine R_iald' (pc := 272) (j := k) dX12_offsets_272 (S2.arr (p := 76) rfl) (by omega) ⟨rfl, by show k < 16; omega, by decide⟩ ?_
    refine R_eqi (y := oc (ψ2 76 k)) rfl ?_
    refine R_ixor (pc := 273) dX12_offsets_273 ?_
    refine R_eqi (y := oc ((ψ2 71 (16 * b + k)) ^^^ (ψ2 76 k))) (oc_xor _ _) ?_
    refine R_iast' (pc := 274) (j := 16 * b + k) dX12_offsets_274 (S2.arr (p := 72) rfl) (by omega) ⟨rfl, by show 16 * b + k < 700; omega, by decide⟩ (fun h_2 f_3 g_4 => ?_)
    have S_6 : MO h_2 (uo ψ2 72 (updB (ψ2 72) (16 * b + k) ((ψ2 71 (16 * b + k)) ^^^ (ψ2 76 k)))) z i := MO.setA (p := 72) S2 rfl f_3 g_4 (fun j_ => congrFun (upd_oc _ _ _) j_)
    have F_5 := fmA (p := 72) (okA_c (by decide)).1 g_4
    refine R_aload_n (pc := 275) 3 dX12_offsets_275 rfl rfl ?_
    refine R_get (pc := 276) dX12_offsets_276 fX12_65 S_6.obj (by omega) rfl ?_
    refine R_iload (pc := 279) 0 dX12_offsets_279 rfl ?_
    refine R_dup2 (pc := 281) dX12_offsets_281 rfl rfl ?_
    refine R_iald' (pc := 282) (j := k) dX12_offsets_282 (S_6.arr (p := 79) rfl) (by omega) ⟨rfl, by show k < 16; omega, by decide⟩ ?_
    refine R_eqi (y := oc (ψ2 79 k)) rfl ?_
    refine R_iload_n (pc := 283) 4 dX12_offsets_283 rfl rfl ?_
    refine R_if_eq (pc := 284) (tgt := 302) dX12_offsets_284 (by decide) (fun c_7 => ?_) (fun c_7 => absurd (rfl) c_7)
    refine R_aload_n (pc := 302) 3 dX12_offsets_302 rfl rfl ?_
    refine R_get (pc := 303) dX12_offsets_303 fX12_41 S_6.obj (by omega) rfl ?_
    refine R_bipush (pc := 306) (v := 16) dX12_offsets_306 (by decide) ?_
    refine R_iload_n (pc := 308) 2 dX12_offsets_308 rfl rfl ?_
    refine R_imul (pc := 309) dX12_offsets_309 ?_
    refine R_eqi (y := nI (16 * b)) (nI_mul 16 b) ?_
    refine R_iload (pc := 310) 0 dX12_offsets_310 rfl ?_
    refine R_iadd (pc := 312) dX12_offsets_312 ?_
    refine R_eqi (y := nI (16 * b + k)) (nI_add (16 * b) k) ?_
    refine R_iald' (pc := 313) (j := 16 * b + k) dX12_offsets_313 (S_6.arr (p := 71) rfl) (by omega) ⟨rfl, by show 16 * b + k < 700; omega, by decide⟩ ?_
    refine R_eqi (y := oc (ψ2 71 (16 * b + k))) rfl ?_
    refine R_ixor (pc := 314) dX12_offsets_314 ?_
    refine R_eqi (y := oc ((ψ2 79 k) ^^^ (ψ2 71 (16 * b + k)))) (oc_xor _ _) ?_
    refine R_iast' (pc := 315) (j := k) dX12_offsets_315 (S_6.arr (p := 79) rfl) (by omega) ⟨rfl, by show k < 16; omega, by decide⟩ (fun h_8 f_9 g_10 => ?_)
    have S_12 : MO h_8 (uo (uo ψ2 72 (updB (ψ2 72) (16 * b + k) ((ψ2 71 (16 * b + k)) ^^^ (ψ2 76 k)))) 79 (updB (ψ2 79) k ((ψ2 79 k) ^^^ (ψ2 71 (16 * b + k))))) z i := MO.setA (p := 79) S_6 rfl f_9 g_10 (fun j_ => congrFun (upd_oc _ _ _) j_)
    have F_11 := fmA (p := 79) (okA_c (by decide)).1 g_10
    refine R_iinc (pc := 316) (j := 0) (v := nI (k + 1)) (lv' := [(5, .int (nI (k + 1))), (4, .int (nI r)), (3, .int (nI b)), (0, .ref 61), (1, .int 0), (2, .int (nI D.length))]) dX12_offsets_316 rfl (nI_add _ _) (by decide) rfl ?_
    refine R_goto (pc := 319) (tgt := 236) dX12_offsets_319 (by decide) ?_
    refine R_sub [0, 1, 2, 3, 4, 5] rfl ?_
    have e71 : ψ2 71 = ψ 71 := hK 71 (by decide)
    have e76 : ψ2 76 = ψ 76 := hK 76 (by decide)
    have j1 : updB (ψ2 72) (16 * b + k) ((ψ2 71 (16 * b + k)) ^^^ (ψ2 76 k)) = pgB (fun j => ψ 71 (16 * b + j) ^^^ ψ 76 j) (ψ 72) (16 * b) (k + 1) := by rw [hJ.1]; exact pgB_up _ _ rfl (by rw [e71, e76])
    have j2 : updB (ψ2 79) k ((ψ2 79 k) ^^^ (ψ2 71 (16 * b + k))) = pgB (fun j => ψ 79 j ^^^ ψ 71 (16 * b + j)) (ψ 79) 0 (k + 1) := by rw [hJ.2]; exact pgB_up _ _ (by omega) (by rw [pgB_out _ _ (by omega), e71])
    exact ih (k + 1) (by omega) h_8 _ S_12 ((hK.up (by decide)).up (by decide)) (⟨j1, j2⟩) (hF.tr (F_5.tr F_11))
set_option maxHeartbeats 1000000 in
set_option maxRecDepth 100000 in
theorem oX12_offsets_s {l : Launch} {w : am_W} {h : am_H} {n : Nat} {ψ : Nat → oA} {z : fA} {i : mI} (S : MO h ψ z i) (hn : 90 ≤ n) (A N D : List (BitVec 8)) (b r mm : Nat) (hL : D.length = 16 * b + r) (hr : r < 16) (hA : A.length ≤ 256) (hN1 : 1 ≤ N.length) (hN : N.length ≤ 15) (hD : D.length ≤ 512) (hmm : 4 ≤ mm) (hmm16 : mm ≤ 16) (hi1 : i 1 = nI mm) (hi5 : i 5 = nI N.length) (hi6 : i 6 = nI A.length) (hsA : sg (ψ 74) 0 A) (hsN : sg (ψ 73) 0 N) (hsD : sg (ψ 71) 0 D) {F G : bP → bP} (K0 : Kh ψ 0 F G) : RH l w mX12_offsets h n [.ref 61, .int 0, .int (nI D.length)] (fun h2 q => ∃ ψ2, q = none ∧ MO h2 ψ2 z i ∧ FR [72, 76, 78, 79, 85, 87, 88, 89, 90] ψ ψ2 ∧ (sg (ψ2 72) 0 (osF F G false D (bgO F N (nI mm))).2.2 ∧ gt (ψ2 85) 0 = osTag F G false D A (bgO F N (nI mm))) ∧ FM h h2) := by
  refine RC.of [(0, .ref 61), (1, .int 0), (2, .int (nI D.length))] (by decide +kernel) rfl (Nat.le_of_ble_eq_true rfl) ?_
  refine R_aload_n (pc := 0) 0 dX12_offsets_0 rfl rfl ?_
  refine R_callVh (pc := 1) (μ' := mX12_prepareOffsets) (As := []) (st := []) dX12_offsets_1 zX12_prepareOffsets lX12_226 ⟨by decide, by decide⟩ rfl rfl ⟨by decide, by decide⟩ S.obj (by omega) rfl (Nat.le_of_ble_eq_true rfl) (oX12_prepareOffsets S hn K0) (fun h_1 r_ q_2 => ?_)
  obtain ⟨ψ_6, rfl, S_3, K_5, J_7, F_4⟩ := q_2
  have K_8 := K0.fr K_5 (by decide) (by decide) (by decide) (by decide)
  have ls1 : ∀ m, m < 10 → gt (ψ_6 87) (16 * m) = dbN m (F (0, 0)) := J_7
  refine R_aload_n (pc := 4) 0 dX12_offsets_4 rfl rfl ?_
  refine R_callVh (pc := 5) (μ' := mX12_hashAside) (As := []) (st := []) dX12_offsets_5 zX12_hashAside lX12_229 ⟨by decide, by decide⟩ rfl rfl ⟨by decide, by decide⟩ S_3.obj (by omega) rfl (Nat.le_of_ble_eq_true rfl) (oX12_hashAside S_3 hn A (A.length / 16) hA rfl hi6 (by rw [(show FR [72, 76, 78, 79, 85, 87, 88, 89, 90] ψ _ from ((FR.rf _ _).tr K_5 (by decide))) 74 (by decide)]; exact hsA) K_8 ls1) (fun h_9 r_ q_10 => ?_)
  obtain ⟨ψ_14, rfl, S_11, K_13, J_15, F_12⟩ := q_10
  have K_16 := K_8.fr K_13 (by decide) (by decide) (by decide) (by decide)
  have hh2 : gt (ψ_14 89) 0 = ahT F (dbl (F (0, 0))) (F (0, 0)) A (0, 0) := J_15
  have ls2 : ∀ m, m < 10 → gt (ψ_14 87) (16 * m) = dbN m (F (0, 0)) := by rw [K_13 87 (by decide)]; exact ls1
  refine R_aload_n (pc := 8) 0 dX12_offsets_8 rfl rfl ?_
  refine R_callVh (pc := 9) (μ' := mX12_firstOffset) (As := []) (st := []) dX12_offsets_9 zX12_firstOffset lX12_232 ⟨by decide, by decide⟩ rfl rfl ⟨by decide, by decide⟩ S_11.obj (by omega) rfl (Nat.le_of_ble_eq_true rfl) (oX12_firstOffset S_11 hn N mm hN1 hN hmm hmm16 hi1 hi5 (by rw [(show FR [72, 76, 78, 79, 85, 87, 88, 89, 90] ψ _ from (((FR.rf _ _).tr K_5 (by decide)).tr K_13 (by decide))) 73 (by decide)]; exact hsN) K_16) (fun h_17 r_ q_18 => ?_)
  obtain ⟨ψ_22, rfl, S_19, K_21, J_23, F_20⟩ := q_18
  have K_24 := K_16.fr K_21 (by decide) (by decide) (by decide) (by decide)
  have oo3 : gt (ψ_22 88) 0 = (bgO F N (nI mm)) := J_23
  have hh3 : gt (ψ_22 89) 0 = ahT F (dbl (F (0, 0))) (F (0, 0)) A (0, 0) := by rw [K_21 89 (by decide)]; exact hh2
  have ls3 : ∀ m, m < 10 → gt (ψ_22 87) (16 * m) = dbN m (F (0, 0)) := by rw [K_21 87 (by decide)]; exact ls2
  have e71 : ψ_22 71 = ψ 71 := (show FR [72, 76, 78, 79, 85, 87, 88, 89, 90] ψ _ from ((((FR.rf _ _).tr K_5 (by decide)).tr K_13 (by decide)).tr K_21 (by decide))) 71 (by decide)
  refine R_aload_n (pc := 12) 0 dX12_offsets_12 rfl rfl ?_
  refine R_get (pc := 13) dX12_offsets_13 fX12_65 S_19.obj (by omega) rfl ?_
  refine R_iconst (pc := 16) (v := 0) dX12_offsets_16 (by decide) ?_
  refine R_bipush (pc := 17) (v := 16) dX12_offsets_17 (by decide) ?_
  refine R_callSh (pc := 19) (μ' := mX12_clear) (As := [.ref 79, .int 0, .int 16]) (st := []) dX12_offsets_19 zX12_clear lX12_164 ⟨by decide, by decide⟩ rfl rfl ⟨by decide, by decide⟩ rfl (Nat.le_of_ble_eq_true rfl) (oX12_clear16 S_19 hn (q := 79) rfl (by decide)) (fun h_25 r_ q_26 => ?_)
  obtain ⟨rfl, S_27, F_28⟩ := q_26
  have S_29 : MO h_25 (uo ψ_22 79 (pt (ψ_22 79) 0 (0, 0))) z i := S_27
  refine R_iload_n (pc := 22) 2 dX12_offsets_22 rfl rfl ?_
  refine R_bipush (pc := 23) (v := 16) dX12_offsets_23 (by decide) ?_
  refine R_idiv (pc := 25) dX12_offsets_25 (by decide) ?_
  refine R_eqi (y := nI b) ((nI_div (a := D.length) (b := 16) (by omega) (by omega)).trans (congrArg nI (by omega))) ?_
  refine R_istore_n (pc := 26) (lv' := [(3, .int (nI b)), (0, .ref 61), (1, .int 0), (2, .int (nI D.length))]) dX12_offsets_26 rfl (by decide) rfl ?_
  refine R_iconst (pc := 27) (v := 1) dX12_offsets_27 (by decide) ?_
  refine R_istore (pc := 28) (lv' := [(4, .int 1), (3, .int (nI b)), (0, .ref 61), (1, .int 0), (2, .int (nI D.length))]) dX12_offsets_28 (by decide) rfl ?_
  refine R_sub [0, 1, 2, 3, 4] rfl ?_
  refine qX12_offsets_s (h := h) (ψ := (uo ψ_22 79 (pt (ψ_22 79) 0 (0, 0)))) hn D b r hL hr hD (K_24.uo (by decide)) (bgO F N (nI mm)) (show sg (ψ_22 71) 0 D by rw [e71]; exact hsD) ls3 (fun h2 ψ2 S2 hK hJ hF => ?_) b 0 (by omega) h_25 _ S_29 (FR.rf _ _) ⟨oo3, (gt_pt _ _ _).trans rfl, sg.nil _ _⟩ (((F_4.tr F_12).tr F_20).tr F_28)
  have K_30 := (K_24.uo (by decide)).fr hK (by decide) (by decide) (by decide) (by decide)
  have hh4 : gt (ψ2 89) 0 = ahT F (dbl (F (0, 0))) (F (0, 0)) A (0, 0) := by rw [hK 89 (by decide)]; exact hh3
  have l0 : gt (ψ2 87) 0 = (F (0, 0)) := by rw [hK 87 (by decide)]; exact ls3 0 (by omega)
  have l1 : gt (ψ2 87) 16 = dbl (F (0, 0)) := by rw [hK 87 (by decide)]; exact ls3 1 (by omega)
  have d71 : ψ2 71 = ψ 71 := by rw [hK 71 (by decide)]; exact e71
  refine R_iload_n (pc := 180) 4 dX12_offsets_180 rfl rfl ?_
  refine R_bipush (pc := 181) (v := 16) dX12_offsets_181 (by decide) ?_
  refine R_iload_n (pc := 183) 1 dX12_offsets_183 rfl rfl ?_
  refine R_imul (pc := 184) dX12_offsets_184 ?_
  refine R_eqi (y := nI (16 * b)) (nI_mul 16 b) ?_
  refine R_isub (pc := 185) dX12_offsets_185 ?_
  refine R_eqi (y := nI r) ((nI_sb (a := D.length) (b := 16 * b) (by omega)).trans (congrArg nI (by omega))) ?_
  refine R_istore (pc := 186) (lv' := [(4, .int (nI r)), (3, .int (nI b)), (0, .ref 61), (1, .int 0), (2, .int (nI D.length))]) dX12_offsets_186 (by decide) rfl ?_
  refine R_iload (pc := 188) 0 dX12_offsets_188 rfl ?_
  refine R_if_le (pc := 190) (tgt := 335) dX12_offsets_190 (by decide) (fun c_31 => ?_) (fun c_31 => ?_)
  · skip
    have nc_31 : r ≤ 0 := (nI_leI (a := r) (b := 0) (by omega) (by omega)).mp c_31
    refine R_aload_n (pc := 335) 2 dX12_offsets_335 rfl rfl ?_
    refine R_get (pc := 336) dX12_offsets_336 fX12_65 S2.obj (by omega) rfl ?_
    refine R_iconst (pc := 339) (v := 0) dX12_offsets_339 (by decide) ?_
    refine R_aload_n (pc := 340) 2 dX12_offsets_340 rfl rfl ?_
    refine R_get (pc := 341) dX12_offsets_341 fX12_83 S2.obj (by omega) rfl ?_
    refine R_iconst (pc := 344) (v := 0) dX12_offsets_344 (by decide) ?_
    refine R_bipush (pc := 345) (v := 16) dX12_offsets_345 (by decide) ?_
    refine R_callSh (pc := 347) (μ' := mX12_copy) (As := [.ref 79, .int (nI 0), .ref 85, .int (nI 0), .int 16]) (st := []) dX12_offsets_347 zX12_copy lX12_133 ⟨by decide, by decide⟩ rfl rfl ⟨by decide, by decide⟩ rfl (Nat.le_of_ble_eq_true rfl) (oX12_copy16 S2 hn (p := 79) (q := 85) rfl rfl 0 0 (by show 0 + 16 ≤ 16; omega) (by show 0 + 16 ≤ 16; omega) (by decide)) (fun h_32 r_ q_33 => ?_)
    obtain ⟨rfl, S_34, F_35⟩ := q_33
    have S_36 : MO h_32 (uo ψ2 85 (pt (ψ2 85) 0 (gt (ψ2 79) 0))) z i := S_34
    refine R_aload_n (pc := 350) 2 dX12_offsets_350 rfl rfl ?_
    refine R_get (pc := 351) dX12_offsets_351 fX12_92 S_36.obj (by omega) rfl ?_
    refine R_iconst (pc := 354) (v := 0) dX12_offsets_354 (by decide) ?_
    refine R_aload_n (pc := 355) 2 dX12_offsets_355 rfl rfl ?_
    refine R_get (pc := 356) dX12_offsets_356 fX12_83 S_36.obj (by omega) rfl ?_
    refine R_iconst (pc := 359) (v := 0) dX12_offsets_359 (by decide) ?_
    refine R_bipush (pc := 360) (v := 16) dX12_offsets_360 (by decide) ?_
    refine R_callSh (pc := 362) (μ' := mX12_add) (As := [.ref 88, .int (nI 0), .ref 85, .int (nI 0), .int 16]) (st := []) dX12_offsets_362 zX12_add lX12_143 ⟨by decide, by decide⟩ rfl rfl ⟨by decide, by decide⟩ rfl (Nat.le_of_ble_eq_true rfl) (oX12_add16 S_36 hn (p := 88) (q := 85) rfl rfl 0 0 (by show 0 + 16 ≤ 16; omega) (by show 0 + 16 ≤ 16; omega) (by decide)) (fun h_37 r_ q_38 => ?_)
    obtain ⟨rfl, S_39, F_40⟩ := q_38
    have S_41 : MO h_37 (uo ψ2 85 (pt (pt (ψ2 85) 0 (gt (ψ2 79) 0)) 0 (xb (gt (pt (ψ2 85) 0 (gt (ψ2 79) 0)) 0) (gt (ψ2 88) 0)))) z i := by have z_ := S_39; rw [uo_uo] at z_; exact z_
    refine R_aload_n (pc := 365) 2 dX12_offsets_365 rfl rfl ?_
    refine R_get (pc := 366) dX12_offsets_366 fX12_89 S_41.obj (by omega) rfl ?_
    refine R_bipush (pc := 369) (v := 16) dX12_offsets_369 (by decide) ?_
    refine R_aload_n (pc := 371) 2 dX12_offsets_371 rfl rfl ?_
    refine R_get (pc := 372) dX12_offsets_372 fX12_83 S_41.obj (by omega) rfl ?_
    refine R_iconst (pc := 375) (v := 0) dX12_offsets_375 (by decide) ?_
    refine R_bipush (pc := 376) (v := 16) dX12_offsets_376 (by decide) ?_
    refine R_callSh (pc := 378) (μ' := mX12_add) (As := [.ref 87, .int (nI 16), .ref 85, .int (nI 0), .int 16]) (st := []) dX12_offsets_378 zX12_add lX12_143 ⟨by decide, by decide⟩ rfl rfl ⟨by decide, by decide⟩ rfl (Nat.le_of_ble_eq_true rfl) (oX12_add16 S_41 hn (p := 87) (q := 85) rfl rfl 16 0 (by show 16 + 16 ≤ 160; omega) (by show 0 + 16 ≤ 16; omega) (by decide)) (fun h_42 r_ q_43 => ?_)
    obtain ⟨rfl, S_44, F_45⟩ := q_43
    have S_46 : MO h_42 (uo ψ2 85 (pt (pt (pt (ψ2 85) 0 (gt (ψ2 79) 0)) 0 (xb (gt (pt (ψ2 85) 0 (gt (ψ2 79) 0)) 0) (gt (ψ2 88) 0))) 0 (xb (gt (pt (pt (ψ2 85) 0 (gt (ψ2 79) 0)) 0 (xb (gt (pt (ψ2 85) 0 (gt (ψ2 79) 0)) 0) (gt (ψ2 88) 0))) 0) (gt (ψ2 87) 16)))) z i := by have z_ := S_44; rw [uo_uo] at z_; exact z_
    refine R_aload_n (pc := 381) 2 dX12_offsets_381 rfl rfl ?_
    refine R_iconst (pc := 382) (v := 0) dX12_offsets_382 (by decide) ?_
    refine R_aload_n (pc := 383) 2 dX12_offsets_383 rfl rfl ?_
    refine R_get (pc := 384) dX12_offsets_384 fX12_83 S_46.obj (by omega) rfl ?_
    refine R_iconst (pc := 387) (v := 0) dX12_offsets_387 (by decide) ?_
    refine R_callVh (pc := 388) (μ' := mX12_sealBlock) (As := [.int (nI 0), .ref 85, .int (nI 0)]) (st := []) dX12_offsets_388 zX12_sealBlock lX12_146 ⟨by decide, by decide⟩ rfl rfl ⟨by decide, by decide⟩ S_46.obj (by omega) rfl (Nat.le_of_ble_eq_true rfl) (oX12_sealBlock S_46 hn (K_30.uo (by decide)) (p := 85) rfl 0 (by show 0 + 16 ≤ 16; omega)) (fun h_47 r_ q_48 => ?_)
    obtain ⟨rfl, S_49, F_50⟩ := q_48
    have S_51 : MO h_47 (uo ψ2 85 (pt (pt (pt (pt (ψ2 85) 0 (gt (ψ2 79) 0)) 0 (xb (gt (pt (ψ2 85) 0 (gt (ψ2 79) 0)) 0) (gt (ψ2 88) 0))) 0 (xb (gt (pt (pt (ψ2 85) 0 (gt (ψ2 79) 0)) 0 (xb (gt (pt (ψ2 85) 0 (gt (ψ2 79) 0)) 0) (gt (ψ2 88) 0))) 0) (gt (ψ2 87) 16))) 0 (F (gt (pt (pt (pt (ψ2 85) 0 (gt (ψ2 79) 0)) 0 (xb (gt (pt (ψ2 85) 0 (gt (ψ2 79) 0)) 0) (gt (ψ2 88) 0))) 0 (xb (gt (pt (pt (ψ2 85) 0 (gt (ψ2 79) 0)) 0 (xb (gt (pt (ψ2 85) 0 (gt (ψ2 79) 0)) 0) (gt (ψ2 88) 0))) 0) (gt (ψ2 87) 16))) 0)))) z i := by have z_ := S_49; rw [uo_uo] at z_; exact z_
    refine R_aload_n (pc := 391) 2 dX12_offsets_391 rfl rfl ?_
    refine R_get (pc := 392) dX12_offsets_392 fX12_95 S_51.obj (by omega) rfl ?_
    refine R_iconst (pc := 395) (v := 0) dX12_offsets_395 (by decide) ?_
    refine R_aload_n (pc := 396) 2 dX12_offsets_396 rfl rfl ?_
    refine R_get (pc := 397) dX12_offsets_397 fX12_83 S_51.obj (by omega) rfl ?_
    refine R_iconst (pc := 400) (v := 0) dX12_offsets_400 (by decide) ?_
    refine R_bipush (pc := 401) (v := 16) dX12_offsets_401 (by decide) ?_
    refine R_callSh (pc := 403) (μ' := mX12_add) (As := [.ref 89, .int (nI 0), .ref 85, .int (nI 0), .int 16]) (st := []) dX12_offsets_403 zX12_add lX12_143 ⟨by decide, by decide⟩ rfl rfl ⟨by decide, by decide⟩ rfl (Nat.le_of_ble_eq_true rfl) (oX12_add16 S_51 hn (p := 89) (q := 85) rfl rfl 0 0 (by show 0 + 16 ≤ 16; omega) (by show 0 + 16 ≤ 16; omega) (by decide)) (fun h_52 r_ q_53 => ?_)
    obtain ⟨rfl, S_54, F_55⟩ := q_53
    have S_56 : MO h_52 (uo ψ2 85 (pt (pt (pt (pt (pt (ψ2 85) 0 (gt (ψ2 79) 0)) 0 (xb (gt (pt (ψ2 85) 0 (gt (ψ2 79) 0)) 0) (gt (ψ2 88) 0))) 0 (xb (gt (pt (pt (ψ2 85) 0 (gt (ψ2 79) 0)) 0 (xb (gt (pt (ψ2 85) 0 (gt (ψ2 79) 0)) 0) (gt (ψ2 88) 0))) 0) (gt (ψ2 87) 16))) 0 (F (gt (pt (pt (pt (ψ2 85) 0 (gt (ψ2 79) 0)) 0 (xb (gt (pt (ψ2 85) 0 (gt (ψ2 79) 0)) 0) (gt (ψ2 88) 0))) 0 (xb (gt (pt (pt (ψ2 85) 0 (gt (ψ2 79) 0)) 0 (xb (gt (pt (ψ2 85) 0 (gt (ψ2 79) 0)) 0) (gt (ψ2 88) 0))) 0) (gt (ψ2 87) 16))) 0))) 0 (xb (gt (pt (pt (pt (pt (ψ2 85) 0 (gt (ψ2 79) 0)) 0 (xb (gt (pt (ψ2 85) 0 (gt (ψ2 79) 0)) 0) (gt (ψ2 88) 0))) 0 (xb (gt (pt (pt (ψ2 85) 0 (gt (ψ2 79) 0)) 0 (xb (gt (pt (ψ2 85) 0 (gt (ψ2 79) 0)) 0) (gt (ψ2 88) 0))) 0) (gt (ψ2 87) 16))) 0 (F (gt (pt (pt (pt (ψ2 85) 0 (gt (ψ2 79) 0)) 0 (xb (gt (pt (ψ2 85) 0 (gt (ψ2 79) 0)) 0) (gt (ψ2 88) 0))) 0 (xb (gt (pt (pt (ψ2 85) 0 (gt (ψ2 79) 0)) 0 (xb (gt (pt (ψ2 85) 0 (gt (ψ2 79) 0)) 0) (gt (ψ2 88) 0))) 0) (gt (ψ2 87) 16))) 0))) 0) (gt (ψ2 89) 0)))) z i := by have z_ := S_54; rw [uo_uo] at z_; exact z_
    have hO : (osF F G false D (bgO F N (nI mm))) = (osN F G false (dbl (F (0, 0))) D (bgO F N (nI mm)) b) := by unfold osF; rw [show D.length / 16 = b by omega, show D.length % 16 = 0 by omega]; rfl
    have hz : sg (ψ2 72) 0 (osF F G false D (bgO F N (nI mm))).2.2 := by rw [hO]; exact hJ.2.2
    have hy : gt (pt (pt (pt (pt (pt (ψ2 85) 0 (gt (ψ2 79) 0)) 0 (xb (gt (pt (ψ2 85) 0 (gt (ψ2 79) 0)) 0) (gt (ψ2 88) 0))) 0 (xb (gt (pt (pt (ψ2 85) 0 (gt (ψ2 79) 0)) 0 (xb (gt (pt (ψ2 85) 0 (gt (ψ2 79) 0)) 0) (gt (ψ2 88) 0))) 0) (gt (ψ2 87) 16))) 0 (F (gt (pt (pt (pt (ψ2 85) 0 (gt (ψ2 79) 0)) 0 (xb (gt (pt (ψ2 85) 0 (gt (ψ2 79) 0)) 0) (gt (ψ2 88) 0))) 0 (xb (gt (pt (pt (ψ2 85) 0 (gt (ψ2 79) 0)) 0 (xb (gt (pt (ψ2 85) 0 (gt (ψ2 79) 0)) 0) (gt (ψ2 88) 0))) 0) (gt (ψ2 87) 16))) 0))) 0 (xb (gt (pt (pt (pt (pt (ψ2 85) 0 (gt (ψ2 79) 0)) 0 (xb (gt (pt (ψ2 85) 0 (gt (ψ2 79) 0)) 0) (gt (ψ2 88) 0))) 0 (xb (gt (pt (pt (ψ2 85) 0 (gt (ψ2 79) 0)) 0 (xb (gt (pt (ψ2 85) 0 (gt (ψ2 79) 0)) 0) (gt (ψ2 88) 0))) 0) (gt (ψ2 87) 16))) 0 (F (gt (pt (pt (pt (ψ2 85) 0 (gt (ψ2 79) 0)) 0 (xb (gt (pt (ψ2 85) 0 (gt (ψ2 79) 0)) 0) (gt (ψ2 88) 0))) 0 (xb (gt (pt (pt (ψ2 85) 0 (gt (ψ2 79) 0)) 0 (xb (gt (pt (ψ2 85) 0 (gt (ψ2 79) 0)) 0) (gt (ψ2 88) 0))) 0) (gt (ψ2 87) 16))) 0))) 0) (gt (ψ2 89) 0))) 0 = osTag F G false D A (bgO F N (nI mm)) := by
      unfold osTag
      rw [ahT_g]
      simp only [gt_pt, pt_pt]
      rw [hJ.2.1, hJ.1, l1, hh4, hO]
    exact R_vreturn (pc := 406) dX12_offsets_406 rfl (by decide) (by decide) ⟨rfl, _, rfl, S_56, (((((((FR.rf _ _).tr K_5 (by decide)).tr K_13 (by decide)).tr K_21 (by decide)).up (by decide)).tr hK (by decide)).up (by decide)), ⟨hz, hy⟩, (hF.tr ((((F_35.tr F_40).tr F_45).tr F_50).tr F_55))⟩
  · skip
    have nc_31 : ¬ (r ≤ 0) := fun q_ => c_31 ((nI_leI (a := r) (b := 0) (by omega) (by omega)).mpr q_)
    refine R_aload_n (pc := 193) 2 dX12_offsets_193 rfl rfl ?_
    refine R_get (pc := 194) dX12_offsets_194 fX12_89 S2.obj (by omega) rfl ?_
    refine R_iconst (pc := 197) (v := 0) dX12_offsets_197 (by decide) ?_
    refine R_aload_n (pc := 198) 2 dX12_offsets_198 rfl rfl ?_
    refine R_get (pc := 199) dX12_offsets_199 fX12_92 S2.obj (by omega) rfl ?_
    refine R_iconst (pc := 202) (v := 0) dX12_offsets_202 (by decide) ?_
    refine R_bipush (pc := 203) (v := 16) dX12_offsets_203 (by decide) ?_
    refine R_callSh (pc := 205) (μ' := mX12_add) (As := [.ref 87, .int (nI 0), .ref 88, .int (nI 0), .int 16]) (st := []) dX12_offsets_205 zX12_add lX12_143 ⟨by decide, by decide⟩ rfl rfl ⟨by decide, by decide⟩ rfl (Nat.le_of_ble_eq_true rfl) (oX12_add16 S2 hn (p := 87) (q := 88) rfl rfl 0 0 (by show 0 + 16 ≤ 160; omega) (by show 0 + 16 ≤ 16; omega) (by decide)) (fun h_57 r_ q_58 => ?_)
    obtain ⟨rfl, S_59, F_60⟩ := q_58
    have S_61 : MO h_57 (uo ψ2 88 (pt (ψ2 88) 0 (xb (gt (ψ2 88) 0) (gt (ψ2 87) 0)))) z i := S_59
    refine R_aload_n (pc := 208) 2 dX12_offsets_208 rfl rfl ?_
    refine R_get (pc := 209) dX12_offsets_209 fX12_92 S_61.obj (by omega) rfl ?_
    refine R_iconst (pc := 212) (v := 0) dX12_offsets_212 (by decide) ?_
    refine R_aload_n (pc := 213) 2 dX12_offsets_213 rfl rfl ?_
    refine R_get (pc := 214) dX12_offsets_214 fX12_56 S_61.obj (by omega) rfl ?_
    refine R_iconst (pc := 217) (v := 0) dX12_offsets_217 (by decide) ?_
    refine R_bipush (pc := 218) (v := 16) dX12_offsets_218 (by decide) ?_
    refine R_callSh (pc := 220) (μ' := mX12_copy) (As := [.ref 88, .int (nI 0), .ref 76, .int (nI 0), .int 16]) (st := []) dX12_offsets_220 zX12_copy lX12_133 ⟨by decide, by decide⟩ rfl rfl ⟨by decide, by decide⟩ rfl (Nat.le_of_ble_eq_true rfl) (oX12_copy16 S_61 hn (p := 88) (q := 76) rfl rfl 0 0 (by show 0 + 16 ≤ 16; omega) (by show 0 + 16 ≤ 16; omega) (by decide)) (fun h_62 r_ q_63 => ?_)
    obtain ⟨rfl, S_64, F_65⟩ := q_63
    have S_66 : MO h_62 (uo (uo ψ2 88 (pt (ψ2 88) 0 (xb (gt (ψ2 88) 0) (gt (ψ2 87) 0)))) 76 (pt (ψ2 76) 0 (gt (pt (ψ2 88) 0 (xb (gt (ψ2 88) 0) (gt (ψ2 87) 0))) 0))) z i := S_64
    refine R_aload_n (pc := 223) 2 dX12_offsets_223 rfl rfl ?_
    refine R_iconst (pc := 224) (v := 0) dX12_offsets_224 (by decide) ?_
    refine R_aload_n (pc := 225) 2 dX12_offsets_225 rfl rfl ?_
    refine R_get (pc := 226) dX12_offsets_226 fX12_56 S_66.obj (by omega) rfl ?_
    refine R_iconst (pc := 229) (v := 0) dX12_offsets_229 (by decide) ?_
    refine R_callVh (pc := 230) (μ' := mX12_sealBlock) (As := [.int (nI 0), .ref 76, .int (nI 0)]) (st := []) dX12_offsets_230 zX12_sealBlock lX12_146 ⟨by decide, by decide⟩ rfl rfl ⟨by decide, by decide⟩ S_66.obj (by omega) rfl (Nat.le_of_ble_eq_true rfl) (oX12_sealBlock S_66 hn ((K_30.uo (by decide)).uo (by decide)) (p := 76) rfl 0 (by show 0 + 16 ≤ 16; omega)) (fun h_67 r_ q_68 => ?_)
    obtain ⟨rfl, S_69, F_70⟩ := q_68
    have S_71 : MO h_67 (uo (uo ψ2 88 (pt (ψ2 88) 0 (xb (gt (ψ2 88) 0) (gt (ψ2 87) 0)))) 76 (pt (pt (ψ2 76) 0 (gt (pt (ψ2 88) 0 (xb (gt (ψ2 88) 0) (gt (ψ2 87) 0))) 0)) 0 (F (gt (pt (ψ2 76) 0 (gt (pt (ψ2 88) 0 (xb (gt (ψ2 88) 0) (gt (ψ2 87) 0))) 0)) 0)))) z i := by have z_ := S_69; rw [uo_uo] at z_; exact z_
    refine R_iconst (pc := 233) (v := 0) dX12_offsets_233 (by decide) ?_
    refine R_istore (pc := 234) (lv' := [(5, .int 0), (4, .int (nI r)), (3, .int (nI b)), (0, .ref 61), (1, .int 0), (2, .int (nI D.length))]) dX12_offsets_234 (by decide) rfl ?_
    obtain ⟨one_, e1⟩ : ∃ f_ : oA, f_ = pt (pt (ψ2 76) 0 (gt (pt (ψ2 88) 0 (xb (gt (ψ2 88) 0) (gt (ψ2 87) 0))) 0)) 0 (F (gt (pt (ψ2 76) 0 (gt (pt (ψ2 88) 0 (xb (gt (ψ2 88) 0) (gt (ψ2 87) 0))) 0)) 0)) := ⟨_, rfl⟩
    have eO : gt one_ 0 = F (opO (F (0, 0)) (osN F G false (dbl (F (0, 0))) D (bgO F N (nI mm)) b).1) := by rw [e1]; simp only [gt_pt, pt_pt]; rw [hJ.1, l0]; rfl
    rw [← e1] at S_71
    have eQ : gt (pt (ψ2 88) 0 (xb (gt (ψ2 88) 0) (gt (ψ2 87) 0))) 0 = opO (F (0, 0)) (osN F G false (dbl (F (0, 0))) D (bgO F N (nI mm)) b).1 := by rw [gt_pt, hJ.1, l0]; rfl
    refine R_sub [0, 1, 2, 3, 4, 5] rfl ?_
    refine qX12_offsets_rs (h := h) (ψ := (uo (uo ψ2 88 (pt (ψ2 88) 0 (xb (gt (ψ2 88) 0) (gt (ψ2 87) 0)))) 76 one_)) hn D b r hL hr hD (fun h3 ψ3 S3 hK3 hJ3 hF3 => ?_) r 0 (by omega) h_67 _ S_71 (FR.rf _ _) ⟨(pgB_0 _ _ _).symm, (pgB_0 _ _ _).symm⟩ (hF.tr ((F_60.tr F_65).tr F_70))
    have y3 : ψ3 72 = pgB (fun j => ψ2 71 (16 * b + j) ^^^ one_ j) (ψ2 72) (16 * b) r := hJ3.1
    have s3 : ψ3 79 = pgB (fun j => ψ2 79 j ^^^ ψ2 71 (16 * b + j)) (ψ2 79) 0 r := hJ3.2
    have hh5 : gt (ψ3 89) 0 = ahT F (dbl (F (0, 0))) (F (0, 0)) A (0, 0) := by rw [hK3 89 (by decide)]; exact hh4
    have l5 : gt (ψ3 87) 16 = dbl (F (0, 0)) := by rw [hK3 87 (by decide)]; exact l1
    have o5 : gt (ψ3 88) 0 = opO (F (0, 0)) (osN F G false (dbl (F (0, 0))) D (bgO F N (nI mm)) b).1 := by rw [hK3 88 (by decide)]; exact eQ
    have K_72 := ((K_30.uo (by decide)).uo (by decide)).fr hK3 (by decide) (by decide) (by decide) (by decide)
    have eB : ∀ j, j < 16 → ob (opB F D (F (0, 0)) (osN F G false (dbl (F (0, 0))) D (bgO F N (nI mm)) b).1) j = if j < r then og D (16 * b + j) ^^^ ob (F (opO (F (0, 0)) (osN F G false (dbl (F (0, 0))) D (bgO F N (nI mm)) b).1)) j else 0 := fun j_ hj_ => by
      unfold opB
      rw [show D.length / 16 = b by omega, show D.length % 16 = r by omega, ob_xb _ _ hj_, ob_rd _ _ hj_, ob_kf _ (by omega) hj_]
      by_cases q_ : j_ < r
      · rw [if_pos q_, if_pos q_]
      · rw [if_neg q_, if_neg q_, og_out (by omega)]; simp
    have hdx : ∀ j, j < r → ψ2 71 (16 * b + j) = og D (16 * b + j) := fun j_ hj_ => by rw [d71]; exact sg0 hsD (by omega)
    have yz : sg (ψ3 72) 0 ((osN F G false (dbl (F (0, 0))) D (bgO F N (nI mm)) b).2.2 ++ bt (opB F D (F (0, 0)) (osN F G false (dbl (F (0, 0))) D (bgO F N (nI mm)) b).1) r) := by
      have l_ : (osN F G false (dbl (F (0, 0))) D (bgO F N (nI mm)) b).2.2.length = 16 * b := osN_len _ _ _ _ _ _ _
      refine sg.app (hJ.2.2.mv fun j_ hj_ => by rw [y3, pgB_out _ _ (by omega)]) (fun j_ hj_ => ?_)
      rw [bt_len] at hj_
      rw [l_, Nat.zero_add, y3, pgB_in _ _ (by omega) (by omega), show 16 * b + j_ - 16 * b = j_ by omega, og_bt _ hj_, eB _ (by omega), if_pos hj_, hdx _ hj_, gt_at0 eO (by omega)]
    have sz : gt (updB (ψ3 79) r (ψ3 79 r ^^^ t8 128)) 0 = opT F false D (F (0, 0)) (osN F G false (dbl (F (0, 0))) D (bgO F N (nI mm)) b).1 (osN F G false (dbl (F (0, 0))) D (bgO F N (nI mm)) b).2.1 := by
      rw [gt_ao _ (by omega) 128]
      unfold opT
      rw [show D.length / 16 = b by omega, show D.length % 16 = r by omega]
      congr 1
      rw [if_neg (by decide)]
      exact ob_ext fun j_ hj_ => by
        rw [ob_gt _ _ hj_, Nat.zero_add, ob_xb _ _ hj_, ob_rd _ _ hj_, s3]
        by_cases q_ : j_ < r
        · rw [pgB_in _ _ (by omega) (by omega), Nat.sub_zero, gt_at0 hJ.2.1 hj_, hdx _ q_]
        · rw [pgB_out _ _ (by omega), gt_at0 hJ.2.1 hj_, og_out (by omega)]; simp
    refine R_aload_n (pc := 322) 3 dX12_offsets_322 rfl rfl ?_
    refine R_get (pc := 323) dX12_offsets_323 fX12_65 S3.obj (by omega) rfl ?_
    refine R_iload (pc := 326) 1 dX12_offsets_326 rfl ?_
    refine R_dup2 (pc := 328) dX12_offsets_328 rfl rfl ?_
    refine R_iald' (pc := 329) (j := r) dX12_offsets_329 (S3.arr (p := 79) rfl) (by omega) ⟨rfl, by show r < 16; omega, by decide⟩ ?_
    refine R_eqi (y := oc (ψ3 79 r)) rfl ?_
    refine R_sipush (pc := 330) (v := 128) dX12_offsets_330 (by decide) ?_
    refine R_eqi (y := oc (t8 128)) (by decide) ?_
    refine R_ixor (pc := 333) dX12_offsets_333 ?_
    refine R_eqi (y := oc ((ψ3 79 r) ^^^ (t8 128))) (oc_xor _ _) ?_
    refine R_iast' (pc := 334) (j := r) dX12_offsets_334 (S3.arr (p := 79) rfl) (by omega) ⟨rfl, by show r < 16; omega, by decide⟩ (fun h_73 f_74 g_75 => ?_)
    have S_77 : MO h_73 (uo ψ3 79 (updB (ψ3 79) r ((ψ3 79 r) ^^^ (t8 128)))) z i := MO.setA (p := 79) S3 rfl f_74 g_75 (fun j_ => congrFun (upd_oc _ _ _) j_)
    have F_76 := fmA (p := 79) (okA_c (by decide)).1 g_75
    refine R_aload_n (pc := 335) 3 dX12_offsets_335 rfl rfl ?_
    refine R_get (pc := 336) dX12_offsets_336 fX12_65 S_77.obj (by omega) rfl ?_
    refine R_iconst (pc := 339) (v := 0) dX12_offsets_339 (by decide) ?_
    refine R_aload_n (pc := 340) 3 dX12_offsets_340 rfl rfl ?_
    refine R_get (pc := 341) dX12_offsets_341 fX12_83 S_77.obj (by omega) rfl ?_
    refine R_iconst (pc := 344) (v := 0) dX12_offsets_344 (by decide) ?_
    refine R_bipush (pc := 345) (v := 16) dX12_offsets_345 (by decide) ?_
    refine R_callSh (pc := 347) (μ' := mX12_copy) (As := [.ref 79, .int (nI 0), .ref 85, .int (nI 0), .int 16]) (st := []) dX12_offsets_347 zX12_copy lX12_133 ⟨by decide, by decide⟩ rfl rfl ⟨by decide, by decide⟩ rfl (Nat.le_of_ble_eq_true rfl) (oX12_copy16 S_77 hn (p := 79) (q := 85) rfl rfl 0 0 (by show 0 + 16 ≤ 16; omega) (by show 0 + 16 ≤ 16; omega) (by decide)) (fun h_78 r_ q_79 => ?_)
    obtain ⟨rfl, S_80, F_81⟩ := q_79
    have S_82 : MO h_78 (uo (uo ψ3 79 (updB (ψ3 79) r ((ψ3 79 r) ^^^ (t8 128)))) 85 (pt (ψ3 85) 0 (gt (updB (ψ3 79) r ((ψ3 79 r) ^^^ (t8 128))) 0))) z i := S_80
    refine R_aload_n (pc := 350) 3 dX12_offsets_350 rfl rfl ?_
    refine R_get (pc := 351) dX12_offsets_351 fX12_92 S_82.obj (by omega) rfl ?_
    refine R_iconst (pc := 354) (v := 0) dX12_offsets_354 (by decide) ?_
    refine R_aload_n (pc := 355) 3 dX12_offsets_355 rfl rfl ?_
    refine R_get (pc := 356) dX12_offsets_356 fX12_83 S_82.obj (by omega) rfl ?_
    refine R_iconst (pc := 359) (v := 0) dX12_offsets_359 (by decide) ?_
    refine R_bipush (pc := 360) (v := 16) dX12_offsets_360 (by decide) ?_
    refine R_callSh (pc := 362) (μ' := mX12_add) (As := [.ref 88, .int (nI 0), .ref 85, .int (nI 0), .int 16]) (st := []) dX12_offsets_362 zX12_add lX12_143 ⟨by decide, by decide⟩ rfl rfl ⟨by decide, by decide⟩ rfl (Nat.le_of_ble_eq_true rfl) (oX12_add16 S_82 hn (p := 88) (q := 85) rfl rfl 0 0 (by show 0 + 16 ≤ 16; omega) (by show 0 + 16 ≤ 16; omega) (by decide)) (fun h_83 r_ q_84 => ?_)
    obtain ⟨rfl, S_85, F_86⟩ := q_84
    have S_87 : MO h_83 (uo (uo ψ3 79 (updB (ψ3 79) r ((ψ3 79 r) ^^^ (t8 128)))) 85 (pt (pt (ψ3 85) 0 (gt (updB (ψ3 79) r ((ψ3 79 r) ^^^ (t8 128))) 0)) 0 (xb (gt (pt (ψ3 85) 0 (gt (updB (ψ3 79) r ((ψ3 79 r) ^^^ (t8 128))) 0)) 0) (gt (ψ3 88) 0)))) z i := by have z_ := S_85; rw [uo_uo] at z_; exact z_
    refine R_aload_n (pc := 365) 3 dX12_offsets_365 rfl rfl ?_
    refine R_get (pc := 366) dX12_offsets_366 fX12_89 S_87.obj (by omega) rfl ?_
    refine R_bipush (pc := 369) (v := 16) dX12_offsets_369 (by decide) ?_
    refine R_aload_n (pc := 371) 3 dX12_offsets_371 rfl rfl ?_
    refine R_get (pc := 372) dX12_offsets_372 fX12_83 S_87.obj (by omega) rfl ?_
    refine R_iconst (pc := 375) (v := 0) dX12_offsets_375 (by decide) ?_
    refine R_bipush (pc := 376) (v := 16) dX12_offsets_376 (by decide) ?_
    refine R_callSh (pc := 378) (μ' := mX12_add) (As := [.ref 87, .int (nI 16), .ref 85, .int (nI 0), .int 16]) (st := []) dX12_offsets_378 zX12_add lX12_143 ⟨by decide, by decide⟩ rfl rfl ⟨by decide, by decide⟩ rfl (Nat.le_of_ble_eq_true rfl) (oX12_add16 S_87 hn (p := 87) (q := 85) rfl rfl 16 0 (by show 16 + 16 ≤ 160; omega) (by show 0 + 16 ≤ 16; omega) (by decide)) (fun h_88 r_ q_89 => ?_)
    obtain ⟨rfl, S_90, F_91⟩ := q_89
    have S_92 : MO h_88 (uo (uo ψ3 79 (updB (ψ3 79) r ((ψ3 79 r) ^^^ (t8 128)))) 85 (pt (pt (pt (ψ3 85) 0 (gt (updB (ψ3 79) r ((ψ3 79 r) ^^^ (t8 128))) 0)) 0 (xb (gt (pt (ψ3 85) 0 (gt (updB (ψ3 79) r ((ψ3 79 r) ^^^ (t8 128))) 0)) 0) (gt (ψ3 88) 0))) 0 (xb (gt (pt (pt (ψ3 85) 0 (gt (updB (ψ3 79) r ((ψ3 79 r) ^^^ (t8 128))) 0)) 0 (xb (gt (pt (ψ3 85) 0 (gt (updB (ψ3 79) r ((ψ3 79 r) ^^^ (t8 128))) 0)) 0) (gt (ψ3 88) 0))) 0) (gt (ψ3 87) 16)))) z i := by have z_ := S_90; rw [uo_uo] at z_; exact z_
    refine R_aload_n (pc := 381) 3 dX12_offsets_381 rfl rfl ?_
    refine R_iconst (pc := 382) (v := 0) dX12_offsets_382 (by decide) ?_
    refine R_aload_n (pc := 383) 3 dX12_offsets_383 rfl rfl ?_
    refine R_get (pc := 384) dX12_offsets_384 fX12_83 S_92.obj (by omega) rfl ?_
    refine R_iconst (pc := 387) (v := 0) dX12_offsets_387 (by decide) ?_
    refine R_callVh (pc := 388) (μ' := mX12_sealBlock) (As := [.int (nI 0), .ref 85, .int (nI 0)]) (st := []) dX12_offsets_388 zX12_sealBlock lX12_146 ⟨by decide, by decide⟩ rfl rfl ⟨by decide, by decide⟩ S_92.obj (by omega) rfl (Nat.le_of_ble_eq_true rfl) (oX12_sealBlock S_92 hn ((K_72.uo (by decide)).uo (by decide)) (p := 85) rfl 0 (by show 0 + 16 ≤ 16; omega)) (fun h_93 r_ q_94 => ?_)
    obtain ⟨rfl, S_95, F_96⟩ := q_94
    have S_97 : MO h_93 (uo (uo ψ3 79 (updB (ψ3 79) r ((ψ3 79 r) ^^^ (t8 128)))) 85 (pt (pt (pt (pt (ψ3 85) 0 (gt (updB (ψ3 79) r ((ψ3 79 r) ^^^ (t8 128))) 0)) 0 (xb (gt (pt (ψ3 85) 0 (gt (updB (ψ3 79) r ((ψ3 79 r) ^^^ (t8 128))) 0)) 0) (gt (ψ3 88) 0))) 0 (xb (gt (pt (pt (ψ3 85) 0 (gt (updB (ψ3 79) r ((ψ3 79 r) ^^^ (t8 128))) 0)) 0 (xb (gt (pt (ψ3 85) 0 (gt (updB (ψ3 79) r ((ψ3 79 r) ^^^ (t8 128))) 0)) 0) (gt (ψ3 88) 0))) 0) (gt (ψ3 87) 16))) 0 (F (gt (pt (pt (pt (ψ3 85) 0 (gt (updB (ψ3 79) r ((ψ3 79 r) ^^^ (t8 128))) 0)) 0 (xb (gt (pt (ψ3 85) 0 (gt (updB (ψ3 79) r ((ψ3 79 r) ^^^ (t8 128))) 0)) 0) (gt (ψ3 88) 0))) 0 (xb (gt (pt (pt (ψ3 85) 0 (gt (updB (ψ3 79) r ((ψ3 79 r) ^^^ (t8 128))) 0)) 0 (xb (gt (pt (ψ3 85) 0 (gt (updB (ψ3 79) r ((ψ3 79 r) ^^^ (t8 128))) 0)) 0) (gt (ψ3 88) 0))) 0) (gt (ψ3 87) 16))) 0)))) z i := by have z_ := S_95; rw [uo_uo] at z_; exact z_
    refine R_aload_n (pc := 391) 3 dX12_offsets_391 rfl rfl ?_
    refine R_get (pc := 392) dX12_offsets_392 fX12_95 S_97.obj (by omega) rfl ?_
    refine R_iconst (pc := 395) (v := 0) dX12_offsets_395 (by decide) ?_
    refine R_aload_n (pc := 396) 3 dX12_offsets_396 rfl rfl ?_
    refine R_get (pc := 397) dX12_offsets_397 fX12_83 S_97.obj (by omega) rfl ?_
    refine R_iconst (pc := 400) (v := 0) dX12_offsets_400 (by decide) ?_
    refine R_bipush (pc := 401) (v := 16) dX12_offsets_401 (by decide) ?_
    refine R_callSh (pc := 403) (μ' := mX12_add) (As := [.ref 89, .int (nI 0), .ref 85, .int (nI 0), .int 16]) (st := []) dX12_offsets_403 zX12_add lX12_143 ⟨by decide, by decide⟩ rfl rfl ⟨by decide, by decide⟩ rfl (Nat.le_of_ble_eq_true rfl) (oX12_add16 S_97 hn (p := 89) (q := 85) rfl rfl 0 0 (by show 0 + 16 ≤ 16; omega) (by show 0 + 16 ≤ 16; omega) (by decide)) (fun h_98 r_ q_99 => ?_)
    obtain ⟨rfl, S_100, F_101⟩ := q_99
    have S_102 : MO h_98 (uo (uo ψ3 79 (updB (ψ3 79) r ((ψ3 79 r) ^^^ (t8 128)))) 85 (pt (pt (pt (pt (pt (ψ3 85) 0 (gt (updB (ψ3 79) r ((ψ3 79 r) ^^^ (t8 128))) 0)) 0 (xb (gt (pt (ψ3 85) 0 (gt (updB (ψ3 79) r ((ψ3 79 r) ^^^ (t8 128))) 0)) 0) (gt (ψ3 88) 0))) 0 (xb (gt (pt (pt (ψ3 85) 0 (gt (updB (ψ3 79) r ((ψ3 79 r) ^^^ (t8 128))) 0)) 0 (xb (gt (pt (ψ3 85) 0 (gt (updB (ψ3 79) r ((ψ3 79 r) ^^^ (t8 128))) 0)) 0) (gt (ψ3 88) 0))) 0) (gt (ψ3 87) 16))) 0 (F (gt (pt (pt (pt (ψ3 85) 0 (gt (updB (ψ3 79) r ((ψ3 79 r) ^^^ (t8 128))) 0)) 0 (xb (gt (pt (ψ3 85) 0 (gt (updB (ψ3 79) r ((ψ3 79 r) ^^^ (t8 128))) 0)) 0) (gt (ψ3 88) 0))) 0 (xb (gt (pt (pt (ψ3 85) 0 (gt (updB (ψ3 79) r ((ψ3 79 r) ^^^ (t8 128))) 0)) 0 (xb (gt (pt (ψ3 85) 0 (gt (updB (ψ3 79) r ((ψ3 79 r) ^^^ (t8 128))) 0)) 0) (gt (ψ3 88) 0))) 0) (gt (ψ3 87) 16))) 0))) 0 (xb (gt (pt (pt (pt (pt (ψ3 85) 0 (gt (updB (ψ3 79) r ((ψ3 79 r) ^^^ (t8 128))) 0)) 0 (xb (gt (pt (ψ3 85) 0 (gt (updB (ψ3 79) r ((ψ3 79 r) ^^^ (t8 128))) 0)) 0) (gt (ψ3 88) 0))) 0 (xb (gt (pt (pt (ψ3 85) 0 (gt (updB (ψ3 79) r ((ψ3 79 r) ^^^ (t8 128))) 0)) 0 (xb (gt (pt (ψ3 85) 0 (gt (updB (ψ3 79) r ((ψ3 79 r) ^^^ (t8 128))) 0)) 0) (gt (ψ3 88) 0))) 0) (gt (ψ3 87) 16))) 0 (F (gt (pt (pt (pt (ψ3 85) 0 (gt (updB (ψ3 79) r ((ψ3 79 r) ^^^ (t8 128))) 0)) 0 (xb (gt (pt (ψ3 85) 0 (gt (updB (ψ3 79) r ((ψ3 79 r) ^^^ (t8 128))) 0)) 0) (gt (ψ3 88) 0))) 0 (xb (gt (pt (pt (ψ3 85) 0 (gt (updB (ψ3 79) r ((ψ3 79 r) ^^^ (t8 128))) 0)) 0 (xb (gt (pt (ψ3 85) 0 (gt (updB (ψ3 79) r ((ψ3 79 r) ^^^ (t8 128))) 0)) 0) (gt (ψ3 88) 0))) 0) (gt (ψ3 87) 16))) 0))) 0) (gt (ψ3 89) 0)))) z i := by have z_ := S_100; rw [uo_uo] at z_; exact z_
    have hO : (osF F G false D (bgO F N (nI mm))) = (opO (F (0, 0)) (osN F G false (dbl (F (0, 0))) D (bgO F N (nI mm)) b).1, opT F false D (F (0, 0)) (osN F G false (dbl (F (0, 0))) D (bgO F N (nI mm)) b).1 (osN F G false (dbl (F (0, 0))) D (bgO F N (nI mm)) b).2.1, (osN F G false (dbl (F (0, 0))) D (bgO F N (nI mm)) b).2.2 ++ bt (opB F D (F (0, 0)) (osN F G false (dbl (F (0, 0))) D (bgO F N (nI mm)) b).1) r) := by
      unfold osF
      rw [show D.length / 16 = b by omega, show D.length % 16 = r by omega]
      show (if nI r = 0 then _ else _) = _
      rw [if_neg (show ¬ nI r = 0 from fun q_ => absurd ((nI_eq (a := r) (b := 0) (by omega) (by omega)).mp q_) (by omega))]
    have hz : sg (ψ3 72) 0 (osF F G false D (bgO F N (nI mm))).2.2 := by rw [hO]; exact yz
    have hy : gt (pt (pt (pt (pt (pt (ψ3 85) 0 (gt (updB (ψ3 79) r ((ψ3 79 r) ^^^ (t8 128))) 0)) 0 (xb (gt (pt (ψ3 85) 0 (gt (updB (ψ3 79) r ((ψ3 79 r) ^^^ (t8 128))) 0)) 0) (gt (ψ3 88) 0))) 0 (xb (gt (pt (pt (ψ3 85) 0 (gt (updB (ψ3 79) r ((ψ3 79 r) ^^^ (t8 128))) 0)) 0 (xb (gt (pt (ψ3 85) 0 (gt (updB (ψ3 79) r ((ψ3 79 r) ^^^ (t8 128))) 0)) 0) (gt (ψ3 88) 0))) 0) (gt (ψ3 87) 16))) 0 (F (gt (pt (pt (pt (ψ3 85) 0 (gt (updB (ψ3 79) r ((ψ3 79 r) ^^^ (t8 128))) 0)) 0 (xb (gt (pt (ψ3 85) 0 (gt (updB (ψ3 79) r ((ψ3 79 r) ^^^ (t8 128))) 0)) 0) (gt (ψ3 88) 0))) 0 (xb (gt (pt (pt (ψ3 85) 0 (gt (updB (ψ3 79) r ((ψ3 79 r) ^^^ (t8 128))) 0)) 0 (xb (gt (pt (ψ3 85) 0 (gt (updB (ψ3 79) r ((ψ3 79 r) ^^^ (t8 128))) 0)) 0) (gt (ψ3 88) 0))) 0) (gt (ψ3 87) 16))) 0))) 0 (xb (gt (pt (pt (pt (pt (ψ3 85) 0 (gt (updB (ψ3 79) r ((ψ3 79 r) ^^^ (t8 128))) 0)) 0 (xb (gt (pt (ψ3 85) 0 (gt (updB (ψ3 79) r ((ψ3 79 r) ^^^ (t8 128))) 0)) 0) (gt (ψ3 88) 0))) 0 (xb (gt (pt (pt (ψ3 85) 0 (gt (updB (ψ3 79) r ((ψ3 79 r) ^^^ (t8 128))) 0)) 0 (xb (gt (pt (ψ3 85) 0 (gt (updB (ψ3 79) r ((ψ3 79 r) ^^^ (t8 128))) 0)) 0) (gt (ψ3 88) 0))) 0) (gt (ψ3 87) 16))) 0 (F (gt (pt (pt (pt (ψ3 85) 0 (gt (updB (ψ3 79) r ((ψ3 79 r) ^^^ (t8 128))) 0)) 0 (xb (gt (pt (ψ3 85) 0 (gt (updB (ψ3 79) r ((ψ3 79 r) ^^^ (t8 128))) 0)) 0) (gt (ψ3 88) 0))) 0 (xb (gt (pt (pt (ψ3 85) 0 (gt (updB (ψ3 79) r ((ψ3 79 r) ^^^ (t8 128))) 0)) 0 (xb (gt (pt (ψ3 85) 0 (gt (updB (ψ3 79) r ((ψ3 79 r) ^^^ (t8 128))) 0)) 0) (gt (ψ3 88) 0))) 0) (gt (ψ3 87) 16))) 0))) 0) (gt (ψ3 89) 0))) 0 = osTag F G false D A (bgO F N (nI mm)) := by
      unfold osTag
      rw [ahT_g]
      simp only [gt_pt, pt_pt]
      rw [sz, o5, l5, hh5, hO]
    exact R_vreturn (pc := 406) dX12_offsets_406 rfl (by decide) (by decide) ⟨rfl, _, rfl, S_102, (((((((((((FR.rf _ _).tr K_5 (by decide)).tr K_13 (by decide)).tr K_21 (by decide)).up (by decide)).tr hK (by decide)).up (by decide)).up (by decide)).tr hK3 (by decide)).up (by decide)).up (by decide)), ⟨hz, hy⟩, (hF3.tr (((((F_76.tr F_81).tr F_86).tr F_91).tr F_96).tr F_101))⟩
set_option maxHeartbeats 1000000 in
set_option maxRecDepth 100000 in
theorem qX12_offsets_o {l : Launch} {w : am_W} {h : am_H} {n : Nat} {ψ : Nat → oA} {z : fA} {i : mI} (hn : 90 ≤ n) (D : List (BitVec 8)) (b r : Nat) (hL : D.length = 16 * b + r) (hr : r < 16) (hD : D.length ≤ 512) {F G : bP → bP} (K0 : Kh ψ 0 F G) (q0 : bP) (hsD : sg (ψ 71) 0 D) (hls : ∀ m, m < 10 → gt (ψ 87) (16 * m) = dbN m (F (0, 0))) {Q : am_H → Nat → Option Value → Prop} (kk : ∀ h2 ψ2, MO h2 ψ2 z i → FR [72, 79, 88] ψ ψ2 → ofsJ F G true D q0 ψ2 b → FM h h2 → RW l w mX12_offsets h2 n 0 0 180 [(4, .int (nI (b + 1))), (3, .int (nI b)), (0, .ref 61), (1, .int 1), (2, .int (nI D.length))] [] Q) : ∀ (dd k : Nat), k + dd = b → ∀ h2 ψ2, MO h2 ψ2 z i → FR [72, 79, 88] ψ ψ2 → ofsJ F G true D q0 ψ2 k → FM h h2 → RW l w mX12_offsets h2 n 0 0 30 [(4, .int (nI (k + 1))), (3, .int (nI b)), (0, .ref 61), (1, .int 1), (2, .int (nI D.length))] [] Q := by
  intro dd
  induction dd with
  | zero =>
    intro k hd h2 ψ2 S2 hK hJ hF
    refine R_iload (pc := 30) 0 dX12_offsets_30 rfl ?_
    refine R_iload_n (pc := 32) 1 dX12_offsets_32 rfl rfl ?_
    refine R_icmp_gt (pc := 33) (tgt := 180) dX12_offsets_33 (by decide) (fun c_1 => ?_) (fun c_1 => absurd (nI_lt (a := b) (b := k + 1) (by omega) (by omega)) c_1)
    obtain rfl : k = b := by omega
    exact kk h2 ψ2 S2 hK hJ hF
  | succ dd ih =>
    intro k hd h2 ψ2 S2 hK hJ hF
    have K0_2 := K0.fr hK (by decide) (by decide) (by decide) (by decide)
    have htz := tz_le (k + 1) (by omega)
    refine R_iload (pc := 30) 0 dX12_offsets_30 rfl ?_
    refine R_iload_n (pc := 32) 1 dX12_offsets_32 rfl rfl ?_
    refine R_icmp_gt (pc := 33) (tgt := 180) dX12_offsets_33 (by decide) (fun c_1 => absurd c_1 (nI_nlt (a := b) (b := k + 1) (by omega) (by omega))) (fun c_1 => ?_)
    refine R_bipush (pc := 36) (v := 16) dX12_offsets_36 (by decide) ?_
    refine R_iload (pc := 38) 0 dX12_offsets_38 rfl ?_
    refine R_iconst (pc := 40) (v := 1) dX12_offsets_40 (by decide) ?_
    refine R_isub (pc := 41) dX12_offsets_41 ?_
    refine R_eqi (y := nI k) ((nI_sb (a := k + 1) (b := 1) (by omega)).trans (congrArg nI (by omega))) ?_
    refine R_imul (pc := 42) dX12_offsets_42 ?_
    refine R_eqi (y := nI (16 * k)) (nI_mul 16 k) ?_
    refine R_istore (pc := 43) (lv' := [(5, .int (nI (16 * k))), (4, .int (nI (k + 1))), (3, .int (nI b)), (0, .ref 61), (1, .int 1), (2, .int (nI D.length))]) dX12_offsets_43 (by decide) rfl ?_
    refine R_aload_n (pc := 45) 3 dX12_offsets_45 rfl rfl ?_
    refine R_get (pc := 46) dX12_offsets_46 fX12_89 S2.obj (by omega) rfl ?_
    refine R_bipush (pc := 49) (v := 16) dX12_offsets_49 (by decide) ?_
    refine R_iconst (pc := 51) (v := 2) dX12_offsets_51 (by decide) ?_
    refine R_iload (pc := 52) 1 dX12_offsets_52 rfl ?_
    refine R_callSp (pc := 54) (μ' := mX12_twos) (As := [.int (nI (k + 1))]) (st := [.int 2, .int 16, .ref 87]) dX12_offsets_54 zX12_twos lX12_223 ⟨by decide, by decide⟩ rfl rfl ⟨by decide, by decide⟩ rfl (Nat.le_of_ble_eq_true rfl) (qX12_twos l w _ _ (i := k + 1) (by omega) (by omega)) ?_
    refine R_iadd (pc := 57) dX12_offsets_57 ?_
    refine R_eqi (y := nI (2 + (tzG 7 (k + 1)))) (nI_add 2 (tzG 7 (k + 1))) ?_
    refine R_imul (pc := 58) dX12_offsets_58 ?_
    refine R_eqi (y := nI (16 * (2 + (tzG 7 (k + 1))))) (nI_mul 16 (2 + (tzG 7 (k + 1)))) ?_
    refine R_aload_n (pc := 59) 3 dX12_offsets_59 rfl rfl ?_
    refine R_get (pc := 60) dX12_offsets_60 fX12_92 S2.obj (by omega) rfl ?_
    refine R_iconst (pc := 63) (v := 0) dX12_offsets_63 (by decide) ?_
    refine R_bipush (pc := 64) (v := 16) dX12_offsets_64 (by decide) ?_
    refine R_callSh (pc := 66) (μ' := mX12_add) (As := [.ref 87, .int (nI (16 * (2 + (tzG 7 (k + 1))))), .ref 88, .int (nI 0), .int 16]) (st := []) dX12_offsets_66 zX12_add lX12_143 ⟨by decide, by decide⟩ rfl rfl ⟨by decide, by decide⟩ rfl (Nat.le_of_ble_eq_true rfl) (oX12_add16 S2 hn (p := 87) (q := 88) rfl rfl (16 * (2 + (tzG 7 (k + 1)))) 0 (by show 16 * (2 + (tzG 7 (k + 1))) + 16 ≤ 160; omega) (by show 0 + 16 ≤ 16; omega) (by decide)) (fun h_2 r_ q_3 => ?_)
    obtain ⟨rfl, S_4, F_5⟩ := q_3
    have S_6 : MO h_2 (uo ψ2 88 (pt (ψ2 88) 0 (xb (gt (ψ2 88) 0) (gt (ψ2 87) (16 * (2 + (tzG 7 (k + 1)))))))) z i := S_4
    refine R_aload_n (pc := 69) 3 dX12_offsets_69 rfl rfl ?_
    refine R_get (pc := 70) dX12_offsets_70 fX12_41 S_6.obj (by omega) rfl ?_
    refine R_iload (pc := 73) 0 dX12_offsets_73 rfl ?_
    refine R_aload_n (pc := 75) 3 dX12_offsets_75 rfl rfl ?_
    refine R_get (pc := 76) dX12_offsets_76 fX12_44 S_6.obj (by omega) rfl ?_
    refine R_iload (pc := 79) 0 dX12_offsets_79 rfl ?_
    refine R_bipush (pc := 81) (v := 16) dX12_offsets_81 (by decide) ?_
    refine R_callSh (pc := 83) (μ' := mX12_copy) (As := [.ref 71, .int (nI (16 * k)), .ref 72, .int (nI (16 * k)), .int 16]) (st := []) dX12_offsets_83 zX12_copy lX12_133 ⟨by decide, by decide⟩ rfl rfl ⟨by decide, by decide⟩ rfl (Nat.le_of_ble_eq_true rfl) (oX12_copy16 S_6 hn (p := 71) (q := 72) rfl rfl (16 * k) (16 * k) (by show 16 * k + 16 ≤ 700; omega) (by show 16 * k + 16 ≤ 700; omega) (by decide)) (fun h_7 r_ q_8 => ?_)
    obtain ⟨rfl, S_9, F_10⟩ := q_8
    have S_11 : MO h_7 (uo (uo ψ2 88 (pt (ψ2 88) 0 (xb (gt (ψ2 88) 0) (gt (ψ2 87) (16 * (2 + (tzG 7 (k + 1)))))))) 72 (pt (ψ2 72) (16 * k) (gt (ψ2 71) (16 * k)))) z i := S_9
    refine R_aload_n (pc := 86) 3 dX12_offsets_86 rfl rfl ?_
    refine R_get (pc := 87) dX12_offsets_87 fX12_92 S_11.obj (by omega) rfl ?_
    refine R_iconst (pc := 90) (v := 0) dX12_offsets_90 (by decide) ?_
    refine R_aload_n (pc := 91) 3 dX12_offsets_91 rfl rfl ?_
    refine R_get (pc := 92) dX12_offsets_92 fX12_44 S_11.obj (by omega) rfl ?_
    refine R_iload (pc := 95) 0 dX12_offsets_95 rfl ?_
    refine R_bipush (pc := 97) (v := 16) dX12_offsets_97 (by decide) ?_
    refine R_callSh (pc := 99) (μ' := mX12_add) (As := [.ref 88, .int (nI 0), .ref 72, .int (nI (16 * k)), .int 16]) (st := []) dX12_offsets_99 zX12_add lX12_143 ⟨by decide, by decide⟩ rfl rfl ⟨by decide, by decide⟩ rfl (Nat.le_of_ble_eq_true rfl) (oX12_add16 S_11 hn (p := 88) (q := 72) rfl rfl 0 (16 * k) (by show 0 + 16 ≤ 16; omega) (by show 16 * k + 16 ≤ 700; omega) (by decide)) (fun h_12 r_ q_13 => ?_)
    obtain ⟨rfl, S_14, F_15⟩ := q_13
    have S_16 : MO h_12 (uo (uo ψ2 88 (pt (ψ2 88) 0 (xb (gt (ψ2 88) 0) (gt (ψ2 87) (16 * (2 + (tzG 7 (k + 1)))))))) 72 (pt (pt (ψ2 72) (16 * k) (gt (ψ2 71) (16 * k))) (16 * k) (xb (gt (pt (ψ2 72) (16 * k) (gt (ψ2 71) (16 * k))) (16 * k)) (gt (pt (ψ2 88) 0 (xb (gt (ψ2 88) 0) (gt (ψ2 87) (16 * (2 + (tzG 7 (k + 1))))))) 0)))) z i := by have z_ := S_14; rw [uo_uo] at z_; exact z_
    refine R_iload_n (pc := 102) 4 dX12_offsets_102 rfl rfl ?_
    refine R_if_eq (pc := 103) (tgt := 120) dX12_offsets_103 (by decide) (fun c_17 => absurd c_17 (by decide)) (fun c_17 => ?_)
    refine R_aload_n (pc := 106) 3 dX12_offsets_106 rfl rfl ?_
    refine R_iconst (pc := 107) (v := 0) dX12_offsets_107 (by decide) ?_
    refine R_aload_n (pc := 108) 3 dX12_offsets_108 rfl rfl ?_
    refine R_get (pc := 109) dX12_offsets_109 fX12_44 S_16.obj (by omega) rfl ?_
    refine R_iload (pc := 112) 0 dX12_offsets_112 rfl ?_
    refine R_callVh (pc := 114) (μ' := mX12_openBlock) (As := [.int (nI 0), .ref 72, .int (nI (16 * k))]) (st := []) dX12_offsets_114 zX12_openBlock lX12_150 ⟨by decide, by decide⟩ rfl rfl ⟨by decide, by decide⟩ S_16.obj (by omega) rfl (Nat.le_of_ble_eq_true rfl) (oX12_openBlock S_16 hn ((K0_2.uo (by decide)).uo (by decide)) (p := 72) rfl (16 * k) (by show 16 * k + 16 ≤ 700; omega)) (fun h_18 r_ q_19 => ?_)
    obtain ⟨rfl, S_20, F_21⟩ := q_19
    have S_22 : MO h_18 (uo (uo ψ2 88 (pt (ψ2 88) 0 (xb (gt (ψ2 88) 0) (gt (ψ2 87) (16 * (2 + (tzG 7 (k + 1)))))))) 72 (pt (pt (pt (ψ2 72) (16 * k) (gt (ψ2 71) (16 * k))) (16 * k) (xb (gt (pt (ψ2 72) (16 * k) (gt (ψ2 71) (16 * k))) (16 * k)) (gt (pt (ψ2 88) 0 (xb (gt (ψ2 88) 0) (gt (ψ2 87) (16 * (2 + (tzG 7 (k + 1))))))) 0))) (16 * k) (G (gt (pt (pt (ψ2 72) (16 * k) (gt (ψ2 71) (16 * k))) (16 * k) (xb (gt (pt (ψ2 72) (16 * k) (gt (ψ2 71) (16 * k))) (16 * k)) (gt (pt (ψ2 88) 0 (xb (gt (ψ2 88) 0) (gt (ψ2 87) (16 * (2 + (tzG 7 (k + 1))))))) 0))) (16 * k))))) z i := by have z_ := S_20; rw [uo_uo] at z_; exact z_
    refine R_goto (pc := 117) (tgt := 131) dX12_offsets_117 (by decide) ?_
    refine R_aload_n (pc := 131) 3 dX12_offsets_131 rfl rfl ?_
    refine R_get (pc := 132) dX12_offsets_132 fX12_92 S_22.obj (by omega) rfl ?_
    refine R_iconst (pc := 135) (v := 0) dX12_offsets_135 (by decide) ?_
    refine R_aload_n (pc := 136) 3 dX12_offsets_136 rfl rfl ?_
    refine R_get (pc := 137) dX12_offsets_137 fX12_44 S_22.obj (by omega) rfl ?_
    refine R_iload (pc := 140) 0 dX12_offsets_140 rfl ?_
    refine R_bipush (pc := 142) (v := 16) dX12_offsets_142 (by decide) ?_
    refine R_callSh (pc := 144) (μ' := mX12_add) (As := [.ref 88, .int (nI 0), .ref 72, .int (nI (16 * k)), .int 16]) (st := []) dX12_offsets_144 zX12_add lX12_143 ⟨by decide, by decide⟩ rfl rfl ⟨by decide, by decide⟩ rfl (Nat.le_of_ble_eq_true rfl) (oX12_add16 S_22 hn (p := 88) (q := 72) rfl rfl 0 (16 * k) (by show 0 + 16 ≤ 16; omega) (by show 16 * k + 16 ≤ 700; omega) (by decide)) (fun h_23 r_ q_24 => ?_)
    obtain ⟨rfl, S_25, F_26⟩ := q_24
    have S_27 : MO h_23 (uo (uo ψ2 88 (pt (ψ2 88) 0 (xb (gt (ψ2 88) 0) (gt (ψ2 87) (16 * (2 + (tzG 7 (k + 1)))))))) 72 (pt (pt (pt (pt (ψ2 72) (16 * k) (gt (ψ2 71) (16 * k))) (16 * k) (xb (gt (pt (ψ2 72) (16 * k) (gt (ψ2 71) (16 * k))) (16 * k)) (gt (pt (ψ2 88) 0 (xb (gt (ψ2 88) 0) (gt (ψ2 87) (16 * (2 + (tzG 7 (k + 1))))))) 0))) (16 * k) (G (gt (pt (pt (ψ2 72) (16 * k) (gt (ψ2 71) (16 * k))) (16 * k) (xb (gt (pt (ψ2 72) (16 * k) (gt (ψ2 71) (16 * k))) (16 * k)) (gt (pt (ψ2 88) 0 (xb (gt (ψ2 88) 0) (gt (ψ2 87) (16 * (2 + (tzG 7 (k + 1))))))) 0))) (16 * k)))) (16 * k) (xb (gt (pt (pt (pt (ψ2 72) (16 * k) (gt (ψ2 71) (16 * k))) (16 * k) (xb (gt (pt (ψ2 72) (16 * k) (gt (ψ2 71) (16 * k))) (16 * k)) (gt (pt (ψ2 88) 0 (xb (gt (ψ2 88) 0) (gt (ψ2 87) (16 * (2 + (tzG 7 (k + 1))))))) 0))) (16 * k) (G (gt (pt (pt (ψ2 72) (16 * k) (gt (ψ2 71) (16 * k))) (16 * k) (xb (gt (pt (ψ2 72) (16 * k) (gt (ψ2 71) (16 * k))) (16 * k)) (gt (pt (ψ2 88) 0 (xb (gt (ψ2 88) 0) (gt (ψ2 87) (16 * (2 + (tzG 7 (k + 1))))))) 0))) (16 * k)))) (16 * k)) (gt (pt (ψ2 88) 0 (xb (gt (ψ2 88) 0) (gt (ψ2 87) (16 * (2 + (tzG 7 (k + 1))))))) 0)))) z i := by have z_ := S_25; rw [uo_uo] at z_; exact z_
    refine R_iload_n (pc := 147) 4 dX12_offsets_147 rfl rfl ?_
    refine R_if_eq (pc := 148) (tgt := 158) dX12_offsets_148 (by decide) (fun c_28 => absurd c_28 (by decide)) (fun c_28 => ?_)
    refine R_aload_n (pc := 151) 3 dX12_offsets_151 rfl rfl ?_
    refine R_get (pc := 152) dX12_offsets_152 fX12_44 S_27.obj (by omega) rfl ?_
    refine R_goto (pc := 155) (tgt := 162) dX12_offsets_155 (by decide) ?_
    refine R_iload (pc := 162) 0 dX12_offsets_162 rfl ?_
    refine R_aload_n (pc := 164) 3 dX12_offsets_164 rfl rfl ?_
    refine R_get (pc := 165) dX12_offsets_165 fX12_65 S_27.obj (by omega) rfl ?_
    refine R_iconst (pc := 168) (v := 0) dX12_offsets_168 (by decide) ?_
    refine R_bipush (pc := 169) (v := 16) dX12_offsets_169 (by decide) ?_
    refine R_callSh (pc := 171) (μ' := mX12_add) (As := [.ref 72, .int (nI (16 * k)), .ref 79, .int (nI 0), .int 16]) (st := []) dX12_offsets_171 zX12_add lX12_143 ⟨by decide, by decide⟩ rfl rfl ⟨by decide, by decide⟩ rfl (Nat.le_of_ble_eq_true rfl) (oX12_add16 S_27 hn (p := 72) (q := 79) rfl rfl (16 * k) 0 (by show 16 * k + 16 ≤ 700; omega) (by show 0 + 16 ≤ 16; omega) (by decide)) (fun h_29 r_ q_30 => ?_)
    obtain ⟨rfl, S_31, F_32⟩ := q_30
    have S_33 : MO h_29 (uo (uo (uo ψ2 88 (pt (ψ2 88) 0 (xb (gt (ψ2 88) 0) (gt (ψ2 87) (16 * (2 + (tzG 7 (k + 1)))))))) 72 (pt (pt (pt (pt (ψ2 72) (16 * k) (gt (ψ2 71) (16 * k))) (16 * k) (xb (gt (pt (ψ2 72) (16 * k) (gt (ψ2 71) (16 * k))) (16 * k)) (gt (pt (ψ2 88) 0 (xb (gt (ψ2 88) 0) (gt (ψ2 87) (16 * (2 + (tzG 7 (k + 1))))))) 0))) (16 * k) (G (gt (pt (pt (ψ2 72) (16 * k) (gt (ψ2 71) (16 * k))) (16 * k) (xb (gt (pt (ψ2 72) (16 * k) (gt (ψ2 71) (16 * k))) (16 * k)) (gt (pt (ψ2 88) 0 (xb (gt (ψ2 88) 0) (gt (ψ2 87) (16 * (2 + (tzG 7 (k + 1))))))) 0))) (16 * k)))) (16 * k) (xb (gt (pt (pt (pt (ψ2 72) (16 * k) (gt (ψ2 71) (16 * k))) (16 * k) (xb (gt (pt (ψ2 72) (16 * k) (gt (ψ2 71) (16 * k))) (16 * k)) (gt (pt (ψ2 88) 0 (xb (gt (ψ2 88) 0) (gt (ψ2 87) (16 * (2 + (tzG 7 (k + 1))))))) 0))) (16 * k) (G (gt (pt (pt (ψ2 72) (16 * k) (gt (ψ2 71) (16 * k))) (16 * k) (xb (gt (pt (ψ2 72) (16 * k) (gt (ψ2 71) (16 * k))) (16 * k)) (gt (pt (ψ2 88) 0 (xb (gt (ψ2 88) 0) (gt (ψ2 87) (16 * (2 + (tzG 7 (k + 1))))))) 0))) (16 * k)))) (16 * k)) (gt (pt (ψ2 88) 0 (xb (gt (ψ2 88) 0) (gt (ψ2 87) (16 * (2 + (tzG 7 (k + 1))))))) 0)))) 79 (pt (ψ2 79) 0 (xb (gt (ψ2 79) 0) (gt (pt (pt (pt (pt (ψ2 72) (16 * k) (gt (ψ2 71) (16 * k))) (16 * k) (xb (gt (pt (ψ2 72) (16 * k) (gt (ψ2 71) (16 * k))) (16 * k)) (gt (pt (ψ2 88) 0 (xb (gt (ψ2 88) 0) (gt (ψ2 87) (16 * (2 + (tzG 7 (k + 1))))))) 0))) (16 * k) (G (gt (pt (pt (ψ2 72) (16 * k) (gt (ψ2 71) (16 * k))) (16 * k) (xb (gt (pt (ψ2 72) (16 * k) (gt (ψ2 71) (16 * k))) (16 * k)) (gt (pt (ψ2 88) 0 (xb (gt (ψ2 88) 0) (gt (ψ2 87) (16 * (2 + (tzG 7 (k + 1))))))) 0))) (16 * k)))) (16 * k) (xb (gt (pt (pt (pt (ψ2 72) (16 * k) (gt (ψ2 71) (16 * k))) (16 * k) (xb (gt (pt (ψ2 72) (16 * k) (gt (ψ2 71) (16 * k))) (16 * k)) (gt (pt (ψ2 88) 0 (xb (gt (ψ2 88) 0) (gt (ψ2 87) (16 * (2 + (tzG 7 (k + 1))))))) 0))) (16 * k) (G (gt (pt (pt (ψ2 72) (16 * k) (gt (ψ2 71) (16 * k))) (16 * k) (xb (gt (pt (ψ2 72) (16 * k) (gt (ψ2 71) (16 * k))) (16 * k)) (gt (pt (ψ2 88) 0 (xb (gt (ψ2 88) 0) (gt (ψ2 87) (16 * (2 + (tzG 7 (k + 1))))))) 0))) (16 * k)))) (16 * k)) (gt (pt (ψ2 88) 0 (xb (gt (ψ2 88) 0) (gt (ψ2 87) (16 * (2 + (tzG 7 (k + 1))))))) 0))) (16 * k))))) z i := S_31
    refine R_iinc (pc := 174) (j := 1) (v := nI (k + 1 + 1)) (lv' := [(4, .int (nI (k + 1 + 1))), (5, .int (nI (16 * k))), (3, .int (nI b)), (0, .ref 61), (1, .int 1), (2, .int (nI D.length))]) dX12_offsets_174 rfl (nI_add (k + 1) 1) (by decide) rfl ?_
    refine R_goto (pc := 177) (tgt := 30) dX12_offsets_177 (by decide) ?_
    refine R_sub [0, 2, 3, 4, 5] rfl ?_
    have eL : gt (ψ2 87) (16 * (2 + tzG 7 (k + 1))) = mvZ (nI (k + 1)) (dbl (dbl (F (0, 0)))) := by rw [hK 87 (by decide)]; exact mv_ls hls (by omega) (by omega)
    have eA : gt (ψ2 71) (16 * k) = rd D (16 * k) := by rw [hK 71 (by decide)]; exact gt_of fun k_ hk_ => sg0 hsD (by omega)
    have j1 : gt (pt (ψ2 88) 0 (xb (gt (ψ2 88) 0) (gt (ψ2 87) (16 * (2 + (tzG 7 (k + 1))))))) 0 = (osN F G true (dbl (F (0, 0))) D q0 (k + 1)).1 := by rw [gt_pt, hJ.1, eL]; rfl
    have eL2 : (osN F G true (dbl (F (0, 0))) D q0 k).2.2.length = 16 * k := osN_len _ _ _ _ _ _ _
    have j2 : gt (pt (ψ2 79) 0 (xb (gt (ψ2 79) 0) (gt (pt (pt (pt (pt (ψ2 72) (16 * k) (gt (ψ2 71) (16 * k))) (16 * k) (xb (gt (pt (ψ2 72) (16 * k) (gt (ψ2 71) (16 * k))) (16 * k)) (gt (pt (ψ2 88) 0 (xb (gt (ψ2 88) 0) (gt (ψ2 87) (16 * (2 + (tzG 7 (k + 1))))))) 0))) (16 * k) (G (gt (pt (pt (ψ2 72) (16 * k) (gt (ψ2 71) (16 * k))) (16 * k) (xb (gt (pt (ψ2 72) (16 * k) (gt (ψ2 71) (16 * k))) (16 * k)) (gt (pt (ψ2 88) 0 (xb (gt (ψ2 88) 0) (gt (ψ2 87) (16 * (2 + (tzG 7 (k + 1))))))) 0))) (16 * k)))) (16 * k) (xb (gt (pt (pt (pt (ψ2 72) (16 * k) (gt (ψ2 71) (16 * k))) (16 * k) (xb (gt (pt (ψ2 72) (16 * k) (gt (ψ2 71) (16 * k))) (16 * k)) (gt (pt (ψ2 88) 0 (xb (gt (ψ2 88) 0) (gt (ψ2 87) (16 * (2 + (tzG 7 (k + 1))))))) 0))) (16 * k) (G (gt (pt (pt (ψ2 72) (16 * k) (gt (ψ2 71) (16 * k))) (16 * k) (xb (gt (pt (ψ2 72) (16 * k) (gt (ψ2 71) (16 * k))) (16 * k)) (gt (pt (ψ2 88) 0 (xb (gt (ψ2 88) 0) (gt (ψ2 87) (16 * (2 + (tzG 7 (k + 1))))))) 0))) (16 * k)))) (16 * k)) (gt (pt (ψ2 88) 0 (xb (gt (ψ2 88) 0) (gt (ψ2 87) (16 * (2 + (tzG 7 (k + 1))))))) 0))) (16 * k)))) 0 = (osN F G true (dbl (F (0, 0))) D q0 (k + 1)).2.1 := by
      simp only [gt_pt, pt_pt]
      rw [hJ.2.1, eA, hJ.1, eL]
      rfl
    have j3 : sg (pt (pt (pt (pt (ψ2 72) (16 * k) (gt (ψ2 71) (16 * k))) (16 * k) (xb (gt (pt (ψ2 72) (16 * k) (gt (ψ2 71) (16 * k))) (16 * k)) (gt (pt (ψ2 88) 0 (xb (gt (ψ2 88) 0) (gt (ψ2 87) (16 * (2 + (tzG 7 (k + 1))))))) 0))) (16 * k) (G (gt (pt (pt (ψ2 72) (16 * k) (gt (ψ2 71) (16 * k))) (16 * k) (xb (gt (pt (ψ2 72) (16 * k) (gt (ψ2 71) (16 * k))) (16 * k)) (gt (pt (ψ2 88) 0 (xb (gt (ψ2 88) 0) (gt (ψ2 87) (16 * (2 + (tzG 7 (k + 1))))))) 0))) (16 * k)))) (16 * k) (xb (gt (pt (pt (pt (ψ2 72) (16 * k) (gt (ψ2 71) (16 * k))) (16 * k) (xb (gt (pt (ψ2 72) (16 * k) (gt (ψ2 71) (16 * k))) (16 * k)) (gt (pt (ψ2 88) 0 (xb (gt (ψ2 88) 0) (gt (ψ2 87) (16 * (2 + (tzG 7 (k + 1))))))) 0))) (16 * k) (G (gt (pt (pt (ψ2 72) (16 * k) (gt (ψ2 71) (16 * k))) (16 * k) (xb (gt (pt (ψ2 72) (16 * k) (gt (ψ2 71) (16 * k))) (16 * k)) (gt (pt (ψ2 88) 0 (xb (gt (ψ2 88) 0) (gt (ψ2 87) (16 * (2 + (tzG 7 (k + 1))))))) 0))) (16 * k)))) (16 * k)) (gt (pt (ψ2 88) 0 (xb (gt (ψ2 88) 0) (gt (ψ2 87) (16 * (2 + (tzG 7 (k + 1))))))) 0))) 0 (osN F G true (dbl (F (0, 0))) D q0 (k + 1)).2.2 := by
      simp only [gt_pt, pt_pt]
      rw [hJ.1, eL, eA]
      exact hJ.2.2.pt _ (by rw [eL2, Nat.zero_add]) rfl
    exact ih (k + 1) (by omega) h_29 _ S_33 (((hK.up (by decide)).up (by decide)).up (by decide)) (⟨j1, j2, j3⟩) (hF.tr (((((F_5.tr F_10).tr F_15).tr F_21).tr F_26).tr F_32))
set_option maxHeartbeats 1000000 in
set_option maxRecDepth 100000 in
theorem qX12_offsets_ro {l : Launch} {w : am_W} {h : am_H} {n : Nat} {ψ : Nat → oA} {z : fA} {i : mI} (hn : 90 ≤ n) (D : List (BitVec 8)) (b r : Nat) (hL : D.length = 16 * b + r) (hr : r < 16) (hD : D.length ≤ 512) {Q : am_H → Nat → Option Value → Prop} (kk : ∀ h2 ψ2, MO h2 ψ2 z i → FR [72, 79] ψ ψ2 → ψ2 72 = pgB (fun j => ψ 71 (16 * b + j) ^^^ ψ 76 j) (ψ 72) (16 * b) r ∧ ψ2 79 = pgB (fun j => ψ 79 j ^^^ (ψ 71 (16 * b + j) ^^^ ψ 76 j)) (ψ 79) 0 r → FM h h2 → RW l w mX12_offsets h2 n 0 0 322 [(5, .int (nI r)), (4, .int (nI r)), (3, .int (nI b)), (0, .ref 61), (1, .int 1), (2, .int (nI D.length))] [] Q) : ∀ (dd k : Nat), k + dd = r → ∀ h2 ψ2, MO h2 ψ2 z i → FR [72, 79] ψ ψ2 → ψ2 72 = pgB (fun j => ψ 71 (16 * b + j) ^^^ ψ 76 j) (ψ 72) (16 * b) k ∧ ψ2 79 = pgB (fun j => ψ 79 j ^^^ (ψ 71 (16 * b + j) ^^^ ψ 76 j)) (ψ 79) 0 k → FM h h2 → RW l w mX12_offsets h2 n 0 0 236 [(5, .int (nI k)), (4, .int (nI r)), (3, .int (nI b)), (0, .ref 61), (1, .int 1), (2, .int (nI D.length))] [] Q := by
  intro dd
  induction dd with
  | zero =>
    intro k hd h2 ψ2 S2 hK hJ hF
    refine R_iload (pc := 236) 0 dX12_offsets_236 rfl ?_
    refine R_iload (pc := 238) 1 dX12_offsets_238 rfl ?_
    refine R_icmp_ge (pc := 240) (tgt := 322) dX12_offsets_240 (by decide) (fun c_1 => ?_) (fun c_1 => absurd (nI_le (a := r) (b := k) (by omega) (by omega)) c_1)
    obtain rfl : k = r := by omega
    exact kk h2 ψ2 S2 hK hJ hF
  | succ dd ih =>
    intro k hd h2 ψ2 S2 hK hJ hF
    refine R_iload (pc := 236) 0 dX12_offsets_236 rfl ?_
    refine R_iload (pc := 238) 1 dX12_offsets_238 rfl ?_
    refine R_icmp_ge (pc := 240) (tgt := 322) dX12_offsets_240 (by decide) (fun c_1 => absurd c_1 (nI_ge (a := k) (b := r) (by omega) (by omega))) (fun c_1 => ?_)
    refine R_aload_n (pc := 243) 3 dX12_offsets_243 rfl rfl ?_
    refine R_get (pc := 244) dX12_offsets_244 fX12_44 S2.obj (by omega) rfl ?_
    refine R_bipush (pc := 247) (v := 16) dX12_offsets_247 (by decide) ?_
    refine R_iload_n (pc := 249) 2 dX12_offsets_249 rfl rfl ?_
    refine R_imul (pc := 250) dX12_offsets_250 ?_
    refine R_eqi (y := nI (16 * b)) (nI_mul 16 b) ?_
    refine R_iload (pc := 251) 0 dX12_offsets_251 rfl ?_
    refine R_iadd (pc := 253) dX12_offsets_253 ?_
    refine R_eqi (y := nI (16 * b + k)) (nI_add (16 * b) k) ?_
    refine R_aload_n (pc := 254) 3 dX12_offsets_254 rfl rfl ?_
    refine R_get (pc := 255) dX12_offsets_255 fX12_41 S2.obj (by omega) rfl ?_
    refine R_bipush (pc := 258) (v := 16) dX12_offsets_258 (by decide) ?_
    refine R_iload_n (pc := 260) 2 dX12_offsets_260 rfl rfl ?_
    refine R_imul (pc := 261) dX12_offsets_261 ?_
    refine R_eqi (y := nI (16 * b)) (nI_mul 16 b) ?_
    refine R_iload (pc := 262) 0 dX12_offsets_262 rfl ?_
    refine R_iadd (pc := 264) dX12_offsets_264 ?_
    refine R_eqi (y := nI (16 * b + k)) (nI_add (16 * b) k) ?_
    refine R_iald' (pc := 265) (j := 16 * b + k) dX12_offsets_265 (S2.arr (p := 71) rfl) (by omega) ⟨rfl, by show 16 * b + k < 700; omega, by decide⟩ ?_
    refine R_eqi (y := oc (ψ2 71 (16 * b + k))) rfl ?_
    refine R_aload_n (pc := 266) 3 dX12_offsets_266 rfl rfl ?_
    refine R_get (pc := 267) dX12_offsets_267 fX12_56 S2.obj (by omega) rfl ?_
    refine R_iload (pc := 270) 0 dX12_offsets_270 rfl ?_
    refine R_iald' (pc := 272) (j := k) dX12_offsets_272 (S2.arr (p := 76) rfl) (by omega) ⟨rfl, by show k < 16; omega, by decide⟩ ?_
    refine R_eqi (y := oc (ψ2 76 k)) rfl ?_
    refine R_ixor (pc := 273) dX12_offsets_273 ?_
    refine R_eqi (y := oc ((ψ2 71 (16 * b + k)) ^^^ (ψ2 76 k))) (oc_xor _ _) ?_
    refine R_iast' (pc := 274) (j := 16 * b + k) dX12_offsets_274 (S2.arr (p := 72) rfl) (by omega) ⟨rfl, by show 16 * b + k < 700; omega, by decide⟩ (fun h_2 f_3 g_4 => ?_)
    have S_6 : MO h_2 (uo ψ2 72 (updB (ψ2 72) (16 * b + k) ((ψ2 71 (16 * b + k)) ^^^ (ψ2 76 k)))) z i := MO.setA (p := 72) S2 rfl f_3 g_4 (fun j_ => congrFun (upd_oc _ _ _) j_)
    have F_5 := fmA (p := 72) (okA_c (by decide)).1 g_4
    refine R_aload_n (pc := 275) 3 dX12_offsets_275 rfl rfl ?_
    refine R_get (pc := 276) dX12_offsets_276 fX12_65 S_6.obj (by omega) rfl ?_
    refine R_iload (pc := 279) 0 dX12_offsets_279 rfl ?_
    refine R_dup2 (pc := 281) dX12_offsets_281 rfl rfl ?_
    refine R_iald' (pc := 282) (j := k) dX12_offsets_282 (S_6.arr (p := 79) rfl) (by omega) ⟨rfl, by show k < 16; omega, by decide⟩ ?_
    refine R_eqi (y := oc (ψ2 79 k)) rfl ?_
    refine R_iload_n (pc := 283) 4 dX12_offsets_283 rfl rfl ?_
    refine R_if_eq (pc := 284) (tgt := 302) dX12_offsets_284 (by decide) (fun c_7 => absurd c_7 (by decide)) (fun c_7 => ?_)
    refine R_aload_n (pc := 287) 3 dX12_offsets_287 rfl rfl ?_
    refine R_get (pc := 288) dX12_offsets_288 fX12_44 S_6.obj (by omega) rfl ?_
    refine R_bipush (pc := 291) (v := 16) dX12_offsets_291 (by decide) ?_
    refine R_iload_n (pc := 293) 2 dX12_offsets_293 rfl rfl ?_
    refine R_imul (pc := 294) dX12_offsets_294 ?_
    refine R_eqi (y := nI (16 * b)) (nI_mul 16 b) ?_
    refine R_iload (pc := 295) 0 dX12_offsets_295 rfl ?_
    refine R_iadd (pc := 297) dX12_offsets_297 ?_
    refine R_eqi (y := nI (16 * b + k)) (nI_add (16 * b) k) ?_
    refine R_iald' (pc := 298) (j := 16 * b + k) dX12_offsets_298 (S_6.arr (p := 72) rfl) (by omega) ⟨rfl, by show 16 * b + k < 700; omega, by decide⟩ ?_
    refine R_eqi (y := oc ((updB (ψ2 72) (16 * b + k) ((ψ2 71 (16 * b + k)) ^^^ (ψ2 76 k))) (16 * b + k))) rfl ?_
    refine R_goto (pc := 299) (tgt := 314) dX12_offsets_299 (by decide) ?_
    refine R_ixor (pc := 314) dX12_offsets_314 ?_
    refine R_eqi (y := oc ((ψ2 79 k) ^^^ ((updB (ψ2 72) (16 * b + k) ((ψ2 71 (16 * b + k)) ^^^ (ψ2 76 k))) (16 * b + k)))) (oc_xor _ _) ?_
    refine R_iast' (pc := 315) (j := k) dX12_offsets_315 (S_6.arr (p := 79) rfl) (by omega) ⟨rfl, by show k < 16; omega, by decide⟩ (fun h_8 f_9 g_10 => ?_)
    have S_12 : MO h_8 (uo (uo ψ2 72 (updB (ψ2 72) (16 * b + k) ((ψ2 71 (16 * b + k)) ^^^ (ψ2 76 k)))) 79 (updB (ψ2 79) k ((ψ2 79 k) ^^^ ((updB (ψ2 72) (16 * b + k) ((ψ2 71 (16 * b + k)) ^^^ (ψ2 76 k))) (16 * b + k))))) z i := MO.setA (p := 79) S_6 rfl f_9 g_10 (fun j_ => congrFun (upd_oc _ _ _) j_)
    have F_11 := fmA (p := 79) (okA_c (by decide)).1 g_10
    refine R_iinc (pc := 316) (j := 0) (v := nI (k + 1)) (lv' := [(5, .int (nI (k + 1))), (4, .int (nI r)), (3, .int (nI b)), (0, .ref 61), (1, .int 1), (2, .int (nI D.length))]) dX12_offsets_316 rfl (nI_add _ _) (by decide) rfl ?_
    refine R_goto (pc := 319) (tgt := 236) dX12_offsets_319 (by decide) ?_
    refine R_sub [0, 1, 2, 3, 4, 5] rfl ?_
    have e71 : ψ2 71 = ψ 71 := hK 71 (by decide)
    have e76 : ψ2 76 = ψ 76 := hK 76 (by decide)
    have j1 : updB (ψ2 72) (16 * b + k) ((ψ2 71 (16 * b + k)) ^^^ (ψ2 76 k)) = pgB (fun j => ψ 71 (16 * b + j) ^^^ ψ 76 j) (ψ 72) (16 * b) (k + 1) := by rw [hJ.1]; exact pgB_up _ _ rfl (by rw [e71, e76])
    have j2 : updB (ψ2 79) k ((ψ2 79 k) ^^^ ((updB (ψ2 72) (16 * b + k) ((ψ2 71 (16 * b + k)) ^^^ (ψ2 76 k))) (16 * b + k))) = pgB (fun j => ψ 79 j ^^^ (ψ 71 (16 * b + j) ^^^ ψ 76 j)) (ψ 79) 0 (k + 1) := by rw [hJ.2]; exact pgB_up _ _ (by omega) (by rw [updB_s, pgB_out _ _ (by omega), e71, e76])
    exact ih (k + 1) (by omega) h_8 _ S_12 ((hK.up (by decide)).up (by decide)) (⟨j1, j2⟩) (hF.tr (F_5.tr F_11))
set_option maxHeartbeats 1000000 in
set_option maxRecDepth 100000 in
theorem oX12_offsets_o {l : Launch} {w : am_W} {h : am_H} {n : Nat} {ψ : Nat → oA} {z : fA} {i : mI} (S : MO h ψ z i) (hn : 90 ≤ n) (A N D : List (BitVec 8)) (b r mm : Nat) (hL : D.length = 16 * b + r) (hr : r < 16) (hA : A.length ≤ 256) (hN1 : 1 ≤ N.length) (hN : N.length ≤ 15) (hD : D.length ≤ 512) (hmm : 4 ≤ mm) (hmm16 : mm ≤ 16) (hi1 : i 1 = nI mm) (hi5 : i 5 = nI N.length) (hi6 : i 6 = nI A.length) (hsA : sg (ψ 74) 0 A) (hsN : sg (ψ 73) 0 N) (hsD : sg (ψ 71) 0 D) {F G : bP → bP} (K0 : Kh ψ 0 F G) : RH l w mX12_offsets h n [.ref 61, .int 1, .int (nI D.length)] (fun h2 q => ∃ ψ2, q = none ∧ MO h2 ψ2 z i ∧ FR [72, 76, 78, 79, 85, 87, 88, 89, 90] ψ ψ2 ∧ (sg (ψ2 72) 0 (osF F G true D (bgO F N (nI mm))).2.2 ∧ gt (ψ2 85) 0 = osTag F G true D A (bgO F N (nI mm))) ∧ FM h h2) := by
  refine RC.of [(0, .ref 61), (1, .int 1), (2, .int (nI D.length))] (by decide +kernel) rfl (Nat.le_of_ble_eq_true rfl) ?_
  refine R_aload_n (pc := 0) 0 dX12_offsets_0 rfl rfl ?_
  refine R_callVh (pc := 1) (μ' := mX12_prepareOffsets) (As := []) (st := []) dX12_offsets_1 zX12_prepareOffsets lX12_226 ⟨by decide, by decide⟩ rfl rfl ⟨by decide, by decide⟩ S.obj (by omega) rfl (Nat.le_of_ble_eq_true rfl) (oX12_prepareOffsets S hn K0) (fun h_1 r_ q_2 => ?_)
  obtain ⟨ψ_6, rfl, S_3, K_5, J_7, F_4⟩ := q_2
  have K_8 := K0.fr K_5 (by decide) (by decide) (by decide) (by decide)
  have ls1 : ∀ m, m < 10 → gt (ψ_6 87) (16 * m) = dbN m (F (0, 0)) := J_7
  refine R_aload_n (pc := 4) 0 dX12_offsets_4 rfl rfl ?_
  refine R_callVh (pc := 5) (μ' := mX12_hashAside) (As := []) (st := []) dX12_offsets_5 zX12_hashAside lX12_229 ⟨by decide, by decide⟩ rfl rfl ⟨by decide, by decide⟩ S_3.obj (by omega) rfl (Nat.le_of_ble_eq_true rfl) (oX12_hashAside S_3 hn A (A.length / 16) hA rfl hi6 (by rw [(show FR [72, 76, 78, 79, 85, 87, 88, 89, 90] ψ _ from ((FR.rf _ _).tr K_5 (by decide))) 74 (by decide)]; exact hsA) K_8 ls1) (fun h_9 r_ q_10 => ?_)
  obtain ⟨ψ_14, rfl, S_11, K_13, J_15, F_12⟩ := q_10
  have K_16 := K_8.fr K_13 (by decide) (by decide) (by decide) (by decide)
  have hh2 : gt (ψ_14 89) 0 = ahT F (dbl (F (0, 0))) (F (0, 0)) A (0, 0) := J_15
  have ls2 : ∀ m, m < 10 → gt (ψ_14 87) (16 * m) = dbN m (F (0, 0)) := by rw [K_13 87 (by decide)]; exact ls1
  refine R_aload_n (pc := 8) 0 dX12_offsets_8 rfl rfl ?_
  refine R_callVh (pc := 9) (μ' := mX12_firstOffset) (As := []) (st := []) dX12_offsets_9 zX12_firstOffset lX12_232 ⟨by decide, by decide⟩ rfl rfl ⟨by decide, by decide⟩ S_11.obj (by omega) rfl (Nat.le_of_ble_eq_true rfl) (oX12_firstOffset S_11 hn N mm hN1 hN hmm hmm16 hi1 hi5 (by rw [(show FR [72, 76, 78, 79, 85, 87, 88, 89, 90] ψ _ from (((FR.rf _ _).tr K_5 (by decide)).tr K_13 (by decide))) 73 (by decide)]; exact hsN) K_16) (fun h_17 r_ q_18 => ?_)
  obtain ⟨ψ_22, rfl, S_19, K_21, J_23, F_20⟩ := q_18
  have K_24 := K_16.fr K_21 (by decide) (by decide) (by decide) (by decide)
  have oo3 : gt (ψ_22 88) 0 = (bgO F N (nI mm)) := J_23
  have hh3 : gt (ψ_22 89) 0 = ahT F (dbl (F (0, 0))) (F (0, 0)) A (0, 0) := by rw [K_21 89 (by decide)]; exact hh2
  have ls3 : ∀ m, m < 10 → gt (ψ_22 87) (16 * m) = dbN m (F (0, 0)) := by rw [K_21 87 (by decide)]; exact ls2
  have e71 : ψ_22 71 = ψ 71 := (show FR [72, 76, 78, 79, 85, 87, 88, 89, 90] ψ _ from ((((FR.rf _ _).tr K_5 (by decide)).tr K_13 (by decide)).tr K_21 (by decide))) 71 (by decide)
  refine R_aload_n (pc := 12) 0 dX12_offsets_12 rfl rfl ?_
  refine R_get (pc := 13) dX12_offsets_13 fX12_65 S_19.obj (by omega) rfl ?_
  refine R_iconst (pc := 16) (v := 0) dX12_offsets_16 (by decide) ?_
  refine R_bipush (pc := 17) (v := 16) dX12_offsets_17 (by decide) ?_
  refine R_callSh (pc := 19) (μ' := mX12_clear) (As := [.ref 79, .int 0, .int 16]) (st := []) dX12_offsets_19 zX12_clear lX12_164 ⟨by decide, by decide⟩ rfl rfl ⟨by decide, by decide⟩ rfl (Nat.le_of_ble_eq_true rfl) (oX12_clear16 S_19 hn (q := 79) rfl (by decide)) (fun h_25 r_ q_26 => ?_)
  obtain ⟨rfl, S_27, F_28⟩ := q_26
  have S_29 : MO h_25 (uo ψ_22 79 (pt (ψ_22 79) 0 (0, 0))) z i := S_27
  refine R_iload_n (pc := 22) 2 dX12_offsets_22 rfl rfl ?_
  refine R_bipush (pc := 23) (v := 16) dX12_offsets_23 (by decide) ?_
  refine R_idiv (pc := 25) dX12_offsets_25 (by decide) ?_
  refine R_eqi (y := nI b) ((nI_div (a := D.length) (b := 16) (by omega) (by omega)).trans (congrArg nI (by omega))) ?_
  refine R_istore_n (pc := 26) (lv' := [(3, .int (nI b)), (0, .ref 61), (1, .int 1), (2, .int (nI D.length))]) dX12_offsets_26 rfl (by decide) rfl ?_
  refine R_iconst (pc := 27) (v := 1) dX12_offsets_27 (by decide) ?_
  refine R_istore (pc := 28) (lv' := [(4, .int 1), (3, .int (nI b)), (0, .ref 61), (1, .int 1), (2, .int (nI D.length))]) dX12_offsets_28 (by decide) rfl ?_
  refine R_sub [0, 1, 2, 3, 4] rfl ?_
  refine qX12_offsets_o (h := h) (ψ := (uo ψ_22 79 (pt (ψ_22 79) 0 (0, 0)))) hn D b r hL hr hD (K_24.uo (by decide)) (bgO F N (nI mm)) (show sg (ψ_22 71) 0 D by rw [e71]; exact hsD) ls3 (fun h2 ψ2 S2 hK hJ hF => ?_) b 0 (by omega) h_25 _ S_29 (FR.rf _ _) ⟨oo3, (gt_pt _ _ _).trans rfl, sg.nil _ _⟩ (((F_4.tr F_12).tr F_20).tr F_28)
  have K_30 := (K_24.uo (by decide)).fr hK (by decide) (by decide) (by decide) (by decide)
  have hh4 : gt (ψ2 89) 0 = ahT F (dbl (F (0, 0))) (F (0, 0)) A (0, 0) := by rw [hK 89 (by decide)]; exact hh3
  have l0 : gt (ψ2 87) 0 = (F (0, 0)) := by rw [hK 87 (by decide)]; exact ls3 0 (by omega)
  have l1 : gt (ψ2 87) 16 = dbl (F (0, 0)) := by rw [hK 87 (by decide)]; exact ls3 1 (by omega)
  have d71 : ψ2 71 = ψ 71 := by rw [hK 71 (by decide)]; exact e71
  refine R_iload_n (pc := 180) 4 dX12_offsets_180 rfl rfl ?_
  refine R_bipush (pc := 181) (v := 16) dX12_offsets_181 (by decide) ?_
  refine R_iload_n (pc := 183) 1 dX12_offsets_183 rfl rfl ?_
  refine R_imul (pc := 184) dX12_offsets_184 ?_
  refine R_eqi (y := nI (16 * b)) (nI_mul 16 b) ?_
  refine R_isub (pc := 185) dX12_offsets_185 ?_
  refine R_eqi (y := nI r) ((nI_sb (a := D.length) (b := 16 * b) (by omega)).trans (congrArg nI (by omega))) ?_
  refine R_istore (pc := 186) (lv' := [(4, .int (nI r)), (3, .int (nI b)), (0, .ref 61), (1, .int 1), (2, .int (nI D.length))]) dX12_offsets_186 (by decide) rfl ?_
  refine R_iload (pc := 188) 0 dX12_offsets_188 rfl ?_
  refine R_if_le (pc := 190) (tgt := 335) dX12_offsets_190 (by decide) (fun c_31 => ?_) (fun c_31 => ?_)
  · skip
    have nc_31 : r ≤ 0 := (nI_leI (a := r) (b := 0) (by omega) (by omega)).mp c_31
    refine R_aload_n (pc := 335) 2 dX12_offsets_335 rfl rfl ?_
    refine R_get (pc := 336) dX12_offsets_336 fX12_65 S2.obj (by omega) rfl ?_
    refine R_iconst (pc := 339) (v := 0) dX12_offsets_339 (by decide) ?_
    refine R_aload_n (pc := 340) 2 dX12_offsets_340 rfl rfl ?_
    refine R_get (pc := 341) dX12_offsets_341 fX12_83 S2.obj (by omega) rfl ?_
    refine R_iconst (pc := 344) (v := 0) dX12_offsets_344 (by decide) ?_
    refine R_bipush (pc := 345) (v := 16) dX12_offsets_345 (by decide) ?_
    refine R_callSh (pc := 347) (μ' := mX12_copy) (As := [.ref 79, .int (nI 0), .ref 85, .int (nI 0), .int 16]) (st := []) dX12_offsets_347 zX12_copy lX12_133 ⟨by decide, by decide⟩ rfl rfl ⟨by decide, by decide⟩ rfl (Nat.le_of_ble_eq_true rfl) (oX12_copy16 S2 hn (p := 79) (q := 85) rfl rfl 0 0 (by show 0 + 16 ≤ 16; omega) (by show 0 + 16 ≤ 16; omega) (by decide)) (fun h_32 r_ q_33 => ?_)
    obtain ⟨rfl, S_34, F_35⟩ := q_33
    have S_36 : MO h_32 (uo ψ2 85 (pt (ψ2 85) 0 (gt (ψ2 79) 0))) z i := S_34
    refine R_aload_n (pc := 350) 2 dX12_offsets_350 rfl rfl ?_
    refine R_get (pc := 351) dX12_offsets_351 fX12_92 S_36.obj (by omega) rfl ?_
    refine R_iconst (pc := 354) (v := 0) dX12_offsets_354 (by decide) ?_
    refine R_aload_n (pc := 355) 2 dX12_offsets_355 rfl rfl ?_
    refine R_get (pc := 356) dX12_offsets_356 fX12_83 S_36.obj (by omega) rfl ?_
    refine R_iconst (pc := 359) (v := 0) dX12_offsets_359 (by decide) ?_
    refine R_bipush (pc := 360) (v := 16) dX12_offsets_360 (by decide) ?_
    refine R_callSh (pc := 362) (μ' := mX12_add) (As := [.ref 88, .int (nI 0), .ref 85, .int (nI 0), .int 16]) (st := []) dX12_offsets_362 zX12_add lX12_143 ⟨by decide, by decide⟩ rfl rfl ⟨by decide, by decide⟩ rfl (Nat.le_of_ble_eq_true rfl) (oX12_add16 S_36 hn (p := 88) (q := 85) rfl rfl 0 0 (by show 0 + 16 ≤ 16; omega) (by show 0 + 16 ≤ 16; omega) (by decide)) (fun h_37 r_ q_38 => ?_)
    obtain ⟨rfl, S_39, F_40⟩ := q_38
    have S_41 : MO h_37 (uo ψ2 85 (pt (pt (ψ2 85) 0 (gt (ψ2 79) 0)) 0 (xb (gt (pt (ψ2 85) 0 (gt (ψ2 79) 0)) 0) (gt (ψ2 88) 0)))) z i := by have z_ := S_39; rw [uo_uo] at z_; exact z_
    refine R_aload_n (pc := 365) 2 dX12_offsets_365 rfl rfl ?_
    refine R_get (pc := 366) dX12_offsets_366 fX12_89 S_41.obj (by omega) rfl ?_
    refine R_bipush (pc := 369) (v := 16) dX12_offsets_369 (by decide) ?_
    refine R_aload_n (pc := 371) 2 dX12_offsets_371 rfl rfl ?_
    refine R_get (pc := 372) dX12_offsets_372 fX12_83 S_41.obj (by omega) rfl ?_
    refine R_iconst (pc := 375) (v := 0) dX12_offsets_375 (by decide) ?_
    refine R_bipush (pc := 376) (v := 16) dX12_offsets_376 (by decide) ?_
    refine R_callSh (pc := 378) (μ' := mX12_add) (As := [.ref 87, .int (nI 16), .ref 85, .int (nI 0), .int 16]) (st := []) dX12_offsets_378 zX12_add lX12_143 ⟨by decide, by decide⟩ rfl rfl ⟨by decide, by decide⟩ rfl (Nat.le_of_ble_eq_true rfl) (oX12_add16 S_41 hn (p := 87) (q := 85) rfl rfl 16 0 (by show 16 + 16 ≤ 160; omega) (by show 0 + 16 ≤ 16; omega) (by decide)) (fun h_42 r_ q_43 => ?_)
    obtain ⟨rfl, S_44, F_45⟩ := q_43
    have S_46 : MO h_42 (uo ψ2 85 (pt (pt (pt (ψ2 85) 0 (gt (ψ2 79) 0)) 0 (xb (gt (pt (ψ2 85) 0 (gt (ψ2 79) 0)) 0) (gt (ψ2 88) 0))) 0 (xb (gt (pt (pt (ψ2 85) 0 (gt (ψ2 79) 0)) 0 (xb (gt (pt (ψ2 85) 0 (gt (ψ2 79) 0)) 0) (gt (ψ2 88) 0))) 0) (gt (ψ2 87) 16)))) z i := by have z_ := S_44; rw [uo_uo] at z_; exact z_
    refine R_aload_n (pc := 381) 2 dX12_offsets_381 rfl rfl ?_
    refine R_iconst (pc := 382) (v := 0) dX12_offsets_382 (by decide) ?_
    refine R_aload_n (pc := 383) 2 dX12_offsets_383 rfl rfl ?_
    refine R_get (pc := 384) dX12_offsets_384 fX12_83 S_46.obj (by omega) rfl ?_
    refine R_iconst (pc := 387) (v := 0) dX12_offsets_387 (by decide) ?_
    refine R_callVh (pc := 388) (μ' := mX12_sealBlock) (As := [.int (nI 0), .ref 85, .int (nI 0)]) (st := []) dX12_offsets_388 zX12_sealBlock lX12_146 ⟨by decide, by decide⟩ rfl rfl ⟨by decide, by decide⟩ S_46.obj (by omega) rfl (Nat.le_of_ble_eq_true rfl) (oX12_sealBlock S_46 hn (K_30.uo (by decide)) (p := 85) rfl 0 (by show 0 + 16 ≤ 16; omega)) (fun h_47 r_ q_48 => ?_)
    obtain ⟨rfl, S_49, F_50⟩ := q_48
    have S_51 : MO h_47 (uo ψ2 85 (pt (pt (pt (pt (ψ2 85) 0 (gt (ψ2 79) 0)) 0 (xb (gt (pt (ψ2 85) 0 (gt (ψ2 79) 0)) 0) (gt (ψ2 88) 0))) 0 (xb (gt (pt (pt (ψ2 85) 0 (gt (ψ2 79) 0)) 0 (xb (gt (pt (ψ2 85) 0 (gt (ψ2 79) 0)) 0) (gt (ψ2 88) 0))) 0) (gt (ψ2 87) 16))) 0 (F (gt (pt (pt (pt (ψ2 85) 0 (gt (ψ2 79) 0)) 0 (xb (gt (pt (ψ2 85) 0 (gt (ψ2 79) 0)) 0) (gt (ψ2 88) 0))) 0 (xb (gt (pt (pt (ψ2 85) 0 (gt (ψ2 79) 0)) 0 (xb (gt (pt (ψ2 85) 0 (gt (ψ2 79) 0)) 0) (gt (ψ2 88) 0))) 0) (gt (ψ2 87) 16))) 0)))) z i := by have z_ := S_49; rw [uo_uo] at z_; exact z_
    refine R_aload_n (pc := 391) 2 dX12_offsets_391 rfl rfl ?_
    refine R_get (pc := 392) dX12_offsets_392 fX12_95 S_51.obj (by omega) rfl ?_
    refine R_iconst (pc := 395) (v := 0) dX12_offsets_395 (by decide) ?_
    refine R_aload_n (pc := 396) 2 dX12_offsets_396 rfl rfl ?_
    refine R_get (pc := 397) dX12_offsets_397 fX12_83 S_51.obj (by omega) rfl ?_
    refine R_iconst (pc := 400) (v := 0) dX12_offsets_400 (by decide) ?_
    refine R_bipush (pc := 401) (v := 16) dX12_offsets_401 (by decide) ?_
    refine R_callSh (pc := 403) (μ' := mX12_add) (As := [.ref 89, .int (nI 0), .ref 85, .int (nI 0), .int 16]) (st := []) dX12_offsets_403 zX12_add lX12_143 ⟨by decide, by decide⟩ rfl rfl ⟨by decide, by decide⟩ rfl (Nat.le_of_ble_eq_true rfl) (oX12_add16 S_51 hn (p := 89) (q := 85) rfl rfl 0 0 (by show 0 + 16 ≤ 16; omega) (by show 0 + 16 ≤ 16; omega) (by decide)) (fun h_52 r_ q_53 => ?_)
    obtain ⟨rfl, S_54, F_55⟩ := q_53
    have S_56 : MO h_52 (uo ψ2 85 (pt (pt (pt (pt (pt (ψ2 85) 0 (gt (ψ2 79) 0)) 0 (xb (gt (pt (ψ2 85) 0 (gt (ψ2 79) 0)) 0) (gt (ψ2 88) 0))) 0 (xb (gt (pt (pt (ψ2 85) 0 (gt (ψ2 79) 0)) 0 (xb (gt (pt (ψ2 85) 0 (gt (ψ2 79) 0)) 0) (gt (ψ2 88) 0))) 0) (gt (ψ2 87) 16))) 0 (F (gt (pt (pt (pt (ψ2 85) 0 (gt (ψ2 79) 0)) 0 (xb (gt (pt (ψ2 85) 0 (gt (ψ2 79) 0)) 0) (gt (ψ2 88) 0))) 0 (xb (gt (pt (pt (ψ2 85) 0 (gt (ψ2 79) 0)) 0 (xb (gt (pt (ψ2 85) 0 (gt (ψ2 79) 0)) 0) (gt (ψ2 88) 0))) 0) (gt (ψ2 87) 16))) 0))) 0 (xb (gt (pt (pt (pt (pt (ψ2 85) 0 (gt (ψ2 79) 0)) 0 (xb (gt (pt (ψ2 85) 0 (gt (ψ2 79) 0)) 0) (gt (ψ2 88) 0))) 0 (xb (gt (pt (pt (ψ2 85) 0 (gt (ψ2 79) 0)) 0 (xb (gt (pt (ψ2 85) 0 (gt (ψ2 79) 0)) 0) (gt (ψ2 88) 0))) 0) (gt (ψ2 87) 16))) 0 (F (gt (pt (pt (pt (ψ2 85) 0 (gt (ψ2 79) 0)) 0 (xb (gt (pt (ψ2 85) 0 (gt (ψ2 79) 0)) 0) (gt (ψ2 88) 0))) 0 (xb (gt (pt (pt (ψ2 85) 0 (gt (ψ2 79) 0)) 0 (xb (gt (pt (ψ2 85) 0 (gt (ψ2 79) 0)) 0) (gt (ψ2 88) 0))) 0) (gt (ψ2 87) 16))) 0))) 0) (gt (ψ2 89) 0)))) z i := by have z_ := S_54; rw [uo_uo] at z_; exact z_
    have hO : (osF F G true D (bgO F N (nI mm))) = (osN F G true (dbl (F (0, 0))) D (bgO F N (nI mm)) b) := by unfold osF; rw [show D.length / 16 = b by omega, show D.length % 16 = 0 by omega]; rfl
    have hz : sg (ψ2 72) 0 (osF F G true D (bgO F N (nI mm))).2.2 := by rw [hO]; exact hJ.2.2
    have hy : gt (pt (pt (pt (pt (pt (ψ2 85) 0 (gt (ψ2 79) 0)) 0 (xb (gt (pt (ψ2 85) 0 (gt (ψ2 79) 0)) 0) (gt (ψ2 88) 0))) 0 (xb (gt (pt (pt (ψ2 85) 0 (gt (ψ2 79) 0)) 0 (xb (gt (pt (ψ2 85) 0 (gt (ψ2 79) 0)) 0) (gt (ψ2 88) 0))) 0) (gt (ψ2 87) 16))) 0 (F (gt (pt (pt (pt (ψ2 85) 0 (gt (ψ2 79) 0)) 0 (xb (gt (pt (ψ2 85) 0 (gt (ψ2 79) 0)) 0) (gt (ψ2 88) 0))) 0 (xb (gt (pt (pt (ψ2 85) 0 (gt (ψ2 79) 0)) 0 (xb (gt (pt (ψ2 85) 0 (gt (ψ2 79) 0)) 0) (gt (ψ2 88) 0))) 0) (gt (ψ2 87) 16))) 0))) 0 (xb (gt (pt (pt (pt (pt (ψ2 85) 0 (gt (ψ2 79) 0)) 0 (xb (gt (pt (ψ2 85) 0 (gt (ψ2 79) 0)) 0) (gt (ψ2 88) 0))) 0 (xb (gt (pt (pt (ψ2 85) 0 (gt (ψ2 79) 0)) 0 (xb (gt (pt (ψ2 85) 0 (gt (ψ2 79) 0)) 0) (gt (ψ2 88) 0))) 0) (gt (ψ2 87) 16))) 0 (F (gt (pt (pt (pt (ψ2 85) 0 (gt (ψ2 79) 0)) 0 (xb (gt (pt (ψ2 85) 0 (gt (ψ2 79) 0)) 0) (gt (ψ2 88) 0))) 0 (xb (gt (pt (pt (ψ2 85) 0 (gt (ψ2 79) 0)) 0 (xb (gt (pt (ψ2 85) 0 (gt (ψ2 79) 0)) 0) (gt (ψ2 88) 0))) 0) (gt (ψ2 87) 16))) 0))) 0) (gt (ψ2 89) 0))) 0 = osTag F G true D A (bgO F N (nI mm)) := by
      unfold osTag
      rw [ahT_g]
      simp only [gt_pt, pt_pt]
      rw [hJ.2.1, hJ.1, l1, hh4, hO]
    exact R_vreturn (pc := 406) dX12_offsets_406 rfl (by decide) (by decide) ⟨rfl, _, rfl, S_56, (((((((FR.rf _ _).tr K_5 (by decide)).tr K_13 (by decide)).tr K_21 (by decide)).up (by decide)).tr hK (by decide)).up (by decide)), ⟨hz, hy⟩, (hF.tr ((((F_35.tr F_40).tr F_45).tr F_50).tr F_55))⟩
  · skip
    have nc_31 : ¬ (r ≤ 0) := fun q_ => c_31 ((nI_leI (a := r) (b := 0) (by omega) (by omega)).mpr q_)
    refine R_aload_n (pc := 193) 2 dX12_offsets_193 rfl rfl ?_
    refine R_get (pc := 194) dX12_offsets_194 fX12_89 S2.obj (by omega) rfl ?_
    refine R_iconst (pc := 197) (v := 0) dX12_offsets_197 (by decide) ?_
    refine R_aload_n (pc := 198) 2 dX12_offsets_198 rfl rfl ?_
    refine R_get (pc := 199) dX12_offsets_199 fX12_92 S2.obj (by omega) rfl ?_
    refine R_iconst (pc := 202) (v := 0) dX12_offsets_202 (by decide) ?_
    refine R_bipush (pc := 203) (v := 16) dX12_offsets_203 (by decide) ?_
    refine R_callSh (pc := 205) (μ' := mX12_add) (As := [.ref 87, .int (nI 0), .ref 88, .int (nI 0), .int 16]) (st := []) dX12_offsets_205 zX12_add lX12_143 ⟨by decide, by decide⟩ rfl rfl ⟨by decide, by decide⟩ rfl (Nat.le_of_ble_eq_true rfl) (oX12_add16 S2 hn (p := 87) (q := 88) rfl rfl 0 0 (by show 0 + 16 ≤ 160; omega) (by show 0 + 16 ≤ 16; omega) (by decide)) (fun h_57 r_ q_58 => ?_)
    obtain ⟨rfl, S_59, F_60⟩ := q_58
    have S_61 : MO h_57 (uo ψ2 88 (pt (ψ2 88) 0 (xb (gt (ψ2 88) 0) (gt (ψ2 87) 0)))) z i := S_59
    refine R_aload_n (pc := 208) 2 dX12_offsets_208 rfl rfl ?_
    refine R_get (pc := 209) dX12_offsets_209 fX12_92 S_61.obj (by omega) rfl ?_
    refine R_iconst (pc := 212) (v := 0) dX12_offsets_212 (by decide) ?_
    refine R_aload_n (pc := 213) 2 dX12_offsets_213 rfl rfl ?_
    refine R_get (pc := 214) dX12_offsets_214 fX12_56 S_61.obj (by omega) rfl ?_
    refine R_iconst (pc := 217) (v := 0) dX12_offsets_217 (by decide) ?_
    refine R_bipush (pc := 218) (v := 16) dX12_offsets_218 (by decide) ?_
    refine R_callSh (pc := 220) (μ' := mX12_copy) (As := [.ref 88, .int (nI 0), .ref 76, .int (nI 0), .int 16]) (st := []) dX12_offsets_220 zX12_copy lX12_133 ⟨by decide, by decide⟩ rfl rfl ⟨by decide, by decide⟩ rfl (Nat.le_of_ble_eq_true rfl) (oX12_copy16 S_61 hn (p := 88) (q := 76) rfl rfl 0 0 (by show 0 + 16 ≤ 16; omega) (by show 0 + 16 ≤ 16; omega) (by decide)) (fun h_62 r_ q_63 => ?_)
    obtain ⟨rfl, S_64, F_65⟩ := q_63
    have S_66 : MO h_62 (uo (uo ψ2 88 (pt (ψ2 88) 0 (xb (gt (ψ2 88) 0) (gt (ψ2 87) 0)))) 76 (pt (ψ2 76) 0 (gt (pt (ψ2 88) 0 (xb (gt (ψ2 88) 0) (gt (ψ2 87) 0))) 0))) z i := S_64
    refine R_aload_n (pc := 223) 2 dX12_offsets_223 rfl rfl ?_
    refine R_iconst (pc := 224) (v := 0) dX12_offsets_224 (by decide) ?_
    refine R_aload_n (pc := 225) 2 dX12_offsets_225 rfl rfl ?_
    refine R_get (pc := 226) dX12_offsets_226 fX12_56 S_66.obj (by omega) rfl ?_
    refine R_iconst (pc := 229) (v := 0) dX12_offsets_229 (by decide) ?_
    refine R_callVh (pc := 230) (μ' := mX12_sealBlock) (As := [.int (nI 0), .ref 76, .int (nI 0)]) (st := []) dX12_offsets_230 zX12_sealBlock lX12_146 ⟨by decide, by decide⟩ rfl rfl ⟨by decide, by decide⟩ S_66.obj (by omega) rfl (Nat.le_of_ble_eq_true rfl) (oX12_sealBlock S_66 hn ((K_30.uo (by decide)).uo (by decide)) (p := 76) rfl 0 (by show 0 + 16 ≤ 16; omega)) (fun h_67 r_ q_68 => ?_)
    obtain ⟨rfl, S_69, F_70⟩ := q_68
    have S_71 : MO h_67 (uo (uo ψ2 88 (pt (ψ2 88) 0 (xb (gt (ψ2 88) 0) (gt (ψ2 87) 0)))) 76 (pt (pt (ψ2 76) 0 (gt (pt (ψ2 88) 0 (xb (gt (ψ2 88) 0) (gt (ψ2 87) 0))) 0)) 0 (F (gt (pt (ψ2 76) 0 (gt (pt (ψ2 88) 0 (xb (gt (ψ2 88) 0) (gt (ψ2 87) 0))) 0)) 0)))) z i := by have z_ := S_69; rw [uo_uo] at z_; exact z_
    refine R_iconst (pc := 233) (v := 0) dX12_offsets_233 (by decide) ?_
    refine R_istore (pc := 234) (lv' := [(5, .int 0), (4, .int (nI r)), (3, .int (nI b)), (0, .ref 61), (1, .int 1), (2, .int (nI D.length))]) dX12_offsets_234 (by decide) rfl ?_
    obtain ⟨one_, e1⟩ : ∃ f_ : oA, f_ = pt (pt (ψ2 76) 0 (gt (pt (ψ2 88) 0 (xb (gt (ψ2 88) 0) (gt (ψ2 87) 0))) 0)) 0 (F (gt (pt (ψ2 76) 0 (gt (pt (ψ2 88) 0 (xb (gt (ψ2 88) 0) (gt (ψ2 87) 0))) 0)) 0)) := ⟨_, rfl⟩
    have eO : gt one_ 0 = F (opO (F (0, 0)) (osN F G true (dbl (F (0, 0))) D (bgO F N (nI mm)) b).1) := by rw [e1]; simp only [gt_pt, pt_pt]; rw [hJ.1, l0]; rfl
    rw [← e1] at S_71
    have eQ : gt (pt (ψ2 88) 0 (xb (gt (ψ2 88) 0) (gt (ψ2 87) 0))) 0 = opO (F (0, 0)) (osN F G true (dbl (F (0, 0))) D (bgO F N (nI mm)) b).1 := by rw [gt_pt, hJ.1, l0]; rfl
    refine R_sub [0, 1, 2, 3, 4, 5] rfl ?_
    refine qX12_offsets_ro (h := h) (ψ := (uo (uo ψ2 88 (pt (ψ2 88) 0 (xb (gt (ψ2 88) 0) (gt (ψ2 87) 0)))) 76 one_)) hn D b r hL hr hD (fun h3 ψ3 S3 hK3 hJ3 hF3 => ?_) r 0 (by omega) h_67 _ S_71 (FR.rf _ _) ⟨(pgB_0 _ _ _).symm, (pgB_0 _ _ _).symm⟩ (hF.tr ((F_60.tr F_65).tr F_70))
    have y3 : ψ3 72 = pgB (fun j => ψ2 71 (16 * b + j) ^^^ one_ j) (ψ2 72) (16 * b) r := hJ3.1
    have s3 : ψ3 79 = pgB (fun j => ψ2 79 j ^^^ (ψ2 71 (16 * b + j) ^^^ one_ j)) (ψ2 79) 0 r := hJ3.2
    have hh5 : gt (ψ3 89) 0 = ahT F (dbl (F (0, 0))) (F (0, 0)) A (0, 0) := by rw [hK3 89 (by decide)]; exact hh4
    have l5 : gt (ψ3 87) 16 = dbl (F (0, 0)) := by rw [hK3 87 (by decide)]; exact l1
    have o5 : gt (ψ3 88) 0 = opO (F (0, 0)) (osN F G true (dbl (F (0, 0))) D (bgO F N (nI mm)) b).1 := by rw [hK3 88 (by decide)]; exact eQ
    have K_72 := ((K_30.uo (by decide)).uo (by decide)).fr hK3 (by decide) (by decide) (by decide) (by decide)
    have eB : ∀ j, j < 16 → ob (opB F D (F (0, 0)) (osN F G true (dbl (F (0, 0))) D (bgO F N (nI mm)) b).1) j = if j < r then og D (16 * b + j) ^^^ ob (F (opO (F (0, 0)) (osN F G true (dbl (F (0, 0))) D (bgO F N (nI mm)) b).1)) j else 0 := fun j_ hj_ => by
      unfold opB
      rw [show D.length / 16 = b by omega, show D.length % 16 = r by omega, ob_xb _ _ hj_, ob_rd _ _ hj_, ob_kf _ (by omega) hj_]
      by_cases q_ : j_ < r
      · rw [if_pos q_, if_pos q_]
      · rw [if_neg q_, if_neg q_, og_out (by omega)]; simp
    have hdx : ∀ j, j < r → ψ2 71 (16 * b + j) = og D (16 * b + j) := fun j_ hj_ => by rw [d71]; exact sg0 hsD (by omega)
    have yz : sg (ψ3 72) 0 ((osN F G true (dbl (F (0, 0))) D (bgO F N (nI mm)) b).2.2 ++ bt (opB F D (F (0, 0)) (osN F G true (dbl (F (0, 0))) D (bgO F N (nI mm)) b).1) r) := by
      have l_ : (osN F G true (dbl (F (0, 0))) D (bgO F N (nI mm)) b).2.2.length = 16 * b := osN_len _ _ _ _ _ _ _
      refine sg.app (hJ.2.2.mv fun j_ hj_ => by rw [y3, pgB_out _ _ (by omega)]) (fun j_ hj_ => ?_)
      rw [bt_len] at hj_
      rw [l_, Nat.zero_add, y3, pgB_in _ _ (by omega) (by omega), show 16 * b + j_ - 16 * b = j_ by omega, og_bt _ hj_, eB _ (by omega), if_pos hj_, hdx _ hj_, gt_at0 eO (by omega)]
    have sz : gt (updB (ψ3 79) r (ψ3 79 r ^^^ t8 128)) 0 = opT F true D (F (0, 0)) (osN F G true (dbl (F (0, 0))) D (bgO F N (nI mm)) b).1 (osN F G true (dbl (F (0, 0))) D (bgO F N (nI mm)) b).2.1 := by
      rw [gt_ao _ (by omega) 128]
      unfold opT
      rw [show D.length / 16 = b by omega, show D.length % 16 = r by omega]
      congr 1
      rw [if_pos rfl]
      exact ob_ext fun j_ hj_ => by
        rw [ob_gt _ _ hj_, Nat.zero_add, ob_xb _ _ hj_, eB _ hj_, s3]
        by_cases q_ : j_ < r
        · rw [pgB_in _ _ (by omega) (by omega), Nat.sub_zero, gt_at0 hJ.2.1 hj_, hdx _ q_, if_pos q_, gt_at0 eO hj_]
        · rw [pgB_out _ _ (by omega), gt_at0 hJ.2.1 hj_, if_neg q_]; simp
    refine R_aload_n (pc := 322) 3 dX12_offsets_322 rfl rfl ?_
    refine R_get (pc := 323) dX12_offsets_323 fX12_65 S3.obj (by omega) rfl ?_
    refine R_iload (pc := 326) 1 dX12_offsets_326 rfl ?_
    refine R_dup2 (pc := 328) dX12_offsets_328 rfl rfl ?_
    refine R_iald' (pc := 329) (j := r) dX12_offsets_329 (S3.arr (p := 79) rfl) (by omega) ⟨rfl, by show r < 16; omega, by decide⟩ ?_
    refine R_eqi (y := oc (ψ3 79 r)) rfl ?_
    refine R_sipush (pc := 330) (v := 128) dX12_offsets_330 (by decide) ?_
    refine R_eqi (y := oc (t8 128)) (by decide) ?_
    refine R_ixor (pc := 333) dX12_offsets_333 ?_
    refine R_eqi (y := oc ((ψ3 79 r) ^^^ (t8 128))) (oc_xor _ _) ?_
    refine R_iast' (pc := 334) (j := r) dX12_offsets_334 (S3.arr (p := 79) rfl) (by omega) ⟨rfl, by show r < 16; omega, by decide⟩ (fun h_73 f_74 g_75 => ?_)
    have S_77 : MO h_73 (uo ψ3 79 (updB (ψ3 79) r ((ψ3 79 r) ^^^ (t8 128)))) z i := MO.setA (p := 79) S3 rfl f_74 g_75 (fun j_ => congrFun (upd_oc _ _ _) j_)
    have F_76 := fmA (p := 79) (okA_c (by decide)).1 g_75
    refine R_aload_n (pc := 335) 3 dX12_offsets_335 rfl rfl ?_
    refine R_get (pc := 336) dX12_offsets_336 fX12_65 S_77.obj (by omega) rfl ?_
    refine R_iconst (pc := 339) (v := 0) dX12_offsets_339 (by decide) ?_
    refine R_aload_n (pc := 340) 3 dX12_offsets_340 rfl rfl ?_
    refine R_get (pc := 341) dX12_offsets_341 fX12_83 S_77.obj (by omega) rfl ?_
    refine R_iconst (pc := 344) (v := 0) dX12_offsets_344 (by decide) ?_
    refine R_bipush (pc := 345) (v := 16) dX12_offsets_345 (by decide) ?_
    refine R_callSh (pc := 347) (μ' := mX12_copy) (As := [.ref 79, .int (nI 0), .ref 85, .int (nI 0), .int 16]) (st := []) dX12_offsets_347 zX12_copy lX12_133 ⟨by decide, by decide⟩ rfl rfl ⟨by decide, by decide⟩ rfl (Nat.le_of_ble_eq_true rfl) (oX12_copy16 S_77 hn (p := 79) (q := 85) rfl rfl 0 0 (by show 0 + 16 ≤ 16; omega) (by show 0 + 16 ≤ 16; omega) (by decide)) (fun h_78 r_ q_79 => ?_)
    obtain ⟨rfl, S_80, F_81⟩ := q_79
    have S_82 : MO h_78 (uo (uo ψ3 79 (updB (ψ3 79) r ((ψ3 79 r) ^^^ (t8 128)))) 85 (pt (ψ3 85) 0 (gt (updB (ψ3 79) r ((ψ3 79 r) ^^^ (t8 128))) 0))) z i := S_80
    refine R_aload_n (pc := 350) 3 dX12_offsets_350 rfl rfl ?_
    refine R_get (pc := 351) dX12_offsets_351 fX12_92 S_82.obj (by omega) rfl ?_
    refine R_iconst (pc := 354) (v := 0) dX12_offsets_354 (by decide) ?_
    refine R_aload_n (pc := 355) 3 dX12_offsets_355 rfl rfl ?_
    refine R_get (pc := 356) dX12_offsets_356 fX12_83 S_82.obj (by omega) rfl ?_
    refine R_iconst (pc := 359) (v := 0) dX12_offsets_359 (by decide) ?_
    refine R_bipush (pc := 360) (v := 16) dX12_offsets_360 (by decide) ?_
    refine R_callSh (pc := 362) (μ' := mX12_add) (As := [.ref 88, .int (nI 0), .ref 85, .int (nI 0), .int 16]) (st := []) dX12_offsets_362 zX12_add lX12_143 ⟨by decide, by decide⟩ rfl rfl ⟨by decide, by decide⟩ rfl (Nat.le_of_ble_eq_true rfl) (oX12_add16 S_82 hn (p := 88) (q := 85) rfl rfl 0 0 (by show 0 + 16 ≤ 16; omega) (by show 0 + 16 ≤ 16; omega) (by decide)) (fun h_83 r_ q_84 => ?_)
    obtain ⟨rfl, S_85, F_86⟩ := q_84
    have S_87 : MO h_83 (uo (uo ψ3 79 (updB (ψ3 79) r ((ψ3 79 r) ^^^ (t8 128)))) 85 (pt (pt (ψ3 85) 0 (gt (updB (ψ3 79) r ((ψ3 79 r) ^^^ (t8 128))) 0)) 0 (xb (gt (pt (ψ3 85) 0 (gt (updB (ψ3 79) r ((ψ3 79 r) ^^^ (t8 128))) 0)) 0) (gt (ψ3 88) 0)))) z i := by have z_ := S_85; rw [uo_uo] at z_; exact z_
    refine R_aload_n (pc := 365) 3 dX12_offsets_365 rfl rfl ?_
    refine R_get (pc := 366) dX12_offsets_366 fX12_89 S_87.obj (by omega) rfl ?_
    refine R_bipush (pc := 369) (v := 16) dX12_offsets_369 (by decide) ?_
    refine R_aload_n (pc := 371) 3 dX12_offsets_371 rfl rfl ?_
    refine R_get (pc := 372) dX12_offsets_372 fX12_83 S_87.obj (by omega) rfl ?_
    refine R_iconst (pc := 375) (v := 0) dX12_offsets_375 (by decide) ?_
    refine R_bipush (pc := 376) (v := 16) dX12_offsets_376 (by decide) ?_
    refine R_callSh (pc := 378) (μ' := mX12_add) (As := [.ref 87, .int (nI 16), .ref 85, .int (nI 0), .int 16]) (st := []) dX12_offsets_378 zX12_add lX12_143 ⟨by decide, by decide⟩ rfl rfl ⟨by decide, by decide⟩ rfl (Nat.le_of_ble_eq_true rfl) (oX12_add16 S_87 hn (p := 87) (q := 85) rfl rfl 16 0 (by show 16 + 16 ≤ 160; omega) (by show 0 + 16 ≤ 16; omega) (by decide)) (fun h_88 r_ q_89 => ?_)
    obtain ⟨rfl, S_90, F_91⟩ := q_89
    have S_92 : MO h_88 (uo (uo ψ3 79 (updB (ψ3 79) r ((ψ3 79 r) ^^^ (t8 128)))) 85 (pt (pt (pt (ψ3 85) 0 (gt (updB (ψ3 79) r ((ψ3 79 r) ^^^ (t8 128))) 0)) 0 (xb (gt (pt (ψ3 85) 0 (gt (updB (ψ3 79) r ((ψ3 79 r) ^^^ (t8 128))) 0)) 0) (gt (ψ3 88) 0))) 0 (xb (gt (pt (pt (ψ3 85) 0 (gt (updB (ψ3 79) r ((ψ3 79 r) ^^^ (t8 128))) 0)) 0 (xb (gt (pt (ψ3 85) 0 (gt (updB (ψ3 79) r ((ψ3 79 r) ^^^ (t8 128))) 0)) 0) (gt (ψ3 88) 0))) 0) (gt (ψ3 87) 16)))) z i := by have z_ := S_90; rw [uo_uo] at z_; exact z_
    refine R_aload_n (pc := 381) 3 dX12_offsets_381 rfl rfl ?_
    refine R_iconst (pc := 382) (v := 0) dX12_offsets_382 (by decide) ?_
    refine R_aload_n (pc := 383) 3 dX12_offsets_383 rfl rfl ?_
    refine R_get (pc := 384) dX12_offsets_384 fX12_83 S_92.obj (by omega) rfl ?_
    refine R_iconst (pc := 387) (v := 0) dX12_offsets_387 (by decide) ?_
    refine R_callVh (pc := 388) (μ' := mX12_sealBlock) (As := [.int (nI 0), .ref 85, .int (nI 0)]) (st := []) dX12_offsets_388 zX12_sealBlock lX12_146 ⟨by decide, by decide⟩ rfl rfl ⟨by decide, by decide⟩ S_92.obj (by omega) rfl (Nat.le_of_ble_eq_true rfl) (oX12_sealBlock S_92 hn ((K_72.uo (by decide)).uo (by decide)) (p := 85) rfl 0 (by show 0 + 16 ≤ 16; omega)) (fun h_93 r_ q_94 => ?_)
    obtain ⟨rfl, S_95, F_96⟩ := q_94
    have S_97 : MO h_93 (uo (uo ψ3 79 (updB (ψ3 79) r ((ψ3 79 r) ^^^ (t8 128)))) 85 (pt (pt (pt (pt (ψ3 85) 0 (gt (updB (ψ3 79) r ((ψ3 79 r) ^^^ (t8 128))) 0)) 0 (xb (gt (pt (ψ3 85) 0 (gt (updB (ψ3 79) r ((ψ3 79 r) ^^^ (t8 128))) 0)) 0) (gt (ψ3 88) 0))) 0 (xb (gt (pt (pt (ψ3 85) 0 (gt (updB (ψ3 79) r ((ψ3 79 r) ^^^ (t8 128))) 0)) 0 (xb (gt (pt (ψ3 85) 0 (gt (updB (ψ3 79) r ((ψ3 79 r) ^^^ (t8 128))) 0)) 0) (gt (ψ3 88) 0))) 0) (gt (ψ3 87) 16))) 0 (F (gt (pt (pt (pt (ψ3 85) 0 (gt (updB (ψ3 79) r ((ψ3 79 r) ^^^ (t8 128))) 0)) 0 (xb (gt (pt (ψ3 85) 0 (gt (updB (ψ3 79) r ((ψ3 79 r) ^^^ (t8 128))) 0)) 0) (gt (ψ3 88) 0))) 0 (xb (gt (pt (pt (ψ3 85) 0 (gt (updB (ψ3 79) r ((ψ3 79 r) ^^^ (t8 128))) 0)) 0 (xb (gt (pt (ψ3 85) 0 (gt (updB (ψ3 79) r ((ψ3 79 r) ^^^ (t8 128))) 0)) 0) (gt (ψ3 88) 0))) 0) (gt (ψ3 87) 16))) 0)))) z i := by have z_ := S_95; rw [uo_uo] at z_; exact z_
    refine R_aload_n (pc := 391) 3 dX12_offsets_391 rfl rfl ?_
    refine R_get (pc := 392) dX12_offsets_392 fX12_95 S_97.obj (by omega) rfl ?_
    refine R_iconst (pc := 395) (v := 0) dX12_offsets_395 (by decide) ?_
    refine R_aload_n (pc := 396) 3 dX12_offsets_396 rfl rfl ?_
    refine R_get (pc := 397) dX12_offsets_397 fX12_83 S_97.obj (by omega) rfl ?_
    refine R_iconst (pc := 400) (v := 0) dX12_offsets_400 (by decide) ?_
    refine R_bipush (pc := 401) (v := 16) dX12_offsets_401 (by decide) ?_
    refine R_callSh (pc := 403) (μ' := mX12_add) (As := [.ref 89, .int (nI 0), .ref 85, .int (nI 0), .int 16]) (st := []) dX12_offsets_403 zX12_add lX12_143 ⟨by decide, by decide⟩ rfl rfl ⟨by decide, by decide⟩ rfl (Nat.le_of_ble_eq_true rfl) (oX12_add16 S_97 hn (p := 89) (q := 85) rfl rfl 0 0 (by show 0 + 16 ≤ 16; omega) (by show 0 + 16 ≤ 16; omega) (by decide)) (fun h_98 r_ q_99 => ?_)
    obtain ⟨rfl, S_100, F_101⟩ := q_99
    have S_102 : MO h_98 (uo (uo ψ3 79 (updB (ψ3 79) r ((ψ3 79 r) ^^^ (t8 128)))) 85 (pt (pt (pt (pt (pt (ψ3 85) 0 (gt (updB (ψ3 79) r ((ψ3 79 r) ^^^ (t8 128))) 0)) 0 (xb (gt (pt (ψ3 85) 0 (gt (updB (ψ3 79) r ((ψ3 79 r) ^^^ (t8 128))) 0)) 0) (gt (ψ3 88) 0))) 0 (xb (gt (pt (pt (ψ3 85) 0 (gt (updB (ψ3 79) r ((ψ3 79 r) ^^^ (t8 128))) 0)) 0 (xb (gt (pt (ψ3 85) 0 (gt (updB (ψ3 79) r ((ψ3 79 r) ^^^ (t8 128))) 0)) 0) (gt (ψ3 88) 0))) 0) (gt (ψ3 87) 16))) 0 (F (gt (pt (pt (pt (ψ3 85) 0 (gt (updB (ψ3 79) r ((ψ3 79 r) ^^^ (t8 128))) 0)) 0 (xb (gt (pt (ψ3 85) 0 (gt (updB (ψ3 79) r ((ψ3 79 r) ^^^ (t8 128))) 0)) 0) (gt (ψ3 88) 0))) 0 (xb (gt (pt (pt (ψ3 85) 0 (gt (updB (ψ3 79) r ((ψ3 79 r) ^^^ (t8 128))) 0)) 0 (xb (gt (pt (ψ3 85) 0 (gt (updB (ψ3 79) r ((ψ3 79 r) ^^^ (t8 128))) 0)) 0) (gt (ψ3 88) 0))) 0) (gt (ψ3 87) 16))) 0))) 0 (xb (gt (pt (pt (pt (pt (ψ3 85) 0 (gt (updB (ψ3 79) r ((ψ3 79 r) ^^^ (t8 128))) 0)) 0 (xb (gt (pt (ψ3 85) 0 (gt (updB (ψ3 79) r ((ψ3 79 r) ^^^ (t8 128))) 0)) 0) (gt (ψ3 88) 0))) 0 (xb (gt (pt (pt (ψ3 85) 0 (gt (updB (ψ3 79) r ((ψ3 79 r) ^^^ (t8 128))) 0)) 0 (xb (gt (pt (ψ3 85) 0 (gt (updB (ψ3 79) r ((ψ3 79 r) ^^^ (t8 128))) 0)) 0) (gt (ψ3 88) 0))) 0) (gt (ψ3 87) 16))) 0 (F (gt (pt (pt (pt (ψ3 85) 0 (gt (updB (ψ3 79) r ((ψ3 79 r) ^^^ (t8 128))) 0)) 0 (xb (gt (pt (ψ3 85) 0 (gt (updB (ψ3 79) r ((ψ3 79 r) ^^^ (t8 128))) 0)) 0) (gt (ψ3 88) 0))) 0 (xb (gt (pt (pt (ψ3 85) 0 (gt (updB (ψ3 79) r ((ψ3 79 r) ^^^ (t8 128))) 0)) 0 (xb (gt (pt (ψ3 85) 0 (gt (updB (ψ3 79) r ((ψ3 79 r) ^^^ (t8 128))) 0)) 0) (gt (ψ3 88) 0))) 0) (gt (ψ3 87) 16))) 0))) 0) (gt (ψ3 89) 0)))) z i := by have z_ := S_100; rw [uo_uo] at z_; exact z_
    have hO : (osF F G true D (bgO F N (nI mm))) = (opO (F (0, 0)) (osN F G true (dbl (F (0, 0))) D (bgO F N (nI mm)) b).1, opT F true D (F (0, 0)) (osN F G true (dbl (F (0, 0))) D (bgO F N (nI mm)) b).1 (osN F G true (dbl (F (0, 0))) D (bgO F N (nI mm)) b).2.1, (osN F G true (dbl (F (0, 0))) D (bgO F N (nI mm)) b).2.2 ++ bt (opB F D (F (0, 0)) (osN F G true (dbl (F (0, 0))) D (bgO F N (nI mm)) b).1) r) := by
      unfold osF
      rw [show D.length / 16 = b by omega, show D.length % 16 = r by omega]
      show (if nI r = 0 then _ else _) = _
      rw [if_neg (show ¬ nI r = 0 from fun q_ => absurd ((nI_eq (a := r) (b := 0) (by omega) (by omega)).mp q_) (by omega))]
    have hz : sg (ψ3 72) 0 (osF F G true D (bgO F N (nI mm))).2.2 := by rw [hO]; exact yz
    have hy : gt (pt (pt (pt (pt (pt (ψ3 85) 0 (gt (updB (ψ3 79) r ((ψ3 79 r) ^^^ (t8 128))) 0)) 0 (xb (gt (pt (ψ3 85) 0 (gt (updB (ψ3 79) r ((ψ3 79 r) ^^^ (t8 128))) 0)) 0) (gt (ψ3 88) 0))) 0 (xb (gt (pt (pt (ψ3 85) 0 (gt (updB (ψ3 79) r ((ψ3 79 r) ^^^ (t8 128))) 0)) 0 (xb (gt (pt (ψ3 85) 0 (gt (updB (ψ3 79) r ((ψ3 79 r) ^^^ (t8 128))) 0)) 0) (gt (ψ3 88) 0))) 0) (gt (ψ3 87) 16))) 0 (F (gt (pt (pt (pt (ψ3 85) 0 (gt (updB (ψ3 79) r ((ψ3 79 r) ^^^ (t8 128))) 0)) 0 (xb (gt (pt (ψ3 85) 0 (gt (updB (ψ3 79) r ((ψ3 79 r) ^^^ (t8 128))) 0)) 0) (gt (ψ3 88) 0))) 0 (xb (gt (pt (pt (ψ3 85) 0 (gt (updB (ψ3 79) r ((ψ3 79 r) ^^^ (t8 128))) 0)) 0 (xb (gt (pt (ψ3 85) 0 (gt (updB (ψ3 79) r ((ψ3 79 r) ^^^ (t8 128))) 0)) 0) (gt (ψ3 88) 0))) 0) (gt (ψ3 87) 16))) 0))) 0 (xb (gt (pt (pt (pt (pt (ψ3 85) 0 (gt (updB (ψ3 79) r ((ψ3 79 r) ^^^ (t8 128))) 0)) 0 (xb (gt (pt (ψ3 85) 0 (gt (updB (ψ3 79) r ((ψ3 79 r) ^^^ (t8 128))) 0)) 0) (gt (ψ3 88) 0))) 0 (xb (gt (pt (pt (ψ3 85) 0 (gt (updB (ψ3 79) r ((ψ3 79 r) ^^^ (t8 128))) 0)) 0 (xb (gt (pt (ψ3 85) 0 (gt (updB (ψ3 79) r ((ψ3 79 r) ^^^ (t8 128))) 0)) 0) (gt (ψ3 88) 0))) 0) (gt (ψ3 87) 16))) 0 (F (gt (pt (pt (pt (ψ3 85) 0 (gt (updB (ψ3 79) r ((ψ3 79 r) ^^^ (t8 128))) 0)) 0 (xb (gt (pt (ψ3 85) 0 (gt (updB (ψ3 79) r ((ψ3 79 r) ^^^ (t8 128))) 0)) 0) (gt (ψ3 88) 0))) 0 (xb (gt (pt (pt (ψ3 85) 0 (gt (updB (ψ3 79) r ((ψ3 79 r) ^^^ (t8 128))) 0)) 0 (xb (gt (pt (ψ3 85) 0 (gt (updB (ψ3 79) r ((ψ3 79 r) ^^^ (t8 128))) 0)) 0) (gt (ψ3 88) 0))) 0) (gt (ψ3 87) 16))) 0))) 0) (gt (ψ3 89) 0))) 0 = osTag F G true D A (bgO F N (nI mm)) := by
      unfold osTag
      rw [ahT_g]
      simp only [gt_pt, pt_pt]
      rw [sz, o5, l5, hh5, hO]
    exact R_vreturn (pc := 406) dX12_offsets_406 rfl (by decide) (by decide) ⟨rfl, _, rfl, S_102, (((((((((((FR.rf _ _).tr K_5 (by decide)).tr K_13 (by decide)).tr K_21 (by decide)).up (by decide)).tr hK (by decide)).up (by decide)).up (by decide)).tr hK3 (by decide)).up (by decide)).up (by decide)), ⟨hz, hy⟩, (hF3.tr (((((F_76.tr F_81).tr F_86).tr F_91).tr F_96).tr F_101))⟩
