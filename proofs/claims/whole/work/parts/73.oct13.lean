theorem gt_ad {f g : oA} {L : List (BitVec 8)} {b c m : Nat} (h : ∀ j, j < m → f (b + j) = og L (c + j)) (hL : L.length ≤ c + m) (hm : m ≤ 16) : gt (adB f b g 0 m) 0 = xb (gt g 0) (rd L c) := ob_ext fun k hk => by
  rw [ob_gt _ _ hk, Nat.zero_add, ob_xb _ _ hk, ob_gt _ _ hk, Nat.zero_add, ob_rd _ _ hk]
  unfold adB
  by_cases q : k < m
  · rw [if_pos (by omega), Nat.sub_zero, h k q]
  · rw [if_neg (by omega), og_out (by omega)]
    simp
theorem gt_ao (f : oA) {k : Nat} (hk : k < 16) (v : Int32) : gt (updB f k (f k ^^^ t8 v)) 0 = aoc (gt f 0) (nI k) v := ob_ext fun j hj => by
  rw [ob_gt _ _ hj, Nat.zero_add, ob_aoc _ hk _ hj, ob_gt _ _ hj, Nat.zero_add]
  by_cases q : j = k
  · rw [if_pos q, q, updB_s]
  · rw [if_neg q, updB_n q]
theorem sg0 {f : oA} {L : List (BitVec 8)} (h : sg f 0 L) {j : Nat} (hj : j < L.length) : f j = og L j := by
  have := h j hj
  rw [Nat.zero_add] at this
  exact this
set_option maxHeartbeats 1000000 in
set_option maxRecDepth 100000 in
theorem qX12_macOf_loop {l : Launch} {w : am_W} {h : am_H} {n : Nat} {ψ : Nat → oA} {z : fA} {i : mI} (hn : 90 ≤ n) (u W : Nat) (L : List (BitVec 8)) (hL : L.length ≤ 600) (hW : 16 * W ≤ L.length) {F G : bP → bP} (Ku : Kh ψ u F G) (hs : sg (ψ 84) 0 L) {Q : am_H → Nat → Option Value → Prop} (kk : ∀ h2 ψ2, MO h2 ψ2 z i → FR [82] ψ ψ2 → gt (ψ2 82) 0 = cyN (csS F L) (0, 0) W → FM h h2 → RW l w mX12_macOf h2 n 0 0 99 [(3, .int (nI W)), (2, .int (nI W)), (0, .ref 61), (1, .int (nI u))] [] Q) : ∀ (dd k : Nat), k + dd = W → ∀ h2 ψ2, MO h2 ψ2 z i → FR [82] ψ ψ2 → gt (ψ2 82) 0 = cyN (csS F L) (0, 0) k → FM h h2 → RW l w mX12_macOf h2 n 0 0 60 [(3, .int (nI k)), (2, .int (nI W)), (0, .ref 61), (1, .int (nI u))] [] Q := by
  intro dd
  induction dd with
  | zero =>
    intro k hd h2 ψ2 S2 hK hJ hF
    refine R_iload_n (pc := 60) 0 dX12_macOf_60 rfl rfl ?_
    refine R_iload_n (pc := 61) 1 dX12_macOf_61 rfl rfl ?_
    refine R_icmp_ge (pc := 62) (tgt := 99) dX12_macOf_62 (by decide) (fun c_1 => ?_) (fun c_1 => absurd (nI_le (a := W) (b := k) (by omega) (by omega)) c_1)
    obtain rfl : k = W := by omega
    exact kk h2 ψ2 S2 hK hJ hF
  | succ dd ih =>
    intro k hd h2 ψ2 S2 hK hJ hF
    have Ku_2 := Ku.fr hK (by decide) (by decide) (by decide) (by decide)
    refine R_iload_n (pc := 60) 0 dX12_macOf_60 rfl rfl ?_
    refine R_iload_n (pc := 61) 1 dX12_macOf_61 rfl rfl ?_
    refine R_icmp_ge (pc := 62) (tgt := 99) dX12_macOf_62 (by decide) (fun c_1 => absurd c_1 (nI_ge (a := k) (b := W) (by omega) (by omega))) (fun c_1 => ?_)
    refine R_aload_n (pc := 65) 2 dX12_macOf_65 rfl rfl ?_
    refine R_get (pc := 66) dX12_macOf_66 fX12_80 S2.obj (by omega) rfl ?_
    refine R_bipush (pc := 69) (v := 16) dX12_macOf_69 (by decide) ?_
    refine R_iload_n (pc := 71) 0 dX12_macOf_71 rfl rfl ?_
    refine R_imul (pc := 72) dX12_macOf_72 ?_
    refine R_eqi (y := nI (16 * k)) (nI_mul 16 k) ?_
    refine R_aload_n (pc := 73) 2 dX12_macOf_73 rfl rfl ?_
    refine R_get (pc := 74) dX12_macOf_74 fX12_74 S2.obj (by omega) rfl ?_
    refine R_iconst (pc := 77) (v := 0) dX12_macOf_77 (by decide) ?_
    refine R_bipush (pc := 78) (v := 16) dX12_macOf_78 (by decide) ?_
    refine R_callSh (pc := 80) (μ' := mX12_add) (As := [.ref 84, .int (nI (16 * k)), .ref 82, .int (nI 0), .int 16]) (st := []) dX12_macOf_80 zX12_add lX12_143 ⟨by decide, by decide⟩ rfl rfl ⟨by decide, by decide⟩ rfl (Nat.le_of_ble_eq_true rfl) (oX12_add16 S2 hn (p := 84) (q := 82) rfl rfl (16 * k) 0 (by show 16 * k + 16 ≤ 700; omega) (by show 0 + 16 ≤ 16; omega) (by decide)) (fun h_2 r_ q_3 => ?_)
    obtain ⟨rfl, S_4, F_5⟩ := q_3
    have S_6 : MO h_2 (uo ψ2 82 (pt (ψ2 82) 0 (xb (gt (ψ2 82) 0) (gt (ψ2 84) (16 * k))))) z i := S_4
    refine R_aload_n (pc := 83) 2 dX12_macOf_83 rfl rfl ?_
    refine R_iload_n (pc := 84) 3 dX12_macOf_84 rfl rfl ?_
    refine R_aload_n (pc := 85) 2 dX12_macOf_85 rfl rfl ?_
    refine R_get (pc := 86) dX12_macOf_86 fX12_74 S_6.obj (by omega) rfl ?_
    refine R_iconst (pc := 89) (v := 0) dX12_macOf_89 (by decide) ?_
    refine R_callVh (pc := 90) (μ' := mX12_sealBlock) (As := [.int (nI u), .ref 82, .int (nI 0)]) (st := []) dX12_macOf_90 zX12_sealBlock lX12_146 ⟨by decide, by decide⟩ rfl rfl ⟨by decide, by decide⟩ S_6.obj (by omega) rfl (Nat.le_of_ble_eq_true rfl) (oX12_sealBlock S_6 hn (Ku_2.uo (by decide)) (p := 82) rfl 0 (by show 0 + 16 ≤ 16; omega)) (fun h_7 r_ q_8 => ?_)
    obtain ⟨rfl, S_9, F_10⟩ := q_8
    have S_11 : MO h_7 (uo ψ2 82 (pt (pt (ψ2 82) 0 (xb (gt (ψ2 82) 0) (gt (ψ2 84) (16 * k)))) 0 (F (gt (pt (ψ2 82) 0 (xb (gt (ψ2 82) 0) (gt (ψ2 84) (16 * k)))) 0)))) z i := by have z_ := S_9; rw [uo_uo] at z_; exact z_
    refine R_iinc (pc := 93) (j := 0) (v := nI (k + 1)) (lv' := [(3, .int (nI (k + 1))), (2, .int (nI W)), (0, .ref 61), (1, .int (nI u))]) dX12_macOf_93 rfl (nI_add _ _) (by decide) rfl ?_
    refine R_goto (pc := 96) (tgt := 60) dX12_macOf_96 (by decide) ?_
    refine R_sub [0, 1, 2, 3] rfl ?_
    have eR : gt (ψ2 84) (16 * k) = rd L (16 * k) := by rw [hK 84 (by decide), hs.rd (by omega), Nat.zero_add]
    have j1 : gt (pt (pt (ψ2 82) 0 (xb (gt (ψ2 82) 0) (gt (ψ2 84) (16 * k)))) 0 (F (gt (pt (ψ2 82) 0 (xb (gt (ψ2 82) 0) (gt (ψ2 84) (16 * k)))) 0))) 0 = cyN (csS F L) (0, 0) (k + 1) := by simp only [gt_pt, pt_pt]; rw [hJ, eR]; rfl
    exact ih (k + 1) (by omega) h_7 _ S_11 (hK.up (by decide)) (j1) (hF.tr (F_5.tr F_10))
set_option maxHeartbeats 1000000 in
set_option maxRecDepth 100000 in
theorem oX12_macOf {l : Launch} {w : am_W} {h : am_H} {n : Nat} {ψ : Nat → oA} {z : fA} {i : mI} (S : MO h ψ z i) (hn : 90 ≤ n) (u : Nat) (L : List (BitVec 8)) (hL : L.length ≤ 600) (hi7 : i 7 = nI L.length) {F G : bP → bP} (Ku : Kh ψ u F G) (hs : sg (ψ 84) 0 L) : RH l w mX12_macOf h n [.ref 61, .int (nI u)] (fun h2 q => ∃ ψ2, q = none ∧ MO h2 ψ2 z i ∧ FR [82, 83] ψ ψ2 ∧ gt (ψ2 82) 0 = macV F L ∧ FM h h2) := by
  refine RC.of [(0, .ref 61), (1, .int (nI u))] (by decide +kernel) rfl (Nat.le_of_ble_eq_true rfl) ?_
  refine R_aload_n (pc := 0) 0 dX12_macOf_0 rfl rfl ?_
  refine R_get (pc := 1) dX12_macOf_1 fX12_77 S.obj (by omega) rfl ?_
  refine R_iconst (pc := 4) (v := 0) dX12_macOf_4 (by decide) ?_
  refine R_bipush (pc := 5) (v := 16) dX12_macOf_5 (by decide) ?_
  refine R_callSh (pc := 7) (μ' := mX12_clear) (As := [.ref 83, .int 0, .int 16]) (st := []) dX12_macOf_7 zX12_clear lX12_164 ⟨by decide, by decide⟩ rfl rfl ⟨by decide, by decide⟩ rfl (Nat.le_of_ble_eq_true rfl) (oX12_clear16 S hn (q := 83) rfl (by decide)) (fun h_1 r_ q_2 => ?_)
  obtain ⟨rfl, S_3, F_4⟩ := q_2
  have S_5 : MO h_1 (uo ψ 83 (pt (ψ 83) 0 (0, 0))) z i := S_3
  refine R_aload_n (pc := 10) 0 dX12_macOf_10 rfl rfl ?_
  refine R_iload_n (pc := 11) 1 dX12_macOf_11 rfl rfl ?_
  refine R_aload_n (pc := 12) 0 dX12_macOf_12 rfl rfl ?_
  refine R_get (pc := 13) dX12_macOf_13 fX12_77 S_5.obj (by omega) rfl ?_
  refine R_iconst (pc := 16) (v := 0) dX12_macOf_16 (by decide) ?_
  refine R_callVh (pc := 17) (μ' := mX12_sealBlock) (As := [.int (nI u), .ref 83, .int (nI 0)]) (st := []) dX12_macOf_17 zX12_sealBlock lX12_146 ⟨by decide, by decide⟩ rfl rfl ⟨by decide, by decide⟩ S_5.obj (by omega) rfl (Nat.le_of_ble_eq_true rfl) (oX12_sealBlock S_5 hn (Ku.uo (by decide)) (p := 83) rfl 0 (by show 0 + 16 ≤ 16; omega)) (fun h_6 r_ q_7 => ?_)
  obtain ⟨rfl, S_8, F_9⟩ := q_7
  have S_10 : MO h_6 (uo ψ 83 (pt (pt (ψ 83) 0 (0, 0)) 0 (F (gt (pt (ψ 83) 0 (0, 0)) 0)))) z i := by have z_ := S_8; rw [uo_uo] at z_; exact z_
  refine R_aload_n (pc := 20) 0 dX12_macOf_20 rfl rfl ?_
  refine R_get (pc := 21) dX12_macOf_21 fX12_77 S_10.obj (by omega) rfl ?_
  refine R_callSh (pc := 24) (μ' := mX12_doubled) (As := [.ref 83]) (st := []) dX12_macOf_24 zX12_doubled lX12_192 ⟨by decide, by decide⟩ rfl rfl ⟨by decide, by decide⟩ rfl (Nat.le_of_ble_eq_true rfl) (oX12_doubled S_10 hn (q := 83) rfl (by decide)) (fun h_11 r_ q_12 => ?_)
  obtain ⟨rfl, S_13, F_14⟩ := q_12
  have S_15 : MO h_11 (uo ψ 83 (pt (pt (pt (ψ 83) 0 (0, 0)) 0 (F (gt (pt (ψ 83) 0 (0, 0)) 0))) 0 (dbl (gt (pt (pt (ψ 83) 0 (0, 0)) 0 (F (gt (pt (ψ 83) 0 (0, 0)) 0))) 0)))) z i := by have z_ := S_13; rw [uo_uo] at z_; exact z_
  refine R_aload_n (pc := 27) 0 dX12_macOf_27 rfl rfl ?_
  refine R_get (pc := 28) dX12_macOf_28 fX12_74 S_15.obj (by omega) rfl ?_
  refine R_iconst (pc := 31) (v := 0) dX12_macOf_31 (by decide) ?_
  refine R_bipush (pc := 32) (v := 16) dX12_macOf_32 (by decide) ?_
  refine R_callSh (pc := 34) (μ' := mX12_clear) (As := [.ref 82, .int 0, .int 16]) (st := []) dX12_macOf_34 zX12_clear lX12_164 ⟨by decide, by decide⟩ rfl rfl ⟨by decide, by decide⟩ rfl (Nat.le_of_ble_eq_true rfl) (oX12_clear16 S_15 hn (q := 82) rfl (by decide)) (fun h_16 r_ q_17 => ?_)
  obtain ⟨rfl, S_18, F_19⟩ := q_17
  have S_20 : MO h_16 (uo (uo ψ 83 (pt (pt (pt (ψ 83) 0 (0, 0)) 0 (F (gt (pt (ψ 83) 0 (0, 0)) 0))) 0 (dbl (gt (pt (pt (ψ 83) 0 (0, 0)) 0 (F (gt (pt (ψ 83) 0 (0, 0)) 0))) 0)))) 82 (pt (ψ 82) 0 (0, 0))) z i := S_18
  refine R_aload_n (pc := 37) 0 dX12_macOf_37 rfl rfl ?_
  refine R_get (pc := 38) dX12_macOf_38 fX12_195 S_20.obj (by omega) rfl ?_
  refine R_eqi (y := nI L.length) (hi7) ?_
  refine R_if_ne (pc := 41) (tgt := 48) dX12_macOf_41 (by decide) (fun c_21 => ?_) (fun c_21 => ?_)
  · skip
    have nc_21 : ¬ (L.length = 0) := fun q_ => c_21 ((nI_eq (a := L.length) (b := 0) (by omega) (by omega)).mpr q_)
    refine R_aload_n (pc := 48) 0 dX12_macOf_48 rfl rfl ?_
    refine R_get (pc := 49) dX12_macOf_49 fX12_195 S_20.obj (by omega) rfl ?_
    refine R_eqi (y := nI L.length) (hi7) ?_
    refine R_iconst (pc := 52) (v := 1) dX12_macOf_52 (by decide) ?_
    refine R_isub (pc := 53) dX12_macOf_53 ?_
    refine R_eqi (y := nI (L.length - 1)) (nI_sb (a := L.length) (b := 1) (by omega)) ?_
    refine R_bipush (pc := 54) (v := 16) dX12_macOf_54 (by decide) ?_
    refine R_idiv (pc := 56) dX12_macOf_56 (by decide) ?_
    refine R_eqi (y := nI ((L.length - 1) / 16)) (nI_div (a := L.length - 1) (b := 16) (by omega) (by omega)) ?_
    obtain ⟨W, eW⟩ : ∃ W, W = laM L := ⟨_, rfl⟩
    have eW2 : W = (L.length - 1) / 16 := eW
    refine R_eqi (y := nI W) (congrArg nI (show (L.length - 1) / 16 = W by omega)) ?_
    refine R_istore_n (pc := 57) (lv' := [(2, .int (nI W)), (0, .ref 61), (1, .int (nI u))]) dX12_macOf_57 rfl (by decide) rfl ?_
    refine R_iconst (pc := 58) (v := 0) dX12_macOf_58 (by decide) ?_
    refine R_istore_n (pc := 59) (lv' := [(3, .int 0), (2, .int (nI W)), (0, .ref 61), (1, .int (nI u))]) dX12_macOf_59 rfl (by decide) rfl ?_
    refine R_sub [0, 1, 2, 3] rfl ?_
    refine qX12_macOf_loop (h := h) (ψ := (uo (uo ψ 83 (pt (pt (pt (ψ 83) 0 (0, 0)) 0 (F (gt (pt (ψ 83) 0 (0, 0)) 0))) 0 (dbl (gt (pt (pt (ψ 83) 0 (0, 0)) 0 (F (gt (pt (ψ 83) 0 (0, 0)) 0))) 0)))) 82 (pt (ψ 82) 0 (0, 0)))) hn u W L hL (by omega) ((Ku.uo (by decide)).uo (by decide)) hs (fun h2 ψ2 S2 hK hJ hF => ?_) W 0 (by omega) h_16 _ S_20 (FR.rf _ _) (gt_pt _ _ _) (((F_4.tr F_9).tr F_14).tr F_19)
    have K_22 := ((Ku.uo (by decide)).uo (by decide)).fr hK (by decide) (by decide) (by decide) (by decide)
    have e83 : ψ2 83 = pt (pt (pt (ψ 83) 0 (0, 0)) 0 (F (gt (pt (ψ 83) 0 (0, 0)) 0))) 0 (dbl (gt (pt (pt (ψ 83) 0 (0, 0)) 0 (F (gt (pt (ψ 83) 0 (0, 0)) 0))) 0)) := hK 83 (by decide)
    have e84 : ψ2 84 = ψ 84 := hK 84 (by decide)
    have gk : gt (ψ2 83) 0 = dbl (F (0, 0)) := by rw [e83]; simp only [gt_pt, pt_pt]
    have ga : ∀ g : oA, gt (adB (ψ2 84) (16 * W) g 0 (L.length - 16 * W)) 0 = xb (gt g 0) (rd L (16 * W)) := fun g => gt_ad (fun j_ hj_ => by rw [e84]; exact sg0 hs (by omega)) (by omega) (by omega)
    have gm : gt (adB (ψ2 84) (16 * W) (ψ2 82) 0 (L.length - 16 * W)) 0 = mac0 F L := by rw [ga, hJ, eW]; rfl
    refine R_aload_n (pc := 99) 2 dX12_macOf_99 rfl rfl ?_
    refine R_get (pc := 100) dX12_macOf_100 fX12_195 S2.obj (by omega) rfl ?_
    refine R_eqi (y := nI L.length) (hi7) ?_
    refine R_bipush (pc := 103) (v := 16) dX12_macOf_103 (by decide) ?_
    refine R_iload_n (pc := 105) 1 dX12_macOf_105 rfl rfl ?_
    refine R_imul (pc := 106) dX12_macOf_106 ?_
    refine R_eqi (y := nI (16 * W)) (nI_mul 16 W) ?_
    refine R_isub (pc := 107) dX12_macOf_107 ?_
    refine R_eqi (y := nI (L.length - (16 * W))) (nI_sb (a := L.length) (b := 16 * W) (by omega)) ?_
    refine R_istore_n (pc := 108) (lv' := [(3, .int (nI (L.length - (16 * W)))), (2, .int (nI W)), (0, .ref 61), (1, .int (nI u))]) dX12_macOf_108 rfl (by decide) rfl ?_
    refine R_aload_n (pc := 109) 2 dX12_macOf_109 rfl rfl ?_
    refine R_get (pc := 110) dX12_macOf_110 fX12_80 S2.obj (by omega) rfl ?_
    refine R_bipush (pc := 113) (v := 16) dX12_macOf_113 (by decide) ?_
    refine R_iload_n (pc := 115) 1 dX12_macOf_115 rfl rfl ?_
    refine R_imul (pc := 116) dX12_macOf_116 ?_
    refine R_eqi (y := nI (16 * W)) (nI_mul 16 W) ?_
    refine R_aload_n (pc := 117) 2 dX12_macOf_117 rfl rfl ?_
    refine R_get (pc := 118) dX12_macOf_118 fX12_74 S2.obj (by omega) rfl ?_
    refine R_iconst (pc := 121) (v := 0) dX12_macOf_121 (by decide) ?_
    refine R_iload_n (pc := 122) 0 dX12_macOf_122 rfl rfl ?_
    refine R_callSh (pc := 123) (μ' := mX12_add) (As := [.ref 84, .int (nI (16 * W)), .ref 82, .int (nI 0), .int (nI (L.length - (16 * W)))]) (st := []) dX12_macOf_123 zX12_add lX12_143 ⟨by decide, by decide⟩ rfl rfl ⟨by decide, by decide⟩ rfl (Nat.le_of_ble_eq_true rfl) (oX12_add S2 hn (p := 84) (q := 82) rfl rfl (16 * W) 0 (L.length - (16 * W)) (by show 16 * W + (L.length - (16 * W)) ≤ 700; omega) (by show 0 + (L.length - (16 * W)) ≤ 16; omega) (by decide)) (fun h_23 r_ q_24 => ?_)
    obtain ⟨rfl, S_25, F_26⟩ := q_24
    have S_27 : MO h_23 (uo ψ2 82 (adB (ψ2 84) (16 * W) (ψ2 82) 0 (L.length - (16 * W)))) z i := S_25
    refine R_iload_n (pc := 126) 0 dX12_macOf_126 rfl rfl ?_
    refine R_bipush (pc := 127) (v := 16) dX12_macOf_127 (by decide) ?_
    refine R_icmp_ge (pc := 129) (tgt := 151) dX12_macOf_129 (by decide) (fun c_28 => ?_) (fun c_28 => ?_)
    · skip
      have nc_28 : 16 ≤ L.length - (16 * W) := (nI_leI (a := 16) (b := L.length - (16 * W)) (by omega) (by omega)).mp c_28
      refine R_aload_n (pc := 151) 2 dX12_macOf_151 rfl rfl ?_
      refine R_get (pc := 152) dX12_macOf_152 fX12_77 S_27.obj (by omega) rfl ?_
      refine R_iconst (pc := 155) (v := 0) dX12_macOf_155 (by decide) ?_
      refine R_aload_n (pc := 156) 2 dX12_macOf_156 rfl rfl ?_
      refine R_get (pc := 157) dX12_macOf_157 fX12_74 S_27.obj (by omega) rfl ?_
      refine R_iconst (pc := 160) (v := 0) dX12_macOf_160 (by decide) ?_
      refine R_bipush (pc := 161) (v := 16) dX12_macOf_161 (by decide) ?_
      refine R_callSh (pc := 163) (μ' := mX12_add) (As := [.ref 83, .int (nI 0), .ref 82, .int (nI 0), .int 16]) (st := []) dX12_macOf_163 zX12_add lX12_143 ⟨by decide, by decide⟩ rfl rfl ⟨by decide, by decide⟩ rfl (Nat.le_of_ble_eq_true rfl) (oX12_add16 S_27 hn (p := 83) (q := 82) rfl rfl 0 0 (by show 0 + 16 ≤ 16; omega) (by show 0 + 16 ≤ 16; omega) (by decide)) (fun h_29 r_ q_30 => ?_)
      obtain ⟨rfl, S_31, F_32⟩ := q_30
      have S_33 : MO h_29 (uo ψ2 82 (pt (adB (ψ2 84) (16 * W) (ψ2 82) 0 (L.length - (16 * W))) 0 (xb (gt (adB (ψ2 84) (16 * W) (ψ2 82) 0 (L.length - (16 * W))) 0) (gt (ψ2 83) 0)))) z i := by have z_ := S_31; rw [uo_uo] at z_; exact z_
      refine R_aload_n (pc := 166) 2 dX12_macOf_166 rfl rfl ?_
      refine R_iload_n (pc := 167) 3 dX12_macOf_167 rfl rfl ?_
      refine R_aload_n (pc := 168) 2 dX12_macOf_168 rfl rfl ?_
      refine R_get (pc := 169) dX12_macOf_169 fX12_74 S_33.obj (by omega) rfl ?_
      refine R_iconst (pc := 172) (v := 0) dX12_macOf_172 (by decide) ?_
      refine R_callVh (pc := 173) (μ' := mX12_sealBlock) (As := [.int (nI u), .ref 82, .int (nI 0)]) (st := []) dX12_macOf_173 zX12_sealBlock lX12_146 ⟨by decide, by decide⟩ rfl rfl ⟨by decide, by decide⟩ S_33.obj (by omega) rfl (Nat.le_of_ble_eq_true rfl) (oX12_sealBlock S_33 hn (K_22.uo (by decide)) (p := 82) rfl 0 (by show 0 + 16 ≤ 16; omega)) (fun h_34 r_ q_35 => ?_)
      obtain ⟨rfl, S_36, F_37⟩ := q_35
      have S_38 : MO h_34 (uo ψ2 82 (pt (pt (adB (ψ2 84) (16 * W) (ψ2 82) 0 (L.length - (16 * W))) 0 (xb (gt (adB (ψ2 84) (16 * W) (ψ2 82) 0 (L.length - (16 * W))) 0) (gt (ψ2 83) 0))) 0 (F (gt (pt (adB (ψ2 84) (16 * W) (ψ2 82) 0 (L.length - (16 * W))) 0 (xb (gt (adB (ψ2 84) (16 * W) (ψ2 82) 0 (L.length - (16 * W))) 0) (gt (ψ2 83) 0))) 0)))) z i := by have z_ := S_36; rw [uo_uo] at z_; exact z_
      have hy : gt (pt (pt (adB (ψ2 84) (16 * W) (ψ2 82) 0 (L.length - (16 * W))) 0 (xb (gt (adB (ψ2 84) (16 * W) (ψ2 82) 0 (L.length - (16 * W))) 0) (gt (ψ2 83) 0))) 0 (F (gt (pt (adB (ψ2 84) (16 * W) (ψ2 82) 0 (L.length - (16 * W))) 0 (xb (gt (adB (ψ2 84) (16 * W) (ψ2 82) 0 (L.length - (16 * W))) 0) (gt (ψ2 83) 0))) 0))) 0 = macV F L := by
        unfold macV
        rw [← eW]
        rw [if_pos c_28]; simp only [gt_pt, pt_pt]; rw [gm, gk]
      exact R_vreturn (pc := 176) dX12_macOf_176 rfl (by decide) (by decide) ⟨rfl, _, rfl, S_38, (((((FR.rf [82, 83] _).up (by decide)).up (by decide)).tr hK (by decide)).up (by decide)), hy, (hF.tr ((F_26.tr F_32).tr F_37))⟩
    · skip
      have nc_28 : ¬ (16 ≤ L.length - (16 * W)) := fun q_ => c_28 ((nI_leI (a := 16) (b := L.length - (16 * W)) (by omega) (by omega)).mpr q_)
      refine R_aload_n (pc := 132) 2 dX12_macOf_132 rfl rfl ?_
      refine R_get (pc := 133) dX12_macOf_133 fX12_74 S_27.obj (by omega) rfl ?_
      refine R_iload_n (pc := 136) 0 dX12_macOf_136 rfl rfl ?_
      refine R_dup2 (pc := 137) dX12_macOf_137 rfl rfl ?_
      refine R_iald' (pc := 138) (j := L.length - (16 * W)) dX12_macOf_138 (S_27.arr (p := 82) rfl) (by omega) ⟨rfl, by show L.length - (16 * W) < 16; omega, by decide⟩ ?_
      refine R_eqi (y := oc ((adB (ψ2 84) (16 * W) (ψ2 82) 0 (L.length - (16 * W))) (L.length - (16 * W)))) rfl ?_
      refine R_sipush (pc := 139) (v := 128) dX12_macOf_139 (by decide) ?_
      refine R_eqi (y := oc (t8 128)) (by decide) ?_
      refine R_ixor (pc := 142) dX12_macOf_142 ?_
      refine R_eqi (y := oc (((adB (ψ2 84) (16 * W) (ψ2 82) 0 (L.length - (16 * W))) (L.length - (16 * W))) ^^^ (t8 128))) (oc_xor _ _) ?_
      refine R_iast' (pc := 143) (j := L.length - (16 * W)) dX12_macOf_143 (S_27.arr (p := 82) rfl) (by omega) ⟨rfl, by show L.length - (16 * W) < 16; omega, by decide⟩ (fun h_39 f_40 g_41 => ?_)
      have S_43 : MO h_39 (uo ψ2 82 (updB (adB (ψ2 84) (16 * W) (ψ2 82) 0 (L.length - (16 * W))) (L.length - (16 * W)) (((adB (ψ2 84) (16 * W) (ψ2 82) 0 (L.length - (16 * W))) (L.length - (16 * W))) ^^^ (t8 128)))) z i := by have z_ := MO.setA (p := 82) S_27 rfl f_40 g_41 (fun j_ => congrFun (upd_oc _ _ _) j_); rw [uo_uo] at z_; exact z_
      have F_42 := fmA (p := 82) (okA_c (by decide)).1 g_41
      refine R_aload_n (pc := 144) 2 dX12_macOf_144 rfl rfl ?_
      refine R_get (pc := 145) dX12_macOf_145 fX12_77 S_43.obj (by omega) rfl ?_
      refine R_callSh (pc := 148) (μ' := mX12_doubled) (As := [.ref 83]) (st := []) dX12_macOf_148 zX12_doubled lX12_192 ⟨by decide, by decide⟩ rfl rfl ⟨by decide, by decide⟩ rfl (Nat.le_of_ble_eq_true rfl) (oX12_doubled S_43 hn (q := 83) rfl (by decide)) (fun h_44 r_ q_45 => ?_)
      obtain ⟨rfl, S_46, F_47⟩ := q_45
      have S_48 : MO h_44 (uo (uo ψ2 82 (updB (adB (ψ2 84) (16 * W) (ψ2 82) 0 (L.length - (16 * W))) (L.length - (16 * W)) (((adB (ψ2 84) (16 * W) (ψ2 82) 0 (L.length - (16 * W))) (L.length - (16 * W))) ^^^ (t8 128)))) 83 (pt (ψ2 83) 0 (dbl (gt (ψ2 83) 0)))) z i := S_46
      refine R_aload_n (pc := 151) 2 dX12_macOf_151 rfl rfl ?_
      refine R_get (pc := 152) dX12_macOf_152 fX12_77 S_48.obj (by omega) rfl ?_
      refine R_iconst (pc := 155) (v := 0) dX12_macOf_155 (by decide) ?_
      refine R_aload_n (pc := 156) 2 dX12_macOf_156 rfl rfl ?_
      refine R_get (pc := 157) dX12_macOf_157 fX12_74 S_48.obj (by omega) rfl ?_
      refine R_iconst (pc := 160) (v := 0) dX12_macOf_160 (by decide) ?_
      refine R_bipush (pc := 161) (v := 16) dX12_macOf_161 (by decide) ?_
      refine R_callSh (pc := 163) (μ' := mX12_add) (As := [.ref 83, .int (nI 0), .ref 82, .int (nI 0), .int 16]) (st := []) dX12_macOf_163 zX12_add lX12_143 ⟨by decide, by decide⟩ rfl rfl ⟨by decide, by decide⟩ rfl (Nat.le_of_ble_eq_true rfl) (oX12_add16 S_48 hn (p := 83) (q := 82) rfl rfl 0 0 (by show 0 + 16 ≤ 16; omega) (by show 0 + 16 ≤ 16; omega) (by decide)) (fun h_49 r_ q_50 => ?_)
      obtain ⟨rfl, S_51, F_52⟩ := q_50
      have S_53 : MO h_49 (uo (uo (uo ψ2 82 (updB (adB (ψ2 84) (16 * W) (ψ2 82) 0 (L.length - (16 * W))) (L.length - (16 * W)) (((adB (ψ2 84) (16 * W) (ψ2 82) 0 (L.length - (16 * W))) (L.length - (16 * W))) ^^^ (t8 128)))) 83 (pt (ψ2 83) 0 (dbl (gt (ψ2 83) 0)))) 82 (pt (updB (adB (ψ2 84) (16 * W) (ψ2 82) 0 (L.length - (16 * W))) (L.length - (16 * W)) (((adB (ψ2 84) (16 * W) (ψ2 82) 0 (L.length - (16 * W))) (L.length - (16 * W))) ^^^ (t8 128))) 0 (xb (gt (updB (adB (ψ2 84) (16 * W) (ψ2 82) 0 (L.length - (16 * W))) (L.length - (16 * W)) (((adB (ψ2 84) (16 * W) (ψ2 82) 0 (L.length - (16 * W))) (L.length - (16 * W))) ^^^ (t8 128))) 0) (gt (pt (ψ2 83) 0 (dbl (gt (ψ2 83) 0))) 0)))) z i := S_51
      refine R_aload_n (pc := 166) 2 dX12_macOf_166 rfl rfl ?_
      refine R_iload_n (pc := 167) 3 dX12_macOf_167 rfl rfl ?_
      refine R_aload_n (pc := 168) 2 dX12_macOf_168 rfl rfl ?_
      refine R_get (pc := 169) dX12_macOf_169 fX12_74 S_53.obj (by omega) rfl ?_
      refine R_iconst (pc := 172) (v := 0) dX12_macOf_172 (by decide) ?_
      refine R_callVh (pc := 173) (μ' := mX12_sealBlock) (As := [.int (nI u), .ref 82, .int (nI 0)]) (st := []) dX12_macOf_173 zX12_sealBlock lX12_146 ⟨by decide, by decide⟩ rfl rfl ⟨by decide, by decide⟩ S_53.obj (by omega) rfl (Nat.le_of_ble_eq_true rfl) (oX12_sealBlock S_53 hn (((K_22.uo (by decide)).uo (by decide)).uo (by decide)) (p := 82) rfl 0 (by show 0 + 16 ≤ 16; omega)) (fun h_54 r_ q_55 => ?_)
      obtain ⟨rfl, S_56, F_57⟩ := q_55
      have S_58 : MO h_54 (uo (uo (uo ψ2 82 (updB (adB (ψ2 84) (16 * W) (ψ2 82) 0 (L.length - (16 * W))) (L.length - (16 * W)) (((adB (ψ2 84) (16 * W) (ψ2 82) 0 (L.length - (16 * W))) (L.length - (16 * W))) ^^^ (t8 128)))) 83 (pt (ψ2 83) 0 (dbl (gt (ψ2 83) 0)))) 82 (pt (pt (updB (adB (ψ2 84) (16 * W) (ψ2 82) 0 (L.length - (16 * W))) (L.length - (16 * W)) (((adB (ψ2 84) (16 * W) (ψ2 82) 0 (L.length - (16 * W))) (L.length - (16 * W))) ^^^ (t8 128))) 0 (xb (gt (updB (adB (ψ2 84) (16 * W) (ψ2 82) 0 (L.length - (16 * W))) (L.length - (16 * W)) (((adB (ψ2 84) (16 * W) (ψ2 82) 0 (L.length - (16 * W))) (L.length - (16 * W))) ^^^ (t8 128))) 0) (gt (pt (ψ2 83) 0 (dbl (gt (ψ2 83) 0))) 0))) 0 (F (gt (pt (updB (adB (ψ2 84) (16 * W) (ψ2 82) 0 (L.length - (16 * W))) (L.length - (16 * W)) (((adB (ψ2 84) (16 * W) (ψ2 82) 0 (L.length - (16 * W))) (L.length - (16 * W))) ^^^ (t8 128))) 0 (xb (gt (updB (adB (ψ2 84) (16 * W) (ψ2 82) 0 (L.length - (16 * W))) (L.length - (16 * W)) (((adB (ψ2 84) (16 * W) (ψ2 82) 0 (L.length - (16 * W))) (L.length - (16 * W))) ^^^ (t8 128))) 0) (gt (pt (ψ2 83) 0 (dbl (gt (ψ2 83) 0))) 0))) 0)))) z i := by have z_ := S_56; rw [uo_uo] at z_; exact z_
      have hy : gt (pt (pt (updB (adB (ψ2 84) (16 * W) (ψ2 82) 0 (L.length - (16 * W))) (L.length - (16 * W)) (((adB (ψ2 84) (16 * W) (ψ2 82) 0 (L.length - (16 * W))) (L.length - (16 * W))) ^^^ (t8 128))) 0 (xb (gt (updB (adB (ψ2 84) (16 * W) (ψ2 82) 0 (L.length - (16 * W))) (L.length - (16 * W)) (((adB (ψ2 84) (16 * W) (ψ2 82) 0 (L.length - (16 * W))) (L.length - (16 * W))) ^^^ (t8 128))) 0) (gt (pt (ψ2 83) 0 (dbl (gt (ψ2 83) 0))) 0))) 0 (F (gt (pt (updB (adB (ψ2 84) (16 * W) (ψ2 82) 0 (L.length - (16 * W))) (L.length - (16 * W)) (((adB (ψ2 84) (16 * W) (ψ2 82) 0 (L.length - (16 * W))) (L.length - (16 * W))) ^^^ (t8 128))) 0 (xb (gt (updB (adB (ψ2 84) (16 * W) (ψ2 82) 0 (L.length - (16 * W))) (L.length - (16 * W)) (((adB (ψ2 84) (16 * W) (ψ2 82) 0 (L.length - (16 * W))) (L.length - (16 * W))) ^^^ (t8 128))) 0) (gt (pt (ψ2 83) 0 (dbl (gt (ψ2 83) 0))) 0))) 0))) 0 = macV F L := by
        unfold macV
        rw [← eW]
        rw [if_neg c_28]; simp only [gt_pt, pt_pt]; rw [gt_ao _ (by omega) 128, gm, gk]
      exact R_vreturn (pc := 176) dX12_macOf_176 rfl (by decide) (by decide) ⟨rfl, _, rfl, S_58, (((((((FR.rf [82, 83] _).up (by decide)).up (by decide)).tr hK (by decide)).up (by decide)).up (by decide)).up (by decide)), hy, (hF.tr ((((F_26.tr F_42).tr F_47).tr F_52).tr F_57))⟩
  · skip
    have nc_21 : L.length = 0 := (nI_eq (a := L.length) (b := 0) (by omega) (by omega)).mp c_21
    refine R_iconst (pc := 44) (v := 0) dX12_macOf_44 (by decide) ?_
    refine R_goto (pc := 45) (tgt := 57) dX12_macOf_45 (by decide) ?_
    obtain ⟨W, eW⟩ : ∃ W, W = laM L := ⟨_, rfl⟩
    have eW2 : W = (L.length - 1) / 16 := eW
    refine R_eqi (y := nI W) (congrArg nI (show 0 = W by omega)) ?_
    refine R_istore_n (pc := 57) (lv' := [(2, .int (nI W)), (0, .ref 61), (1, .int (nI u))]) dX12_macOf_57 rfl (by decide) rfl ?_
    refine R_iconst (pc := 58) (v := 0) dX12_macOf_58 (by decide) ?_
    refine R_istore_n (pc := 59) (lv' := [(3, .int 0), (2, .int (nI W)), (0, .ref 61), (1, .int (nI u))]) dX12_macOf_59 rfl (by decide) rfl ?_
    refine R_sub [0, 1, 2, 3] rfl ?_
    refine qX12_macOf_loop (h := h) (ψ := (uo (uo ψ 83 (pt (pt (pt (ψ 83) 0 (0, 0)) 0 (F (gt (pt (ψ 83) 0 (0, 0)) 0))) 0 (dbl (gt (pt (pt (ψ 83) 0 (0, 0)) 0 (F (gt (pt (ψ 83) 0 (0, 0)) 0))) 0)))) 82 (pt (ψ 82) 0 (0, 0)))) hn u W L hL (by omega) ((Ku.uo (by decide)).uo (by decide)) hs (fun h2 ψ2 S2 hK hJ hF => ?_) W 0 (by omega) h_16 _ S_20 (FR.rf _ _) (gt_pt _ _ _) (((F_4.tr F_9).tr F_14).tr F_19)
    have K_59 := ((Ku.uo (by decide)).uo (by decide)).fr hK (by decide) (by decide) (by decide) (by decide)
    have e83 : ψ2 83 = pt (pt (pt (ψ 83) 0 (0, 0)) 0 (F (gt (pt (ψ 83) 0 (0, 0)) 0))) 0 (dbl (gt (pt (pt (ψ 83) 0 (0, 0)) 0 (F (gt (pt (ψ 83) 0 (0, 0)) 0))) 0)) := hK 83 (by decide)
    have e84 : ψ2 84 = ψ 84 := hK 84 (by decide)
    have gk : gt (ψ2 83) 0 = dbl (F (0, 0)) := by rw [e83]; simp only [gt_pt, pt_pt]
    have ga : ∀ g : oA, gt (adB (ψ2 84) (16 * W) g 0 (L.length - 16 * W)) 0 = xb (gt g 0) (rd L (16 * W)) := fun g => gt_ad (fun j_ hj_ => by rw [e84]; exact sg0 hs (by omega)) (by omega) (by omega)
    have gm : gt (adB (ψ2 84) (16 * W) (ψ2 82) 0 (L.length - 16 * W)) 0 = mac0 F L := by rw [ga, hJ, eW]; rfl
    refine R_aload_n (pc := 99) 2 dX12_macOf_99 rfl rfl ?_
    refine R_get (pc := 100) dX12_macOf_100 fX12_195 S2.obj (by omega) rfl ?_
    refine R_eqi (y := nI L.length) (hi7) ?_
    refine R_bipush (pc := 103) (v := 16) dX12_macOf_103 (by decide) ?_
    refine R_iload_n (pc := 105) 1 dX12_macOf_105 rfl rfl ?_
    refine R_imul (pc := 106) dX12_macOf_106 ?_
    refine R_eqi (y := nI (16 * W)) (nI_mul 16 W) ?_
    refine R_isub (pc := 107) dX12_macOf_107 ?_
    refine R_eqi (y := nI (L.length - (16 * W))) (nI_sb (a := L.length) (b := 16 * W) (by omega)) ?_
    refine R_istore_n (pc := 108) (lv' := [(3, .int (nI (L.length - (16 * W)))), (2, .int (nI W)), (0, .ref 61), (1, .int (nI u))]) dX12_macOf_108 rfl (by decide) rfl ?_
    refine R_aload_n (pc := 109) 2 dX12_macOf_109 rfl rfl ?_
    refine R_get (pc := 110) dX12_macOf_110 fX12_80 S2.obj (by omega) rfl ?_
    refine R_bipush (pc := 113) (v := 16) dX12_macOf_113 (by decide) ?_
    refine R_iload_n (pc := 115) 1 dX12_macOf_115 rfl rfl ?_
    refine R_imul (pc := 116) dX12_macOf_116 ?_
    refine R_eqi (y := nI (16 * W)) (nI_mul 16 W) ?_
    refine R_aload_n (pc := 117) 2 dX12_macOf_117 rfl rfl ?_
    refine R_get (pc := 118) dX12_macOf_118 fX12_74 S2.obj (by omega) rfl ?_
    refine R_iconst (pc := 121) (v := 0) dX12_macOf_121 (by decide) ?_
    refine R_iload_n (pc := 122) 0 dX12_macOf_122 rfl rfl ?_
    refine R_callSh (pc := 123) (μ' := mX12_add) (As := [.ref 84, .int (nI (16 * W)), .ref 82, .int (nI 0), .int (nI (L.length - (16 * W)))]) (st := []) dX12_macOf_123 zX12_add lX12_143 ⟨by decide, by decide⟩ rfl rfl ⟨by decide, by decide⟩ rfl (Nat.le_of_ble_eq_true rfl) (oX12_add S2 hn (p := 84) (q := 82) rfl rfl (16 * W) 0 (L.length - (16 * W)) (by show 16 * W + (L.length - (16 * W)) ≤ 700; omega) (by show 0 + (L.length - (16 * W)) ≤ 16; omega) (by decide)) (fun h_60 r_ q_61 => ?_)
    obtain ⟨rfl, S_62, F_63⟩ := q_61
    have S_64 : MO h_60 (uo ψ2 82 (adB (ψ2 84) (16 * W) (ψ2 82) 0 (L.length - (16 * W)))) z i := S_62
    refine R_iload_n (pc := 126) 0 dX12_macOf_126 rfl rfl ?_
    refine R_bipush (pc := 127) (v := 16) dX12_macOf_127 (by decide) ?_
    refine R_icmp_ge (pc := 129) (tgt := 151) dX12_macOf_129 (by decide) (fun c_65 => ?_) (fun c_65 => ?_)
    · skip
      have nc_65 : 16 ≤ L.length - (16 * W) := (nI_leI (a := 16) (b := L.length - (16 * W)) (by omega) (by omega)).mp c_65
      refine R_aload_n (pc := 151) 2 dX12_macOf_151 rfl rfl ?_
      refine R_get (pc := 152) dX12_macOf_152 fX12_77 S_64.obj (by omega) rfl ?_
      refine R_iconst (pc := 155) (v := 0) dX12_macOf_155 (by decide) ?_
      refine R_aload_n (pc := 156) 2 dX12_macOf_156 rfl rfl ?_
      refine R_get (pc := 157) dX12_macOf_157 fX12_74 S_64.obj (by omega) rfl ?_
      refine R_iconst (pc := 160) (v := 0) dX12_macOf_160 (by decide) ?_
      refine R_bipush (pc := 161) (v := 16) dX12_macOf_161 (by decide) ?_
      refine R_callSh (pc := 163) (μ' := mX12_add) (As := [.ref 83, .int (nI 0), .ref 82, .int (nI 0), .int 16]) (st := []) dX12_macOf_163 zX12_add lX12_143 ⟨by decide, by decide⟩ rfl rfl ⟨by decide, by decide⟩ rfl (Nat.le_of_ble_eq_true rfl) (oX12_add16 S_64 hn (p := 83) (q := 82) rfl rfl 0 0 (by show 0 + 16 ≤ 16; omega) (by show 0 + 16 ≤ 16; omega) (by decide)) (fun h_66 r_ q_67 => ?_)
      obtain ⟨rfl, S_68, F_69⟩ := q_67
      have S_70 : MO h_66 (uo ψ2 82 (pt (adB (ψ2 84) (16 * W) (ψ2 82) 0 (L.length - (16 * W))) 0 (xb (gt (adB (ψ2 84) (16 * W) (ψ2 82) 0 (L.length - (16 * W))) 0) (gt (ψ2 83) 0)))) z i := by have z_ := S_68; rw [uo_uo] at z_; exact z_
      refine R_aload_n (pc := 166) 2 dX12_macOf_166 rfl rfl ?_
      refine R_iload_n (pc := 167) 3 dX12_macOf_167 rfl rfl ?_
      refine R_aload_n (pc := 168) 2 dX12_macOf_168 rfl rfl ?_
      refine R_get (pc := 169) dX12_macOf_169 fX12_74 S_70.obj (by omega) rfl ?_
      refine R_iconst (pc := 172) (v := 0) dX12_macOf_172 (by decide) ?_
      refine R_callVh (pc := 173) (μ' := mX12_sealBlock) (As := [.int (nI u), .ref 82, .int (nI 0)]) (st := []) dX12_macOf_173 zX12_sealBlock lX12_146 ⟨by decide, by decide⟩ rfl rfl ⟨by decide, by decide⟩ S_70.obj (by omega) rfl (Nat.le_of_ble_eq_true rfl) (oX12_sealBlock S_70 hn (K_59.uo (by decide)) (p := 82) rfl 0 (by show 0 + 16 ≤ 16; omega)) (fun h_71 r_ q_72 => ?_)
      obtain ⟨rfl, S_73, F_74⟩ := q_72
      have S_75 : MO h_71 (uo ψ2 82 (pt (pt (adB (ψ2 84) (16 * W) (ψ2 82) 0 (L.length - (16 * W))) 0 (xb (gt (adB (ψ2 84) (16 * W) (ψ2 82) 0 (L.length - (16 * W))) 0) (gt (ψ2 83) 0))) 0 (F (gt (pt (adB (ψ2 84) (16 * W) (ψ2 82) 0 (L.length - (16 * W))) 0 (xb (gt (adB (ψ2 84) (16 * W) (ψ2 82) 0 (L.length - (16 * W))) 0) (gt (ψ2 83) 0))) 0)))) z i := by have z_ := S_73; rw [uo_uo] at z_; exact z_
      have hy : gt (pt (pt (adB (ψ2 84) (16 * W) (ψ2 82) 0 (L.length - (16 * W))) 0 (xb (gt (adB (ψ2 84) (16 * W) (ψ2 82) 0 (L.length - (16 * W))) 0) (gt (ψ2 83) 0))) 0 (F (gt (pt (adB (ψ2 84) (16 * W) (ψ2 82) 0 (L.length - (16 * W))) 0 (xb (gt (adB (ψ2 84) (16 * W) (ψ2 82) 0 (L.length - (16 * W))) 0) (gt (ψ2 83) 0))) 0))) 0 = macV F L := by
        unfold macV
        rw [← eW]
        rw [if_pos c_65]; simp only [gt_pt, pt_pt]; rw [gm, gk]
      exact R_vreturn (pc := 176) dX12_macOf_176 rfl (by decide) (by decide) ⟨rfl, _, rfl, S_75, (((((FR.rf [82, 83] _).up (by decide)).up (by decide)).tr hK (by decide)).up (by decide)), hy, (hF.tr ((F_63.tr F_69).tr F_74))⟩
    · skip
      have nc_65 : ¬ (16 ≤ L.length - (16 * W)) := fun q_ => c_65 ((nI_leI (a := 16) (b := L.length - (16 * W)) (by omega) (by omega)).mpr q_)
      refine R_aload_n (pc := 132) 2 dX12_macOf_132 rfl rfl ?_
      refine R_get (pc := 133) dX12_macOf_133 fX12_74 S_64.obj (by omega) rfl ?_
      refine R_iload_n (pc := 136) 0 dX12_macOf_136 rfl rfl ?_
      refine R_dup2 (pc := 137) dX12_macOf_137 rfl rfl ?_
      refine R_iald' (pc := 138) (j := L.length - (16 * W)) dX12_macOf_138 (S_64.arr (p := 82) rfl) (by omega) ⟨rfl, by show L.length - (16 * W) < 16; omega, by decide⟩ ?_
      refine R_eqi (y := oc ((adB (ψ2 84) (16 * W) (ψ2 82) 0 (L.length - (16 * W))) (L.length - (16 * W)))) rfl ?_
      refine R_sipush (pc := 139) (v := 128) dX12_macOf_139 (by decide) ?_
      refine R_eqi (y := oc (t8 128)) (by decide) ?_
      refine R_ixor (pc := 142) dX12_macOf_142 ?_
      refine R_eqi (y := oc (((adB (ψ2 84) (16 * W) (ψ2 82) 0 (L.length - (16 * W))) (L.length - (16 * W))) ^^^ (t8 128))) (oc_xor _ _) ?_
      refine R_iast' (pc := 143) (j := L.length - (16 * W)) dX12_macOf_143 (S_64.arr (p := 82) rfl) (by omega) ⟨rfl, by show L.length - (16 * W) < 16; omega, by decide⟩ (fun h_76 f_77 g_78 => ?_)
      have S_80 : MO h_76 (uo ψ2 82 (updB (adB (ψ2 84) (16 * W) (ψ2 82) 0 (L.length - (16 * W))) (L.length - (16 * W)) (((adB (ψ2 84) (16 * W) (ψ2 82) 0 (L.length - (16 * W))) (L.length - (16 * W))) ^^^ (t8 128)))) z i := by have z_ := MO.setA (p := 82) S_64 rfl f_77 g_78 (fun j_ => congrFun (upd_oc _ _ _) j_); rw [uo_uo] at z_; exact z_
      have F_79 := fmA (p := 82) (okA_c (by decide)).1 g_78
      refine R_aload_n (pc := 144) 2 dX12_macOf_144 rfl rfl ?_
      refine R_get (pc := 145) dX12_macOf_145 fX12_77 S_80.obj (by omega) rfl ?_
      refine R_callSh (pc := 148) (μ' := mX12_doubled) (As := [.ref 83]) (st := []) dX12_macOf_148 zX12_doubled lX12_192 ⟨by decide, by decide⟩ rfl rfl ⟨by decide, by decide⟩ rfl (Nat.le_of_ble_eq_true rfl) (oX12_doubled S_80 hn (q := 83) rfl (by decide)) (fun h_81 r_ q_82 => ?_)
      obtain ⟨rfl, S_83, F_84⟩ := q_82
      have S_85 : MO h_81 (uo (uo ψ2 82 (updB (adB (ψ2 84) (16 * W) (ψ2 82) 0 (L.length - (16 * W))) (L.length - (16 * W)) (((adB (ψ2 84) (16 * W) (ψ2 82) 0 (L.length - (16 * W))) (L.length - (16 * W))) ^^^ (t8 128)))) 83 (pt (ψ2 83) 0 (dbl (gt (ψ2 83) 0)))) z i := S_83
      refine R_aload_n (pc := 151) 2 dX12_macOf_151 rfl rfl ?_
      refine R_get (pc := 152) dX12_macOf_152 fX12_77 S_85.obj (by omega) rfl ?_
      refine R_iconst (pc := 155) (v := 0) dX12_macOf_155 (by decide) ?_
      refine R_aload_n (pc := 156) 2 dX12_macOf_156 rfl rfl ?_
      refine R_get (pc := 157) dX12_macOf_157 fX12_74 S_85.obj (by omega) rfl ?_
      refine R_iconst (pc := 160) (v := 0) dX12_macOf_160 (by decide) ?_
      refine R_bipush (pc := 161) (v := 16) dX12_macOf_161 (by decide) ?_
      refine R_callSh (pc := 163) (μ' := mX12_add) (As := [.ref 83, .int (nI 0), .ref 82, .int (nI 0), .int 16]) (st := []) dX12_macOf_163 zX12_add lX12_143 ⟨by decide, by decide⟩ rfl rfl ⟨by decide, by decide⟩ rfl (Nat.le_of_ble_eq_true rfl) (oX12_add16 S_85 hn (p := 83) (q := 82) rfl rfl 0 0 (by show 0 + 16 ≤ 16; omega) (by show 0 + 16 ≤ 16; omega) (by decide)) (fun h_86 r_ q_87 => ?_)
      obtain ⟨rfl, S_88, F_89⟩ := q_87
      have S_90 : MO h_86 (uo (uo (uo ψ2 82 (updB (adB (ψ2 84) (16 * W) (ψ2 82) 0 (L.length - (16 * W))) (L.length - (16 * W)) (((adB (ψ2 84) (16 * W) (ψ2 82) 0 (L.length - (16 * W))) (L.length - (16 * W))) ^^^ (t8 128)))) 83 (pt (ψ2 83) 0 (dbl (gt (ψ2 83) 0)))) 82 (pt (updB (adB (ψ2 84) (16 * W) (ψ2 82) 0 (L.length - (16 * W))) (L.length - (16 * W)) (((adB (ψ2 84) (16 * W) (ψ2 82) 0 (L.length - (16 * W))) (L.length - (16 * W))) ^^^ (t8 128))) 0 (xb (gt (updB (adB (ψ2 84) (16 * W) (ψ2 82) 0 (L.length - (16 * W))) (L.length - (16 * W)) (((adB (ψ2 84) (16 * W) (ψ2 82) 0 (L.length - (16 * W))) (L.length - (16 * W))) ^^^ (t8 128))) 0) (gt (pt (ψ2 83) 0 (dbl (gt (ψ2 83) 0))) 0)))) z i := S_88
      refine R_aload_n (pc := 166) 2 dX12_macOf_166 rfl rfl ?_
      refine R_iload_n (pc := 167) 3 dX12_macOf_167 rfl rfl ?_
      refine R_aload_n (pc := 168) 2 dX12_macOf_168 rfl rfl ?_
      refine R_get (pc := 169) dX12_macOf_169 fX12_74 S_90.obj (by omega) rfl ?_
      refine R_iconst (pc := 172) (v := 0) dX12_macOf_172 (by decide) ?_
      refine R_callVh (pc := 173) (μ' := mX12_sealBlock) (As := [.int (nI u), .ref 82, .int (nI 0)]) (st := []) dX12_macOf_173 zX12_sealBlock lX12_146 ⟨by decide, by decide⟩ rfl rfl ⟨by decide, by decide⟩ S_90.obj (by omega) rfl (Nat.le_of_ble_eq_true rfl) (oX12_sealBlock S_90 hn (((K_59.uo (by decide)).uo (by decide)).uo (by decide)) (p := 82) rfl 0 (by show 0 + 16 ≤ 16; omega)) (fun h_91 r_ q_92 => ?_)
      obtain ⟨rfl, S_93, F_94⟩ := q_92
      have S_95 : MO h_91 (uo (uo (uo ψ2 82 (updB (adB (ψ2 84) (16 * W) (ψ2 82) 0 (L.length - (16 * W))) (L.length - (16 * W)) (((adB (ψ2 84) (16 * W) (ψ2 82) 0 (L.length - (16 * W))) (L.length - (16 * W))) ^^^ (t8 128)))) 83 (pt (ψ2 83) 0 (dbl (gt (ψ2 83) 0)))) 82 (pt (pt (updB (adB (ψ2 84) (16 * W) (ψ2 82) 0 (L.length - (16 * W))) (L.length - (16 * W)) (((adB (ψ2 84) (16 * W) (ψ2 82) 0 (L.length - (16 * W))) (L.length - (16 * W))) ^^^ (t8 128))) 0 (xb (gt (updB (adB (ψ2 84) (16 * W) (ψ2 82) 0 (L.length - (16 * W))) (L.length - (16 * W)) (((adB (ψ2 84) (16 * W) (ψ2 82) 0 (L.length - (16 * W))) (L.length - (16 * W))) ^^^ (t8 128))) 0) (gt (pt (ψ2 83) 0 (dbl (gt (ψ2 83) 0))) 0))) 0 (F (gt (pt (updB (adB (ψ2 84) (16 * W) (ψ2 82) 0 (L.length - (16 * W))) (L.length - (16 * W)) (((adB (ψ2 84) (16 * W) (ψ2 82) 0 (L.length - (16 * W))) (L.length - (16 * W))) ^^^ (t8 128))) 0 (xb (gt (updB (adB (ψ2 84) (16 * W) (ψ2 82) 0 (L.length - (16 * W))) (L.length - (16 * W)) (((adB (ψ2 84) (16 * W) (ψ2 82) 0 (L.length - (16 * W))) (L.length - (16 * W))) ^^^ (t8 128))) 0) (gt (pt (ψ2 83) 0 (dbl (gt (ψ2 83) 0))) 0))) 0)))) z i := by have z_ := S_93; rw [uo_uo] at z_; exact z_
      have hy : gt (pt (pt (updB (adB (ψ2 84) (16 * W) (ψ2 82) 0 (L.length - (16 * W))) (L.length - (16 * W)) (((adB (ψ2 84) (16 * W) (ψ2 82) 0 (L.length - (16 * W))) (L.length - (16 * W))) ^^^ (t8 128))) 0 (xb (gt (updB (adB (ψ2 84) (16 * W) (ψ2 82) 0 (L.length - (16 * W))) (L.length - (16 * W)) (((adB (ψ2 84) (16 * W) (ψ2 82) 0 (L.length - (16 * W))) (L.length - (16 * W))) ^^^ (t8 128))) 0) (gt (pt (ψ2 83) 0 (dbl (gt (ψ2 83) 0))) 0))) 0 (F (gt (pt (updB (adB (ψ2 84) (16 * W) (ψ2 82) 0 (L.length - (16 * W))) (L.length - (16 * W)) (((adB (ψ2 84) (16 * W) (ψ2 82) 0 (L.length - (16 * W))) (L.length - (16 * W))) ^^^ (t8 128))) 0 (xb (gt (updB (adB (ψ2 84) (16 * W) (ψ2 82) 0 (L.length - (16 * W))) (L.length - (16 * W)) (((adB (ψ2 84) (16 * W) (ψ2 82) 0 (L.length - (16 * W))) (L.length - (16 * W))) ^^^ (t8 128))) 0) (gt (pt (ψ2 83) 0 (dbl (gt (ψ2 83) 0))) 0))) 0))) 0 = macV F L := by
        unfold macV
        rw [← eW]
        rw [if_neg c_65]; simp only [gt_pt, pt_pt]; rw [gt_ao _ (by omega) 128, gm, gk]
      exact R_vreturn (pc := 176) dX12_macOf_176 rfl (by decide) (by decide) ⟨rfl, _, rfl, S_95, (((((((FR.rf [82, 83] _).up (by decide)).up (by decide)).tr hK (by decide)).up (by decide)).up (by decide)).up (by decide)), hy, (hF.tr ((((F_63.tr F_79).tr F_84).tr F_89).tr F_94))⟩
def cdJ (F : bP → bP) (L : List (BitVec 8)) (x : bP) (ψ2 : Nat → oA) (k : Nat) : Prop := (k = L.length → gt (ψ2 82) 0 = cyN (csS F L) x (nbk L)) ∧ (k < L.length → ∀ j, j < 16 → ψ2 82 j = if j < k % 16 then ob (cyN (csS F L) x (k / 16)) j ^^^ og L (16 * (k / 16) + j) else ob (cyN (csS F L) x (k / 16)) j)
set_option maxHeartbeats 1000000 in
set_option maxRecDepth 100000 in
theorem qX12_chained_loop {l : Launch} {w : am_W} {h : am_H} {n : Nat} {ψ : Nat → oA} {z : fA} {i : mI} (hn : 90 ≤ n) {p : Nat} (hp : okA p = true) (hp3 : p ≠ 82) (L : List (BitVec 8)) (hL : L.length ≤ 600) (hLp : L.length ≤ mN p) (hs : sg (ψ p) 0 L) {F G : bP → bP} (K0 : Kh ψ 0 F G) (x : bP) {Q : am_H → Nat → Option Value → Prop} (kk : ∀ h2 ψ2, MO h2 ψ2 z i → FR [82] ψ ψ2 → cdJ F L x ψ2 L.length → FM h h2 → RW l w mX12_chained h2 n 0 0 54 [(3, .int (nI L.length)), (0, .ref 61), (1, .ref p), (2, .int (nI L.length))] [] Q) : ∀ (dd k : Nat), k + dd = L.length → ∀ h2 ψ2, MO h2 ψ2 z i → FR [82] ψ ψ2 → cdJ F L x ψ2 k → FM h h2 → RW l w mX12_chained h2 n 0 0 2 [(3, .int (nI k)), (0, .ref 61), (1, .ref p), (2, .int (nI L.length))] [] Q := by
  have hpb := isA_b (okA_c hp).1
  intro dd
  induction dd with
  | zero =>
    intro k hd h2 ψ2 S2 hK hJ hF
    refine R_iload_n (pc := 2) 0 dX12_chained_2 rfl rfl ?_
    refine R_iload_n (pc := 3) 3 dX12_chained_3 rfl rfl ?_
    refine R_icmp_ge (pc := 4) (tgt := 54) dX12_chained_4 (by decide) (fun c_1 => ?_) (fun c_1 => absurd (nI_le (a := L.length) (b := k) (by omega) (by omega)) c_1)
    obtain rfl : k = L.length := by omega
    exact kk h2 ψ2 S2 hK hJ hF
  | succ dd ih =>
    intro k hd h2 ψ2 S2 hK hJ hF
    have K0_2 := K0.fr hK (by decide) (by decide) (by decide) (by decide)
    have ep : ψ2 p = ψ p := hK p (by simp [hp3])
    have hNp := mN_le p
    refine R_iload_n (pc := 2) 0 dX12_chained_2 rfl rfl ?_
    refine R_iload_n (pc := 3) 3 dX12_chained_3 rfl rfl ?_
    refine R_icmp_ge (pc := 4) (tgt := 54) dX12_chained_4 (by decide) (fun c_1 => absurd c_1 (nI_ge (a := k) (b := L.length) (by omega) (by omega))) (fun c_1 => ?_)
    refine R_aload_n (pc := 7) 1 dX12_chained_7 rfl rfl ?_
    refine R_get (pc := 8) dX12_chained_8 fX12_74 S2.obj (by omega) rfl ?_
    refine R_iload_n (pc := 11) 0 dX12_chained_11 rfl rfl ?_
    refine R_bipush (pc := 12) (v := 16) dX12_chained_12 (by decide) ?_
    refine R_irem (pc := 14) dX12_chained_14 (by decide) ?_
    refine R_eqi (y := nI (k % 16)) (nI_rem (a := k) (b := 16) (by omega) (by omega)) ?_
    refine R_dup2 (pc := 15) dX12_chained_15 rfl rfl ?_
    refine R_iald' (pc := 16) (j := k % 16) dX12_chained_16 (S2.arr (p := 82) rfl) (by omega) ⟨rfl, by show k % 16 < 16; omega, by decide⟩ ?_
    refine R_eqi (y := oc (ψ2 82 (k % 16))) rfl ?_
    refine R_aload_n (pc := 17) 2 dX12_chained_17 rfl rfl ?_
    refine R_iload_n (pc := 18) 0 dX12_chained_18 rfl rfl ?_
    refine R_iald' (pc := 19) (j := k) dX12_chained_19 (S2.arr (p := p) hp) (by omega) ⟨rfl, by omega, by omega⟩ ?_
    refine R_eqi (y := oc (ψ2 p k)) rfl ?_
    refine R_ixor (pc := 20) dX12_chained_20 ?_
    refine R_eqi (y := oc ((ψ2 82 (k % 16)) ^^^ (ψ2 p k))) (oc_xor _ _) ?_
    refine R_iast' (pc := 21) (j := k % 16) dX12_chained_21 (S2.arr (p := 82) rfl) (by omega) ⟨rfl, by show k % 16 < 16; omega, by decide⟩ (fun h_2 f_3 g_4 => ?_)
    have S_6 : MO h_2 (uo ψ2 82 (updB (ψ2 82) (k % 16) ((ψ2 82 (k % 16)) ^^^ (ψ2 p k)))) z i := MO.setA (p := 82) S2 rfl f_3 g_4 (fun j_ => congrFun (upd_oc _ _ _) j_)
    have F_5 := fmA (p := 82) (okA_c (by decide)).1 g_4
    refine R_iload_n (pc := 22) 0 dX12_chained_22 rfl rfl ?_
    refine R_bipush (pc := 23) (v := 16) dX12_chained_23 (by decide) ?_
    refine R_irem (pc := 25) dX12_chained_25 (by decide) ?_
    refine R_eqi (y := nI (k % 16)) (nI_rem (a := k) (b := 16) (by omega) (by omega)) ?_
    refine R_bipush (pc := 26) (v := 15) dX12_chained_26 (by decide) ?_
    refine R_icmp_eq (pc := 28) (tgt := 38) dX12_chained_28 (by decide) (fun c_7 => ?_) (fun c_7 => ?_)
    · skip
      have nc_7 : k % 16 = 15 := (nI_eq (a := k % 16) (b := 15) (by omega) (by omega)).mp c_7
      refine R_aload_n (pc := 38) 1 dX12_chained_38 rfl rfl ?_
      refine R_iconst (pc := 39) (v := 0) dX12_chained_39 (by decide) ?_
      refine R_aload_n (pc := 40) 1 dX12_chained_40 rfl rfl ?_
      refine R_get (pc := 41) dX12_chained_41 fX12_74 S_6.obj (by omega) rfl ?_
      refine R_iconst (pc := 44) (v := 0) dX12_chained_44 (by decide) ?_
      refine R_callVh (pc := 45) (μ' := mX12_sealBlock) (As := [.int (nI 0), .ref 82, .int (nI 0)]) (st := []) dX12_chained_45 zX12_sealBlock lX12_146 ⟨by decide, by decide⟩ rfl rfl ⟨by decide, by decide⟩ S_6.obj (by omega) rfl (Nat.le_of_ble_eq_true rfl) (oX12_sealBlock S_6 hn (K0_2.uo (by decide)) (p := 82) rfl 0 (by show 0 + 16 ≤ 16; omega)) (fun h_8 r_ q_9 => ?_)
      obtain ⟨rfl, S_10, F_11⟩ := q_9
      have S_12 : MO h_8 (uo ψ2 82 (pt (updB (ψ2 82) (k % 16) ((ψ2 82 (k % 16)) ^^^ (ψ2 p k))) 0 (F (gt (updB (ψ2 82) (k % 16) ((ψ2 82 (k % 16)) ^^^ (ψ2 p k))) 0)))) z i := by have z_ := S_10; rw [uo_uo] at z_; exact z_
      refine R_iinc (pc := 48) (j := 0) (v := nI (k + 1)) (lv' := [(3, .int (nI (k + 1))), (0, .ref 61), (1, .ref p), (2, .int (nI L.length))]) dX12_chained_48 rfl (nI_add _ _) (by decide) rfl ?_
      refine R_goto (pc := 51) (tgt := 2) dX12_chained_51 (by decide) ?_
      refine R_sub [0, 1, 2, 3] rfl ?_
      have es : ∀ j, j < 16 → (updB (ψ2 82) (k % 16) ((ψ2 82 (k % 16)) ^^^ (ψ2 p k))) j = if j < k % 16 + 1 then ob (cyN (csS F L) x (k / 16)) j ^^^ og L (16 * (k / 16) + j) else ob (cyN (csS F L) x (k / 16)) j := by
        intro j_ hj_
        by_cases q_ : j_ = k % 16
        · rw [q_, updB_s, hJ.2 (by omega) _ (by omega), if_neg (by omega), if_pos (by omega), ep, sg0 hs (by omega), show 16 * (k / 16) + k % 16 = k by omega]
        · rw [updB_n q_, hJ.2 (by omega) _ hj_]
          by_cases q2_ : j_ < k % 16
          · rw [if_pos q2_, if_pos (by omega)]
          · rw [if_neg q2_, if_neg (by omega)]
      have ex : gt (updB (ψ2 82) (k % 16) ((ψ2 82 (k % 16)) ^^^ (ψ2 p k))) 0 = xb (cyN (csS F L) x (k / 16)) (rd L (16 * (k / 16))) := ob_ext fun j_ hj_ => by
        rw [ob_gt _ _ hj_, Nat.zero_add, es _ hj_, ob_xb _ _ hj_, ob_rd _ _ hj_]
        by_cases q_ : j_ < k % 16 + 1
        · rw [if_pos q_]
        · rw [if_neg q_, og_out (by omega)]; simp
      have en : gt (pt (updB (ψ2 82) (k % 16) ((ψ2 82 (k % 16)) ^^^ (ψ2 p k))) 0 (F (gt (updB (ψ2 82) (k % 16) ((ψ2 82 (k % 16)) ^^^ (ψ2 p k))) 0))) 0 = cyN (csS F L) x (k / 16 + 1) := by rw [gt_pt, ex]; rfl
      have j1 : k + 1 = L.length → gt (pt (updB (ψ2 82) (k % 16) ((ψ2 82 (k % 16)) ^^^ (ψ2 p k))) 0 (F (gt (updB (ψ2 82) (k % 16) ((ψ2 82 (k % 16)) ^^^ (ψ2 p k))) 0))) 0 = cyN (csS F L) x (nbk L) := fun q_ => by rw [en, show nbk L = k / 16 + 1 by unfold nbk; omega]
      have j2 : k + 1 < L.length → ∀ j, j < 16 → (pt (updB (ψ2 82) (k % 16) ((ψ2 82 (k % 16)) ^^^ (ψ2 p k))) 0 (F (gt (updB (ψ2 82) (k % 16) ((ψ2 82 (k % 16)) ^^^ (ψ2 p k))) 0))) j = if j < (k + 1) % 16 then ob (cyN (csS F L) x ((k + 1) / 16)) j ^^^ og L (16 * ((k + 1) / 16) + j) else ob (cyN (csS F L) x ((k + 1) / 16)) j := fun q_ j_ hj_ => by
        rw [if_neg (by omega), show (k + 1) / 16 = k / 16 + 1 by omega]
        exact gt_at0 en hj_
      exact ih (k + 1) (by omega) h_8 _ S_12 (hK.up (by decide)) (⟨j1, j2⟩) (hF.tr (F_5.tr F_11))
    · skip
      have nc_7 : ¬ (k % 16 = 15) := fun q_ => c_7 ((nI_eq (a := k % 16) (b := 15) (by omega) (by omega)).mpr q_)
      refine R_iload_n (pc := 31) 0 dX12_chained_31 rfl rfl ?_
      refine R_iload_n (pc := 32) 3 dX12_chained_32 rfl rfl ?_
      refine R_iconst (pc := 33) (v := 1) dX12_chained_33 (by decide) ?_
      refine R_isub (pc := 34) dX12_chained_34 ?_
      refine R_eqi (y := nI (L.length - 1)) (nI_sb (a := L.length) (b := 1) (by omega)) ?_
      refine R_icmp_ne (pc := 35) (tgt := 48) dX12_chained_35 (by decide) (fun c_13 => ?_) (fun c_13 => ?_)
      · skip
        have nc_13 : ¬ (k = L.length - 1) := fun q_ => c_13 ((nI_eq (a := k) (b := L.length - 1) (by omega) (by omega)).mpr q_)
        refine R_iinc (pc := 48) (j := 0) (v := nI (k + 1)) (lv' := [(3, .int (nI (k + 1))), (0, .ref 61), (1, .ref p), (2, .int (nI L.length))]) dX12_chained_48 rfl (nI_add _ _) (by decide) rfl ?_
        refine R_goto (pc := 51) (tgt := 2) dX12_chained_51 (by decide) ?_
        refine R_sub [0, 1, 2, 3] rfl ?_
        have es : ∀ j, j < 16 → (updB (ψ2 82) (k % 16) ((ψ2 82 (k % 16)) ^^^ (ψ2 p k))) j = if j < k % 16 + 1 then ob (cyN (csS F L) x (k / 16)) j ^^^ og L (16 * (k / 16) + j) else ob (cyN (csS F L) x (k / 16)) j := by
          intro j_ hj_
          by_cases q_ : j_ = k % 16
          · rw [q_, updB_s, hJ.2 (by omega) _ (by omega), if_neg (by omega), if_pos (by omega), ep, sg0 hs (by omega), show 16 * (k / 16) + k % 16 = k by omega]
          · rw [updB_n q_, hJ.2 (by omega) _ hj_]
            by_cases q2_ : j_ < k % 16
            · rw [if_pos q2_, if_pos (by omega)]
            · rw [if_neg q2_, if_neg (by omega)]
        have j1 : k + 1 = L.length → gt (updB (ψ2 82) (k % 16) ((ψ2 82 (k % 16)) ^^^ (ψ2 p k))) 0 = cyN (csS F L) x (nbk L) := fun q_ => absurd q_ (by omega)
        have j2 : k + 1 < L.length → ∀ j, j < 16 → (updB (ψ2 82) (k % 16) ((ψ2 82 (k % 16)) ^^^ (ψ2 p k))) j = if j < (k + 1) % 16 then ob (cyN (csS F L) x ((k + 1) / 16)) j ^^^ og L (16 * ((k + 1) / 16) + j) else ob (cyN (csS F L) x ((k + 1) / 16)) j := fun q_ j_ hj_ => by rw [show (k + 1) / 16 = k / 16 by omega, show (k + 1) % 16 = k % 16 + 1 by omega]; exact es _ hj_
        exact ih (k + 1) (by omega) h_2 _ S_6 (hK.up (by decide)) (⟨j1, j2⟩) (hF.tr F_5)
      · skip
        have nc_13 : k = L.length - 1 := (nI_eq (a := k) (b := L.length - 1) (by omega) (by omega)).mp c_13
        refine R_aload_n (pc := 38) 1 dX12_chained_38 rfl rfl ?_
        refine R_iconst (pc := 39) (v := 0) dX12_chained_39 (by decide) ?_
        refine R_aload_n (pc := 40) 1 dX12_chained_40 rfl rfl ?_
        refine R_get (pc := 41) dX12_chained_41 fX12_74 S_6.obj (by omega) rfl ?_
        refine R_iconst (pc := 44) (v := 0) dX12_chained_44 (by decide) ?_
        refine R_callVh (pc := 45) (μ' := mX12_sealBlock) (As := [.int (nI 0), .ref 82, .int (nI 0)]) (st := []) dX12_chained_45 zX12_sealBlock lX12_146 ⟨by decide, by decide⟩ rfl rfl ⟨by decide, by decide⟩ S_6.obj (by omega) rfl (Nat.le_of_ble_eq_true rfl) (oX12_sealBlock S_6 hn (K0_2.uo (by decide)) (p := 82) rfl 0 (by show 0 + 16 ≤ 16; omega)) (fun h_14 r_ q_15 => ?_)
        obtain ⟨rfl, S_16, F_17⟩ := q_15
        have S_18 : MO h_14 (uo ψ2 82 (pt (updB (ψ2 82) (k % 16) ((ψ2 82 (k % 16)) ^^^ (ψ2 p k))) 0 (F (gt (updB (ψ2 82) (k % 16) ((ψ2 82 (k % 16)) ^^^ (ψ2 p k))) 0)))) z i := by have z_ := S_16; rw [uo_uo] at z_; exact z_
        refine R_iinc (pc := 48) (j := 0) (v := nI (k + 1)) (lv' := [(3, .int (nI (k + 1))), (0, .ref 61), (1, .ref p), (2, .int (nI L.length))]) dX12_chained_48 rfl (nI_add _ _) (by decide) rfl ?_
        refine R_goto (pc := 51) (tgt := 2) dX12_chained_51 (by decide) ?_
        refine R_sub [0, 1, 2, 3] rfl ?_
        have es : ∀ j, j < 16 → (updB (ψ2 82) (k % 16) ((ψ2 82 (k % 16)) ^^^ (ψ2 p k))) j = if j < k % 16 + 1 then ob (cyN (csS F L) x (k / 16)) j ^^^ og L (16 * (k / 16) + j) else ob (cyN (csS F L) x (k / 16)) j := by
          intro j_ hj_
          by_cases q_ : j_ = k % 16
          · rw [q_, updB_s, hJ.2 (by omega) _ (by omega), if_neg (by omega), if_pos (by omega), ep, sg0 hs (by omega), show 16 * (k / 16) + k % 16 = k by omega]
          · rw [updB_n q_, hJ.2 (by omega) _ hj_]
            by_cases q2_ : j_ < k % 16
            · rw [if_pos q2_, if_pos (by omega)]
            · rw [if_neg q2_, if_neg (by omega)]
        have ex : gt (updB (ψ2 82) (k % 16) ((ψ2 82 (k % 16)) ^^^ (ψ2 p k))) 0 = xb (cyN (csS F L) x (k / 16)) (rd L (16 * (k / 16))) := ob_ext fun j_ hj_ => by
          rw [ob_gt _ _ hj_, Nat.zero_add, es _ hj_, ob_xb _ _ hj_, ob_rd _ _ hj_]
          by_cases q_ : j_ < k % 16 + 1
          · rw [if_pos q_]
          · rw [if_neg q_, og_out (by omega)]; simp
        have en : gt (pt (updB (ψ2 82) (k % 16) ((ψ2 82 (k % 16)) ^^^ (ψ2 p k))) 0 (F (gt (updB (ψ2 82) (k % 16) ((ψ2 82 (k % 16)) ^^^ (ψ2 p k))) 0))) 0 = cyN (csS F L) x (k / 16 + 1) := by rw [gt_pt, ex]; rfl
        have j1 : k + 1 = L.length → gt (pt (updB (ψ2 82) (k % 16) ((ψ2 82 (k % 16)) ^^^ (ψ2 p k))) 0 (F (gt (updB (ψ2 82) (k % 16) ((ψ2 82 (k % 16)) ^^^ (ψ2 p k))) 0))) 0 = cyN (csS F L) x (nbk L) := fun q_ => by rw [en, show nbk L = k / 16 + 1 by unfold nbk; omega]
        have j2 : k + 1 < L.length → ∀ j, j < 16 → (pt (updB (ψ2 82) (k % 16) ((ψ2 82 (k % 16)) ^^^ (ψ2 p k))) 0 (F (gt (updB (ψ2 82) (k % 16) ((ψ2 82 (k % 16)) ^^^ (ψ2 p k))) 0))) j = if j < (k + 1) % 16 then ob (cyN (csS F L) x ((k + 1) / 16)) j ^^^ og L (16 * ((k + 1) / 16) + j) else ob (cyN (csS F L) x ((k + 1) / 16)) j := fun q_ j_ hj_ => by
          rw [if_neg (by omega), show (k + 1) / 16 = k / 16 + 1 by omega]
          exact gt_at0 en hj_
        exact ih (k + 1) (by omega) h_14 _ S_18 (hK.up (by decide)) (⟨j1, j2⟩) (hF.tr (F_5.tr F_17))
set_option maxHeartbeats 1000000 in
set_option maxRecDepth 100000 in
theorem oX12_chained {l : Launch} {w : am_W} {h : am_H} {n : Nat} {ψ : Nat → oA} {z : fA} {i : mI} (S : MO h ψ z i) (hn : 90 ≤ n) {p : Nat} (hp : okA p = true) (hp3 : p ≠ 82) (L : List (BitVec 8)) (hL : L.length ≤ 600) (hLp : L.length ≤ mN p) (hs : sg (ψ p) 0 L) {F G : bP → bP} (K0 : Kh ψ 0 F G) : RH l w mX12_chained h n [.ref 61, .ref p, .int (nI L.length)] (fun h2 q => ∃ ψ2, q = none ∧ MO h2 ψ2 z i ∧ FR [82] ψ ψ2 ∧ gt (ψ2 82) 0 = cyN (csS F L) (gt (ψ 82) 0) (nbk L) ∧ FM h h2) := by
  refine RC.of [(0, .ref 61), (1, .ref p), (2, .int (nI L.length))] (by decide +kernel) rfl (Nat.le_of_ble_eq_true rfl) ?_
  refine R_iconst (pc := 0) (v := 0) dX12_chained_0 (by decide) ?_
  refine R_istore_n (pc := 1) (lv' := [(3, .int 0), (0, .ref 61), (1, .ref p), (2, .int (nI L.length))]) dX12_chained_1 rfl (by decide) rfl ?_
  refine R_sub [0, 1, 2, 3] rfl ?_
  refine qX12_chained_loop (h := h) (ψ := ψ) hn hp hp3 L hL hLp hs K0 (gt (ψ 82) 0) (fun h2 ψ2 S2 hK hJ hF => ?_) L.length 0 (by omega) h ψ S (FR.rf _ _) ⟨fun q_ => by rw [show nbk L = 0 by unfold nbk; omega]; rfl, fun q_ j_ hj_ => by rw [if_neg (by omega)]; show ψ 82 j_ = ob (gt (ψ 82) 0) j_; rw [ob_gt _ _ hj_, Nat.zero_add]⟩ (FM.rf h)
  exact R_vreturn (pc := 54) dX12_chained_54 rfl (by decide) (by decide) ⟨rfl, ψ2, rfl, S2, hK, hJ.1 rfl, hF⟩
set_option maxHeartbeats 1000000 in
set_option maxRecDepth 100000 in
theorem oX12_sumOf {l : Launch} {w : am_W} {h : am_H} {n : Nat} {ψ : Nat → oA} {z : fA} {i : mI} (S : MO h ψ z i) (hn : 90 ≤ n) (v : Nat) (hv : v < 256) {p : Nat} (hp : okA p = true) (hp3 : p ≠ 84) (L : List (BitVec 8)) (hL : L.length ≤ 528) (hLp : L.length ≤ mN p) (hs : sg (ψ p) 0 L) {F G : bP → bP} (K0 : Kh ψ 0 F G) : RH l w mX12_sumOf h n [.ref 61, .int (nI v), .ref p, .int (nI L.length)] (fun h2 q => ∃ ψ2, q = none ∧ MO h2 ψ2 z (ui i 7 (nI (16 + L.length))) ∧ FR [82, 83, 84] ψ ψ2 ∧ gt (ψ2 82) 0 = macV F (layN (nI v) L) ∧ FM h h2) := by
  refine RC.of [(0, .ref 61), (1, .int (nI v)), (2, .ref p), (3, .int (nI L.length))] (by decide +kernel) rfl (Nat.le_of_ble_eq_true rfl) ?_
  have hNp := mN_le p
  have hpb := isA_b (okA_c hp).1
  refine R_aload_n (pc := 0) 0 dX12_sumOf_0 rfl rfl ?_
  refine R_get (pc := 1) dX12_sumOf_1 fX12_80 S.obj (by omega) rfl ?_
  refine R_iconst (pc := 4) (v := 0) dX12_sumOf_4 (by decide) ?_
  refine R_bipush (pc := 5) (v := 16) dX12_sumOf_5 (by decide) ?_
  refine R_callSh (pc := 7) (μ' := mX12_clear) (As := [.ref 84, .int 0, .int 16]) (st := []) dX12_sumOf_7 zX12_clear lX12_164 ⟨by decide, by decide⟩ rfl rfl ⟨by decide, by decide⟩ rfl (Nat.le_of_ble_eq_true rfl) (oX12_clear16 S hn (q := 84) rfl (by decide)) (fun h_1 r_ q_2 => ?_)
  obtain ⟨rfl, S_3, F_4⟩ := q_2
  have S_5 : MO h_1 (uo ψ 84 (pt (ψ 84) 0 (0, 0))) z i := by have z_ := S_3; (try rw [uo_n (x := p) (p := 84) hp3] at z_); exact z_
  refine R_aload_n (pc := 10) 0 dX12_sumOf_10 rfl rfl ?_
  refine R_get (pc := 11) dX12_sumOf_11 fX12_80 S_5.obj (by omega) rfl ?_
  refine R_bipush (pc := 14) (v := 15) dX12_sumOf_14 (by decide) ?_
  refine R_iload_n (pc := 16) 1 dX12_sumOf_16 rfl rfl ?_
  refine R_eqi (y := oc (t8 (nI v))) (ocN hv) ?_
  refine R_iast' (pc := 17) (j := 15) dX12_sumOf_17 (S_5.arr (p := 84) rfl) (by omega) ⟨rfl, by show 15 < 700; omega, by decide⟩ (fun h_6 f_7 g_8 => ?_)
  have S_10 : MO h_6 (uo ψ 84 (updB (pt (ψ 84) 0 (0, 0)) 15 (t8 (nI v)))) z i := by have z_ := MO.setA (p := 84) S_5 rfl f_7 g_8 (fun j_ => congrFun (upd_oc _ _ _) j_); rw [uo_uo] at z_; (try rw [uo_n (x := p) (p := 84) hp3] at z_); exact z_
  have F_9 := fmA (p := 84) (okA_c (by decide)).1 g_8
  refine R_aload_n (pc := 18) 2 dX12_sumOf_18 rfl rfl ?_
  refine R_iconst (pc := 19) (v := 0) dX12_sumOf_19 (by decide) ?_
  refine R_aload_n (pc := 20) 0 dX12_sumOf_20 rfl rfl ?_
  refine R_get (pc := 21) dX12_sumOf_21 fX12_80 S_10.obj (by omega) rfl ?_
  refine R_bipush (pc := 24) (v := 16) dX12_sumOf_24 (by decide) ?_
  refine R_iload_n (pc := 26) 3 dX12_sumOf_26 rfl rfl ?_
  refine R_callSh (pc := 27) (μ' := mX12_copy) (As := [.ref p, .int (nI 0), .ref 84, .int (nI 16), .int (nI L.length)]) (st := []) dX12_sumOf_27 zX12_copy lX12_133 ⟨by decide, by decide⟩ rfl rfl ⟨by decide, by decide⟩ rfl (Nat.le_of_ble_eq_true rfl) (oX12_copy S_10 hn (p := p) (q := 84) hp rfl 0 16 L.length (by omega) (by show 16 + L.length ≤ 700; omega) hp3) (fun h_11 r_ q_12 => ?_)
  obtain ⟨rfl, S_13, F_14⟩ := q_12
  have S_15 : MO h_11 (uo ψ 84 (cpB (ψ p) 0 (updB (pt (ψ 84) 0 (0, 0)) 15 (t8 (nI v))) 16 L.length)) z i := by have z_ := S_13; rw [uo_uo] at z_; (try rw [uo_n (x := p) (p := 84) hp3] at z_); exact z_
  refine R_aload_n (pc := 30) 0 dX12_sumOf_30 rfl rfl ?_
  refine R_bipush (pc := 31) (v := 16) dX12_sumOf_31 (by decide) ?_
  refine R_iload_n (pc := 33) 3 dX12_sumOf_33 rfl rfl ?_
  refine R_iadd (pc := 34) dX12_sumOf_34 ?_
  refine R_eqi (y := nI (16 + L.length)) (nI_add 16 L.length) ?_
  refine R_put' (pc := 35) (fs' := [.int (i 0), .ref 62, .ref 63, .int (i 1), .ref 64, .int (i 2), .ref 65, .ref 66, .ref 67, .ref 68, .ref 69, .ref 70, .ref 71, .int (i 3), .ref 72, .int (i 4), .ref 73, .int (i 5), .ref 74, .int (i 6), .ref 75, .ref 76, .ref 77, .ref 78, .ref 79, .ref 80, .ref 81, .ref 82, .ref 83, .ref 84, .int (nI (16 + L.length)), .ref 85, .ref 86, .ref 87, .ref 88, .ref 89, .ref 90]) dX12_sumOf_35 fX12_195 tX12_30 rfl rfl S_15.obj (by omega) (Nat.le_of_ble_eq_true rfl) rfl (fun h_16 f_17 g_18 => ?_)
  have S_19 : MO h_16 (uo ψ 84 (cpB (ψ p) 0 (updB (pt (ψ 84) 0 (0, 0)) 15 (t8 (nI v))) 16 L.length)) z (ui i 7 (nI (16 + L.length))) := MO.setI (j := (ui i 7 (nI (16 + L.length)))) S_15 f_17 g_18
  have F_20 := fmI g_18
  have lM : (layN (nI v) L).length = 16 + L.length := by unfold layN; rw [List.length_append, List.length_append, List.length_replicate]; rfl
  have sM : sg (cpB (ψ p) 0 (updB (pt (ψ 84) 0 (0, 0)) 15 (t8 (nI v))) 16 L.length) 0 (layN (nI v) L) := by
    intro j_ hj_
    rw [lM] at hj_
    rw [Nat.zero_add]
    have l15 : (List.replicate 15 (0 : BitVec 8) ++ [t8 (nI v)]).length = 16 := by rw [List.length_append, List.length_replicate]; rfl
    unfold layN
    by_cases q_ : j_ < 16
    · rw [cpB_out _ _ _ (by omega), og_app_l (by omega)]
      by_cases q2_ : j_ = 15
      · rw [q2_, updB_s, og_app_r (by rw [List.length_replicate]; omega), List.length_replicate]; rfl
      · rw [updB_n q2_, pt_at0 _ _ q_, og_app_l (by rw [List.length_replicate]; omega), og_rep _ _ (by omega), ob_0 q_]
    · rw [og_app_r (by omega), l15]
      have := hs.cp (updB (pt (ψ 84) 0 (0, 0)) 15 (t8 (nI v))) 16 rfl (j_ - 16) (by omega)
      rw [show 16 + (j_ - 16) = j_ by omega] at this
      exact this
  have S9 : MO h_16 (uo ψ 84 (cpB (ψ p) 0 (updB (pt (ψ 84) 0 (0, 0)) 15 (t8 (nI v))) 16 L.length)) z (ui i 7 (nI (layN (nI v) L).length)) := by rw [lM]; exact S_19
  refine R_aload_n (pc := 38) 0 dX12_sumOf_38 rfl rfl ?_
  refine R_iconst (pc := 39) (v := 0) dX12_sumOf_39 (by decide) ?_
  refine R_callVh (pc := 40) (μ' := mX12_macOf) (As := [.int (nI 0)]) (st := []) dX12_sumOf_40 zX12_macOf lX12_211 ⟨by decide, by decide⟩ rfl rfl ⟨by decide, by decide⟩ S9.obj (by omega) rfl (Nat.le_of_ble_eq_true rfl) (oX12_macOf S9 hn 0 (layN (nI v) L) (by rw [lM]; omega) rfl (K0.uo (by decide)) (sM)) (fun h_21 r_ q_22 => ?_)
  obtain ⟨ψ_26, rfl, S_23, K_25, J_27, F_24⟩ := q_22
  have K_28 := (K0.uo (by decide)).fr K_25 (by decide) (by decide) (by decide) (by decide)
  exact R_vreturn (pc := 43) dX12_sumOf_43 rfl (by decide) (by decide) ⟨rfl, _, rfl, by have z_ := S_23; rw [lM] at z_; exact z_, (((FR.rf _ _).up (by decide)).tr K_25 (by decide)), J_27, ((((F_4.tr F_9).tr F_14).tr F_20).tr F_24)⟩
