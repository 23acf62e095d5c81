set_option maxHeartbeats 1000000 in
set_option maxRecDepth 100000 in
theorem qX12_twos_loop (l : Launch) (w : am_W) (h : am_H) (n i : Nat) : ∀ (f v c : Nat), 1 ≤ v → v < 2 ^ f → v < 2 ^ 30 → c + f < 2 ^ 30 → RW l w mX12_twos h n 0 0 4 [(2, .int (nI v)), (1, .int (nI c)), (0, .int (nI i))] [] (fun h' n' q => h' = h ∧ n' = n ∧ q = some (.int (nI (c + tzG f v)))) := by
  intro f
  induction f with
  | zero =>
    intro v c h1 hv
    rw [Nat.pow_zero] at hv
    omega
  | succ f ih =>
    intro v c h1 hv hv3 hc
    refine R_iload_n (pc := 4) 0 dX12_twos_4 rfl rfl ?_
    refine R_iconst (pc := 5) (v := 2) dX12_twos_5 (by decide) ?_
    refine R_irem (pc := 6) dX12_twos_6 (by decide) ?_
    refine R_eqi (y := nI (v % 2)) (nI_rem (a := v) (b := 2) (by omega) (by omega)) ?_
    refine R_if_ne (pc := 7) (tgt := 20) dX12_twos_7 (by decide) (fun c_1 => ?_) (fun c_1 => ?_)
    · skip
      have nc_1 : ¬ (v % 2 = 0) := fun q_ => c_1 ((nI_eq (a := v % 2) (b := 0) (by omega) (by omega)).mpr q_)
      refine R_iload_n (pc := 20) 1 dX12_twos_20 rfl rfl ?_
      rw [show tzG (f + 1) v = 0 from if_neg nc_1, Nat.add_zero]
      exact R_ireturn (pc := 21) dX12_twos_21 rfl (by decide) (by decide) ⟨rfl, rfl, rfl⟩
    · skip
      have nc_1 : v % 2 = 0 := (nI_eq (a := v % 2) (b := 0) (by omega) (by omega)).mp c_1
      refine R_iload_n (pc := 10) 0 dX12_twos_10 rfl rfl ?_
      refine R_iconst (pc := 11) (v := 2) dX12_twos_11 (by decide) ?_
      refine R_idiv (pc := 12) dX12_twos_12 (by decide) ?_
      refine R_eqi (y := nI (v / 2)) (nI_div (a := v) (b := 2) (by omega) (by omega)) ?_
      refine R_istore_n (pc := 13) (lv' := [(2, .int (nI (v / 2))), (1, .int (nI c)), (0, .int (nI i))]) dX12_twos_13 rfl (by decide) rfl ?_
      refine R_iinc (pc := 14) (j := 1) (v := nI (c + 1)) (lv' := [(1, .int (nI (c + 1))), (2, .int (nI (v / 2))), (0, .int (nI i))]) dX12_twos_14 rfl (nI_add _ _) (by decide) rfl ?_
      refine R_goto (pc := 17) (tgt := 4) dX12_twos_17 (by decide) ?_
      refine R_sub [1, 0, 2] rfl ?_
      have r_ := ih (v / 2) (c + 1) (by omega) (by rw [Nat.pow_succ] at hv; omega) (by omega) (by omega)
      rw [show tzG (f + 1) v = tzG f (v / 2) + 1 from if_pos nc_1, show c + (tzG f (v / 2) + 1) = c + 1 + tzG f (v / 2) by omega]
      exact r_
set_option maxHeartbeats 1000000 in
set_option maxRecDepth 100000 in
theorem qX12_twos (l : Launch) (w : am_W) (h : am_H) (n : Nat) {i : Nat} (h1 : 1 ≤ i) (hi : i < 65) : RP l w mX12_twos h n [.int (nI i)] (.int (nI (tzG 7 i))) := by
  refine RC.of [(0, .int (nI i))] (by decide +kernel) rfl (Nat.le_of_ble_eq_true rfl) ?_
  refine R_iconst (pc := 0) (v := 0) dX12_twos_0 (by decide) ?_
  refine R_istore_n (pc := 1) (lv' := [(1, .int 0), (0, .int (nI i))]) dX12_twos_1 rfl (by decide) rfl ?_
  refine R_iload_n (pc := 2) 1 dX12_twos_2 rfl rfl ?_
  refine R_istore_n (pc := 3) (lv' := [(2, .int (nI i)), (1, .int 0), (0, .int (nI i))]) dX12_twos_3 rfl (by decide) rfl ?_
  refine R_sub [0, 1, 2] rfl ?_
  have r_ := qX12_twos_loop l w h n i 7 i 0 h1 (by omega) (by omega) (by omega)
  rw [Nat.zero_add] at r_
  exact r_
def poJ (s : bP) (ψ2 : Nat → oA) (k : Nat) : Prop := gt (ψ2 78) 0 = dbN k s ∧ ∀ m, m ≤ k → gt (ψ2 87) (16 * m) = dbN m s
set_option maxHeartbeats 1000000 in
set_option maxRecDepth 100000 in
theorem qX12_prepareOffsets_loop {l : Launch} {w : am_W} {h : am_H} {n : Nat} {ψ : Nat → oA} {z : fA} {i : mI} (hn : 90 ≤ n) (s : bP) {Q : am_H → Nat → Option Value → Prop} (kk : ∀ h2 ψ2, MO h2 ψ2 z i → FR [78, 87] ψ ψ2 → poJ s ψ2 9 → FM h h2 → RW l w mX12_prepareOffsets h2 n 0 0 74 [(1, .int (nI (9 + 1))), (0, .ref 61)] [] Q) : ∀ (dd k : Nat), k + dd = 9 → ∀ h2 ψ2, MO h2 ψ2 z i → FR [78, 87] ψ ψ2 → poJ s ψ2 k → FM h h2 → RW l w mX12_prepareOffsets h2 n 0 0 37 [(1, .int (nI (k + 1))), (0, .ref 61)] [] Q := by
  intro dd
  induction dd with
  | zero =>
    intro k hd h2 ψ2 S2 hK hJ hF
    refine R_iload_n (pc := 37) 0 dX12_prepareOffsets_37 rfl rfl ?_
    refine R_bipush (pc := 38) (v := 10) dX12_prepareOffsets_38 (by decide) ?_
    refine R_icmp_ge (pc := 40) (tgt := 74) dX12_prepareOffsets_40 (by decide) (fun c_1 => ?_) (fun c_1 => absurd (nI_le (a := 10) (b := k + 1) (by omega) (by omega)) c_1)
    obtain rfl : k = 9 := by omega
    exact kk h2 ψ2 S2 hK hJ hF
  | succ dd ih =>
    intro k hd h2 ψ2 S2 hK hJ hF
    refine R_iload_n (pc := 37) 0 dX12_prepareOffsets_37 rfl rfl ?_
    refine R_bipush (pc := 38) (v := 10) dX12_prepareOffsets_38 (by decide) ?_
    refine R_icmp_ge (pc := 40) (tgt := 74) dX12_prepareOffsets_40 (by decide) (fun c_1 => absurd c_1 (nI_ge (a := k + 1) (b := 10) (by omega) (by omega))) (fun c_1 => ?_)
    refine R_aload_n (pc := 43) 1 dX12_prepareOffsets_43 rfl rfl ?_
    refine R_get (pc := 44) dX12_prepareOffsets_44 fX12_62 S2.obj (by omega) rfl ?_
    refine R_callSh (pc := 47) (μ' := mX12_doubled) (As := [.ref 78]) (st := []) dX12_prepareOffsets_47 zX12_doubled lX12_192 ⟨by decide, by decide⟩ rfl rfl ⟨by decide, by decide⟩ rfl (Nat.le_of_ble_eq_true rfl) (oX12_doubled S2 hn (q := 78) rfl (by decide)) (fun h_2 r_ q_3 => ?_)
    obtain ⟨rfl, S_4, F_5⟩ := q_3
    have S_6 : MO h_2 (uo ψ2 78 (pt (ψ2 78) 0 (dbl (gt (ψ2 78) 0)))) z i := S_4
    refine R_aload_n (pc := 50) 1 dX12_prepareOffsets_50 rfl rfl ?_
    refine R_get (pc := 51) dX12_prepareOffsets_51 fX12_62 S_6.obj (by omega) rfl ?_
    refine R_iconst (pc := 54) (v := 0) dX12_prepareOffsets_54 (by decide) ?_
    refine R_aload_n (pc := 55) 1 dX12_prepareOffsets_55 rfl rfl ?_
    refine R_get (pc := 56) dX12_prepareOffsets_56 fX12_89 S_6.obj (by omega) rfl ?_
    refine R_bipush (pc := 59) (v := 16) dX12_prepareOffsets_59 (by decide) ?_
    refine R_iload_n (pc := 61) 0 dX12_prepareOffsets_61 rfl rfl ?_
    refine R_imul (pc := 62) dX12_prepareOffsets_62 ?_
    refine R_eqi (y := nI (16 * (k + 1))) (nI_mul 16 (k + 1)) ?_
    refine R_bipush (pc := 63) (v := 16) dX12_prepareOffsets_63 (by decide) ?_
    refine R_callSh (pc := 65) (μ' := mX12_copy) (As := [.ref 78, .int (nI 0), .ref 87, .int (nI (16 * (k + 1))), .int 16]) (st := []) dX12_prepareOffsets_65 zX12_copy lX12_133 ⟨by decide, by decide⟩ rfl rfl ⟨by decide, by decide⟩ rfl (Nat.le_of_ble_eq_true rfl) (oX12_copy16 S_6 hn (p := 78) (q := 87) rfl rfl 0 (16 * (k + 1)) (by show 0 + 16 ≤ 16; omega) (by show 16 * (k + 1) + 16 ≤ 160; omega) (by decide)) (fun h_7 r_ q_8 => ?_)
    obtain ⟨rfl, S_9, F_10⟩ := q_8
    have S_11 : MO h_7 (uo (uo ψ2 78 (pt (ψ2 78) 0 (dbl (gt (ψ2 78) 0)))) 87 (pt (ψ2 87) (16 * (k + 1)) (gt (pt (ψ2 78) 0 (dbl (gt (ψ2 78) 0))) 0))) z i := S_9
    refine R_iinc (pc := 68) (j := 0) (v := nI (k + 1 + 1)) (lv' := [(1, .int (nI (k + 1 + 1))), (0, .ref 61)]) dX12_prepareOffsets_68 rfl (nI_add (k + 1) 1) (by decide) rfl ?_
    refine R_goto (pc := 71) (tgt := 37) dX12_prepareOffsets_71 (by decide) ?_
    refine R_sub [0, 1] rfl ?_
    have j1 : gt (pt (ψ2 78) 0 (dbl (gt (ψ2 78) 0))) 0 = dbN (k + 1) s := by simp only [gt_pt]; rw [hJ.1]; rfl
    have j2 : ∀ m, m ≤ k + 1 → gt (pt (ψ2 87) (16 * (k + 1)) (gt (pt (ψ2 78) 0 (dbl (gt (ψ2 78) 0))) 0)) (16 * m) = dbN m s := fun m_ hm_ => by
      by_cases q_ : m_ = k + 1
      · rw [q_, gt_pt]; exact j1
      · rw [gt_ne _ _ (by omega)]; exact hJ.2 m_ (by omega)
    exact ih (k + 1) (by omega) h_7 _ S_11 ((hK.up (by decide)).up (by decide)) (⟨j1, j2⟩) (hF.tr (F_5.tr F_10))
set_option maxHeartbeats 1000000 in
set_option maxRecDepth 100000 in
theorem oX12_prepareOffsets {l : Launch} {w : am_W} {h : am_H} {n : Nat} {ψ : Nat → oA} {z : fA} {i : mI} (S : MO h ψ z i) (hn : 90 ≤ n) {F G : bP → bP} (K0 : Kh ψ 0 F G) : RH l w mX12_prepareOffsets h n [.ref 61] (fun h2 q => ∃ ψ2, q = none ∧ MO h2 ψ2 z i ∧ FR [78, 87] ψ ψ2 ∧ (∀ m, m < 10 → gt (ψ2 87) (16 * m) = dbN m (F (0, 0))) ∧ FM h h2) := by
  refine RC.of [(0, .ref 61)] (by decide +kernel) rfl (Nat.le_of_ble_eq_true rfl) ?_
  refine R_aload_n (pc := 0) 0 dX12_prepareOffsets_0 rfl rfl ?_
  refine R_get (pc := 1) dX12_prepareOffsets_1 fX12_62 S.obj (by omega) rfl ?_
  refine R_iconst (pc := 4) (v := 0) dX12_prepareOffsets_4 (by decide) ?_
  refine R_bipush (pc := 5) (v := 16) dX12_prepareOffsets_5 (by decide) ?_
  refine R_callSh (pc := 7) (μ' := mX12_clear) (As := [.ref 78, .int 0, .int 16]) (st := []) dX12_prepareOffsets_7 zX12_clear lX12_164 ⟨by decide, by decide⟩ rfl rfl ⟨by decide, by decide⟩ rfl (Nat.le_of_ble_eq_true rfl) (oX12_clear16 S hn (q := 78) rfl (by decide)) (fun h_1 r_ q_2 => ?_)
  obtain ⟨rfl, S_3, F_4⟩ := q_2
  have S_5 : MO h_1 (uo ψ 78 (pt (ψ 78) 0 (0, 0))) z i := S_3
  refine R_aload_n (pc := 10) 0 dX12_prepareOffsets_10 rfl rfl ?_
  refine R_iconst (pc := 11) (v := 0) dX12_prepareOffsets_11 (by decide) ?_
  refine R_aload_n (pc := 12) 0 dX12_prepareOffsets_12 rfl rfl ?_
  refine R_get (pc := 13) dX12_prepareOffsets_13 fX12_62 S_5.obj (by omega) rfl ?_
  refine R_iconst (pc := 16) (v := 0) dX12_prepareOffsets_16 (by decide) ?_
  refine R_callVh (pc := 17) (μ' := mX12_sealBlock) (As := [.int (nI 0), .ref 78, .int (nI 0)]) (st := []) dX12_prepareOffsets_17 zX12_sealBlock lX12_146 ⟨by decide, by decide⟩ rfl rfl ⟨by decide, by decide⟩ S_5.obj (by omega) rfl (Nat.le_of_ble_eq_true rfl) (oX12_sealBlock S_5 hn (K0.uo (by decide)) (p := 78) rfl 0 (by show 0 + 16 ≤ 16; omega)) (fun h_6 r_ q_7 => ?_)
  obtain ⟨rfl, S_8, F_9⟩ := q_7
  have S_10 : MO h_6 (uo ψ 78 (pt (pt (ψ 78) 0 (0, 0)) 0 (F (gt (pt (ψ 78) 0 (0, 0)) 0)))) z i := by have z_ := S_8; rw [uo_uo] at z_; exact z_
  refine R_aload_n (pc := 20) 0 dX12_prepareOffsets_20 rfl rfl ?_
  refine R_get (pc := 21) dX12_prepareOffsets_21 fX12_62 S_10.obj (by omega) rfl ?_
  refine R_iconst (pc := 24) (v := 0) dX12_prepareOffsets_24 (by decide) ?_
  refine R_aload_n (pc := 25) 0 dX12_prepareOffsets_25 rfl rfl ?_
  refine R_get (pc := 26) dX12_prepareOffsets_26 fX12_89 S_10.obj (by omega) rfl ?_
  refine R_iconst (pc := 29) (v := 0) dX12_prepareOffsets_29 (by decide) ?_
  refine R_bipush (pc := 30) (v := 16) dX12_prepareOffsets_30 (by decide) ?_
  refine R_callSh (pc := 32) (μ' := mX12_copy) (As := [.ref 78, .int (nI 0), .ref 87, .int (nI 0), .int 16]) (st := []) dX12_prepareOffsets_32 zX12_copy lX12_133 ⟨by decide, by decide⟩ rfl rfl ⟨by decide, by decide⟩ rfl (Nat.le_of_ble_eq_true rfl) (oX12_copy16 S_10 hn (p := 78) (q := 87) rfl rfl 0 0 (by show 0 + 16 ≤ 16; omega) (by show 0 + 16 ≤ 160; omega) (by decide)) (fun h_11 r_ q_12 => ?_)
  obtain ⟨rfl, S_13, F_14⟩ := q_12
  have S_15 : MO h_11 (uo (uo ψ 78 (pt (pt (ψ 78) 0 (0, 0)) 0 (F (gt (pt (ψ 78) 0 (0, 0)) 0)))) 87 (pt (ψ 87) 0 (gt (pt (pt (ψ 78) 0 (0, 0)) 0 (F (gt (pt (ψ 78) 0 (0, 0)) 0))) 0))) z i := S_13
  refine R_iconst (pc := 35) (v := 1) dX12_prepareOffsets_35 (by decide) ?_
  refine R_istore_n (pc := 36) (lv' := [(1, .int 1), (0, .ref 61)]) dX12_prepareOffsets_36 rfl (by decide) rfl ?_
  refine R_sub [0, 1] rfl ?_
  refine qX12_prepareOffsets_loop (h := h) (ψ := (uo (uo ψ 78 (pt (pt (ψ 78) 0 (0, 0)) 0 (F (gt (pt (ψ 78) 0 (0, 0)) 0)))) 87 (pt (ψ 87) 0 (gt (pt (pt (ψ 78) 0 (0, 0)) 0 (F (gt (pt (ψ 78) 0 (0, 0)) 0))) 0)))) hn (F (0, 0)) (fun h2 ψ2 S2 hK hJ hF => ?_) 9 0 (by omega) h_11 _ S_15 (FR.rf _ _) ⟨by show gt (pt (pt (ψ 78) 0 (0, 0)) 0 (F (gt (pt (ψ 78) 0 (0, 0)) 0))) 0 = _; simp only [gt_pt, pt_pt]; rfl, fun m_ hm_ => by show gt (pt (ψ 87) 0 (gt (pt (pt (ψ 78) 0 (0, 0)) 0 (F (gt (pt (ψ 78) 0 (0, 0)) 0))) 0)) (16 * m_) = _; rw [show m_ = 0 by omega]; simp only [gt_pt, pt_pt, Nat.mul_zero]; rfl⟩ ((F_4.tr F_9).tr F_14)
  exact R_vreturn (pc := 74) dX12_prepareOffsets_74 rfl (by decide) (by decide) ⟨rfl, ψ2, rfl, S2, (((FR.rf [78, 87] _).up (by decide)).up (by decide)).tr hK (by decide), fun m_ hm_ => hJ.2 m_ (by omega), hF⟩
set_option maxHeartbeats 1000000 in
set_option maxRecDepth 100000 in
theorem qX12_firstOffset_w {l : Launch} {w : am_W} {h : am_H} {n : Nat} {ψ : Nat → oA} {z : fA} {i : mI} (hn : 90 ≤ n) (b : Nat) (B : bP) (hB : gt (ψ 76) 0 = B) {Q : am_H → Nat → Option Value → Prop} (kk : ∀ h2 ψ2, MO h2 ψ2 z i → FR [90] ψ ψ2 → ψ2 90 = pgB (wdB B) (ψ 90) 0 24 → FM h h2 → RW l w mX12_firstOffset h2 n 0 0 156 [(2, .int (nI 24)), (1, .int (nI b)), (0, .ref 61)] [] Q) : ∀ (dd k : Nat), k + dd = 24 → ∀ h2 ψ2, MO h2 ψ2 z i → FR [90] ψ ψ2 → ψ2 90 = pgB (wdB B) (ψ 90) 0 k → FM h h2 → RW l w mX12_firstOffset h2 n 0 0 104 [(2, .int (nI k)), (1, .int (nI b)), (0, .ref 61)] [] Q := by
  intro dd
  induction dd with
  | zero =>
    intro k hd h2 ψ2 S2 hK hJ hF
    refine R_iload_n (pc := 104) 0 dX12_firstOffset_104 rfl rfl ?_
    refine R_bipush (pc := 105) (v := 24) dX12_firstOffset_105 (by decide) ?_
    refine R_icmp_ge (pc := 107) (tgt := 156) dX12_firstOffset_107 (by decide) (fun c_1 => ?_) (fun c_1 => absurd (nI_le (a := 24) (b := k) (by omega) (by omega)) c_1)
    obtain rfl : k = 24 := by omega
    exact kk h2 ψ2 S2 hK hJ hF
  | succ dd ih =>
    intro k hd h2 ψ2 S2 hK hJ hF
    refine R_iload_n (pc := 104) 0 dX12_firstOffset_104 rfl rfl ?_
    refine R_bipush (pc := 105) (v := 24) dX12_firstOffset_105 (by decide) ?_
    refine R_icmp_ge (pc := 107) (tgt := 156) dX12_firstOffset_107 (by decide) (fun c_1 => absurd c_1 (nI_ge (a := k) (b := 24) (by omega) (by omega))) (fun c_1 => ?_)
    refine R_aload_n (pc := 110) 2 dX12_firstOffset_110 rfl rfl ?_
    refine R_get (pc := 111) dX12_firstOffset_111 fX12_98 S2.obj (by omega) rfl ?_
    refine R_iload_n (pc := 114) 0 dX12_firstOffset_114 rfl rfl ?_
    refine R_iload_n (pc := 115) 0 dX12_firstOffset_115 rfl rfl ?_
    refine R_bipush (pc := 116) (v := 16) dX12_firstOffset_116 (by decide) ?_
    refine R_icmp_ge (pc := 118) (tgt := 130) dX12_firstOffset_118 (by decide) (fun c_2 => ?_) (fun c_2 => ?_)
    · skip
      have nc_2 : 16 ≤ k := (nI_leI (a := 16) (b := k) (by omega) (by omega)).mp c_2
      refine R_aload_n (pc := 130) 2 dX12_firstOffset_130 rfl rfl ?_
      refine R_get (pc := 131) dX12_firstOffset_131 fX12_56 S2.obj (by omega) rfl ?_
      refine R_iload_n (pc := 134) 0 dX12_firstOffset_134 rfl rfl ?_
      refine R_bipush (pc := 135) (v := 16) dX12_firstOffset_135 (by decide) ?_
      refine R_isub (pc := 137) dX12_firstOffset_137 ?_
      refine R_eqi (y := nI (k - 16)) (nI_sb (a := k) (b := 16) (by omega)) ?_
      refine R_iald' (pc := 138) (j := k - 16) dX12_firstOffset_138 (S2.arr (p := 76) rfl) (by omega) ⟨rfl, by show k - 16 < 16; omega, by decide⟩ ?_
      refine R_eqi (y := oc (ψ2 76 (k - 16))) rfl ?_
      refine R_aload_n (pc := 139) 2 dX12_firstOffset_139 rfl rfl ?_
      refine R_get (pc := 140) dX12_firstOffset_140 fX12_56 S2.obj (by omega) rfl ?_
      refine R_iload_n (pc := 143) 0 dX12_firstOffset_143 rfl rfl ?_
      refine R_bipush (pc := 144) (v := 15) dX12_firstOffset_144 (by decide) ?_
      refine R_isub (pc := 146) dX12_firstOffset_146 ?_
      refine R_eqi (y := nI (k - 15)) (nI_sb (a := k) (b := 15) (by omega)) ?_
      refine R_iald' (pc := 147) (j := k - 15) dX12_firstOffset_147 (S2.arr (p := 76) rfl) (by omega) ⟨rfl, by show k - 15 < 16; omega, by decide⟩ ?_
      refine R_eqi (y := oc (ψ2 76 (k - 15))) rfl ?_
      refine R_ixor (pc := 148) dX12_firstOffset_148 ?_
      refine R_eqi (y := oc ((ψ2 76 (k - 16)) ^^^ (ψ2 76 (k - 15)))) (oc_xor _ _) ?_
      refine R_iast' (pc := 149) (j := k) dX12_firstOffset_149 (S2.arr (p := 90) rfl) (by omega) ⟨rfl, by show k < 24; omega, by decide⟩ (fun h_3 f_4 g_5 => ?_)
      have S_7 : MO h_3 (uo ψ2 90 (updB (ψ2 90) k ((ψ2 76 (k - 16)) ^^^ (ψ2 76 (k - 15))))) z i := MO.setA (p := 90) S2 rfl f_4 g_5 (fun j_ => congrFun (upd_oc _ _ _) j_)
      have F_6 := fmA (p := 90) (okA_c (by decide)).1 g_5
      refine R_iinc (pc := 150) (j := 0) (v := nI (k + 1)) (lv' := [(2, .int (nI (k + 1))), (1, .int (nI b)), (0, .ref 61)]) dX12_firstOffset_150 rfl (nI_add _ _) (by decide) rfl ?_
      refine R_goto (pc := 153) (tgt := 104) dX12_firstOffset_153 (by decide) ?_
      refine R_sub [0, 1, 2] rfl ?_
      have j1 : updB (ψ2 90) k ((ψ2 76 (k - 16)) ^^^ (ψ2 76 (k - 15))) = pgB (wdB B) (ψ 90) 0 (k + 1) := by
        rw [hJ]
        refine pgB_up _ _ (by omega) ?_
        unfold wdB
        rw [if_neg (by omega), hK 76 (by decide), gt_at0 hB (by omega), gt_at0 hB (by omega)]
      exact ih (k + 1) (by omega) h_3 _ S_7 (hK.up (by decide)) (j1) (hF.tr F_6)
    · skip
      have nc_2 : ¬ (16 ≤ k) := fun q_ => c_2 ((nI_leI (a := 16) (b := k) (by omega) (by omega)).mpr q_)
      refine R_aload_n (pc := 121) 2 dX12_firstOffset_121 rfl rfl ?_
      refine R_get (pc := 122) dX12_firstOffset_122 fX12_56 S2.obj (by omega) rfl ?_
      refine R_iload_n (pc := 125) 0 dX12_firstOffset_125 rfl rfl ?_
      refine R_iald' (pc := 126) (j := k) dX12_firstOffset_126 (S2.arr (p := 76) rfl) (by omega) ⟨rfl, by show k < 16; omega, by decide⟩ ?_
      refine R_eqi (y := oc (ψ2 76 k)) rfl ?_
      refine R_goto (pc := 127) (tgt := 149) dX12_firstOffset_127 (by decide) ?_
      refine R_iast' (pc := 149) (j := k) dX12_firstOffset_149 (S2.arr (p := 90) rfl) (by omega) ⟨rfl, by show k < 24; omega, by decide⟩ (fun h_8 f_9 g_10 => ?_)
      have S_12 : MO h_8 (uo ψ2 90 (updB (ψ2 90) k (ψ2 76 k))) z i := MO.setA (p := 90) S2 rfl f_9 g_10 (fun j_ => congrFun (upd_oc _ _ _) j_)
      have F_11 := fmA (p := 90) (okA_c (by decide)).1 g_10
      refine R_iinc (pc := 150) (j := 0) (v := nI (k + 1)) (lv' := [(2, .int (nI (k + 1))), (1, .int (nI b)), (0, .ref 61)]) dX12_firstOffset_150 rfl (nI_add _ _) (by decide) rfl ?_
      refine R_goto (pc := 153) (tgt := 104) dX12_firstOffset_153 (by decide) ?_
      refine R_sub [0, 1, 2] rfl ?_
      have j1 : updB (ψ2 90) k (ψ2 76 k) = pgB (wdB B) (ψ 90) 0 (k + 1) := by
        rw [hJ]
        refine pgB_up _ _ (by omega) ?_
        unfold wdB
        rw [if_pos (by omega), hK 76 (by decide)]; exact gt_at0 hB (by omega)
      exact ih (k + 1) (by omega) h_8 _ S_12 (hK.up (by decide)) (j1) (hF.tr F_11)
set_option maxHeartbeats 1000000 in
set_option maxRecDepth 100000 in
theorem qX12_firstOffset_o {l : Launch} {w : am_W} {h : am_H} {n : Nat} {ψ : Nat → oA} {z : fA} {i : mI} (hn : 90 ≤ n) (b : Nat) (hb : b < 64) (B : bP) (hW : ∀ j, j < 24 → ψ 90 j = wdB B j) {Q : am_H → Nat → Option Value → Prop} (kk : ∀ h2 ψ2, MO h2 ψ2 z i → FR [88] ψ ψ2 → ψ2 88 = pgB (fun j => ob (bgW B (nI b)) j) (ψ 88) 0 16 → FM h h2 → RW l w mX12_firstOffset h2 n 0 0 225 [(2, .int (nI 16)), (1, .int (nI b)), (0, .ref 61)] [] Q) : ∀ (dd k : Nat), k + dd = 16 → ∀ h2 ψ2, MO h2 ψ2 z i → FR [88] ψ ψ2 → ψ2 88 = pgB (fun j => ob (bgW B (nI b)) j) (ψ 88) 0 k → FM h h2 → RW l w mX12_firstOffset h2 n 0 0 158 [(2, .int (nI k)), (1, .int (nI b)), (0, .ref 61)] [] Q := by
  intro dd
  induction dd with
  | zero =>
    intro k hd h2 ψ2 S2 hK hJ hF
    refine R_iload_n (pc := 158) 0 dX12_firstOffset_158 rfl rfl ?_
    refine R_bipush (pc := 159) (v := 16) dX12_firstOffset_159 (by decide) ?_
    refine R_icmp_ge (pc := 161) (tgt := 225) dX12_firstOffset_161 (by decide) (fun c_1 => ?_) (fun c_1 => absurd (nI_le (a := 16) (b := k) (by omega) (by omega)) c_1)
    obtain rfl : k = 16 := by omega
    exact kk h2 ψ2 S2 hK hJ hF
  | succ dd ih =>
    intro k hd h2 ψ2 S2 hK hJ hF
    refine R_iload_n (pc := 158) 0 dX12_firstOffset_158 rfl rfl ?_
    refine R_bipush (pc := 159) (v := 16) dX12_firstOffset_159 (by decide) ?_
    refine R_icmp_ge (pc := 161) (tgt := 225) dX12_firstOffset_161 (by decide) (fun c_1 => absurd c_1 (nI_ge (a := k) (b := 16) (by omega) (by omega))) (fun c_1 => ?_)
    refine R_iload_n (pc := 164) 1 dX12_firstOffset_164 rfl rfl ?_
    refine R_bipush (pc := 165) (v := 8) dX12_firstOffset_165 (by decide) ?_
    refine R_idiv (pc := 167) dX12_firstOffset_167 (by decide) ?_
    refine R_eqi (y := nI (b / 8)) (nI_div (a := b) (b := 8) (by omega) (by omega)) ?_
    refine R_iload_n (pc := 168) 0 dX12_firstOffset_168 rfl rfl ?_
    refine R_iadd (pc := 169) dX12_firstOffset_169 ?_
    refine R_eqi (y := nI (b / 8 + k)) (nI_add (b / 8) k) ?_
    refine R_istore_n (pc := 170) (lv' := [(3, .int (nI (b / 8 + k))), (2, .int (nI k)), (1, .int (nI b)), (0, .ref 61)]) dX12_firstOffset_170 rfl (by decide) rfl ?_
    refine R_aload_n (pc := 171) 3 dX12_firstOffset_171 rfl rfl ?_
    refine R_get (pc := 172) dX12_firstOffset_172 fX12_92 S2.obj (by omega) rfl ?_
    refine R_iload_n (pc := 175) 1 dX12_firstOffset_175 rfl rfl ?_
    refine R_aload_n (pc := 176) 3 dX12_firstOffset_176 rfl rfl ?_
    refine R_get (pc := 177) dX12_firstOffset_177 fX12_98 S2.obj (by omega) rfl ?_
    refine R_iload_n (pc := 180) 0 dX12_firstOffset_180 rfl rfl ?_
    refine R_iald' (pc := 181) (j := b / 8 + k) dX12_firstOffset_181 (S2.arr (p := 90) rfl) (by omega) ⟨rfl, by show b / 8 + k < 24; omega, by decide⟩ ?_
    refine R_eqi (y := oc (ψ2 90 (b / 8 + k))) rfl ?_
    refine R_bipush (pc := 182) (v := 8) dX12_firstOffset_182 (by decide) ?_
    refine R_ishl (pc := 184) dX12_firstOffset_184 ?_
    refine R_aload_n (pc := 185) 3 dX12_firstOffset_185 rfl rfl ?_
    refine R_get (pc := 186) dX12_firstOffset_186 fX12_98 S2.obj (by omega) rfl ?_
    refine R_iload_n (pc := 189) 0 dX12_firstOffset_189 rfl rfl ?_
    refine R_iconst (pc := 190) (v := 1) dX12_firstOffset_190 (by decide) ?_
    refine R_iadd (pc := 191) dX12_firstOffset_191 ?_
    refine R_eqi (y := nI (b / 8 + k + 1)) (nI_add (b / 8 + k) 1) ?_
    refine R_bipush (pc := 192) (v := 24) dX12_firstOffset_192 (by decide) ?_
    refine R_icmp_ge (pc := 194) (tgt := 203) dX12_firstOffset_194 (by decide) (fun c_2 => absurd c_2 (nI_ge (a := b / 8 + k + 1) (b := 24) (by omega) (by omega))) (fun c_2 => ?_)
    refine R_iload_n (pc := 197) 0 dX12_firstOffset_197 rfl rfl ?_
    refine R_iconst (pc := 198) (v := 1) dX12_firstOffset_198 (by decide) ?_
    refine R_iadd (pc := 199) dX12_firstOffset_199 ?_
    refine R_eqi (y := nI (b / 8 + k + 1)) (nI_add (b / 8 + k) 1) ?_
    refine R_goto (pc := 200) (tgt := 204) dX12_firstOffset_200 (by decide) ?_
    refine R_iald' (pc := 204) (j := b / 8 + k + 1) dX12_firstOffset_204 (S2.arr (p := 90) rfl) (by omega) ⟨rfl, by show b / 8 + k + 1 < 24; omega, by decide⟩ ?_
    refine R_eqi (y := oc (ψ2 90 (b / 8 + k + 1))) rfl ?_
    refine R_ior (pc := 205) dX12_firstOffset_205 ?_
    refine R_bipush (pc := 206) (v := 8) dX12_firstOffset_206 (by decide) ?_
    refine R_iload_n (pc := 208) 2 dX12_firstOffset_208 rfl rfl ?_
    refine R_bipush (pc := 209) (v := 8) dX12_firstOffset_209 (by decide) ?_
    refine R_irem (pc := 211) dX12_firstOffset_211 (by decide) ?_
    refine R_eqi (y := nI (b % 8)) (nI_rem (a := b) (b := 8) (by omega) (by omega)) ?_
    refine R_isub (pc := 212) dX12_firstOffset_212 ?_
    refine R_eqi (y := nI (8 - (b % 8))) (nI_sb (a := 8) (b := b % 8) (by omega)) ?_
    refine R_ishr (pc := 213) dX12_firstOffset_213 ?_
    refine R_sipush (pc := 214) (v := 255) dX12_firstOffset_214 (by decide) ?_
    refine R_iand (pc := 217) dX12_firstOffset_217 ?_
    refine R_eqi (y := oc (t8 ((((oc (ψ2 90 (b / 8 + k))) <<< (8 &&& 31)) ||| (oc (ψ2 90 (b / 8 + k + 1)))) >>> (nI (8 - (b % 8)) &&& 31)))) (oc_t8 _) ?_
    refine R_iast' (pc := 218) (j := k) dX12_firstOffset_218 (S2.arr (p := 88) rfl) (by omega) ⟨rfl, by show k < 16; omega, by decide⟩ (fun h_3 f_4 g_5 => ?_)
    have S_7 : MO h_3 (uo ψ2 88 (updB (ψ2 88) k (t8 ((((oc (ψ2 90 (b / 8 + k))) <<< (8 &&& 31)) ||| (oc (ψ2 90 (b / 8 + k + 1)))) >>> (nI (8 - (b % 8)) &&& 31))))) z i := MO.setA (p := 88) S2 rfl f_4 g_5 (fun j_ => congrFun (upd_oc _ _ _) j_)
    have F_6 := fmA (p := 88) (okA_c (by decide)).1 g_5
    refine R_iinc (pc := 219) (j := 1) (v := nI (k + 1)) (lv' := [(2, .int (nI (k + 1))), (3, .int (nI (b / 8 + k))), (1, .int (nI b)), (0, .ref 61)]) dX12_firstOffset_219 rfl (nI_add _ _) (by decide) rfl ?_
    refine R_goto (pc := 222) (tgt := 158) dX12_firstOffset_222 (by decide) ?_
    refine R_sub [0, 2, 3] rfl ?_
    have e90 : ψ2 90 = ψ 90 := hK 90 (by decide)
    have j1 : updB (ψ2 88) k (t8 ((((oc (ψ2 90 (b / 8 + k))) <<< (8 &&& 31)) ||| (oc (ψ2 90 (b / 8 + k + 1)))) >>> (nI (8 - (b % 8)) &&& 31))) = pgB (fun j => ob (bgW B (nI b)) j) (ψ 88) 0 (k + 1) := by
      rw [hJ]
      refine pgB_up _ _ (by omega) ?_
      rw [bgW_ob B hb (by omega), e90, hW _ (by omega), hW _ (by omega)]
    exact ih (k + 1) (by omega) h_3 _ S_7 (hK.up (by decide)) (j1) (hF.tr F_6)
set_option maxHeartbeats 1000000 in
set_option maxRecDepth 100000 in
theorem oX12_firstOffset {l : Launch} {w : am_W} {h : am_H} {n : Nat} {ψ : Nat → oA} {z : fA} {i : mI} (S : MO h ψ z i) (hn : 90 ≤ n) (N : List (BitVec 8)) (mm : Nat) (hN1 : 1 ≤ N.length) (hN : N.length ≤ 15) (hmm : 4 ≤ mm) (hmm16 : mm ≤ 16) (hi1 : i 1 = nI mm) (hi5 : i 5 = nI N.length) (hsN : sg (ψ 73) 0 N) {F G : bP → bP} (K0 : Kh ψ 0 F G) : RH l w mX12_firstOffset h n [.ref 61] (fun h2 q => ∃ ψ2, q = none ∧ MO h2 ψ2 z i ∧ FR [76, 88, 90] ψ ψ2 ∧ gt (ψ2 88) 0 = bgO F N (nI mm) ∧ FM h h2) := by
  refine RC.of [(0, .ref 61)] (by decide +kernel) rfl (Nat.le_of_ble_eq_true rfl) ?_
  refine R_aload_n (pc := 0) 0 dX12_firstOffset_0 rfl rfl ?_
  refine R_get (pc := 1) dX12_firstOffset_1 fX12_56 S.obj (by omega) rfl ?_
  refine R_iconst (pc := 4) (v := 0) dX12_firstOffset_4 (by decide) ?_
  refine R_bipush (pc := 5) (v := 16) dX12_firstOffset_5 (by decide) ?_
  refine R_callSh (pc := 7) (μ' := mX12_clear) (As := [.ref 76, .int 0, .int 16]) (st := []) dX12_firstOffset_7 zX12_clear lX12_164 ⟨by decide, by decide⟩ rfl rfl ⟨by decide, by decide⟩ rfl (Nat.le_of_ble_eq_true rfl) (oX12_clear16 S hn (q := 76) rfl (by decide)) (fun h_1 r_ q_2 => ?_)
  obtain ⟨rfl, S_3, F_4⟩ := q_2
  have S_5 : MO h_1 (uo ψ 76 (pt (ψ 76) 0 (0, 0))) z i := S_3
  refine R_aload_n (pc := 10) 0 dX12_firstOffset_10 rfl rfl ?_
  refine R_get (pc := 11) dX12_firstOffset_11 fX12_56 S_5.obj (by omega) rfl ?_
  refine R_iconst (pc := 14) (v := 0) dX12_firstOffset_14 (by decide) ?_
  refine R_bipush (pc := 15) (v := 8) dX12_firstOffset_15 (by decide) ?_
  refine R_aload_n (pc := 17) 0 dX12_firstOffset_17 rfl rfl ?_
  refine R_get (pc := 18) dX12_firstOffset_18 fX12_16 S_5.obj (by omega) rfl ?_
  refine R_eqi (y := nI mm) (hi1) ?_
  refine R_imul (pc := 21) dX12_firstOffset_21 ?_
  refine R_eqi (y := nI (8 * mm)) (nI_mul 8 mm) ?_
  refine R_sipush (pc := 22) (v := 128) dX12_firstOffset_22 (by decide) ?_
  refine R_irem (pc := 25) dX12_firstOffset_25 (by decide) ?_
  refine R_eqi (y := nI ((8 * mm) % 128)) (nI_rem (a := 8 * mm) (b := 128) (by omega) (by omega)) ?_
  refine R_iconst (pc := 26) (v := 2) dX12_firstOffset_26 (by decide) ?_
  refine R_imul (pc := 27) dX12_firstOffset_27 ?_
  refine R_eqi (y := oc (t8 (nI (8 * mm % 128 * 2)))) ((nI_mul (8 * mm % 128) 2).trans (ocN (by omega))) ?_
  refine R_iast' (pc := 28) (j := 0) dX12_firstOffset_28 (S_5.arr (p := 76) rfl) (by omega) ⟨rfl, by show 0 < 16; omega, by decide⟩ (fun h_6 f_7 g_8 => ?_)
  have S_10 : MO h_6 (uo ψ 76 (updB (pt (ψ 76) 0 (0, 0)) 0 (t8 (nI (8 * mm % 128 * 2))))) z i := by have z_ := MO.setA (p := 76) S_5 rfl f_7 g_8 (fun j_ => congrFun (upd_oc _ _ _) j_); rw [uo_uo] at z_; exact z_
  have F_9 := fmA (p := 76) (okA_c (by decide)).1 g_8
  refine R_aload_n (pc := 29) 0 dX12_firstOffset_29 rfl rfl ?_
  refine R_get (pc := 30) dX12_firstOffset_30 fX12_47 S_10.obj (by omega) rfl ?_
  refine R_iconst (pc := 33) (v := 0) dX12_firstOffset_33 (by decide) ?_
  refine R_aload_n (pc := 34) 0 dX12_firstOffset_34 rfl rfl ?_
  refine R_get (pc := 35) dX12_firstOffset_35 fX12_56 S_10.obj (by omega) rfl ?_
  refine R_bipush (pc := 38) (v := 16) dX12_firstOffset_38 (by decide) ?_
  refine R_aload_n (pc := 40) 0 dX12_firstOffset_40 rfl rfl ?_
  refine R_get (pc := 41) dX12_firstOffset_41 fX12_137 S_10.obj (by omega) rfl ?_
  refine R_eqi (y := nI N.length) (hi5) ?_
  refine R_isub (pc := 44) dX12_firstOffset_44 ?_
  refine R_eqi (y := nI (16 - N.length)) (nI_sb (a := 16) (b := N.length) (by omega)) ?_
  refine R_aload_n (pc := 45) 0 dX12_firstOffset_45 rfl rfl ?_
  refine R_get (pc := 46) dX12_firstOffset_46 fX12_137 S_10.obj (by omega) rfl ?_
  refine R_eqi (y := nI N.length) (hi5) ?_
  refine R_callSh (pc := 49) (μ' := mX12_copy) (As := [.ref 73, .int (nI 0), .ref 76, .int (nI (16 - N.length)), .int (nI N.length)]) (st := []) dX12_firstOffset_49 zX12_copy lX12_133 ⟨by decide, by decide⟩ rfl rfl ⟨by decide, by decide⟩ rfl (Nat.le_of_ble_eq_true rfl) (oX12_copy S_10 hn (p := 73) (q := 76) rfl rfl 0 (16 - N.length) N.length (by show 0 + N.length ≤ 64; omega) (by show 16 - N.length + N.length ≤ 16; omega) (by decide)) (fun h_11 r_ q_12 => ?_)
  obtain ⟨rfl, S_13, F_14⟩ := q_12
  have S_15 : MO h_11 (uo ψ 76 (cpB (ψ 73) 0 (updB (pt (ψ 76) 0 (0, 0)) 0 (t8 (nI (8 * mm % 128 * 2)))) (16 - N.length) N.length)) z i := by have z_ := S_13; rw [uo_uo] at z_; exact z_
  refine R_aload_n (pc := 52) 0 dX12_firstOffset_52 rfl rfl ?_
  refine R_get (pc := 53) dX12_firstOffset_53 fX12_56 S_15.obj (by omega) rfl ?_
  refine R_bipush (pc := 56) (v := 15) dX12_firstOffset_56 (by decide) ?_
  refine R_aload_n (pc := 58) 0 dX12_firstOffset_58 rfl rfl ?_
  refine R_get (pc := 59) dX12_firstOffset_59 fX12_137 S_15.obj (by omega) rfl ?_
  refine R_eqi (y := nI N.length) (hi5) ?_
  refine R_isub (pc := 62) dX12_firstOffset_62 ?_
  refine R_eqi (y := nI (15 - N.length)) (nI_sb (a := 15) (b := N.length) (by omega)) ?_
  refine R_dup2 (pc := 63) dX12_firstOffset_63 rfl rfl ?_
  refine R_iald' (pc := 64) (j := 15 - N.length) dX12_firstOffset_64 (S_15.arr (p := 76) rfl) (by omega) ⟨rfl, by show 15 - N.length < 16; omega, by decide⟩ ?_
  refine R_eqi (y := oc ((cpB (ψ 73) 0 (updB (pt (ψ 76) 0 (0, 0)) 0 (t8 (nI (8 * mm % 128 * 2)))) (16 - N.length) N.length) (15 - N.length))) rfl ?_
  refine R_iconst (pc := 65) (v := 1) dX12_firstOffset_65 (by decide) ?_
  refine R_eqi (y := oc (t8 1)) (by decide) ?_
  refine R_ixor (pc := 66) dX12_firstOffset_66 ?_
  refine R_eqi (y := oc (((cpB (ψ 73) 0 (updB (pt (ψ 76) 0 (0, 0)) 0 (t8 (nI (8 * mm % 128 * 2)))) (16 - N.length) N.length) (15 - N.length)) ^^^ (t8 1))) (oc_xor _ _) ?_
  refine R_iast' (pc := 67) (j := 15 - N.length) dX12_firstOffset_67 (S_15.arr (p := 76) rfl) (by omega) ⟨rfl, by show 15 - N.length < 16; omega, by decide⟩ (fun h_16 f_17 g_18 => ?_)
  have S_20 : MO h_16 (uo ψ 76 (updB (cpB (ψ 73) 0 (updB (pt (ψ 76) 0 (0, 0)) 0 (t8 (nI (8 * mm % 128 * 2)))) (16 - N.length) N.length) (15 - N.length) (((cpB (ψ 73) 0 (updB (pt (ψ 76) 0 (0, 0)) 0 (t8 (nI (8 * mm % 128 * 2)))) (16 - N.length) N.length) (15 - N.length)) ^^^ (t8 1)))) z i := by have z_ := MO.setA (p := 76) S_15 rfl f_17 g_18 (fun j_ => congrFun (upd_oc _ _ _) j_); rw [uo_uo] at z_; exact z_
  have F_19 := fmA (p := 76) (okA_c (by decide)).1 g_18
  refine R_aload_n (pc := 68) 0 dX12_firstOffset_68 rfl rfl ?_
  refine R_get (pc := 69) dX12_firstOffset_69 fX12_56 S_20.obj (by omega) rfl ?_
  refine R_bipush (pc := 72) (v := 15) dX12_firstOffset_72 (by decide) ?_
  refine R_iald' (pc := 74) (j := 15) dX12_firstOffset_74 (S_20.arr (p := 76) rfl) (by omega) ⟨rfl, by show 15 < 16; omega, by decide⟩ ?_
  refine R_eqi (y := oc ((updB (cpB (ψ 73) 0 (updB (pt (ψ 76) 0 (0, 0)) 0 (t8 (nI (8 * mm % 128 * 2)))) (16 - N.length) N.length) (15 - N.length) (((cpB (ψ 73) 0 (updB (pt (ψ 76) 0 (0, 0)) 0 (t8 (nI (8 * mm % 128 * 2)))) (16 - N.length) N.length) (15 - N.length)) ^^^ (t8 1))) 15)) rfl ?_
  refine R_bipush (pc := 75) (v := 63) dX12_firstOffset_75 (by decide) ?_
  refine R_iand (pc := 77) dX12_firstOffset_77 ?_
  obtain ⟨b, eb⟩ : ∃ b, b = (((updB (cpB (ψ 73) 0 (updB (pt (ψ 76) 0 (0, 0)) 0 (t8 (nI (8 * mm % 128 * 2)))) (16 - N.length) N.length) (15 - N.length) (((cpB (ψ 73) 0 (updB (pt (ψ 76) 0 (0, 0)) 0 (t8 (nI (8 * mm % 128 * 2)))) (16 - N.length) N.length) (15 - N.length)) ^^^ (t8 1))) 15)).toNat % 64 := ⟨_, rfl⟩
  have hb : b < 64 := by omega
  refine R_eqi (y := nI b) (by rw [eb]; exact oc_63 _) ?_
  refine R_istore_n (pc := 78) (lv' := [(1, .int (nI b)), (0, .ref 61)]) dX12_firstOffset_78 rfl (by decide) rfl ?_
  refine R_aload_n (pc := 79) 1 dX12_firstOffset_79 rfl rfl ?_
  refine R_get (pc := 80) dX12_firstOffset_80 fX12_56 S_20.obj (by omega) rfl ?_
  refine R_bipush (pc := 83) (v := 15) dX12_firstOffset_83 (by decide) ?_
  refine R_dup2 (pc := 85) dX12_firstOffset_85 rfl rfl ?_
  refine R_iald' (pc := 86) (j := 15) dX12_firstOffset_86 (S_20.arr (p := 76) rfl) (by omega) ⟨rfl, by show 15 < 16; omega, by decide⟩ ?_
  refine R_eqi (y := oc ((updB (cpB (ψ 73) 0 (updB (pt (ψ 76) 0 (0, 0)) 0 (t8 (nI (8 * mm % 128 * 2)))) (16 - N.length) N.length) (15 - N.length) (((cpB (ψ 73) 0 (updB (pt (ψ 76) 0 (0, 0)) 0 (t8 (nI (8 * mm % 128 * 2)))) (16 - N.length) N.length) (15 - N.length)) ^^^ (t8 1))) 15)) rfl ?_
  refine R_sipush (pc := 87) (v := 192) dX12_firstOffset_87 (by decide) ?_
  refine R_iand (pc := 90) dX12_firstOffset_90 ?_
  refine R_eqi (y := oc (((updB (cpB (ψ 73) 0 (updB (pt (ψ 76) 0 (0, 0)) 0 (t8 (nI (8 * mm % 128 * 2)))) (16 - N.length) N.length) (15 - N.length) (((cpB (ψ 73) 0 (updB (pt (ψ 76) 0 (0, 0)) 0 (t8 (nI (8 * mm % 128 * 2)))) (16 - N.length) N.length) (15 - N.length)) ^^^ (t8 1))) 15) &&& 192)) (oc_192 _) ?_
  refine R_iast' (pc := 91) (j := 15) dX12_firstOffset_91 (S_20.arr (p := 76) rfl) (by omega) ⟨rfl, by show 15 < 16; omega, by decide⟩ (fun h_21 f_22 g_23 => ?_)
  have S_25 : MO h_21 (uo ψ 76 (updB (updB (cpB (ψ 73) 0 (updB (pt (ψ 76) 0 (0, 0)) 0 (t8 (nI (8 * mm % 128 * 2)))) (16 - N.length) N.length) (15 - N.length) (((cpB (ψ 73) 0 (updB (pt (ψ 76) 0 (0, 0)) 0 (t8 (nI (8 * mm % 128 * 2)))) (16 - N.length) N.length) (15 - N.length)) ^^^ (t8 1))) 15 (((updB (cpB (ψ 73) 0 (updB (pt (ψ 76) 0 (0, 0)) 0 (t8 (nI (8 * mm % 128 * 2)))) (16 - N.length) N.length) (15 - N.length) (((cpB (ψ 73) 0 (updB (pt (ψ 76) 0 (0, 0)) 0 (t8 (nI (8 * mm % 128 * 2)))) (16 - N.length) N.length) (15 - N.length)) ^^^ (t8 1))) 15) &&& 192))) z i := by have z_ := MO.setA (p := 76) S_20 rfl f_22 g_23 (fun j_ => congrFun (upd_oc _ _ _) j_); rw [uo_uo] at z_; exact z_
  have F_24 := fmA (p := 76) (okA_c (by decide)).1 g_23
  refine R_aload_n (pc := 92) 1 dX12_firstOffset_92 rfl rfl ?_
  refine R_iconst (pc := 93) (v := 0) dX12_firstOffset_93 (by decide) ?_
  refine R_aload_n (pc := 94) 1 dX12_firstOffset_94 rfl rfl ?_
  refine R_get (pc := 95) dX12_firstOffset_95 fX12_56 S_25.obj (by omega) rfl ?_
  refine R_iconst (pc := 98) (v := 0) dX12_firstOffset_98 (by decide) ?_
  refine R_callVh (pc := 99) (μ' := mX12_sealBlock) (As := [.int (nI 0), .ref 76, .int (nI 0)]) (st := []) dX12_firstOffset_99 zX12_sealBlock lX12_146 ⟨by decide, by decide⟩ rfl rfl ⟨by decide, by decide⟩ S_25.obj (by omega) rfl (Nat.le_of_ble_eq_true rfl) (oX12_sealBlock S_25 hn (K0.uo (by decide)) (p := 76) rfl 0 (by show 0 + 16 ≤ 16; omega)) (fun h_26 r_ q_27 => ?_)
  obtain ⟨rfl, S_28, F_29⟩ := q_27
  have S_30 : MO h_26 (uo ψ 76 (pt (updB (updB (cpB (ψ 73) 0 (updB (pt (ψ 76) 0 (0, 0)) 0 (t8 (nI (8 * mm % 128 * 2)))) (16 - N.length) N.length) (15 - N.length) (((cpB (ψ 73) 0 (updB (pt (ψ 76) 0 (0, 0)) 0 (t8 (nI (8 * mm % 128 * 2)))) (16 - N.length) N.length) (15 - N.length)) ^^^ (t8 1))) 15 (((updB (cpB (ψ 73) 0 (updB (pt (ψ 76) 0 (0, 0)) 0 (t8 (nI (8 * mm % 128 * 2)))) (16 - N.length) N.length) (15 - N.length) (((cpB (ψ 73) 0 (updB (pt (ψ 76) 0 (0, 0)) 0 (t8 (nI (8 * mm % 128 * 2)))) (16 - N.length) N.length) (15 - N.length)) ^^^ (t8 1))) 15) &&& 192)) 0 (F (gt (updB (updB (cpB (ψ 73) 0 (updB (pt (ψ 76) 0 (0, 0)) 0 (t8 (nI (8 * mm % 128 * 2)))) (16 - N.length) N.length) (15 - N.length) (((cpB (ψ 73) 0 (updB (pt (ψ 76) 0 (0, 0)) 0 (t8 (nI (8 * mm % 128 * 2)))) (16 - N.length) N.length) (15 - N.length)) ^^^ (t8 1))) 15 (((updB (cpB (ψ 73) 0 (updB (pt (ψ 76) 0 (0, 0)) 0 (t8 (nI (8 * mm % 128 * 2)))) (16 - N.length) N.length) (15 - N.length) (((cpB (ψ 73) 0 (updB (pt (ψ 76) 0 (0, 0)) 0 (t8 (nI (8 * mm % 128 * 2)))) (16 - N.length) N.length) (15 - N.length)) ^^^ (t8 1))) 15) &&& 192)) 0)))) z i := by have z_ := S_28; rw [uo_uo] at z_; exact z_
  refine R_iconst (pc := 102) (v := 0) dX12_firstOffset_102 (by decide) ?_
  refine R_istore_n (pc := 103) (lv' := [(2, .int 0), (1, .int (nI b)), (0, .ref 61)]) dX12_firstOffset_103 rfl (by decide) rfl ?_
  have eN : gt (updB (cpB (ψ 73) 0 (updB (pt (ψ 76) 0 (0, 0)) 0 (t8 (nI (8 * mm % 128 * 2)))) (16 - N.length) N.length) (15 - N.length) (((cpB (ψ 73) 0 (updB (pt (ψ 76) 0 (0, 0)) 0 (t8 (nI (8 * mm % 128 * 2)))) (16 - N.length) N.length) (15 - N.length)) ^^^ (t8 1))) 0 = (bgN N (nI mm)) := bgN_gt hN1 hN hmm16 hsN rfl
  have eM : gt (updB (updB (cpB (ψ 73) 0 (updB (pt (ψ 76) 0 (0, 0)) 0 (t8 (nI (8 * mm % 128 * 2)))) (16 - N.length) N.length) (15 - N.length) (((cpB (ψ 73) 0 (updB (pt (ψ 76) 0 (0, 0)) 0 (t8 (nI (8 * mm % 128 * 2)))) (16 - N.length) N.length) (15 - N.length)) ^^^ (t8 1))) 15 ((updB (cpB (ψ 73) 0 (updB (pt (ψ 76) 0 (0, 0)) 0 (t8 (nI (8 * mm % 128 * 2)))) (16 - N.length) N.length) (15 - N.length) (((cpB (ψ 73) 0 (updB (pt (ψ 76) 0 (0, 0)) 0 (t8 (nI (8 * mm % 128 * 2)))) (16 - N.length) N.length) (15 - N.length)) ^^^ (t8 1))) 15 &&& 192)) 0 = ((bgN N (nI mm)).1, (bgN N (nI mm)).2 &&& (-64)) := ob_ext fun k_ hk_ => by
    rw [ob_gt _ _ hk_, Nat.zero_add, ob_m64 _ hk_]
    by_cases q_ : k_ = 15
    · rw [q_, updB_s, if_pos rfl]; exact congrArg (fun v_ => v_ &&& 192) (gt_at0 eN (by omega))
    · rw [updB_n q_, if_neg q_]; exact gt_at0 eN hk_
  have eK : gt (pt (updB (updB (cpB (ψ 73) 0 (updB (pt (ψ 76) 0 (0, 0)) 0 (t8 (nI (8 * mm % 128 * 2)))) (16 - N.length) N.length) (15 - N.length) (((cpB (ψ 73) 0 (updB (pt (ψ 76) 0 (0, 0)) 0 (t8 (nI (8 * mm % 128 * 2)))) (16 - N.length) N.length) (15 - N.length)) ^^^ (t8 1))) 15 (((updB (cpB (ψ 73) 0 (updB (pt (ψ 76) 0 (0, 0)) 0 (t8 (nI (8 * mm % 128 * 2)))) (16 - N.length) N.length) (15 - N.length) (((cpB (ψ 73) 0 (updB (pt (ψ 76) 0 (0, 0)) 0 (t8 (nI (8 * mm % 128 * 2)))) (16 - N.length) N.length) (15 - N.length)) ^^^ (t8 1))) 15) &&& 192)) 0 (F (gt (updB (updB (cpB (ψ 73) 0 (updB (pt (ψ 76) 0 (0, 0)) 0 (t8 (nI (8 * mm % 128 * 2)))) (16 - N.length) N.length) (15 - N.length) (((cpB (ψ 73) 0 (updB (pt (ψ 76) 0 (0, 0)) 0 (t8 (nI (8 * mm % 128 * 2)))) (16 - N.length) N.length) (15 - N.length)) ^^^ (t8 1))) 15 (((updB (cpB (ψ 73) 0 (updB (pt (ψ 76) 0 (0, 0)) 0 (t8 (nI (8 * mm % 128 * 2)))) (16 - N.length) N.length) (15 - N.length) (((cpB (ψ 73) 0 (updB (pt (ψ 76) 0 (0, 0)) 0 (t8 (nI (8 * mm % 128 * 2)))) (16 - N.length) N.length) (15 - N.length)) ^^^ (t8 1))) 15) &&& 192)) 0))) 0 = (F ((bgN N (nI mm)).1, (bgN N (nI mm)).2 &&& (-64))) := by rw [gt_pt, eM]
  have eb2 : (bgN N (nI mm)).2.toInt32 &&& 63 = nI b := by rw [lo63, eb]; exact congrArg (fun v_ => nI (v_.toNat % 64)) (gt_at0 eN (k := 15) (by omega)).symm
  refine R_sub [0, 1, 2] rfl ?_
  refine qX12_firstOffset_w (h := h) (ψ := (uo ψ 76 (pt (updB (updB (cpB (ψ 73) 0 (updB (pt (ψ 76) 0 (0, 0)) 0 (t8 (nI (8 * mm % 128 * 2)))) (16 - N.length) N.length) (15 - N.length) (((cpB (ψ 73) 0 (updB (pt (ψ 76) 0 (0, 0)) 0 (t8 (nI (8 * mm % 128 * 2)))) (16 - N.length) N.length) (15 - N.length)) ^^^ (t8 1))) 15 (((updB (cpB (ψ 73) 0 (updB (pt (ψ 76) 0 (0, 0)) 0 (t8 (nI (8 * mm % 128 * 2)))) (16 - N.length) N.length) (15 - N.length) (((cpB (ψ 73) 0 (updB (pt (ψ 76) 0 (0, 0)) 0 (t8 (nI (8 * mm % 128 * 2)))) (16 - N.length) N.length) (15 - N.length)) ^^^ (t8 1))) 15) &&& 192)) 0 (F (gt (updB (updB (cpB (ψ 73) 0 (updB (pt (ψ 76) 0 (0, 0)) 0 (t8 (nI (8 * mm % 128 * 2)))) (16 - N.length) N.length) (15 - N.length) (((cpB (ψ 73) 0 (updB (pt (ψ 76) 0 (0, 0)) 0 (t8 (nI (8 * mm % 128 * 2)))) (16 - N.length) N.length) (15 - N.length)) ^^^ (t8 1))) 15 (((updB (cpB (ψ 73) 0 (updB (pt (ψ 76) 0 (0, 0)) 0 (t8 (nI (8 * mm % 128 * 2)))) (16 - N.length) N.length) (15 - N.length) (((cpB (ψ 73) 0 (updB (pt (ψ 76) 0 (0, 0)) 0 (t8 (nI (8 * mm % 128 * 2)))) (16 - N.length) N.length) (15 - N.length)) ^^^ (t8 1))) 15) &&& 192)) 0))))) hn b (F ((bgN N (nI mm)).1, (bgN N (nI mm)).2 &&& (-64))) eK (fun h2 ψ2 S2 hK hJ hF => ?_) 24 0 (by omega) h_26 _ S_30 (FR.rf _ _) (pgB_0 _ _ _).symm (((((F_4.tr F_9).tr F_14).tr F_19).tr F_24).tr F_29)
  refine R_iconst (pc := 156) (v := 0) dX12_firstOffset_156 (by decide) ?_
  refine R_istore_n (pc := 157) (lv' := [(2, .int 0), (1, .int (nI b)), (0, .ref 61)]) dX12_firstOffset_157 rfl (by decide) rfl ?_
  refine R_sub [0, 1, 2] rfl ?_
  refine qX12_firstOffset_o (h := h) (ψ := ψ2) hn b hb (F ((bgN N (nI mm)).1, (bgN N (nI mm)).2 &&& (-64))) (fun j_ hj_ => by rw [hJ, pgB_in _ _ (by omega) (by omega), Nat.sub_zero]) (fun h3 ψ3 S3 hK3 hJ3 hF3 => ?_) 16 0 (by omega) h2 _ S2 (FR.rf _ _) (pgB_0 _ _ _).symm hF
  have hy : gt (ψ3 88) 0 = bgO F N (nI mm) := by
    unfold bgO
    rw [eb2]
    exact ob_ext fun k_ hk_ => by rw [ob_gt _ _ hk_, Nat.zero_add, hJ3, pgB_in _ _ (by omega) (by omega), Nat.sub_zero]
  exact R_vreturn (pc := 225) dX12_firstOffset_225 rfl (by decide) (by decide) ⟨rfl, ψ3, rfl, S3, (((FR.rf [76, 88, 90] _).up (by decide)).tr hK (by decide)).tr hK3 (by decide), hy, hF3⟩
def ahJ (F : bP → bP) (A : List (BitVec 8)) (ψ2 : Nat → oA) (k : Nat) : Prop := gt (ψ2 88) 0 = (ahN F (dbl (F (0, 0))) A (0, 0) k).1 ∧ gt (ψ2 89) 0 = (ahN F (dbl (F (0, 0))) A (0, 0) k).2
theorem mv_ls {f : oA} {s : bP} (h : ∀ m, m < 10 → gt f (16 * m) = dbN m s) {i : Nat} (h1 : 1 ≤ i) (hi : i < 65) : gt f (16 * (2 + tzG 7 i)) = mvZ (nI i) (dbl (dbl s)) := by
  have := tz_le i hi
  rw [h _ (by omega), mvZ_db h1 hi, show dbl (dbl s) = dbN 2 s from rfl, dbN_add, Nat.add_comm]
theorem aoc_xb (p q r : bP) {k : Nat} (hk : k < 16) (v : Int32) : aoc (xb (xb p q) r) (nI k) v = xb (xb (aoc r (nI k) v) p) q := ob_ext fun j hj => by
  rw [ob_aoc _ hk _ hj, ob_xb _ _ hj, ob_xb _ _ hj, ob_xb _ _ hj, ob_xb _ _ hj, ob_aoc _ hk _ hj]
  by_cases c : j = k
  · rw [if_pos c, if_pos c]
    simp only [BitVec.xor_assoc]
    rw [BitVec.xor_comm (ob r j), BitVec.xor_comm (ob r j)]
    simp only [BitVec.xor_assoc]
    rw [BitVec.xor_comm (ob p j), BitVec.xor_assoc, BitVec.xor_comm (t8 v) _]
    simp only [BitVec.xor_assoc]
    ac_rfl
  · rw [if_neg c, if_neg c]
    ac_rfl
set_option maxHeartbeats 1000000 in
set_option maxRecDepth 100000 in
theorem qX12_hashAside_loop {l : Launch} {w : am_W} {h : am_H} {n : Nat} {ψ : Nat → oA} {z : fA} {i : mI} (hn : 90 ≤ n) (A : List (BitVec 8)) (b : Nat) (hA : A.length ≤ 256) (hb : 16 * b ≤ A.length) (hsA : sg (ψ 74) 0 A) {F G : bP → bP} (K0 : Kh ψ 0 F G) (hls : ∀ m, m < 10 → gt (ψ 87) (16 * m) = dbN m (F (0, 0))) {Q : am_H → Nat → Option Value → Prop} (kk : ∀ h2 ψ2, MO h2 ψ2 z i → FR [76, 88, 89] ψ ψ2 → ahJ F A ψ2 b → FM h h2 → RW l w mX12_hashAside h2 n 0 0 124 [(2, .int (nI (b + 1))), (1, .int (nI b)), (0, .ref 61)] [] Q) : ∀ (dd k : Nat), k + dd = b → ∀ h2 ψ2, MO h2 ψ2 z i → FR [76, 88, 89] ψ ψ2 → ahJ F A ψ2 k → FM h h2 → RW l w mX12_hashAside h2 n 0 0 30 [(2, .int (nI (k + 1))), (1, .int (nI b)), (0, .ref 61)] [] Q := by
  intro dd
  induction dd with
  | zero =>
    intro k hd h2 ψ2 S2 hK hJ hF
    refine R_iload_n (pc := 30) 0 dX12_hashAside_30 rfl rfl ?_
    refine R_iload_n (pc := 31) 1 dX12_hashAside_31 rfl rfl ?_
    refine R_icmp_gt (pc := 32) (tgt := 124) dX12_hashAside_32 (by decide) (fun c_1 => ?_) (fun c_1 => absurd (nI_lt (a := b) (b := k + 1) (by omega) (by omega)) c_1)
    obtain rfl : k = b := by omega
    exact kk h2 ψ2 S2 hK hJ hF
  | succ dd ih =>
    intro k hd h2 ψ2 S2 hK hJ hF
    have K0_2 := K0.fr hK (by decide) (by decide) (by decide) (by decide)
    have htz := tz_le (k + 1) (by omega)
    refine R_iload_n (pc := 30) 0 dX12_hashAside_30 rfl rfl ?_
    refine R_iload_n (pc := 31) 1 dX12_hashAside_31 rfl rfl ?_
    refine R_icmp_gt (pc := 32) (tgt := 124) dX12_hashAside_32 (by decide) (fun c_1 => absurd c_1 (nI_nlt (a := b) (b := k + 1) (by omega) (by omega))) (fun c_1 => ?_)
    refine R_aload_n (pc := 35) 2 dX12_hashAside_35 rfl rfl ?_
    refine R_get (pc := 36) dX12_hashAside_36 fX12_89 S2.obj (by omega) rfl ?_
    refine R_bipush (pc := 39) (v := 16) dX12_hashAside_39 (by decide) ?_
    refine R_iconst (pc := 41) (v := 2) dX12_hashAside_41 (by decide) ?_
    refine R_iload_n (pc := 42) 0 dX12_hashAside_42 rfl rfl ?_
    refine R_callSp (pc := 43) (μ' := mX12_twos) (As := [.int (nI (k + 1))]) (st := [.int 2, .int 16, .ref 87]) dX12_hashAside_43 zX12_twos lX12_223 ⟨by decide, by decide⟩ rfl rfl ⟨by decide, by decide⟩ rfl (Nat.le_of_ble_eq_true rfl) (qX12_twos l w _ _ (i := k + 1) (by omega) (by omega)) ?_
    refine R_iadd (pc := 46) dX12_hashAside_46 ?_
    refine R_eqi (y := nI (2 + (tzG 7 (k + 1)))) (nI_add 2 (tzG 7 (k + 1))) ?_
    refine R_imul (pc := 47) dX12_hashAside_47 ?_
    refine R_eqi (y := nI (16 * (2 + (tzG 7 (k + 1))))) (nI_mul 16 (2 + (tzG 7 (k + 1)))) ?_
    refine R_aload_n (pc := 48) 2 dX12_hashAside_48 rfl rfl ?_
    refine R_get (pc := 49) dX12_hashAside_49 fX12_92 S2.obj (by omega) rfl ?_
    refine R_iconst (pc := 52) (v := 0) dX12_hashAside_52 (by decide) ?_
    refine R_bipush (pc := 53) (v := 16) dX12_hashAside_53 (by decide) ?_
    refine R_callSh (pc := 55) (μ' := mX12_add) (As := [.ref 87, .int (nI (16 * (2 + (tzG 7 (k + 1))))), .ref 88, .int (nI 0), .int 16]) (st := []) dX12_hashAside_55 zX12_add lX12_143 ⟨by decide, by decide⟩ rfl rfl ⟨by decide, by decide⟩ rfl (Nat.le_of_ble_eq_true rfl) (oX12_add16 S2 hn (p := 87) (q := 88) rfl rfl (16 * (2 + (tzG 7 (k + 1)))) 0 (by show 16 * (2 + (tzG 7 (k + 1))) + 16 ≤ 160; omega) (by show 0 + 16 ≤ 16; omega) (by decide)) (fun h_2 r_ q_3 => ?_)
    obtain ⟨rfl, S_4, F_5⟩ := q_3
    have S_6 : MO h_2 (uo ψ2 88 (pt (ψ2 88) 0 (xb (gt (ψ2 88) 0) (gt (ψ2 87) (16 * (2 + (tzG 7 (k + 1)))))))) z i := S_4
    refine R_aload_n (pc := 58) 2 dX12_hashAside_58 rfl rfl ?_
    refine R_get (pc := 59) dX12_hashAside_59 fX12_92 S_6.obj (by omega) rfl ?_
    refine R_iconst (pc := 62) (v := 0) dX12_hashAside_62 (by decide) ?_
    refine R_aload_n (pc := 63) 2 dX12_hashAside_63 rfl rfl ?_
    refine R_get (pc := 64) dX12_hashAside_64 fX12_56 S_6.obj (by omega) rfl ?_
    refine R_iconst (pc := 67) (v := 0) dX12_hashAside_67 (by decide) ?_
    refine R_bipush (pc := 68) (v := 16) dX12_hashAside_68 (by decide) ?_
    refine R_callSh (pc := 70) (μ' := mX12_copy) (As := [.ref 88, .int (nI 0), .ref 76, .int (nI 0), .int 16]) (st := []) dX12_hashAside_70 zX12_copy lX12_133 ⟨by decide, by decide⟩ rfl rfl ⟨by decide, by decide⟩ rfl (Nat.le_of_ble_eq_true rfl) (oX12_copy16 S_6 hn (p := 88) (q := 76) rfl rfl 0 0 (by show 0 + 16 ≤ 16; omega) (by show 0 + 16 ≤ 16; omega) (by decide)) (fun h_7 r_ q_8 => ?_)
    obtain ⟨rfl, S_9, F_10⟩ := q_8
    have S_11 : MO h_7 (uo (uo ψ2 88 (pt (ψ2 88) 0 (xb (gt (ψ2 88) 0) (gt (ψ2 87) (16 * (2 + (tzG 7 (k + 1)))))))) 76 (pt (ψ2 76) 0 (gt (pt (ψ2 88) 0 (xb (gt (ψ2 88) 0) (gt (ψ2 87) (16 * (2 + (tzG 7 (k + 1))))))) 0))) z i := S_9
    refine R_aload_n (pc := 73) 2 dX12_hashAside_73 rfl rfl ?_
    refine R_get (pc := 74) dX12_hashAside_74 fX12_50 S_11.obj (by omega) rfl ?_
    refine R_bipush (pc := 77) (v := 16) dX12_hashAside_77 (by decide) ?_
    refine R_iload_n (pc := 79) 0 dX12_hashAside_79 rfl rfl ?_
    refine R_iconst (pc := 80) (v := 1) dX12_hashAside_80 (by decide) ?_
    refine R_isub (pc := 81) dX12_hashAside_81 ?_
    refine R_eqi (y := nI k) ((nI_sb (a := k + 1) (b := 1) (by omega)).trans (congrArg nI (by omega))) ?_
    refine R_imul (pc := 82) dX12_hashAside_82 ?_
    refine R_eqi (y := nI (16 * k)) (nI_mul 16 k) ?_
    refine R_aload_n (pc := 83) 2 dX12_hashAside_83 rfl rfl ?_
    refine R_get (pc := 84) dX12_hashAside_84 fX12_56 S_11.obj (by omega) rfl ?_
    refine R_iconst (pc := 87) (v := 0) dX12_hashAside_87 (by decide) ?_
    refine R_bipush (pc := 88) (v := 16) dX12_hashAside_88 (by decide) ?_
    refine R_callSh (pc := 90) (μ' := mX12_add) (As := [.ref 74, .int (nI (16 * k)), .ref 76, .int (nI 0), .int 16]) (st := []) dX12_hashAside_90 zX12_add lX12_143 ⟨by decide, by decide⟩ rfl rfl ⟨by decide, by decide⟩ rfl (Nat.le_of_ble_eq_true rfl) (oX12_add16 S_11 hn (p := 74) (q := 76) rfl rfl (16 * k) 0 (by show 16 * k + 16 ≤ 256; omega) (by show 0 + 16 ≤ 16; omega) (by decide)) (fun h_12 r_ q_13 => ?_)
    obtain ⟨rfl, S_14, F_15⟩ := q_13
    have S_16 : MO h_12 (uo (uo ψ2 88 (pt (ψ2 88) 0 (xb (gt (ψ2 88) 0) (gt (ψ2 87) (16 * (2 + (tzG 7 (k + 1)))))))) 76 (pt (pt (ψ2 76) 0 (gt (pt (ψ2 88) 0 (xb (gt (ψ2 88) 0) (gt (ψ2 87) (16 * (2 + (tzG 7 (k + 1))))))) 0)) 0 (xb (gt (pt (ψ2 76) 0 (gt (pt (ψ2 88) 0 (xb (gt (ψ2 88) 0) (gt (ψ2 87) (16 * (2 + (tzG 7 (k + 1))))))) 0)) 0) (gt (ψ2 74) (16 * k))))) z i := by have z_ := S_14; rw [uo_uo] at z_; exact z_
    refine R_aload_n (pc := 93) 2 dX12_hashAside_93 rfl rfl ?_
    refine R_iconst (pc := 94) (v := 0) dX12_hashAside_94 (by decide) ?_
    refine R_aload_n (pc := 95) 2 dX12_hashAside_95 rfl rfl ?_
    refine R_get (pc := 96) dX12_hashAside_96 fX12_56 S_16.obj (by omega) rfl ?_
    refine R_iconst (pc := 99) (v := 0) dX12_hashAside_99 (by decide) ?_
    refine R_callVh (pc := 100) (μ' := mX12_sealBlock) (As := [.int (nI 0), .ref 76, .int (nI 0)]) (st := []) dX12_hashAside_100 zX12_sealBlock lX12_146 ⟨by decide, by decide⟩ rfl rfl ⟨by decide, by decide⟩ S_16.obj (by omega) rfl (Nat.le_of_ble_eq_true rfl) (oX12_sealBlock S_16 hn ((K0_2.uo (by decide)).uo (by decide)) (p := 76) rfl 0 (by show 0 + 16 ≤ 16; omega)) (fun h_17 r_ q_18 => ?_)
    obtain ⟨rfl, S_19, F_20⟩ := q_18
    have S_21 : MO h_17 (uo (uo ψ2 88 (pt (ψ2 88) 0 (xb (gt (ψ2 88) 0) (gt (ψ2 87) (16 * (2 + (tzG 7 (k + 1)))))))) 76 (pt (pt (pt (ψ2 76) 0 (gt (pt (ψ2 88) 0 (xb (gt (ψ2 88) 0) (gt (ψ2 87) (16 * (2 + (tzG 7 (k + 1))))))) 0)) 0 (xb (gt (pt (ψ2 76) 0 (gt (pt (ψ2 88) 0 (xb (gt (ψ2 88) 0) (gt (ψ2 87) (16 * (2 + (tzG 7 (k + 1))))))) 0)) 0) (gt (ψ2 74) (16 * k)))) 0 (F (gt (pt (pt (ψ2 76) 0 (gt (pt (ψ2 88) 0 (xb (gt (ψ2 88) 0) (gt (ψ2 87) (16 * (2 + (tzG 7 (k + 1))))))) 0)) 0 (xb (gt (pt (ψ2 76) 0 (gt (pt (ψ2 88) 0 (xb (gt (ψ2 88) 0) (gt (ψ2 87) (16 * (2 + (tzG 7 (k + 1))))))) 0)) 0) (gt (ψ2 74) (16 * k)))) 0)))) z i := by have z_ := S_19; rw [uo_uo] at z_; exact z_
    refine R_aload_n (pc := 103) 2 dX12_hashAside_103 rfl rfl ?_
    refine R_get (pc := 104) dX12_hashAside_104 fX12_56 S_21.obj (by omega) rfl ?_
    refine R_iconst (pc := 107) (v := 0) dX12_hashAside_107 (by decide) ?_
    refine R_aload_n (pc := 108) 2 dX12_hashAside_108 rfl rfl ?_
    refine R_get (pc := 109) dX12_hashAside_109 fX12_95 S_21.obj (by omega) rfl ?_
    refine R_iconst (pc := 112) (v := 0) dX12_hashAside_112 (by decide) ?_
    refine R_bipush (pc := 113) (v := 16) dX12_hashAside_113 (by decide) ?_
    refine R_callSh (pc := 115) (μ' := mX12_add) (As := [.ref 76, .int (nI 0), .ref 89, .int (nI 0), .int 16]) (st := []) dX12_hashAside_115 zX12_add lX12_143 ⟨by decide, by decide⟩ rfl rfl ⟨by decide, by decide⟩ rfl (Nat.le_of_ble_eq_true rfl) (oX12_add16 S_21 hn (p := 76) (q := 89) rfl rfl 0 0 (by show 0 + 16 ≤ 16; omega) (by show 0 + 16 ≤ 16; omega) (by decide)) (fun h_22 r_ q_23 => ?_)
    obtain ⟨rfl, S_24, F_25⟩ := q_23
    have S_26 : MO h_22 (uo (uo (uo ψ2 88 (pt (ψ2 88) 0 (xb (gt (ψ2 88) 0) (gt (ψ2 87) (16 * (2 + (tzG 7 (k + 1)))))))) 76 (pt (pt (pt (ψ2 76) 0 (gt (pt (ψ2 88) 0 (xb (gt (ψ2 88) 0) (gt (ψ2 87) (16 * (2 + (tzG 7 (k + 1))))))) 0)) 0 (xb (gt (pt (ψ2 76) 0 (gt (pt (ψ2 88) 0 (xb (gt (ψ2 88) 0) (gt (ψ2 87) (16 * (2 + (tzG 7 (k + 1))))))) 0)) 0) (gt (ψ2 74) (16 * k)))) 0 (F (gt (pt (pt (ψ2 76) 0 (gt (pt (ψ2 88) 0 (xb (gt (ψ2 88) 0) (gt (ψ2 87) (16 * (2 + (tzG 7 (k + 1))))))) 0)) 0 (xb (gt (pt (ψ2 76) 0 (gt (pt (ψ2 88) 0 (xb (gt (ψ2 88) 0) (gt (ψ2 87) (16 * (2 + (tzG 7 (k + 1))))))) 0)) 0) (gt (ψ2 74) (16 * k)))) 0)))) 89 (pt (ψ2 89) 0 (xb (gt (ψ2 89) 0) (gt (pt (pt (pt (ψ2 76) 0 (gt (pt (ψ2 88) 0 (xb (gt (ψ2 88) 0) (gt (ψ2 87) (16 * (2 + (tzG 7 (k + 1))))))) 0)) 0 (xb (gt (pt (ψ2 76) 0 (gt (pt (ψ2 88) 0 (xb (gt (ψ2 88) 0) (gt (ψ2 87) (16 * (2 + (tzG 7 (k + 1))))))) 0)) 0) (gt (ψ2 74) (16 * k)))) 0 (F (gt (pt (pt (ψ2 76) 0 (gt (pt (ψ2 88) 0 (xb (gt (ψ2 88) 0) (gt (ψ2 87) (16 * (2 + (tzG 7 (k + 1))))))) 0)) 0 (xb (gt (pt (ψ2 76) 0 (gt (pt (ψ2 88) 0 (xb (gt (ψ2 88) 0) (gt (ψ2 87) (16 * (2 + (tzG 7 (k + 1))))))) 0)) 0) (gt (ψ2 74) (16 * k)))) 0))) 0)))) z i := S_24
    refine R_iinc (pc := 118) (j := 0) (v := nI (k + 1 + 1)) (lv' := [(2, .int (nI (k + 1 + 1))), (1, .int (nI b)), (0, .ref 61)]) dX12_hashAside_118 rfl (nI_add (k + 1) 1) (by decide) rfl ?_
    refine R_goto (pc := 121) (tgt := 30) dX12_hashAside_121 (by decide) ?_
    refine R_sub [0, 1, 2] rfl ?_
    have eL : gt (ψ2 87) (16 * (2 + tzG 7 (k + 1))) = mvZ (nI (k + 1)) (dbl (dbl (F (0, 0)))) := by rw [hK 87 (by decide)]; exact mv_ls hls (by omega) (by omega)
    have eA : gt (ψ2 74) (16 * k) = rd A (16 * k) := by rw [hK 74 (by decide)]; exact gt_of fun k_ hk_ => sg0 hsA (by omega)
    have j1 : gt (pt (ψ2 88) 0 (xb (gt (ψ2 88) 0) (gt (ψ2 87) (16 * (2 + (tzG 7 (k + 1))))))) 0 = (ahN F (dbl (F (0, 0))) A (0, 0) (k + 1)).1 := by rw [gt_pt, hJ.1, eL]; rfl
    have j2 : gt (pt (ψ2 89) 0 (xb (gt (ψ2 89) 0) (gt (pt (pt (pt (ψ2 76) 0 (gt (pt (ψ2 88) 0 (xb (gt (ψ2 88) 0) (gt (ψ2 87) (16 * (2 + (tzG 7 (k + 1))))))) 0)) 0 (xb (gt (pt (ψ2 76) 0 (gt (pt (ψ2 88) 0 (xb (gt (ψ2 88) 0) (gt (ψ2 87) (16 * (2 + (tzG 7 (k + 1))))))) 0)) 0) (gt (ψ2 74) (16 * k)))) 0 (F (gt (pt (pt (ψ2 76) 0 (gt (pt (ψ2 88) 0 (xb (gt (ψ2 88) 0) (gt (ψ2 87) (16 * (2 + (tzG 7 (k + 1))))))) 0)) 0 (xb (gt (pt (ψ2 76) 0 (gt (pt (ψ2 88) 0 (xb (gt (ψ2 88) 0) (gt (ψ2 87) (16 * (2 + (tzG 7 (k + 1))))))) 0)) 0) (gt (ψ2 74) (16 * k)))) 0))) 0))) 0 = (ahN F (dbl (F (0, 0))) A (0, 0) (k + 1)).2 := by
      simp only [gt_pt, pt_pt]
      rw [hJ.1, hJ.2, eL, eA, xb_comm _ (rd A (16 * k))]
      rfl
    exact ih (k + 1) (by omega) h_22 _ S_26 (((hK.up (by decide)).up (by decide)).up (by decide)) (⟨j1, j2⟩) (hF.tr ((((F_5.tr F_10).tr F_15).tr F_20).tr F_25))
set_option maxHeartbeats 1000000 in
set_option maxRecDepth 100000 in
theorem oX12_hashAside {l : Launch} {w : am_W} {h : am_H} {n : Nat} {ψ : Nat → oA} {z : fA} {i : mI} (S : MO h ψ z i) (hn : 90 ≤ n) (A : List (BitVec 8)) (b : Nat) (hA : A.length ≤ 256) (hb : A.length / 16 = b) (hi6 : i 6 = nI A.length) (hsA : sg (ψ 74) 0 A) {F G : bP → bP} (K0 : Kh ψ 0 F G) (hls : ∀ m, m < 10 → gt (ψ 87) (16 * m) = dbN m (F (0, 0))) : RH l w mX12_hashAside h n [.ref 61] (fun h2 q => ∃ ψ2, q = none ∧ MO h2 ψ2 z i ∧ FR [76, 88, 89] ψ ψ2 ∧ gt (ψ2 89) 0 = ahT F (dbl (F (0, 0))) (F (0, 0)) A (0, 0) ∧ FM h h2) := by
  refine RC.of [(0, .ref 61)] (by decide +kernel) rfl (Nat.le_of_ble_eq_true rfl) ?_
  refine R_aload_n (pc := 0) 0 dX12_hashAside_0 rfl rfl ?_
  refine R_get (pc := 1) dX12_hashAside_1 fX12_92 S.obj (by omega) rfl ?_
  refine R_iconst (pc := 4) (v := 0) dX12_hashAside_4 (by decide) ?_
  refine R_bipush (pc := 5) (v := 16) dX12_hashAside_5 (by decide) ?_
  refine R_callSh (pc := 7) (μ' := mX12_clear) (As := [.ref 88, .int 0, .int 16]) (st := []) dX12_hashAside_7 zX12_clear lX12_164 ⟨by decide, by decide⟩ rfl rfl ⟨by decide, by decide⟩ rfl (Nat.le_of_ble_eq_true rfl) (oX12_clear16 S hn (q := 88) rfl (by decide)) (fun h_1 r_ q_2 => ?_)
  obtain ⟨rfl, S_3, F_4⟩ := q_2
  have S_5 : MO h_1 (uo ψ 88 (pt (ψ 88) 0 (0, 0))) z i := S_3
  refine R_aload_n (pc := 10) 0 dX12_hashAside_10 rfl rfl ?_
  refine R_get (pc := 11) dX12_hashAside_11 fX12_95 S_5.obj (by omega) rfl ?_
  refine R_iconst (pc := 14) (v := 0) dX12_hashAside_14 (by decide) ?_
  refine R_bipush (pc := 15) (v := 16) dX12_hashAside_15 (by decide) ?_
  refine R_callSh (pc := 17) (μ' := mX12_clear) (As := [.ref 89, .int 0, .int 16]) (st := []) dX12_hashAside_17 zX12_clear lX12_164 ⟨by decide, by decide⟩ rfl rfl ⟨by decide, by decide⟩ rfl (Nat.le_of_ble_eq_true rfl) (oX12_clear16 S_5 hn (q := 89) rfl (by decide)) (fun h_6 r_ q_7 => ?_)
  obtain ⟨rfl, S_8, F_9⟩ := q_7
  have S_10 : MO h_6 (uo (uo ψ 88 (pt (ψ 88) 0 (0, 0))) 89 (pt (ψ 89) 0 (0, 0))) z i := S_8
  refine R_aload_n (pc := 20) 0 dX12_hashAside_20 rfl rfl ?_
  refine R_get (pc := 21) dX12_hashAside_21 fX12_140 S_10.obj (by omega) rfl ?_
  refine R_eqi (y := nI A.length) (hi6) ?_
  refine R_bipush (pc := 24) (v := 16) dX12_hashAside_24 (by decide) ?_
  refine R_idiv (pc := 26) dX12_hashAside_26 (by decide) ?_
  refine R_eqi (y := nI b) ((nI_div (a := A.length) (b := 16) (by omega) (by omega)).trans (congrArg nI hb)) ?_
  refine R_istore_n (pc := 27) (lv' := [(1, .int (nI b)), (0, .ref 61)]) dX12_hashAside_27 rfl (by decide) rfl ?_
  refine R_iconst (pc := 28) (v := 1) dX12_hashAside_28 (by decide) ?_
  refine R_istore_n (pc := 29) (lv' := [(2, .int 1), (1, .int (nI b)), (0, .ref 61)]) dX12_hashAside_29 rfl (by decide) rfl ?_
  refine R_sub [0, 1, 2] rfl ?_
  refine qX12_hashAside_loop (h := h) (ψ := (uo (uo ψ 88 (pt (ψ 88) 0 (0, 0))) 89 (pt (ψ 89) 0 (0, 0)))) hn A b hA (by omega) hsA ((K0.uo (by decide)).uo (by decide)) hls (fun h2 ψ2 S2 hK hJ hF => ?_) b 0 (by omega) h_6 _ S_10 (FR.rf _ _) ⟨(gt_pt _ _ _).trans rfl, (gt_pt _ _ _).trans rfl⟩ (F_4.tr F_9)
  have K_11 := ((K0.uo (by decide)).uo (by decide)).fr hK (by decide) (by decide) (by decide) (by decide)
  have e87 : ψ2 87 = ψ 87 := hK 87 (by decide)
  have e74 : ψ2 74 = ψ 74 := hK 74 (by decide)
  refine R_aload_n (pc := 124) 2 dX12_hashAside_124 rfl rfl ?_
  refine R_get (pc := 125) dX12_hashAside_125 fX12_140 S2.obj (by omega) rfl ?_
  refine R_eqi (y := nI A.length) (hi6) ?_
  refine R_bipush (pc := 128) (v := 16) dX12_hashAside_128 (by decide) ?_
  refine R_iload_n (pc := 130) 1 dX12_hashAside_130 rfl rfl ?_
  refine R_imul (pc := 131) dX12_hashAside_131 ?_
  refine R_eqi (y := nI (16 * b)) (nI_mul 16 b) ?_
  refine R_isub (pc := 132) dX12_hashAside_132 ?_
  refine R_eqi (y := nI (A.length - (16 * b))) (nI_sb (a := A.length) (b := 16 * b) (by omega)) ?_
  refine R_istore_n (pc := 133) (lv' := [(2, .int (nI (A.length - (16 * b)))), (1, .int (nI b)), (0, .ref 61)]) dX12_hashAside_133 rfl (by decide) rfl ?_
  refine R_iload_n (pc := 134) 0 dX12_hashAside_134 rfl rfl ?_
  refine R_if_le (pc := 135) (tgt := 222) dX12_hashAside_135 (by decide) (fun c_12 => ?_) (fun c_12 => ?_)
  · skip
    have nc_12 : A.length - (16 * b) ≤ 0 := (nI_leI (a := A.length - (16 * b)) (b := 0) (by omega) (by omega)).mp c_12
    have hy : gt (ψ2 89) 0 = ahT F (dbl (F (0, 0))) (F (0, 0)) A (0, 0) := by
      unfold ahT
      rw [show A.length / 16 = b by omega]
      rw [if_pos (show nI (A.length % 16) = 0 from congrArg nI (show A.length % 16 = 0 by omega))]
      exact hJ.2
    exact R_vreturn (pc := 222) dX12_hashAside_222 rfl (by decide) (by decide) ⟨rfl, _, rfl, S2, ((((FR.rf [76, 88, 89] _).up (by decide)).up (by decide)).tr hK (by decide)), hy, hF⟩
  · skip
    have nc_12 : ¬ (A.length - (16 * b) ≤ 0) := fun q_ => c_12 ((nI_leI (a := A.length - (16 * b)) (b := 0) (by omega) (by omega)).mpr q_)
    refine R_aload_n (pc := 138) 2 dX12_hashAside_138 rfl rfl ?_
    refine R_get (pc := 139) dX12_hashAside_139 fX12_89 S2.obj (by omega) rfl ?_
    refine R_iconst (pc := 142) (v := 0) dX12_hashAside_142 (by decide) ?_
    refine R_aload_n (pc := 143) 2 dX12_hashAside_143 rfl rfl ?_
    refine R_get (pc := 144) dX12_hashAside_144 fX12_92 S2.obj (by omega) rfl ?_
    refine R_iconst (pc := 147) (v := 0) dX12_hashAside_147 (by decide) ?_
    refine R_bipush (pc := 148) (v := 16) dX12_hashAside_148 (by decide) ?_
    refine R_callSh (pc := 150) (μ' := mX12_add) (As := [.ref 87, .int (nI 0), .ref 88, .int (nI 0), .int 16]) (st := []) dX12_hashAside_150 zX12_add lX12_143 ⟨by decide, by decide⟩ rfl rfl ⟨by decide, by decide⟩ rfl (Nat.le_of_ble_eq_true rfl) (oX12_add16 S2 hn (p := 87) (q := 88) rfl rfl 0 0 (by show 0 + 16 ≤ 160; omega) (by show 0 + 16 ≤ 16; omega) (by decide)) (fun h_13 r_ q_14 => ?_)
    obtain ⟨rfl, S_15, F_16⟩ := q_14
    have S_17 : MO h_13 (uo ψ2 88 (pt (ψ2 88) 0 (xb (gt (ψ2 88) 0) (gt (ψ2 87) 0)))) z i := S_15
    refine R_aload_n (pc := 153) 2 dX12_hashAside_153 rfl rfl ?_
    refine R_get (pc := 154) dX12_hashAside_154 fX12_92 S_17.obj (by omega) rfl ?_
    refine R_iconst (pc := 157) (v := 0) dX12_hashAside_157 (by decide) ?_
    refine R_aload_n (pc := 158) 2 dX12_hashAside_158 rfl rfl ?_
    refine R_get (pc := 159) dX12_hashAside_159 fX12_56 S_17.obj (by omega) rfl ?_
    refine R_iconst (pc := 162) (v := 0) dX12_hashAside_162 (by decide) ?_
    refine R_bipush (pc := 163) (v := 16) dX12_hashAside_163 (by decide) ?_
    refine R_callSh (pc := 165) (μ' := mX12_copy) (As := [.ref 88, .int (nI 0), .ref 76, .int (nI 0), .int 16]) (st := []) dX12_hashAside_165 zX12_copy lX12_133 ⟨by decide, by decide⟩ rfl rfl ⟨by decide, by decide⟩ rfl (Nat.le_of_ble_eq_true rfl) (oX12_copy16 S_17 hn (p := 88) (q := 76) rfl rfl 0 0 (by show 0 + 16 ≤ 16; omega) (by show 0 + 16 ≤ 16; omega) (by decide)) (fun h_18 r_ q_19 => ?_)
    obtain ⟨rfl, S_20, F_21⟩ := q_19
    have S_22 : MO h_18 (uo (uo ψ2 88 (pt (ψ2 88) 0 (xb (gt (ψ2 88) 0) (gt (ψ2 87) 0)))) 76 (pt (ψ2 76) 0 (gt (pt (ψ2 88) 0 (xb (gt (ψ2 88) 0) (gt (ψ2 87) 0))) 0))) z i := S_20
    refine R_aload_n (pc := 168) 2 dX12_hashAside_168 rfl rfl ?_
    refine R_get (pc := 169) dX12_hashAside_169 fX12_50 S_22.obj (by omega) rfl ?_
    refine R_bipush (pc := 172) (v := 16) dX12_hashAside_172 (by decide) ?_
    refine R_iload_n (pc := 174) 1 dX12_hashAside_174 rfl rfl ?_
    refine R_imul (pc := 175) dX12_hashAside_175 ?_
    refine R_eqi (y := nI (16 * b)) (nI_mul 16 b) ?_
    refine R_aload_n (pc := 176) 2 dX12_hashAside_176 rfl rfl ?_
    refine R_get (pc := 177) dX12_hashAside_177 fX12_56 S_22.obj (by omega) rfl ?_
    refine R_iconst (pc := 180) (v := 0) dX12_hashAside_180 (by decide) ?_
    refine R_iload_n (pc := 181) 0 dX12_hashAside_181 rfl rfl ?_
    refine R_callSh (pc := 182) (μ' := mX12_add) (As := [.ref 74, .int (nI (16 * b)), .ref 76, .int (nI 0), .int (nI (A.length - (16 * b)))]) (st := []) dX12_hashAside_182 zX12_add lX12_143 ⟨by decide, by decide⟩ rfl rfl ⟨by decide, by decide⟩ rfl (Nat.le_of_ble_eq_true rfl) (oX12_add S_22 hn (p := 74) (q := 76) rfl rfl (16 * b) 0 (A.length - (16 * b)) (by show 16 * b + (A.length - (16 * b)) ≤ 256; omega) (by show 0 + (A.length - (16 * b)) ≤ 16; omega) (by decide)) (fun h_23 r_ q_24 => ?_)
    obtain ⟨rfl, S_25, F_26⟩ := q_24
    have S_27 : MO h_23 (uo (uo ψ2 88 (pt (ψ2 88) 0 (xb (gt (ψ2 88) 0) (gt (ψ2 87) 0)))) 76 (adB (ψ2 74) (16 * b) (pt (ψ2 76) 0 (gt (pt (ψ2 88) 0 (xb (gt (ψ2 88) 0) (gt (ψ2 87) 0))) 0)) 0 (A.length - (16 * b)))) z i := by have z_ := S_25; rw [uo_uo] at z_; exact z_
    refine R_aload_n (pc := 185) 2 dX12_hashAside_185 rfl rfl ?_
    refine R_get (pc := 186) dX12_hashAside_186 fX12_56 S_27.obj (by omega) rfl ?_
    refine R_iload_n (pc := 189) 0 dX12_hashAside_189 rfl rfl ?_
    refine R_dup2 (pc := 190) dX12_hashAside_190 rfl rfl ?_
    refine R_iald' (pc := 191) (j := A.length - (16 * b)) dX12_hashAside_191 (S_27.arr (p := 76) rfl) (by omega) ⟨rfl, by show A.length - (16 * b) < 16; omega, by decide⟩ ?_
    refine R_eqi (y := oc ((adB (ψ2 74) (16 * b) (pt (ψ2 76) 0 (gt (pt (ψ2 88) 0 (xb (gt (ψ2 88) 0) (gt (ψ2 87) 0))) 0)) 0 (A.length - (16 * b))) (A.length - (16 * b)))) rfl ?_
    refine R_sipush (pc := 192) (v := 128) dX12_hashAside_192 (by decide) ?_
    refine R_eqi (y := oc (t8 128)) (by decide) ?_
    refine R_ixor (pc := 195) dX12_hashAside_195 ?_
    refine R_eqi (y := oc (((adB (ψ2 74) (16 * b) (pt (ψ2 76) 0 (gt (pt (ψ2 88) 0 (xb (gt (ψ2 88) 0) (gt (ψ2 87) 0))) 0)) 0 (A.length - (16 * b))) (A.length - (16 * b))) ^^^ (t8 128))) (oc_xor _ _) ?_
    refine R_iast' (pc := 196) (j := A.length - (16 * b)) dX12_hashAside_196 (S_27.arr (p := 76) rfl) (by omega) ⟨rfl, by show A.length - (16 * b) < 16; omega, by decide⟩ (fun h_28 f_29 g_30 => ?_)
    have S_32 : MO h_28 (uo (uo ψ2 88 (pt (ψ2 88) 0 (xb (gt (ψ2 88) 0) (gt (ψ2 87) 0)))) 76 (updB (adB (ψ2 74) (16 * b) (pt (ψ2 76) 0 (gt (pt (ψ2 88) 0 (xb (gt (ψ2 88) 0) (gt (ψ2 87) 0))) 0)) 0 (A.length - (16 * b))) (A.length - (16 * b)) (((adB (ψ2 74) (16 * b) (pt (ψ2 76) 0 (gt (pt (ψ2 88) 0 (xb (gt (ψ2 88) 0) (gt (ψ2 87) 0))) 0)) 0 (A.length - (16 * b))) (A.length - (16 * b))) ^^^ (t8 128)))) z i := by have z_ := MO.setA (p := 76) S_27 rfl f_29 g_30 (fun j_ => congrFun (upd_oc _ _ _) j_); rw [uo_uo] at z_; exact z_
    have F_31 := fmA (p := 76) (okA_c (by decide)).1 g_30
    refine R_aload_n (pc := 197) 2 dX12_hashAside_197 rfl rfl ?_
    refine R_iconst (pc := 198) (v := 0) dX12_hashAside_198 (by decide) ?_
    refine R_aload_n (pc := 199) 2 dX12_hashAside_199 rfl rfl ?_
    refine R_get (pc := 200) dX12_hashAside_200 fX12_56 S_32.obj (by omega) rfl ?_
    refine R_iconst (pc := 203) (v := 0) dX12_hashAside_203 (by decide) ?_
    refine R_callVh (pc := 204) (μ' := mX12_sealBlock) (As := [.int (nI 0), .ref 76, .int (nI 0)]) (st := []) dX12_hashAside_204 zX12_sealBlock lX12_146 ⟨by decide, by decide⟩ rfl rfl ⟨by decide, by decide⟩ S_32.obj (by omega) rfl (Nat.le_of_ble_eq_true rfl) (oX12_sealBlock S_32 hn ((K_11.uo (by decide)).uo (by decide)) (p := 76) rfl 0 (by show 0 + 16 ≤ 16; omega)) (fun h_33 r_ q_34 => ?_)
    obtain ⟨rfl, S_35, F_36⟩ := q_34
    have S_37 : MO h_33 (uo (uo ψ2 88 (pt (ψ2 88) 0 (xb (gt (ψ2 88) 0) (gt (ψ2 87) 0)))) 76 (pt (updB (adB (ψ2 74) (16 * b) (pt (ψ2 76) 0 (gt (pt (ψ2 88) 0 (xb (gt (ψ2 88) 0) (gt (ψ2 87) 0))) 0)) 0 (A.length - (16 * b))) (A.length - (16 * b)) (((adB (ψ2 74) (16 * b) (pt (ψ2 76) 0 (gt (pt (ψ2 88) 0 (xb (gt (ψ2 88) 0) (gt (ψ2 87) 0))) 0)) 0 (A.length - (16 * b))) (A.length - (16 * b))) ^^^ (t8 128))) 0 (F (gt (updB (adB (ψ2 74) (16 * b) (pt (ψ2 76) 0 (gt (pt (ψ2 88) 0 (xb (gt (ψ2 88) 0) (gt (ψ2 87) 0))) 0)) 0 (A.length - (16 * b))) (A.length - (16 * b)) (((adB (ψ2 74) (16 * b) (pt (ψ2 76) 0 (gt (pt (ψ2 88) 0 (xb (gt (ψ2 88) 0) (gt (ψ2 87) 0))) 0)) 0 (A.length - (16 * b))) (A.length - (16 * b))) ^^^ (t8 128))) 0)))) z i := by have z_ := S_35; rw [uo_uo] at z_; exact z_
    refine R_aload_n (pc := 207) 2 dX12_hashAside_207 rfl rfl ?_
    refine R_get (pc := 208) dX12_hashAside_208 fX12_56 S_37.obj (by omega) rfl ?_
    refine R_iconst (pc := 211) (v := 0) dX12_hashAside_211 (by decide) ?_
    refine R_aload_n (pc := 212) 2 dX12_hashAside_212 rfl rfl ?_
    refine R_get (pc := 213) dX12_hashAside_213 fX12_95 S_37.obj (by omega) rfl ?_
    refine R_iconst (pc := 216) (v := 0) dX12_hashAside_216 (by decide) ?_
    refine R_bipush (pc := 217) (v := 16) dX12_hashAside_217 (by decide) ?_
    refine R_callSh (pc := 219) (μ' := mX12_add) (As := [.ref 76, .int (nI 0), .ref 89, .int (nI 0), .int 16]) (st := []) dX12_hashAside_219 zX12_add lX12_143 ⟨by decide, by decide⟩ rfl rfl ⟨by decide, by decide⟩ rfl (Nat.le_of_ble_eq_true rfl) (oX12_add16 S_37 hn (p := 76) (q := 89) rfl rfl 0 0 (by show 0 + 16 ≤ 16; omega) (by show 0 + 16 ≤ 16; omega) (by decide)) (fun h_38 r_ q_39 => ?_)
    obtain ⟨rfl, S_40, F_41⟩ := q_39
    have S_42 : MO h_38 (uo (uo (uo ψ2 88 (pt (ψ2 88) 0 (xb (gt (ψ2 88) 0) (gt (ψ2 87) 0)))) 76 (pt (updB (adB (ψ2 74) (16 * b) (pt (ψ2 76) 0 (gt (pt (ψ2 88) 0 (xb (gt (ψ2 88) 0) (gt (ψ2 87) 0))) 0)) 0 (A.length - (16 * b))) (A.length - (16 * b)) (((adB (ψ2 74) (16 * b) (pt (ψ2 76) 0 (gt (pt (ψ2 88) 0 (xb (gt (ψ2 88) 0) (gt (ψ2 87) 0))) 0)) 0 (A.length - (16 * b))) (A.length - (16 * b))) ^^^ (t8 128))) 0 (F (gt (updB (adB (ψ2 74) (16 * b) (pt (ψ2 76) 0 (gt (pt (ψ2 88) 0 (xb (gt (ψ2 88) 0) (gt (ψ2 87) 0))) 0)) 0 (A.length - (16 * b))) (A.length - (16 * b)) (((adB (ψ2 74) (16 * b) (pt (ψ2 76) 0 (gt (pt (ψ2 88) 0 (xb (gt (ψ2 88) 0) (gt (ψ2 87) 0))) 0)) 0 (A.length - (16 * b))) (A.length - (16 * b))) ^^^ (t8 128))) 0)))) 89 (pt (ψ2 89) 0 (xb (gt (ψ2 89) 0) (gt (pt (updB (adB (ψ2 74) (16 * b) (pt (ψ2 76) 0 (gt (pt (ψ2 88) 0 (xb (gt (ψ2 88) 0) (gt (ψ2 87) 0))) 0)) 0 (A.length - (16 * b))) (A.length - (16 * b)) (((adB (ψ2 74) (16 * b) (pt (ψ2 76) 0 (gt (pt (ψ2 88) 0 (xb (gt (ψ2 88) 0) (gt (ψ2 87) 0))) 0)) 0 (A.length - (16 * b))) (A.length - (16 * b))) ^^^ (t8 128))) 0 (F (gt (updB (adB (ψ2 74) (16 * b) (pt (ψ2 76) 0 (gt (pt (ψ2 88) 0 (xb (gt (ψ2 88) 0) (gt (ψ2 87) 0))) 0)) 0 (A.length - (16 * b))) (A.length - (16 * b)) (((adB (ψ2 74) (16 * b) (pt (ψ2 76) 0 (gt (pt (ψ2 88) 0 (xb (gt (ψ2 88) 0) (gt (ψ2 87) 0))) 0)) 0 (A.length - (16 * b))) (A.length - (16 * b))) ^^^ (t8 128))) 0))) 0)))) z i := S_40
    have hy : gt (pt (ψ2 89) 0 (xb (gt (ψ2 89) 0) (gt (pt (updB (adB (ψ2 74) (16 * b) (pt (ψ2 76) 0 (gt (pt (ψ2 88) 0 (xb (gt (ψ2 88) 0) (gt (ψ2 87) 0))) 0)) 0 (A.length - (16 * b))) (A.length - (16 * b)) (((adB (ψ2 74) (16 * b) (pt (ψ2 76) 0 (gt (pt (ψ2 88) 0 (xb (gt (ψ2 88) 0) (gt (ψ2 87) 0))) 0)) 0 (A.length - (16 * b))) (A.length - (16 * b))) ^^^ (t8 128))) 0 (F (gt (updB (adB (ψ2 74) (16 * b) (pt (ψ2 76) 0 (gt (pt (ψ2 88) 0 (xb (gt (ψ2 88) 0) (gt (ψ2 87) 0))) 0)) 0 (A.length - (16 * b))) (A.length - (16 * b)) (((adB (ψ2 74) (16 * b) (pt (ψ2 76) 0 (gt (pt (ψ2 88) 0 (xb (gt (ψ2 88) 0) (gt (ψ2 87) 0))) 0)) 0 (A.length - (16 * b))) (A.length - (16 * b))) ^^^ (t8 128))) 0))) 0))) 0 = ahT F (dbl (F (0, 0))) (F (0, 0)) A (0, 0) := by
      unfold ahT
      rw [show A.length / 16 = b by omega]
      rw [if_neg (show ¬ nI (A.length % 16) = 0 from fun q_ => absurd ((nI_eq (a := A.length % 16) (b := 0) (by omega) (by omega)).mp q_) (by omega)), show A.length % 16 = A.length - 16 * b by omega]
      have e0 : gt (ψ 87) 0 = (F (0, 0)) := hls 0 (by omega)
      simp only [gt_pt, pt_pt]
      rw [gt_ao _ (by omega) 128, gt_ad (L := A) (c := 16 * b) (fun j_ hj_ => by rw [e74]; exact sg0 hsA (by omega)) (by omega) (by omega), gt_pt, e87, e0, hJ.1, hJ.2, aoc_xb _ _ _ (by omega)]
    exact R_vreturn (pc := 222) dX12_hashAside_222 rfl (by decide) (by decide) ⟨rfl, _, rfl, S_42, (((((((FR.rf [76, 88, 89] _).up (by decide)).up (by decide)).tr hK (by decide)).up (by decide)).up (by decide)).up (by decide)), hy, (hF.tr (((((F_16.tr F_21).tr F_26).tr F_31).tr F_36).tr F_41))⟩
