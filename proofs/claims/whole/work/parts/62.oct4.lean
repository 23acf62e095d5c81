set_option maxHeartbeats 4000000 in
set_option maxRecDepth 100000 in
theorem qX12_padded_oloop {l : Launch} {w : am_W} {h : am_H} {n : Nat} {ψ : Nat → oA} {z : fA} {i : mI} (S : MO h ψ z i) (hn : 90 ≤ n) (N T : Nat) (hN : N ≤ 512) (hT : T < 256) (hi3 : i 3 = nI N) (g : Int32) (hg : g = 0 ∨ g = 1) (hgT : g = 1 → T ≤ N) {Q : am_H → Nat → Option Value → Prop} (kk : ∀ k, RW l w mX12_padded h n 0 0 93 [(4, .int (nI k)), (3, .int (allI g (fun j => decide (oc (ψ 72 (N - 1 - j)) = nI T)) T)), (2, .int (nI T)), (0, .ref 61), (1, .int 1)] [] Q) : ∀ (dd k : Nat), k + dd = T → RW l w mX12_padded h n 0 0 53 [(4, .int (nI k)), (3, .int (allI g (fun j => decide (oc (ψ 72 (N - 1 - j)) = nI T)) k)), (2, .int (nI T)), (0, .ref 61), (1, .int 1)] [] Q := by
  intro dd
  induction dd with
  | zero =>
    intro k hd
    refine R_iload_n (pc := 53) 1 dX12_padded_53 rfl rfl ?_
    refine R_if_eq (pc := 54) (tgt := 93) dX12_padded_54 (by decide) (fun c_1 => ?_) (fun c_1 => ?_)
    · skip
      have e_ : allI g (fun j => decide (oc (ψ 72 (N - 1 - j)) = nI T)) k = allI g (fun j => decide (oc (ψ 72 (N - 1 - j)) = nI T)) T := by
        have q_ := allI_0 c_1 (T - k)
        rw [show k + (T - k) = T by omega] at q_
        rw [c_1, q_]
      rw [e_]
      exact kk k
    · skip
      have a1 : allI g (fun j => decide (oc (ψ 72 (N - 1 - j)) = nI T)) k = 1 := (allI_01 hg _ k).resolve_left c_1
      have g1 : g = 1 := hg.resolve_left (fun q_ => by rw [q_, allI_g0] at a1; exact absurd a1 (by decide))
      have hTN := hgT g1
      refine R_iload (pc := 57) 0 dX12_padded_57 rfl ?_
      refine R_iload_n (pc := 59) 2 dX12_padded_59 rfl rfl ?_
      refine R_icmp_ge (pc := 60) (tgt := 93) dX12_padded_60 (by decide) (fun c_2 => ?_) (fun c_2 => absurd (nI_le (a := T) (b := k) (by omega) (by omega)) c_2)
      have e_ : allI g (fun j => decide (oc (ψ 72 (N - 1 - j)) = nI T)) k = allI g (fun j => decide (oc (ψ 72 (N - 1 - j)) = nI T)) T := by
        rw [show k = T by omega]
      rw [e_]
      exact kk k
  | succ dd ih =>
    intro k hd
    refine R_iload_n (pc := 53) 1 dX12_padded_53 rfl rfl ?_
    refine R_if_eq (pc := 54) (tgt := 93) dX12_padded_54 (by decide) (fun c_1 => ?_) (fun c_1 => ?_)
    · skip
      have e_ : allI g (fun j => decide (oc (ψ 72 (N - 1 - j)) = nI T)) k = allI g (fun j => decide (oc (ψ 72 (N - 1 - j)) = nI T)) T := by
        have q_ := allI_0 c_1 (T - k)
        rw [show k + (T - k) = T by omega] at q_
        rw [c_1, q_]
      rw [e_]
      exact kk k
    · skip
      have a1 : allI g (fun j => decide (oc (ψ 72 (N - 1 - j)) = nI T)) k = 1 := (allI_01 hg _ k).resolve_left c_1
      have g1 : g = 1 := hg.resolve_left (fun q_ => by rw [q_, allI_g0] at a1; exact absurd a1 (by decide))
      have hTN := hgT g1
      refine R_iload (pc := 57) 0 dX12_padded_57 rfl ?_
      refine R_iload_n (pc := 59) 2 dX12_padded_59 rfl rfl ?_
      refine R_icmp_ge (pc := 60) (tgt := 93) dX12_padded_60 (by decide) (fun c_2 => absurd c_2 (nI_ge (a := k) (b := T) (by omega) (by omega))) (fun c_2 => ?_)
      refine R_aload_n (pc := 63) 3 dX12_padded_63 rfl rfl ?_
      refine R_get (pc := 64) dX12_padded_64 fX12_44 S.obj (by omega) rfl ?_
      refine R_aload_n (pc := 67) 3 dX12_padded_67 rfl rfl ?_
      refine R_get (pc := 68) dX12_padded_68 fX12_130 S.obj (by omega) rfl ?_
      refine R_eqi (y := nI N) (hi3) ?_
      refine R_iconst (pc := 71) (v := 1) dX12_padded_71 (by decide) ?_
      refine R_isub (pc := 72) dX12_padded_72 ?_
      refine R_eqi (y := nI (N - 1)) (nI_sb (a := N) (b := 1) (by omega)) ?_
      refine R_iload (pc := 73) 0 dX12_padded_73 rfl ?_
      refine R_isub (pc := 75) dX12_padded_75 ?_
      refine R_eqi (y := nI (N - 1 - k)) (nI_sb (a := N - 1) (b := k) (by omega)) ?_
      refine R_iald' (pc := 76) (j := N - 1 - k) dX12_padded_76 (S.arr (p := 72) rfl) (by omega) ⟨rfl, by show N - 1 - k < 700; omega, by decide⟩ ?_
      refine R_eqi (y := oc (ψ 72 (N - 1 - k))) rfl ?_
      refine R_iload_n (pc := 77) 2 dX12_padded_77 rfl rfl ?_
      refine R_icmp_ne (pc := 78) (tgt := 85) dX12_padded_78 (by decide) (fun c_3 => ?_) (fun c_3 => ?_)
      · skip
        refine R_iconst (pc := 85) (v := 0) dX12_padded_85 (by decide) ?_
        refine R_istore_n (pc := 86) (lv' := [(3, .int 0), (4, .int (nI k)), (2, .int (nI T)), (0, .ref 61), (1, .int 1)]) dX12_padded_86 rfl (by decide) rfl ?_
        refine R_iinc (pc := 87) (j := 1) (v := nI (k + 1)) (lv' := [(4, .int (nI (k + 1))), (3, .int 0), (2, .int (nI T)), (0, .ref 61), (1, .int 1)]) dX12_padded_87 rfl (nI_add _ _) (by decide) rfl ?_
        refine R_goto (pc := 90) (tgt := 53) dX12_padded_90 (by decide) ?_
        refine R_sub [0, 1, 2, 3, 4] rfl ?_
        have e_ : allI g (fun j => decide (oc (ψ 72 (N - 1 - j)) = nI T)) (k + 1) = 0 := by rw [allI_up a1]; exact if_neg (fun q_ => c_3 (of_decide_eq_true q_))
        have r_ := ih (k + 1) (by omega)
        rw [e_] at r_
        exact r_
      · skip
        refine R_iconst (pc := 81) (v := 1) dX12_padded_81 (by decide) ?_
        refine R_goto (pc := 82) (tgt := 86) dX12_padded_82 (by decide) ?_
        refine R_istore_n (pc := 86) (lv' := [(3, .int 1), (4, .int (nI k)), (2, .int (nI T)), (0, .ref 61), (1, .int 1)]) dX12_padded_86 rfl (by decide) rfl ?_
        refine R_iinc (pc := 87) (j := 1) (v := nI (k + 1)) (lv' := [(4, .int (nI (k + 1))), (3, .int 1), (2, .int (nI T)), (0, .ref 61), (1, .int 1)]) dX12_padded_87 rfl (nI_add _ _) (by decide) rfl ?_
        refine R_goto (pc := 90) (tgt := 53) dX12_padded_90 (by decide) ?_
        refine R_sub [0, 1, 2, 3, 4] rfl ?_
        have e_ : allI g (fun j => decide (oc (ψ 72 (N - 1 - j)) = nI T)) (k + 1) = 1 := by rw [allI_up a1]; exact if_pos (decide_eq_true c_3)
        have r_ := ih (k + 1) (by omega)
        rw [e_] at r_
        exact r_
theorem inI_01 (v a b : Int32) : inI v a b = 0 ∨ inI v a b = 1 := by
  unfold inI
  by_cases h : v < a
  · rw [if_pos h]; exact Or.inl rfl
  · rw [if_neg h]
    by_cases h2 : b < v
    · rw [if_pos h2]; exact Or.inl rfl
    · rw [if_neg h2]; exact Or.inr rfl
theorem in16 : ∀ T, T < 256 → (inI (nI T) 1 16 = 1 ↔ 1 ≤ T ∧ T ≤ 16) := by decide +kernel
theorem in16u : ∀ T, T < 256 → (((nI T - 1) ||| (16 - nI T)) >>> ((31 : Int32) &&& 31) = 0 ↔ 1 ≤ T ∧ T ≤ 16) := by decide +kernel
theorem lt_mask : ∀ i, i < 16 → ∀ T, T < 17 → ((nI (i + 1) - 1) - nI T) >>> ((31 : Int32) &&& 31) = if i < T then -1 else 0 := by decide +kernel
theorem upW_iff (C : List (BitVec 8)) (T : Nat) (hT : upT C = nI T) (h1 : 1 ≤ T) (h16 : T ≤ 16) : ∀ i, i ≤ 16 → (upW C i = 0 ↔ ∀ j, j < i → j < T → oc (og C (C.length - (j + 1))) = nI T)
  | 0, _ => by
    constructor
    · intro _ j hj
      exact absurd hj (Nat.not_lt_zero j)
    · intro _
      show ((upT C - 1) ||| (16 - upT C)) >>> _ = 0
      rw [hT]
      exact (in16u T (by omega)).mpr ⟨h1, h16⟩
  | i + 1, hi => by
    have ih := upW_iff C T hT h1 h16 i (by omega)
    show (upW C i ||| ((((nI (i + 1) - 1) - upT C) >>> _) &&& (oc (og C (C.length - (i + 1))) ^^^ upT C))) = 0 ↔ _
    rw [hT, lt_mask i (by omega) T (by omega)]
    constructor
    · intro h j hj hjT
      obtain ⟨a, b⟩ := or0_32 h
      rcases Nat.lt_or_ge j i with q | q
      · exact ih.mp a j q hjT
      · obtain rfl : j = i := by omega
        rw [if_pos hjT] at b
        have b2 : oc (og C (C.length - (j + 1))) ^^^ nI T = 0 := by
          rw [← b]
          apply Int32.toBitVec_inj.mp
          rw [Int32.toBitVec_and]
          have : (-1 : Int32).toBitVec = BitVec.allOnes 32 := by decide
          rw [this, BitVec.allOnes_and]
        have := congrArg (fun v => v ^^^ nI T) b2
        simp only [Int32.xor_assoc, Int32.xor_self, Int32.xor_zero, Int32.zero_xor] at this
        exact this
    · intro h
      rw [ih.mpr (fun j hj hjT => h j (by omega) hjT)]
      by_cases hiT : i < T
      · rw [h i (by omega) hiT, Int32.xor_self, Int32.and_zero]
        rfl
      · rw [if_neg hiT, Int32.zero_and]
        rfl
theorem up_good (C : List (BitVec 8)) (T : Nat) (hT256 : T < 256) (hT : upT C = nI T) (f : Nat → Bool) (hf : ∀ j, f j = decide (oc (og C (C.length - 1 - j)) = nI T)) : allI (inI (nI T) 1 16) f T = if upW C 16 = 0 then 1 else 0 := by
  by_cases hr : 1 ≤ T ∧ T ≤ 16
  · rw [(in16 T hT256).mpr hr, allI_iff]
    have hu := upW_iff C T hT hr.1 hr.2 16 (Nat.le_refl _)
    by_cases hg : ∀ j, j < T → f j = true
    · rw [if_pos hg, if_pos (hu.mpr (fun j hj hjT => by have := hg j hjT; rw [hf] at this; rw [show C.length - (j + 1) = C.length - 1 - j by omega]; exact of_decide_eq_true this))]
    · rw [if_neg hg, if_neg (fun q => hg (fun j hj => by rw [hf]; exact decide_eq_true (by have := hu.mp q j (by omega) hj; rw [show C.length - (j + 1) = C.length - 1 - j by omega] at this; exact this)))]
  · have h0 : inI (nI T) 1 16 = 0 := (inI_01 _ _ _).resolve_right (fun q => hr ((in16 T hT256).mp q))
    rw [h0, allI_g0, if_neg]
    intro q
    have := upW0 C 16 q
    have e : upW C 0 = ((upT C - 1) ||| (16 - upT C)) >>> ((31 : Int32) &&& 31) := rfl
    rw [e, hT] at this
    exact hr ((in16u T hT256).mp this)
set_option maxHeartbeats 4000000 in
set_option maxRecDepth 100000 in
theorem oX12_padded_o {l : Launch} {w : am_W} {h : am_H} {n : Nat} {ψ : Nat → oA} {z : fA} {i : mI} (S : MO h ψ z i) (hn : 90 ≤ n) (D : List (BitVec 8)) (hD : D.length ≤ 512) (hi3 : i 3 = nI D.length) (b : Nat) (hb : D.length = 16 * b) (hb1 : 1 ≤ b) {F G : bP → bP} (K0 : Kh ψ 0 F G) (hs : sg (ψ 71) 0 D) : RH l w mX12_padded h n [.ref 61, .int 1] (fun h2 q => ∃ ψ2 v, q = some (.int (if upW (chD G (gt (ψ 73) 0) D) 16 = 0 then 0 else -6)) ∧ MO h2 ψ2 z (ui i 4 v) ∧ FR [72, 75] ψ ψ2 ∧ (upW (chD G (gt (ψ 73) 0) D) 16 = 0 → sg (ψ2 72) 0 (upR (chD G (gt (ψ 73) 0) D)) ∧ v = nI (upR (chD G (gt (ψ 73) 0) D)).length) ∧ FM h h2) := by
  refine RC.of [(0, .ref 61), (1, .int 1)] (by decide +kernel) rfl (Nat.le_of_ble_eq_true rfl) ?_
  refine R_aload_n (pc := 0) 0 dX12_padded_0 rfl rfl ?_
  refine R_get (pc := 1) dX12_padded_1 fX12_47 S.obj (by omega) rfl ?_
  refine R_iconst (pc := 4) (v := 0) dX12_padded_4 (by decide) ?_
  refine R_aload_n (pc := 5) 0 dX12_padded_5 rfl rfl ?_
  refine R_get (pc := 6) dX12_padded_6 fX12_53 S.obj (by omega) rfl ?_
  refine R_iconst (pc := 9) (v := 0) dX12_padded_9 (by decide) ?_
  refine R_bipush (pc := 10) (v := 16) dX12_padded_10 (by decide) ?_
  refine R_callSh (pc := 12) (μ' := mX12_copy) (As := [.ref 73, .int (nI 0), .ref 75, .int (nI 0), .int 16]) (st := []) dX12_padded_12 zX12_copy lX12_133 ⟨by decide, by decide⟩ rfl rfl ⟨by decide, by decide⟩ rfl (Nat.le_of_ble_eq_true rfl) (oX12_copy16 S hn (p := 73) (q := 75) rfl rfl 0 0 (by show 0 + 16 ≤ 64; omega) (by show 0 + 16 ≤ 16; omega) (by decide)) (fun h_1 r_ q_2 => ?_)
  obtain ⟨rfl, S_3, F_4⟩ := q_2
  have S_5 : MO h_1 (uo ψ 75 (pt (ψ 75) 0 (gt (ψ 73) 0))) z i := S_3
  refine R_iload_n (pc := 15) 1 dX12_padded_15 rfl rfl ?_
  refine R_if_eq (pc := 16) (tgt := 114) dX12_padded_16 (by decide) (fun c_6 => absurd c_6 (by decide)) (fun c_6 => ?_)
  refine R_aload_n (pc := 19) 0 dX12_padded_19 rfl rfl ?_
  refine R_aload_n (pc := 20) 0 dX12_padded_20 rfl rfl ?_
  refine R_get (pc := 21) dX12_padded_21 fX12_130 S_5.obj (by omega) rfl ?_
  refine R_eqi (y := nI D.length) (hi3) ?_
  refine R_bipush (pc := 24) (v := 16) dX12_padded_24 (by decide) ?_
  refine R_idiv (pc := 26) dX12_padded_26 (by decide) ?_
  refine R_eqi (y := nI (D.length / 16)) (nI_div (a := D.length) (b := 16) (by omega) (by omega)) ?_
  refine R_callVh (pc := 27) (μ' := mX12_unchain) (As := [.int (nI (D.length / 16))]) (st := []) dX12_padded_27 zX12_unchain lX12_156 ⟨by decide, by decide⟩ rfl rfl ⟨by decide, by decide⟩ S_5.obj (by omega) rfl (Nat.le_of_ble_eq_true rfl) (oX12_unchain S_5 hn (D.length / 16) (by omega) (K0.uo (by decide)) D (by omega) hs (gt (ψ 73) 0) (gt_pt _ _ _)) (fun h_7 r_ q_8 => ?_)
  obtain ⟨ψ_12, rfl, S_9, K_11, J_13, F_10⟩ := q_8
  have K_14 := (K0.uo (by decide)).fr K_11 (by decide) (by decide) (by decide) (by decide)
  have eb : D.length / 16 = nbk D := by unfold nbk; omega
  have sC : sg (ψ_12 72) 0 (chD G (gt (ψ 73) 0) D) := by have z_ := J_13.2; rw [eb] at z_; exact z_
  have lC : (chD G (gt (ψ 73) 0) D).length = D.length := by unfold chD; rw [stN_len (ucS_len G D)]; unfold nbk; omega
  obtain ⟨T, eT⟩ : ∃ T, T = (ψ_12 72 (D.length - 1)).toNat := ⟨_, rfl⟩
  have hT : T < 256 := by rw [eT]; exact (ψ_12 72 (D.length - 1)).isLt
  have eU : oc (ψ_12 72 (D.length - 1)) = nI T := by rw [oc_nI, eT]
  have uT : upT (chD G (gt (ψ 73) 0) D) = nI T := by unfold upT; rw [lC, ← sC _ (by omega), Nat.zero_add]; exact eU
  refine R_aload_n (pc := 30) 0 dX12_padded_30 rfl rfl ?_
  refine R_get (pc := 31) dX12_padded_31 fX12_44 S_9.obj (by omega) rfl ?_
  refine R_aload_n (pc := 34) 0 dX12_padded_34 rfl rfl ?_
  refine R_get (pc := 35) dX12_padded_35 fX12_130 S_9.obj (by omega) rfl ?_
  refine R_eqi (y := nI D.length) (hi3) ?_
  refine R_iconst (pc := 38) (v := 1) dX12_padded_38 (by decide) ?_
  refine R_isub (pc := 39) dX12_padded_39 ?_
  refine R_eqi (y := nI (D.length - 1)) (nI_sb (a := D.length) (b := 1) (by omega)) ?_
  refine R_iald' (pc := 40) (j := D.length - 1) dX12_padded_40 (S_9.arr (p := 72) rfl) (by omega) ⟨rfl, by show D.length - 1 < 700; omega, by decide⟩ ?_
  refine R_eqi (y := oc (ψ_12 72 (D.length - 1))) rfl ?_
  refine R_eqi (y := nI T) (eU) ?_
  refine R_istore_n (pc := 41) (lv' := [(2, .int (nI T)), (0, .ref 61), (1, .int 1)]) dX12_padded_41 rfl (by decide) rfl ?_
  refine R_iload_n (pc := 42) 0 dX12_padded_42 rfl rfl ?_
  refine R_iconst (pc := 43) (v := 1) dX12_padded_43 (by decide) ?_
  refine R_bipush (pc := 44) (v := 16) dX12_padded_44 (by decide) ?_
  refine R_callSp (pc := 46) (μ' := mX12_in) (As := [.int (nI T), .int 1, .int 16]) (st := []) dX12_padded_46 zX12_in lX12_108 ⟨by decide, by decide⟩ rfl rfl ⟨by decide, by decide⟩ rfl (Nat.le_of_ble_eq_true rfl) (qX12_in l w _ _ _ _ _) ?_
  refine R_istore_n (pc := 49) (lv' := [(3, .int (inI (nI T) 1 16)), (2, .int (nI T)), (0, .ref 61), (1, .int 1)]) dX12_padded_49 rfl (by decide) rfl ?_
  refine R_iconst (pc := 50) (v := 0) dX12_padded_50 (by decide) ?_
  refine R_istore (pc := 51) (lv' := [(4, .int 0), (3, .int (inI (nI T) 1 16)), (2, .int (nI T)), (0, .ref 61), (1, .int 1)]) dX12_padded_51 (by decide) rfl ?_
  refine R_sub [0, 1, 2, 3, 4] rfl ?_
  refine qX12_padded_oloop (h := h_7) (ψ := ψ_12) S_9 hn D.length T hD hT hi3 (inI (nI T) 1 16) (inI_01 _ _ _) (fun q_ => by have := (in16 T hT).mp q_; omega) (fun k => ?_) T 0 (by omega)
  have gg : allI (inI (nI T) 1 16) (fun j => decide (oc (ψ_12 72 (D.length - 1 - j)) = nI T)) T = if upW (chD G (gt (ψ 73) 0) D) 16 = 0 then 1 else 0 := by
    by_cases hr : 1 ≤ T ∧ T ≤ 16
    · rw [← up_good (chD G (gt (ψ 73) 0) D) T hT uT (fun j => decide (oc (og (chD G (gt (ψ 73) 0) D) ((chD G (gt (ψ 73) 0) D).length - 1 - j)) = nI T)) (fun _ => rfl), (in16 T hT).mpr hr, allI_iff, allI_iff]
      have e_ : ∀ j, j < T → oc (ψ_12 72 (D.length - 1 - j)) = oc (og (chD G (gt (ψ 73) 0) D) ((chD G (gt (ψ 73) 0) D).length - 1 - j)) := fun j_ hj_ => by rw [lC, ← sC _ (by omega), Nat.zero_add]
      have e2_ : (∀ j, j < T → decide (oc (ψ_12 72 (D.length - 1 - j)) = nI T) = true) ↔ (∀ j, j < T → decide (oc (og (chD G (gt (ψ 73) 0) D) ((chD G (gt (ψ 73) 0) D).length - 1 - j)) = nI T) = true) := ⟨fun q_ j_ hj_ => by rw [← e_ j_ hj_]; exact q_ j_ hj_, fun q_ j_ hj_ => by rw [e_ j_ hj_]; exact q_ j_ hj_⟩
      simp only [e2_]
    · rw [← up_good (chD G (gt (ψ 73) 0) D) T hT uT (fun j => decide (oc (og (chD G (gt (ψ 73) 0) D) ((chD G (gt (ψ 73) 0) D).length - 1 - j)) = nI T)) (fun _ => rfl), (inI_01 _ _ _).resolve_right (fun q => hr ((in16 T hT).mp q)), allI_g0, allI_g0]
  rw [gg]
  refine R_aload_n (pc := 93) 3 dX12_padded_93 rfl rfl ?_
  refine R_aload_n (pc := 94) 3 dX12_padded_94 rfl rfl ?_
  refine R_get (pc := 95) dX12_padded_95 fX12_130 S_9.obj (by omega) rfl ?_
  refine R_eqi (y := nI D.length) (hi3) ?_
  refine R_iload_n (pc := 98) 2 dX12_padded_98 rfl rfl ?_
  refine R_isub (pc := 99) dX12_padded_99 ?_
  refine R_put' (pc := 100) (fs' := [.int (i 0), .ref 62, .ref 63, .int (i 1), .ref 64, .int (i 2), .ref 65, .ref 66, .ref 67, .ref 68, .ref 69, .ref 70, .ref 71, .int (i 3), .ref 72, .int ((nI D.length) - (nI T)), .ref 73, .int (i 5), .ref 74, .int (i 6), .ref 75, .ref 76, .ref 77, .ref 78, .ref 79, .ref 80, .ref 81, .ref 82, .ref 83, .ref 84, .int (i 7), .ref 85, .ref 86, .ref 87, .ref 88, .ref 89, .ref 90]) dX12_padded_100 fX12_153 tX12_15 rfl rfl S_9.obj (by omega) (Nat.le_of_ble_eq_true rfl) rfl (fun h_15 f_16 g_17 => ?_)
  have S_18 : MO h_15 ψ_12 z (ui i 4 ((nI D.length) - (nI T))) := MO.setI (j := (ui i 4 ((nI D.length) - (nI T)))) S_9 f_16 g_17
  have F_19 := fmI g_17
  refine R_iload_n (pc := 103) 1 dX12_padded_103 rfl rfl ?_
  refine R_if_eq (pc := 104) (tgt := 111) dX12_padded_104 (by decide) (fun c_20 => ?_) (fun c_20 => ?_)
  · skip
    refine R_bipush (pc := 111) (v := (-6)) dX12_padded_111 (by decide) ?_
    have hg : ¬ upW (chD G (gt (ψ 73) 0) D) 16 = 0 := fun q_ => by rw [if_pos q_] at c_20; exact absurd c_20 (by decide)
    have hA : (some (.int (-6)) : Option Value) = some (.int (if upW (chD G (gt (ψ 73) 0) D) 16 = 0 then 0 else -6)) := by rw [if_neg hg]
    have hz : upW (chD G (gt (ψ 73) 0) D) 16 = 0 → nI D.length - nI T = nI (upR (chD G (gt (ψ 73) 0) D)).length := fun q_ => absurd q_ hg
    have hy : upW (chD G (gt (ψ 73) 0) D) 16 = 0 → sg (ψ_12 72) 0 (upR (chD G (gt (ψ 73) 0) D)) := fun q_ => absurd q_ hg
    exact R_ireturn (pc := 113) dX12_padded_113 rfl (by decide) (by decide) ⟨rfl, ψ_12, nI D.length - nI T, hA, S_18, (((FR.rf _ _).up (by decide)).tr K_11 (by decide)), fun q_ => ⟨hy q_, hz q_⟩, ((F_4.tr F_10).tr F_19)⟩
  · skip
    refine R_iconst (pc := 107) (v := 0) dX12_padded_107 (by decide) ?_
    refine R_goto (pc := 108) (tgt := 113) dX12_padded_108 (by decide) ?_
    have hg : upW (chD G (gt (ψ 73) 0) D) 16 = 0 := by by_cases q_ : upW (chD G (gt (ψ 73) 0) D) 16 = 0; exact q_; exact absurd (if_neg q_) c_20
    have hA : (some (.int (0)) : Option Value) = some (.int (if upW (chD G (gt (ψ 73) 0) D) 16 = 0 then 0 else -6)) := by rw [if_pos hg]
    have hb_ := upW_b hg
    have hTl : (og (chD G (gt (ψ 73) 0) D) ((chD G (gt (ψ 73) 0) D).length - 1)).toNat = T := by rw [lC, ← sC _ (by omega), Nat.zero_add, eT]
    have hz : upW (chD G (gt (ψ 73) 0) D) 16 = 0 → nI D.length - nI T = nI (upR (chD G (gt (ψ 73) 0) D)).length := fun q_ => by unfold upR; rw [if_pos q_, List.length_take, lC]; rw [lC] at hb_ hTl; rw [hTl] at hb_ ⊢; rw [Nat.min_eq_left (by omega), nI_sb (by omega)]
    have hy : upW (chD G (gt (ψ 73) 0) D) 16 = 0 → sg (ψ_12 72) 0 (upR (chD G (gt (ψ 73) 0) D)) := fun q_ => by unfold upR; rw [if_pos q_]; exact fun j_ hj_ => by rw [List.length_take] at hj_; rw [og_take _ (by omega)]; exact sC j_ (by omega)
    exact R_ireturn (pc := 113) dX12_padded_113 rfl (by decide) (by decide) ⟨rfl, ψ_12, nI D.length - nI T, hA, S_18, (((FR.rf _ _).up (by decide)).tr K_11 (by decide)), fun q_ => ⟨hy q_, hz q_⟩, ((F_4.tr F_10).tr F_19)⟩
