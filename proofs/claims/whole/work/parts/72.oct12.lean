def sdN (f : oA) (k : Nat) : oA := fun j => if 16 - k ≤ j ∧ j < 16 then shr1 f j else f j
theorem sdN_0 (f : oA) : sdN f 0 = f := by
  funext j
  unfold sdN
  rw [if_neg (by omega)]
theorem sdN_lt (f : oA) {k j : Nat} (h : j < 16 - k) : sdN f k j = f j := if_neg (by omega)
theorem sdN_up (f : oA) {k : Nat} (hk : k < 16) {v : BitVec 8} (hv : v = shr1 f (15 - k)) : updB (sdN f k) (15 - k) v = sdN f (k + 1) := by
  funext j
  unfold updB sdN
  by_cases h : j = 15 - k
  · rw [if_pos h, if_pos (by omega), hv, h]
  · rw [if_neg h]
    by_cases h2 : 16 - k ≤ j ∧ j < 16
    · rw [if_pos h2, if_pos (by omega)]
    · rw [if_neg h2, if_neg (by omega)]
set_option maxHeartbeats 1000000 in
set_option maxRecDepth 100000 in
theorem qX12_timesH_in {l : Launch} {w : am_W} {h : am_H} {n : Nat} {ψ : Nat → oA} {z : fA} {i : mI} (hn : 90 ≤ n) (q : Nat) (x : Int32) {Q : am_H → Nat → Option Value → Prop} (kk : ∀ h2 ψ2, MO h2 ψ2 z i → FR [80] ψ ψ2 → ψ2 80 = sdN (ψ 80) 16 → FM h h2 → RW l w mX12_timesH h2 n 0 0 131 [(3, .int (nI (16 - 16) - 1)), (2, .int x), (1, .int (nI q)), (0, .ref 61)] [] Q) : ∀ (dd k : Nat), k + dd = 16 → ∀ h2 ψ2, MO h2 ψ2 z i → FR [80] ψ ψ2 → ψ2 80 = sdN (ψ 80) k → FM h h2 → RW l w mX12_timesH h2 n 0 0 85 [(3, .int (nI (16 - k) - 1)), (2, .int x), (1, .int (nI q)), (0, .ref 61)] [] Q := by
  intro dd
  induction dd with
  | zero =>
    intro k hd h2 ψ2 S2 hK hJ hF
    refine R_iload_n (pc := 85) 0 dX12_timesH_85 rfl rfl ?_
    refine R_if_lt (pc := 86) (tgt := 131) dX12_timesH_86 (by decide) (fun c_1 => ?_) (fun c_1 => absurd (by rw [show k = 16 by omega]; decide) c_1)
    obtain rfl : k = 16 := by omega
    exact kk h2 ψ2 S2 hK hJ hF
  | succ dd ih =>
    intro k hd h2 ψ2 S2 hK hJ hF
    refine R_iload_n (pc := 85) 0 dX12_timesH_85 rfl rfl ?_
    refine R_if_lt (pc := 86) (tgt := 131) dX12_timesH_86 (by decide) (fun c_1 => absurd c_1 (by rw [show 16 - k = (15 - k) + 1 by omega, nI_pred]; exact nI_pos (by omega))) (fun c_1 => ?_)
    refine R_aload_n (pc := 89) 3 dX12_timesH_89 rfl rfl ?_
    refine R_get (pc := 90) dX12_timesH_90 fX12_68 S2.obj (by omega) rfl ?_
    refine R_iload_n (pc := 93) 0 dX12_timesH_93 rfl rfl ?_
    refine R_eqi (y := nI (15 - k)) (by rw [show 16 - k = (15 - k) + 1 by omega]; exact nI_pred _) ?_
    refine R_aload_n (pc := 94) 3 dX12_timesH_94 rfl rfl ?_
    refine R_get (pc := 95) dX12_timesH_95 fX12_68 S2.obj (by omega) rfl ?_
    refine R_iload_n (pc := 98) 0 dX12_timesH_98 rfl rfl ?_
    refine R_eqi (y := nI (15 - k)) (by rw [show 16 - k = (15 - k) + 1 by omega]; exact nI_pred _) ?_
    refine R_iald' (pc := 99) (j := 15 - k) dX12_timesH_99 (S2.arr (p := 80) rfl) (by omega) ⟨rfl, by show 15 - k < 16; omega, by decide⟩ ?_
    refine R_eqi (y := oc (ψ2 80 (15 - k))) rfl ?_
    refine R_iconst (pc := 100) (v := 1) dX12_timesH_100 (by decide) ?_
    refine R_ishr (pc := 101) dX12_timesH_101 ?_
    refine R_eqi (y := oc ((ψ2 80 (15 - k)) >>> (1 : Nat))) (sr1_8 _) ?_
    refine R_iload_n (pc := 102) 0 dX12_timesH_102 rfl rfl ?_
    refine R_eqi (y := nI (15 - k)) (by rw [show 16 - k = (15 - k) + 1 by omega]; exact nI_pred _) ?_
    refine R_if_le (pc := 103) (tgt := 122) dX12_timesH_103 (by decide) (fun c_2 => ?_) (fun c_2 => ?_)
    · skip
      have nc_2 : 15 - k ≤ 0 := (nI_leI (a := 15 - k) (b := 0) (by omega) (by omega)).mp c_2
      refine R_iconst (pc := 122) (v := 0) dX12_timesH_122 (by decide) ?_
      refine R_eqi (y := oc 0) (oc_0.symm) ?_
      refine R_ior (pc := 123) dX12_timesH_123 ?_
      refine R_eqi (y := oc (((ψ2 80 (15 - k)) >>> (1 : Nat)) ||| 0)) (oc_or _ _) ?_
      refine R_iast' (pc := 124) (j := 15 - k) dX12_timesH_124 (S2.arr (p := 80) rfl) (by omega) ⟨rfl, by show 15 - k < 16; omega, by decide⟩ (fun h_3 f_4 g_5 => ?_)
      have S_7 : MO h_3 (uo ψ2 80 (updB (ψ2 80) (15 - k) (((ψ2 80 (15 - k)) >>> (1 : Nat)) ||| 0))) z i := MO.setA (p := 80) S2 rfl f_4 g_5 (fun j_ => congrFun (upd_oc _ _ _) j_)
      have F_6 := fmA (p := 80) (okA_c (by decide)).1 g_5
      refine R_iinc (pc := 125) (j := 0) (v := nI (16 - (k + 1)) - 1) (lv' := [(3, .int (nI (16 - (k + 1)) - 1)), (2, .int x), (1, .int (nI q)), (0, .ref 61)]) dX12_timesH_125 rfl (by rw [show 16 - k = (16 - (k + 1)) + 1 by omega]; exact nI_dec _) (by decide) rfl ?_
      refine R_goto (pc := 128) (tgt := 85) dX12_timesH_128 (by decide) ?_
      refine R_sub [0, 1, 2, 3] rfl ?_
      have j1 : updB (ψ2 80) (15 - k) (((ψ2 80 (15 - k)) >>> (1 : Nat)) ||| 0) = sdN (ψ 80) (k + 1) := by
        rw [hJ]
        refine sdN_up _ (by omega) ?_
        unfold shr1
        rw [sdN_lt _ (by omega), if_pos (show 15 - k = 0 by omega)]
      exact ih (k + 1) (by omega) h_3 _ S_7 (hK.up (by decide)) (j1) (hF.tr F_6)
    · skip
      have nc_2 : ¬ (15 - k ≤ 0) := fun q_ => c_2 ((nI_leI (a := 15 - k) (b := 0) (by omega) (by omega)).mpr q_)
      refine R_aload_n (pc := 106) 3 dX12_timesH_106 rfl rfl ?_
      refine R_get (pc := 107) dX12_timesH_107 fX12_68 S2.obj (by omega) rfl ?_
      refine R_iload_n (pc := 110) 0 dX12_timesH_110 rfl rfl ?_
      refine R_eqi (y := nI (15 - k)) (by rw [show 16 - k = (15 - k) + 1 by omega]; exact nI_pred _) ?_
      refine R_iconst (pc := 111) (v := 1) dX12_timesH_111 (by decide) ?_
      refine R_isub (pc := 112) dX12_timesH_112 ?_
      refine R_eqi (y := nI (15 - k - 1)) (nI_sb (a := 15 - k) (b := 1) (by omega)) ?_
      refine R_iald' (pc := 113) (j := 15 - k - 1) dX12_timesH_113 (S2.arr (p := 80) rfl) (by omega) ⟨rfl, by show 15 - k - 1 < 16; omega, by decide⟩ ?_
      refine R_eqi (y := oc (ψ2 80 (15 - k - 1))) rfl ?_
      refine R_iconst (pc := 114) (v := 1) dX12_timesH_114 (by decide) ?_
      refine R_iand (pc := 115) dX12_timesH_115 ?_
      refine R_bipush (pc := 116) (v := 7) dX12_timesH_116 (by decide) ?_
      refine R_ishl (pc := 118) dX12_timesH_118 ?_
      refine R_eqi (y := oc ((ψ2 80 (15 - k - 1)) <<< (7 : Nat))) (sl7_8 _) ?_
      refine R_goto (pc := 119) (tgt := 123) dX12_timesH_119 (by decide) ?_
      refine R_ior (pc := 123) dX12_timesH_123 ?_
      refine R_eqi (y := oc (((ψ2 80 (15 - k)) >>> (1 : Nat)) ||| ((ψ2 80 (15 - k - 1)) <<< (7 : Nat)))) (oc_or _ _) ?_
      refine R_iast' (pc := 124) (j := 15 - k) dX12_timesH_124 (S2.arr (p := 80) rfl) (by omega) ⟨rfl, by show 15 - k < 16; omega, by decide⟩ (fun h_8 f_9 g_10 => ?_)
      have S_12 : MO h_8 (uo ψ2 80 (updB (ψ2 80) (15 - k) (((ψ2 80 (15 - k)) >>> (1 : Nat)) ||| ((ψ2 80 (15 - k - 1)) <<< (7 : Nat))))) z i := MO.setA (p := 80) S2 rfl f_9 g_10 (fun j_ => congrFun (upd_oc _ _ _) j_)
      have F_11 := fmA (p := 80) (okA_c (by decide)).1 g_10
      refine R_iinc (pc := 125) (j := 0) (v := nI (16 - (k + 1)) - 1) (lv' := [(3, .int (nI (16 - (k + 1)) - 1)), (2, .int x), (1, .int (nI q)), (0, .ref 61)]) dX12_timesH_125 rfl (by rw [show 16 - k = (16 - (k + 1)) + 1 by omega]; exact nI_dec _) (by decide) rfl ?_
      refine R_goto (pc := 128) (tgt := 85) dX12_timesH_128 (by decide) ?_
      refine R_sub [0, 1, 2, 3] rfl ?_
      have j1 : updB (ψ2 80) (15 - k) (((ψ2 80 (15 - k)) >>> (1 : Nat)) ||| ((ψ2 80 (15 - k - 1)) <<< (7 : Nat))) = sdN (ψ 80) (k + 1) := by
        rw [hJ]
        refine sdN_up _ (by omega) ?_
        unfold shr1
        rw [sdN_lt _ (by omega), sdN_lt _ (by omega), if_neg (show ¬ 15 - k = 0 by omega)]
      exact ih (k + 1) (by omega) h_8 _ S_12 (hK.up (by decide)) (j1) (hF.tr F_11)
def tmJ (p q : bP) (ψ2 : Nat → oA) (k : Nat) : Prop := gt (ψ2 80) 0 = gV p q k ∧ gt (ψ2 81) 0 = gA p q k
set_option maxHeartbeats 1000000 in
set_option maxRecDepth 100000 in
theorem qX12_timesH_out {l : Launch} {w : am_W} {h : am_H} {n : Nat} {ψ : Nat → oA} {z : fA} {i : mI} (hn : 90 ≤ n) (q : bP) {Q : am_H → Nat → Option Value → Prop} (kk : ∀ h2 ψ2, MO h2 ψ2 z i → FR [80, 81] ψ ψ2 → tmJ (gt (ψ 79) 0) q ψ2 128 → FM h h2 → RW l w mX12_timesH h2 n 0 0 151 [(1, .int (nI 128)), (0, .ref 61)] [] Q) : ∀ (dd k : Nat), k + dd = 128 → ∀ h2 ψ2, MO h2 ψ2 z i → FR [80, 81] ψ ψ2 → tmJ (gt (ψ 79) 0) q ψ2 k → FM h h2 → RW l w mX12_timesH h2 n 0 0 27 [(1, .int (nI k)), (0, .ref 61)] [] Q := by
  intro dd
  induction dd with
  | zero =>
    intro k hd h2 ψ2 S2 hK hJ hF
    refine R_iload_n (pc := 27) 0 dX12_timesH_27 rfl rfl ?_
    refine R_sipush (pc := 28) (v := 128) dX12_timesH_28 (by decide) ?_
    refine R_icmp_ge (pc := 31) (tgt := 151) dX12_timesH_31 (by decide) (fun c_1 => ?_) (fun c_1 => absurd (nI_le (a := 128) (b := k) (by omega) (by omega)) c_1)
    obtain rfl : k = 128 := by omega
    exact kk h2 ψ2 S2 hK hJ hF
  | succ dd ih =>
    intro k hd h2 ψ2 S2 hK hJ hF
    refine R_iload_n (pc := 27) 0 dX12_timesH_27 rfl rfl ?_
    refine R_sipush (pc := 28) (v := 128) dX12_timesH_28 (by decide) ?_
    refine R_icmp_ge (pc := 31) (tgt := 151) dX12_timesH_31 (by decide) (fun c_1 => absurd c_1 (nI_ge (a := k) (b := 128) (by omega) (by omega))) (fun c_1 => ?_)
    refine R_aload_n (pc := 34) 1 dX12_timesH_34 rfl rfl ?_
    refine R_get (pc := 35) dX12_timesH_35 fX12_65 S2.obj (by omega) rfl ?_
    refine R_iload_n (pc := 38) 0 dX12_timesH_38 rfl rfl ?_
    refine R_bipush (pc := 39) (v := 8) dX12_timesH_39 (by decide) ?_
    refine R_idiv (pc := 41) dX12_timesH_41 (by decide) ?_
    refine R_eqi (y := nI (k / 8)) (nI_div (a := k) (b := 8) (by omega) (by omega)) ?_
    refine R_iald' (pc := 42) (j := k / 8) dX12_timesH_42 (S2.arr (p := 79) rfl) (by omega) ⟨rfl, by show k / 8 < 16; omega, by decide⟩ ?_
    refine R_eqi (y := oc (ψ2 79 (k / 8))) rfl ?_
    refine R_bipush (pc := 43) (v := 7) dX12_timesH_43 (by decide) ?_
    refine R_iload_n (pc := 45) 0 dX12_timesH_45 rfl rfl ?_
    refine R_bipush (pc := 46) (v := 8) dX12_timesH_46 (by decide) ?_
    refine R_irem (pc := 48) dX12_timesH_48 (by decide) ?_
    refine R_eqi (y := nI (k % 8)) (nI_rem (a := k) (b := 8) (by omega) (by omega)) ?_
    refine R_isub (pc := 49) dX12_timesH_49 ?_
    refine R_eqi (y := nI (7 - (k % 8))) (nI_sb (a := 7) (b := k % 8) (by omega)) ?_
    refine R_ishr (pc := 50) dX12_timesH_50 ?_
    refine R_iconst (pc := 51) (v := 1) dX12_timesH_51 (by decide) ?_
    refine R_iand (pc := 52) dX12_timesH_52 ?_
    refine R_iconst (pc := 53) (v := 1) dX12_timesH_53 (by decide) ?_
    refine R_icmp_ne (pc := 54) (tgt := 72) dX12_timesH_54 (by decide) (fun c_2 => ?_) (fun c_2 => ?_)
    · skip
      refine R_aload_n (pc := 72) 1 dX12_timesH_72 rfl rfl ?_
      refine R_get (pc := 73) dX12_timesH_73 fX12_68 S2.obj (by omega) rfl ?_
      refine R_bipush (pc := 76) (v := 15) dX12_timesH_76 (by decide) ?_
      refine R_iald' (pc := 78) (j := 15) dX12_timesH_78 (S2.arr (p := 80) rfl) (by omega) ⟨rfl, by show 15 < 16; omega, by decide⟩ ?_
      refine R_eqi (y := oc (ψ2 80 15)) rfl ?_
      refine R_iconst (pc := 79) (v := 1) dX12_timesH_79 (by decide) ?_
      refine R_iand (pc := 80) dX12_timesH_80 ?_
      refine R_istore_n (pc := 81) (lv' := [(2, .int ((oc (ψ2 80 15)) &&& 1)), (1, .int (nI k)), (0, .ref 61)]) dX12_timesH_81 rfl (by decide) rfl ?_
      refine R_bipush (pc := 82) (v := 15) dX12_timesH_82 (by decide) ?_
      refine R_istore_n (pc := 84) (lv' := [(3, .int 15), (2, .int ((oc (ψ2 80 15)) &&& 1)), (1, .int (nI k)), (0, .ref 61)]) dX12_timesH_84 rfl (by decide) rfl ?_
      refine R_sub [0, 1, 2, 3] rfl ?_
      refine qX12_timesH_in (h := h) (ψ := ψ2) hn k ((oc (ψ2 80 15)) &&& 1) (fun h3 ψ3 S3 hK3 hJ3 hF3 => ?_) 16 0 (by omega) h2 _ S2 (FR.rf _ _) (sdN_0 _).symm hF
      have y3 : ψ3 80 = sdN (ψ2 80) 16 := hJ3
      have p3 : ψ3 81 = ψ2 81 := hK3 81 (by decide)
      refine R_aload_n (pc := 131) 3 dX12_timesH_131 rfl rfl ?_
      refine R_get (pc := 132) dX12_timesH_132 fX12_68 S3.obj (by omega) rfl ?_
      refine R_iconst (pc := 135) (v := 0) dX12_timesH_135 (by decide) ?_
      refine R_dup2 (pc := 136) dX12_timesH_136 rfl rfl ?_
      refine R_iald' (pc := 137) (j := 0) dX12_timesH_137 (S3.arr (p := 80) rfl) (by omega) ⟨rfl, by show 0 < 16; omega, by decide⟩ ?_
      refine R_eqi (y := oc (ψ3 80 0)) rfl ?_
      refine R_iload_n (pc := 138) 1 dX12_timesH_138 rfl rfl ?_
      refine R_sipush (pc := 139) (v := 225) dX12_timesH_139 (by decide) ?_
      refine R_imul (pc := 142) dX12_timesH_142 ?_
      refine R_eqi (y := oc (if (ψ2 80 15).getLsbD 0 then (225 : BitVec 8) else 0)) (lo225 _) ?_
      refine R_ixor (pc := 143) dX12_timesH_143 ?_
      refine R_eqi (y := oc ((ψ3 80 0) ^^^ (if (ψ2 80 15).getLsbD 0 then (225 : BitVec 8) else 0))) (oc_xor _ _) ?_
      refine R_iast' (pc := 144) (j := 0) dX12_timesH_144 (S3.arr (p := 80) rfl) (by omega) ⟨rfl, by show 0 < 16; omega, by decide⟩ (fun h_3 f_4 g_5 => ?_)
      have S_7 : MO h_3 (uo ψ3 80 (updB (ψ3 80) 0 ((ψ3 80 0) ^^^ (if (ψ2 80 15).getLsbD 0 then (225 : BitVec 8) else 0)))) z i := MO.setA (p := 80) S3 rfl f_4 g_5 (fun j_ => congrFun (upd_oc _ _ _) j_)
      have F_6 := fmA (p := 80) (okA_c (by decide)).1 g_5
      refine R_iinc (pc := 145) (j := 2) (v := nI (k + 1)) (lv' := [(1, .int (nI (k + 1))), (3, .int (nI (16 - 16) - 1)), (2, .int ((oc (ψ2 80 15)) &&& 1)), (0, .ref 61)]) dX12_timesH_145 rfl (nI_add _ _) (by decide) rfl ?_
      refine R_goto (pc := 148) (tgt := 27) dX12_timesH_148 (by decide) ?_
      refine R_sub [0, 3] rfl ?_
      have e79 : ψ2 79 = ψ 79 := hK 79 (by decide)
      have j1 : gt (updB (ψ3 80) 0 ((ψ3 80 0) ^^^ (if (ψ2 80 15).getLsbD 0 then (225 : BitVec 8) else 0))) 0 = gV (gt (ψ 79) 0) q (k + 1) := by
        rw [gV_s, ← hJ.1]
        refine hv_gt (ψ2 80) ?_ (fun j_ h0_ hj_ => ?_)
        · rw [updB_s, y3]; unfold sdN; rw [if_pos (by omega)]
        · rw [updB_n h0_, y3]; unfold sdN; rw [if_pos (by omega)]
      have hb : (ob (gt (ψ 79) 0) (k / 8)).getLsbD (7 - k % 8) = false := by
        rw [ob_gt _ _ (by omega), Nat.zero_add, ← e79]
        exact Bool.eq_false_iff.mpr (fun q_ => c_2 ((bit_8 _ (by omega) _).mpr q_))
      have j2 : gt (ψ3 81) 0 = gA (gt (ψ 79) 0) q (k + 1) := by
        rw [gA_s _ _ (by omega), hb, p3]
        rw [if_neg (by decide), hJ.2]
      exact ih (k + 1) (by omega) h_3 _ S_7 ((hK.tr hK3 (by decide)).up (by decide)) (⟨j1, j2⟩) (hF3.tr F_6)
    · skip
      refine R_aload_n (pc := 57) 1 dX12_timesH_57 rfl rfl ?_
      refine R_get (pc := 58) dX12_timesH_58 fX12_68 S2.obj (by omega) rfl ?_
      refine R_iconst (pc := 61) (v := 0) dX12_timesH_61 (by decide) ?_
      refine R_aload_n (pc := 62) 1 dX12_timesH_62 rfl rfl ?_
      refine R_get (pc := 63) dX12_timesH_63 fX12_71 S2.obj (by omega) rfl ?_
      refine R_iconst (pc := 66) (v := 0) dX12_timesH_66 (by decide) ?_
      refine R_bipush (pc := 67) (v := 16) dX12_timesH_67 (by decide) ?_
      refine R_callSh (pc := 69) (μ' := mX12_add) (As := [.ref 80, .int (nI 0), .ref 81, .int (nI 0), .int 16]) (st := []) dX12_timesH_69 zX12_add lX12_143 ⟨by decide, by decide⟩ rfl rfl ⟨by decide, by decide⟩ rfl (Nat.le_of_ble_eq_true rfl) (oX12_add16 S2 hn (p := 80) (q := 81) rfl rfl 0 0 (by show 0 + 16 ≤ 16; omega) (by show 0 + 16 ≤ 16; omega) (by decide)) (fun h_8 r_ q_9 => ?_)
      obtain ⟨rfl, S_10, F_11⟩ := q_9
      have S_12 : MO h_8 (uo ψ2 81 (pt (ψ2 81) 0 (xb (gt (ψ2 81) 0) (gt (ψ2 80) 0)))) z i := S_10
      refine R_aload_n (pc := 72) 1 dX12_timesH_72 rfl rfl ?_
      refine R_get (pc := 73) dX12_timesH_73 fX12_68 S_12.obj (by omega) rfl ?_
      refine R_bipush (pc := 76) (v := 15) dX12_timesH_76 (by decide) ?_
      refine R_iald' (pc := 78) (j := 15) dX12_timesH_78 (S_12.arr (p := 80) rfl) (by omega) ⟨rfl, by show 15 < 16; omega, by decide⟩ ?_
      refine R_eqi (y := oc (ψ2 80 15)) rfl ?_
      refine R_iconst (pc := 79) (v := 1) dX12_timesH_79 (by decide) ?_
      refine R_iand (pc := 80) dX12_timesH_80 ?_
      refine R_istore_n (pc := 81) (lv' := [(2, .int ((oc (ψ2 80 15)) &&& 1)), (1, .int (nI k)), (0, .ref 61)]) dX12_timesH_81 rfl (by decide) rfl ?_
      refine R_bipush (pc := 82) (v := 15) dX12_timesH_82 (by decide) ?_
      refine R_istore_n (pc := 84) (lv' := [(3, .int 15), (2, .int ((oc (ψ2 80 15)) &&& 1)), (1, .int (nI k)), (0, .ref 61)]) dX12_timesH_84 rfl (by decide) rfl ?_
      refine R_sub [0, 1, 2, 3] rfl ?_
      refine qX12_timesH_in (h := h) (ψ := (uo ψ2 81 (pt (ψ2 81) 0 (xb (gt (ψ2 81) 0) (gt (ψ2 80) 0))))) hn k ((oc (ψ2 80 15)) &&& 1) (fun h3 ψ3 S3 hK3 hJ3 hF3 => ?_) 16 0 (by omega) h_8 _ S_12 (FR.rf _ _) (sdN_0 _).symm (hF.tr F_11)
      have y3 : ψ3 80 = sdN (ψ2 80) 16 := hJ3
      have p3 : ψ3 81 = pt (ψ2 81) 0 (xb (gt (ψ2 81) 0) (gt (ψ2 80) 0)) := hK3 81 (by decide)
      refine R_aload_n (pc := 131) 3 dX12_timesH_131 rfl rfl ?_
      refine R_get (pc := 132) dX12_timesH_132 fX12_68 S3.obj (by omega) rfl ?_
      refine R_iconst (pc := 135) (v := 0) dX12_timesH_135 (by decide) ?_
      refine R_dup2 (pc := 136) dX12_timesH_136 rfl rfl ?_
      refine R_iald' (pc := 137) (j := 0) dX12_timesH_137 (S3.arr (p := 80) rfl) (by omega) ⟨rfl, by show 0 < 16; omega, by decide⟩ ?_
      refine R_eqi (y := oc (ψ3 80 0)) rfl ?_
      refine R_iload_n (pc := 138) 1 dX12_timesH_138 rfl rfl ?_
      refine R_sipush (pc := 139) (v := 225) dX12_timesH_139 (by decide) ?_
      refine R_imul (pc := 142) dX12_timesH_142 ?_
      refine R_eqi (y := oc (if (ψ2 80 15).getLsbD 0 then (225 : BitVec 8) else 0)) (lo225 _) ?_
      refine R_ixor (pc := 143) dX12_timesH_143 ?_
      refine R_eqi (y := oc ((ψ3 80 0) ^^^ (if (ψ2 80 15).getLsbD 0 then (225 : BitVec 8) else 0))) (oc_xor _ _) ?_
      refine R_iast' (pc := 144) (j := 0) dX12_timesH_144 (S3.arr (p := 80) rfl) (by omega) ⟨rfl, by show 0 < 16; omega, by decide⟩ (fun h_13 f_14 g_15 => ?_)
      have S_17 : MO h_13 (uo ψ3 80 (updB (ψ3 80) 0 ((ψ3 80 0) ^^^ (if (ψ2 80 15).getLsbD 0 then (225 : BitVec 8) else 0)))) z i := MO.setA (p := 80) S3 rfl f_14 g_15 (fun j_ => congrFun (upd_oc _ _ _) j_)
      have F_16 := fmA (p := 80) (okA_c (by decide)).1 g_15
      refine R_iinc (pc := 145) (j := 2) (v := nI (k + 1)) (lv' := [(1, .int (nI (k + 1))), (3, .int (nI (16 - 16) - 1)), (2, .int ((oc (ψ2 80 15)) &&& 1)), (0, .ref 61)]) dX12_timesH_145 rfl (nI_add _ _) (by decide) rfl ?_
      refine R_goto (pc := 148) (tgt := 27) dX12_timesH_148 (by decide) ?_
      refine R_sub [0, 3] rfl ?_
      have e79 : ψ2 79 = ψ 79 := hK 79 (by decide)
      have j1 : gt (updB (ψ3 80) 0 ((ψ3 80 0) ^^^ (if (ψ2 80 15).getLsbD 0 then (225 : BitVec 8) else 0))) 0 = gV (gt (ψ 79) 0) q (k + 1) := by
        rw [gV_s, ← hJ.1]
        refine hv_gt (ψ2 80) ?_ (fun j_ h0_ hj_ => ?_)
        · rw [updB_s, y3]; unfold sdN; rw [if_pos (by omega)]
        · rw [updB_n h0_, y3]; unfold sdN; rw [if_pos (by omega)]
      have hb : (ob (gt (ψ 79) 0) (k / 8)).getLsbD (7 - k % 8) = true := by
        rw [ob_gt _ _ (by omega), Nat.zero_add, ← e79]
        exact (bit_8 _ (by omega) _).mp c_2
      have j2 : gt (ψ3 81) 0 = gA (gt (ψ 79) 0) q (k + 1) := by
        rw [gA_s _ _ (by omega), hb, p3]
        rw [if_pos rfl, gt_pt, hJ.1, hJ.2]
      exact ih (k + 1) (by omega) h_13 _ S_17 (((hK.up (by decide)).tr hK3 (by decide)).up (by decide)) (⟨j1, j2⟩) (hF3.tr F_16)
set_option maxHeartbeats 1000000 in
set_option maxRecDepth 100000 in
theorem oX12_timesH {l : Launch} {w : am_W} {h : am_H} {n : Nat} {ψ : Nat → oA} {z : fA} {i : mI} (S : MO h ψ z i) (hn : 90 ≤ n)  : RH l w mX12_timesH h n [.ref 61] (fun h2 q => ∃ ψ2, q = none ∧ MO h2 ψ2 z i ∧ FR [79, 80, 81] ψ ψ2 ∧ gt (ψ2 79) 0 = gmu (gt (ψ 79) 0) (gt (ψ 78) 0) ∧ FM h h2) := by
  refine RC.of [(0, .ref 61)] (by decide +kernel) rfl (Nat.le_of_ble_eq_true rfl) ?_
  refine R_aload_n (pc := 0) 0 dX12_timesH_0 rfl rfl ?_
  refine R_get (pc := 1) dX12_timesH_1 fX12_71 S.obj (by omega) rfl ?_
  refine R_iconst (pc := 4) (v := 0) dX12_timesH_4 (by decide) ?_
  refine R_bipush (pc := 5) (v := 16) dX12_timesH_5 (by decide) ?_
  refine R_callSh (pc := 7) (μ' := mX12_clear) (As := [.ref 81, .int 0, .int 16]) (st := []) dX12_timesH_7 zX12_clear lX12_164 ⟨by decide, by decide⟩ rfl rfl ⟨by decide, by decide⟩ rfl (Nat.le_of_ble_eq_true rfl) (oX12_clear16 S hn (q := 81) rfl (by decide)) (fun h_1 r_ q_2 => ?_)
  obtain ⟨rfl, S_3, F_4⟩ := q_2
  have S_5 : MO h_1 (uo ψ 81 (pt (ψ 81) 0 (0, 0))) z i := S_3
  refine R_aload_n (pc := 10) 0 dX12_timesH_10 rfl rfl ?_
  refine R_get (pc := 11) dX12_timesH_11 fX12_62 S_5.obj (by omega) rfl ?_
  refine R_iconst (pc := 14) (v := 0) dX12_timesH_14 (by decide) ?_
  refine R_aload_n (pc := 15) 0 dX12_timesH_15 rfl rfl ?_
  refine R_get (pc := 16) dX12_timesH_16 fX12_68 S_5.obj (by omega) rfl ?_
  refine R_iconst (pc := 19) (v := 0) dX12_timesH_19 (by decide) ?_
  refine R_bipush (pc := 20) (v := 16) dX12_timesH_20 (by decide) ?_
  refine R_callSh (pc := 22) (μ' := mX12_copy) (As := [.ref 78, .int (nI 0), .ref 80, .int (nI 0), .int 16]) (st := []) dX12_timesH_22 zX12_copy lX12_133 ⟨by decide, by decide⟩ rfl rfl ⟨by decide, by decide⟩ rfl (Nat.le_of_ble_eq_true rfl) (oX12_copy16 S_5 hn (p := 78) (q := 80) rfl rfl 0 0 (by show 0 + 16 ≤ 16; omega) (by show 0 + 16 ≤ 16; omega) (by decide)) (fun h_6 r_ q_7 => ?_)
  obtain ⟨rfl, S_8, F_9⟩ := q_7
  have S_10 : MO h_6 (uo (uo ψ 81 (pt (ψ 81) 0 (0, 0))) 80 (pt (ψ 80) 0 (gt (ψ 78) 0))) z i := S_8
  refine R_iconst (pc := 25) (v := 0) dX12_timesH_25 (by decide) ?_
  refine R_istore_n (pc := 26) (lv' := [(1, .int 0), (0, .ref 61)]) dX12_timesH_26 rfl (by decide) rfl ?_
  refine R_sub [0, 1] rfl ?_
  refine qX12_timesH_out (h := h) (ψ := (uo (uo ψ 81 (pt (ψ 81) 0 (0, 0))) 80 (pt (ψ 80) 0 (gt (ψ 78) 0)))) hn (gt (ψ 78) 0) (fun h2 ψ2 S2 hK hJ hF => ?_) 128 0 (by omega) h_6 _ S_10 (FR.rf _ _) ⟨(gt_pt _ _ _).trans (gV_0 _ _).symm, (gt_pt _ _ _).trans (gA_0 _ _).symm⟩ (F_4.tr F_9)
  refine R_aload_n (pc := 151) 1 dX12_timesH_151 rfl rfl ?_
  refine R_get (pc := 152) dX12_timesH_152 fX12_71 S2.obj (by omega) rfl ?_
  refine R_iconst (pc := 155) (v := 0) dX12_timesH_155 (by decide) ?_
  refine R_aload_n (pc := 156) 1 dX12_timesH_156 rfl rfl ?_
  refine R_get (pc := 157) dX12_timesH_157 fX12_65 S2.obj (by omega) rfl ?_
  refine R_iconst (pc := 160) (v := 0) dX12_timesH_160 (by decide) ?_
  refine R_bipush (pc := 161) (v := 16) dX12_timesH_161 (by decide) ?_
  refine R_callSh (pc := 163) (μ' := mX12_copy) (As := [.ref 81, .int (nI 0), .ref 79, .int (nI 0), .int 16]) (st := []) dX12_timesH_163 zX12_copy lX12_133 ⟨by decide, by decide⟩ rfl rfl ⟨by decide, by decide⟩ rfl (Nat.le_of_ble_eq_true rfl) (oX12_copy16 S2 hn (p := 81) (q := 79) rfl rfl 0 0 (by show 0 + 16 ≤ 16; omega) (by show 0 + 16 ≤ 16; omega) (by decide)) (fun h_11 r_ q_12 => ?_)
  obtain ⟨rfl, S_13, F_14⟩ := q_12
  have S_15 : MO h_11 (uo ψ2 79 (pt (ψ2 79) 0 (gt (ψ2 81) 0))) z i := S_13
  exact R_vreturn (pc := 166) dX12_timesH_166 rfl (by decide) (by decide) ⟨rfl, _, rfl, S_15, (((((FR.rf [79, 80, 81] _).up (by decide)).up (by decide)).tr hK (by decide)).up (by decide)), (gt_pt _ _ _).trans (hJ.2.trans (gmu_A _ _).symm), (hF.tr F_14)⟩
def srJ (H : bP) (L : List (BitVec 8)) (x : bP) (ψ2 : Nat → oA) (k : Nat) : Prop := (k = L.length → gt (ψ2 79) 0 = cyN (gaS H L) x (nbk L)) ∧ (k < L.length → ∀ j, j < 16 → ψ2 79 j = if j < k % 16 then ob (cyN (gaS H L) x (k / 16)) j ^^^ og L (16 * (k / 16) + j) else ob (cyN (gaS H L) x (k / 16)) j)
theorem FR.ne {s : List Nat} {ψ ψ2 : Nat → oA} (h : FR s ψ ψ2) {p : Nat} (hp : p ∉ s) : ψ2 p = ψ p := h p hp
theorem ni3 {p a b c : Nat} (h : p ≠ a ∧ p ≠ b ∧ p ≠ c) : p ∉ [a, b, c] := by simp [h]
set_option maxHeartbeats 1000000 in
set_option maxRecDepth 100000 in
theorem qX12_sumRow_loop {l : Launch} {w : am_W} {h : am_H} {n : Nat} {ψ : Nat → oA} {z : fA} {i : mI} (hn : 90 ≤ n) {p : Nat} (hp : okA p = true) (hp3 : p ≠ 79 ∧ p ≠ 80 ∧ p ≠ 81) (L : List (BitVec 8)) (hL : L.length ≤ 600) (hLp : L.length ≤ mN p) (hs : sg (ψ p) 0 L) (H : bP) (hH : gt (ψ 78) 0 = H) (x : bP) {Q : am_H → Nat → Option Value → Prop} (kk : ∀ h2 ψ2, MO h2 ψ2 z i → FR [79, 80, 81] ψ ψ2 → srJ H L x ψ2 L.length → FM h h2 → RW l w mX12_sumRow h2 n 0 0 56 [(4, .int (nI L.length)), (0, .ref 61), (1, .ref p), (2, .int 0), (3, .int (nI L.length))] [] Q) : ∀ (dd k : Nat), k + dd = L.length → ∀ h2 ψ2, MO h2 ψ2 z i → FR [79, 80, 81] ψ ψ2 → srJ H L x ψ2 k → FM h h2 → RW l w mX12_sumRow h2 n 0 0 3 [(4, .int (nI k)), (0, .ref 61), (1, .ref p), (2, .int 0), (3, .int (nI L.length))] [] Q := by
  have hpb := isA_b (okA_c hp).1
  intro dd
  induction dd with
  | zero =>
    intro k hd h2 ψ2 S2 hK hJ hF
    refine R_iload (pc := 3) 0 dX12_sumRow_3 rfl ?_
    refine R_iload_n (pc := 5) 4 dX12_sumRow_5 rfl rfl ?_
    refine R_icmp_ge (pc := 6) (tgt := 56) dX12_sumRow_6 (by decide) (fun c_1 => ?_) (fun c_1 => absurd (nI_le (a := L.length) (b := k) (by omega) (by omega)) c_1)
    obtain rfl : k = L.length := by omega
    exact kk h2 ψ2 S2 hK hJ hF
  | succ dd ih =>
    intro k hd h2 ψ2 S2 hK hJ hF
    have ep : ψ2 p = ψ p := hK p (ni3 hp3)
    have hs0 : ∀ j, j < L.length → ψ p j = og L j := fun j_ hj_ => by have := hs j_ hj_; rw [Nat.zero_add] at this; exact this
    have hNp := mN_le p
    refine R_iload (pc := 3) 0 dX12_sumRow_3 rfl ?_
    refine R_iload_n (pc := 5) 4 dX12_sumRow_5 rfl rfl ?_
    refine R_icmp_ge (pc := 6) (tgt := 56) dX12_sumRow_6 (by decide) (fun c_1 => absurd c_1 (nI_ge (a := k) (b := L.length) (by omega) (by omega))) (fun c_1 => ?_)
    refine R_aload_n (pc := 9) 1 dX12_sumRow_9 rfl rfl ?_
    refine R_get (pc := 10) dX12_sumRow_10 fX12_65 S2.obj (by omega) rfl ?_
    refine R_iload (pc := 13) 0 dX12_sumRow_13 rfl ?_
    refine R_bipush (pc := 15) (v := 16) dX12_sumRow_15 (by decide) ?_
    refine R_irem (pc := 17) dX12_sumRow_17 (by decide) ?_
    refine R_eqi (y := nI (k % 16)) (nI_rem (a := k) (b := 16) (by omega) (by omega)) ?_
    refine R_dup2 (pc := 18) dX12_sumRow_18 rfl rfl ?_
    refine R_iald' (pc := 19) (j := k % 16) dX12_sumRow_19 (S2.arr (p := 79) rfl) (by omega) ⟨rfl, by show k % 16 < 16; omega, by decide⟩ ?_
    refine R_eqi (y := oc (ψ2 79 (k % 16))) rfl ?_
    refine R_aload_n (pc := 20) 2 dX12_sumRow_20 rfl rfl ?_
    refine R_iload_n (pc := 21) 3 dX12_sumRow_21 rfl rfl ?_
    refine R_iload (pc := 22) 0 dX12_sumRow_22 rfl ?_
    refine R_iadd (pc := 24) dX12_sumRow_24 ?_
    refine R_eqi (y := nI (k)) ((nI_add _ _).trans (by rw [Nat.zero_add])) ?_
    refine R_iald' (pc := 25) (j := k) dX12_sumRow_25 (S2.arr (p := p) hp) (by omega) ⟨rfl, by omega, by omega⟩ ?_
    refine R_eqi (y := oc (ψ2 p k)) rfl ?_
    refine R_ixor (pc := 26) dX12_sumRow_26 ?_
    refine R_eqi (y := oc ((ψ2 79 (k % 16)) ^^^ (ψ2 p k))) (oc_xor _ _) ?_
    refine R_iast' (pc := 27) (j := k % 16) dX12_sumRow_27 (S2.arr (p := 79) rfl) (by omega) ⟨rfl, by show k % 16 < 16; omega, by decide⟩ (fun h_2 f_3 g_4 => ?_)
    have S_6 : MO h_2 (uo ψ2 79 (updB (ψ2 79) (k % 16) ((ψ2 79 (k % 16)) ^^^ (ψ2 p k)))) z i := MO.setA (p := 79) S2 rfl f_3 g_4 (fun j_ => congrFun (upd_oc _ _ _) j_)
    have F_5 := fmA (p := 79) (okA_c (by decide)).1 g_4
    refine R_iload (pc := 28) 0 dX12_sumRow_28 rfl ?_
    refine R_bipush (pc := 30) (v := 16) dX12_sumRow_30 (by decide) ?_
    refine R_irem (pc := 32) dX12_sumRow_32 (by decide) ?_
    refine R_eqi (y := nI (k % 16)) (nI_rem (a := k) (b := 16) (by omega) (by omega)) ?_
    refine R_bipush (pc := 33) (v := 15) dX12_sumRow_33 (by decide) ?_
    refine R_icmp_eq (pc := 35) (tgt := 46) dX12_sumRow_35 (by decide) (fun c_7 => ?_) (fun c_7 => ?_)
    · skip
      have nc_7 : k % 16 = 15 := (nI_eq (a := k % 16) (b := 15) (by omega) (by omega)).mp c_7
      refine R_aload_n (pc := 46) 1 dX12_sumRow_46 rfl rfl ?_
      refine R_callVh (pc := 47) (μ' := mX12_timesH) (As := []) (st := []) dX12_sumRow_47 zX12_timesH lX12_189 ⟨by decide, by decide⟩ rfl rfl ⟨by decide, by decide⟩ S_6.obj (by omega) rfl (Nat.le_of_ble_eq_true rfl) (oX12_timesH S_6 hn) (fun h_8 r_ q_9 => ?_)
      obtain ⟨ψ_13, rfl, S_10, K_12, J_14, F_11⟩ := q_9
      refine R_iinc (pc := 50) (j := 0) (v := nI (k + 1)) (lv' := [(4, .int (nI (k + 1))), (0, .ref 61), (1, .ref p), (2, .int 0), (3, .int (nI L.length))]) dX12_sumRow_50 rfl (nI_add _ _) (by decide) rfl ?_
      refine R_goto (pc := 53) (tgt := 3) dX12_sumRow_53 (by decide) ?_
      refine R_sub [0, 1, 2, 3, 4] rfl ?_
      have es : ∀ j, j < 16 → (updB (ψ2 79) (k % 16) ((ψ2 79 (k % 16)) ^^^ (ψ2 p k))) j = if j < k % 16 + 1 then ob (cyN (gaS H L) x (k / 16)) j ^^^ og L (16 * (k / 16) + j) else ob (cyN (gaS H L) x (k / 16)) j := by
        intro j_ hj_
        by_cases q_ : j_ = k % 16
        · rw [q_, updB_s, hJ.2 (by omega) _ (by omega), if_neg (by omega), if_pos (by omega), ep, hs0 _ (by omega), show 16 * (k / 16) + k % 16 = k by omega]
        · rw [updB_n q_, hJ.2 (by omega) _ hj_]
          by_cases q2_ : j_ < k % 16
          · rw [if_pos q2_, if_pos (by omega)]
          · rw [if_neg q2_, if_neg (by omega)]
      have ex : gt (updB (ψ2 79) (k % 16) ((ψ2 79 (k % 16)) ^^^ (ψ2 p k))) 0 = xb (cyN (gaS H L) x (k / 16)) (rd L (16 * (k / 16))) := ob_ext fun j_ hj_ => by
        rw [ob_gt _ _ hj_, Nat.zero_add, es _ hj_, ob_xb _ _ hj_, ob_rd _ _ hj_]
        by_cases q_ : j_ < k % 16 + 1
        · rw [if_pos q_]
        · rw [if_neg q_, og_out (by omega)]; simp
      have en : gt (ψ_13 79) 0 = cyN (gaS H L) x (k / 16 + 1) := by
        have t_ : gt (ψ_13 79) 0 = gmu (gt (updB (ψ2 79) (k % 16) ((ψ2 79 (k % 16)) ^^^ (ψ2 p k))) 0) (gt (ψ2 78) 0) := J_14
        rw [t_, ex, hK 78 (by decide), hH]; rfl
      have j1 : k + 1 = L.length → gt (ψ_13 79) 0 = cyN (gaS H L) x (nbk L) := fun q_ => by rw [en, show nbk L = k / 16 + 1 by unfold nbk; omega]
      have j2 : k + 1 < L.length → ∀ j, j < 16 → ψ_13 79 j = if j < (k + 1) % 16 then ob (cyN (gaS H L) x ((k + 1) / 16)) j ^^^ og L (16 * ((k + 1) / 16) + j) else ob (cyN (gaS H L) x ((k + 1) / 16)) j := fun q_ j_ hj_ => by
        rw [if_neg (by omega), show (k + 1) / 16 = k / 16 + 1 by omega]
        exact gt_at0 en hj_
      exact ih (k + 1) (by omega) h_8 _ S_10 ((hK.up (by decide)).tr K_12 (by decide)) (⟨j1, j2⟩) (hF.tr (F_5.tr F_11))
    · skip
      have nc_7 : ¬ (k % 16 = 15) := fun q_ => c_7 ((nI_eq (a := k % 16) (b := 15) (by omega) (by omega)).mpr q_)
      refine R_iload (pc := 38) 0 dX12_sumRow_38 rfl ?_
      refine R_iload_n (pc := 40) 4 dX12_sumRow_40 rfl rfl ?_
      refine R_iconst (pc := 41) (v := 1) dX12_sumRow_41 (by decide) ?_
      refine R_isub (pc := 42) dX12_sumRow_42 ?_
      refine R_eqi (y := nI (L.length - 1)) (nI_sb (a := L.length) (b := 1) (by omega)) ?_
      refine R_icmp_ne (pc := 43) (tgt := 50) dX12_sumRow_43 (by decide) (fun c_15 => ?_) (fun c_15 => ?_)
      · skip
        have nc_15 : ¬ (k = L.length - 1) := fun q_ => c_15 ((nI_eq (a := k) (b := L.length - 1) (by omega) (by omega)).mpr q_)
        refine R_iinc (pc := 50) (j := 0) (v := nI (k + 1)) (lv' := [(4, .int (nI (k + 1))), (0, .ref 61), (1, .ref p), (2, .int 0), (3, .int (nI L.length))]) dX12_sumRow_50 rfl (nI_add _ _) (by decide) rfl ?_
        refine R_goto (pc := 53) (tgt := 3) dX12_sumRow_53 (by decide) ?_
        refine R_sub [0, 1, 2, 3, 4] rfl ?_
        have es : ∀ j, j < 16 → (updB (ψ2 79) (k % 16) ((ψ2 79 (k % 16)) ^^^ (ψ2 p k))) j = if j < k % 16 + 1 then ob (cyN (gaS H L) x (k / 16)) j ^^^ og L (16 * (k / 16) + j) else ob (cyN (gaS H L) x (k / 16)) j := by
          intro j_ hj_
          by_cases q_ : j_ = k % 16
          · rw [q_, updB_s, hJ.2 (by omega) _ (by omega), if_neg (by omega), if_pos (by omega), ep, hs0 _ (by omega), show 16 * (k / 16) + k % 16 = k by omega]
          · rw [updB_n q_, hJ.2 (by omega) _ hj_]
            by_cases q2_ : j_ < k % 16
            · rw [if_pos q2_, if_pos (by omega)]
            · rw [if_neg q2_, if_neg (by omega)]
        have j1 : k + 1 = L.length → gt (updB (ψ2 79) (k % 16) ((ψ2 79 (k % 16)) ^^^ (ψ2 p k))) 0 = cyN (gaS H L) x (nbk L) := fun q_ => absurd q_ (by omega)
        have j2 : k + 1 < L.length → ∀ j, j < 16 → (updB (ψ2 79) (k % 16) ((ψ2 79 (k % 16)) ^^^ (ψ2 p k))) j = if j < (k + 1) % 16 then ob (cyN (gaS H L) x ((k + 1) / 16)) j ^^^ og L (16 * ((k + 1) / 16) + j) else ob (cyN (gaS H L) x ((k + 1) / 16)) j := fun q_ j_ hj_ => by rw [show (k + 1) / 16 = k / 16 by omega, show (k + 1) % 16 = k % 16 + 1 by omega]; exact es _ hj_
        exact ih (k + 1) (by omega) h_2 _ S_6 (hK.up (by decide)) (⟨j1, j2⟩) (hF.tr F_5)
      · skip
        have nc_15 : k = L.length - 1 := (nI_eq (a := k) (b := L.length - 1) (by omega) (by omega)).mp c_15
        refine R_aload_n (pc := 46) 1 dX12_sumRow_46 rfl rfl ?_
        refine R_callVh (pc := 47) (μ' := mX12_timesH) (As := []) (st := []) dX12_sumRow_47 zX12_timesH lX12_189 ⟨by decide, by decide⟩ rfl rfl ⟨by decide, by decide⟩ S_6.obj (by omega) rfl (Nat.le_of_ble_eq_true rfl) (oX12_timesH S_6 hn) (fun h_16 r_ q_17 => ?_)
        obtain ⟨ψ_21, rfl, S_18, K_20, J_22, F_19⟩ := q_17
        refine R_iinc (pc := 50) (j := 0) (v := nI (k + 1)) (lv' := [(4, .int (nI (k + 1))), (0, .ref 61), (1, .ref p), (2, .int 0), (3, .int (nI L.length))]) dX12_sumRow_50 rfl (nI_add _ _) (by decide) rfl ?_
        refine R_goto (pc := 53) (tgt := 3) dX12_sumRow_53 (by decide) ?_
        refine R_sub [0, 1, 2, 3, 4] rfl ?_
        have es : ∀ j, j < 16 → (updB (ψ2 79) (k % 16) ((ψ2 79 (k % 16)) ^^^ (ψ2 p k))) j = if j < k % 16 + 1 then ob (cyN (gaS H L) x (k / 16)) j ^^^ og L (16 * (k / 16) + j) else ob (cyN (gaS H L) x (k / 16)) j := by
          intro j_ hj_
          by_cases q_ : j_ = k % 16
          · rw [q_, updB_s, hJ.2 (by omega) _ (by omega), if_neg (by omega), if_pos (by omega), ep, hs0 _ (by omega), show 16 * (k / 16) + k % 16 = k by omega]
          · rw [updB_n q_, hJ.2 (by omega) _ hj_]
            by_cases q2_ : j_ < k % 16
            · rw [if_pos q2_, if_pos (by omega)]
            · rw [if_neg q2_, if_neg (by omega)]
        have ex : gt (updB (ψ2 79) (k % 16) ((ψ2 79 (k % 16)) ^^^ (ψ2 p k))) 0 = xb (cyN (gaS H L) x (k / 16)) (rd L (16 * (k / 16))) := ob_ext fun j_ hj_ => by
          rw [ob_gt _ _ hj_, Nat.zero_add, es _ hj_, ob_xb _ _ hj_, ob_rd _ _ hj_]
          by_cases q_ : j_ < k % 16 + 1
          · rw [if_pos q_]
          · rw [if_neg q_, og_out (by omega)]; simp
        have en : gt (ψ_21 79) 0 = cyN (gaS H L) x (k / 16 + 1) := by
          have t_ : gt (ψ_21 79) 0 = gmu (gt (updB (ψ2 79) (k % 16) ((ψ2 79 (k % 16)) ^^^ (ψ2 p k))) 0) (gt (ψ2 78) 0) := J_22
          rw [t_, ex, hK 78 (by decide), hH]; rfl
        have j1 : k + 1 = L.length → gt (ψ_21 79) 0 = cyN (gaS H L) x (nbk L) := fun q_ => by rw [en, show nbk L = k / 16 + 1 by unfold nbk; omega]
        have j2 : k + 1 < L.length → ∀ j, j < 16 → ψ_21 79 j = if j < (k + 1) % 16 then ob (cyN (gaS H L) x ((k + 1) / 16)) j ^^^ og L (16 * ((k + 1) / 16) + j) else ob (cyN (gaS H L) x ((k + 1) / 16)) j := fun q_ j_ hj_ => by
          rw [if_neg (by omega), show (k + 1) / 16 = k / 16 + 1 by omega]
          exact gt_at0 en hj_
        exact ih (k + 1) (by omega) h_16 _ S_18 ((hK.up (by decide)).tr K_20 (by decide)) (⟨j1, j2⟩) (hF.tr (F_5.tr F_19))
set_option maxHeartbeats 1000000 in
set_option maxRecDepth 100000 in
theorem oX12_sumRow {l : Launch} {w : am_W} {h : am_H} {n : Nat} {ψ : Nat → oA} {z : fA} {i : mI} (S : MO h ψ z i) (hn : 90 ≤ n) {p : Nat} (hp : okA p = true) (hp3 : p ≠ 79 ∧ p ≠ 80 ∧ p ≠ 81) (L : List (BitVec 8)) (hL : L.length ≤ 600) (hLp : L.length ≤ mN p) (hs : sg (ψ p) 0 L) (H : bP) (hH : gt (ψ 78) 0 = H) : RH l w mX12_sumRow h n [.ref 61, .ref p, .int 0, .int (nI L.length)] (fun h2 q => ∃ ψ2, q = none ∧ MO h2 ψ2 z i ∧ FR [79, 80, 81] ψ ψ2 ∧ gt (ψ2 79) 0 = gab H L (gt (ψ 79) 0) ∧ FM h h2) := by
  refine RC.of [(0, .ref 61), (1, .ref p), (2, .int 0), (3, .int (nI L.length))] (by decide +kernel) rfl (Nat.le_of_ble_eq_true rfl) ?_
  refine R_iconst (pc := 0) (v := 0) dX12_sumRow_0 (by decide) ?_
  refine R_istore (pc := 1) (lv' := [(4, .int 0), (0, .ref 61), (1, .ref p), (2, .int 0), (3, .int (nI L.length))]) dX12_sumRow_1 (by decide) rfl ?_
  refine R_sub [0, 1, 2, 3, 4] rfl ?_
  refine qX12_sumRow_loop (h := h) (ψ := ψ) hn hp hp3 L hL hLp hs H hH (gt (ψ 79) 0) (fun h2 ψ2 S2 hK hJ hF => ?_) L.length 0 (by omega) h ψ S (FR.rf _ _) ⟨fun q_ => by rw [show nbk L = 0 by unfold nbk; omega]; rfl, fun q_ j_ hj_ => by rw [if_neg (by omega)]; show ψ 79 j_ = ob (gt (ψ 79) 0) j_; rw [ob_gt _ _ hj_, Nat.zero_add]⟩ (FM.rf h)
  exact R_vreturn (pc := 56) dX12_sumRow_56 rfl (by decide) (by decide) ⟨rfl, ψ2, rfl, S2, hK, hJ.1 rfl, hF⟩
def slF (a b : Nat) (f : oA) (k : Nat) : oA := fun j => if 8 - k ≤ j ∧ j < 8 then f j ^^^ t8 (nI (8 * a) >>> (nI (8 * (7 - j)) &&& 31)) else if 16 - k ≤ j ∧ j < 16 then f j ^^^ t8 (nI (8 * b) >>> (nI (8 * (15 - j)) &&& 31)) else f j
theorem slF_0 (a b : Nat) (f : oA) : slF a b f 0 = f := by
  funext j
  unfold slF
  rw [if_neg (by omega), if_neg (by omega)]
theorem slF_up (a b : Nat) (f : oA) {k : Nat} (hk : k < 4) {u v : BitVec 8} (hu : u = f (7 - k) ^^^ t8 (nI (8 * a) >>> (nI (8 * k) &&& 31))) (hv : v = f (15 - k) ^^^ t8 (nI (8 * b) >>> (nI (8 * k) &&& 31))) : updB (updB (slF a b f k) (7 - k) u) (15 - k) v = slF a b f (k + 1) := by
  funext j
  unfold updB slF
  by_cases h1 : j = 15 - k
  · rw [if_pos h1, if_neg (by omega), if_pos (by omega), hv, h1, show 15 - (15 - k) = k by omega]
  · rw [if_neg h1]
    by_cases h2 : j = 7 - k
    · rw [if_pos h2, if_pos (by omega), hu, h2, show 7 - (7 - k) = k by omega]
    · rw [if_neg h2]
      by_cases h3 : 8 - k ≤ j ∧ j < 8
      · rw [if_pos h3, if_pos (by omega)]
      · rw [if_neg h3, if_neg (show ¬ (8 - (k + 1) ≤ j ∧ j < 8) by omega)]
        by_cases h4 : 16 - k ≤ j ∧ j < 16
        · rw [if_pos h4, if_pos (by omega)]
        · rw [if_neg h4, if_neg (by omega)]
theorem slF_7 (a b : Nat) (f : oA) {k : Nat} (hk : k < 4) : slF a b f k (7 - k) = f (7 - k) := by
  unfold slF
  rw [if_neg (by omega), if_neg (by omega)]
theorem slF_15 (a b : Nat) (f : oA) {k : Nat} (hk : k < 4) : slF a b f k (15 - k) = f (15 - k) := by
  unfold slF
  rw [if_neg (by omega), if_neg (by omega)]
theorem sh8n : ∀ j, j < 4 → (8 : Int32) * nI j = nI (8 * j) := by decide
theorem l8_num (L : List (BitVec 8)) (hL : L.length < 2 ^ 20) : l8 L = (nI (8 * L.length)).toInt64 := by
  unfold l8
  rw [nI_l (by omega), nI_l (by omega)]
  exact (Int64.ofNat_mul 8 L.length).symm
theorem slF_gt {f : oA} {A B : List (BitVec 8)} (hA : A.length < 2 ^ 20) (hB : B.length < 2 ^ 20) : gt (slF A.length B.length f 4) 0 = xb (gt f 0) (l8 A, l8 B) := ob_ext fun k hk => by
  rw [ob_gt _ _ hk, Nat.zero_add, ob_xb _ _ hk, ob_gt _ _ hk, Nat.zero_add, l8_num A hA, l8_num B hB]
  unfold slF
  by_cases h8 : k < 8
  · rw [ob_l _ _ h8, ob_num (by omega) hk]
    by_cases h4 : 4 ≤ k
    · rw [if_pos (by omega), if_pos (by omega), sh8n _ (by omega)]
    · rw [if_neg (by omega), if_neg (by omega), if_neg (by omega)]
      simp
  · have e := ob_r (nI (8 * A.length)).toInt64 (nI (8 * B.length)).toInt64 (k := k - 8) (by omega)
    rw [show 8 + (k - 8) = k by omega] at e
    rw [e, ob_num (by omega) (by omega)]
    by_cases h4 : 12 ≤ k
    · rw [if_neg (by omega), if_pos (by omega), if_pos (by omega), sh8n _ (by omega), show 7 - (k - 8) = 15 - k by omega]
    · rw [if_neg (by omega), if_neg (by omega), if_neg (by omega)]
      simp
set_option maxHeartbeats 1000000 in
set_option maxRecDepth 100000 in
theorem qX12_sumLengths_loop {l : Launch} {w : am_W} {h : am_H} {n : Nat} {ψ : Nat → oA} {z : fA} {i : mI} (hn : 90 ≤ n) (a b : Nat) (ha : a ≤ 600) (hb : b ≤ 600) {Q : am_H → Nat → Option Value → Prop} (kk : ∀ h2 ψ2, MO h2 ψ2 z i → FR [79] ψ ψ2 → ψ2 79 = slF a b (ψ 79) 4 → FM h h2 → RW l w mX12_sumLengths h2 n 0 0 63 [(3, .int (nI 4)), (0, .ref 61), (1, .int (nI a)), (2, .int (nI b))] [] Q) : ∀ (dd k : Nat), k + dd = 4 → ∀ h2 ψ2, MO h2 ψ2 z i → FR [79] ψ ψ2 → ψ2 79 = slF a b (ψ 79) k → FM h h2 → RW l w mX12_sumLengths h2 n 0 0 2 [(3, .int (nI k)), (0, .ref 61), (1, .int (nI a)), (2, .int (nI b))] [] Q := by
  intro dd
  induction dd with
  | zero =>
    intro k hd h2 ψ2 S2 hK hJ hF
    refine R_iload_n (pc := 2) 0 dX12_sumLengths_2 rfl rfl ?_
    refine R_iconst (pc := 3) (v := 4) dX12_sumLengths_3 (by decide) ?_
    refine R_icmp_ge (pc := 4) (tgt := 63) dX12_sumLengths_4 (by decide) (fun c_1 => ?_) (fun c_1 => absurd (nI_le (a := 4) (b := k) (by omega) (by omega)) c_1)
    obtain rfl : k = 4 := by omega
    exact kk h2 ψ2 S2 hK hJ hF
  | succ dd ih =>
    intro k hd h2 ψ2 S2 hK hJ hF
    refine R_iload_n (pc := 2) 0 dX12_sumLengths_2 rfl rfl ?_
    refine R_iconst (pc := 3) (v := 4) dX12_sumLengths_3 (by decide) ?_
    refine R_icmp_ge (pc := 4) (tgt := 63) dX12_sumLengths_4 (by decide) (fun c_1 => absurd c_1 (nI_ge (a := k) (b := 4) (by omega) (by omega))) (fun c_1 => ?_)
    refine R_aload_n (pc := 7) 1 dX12_sumLengths_7 rfl rfl ?_
    refine R_get (pc := 8) dX12_sumLengths_8 fX12_65 S2.obj (by omega) rfl ?_
    refine R_bipush (pc := 11) (v := 7) dX12_sumLengths_11 (by decide) ?_
    refine R_iload_n (pc := 13) 0 dX12_sumLengths_13 rfl rfl ?_
    refine R_isub (pc := 14) dX12_sumLengths_14 ?_
    refine R_eqi (y := nI (7 - k)) (nI_sb (a := 7) (b := k) (by omega)) ?_
    refine R_dup2 (pc := 15) dX12_sumLengths_15 rfl rfl ?_
    refine R_iald' (pc := 16) (j := 7 - k) dX12_sumLengths_16 (S2.arr (p := 79) rfl) (by omega) ⟨rfl, by show 7 - k < 16; omega, by decide⟩ ?_
    refine R_eqi (y := oc (ψ2 79 (7 - k))) rfl ?_
    refine R_bipush (pc := 17) (v := 8) dX12_sumLengths_17 (by decide) ?_
    refine R_iload_n (pc := 19) 2 dX12_sumLengths_19 rfl rfl ?_
    refine R_imul (pc := 20) dX12_sumLengths_20 ?_
    refine R_eqi (y := nI (8 * a)) (nI_mul 8 a) ?_
    refine R_bipush (pc := 21) (v := 8) dX12_sumLengths_21 (by decide) ?_
    refine R_iload_n (pc := 23) 0 dX12_sumLengths_23 rfl rfl ?_
    refine R_imul (pc := 24) dX12_sumLengths_24 ?_
    refine R_eqi (y := nI (8 * k)) (nI_mul 8 k) ?_
    refine R_ishr (pc := 25) dX12_sumLengths_25 ?_
    refine R_sipush (pc := 26) (v := 255) dX12_sumLengths_26 (by decide) ?_
    refine R_iand (pc := 29) dX12_sumLengths_29 ?_
    refine R_eqi (y := oc (t8 (nI (8 * a) >>> (nI (8 * k) &&& 31)))) (oc_t8 _) ?_
    refine R_ixor (pc := 30) dX12_sumLengths_30 ?_
    refine R_eqi (y := oc ((ψ2 79 (7 - k)) ^^^ (t8 (nI (8 * a) >>> (nI (8 * k) &&& 31))))) (oc_xor _ _) ?_
    refine R_iast' (pc := 31) (j := 7 - k) dX12_sumLengths_31 (S2.arr (p := 79) rfl) (by omega) ⟨rfl, by show 7 - k < 16; omega, by decide⟩ (fun h_2 f_3 g_4 => ?_)
    have S_6 : MO h_2 (uo ψ2 79 (updB (ψ2 79) (7 - k) ((ψ2 79 (7 - k)) ^^^ (t8 (nI (8 * a) >>> (nI (8 * k) &&& 31)))))) z i := MO.setA (p := 79) S2 rfl f_3 g_4 (fun j_ => congrFun (upd_oc _ _ _) j_)
    have F_5 := fmA (p := 79) (okA_c (by decide)).1 g_4
    refine R_aload_n (pc := 32) 1 dX12_sumLengths_32 rfl rfl ?_
    refine R_get (pc := 33) dX12_sumLengths_33 fX12_65 S_6.obj (by omega) rfl ?_
    refine R_bipush (pc := 36) (v := 15) dX12_sumLengths_36 (by decide) ?_
    refine R_iload_n (pc := 38) 0 dX12_sumLengths_38 rfl rfl ?_
    refine R_isub (pc := 39) dX12_sumLengths_39 ?_
    refine R_eqi (y := nI (15 - k)) (nI_sb (a := 15) (b := k) (by omega)) ?_
    refine R_dup2 (pc := 40) dX12_sumLengths_40 rfl rfl ?_
    refine R_iald' (pc := 41) (j := 15 - k) dX12_sumLengths_41 (S_6.arr (p := 79) rfl) (by omega) ⟨rfl, by show 15 - k < 16; omega, by decide⟩ ?_
    refine R_eqi (y := oc ((updB (ψ2 79) (7 - k) ((ψ2 79 (7 - k)) ^^^ (t8 (nI (8 * a) >>> (nI (8 * k) &&& 31))))) (15 - k))) rfl ?_
    refine R_bipush (pc := 42) (v := 8) dX12_sumLengths_42 (by decide) ?_
    refine R_iload_n (pc := 44) 3 dX12_sumLengths_44 rfl rfl ?_
    refine R_imul (pc := 45) dX12_sumLengths_45 ?_
    refine R_eqi (y := nI (8 * b)) (nI_mul 8 b) ?_
    refine R_bipush (pc := 46) (v := 8) dX12_sumLengths_46 (by decide) ?_
    refine R_iload_n (pc := 48) 0 dX12_sumLengths_48 rfl rfl ?_
    refine R_imul (pc := 49) dX12_sumLengths_49 ?_
    refine R_eqi (y := nI (8 * k)) (nI_mul 8 k) ?_
    refine R_ishr (pc := 50) dX12_sumLengths_50 ?_
    refine R_sipush (pc := 51) (v := 255) dX12_sumLengths_51 (by decide) ?_
    refine R_iand (pc := 54) dX12_sumLengths_54 ?_
    refine R_eqi (y := oc (t8 (nI (8 * b) >>> (nI (8 * k) &&& 31)))) (oc_t8 _) ?_
    refine R_ixor (pc := 55) dX12_sumLengths_55 ?_
    refine R_eqi (y := oc (((updB (ψ2 79) (7 - k) ((ψ2 79 (7 - k)) ^^^ (t8 (nI (8 * a) >>> (nI (8 * k) &&& 31))))) (15 - k)) ^^^ (t8 (nI (8 * b) >>> (nI (8 * k) &&& 31))))) (oc_xor _ _) ?_
    refine R_iast' (pc := 56) (j := 15 - k) dX12_sumLengths_56 (S_6.arr (p := 79) rfl) (by omega) ⟨rfl, by show 15 - k < 16; omega, by decide⟩ (fun h_7 f_8 g_9 => ?_)
    have S_11 : MO h_7 (uo ψ2 79 (updB (updB (ψ2 79) (7 - k) ((ψ2 79 (7 - k)) ^^^ (t8 (nI (8 * a) >>> (nI (8 * k) &&& 31))))) (15 - k) (((updB (ψ2 79) (7 - k) ((ψ2 79 (7 - k)) ^^^ (t8 (nI (8 * a) >>> (nI (8 * k) &&& 31))))) (15 - k)) ^^^ (t8 (nI (8 * b) >>> (nI (8 * k) &&& 31)))))) z i := by have z_ := MO.setA (p := 79) S_6 rfl f_8 g_9 (fun j_ => congrFun (upd_oc _ _ _) j_); rw [uo_uo] at z_; exact z_
    have F_10 := fmA (p := 79) (okA_c (by decide)).1 g_9
    refine R_iinc (pc := 57) (j := 0) (v := nI (k + 1)) (lv' := [(3, .int (nI (k + 1))), (0, .ref 61), (1, .int (nI a)), (2, .int (nI b))]) dX12_sumLengths_57 rfl (nI_add _ _) (by decide) rfl ?_
    refine R_goto (pc := 60) (tgt := 2) dX12_sumLengths_60 (by decide) ?_
    refine R_sub [0, 1, 2, 3] rfl ?_
    have j1 : updB (updB (ψ2 79) (7 - k) ((ψ2 79 (7 - k)) ^^^ (t8 (nI (8 * a) >>> (nI (8 * k) &&& 31))))) (15 - k) (((updB (ψ2 79) (7 - k) ((ψ2 79 (7 - k)) ^^^ (t8 (nI (8 * a) >>> (nI (8 * k) &&& 31))))) (15 - k)) ^^^ (t8 (nI (8 * b) >>> (nI (8 * k) &&& 31)))) = slF a b (ψ 79) (k + 1) := by rw [hJ]; exact slF_up a b _ (by omega) (by rw [slF_7 _ _ _ (by omega)]) (by rw [updB_n (by omega), slF_15 _ _ _ (by omega)])
    exact ih (k + 1) (by omega) h_7 _ S_11 (hK.up (by decide)) (j1) (hF.tr (F_5.tr F_10))
set_option maxHeartbeats 1000000 in
set_option maxRecDepth 100000 in
theorem oX12_sumLengths {l : Launch} {w : am_W} {h : am_H} {n : Nat} {ψ : Nat → oA} {z : fA} {i : mI} (S : MO h ψ z i) (hn : 90 ≤ n) (a b : Nat) (ha : a ≤ 600) (hb : b ≤ 600) : RH l w mX12_sumLengths h n [.ref 61, .int (nI a), .int (nI b)] (fun h2 q => ∃ ψ2, q = none ∧ MO h2 ψ2 z i ∧ FR [79, 80, 81] ψ ψ2 ∧ gt (ψ2 79) 0 = gmu (gt (slF a b (ψ 79) 4) 0) (gt (ψ 78) 0) ∧ FM h h2) := by
  refine RC.of [(0, .ref 61), (1, .int (nI a)), (2, .int (nI b))] (by decide +kernel) rfl (Nat.le_of_ble_eq_true rfl) ?_
  refine R_iconst (pc := 0) (v := 0) dX12_sumLengths_0 (by decide) ?_
  refine R_istore_n (pc := 1) (lv' := [(3, .int 0), (0, .ref 61), (1, .int (nI a)), (2, .int (nI b))]) dX12_sumLengths_1 rfl (by decide) rfl ?_
  refine R_sub [0, 1, 2, 3] rfl ?_
  refine qX12_sumLengths_loop (h := h) (ψ := ψ) hn a b ha hb (fun h2 ψ2 S2 hK hJ hF => ?_) 4 0 (by omega) h ψ S (FR.rf _ _) (slF_0 _ _ _).symm (FM.rf h)
  refine R_aload_n (pc := 63) 1 dX12_sumLengths_63 rfl rfl ?_
  refine R_callVh (pc := 64) (μ' := mX12_timesH) (As := []) (st := []) dX12_sumLengths_64 zX12_timesH lX12_189 ⟨by decide, by decide⟩ rfl rfl ⟨by decide, by decide⟩ S2.obj (by omega) rfl (Nat.le_of_ble_eq_true rfl) (oX12_timesH S2 hn) (fun h_1 r_ q_2 => ?_)
  obtain ⟨ψ_6, rfl, S_3, K_5, J_7, F_4⟩ := q_2
  have t_ : gt (ψ_6 79) 0 = gmu (gt (slF a b (ψ 79) 4) 0) (gt (ψ 78) 0) := by have z_ := J_7; rw [hJ, hK 78 (by decide)] at z_; exact z_
  exact R_vreturn (pc := 67) dX12_sumLengths_67 rfl (by decide) (by decide) ⟨rfl, _, rfl, S_3, (((FR.rf [79, 80, 81] _).tr hK (by decide)).tr K_5 (by decide)), t_, (hF.tr F_4)⟩
