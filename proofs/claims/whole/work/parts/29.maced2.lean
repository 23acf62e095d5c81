def v0 (F : bP → bP) : bP := macV F (pdd 4 [t8 0])
def vst (F : bP → bP) (A : List (BitVec 8)) (d : bP) : bP := if nI A.length ≤ 0 then d else xb (dbl d) (macV F A)
/-- MADE's V -/
def mdV (F : bP → bP) (A st P : List (BitVec 8)) : bP := macV F (layE P (vst F st (vst F A (v0 F))))
set_option maxHeartbeats 4000000 in
set_option maxRecDepth 100000 in
theorem qX4_makeV {l : Launch} {w : am_W} {h : am_H} {n : Nat} {ρ : Nat → List (BitVec 8)} {β : Nat → bP} {κ : Nat → kT} {τ : Nat × Nat × Nat} (S : Sys h ρ β κ τ) (hn : 60 ≤ n) {t : Nat} (ht : isRw t = true) (ht24 : t ≠ 24) (hk : kOk (κ 16)) (hr : (ρ t).length ≤ 528) : RH l w mX4_makeV h n [.ref 47, .ref t] (SX h τ none (ur ρ 24 (layE (ρ t) (vst (eK (κ 16)) (ρ 6) (vst (eK (κ 16)) (ρ 8) (v0 (eK (κ 16))))))) (ub β 50 (mdV (eK (κ 16)) (ρ 8) (ρ 6) (ρ t))) κ [48, 49]) := by
  refine RC.of [(0, .ref 47), (1, .ref t)] (by decide +kernel) rfl (Nat.le_of_ble_eq_true rfl) ?_
  have hlt := S.len t ht
  have htc := rw_cases ht
  have hnb := nbk_b (ρ t)
  have hl6 := S.len 6 rfl
  have hl8 := S.len 8 rfl
  have hm_ : mdV (eK (κ 16)) (ρ 8) (ρ 6) (ρ t) = macV (eK (κ 16)) (layE (ρ t) (vst (eK (κ 16)) (ρ 6) (vst (eK (κ 16)) (ρ 8) (v0 (eK (κ 16)))))) := rfl
  rw [hm_]
  generalize hD0 : v0 (eK (κ 16)) = D0
  refine R_aload_n (pc := 0) 0 dX4_makeV_0 rfl rfl ?_
  refine R_get (pc := 1) dX4_makeV_1 fX4_27 S.2.2.2.2.2.2.2.2.1 (by omega) rfl ?_
  refine R_iconst (pc := 4) (v := 0) dX4_makeV_4 (by decide) ?_
  refine R_callVh (pc := 5) (μ' := mX6_keep) (As := [.int (nI 0)]) (st := []) dX4_makeV_5 zX6_keep lX4_97 ⟨by decide, by decide⟩ rfl rfl ⟨by decide, by decide⟩ (S.rowO 24 rfl) (by omega) rfl (Nat.le_of_ble_eq_true rfl) (S_keep S hn rfl 0 (by omega)) (fun h_1 r_ q_2 => ?_)
  obtain ⟨rfl, S_3, F_5⟩ := q_2
  have S_4 : Sys h_1 (ur ρ 24 ((ρ 24).take 0)) β κ τ := by have z_ := S_3; (try simp only [ur_s, ur_ur, ur_n (x := t) (r := 24) ht24, ur_n (x := 2) (r := 24) (by decide), ur_n (x := 4) (r := 24) (by decide), ur_n (x := 6) (r := 24) (by decide), ur_n (x := 8) (r := 24) (by decide)] at z_); exact z_
  refine R_aload_n (pc := 8) 0 dX4_makeV_8 rfl rfl ?_
  refine R_get (pc := 9) dX4_makeV_9 fX4_27 S_4.2.2.2.2.2.2.2.2.1 (by omega) rfl ?_
  refine R_iconst (pc := 12) (v := 0) dX4_makeV_12 (by decide) ?_
  refine R_callVh (pc := 13) (μ' := mX6_append) (As := [.int 0]) (st := []) dX4_makeV_13 zX6_append lX4_101 ⟨by decide, by decide⟩ rfl rfl ⟨by decide, by decide⟩ (S_4.rowO 24 rfl) (by omega) rfl (Nat.le_of_ble_eq_true rfl) (S_append S_4 hn rfl _ (by simp only [ur_s, List.take_zero, List.length_nil]; decide)) (fun h_6 r_ q_7 => ?_)
  obtain ⟨rfl, S_8, F_10⟩ := q_7
  have S_9 : Sys h_6 (ur ρ 24 (((ρ 24).take 0) ++ [t8 0])) β κ τ := by have z_ := S_8; (try simp only [ur_s, ur_ur, ur_n (x := t) (r := 24) ht24, ur_n (x := 2) (r := 24) (by decide), ur_n (x := 4) (r := 24) (by decide), ur_n (x := 6) (r := 24) (by decide), ur_n (x := 8) (r := 24) (by decide)] at z_); exact z_
  rw [List.take_zero, List.nil_append] at S_9
  refine R_aload_n (pc := 16) 0 dX4_makeV_16 rfl rfl ?_
  refine R_get (pc := 17) dX4_makeV_17 fX4_27 S_9.2.2.2.2.2.2.2.2.1 (by omega) rfl ?_
  refine R_bipush (pc := 20) (v := 16) dX4_makeV_20 (by decide) ?_
  refine R_callVh (pc := 22) (μ' := mX6_padTo) (As := [.int (nI (2 ^ 4))]) (st := []) dX4_makeV_22 zX6_padTo lX4_108 ⟨by decide, by decide⟩ rfl rfl ⟨by decide, by decide⟩ (S_9.rowO 24 rfl) (by omega) rfl (Nat.le_of_ble_eq_true rfl) (S_padTo S_9 hn rfl 4 (by omega) (by simp only [ur_s]; decide)) (fun h_11 r_ q_12 => ?_)
  obtain ⟨rfl, S_13, F_15⟩ := q_12
  have S_14 : Sys h_11 (ur ρ 24 (pdd 4 ([t8 0]))) β κ τ := by have z_ := S_13; (try simp only [ur_s, ur_ur, ur_n (x := t) (r := 24) ht24, ur_n (x := 2) (r := 24) (by decide), ur_n (x := 4) (r := 24) (by decide), ur_n (x := 6) (r := 24) (by decide), ur_n (x := 8) (r := 24) (by decide)] at z_); exact z_
  obtain ⟨Z, hZ⟩ : ∃ Z, Z = pdd 4 [t8 0] := ⟨_, rfl⟩
  have hD : macV (eK (κ 16)) Z = D0 := by rw [hZ]; exact hD0
  rw [← hZ] at S_14
  refine R_aload_n (pc := 25) 0 dX4_makeV_25 rfl rfl ?_
  refine R_aload_n (pc := 26) 0 dX4_makeV_26 rfl rfl ?_
  refine R_get (pc := 27) dX4_makeV_27 fX4_27 S_14.2.2.2.2.2.2.2.2.1 (by omega) rfl ?_
  refine R_aload_n (pc := 30) 0 dX4_makeV_30 rfl rfl ?_
  refine R_get (pc := 31) dX4_makeV_31 fX4_37 S_14.2.2.2.2.2.2.2.2.1 (by omega) rfl ?_
  refine R_callVh (pc := 34) (μ' := mX4_mac) (As := [.ref 24, .ref 49]) (st := []) dX4_makeV_34 zX4_mac lX4_115 ⟨by decide, by decide⟩ rfl rfl ⟨by decide, by decide⟩ S_14.2.2.2.2.2.2.2.2.1 (by omega) rfl (Nat.le_of_ble_eq_true rfl) (qX4_mac_49 S_14 hn rfl hk) (fun h_16 r_ q_17 => ?_)
  obtain ⟨β_21, B_22, rfl, S_18, F_20⟩ := q_17
  have S_19 : Sys h_16 (ur ρ 24 Z) β_21 κ τ := S_18
  have S_23 : Sys h_16 (ur ρ 24 Z) (ub β_21 49 (macV (eK (κ 16)) (Z))) κ τ := Sys.know S_19 ((B_22 49 (by decide)).trans (by first | (simp only [ub, Nat.reduceEqDiff, ↓reduceIte, ur_s, ur_ur, ur_n (x := t) (r := 24) ht24, ur_n (x := 2) (r := 24) (by decide), ur_n (x := 4) (r := 24) (by decide), ur_n (x := 6) (r := 24) (by decide), ur_n (x := 8) (r := 24) (by decide)]; done) | (simp only [ub, Nat.reduceEqDiff, ↓reduceIte, ur_s, ur_ur, ur_n (x := t) (r := 24) ht24, ur_n (x := 2) (r := 24) (by decide), ur_n (x := 4) (r := 24) (by decide), ur_n (x := 6) (r := 24) (by decide), ur_n (x := 8) (r := 24) (by decide)]; rfl) | rfl))
  rw [hD] at S_23
  refine R_aload_n (pc := 37) 0 dX4_makeV_37 rfl rfl ?_
  refine R_get (pc := 38) dX4_makeV_38 fX4_24 S_23.2.2.2.2.2.2.2.2.1 (by omega) rfl ?_
  skip
  refine R_get (pc := 41) dX4_makeV_41 fX4_47 (S_23.rowO 8 rfl) (by omega) rfl ?_
  refine R_eqi (y := nI (ρ 8).length) (by first | rfl | (simp only [ur_s, ur_ur, ur_n (x := t) (r := 24) ht24, ur_n (x := 2) (r := 24) (by decide), ur_n (x := 4) (r := 24) (by decide), ur_n (x := 6) (r := 24) (by decide), ur_n (x := 8) (r := 24) (by decide)])) ?_
  refine R_if_le (pc := 44) (tgt := 77) dX4_makeV_44 (by decide) (fun c_24 => ?_) (fun c_24 => ?_)
  · skip
    have S_26 : Sys h_16 (ur ρ 24 Z) (ub (ub β_21 49 D0) 49 (vst (eK (κ 16)) (ρ 8) D0)) κ τ := Sys.know S_23 (show D0 = vst (eK (κ 16)) (ρ 8) D0 from (show vst (eK (κ 16)) (ρ 8) D0 = D0 from if_pos c_24).symm)
    refine R_aload_n (pc := 77) 0 dX4_makeV_77 rfl rfl ?_
    refine R_get (pc := 78) dX4_makeV_78 fX4_20 S_26.2.2.2.2.2.2.2.2.1 (by omega) rfl ?_
    skip
    refine R_get (pc := 81) dX4_makeV_81 fX4_47 (S_26.rowO 6 rfl) (by omega) rfl ?_
    refine R_eqi (y := nI (ρ 6).length) (by first | rfl | (simp only [ur_s, ur_ur, ur_n (x := t) (r := 24) ht24, ur_n (x := 2) (r := 24) (by decide), ur_n (x := 4) (r := 24) (by decide), ur_n (x := 6) (r := 24) (by decide), ur_n (x := 8) (r := 24) (by decide)])) ?_
    refine R_if_le (pc := 84) (tgt := 117) dX4_makeV_84 (by decide) (fun c_27 => ?_) (fun c_27 => ?_)
    · skip
      have S_28 : Sys h_16 (ur ρ 24 Z) (ub (ub (ub β_21 49 D0) 49 (vst (eK (κ 16)) (ρ 8) D0)) 49 (vst (eK (κ 16)) (ρ 6) (vst (eK (κ 16)) (ρ 8) D0))) κ τ := Sys.know S_26 (show vst (eK (κ 16)) (ρ 8) D0 = vst (eK (κ 16)) (ρ 6) (vst (eK (κ 16)) (ρ 8) D0) from (show vst (eK (κ 16)) (ρ 6) (vst (eK (κ 16)) (ρ 8) D0) = vst (eK (κ 16)) (ρ 8) D0 from if_pos c_27).symm)
      refine R_aload_n (pc := 117) 0 dX4_makeV_117 rfl rfl ?_
      refine R_get (pc := 118) dX4_makeV_118 fX4_27 S_28.2.2.2.2.2.2.2.2.1 (by omega) rfl ?_
      refine R_aload_n (pc := 121) 1 dX4_makeV_121 rfl rfl ?_
      refine R_iconst (pc := 122) (v := 0) dX4_makeV_122 (by decide) ?_
      refine R_aload_n (pc := 123) 1 dX4_makeV_123 rfl rfl ?_
      have := rw_cases (r := t) ht
      refine R_get (pc := 124) dX4_makeV_124 fX4_47 (S_28.rowO t ht) (by omega) rfl ?_
      refine R_eqi (y := nI (ρ t).length) (by first | rfl | (simp only [ur_s, ur_ur, ur_n (x := t) (r := 24) ht24, ur_n (x := 2) (r := 24) (by decide), ur_n (x := 4) (r := 24) (by decide), ur_n (x := 6) (r := 24) (by decide), ur_n (x := 8) (r := 24) (by decide)])) ?_
      refine R_eqi (y := nI (0 + (ρ t).length)) (by rw [Nat.zero_add]) ?_
      refine R_callVh (pc := 127) (μ' := mX6_copyPart) (As := [.ref t, .int (nI 0), .int (nI (0 + (ρ t).length))]) (st := []) dX4_makeV_127 zX6_copyPart lX4_142 ⟨by decide, by decide⟩ rfl rfl ⟨by decide, by decide⟩ (S_28.rowO 24 rfl) (by omega) rfl (Nat.le_of_ble_eq_true rfl) (S_copyPart S_28 hn rfl ht ht24 0 ((ρ t).length) (show _ ≤ 800 by omega) (by omega)) (fun h_29 r_ q_30 => ?_)
      obtain ⟨rfl, S_31, F_33⟩ := q_30
      have S_32 : Sys h_29 (ur ρ 24 (sl (ρ t) 0 ((ρ t).length))) (ub (ub (ub β_21 49 D0) 49 (vst (eK (κ 16)) (ρ 8) D0)) 49 (vst (eK (κ 16)) (ρ 6) (vst (eK (κ 16)) (ρ 8) D0))) κ τ := by have z_ := S_31; (try simp only [ur_s, ur_ur, ur_n (x := t) (r := 24) ht24, ur_n (x := 2) (r := 24) (by decide), ur_n (x := 4) (r := 24) (by decide), ur_n (x := 6) (r := 24) (by decide), ur_n (x := 8) (r := 24) (by decide)] at z_); exact z_
      rw [sl_all] at S_32
      refine R_aload_n (pc := 130) 0 dX4_makeV_130 rfl rfl ?_
      refine R_aload_n (pc := 131) 1 dX4_makeV_131 rfl rfl ?_
      have := rw_cases (r := t) ht
      refine R_get (pc := 132) dX4_makeV_132 fX4_47 (S_32.rowO t ht) (by omega) rfl ?_
      refine R_eqi (y := nI (ρ t).length) (by first | rfl | (simp only [ur_s, ur_ur, ur_n (x := t) (r := 24) ht24, ur_n (x := 2) (r := 24) (by decide), ur_n (x := 4) (r := 24) (by decide), ur_n (x := 6) (r := 24) (by decide), ur_n (x := 8) (r := 24) (by decide)])) ?_
      refine R_eqi (y := nI (ur ρ 24 (ρ t) 24).length) (by rw [ur_s]) ?_
      refine R_callVh (pc := 135) (μ' := mX4_layEnd) (As := [.int (nI (ur ρ 24 (ρ t) 24).length)]) (st := []) dX4_makeV_135 zX4_layEnd lX4_145 ⟨by decide, by decide⟩ rfl rfl ⟨by decide, by decide⟩ S_32.2.2.2.2.2.2.2.2.1 (by omega) rfl (Nat.le_of_ble_eq_true rfl) (qX4_layEnd S_32 hn (by rw [ur_s]; omega)) (fun h_34 r_ q_35 => ?_)
      obtain ⟨β_39, B_40, rfl, S_36, F_38⟩ := q_35
      have S_37 : Sys h_34 (ur ρ 24 (layE (ρ t) (vst (eK (κ 16)) (ρ 6) (vst (eK (κ 16)) (ρ 8) D0)))) β_39 κ τ := by have z_ := S_36; (try simp only [ub, Nat.reduceEqDiff, ↓reduceIte, ur_s, ur_ur, ur_n (x := t) (r := 24) ht24, ur_n (x := 2) (r := 24) (by decide), ur_n (x := 4) (r := 24) (by decide), ur_n (x := 6) (r := 24) (by decide), ur_n (x := 8) (r := 24) (by decide)] at z_); exact z_
      refine R_aload_n (pc := 138) 0 dX4_makeV_138 rfl rfl ?_
      refine R_aload_n (pc := 139) 0 dX4_makeV_139 rfl rfl ?_
      refine R_get (pc := 140) dX4_makeV_140 fX4_27 S_37.2.2.2.2.2.2.2.2.1 (by omega) rfl ?_
      refine R_aload_n (pc := 143) 0 dX4_makeV_143 rfl rfl ?_
      refine R_get (pc := 144) dX4_makeV_144 fX4_40 S_37.2.2.2.2.2.2.2.2.1 (by omega) rfl ?_
      refine R_callVh (pc := 147) (μ' := mX4_mac) (As := [.ref 24, .ref 50]) (st := []) dX4_makeV_147 zX4_mac lX4_115 ⟨by decide, by decide⟩ rfl rfl ⟨by decide, by decide⟩ S_37.2.2.2.2.2.2.2.2.1 (by omega) rfl (Nat.le_of_ble_eq_true rfl) (qX4_mac_50 S_37 hn rfl hk) (fun h_41 r_ q_42 => ?_)
      obtain ⟨β_46, B_47, rfl, S_43, F_45⟩ := q_42
      have S_44 : Sys h_41 (ur ρ 24 (layE (ρ t) (vst (eK (κ 16)) (ρ 6) (vst (eK (κ 16)) (ρ 8) D0)))) β_46 κ τ := S_43
      have S_48 : Sys h_41 (ur ρ 24 (layE (ρ t) (vst (eK (κ 16)) (ρ 6) (vst (eK (κ 16)) (ρ 8) D0)))) (ub β_46 50 (macV (eK (κ 16)) (layE (ρ t) (vst (eK (κ 16)) (ρ 6) (vst (eK (κ 16)) (ρ 8) D0))))) κ τ := Sys.know S_44 ((B_47 50 (by decide)).trans (by first | (simp only [ub, Nat.reduceEqDiff, ↓reduceIte, ur_s, ur_ur, ur_n (x := t) (r := 24) ht24, ur_n (x := 2) (r := 24) (by decide), ur_n (x := 4) (r := 24) (by decide), ur_n (x := 6) (r := 24) (by decide), ur_n (x := 8) (r := 24) (by decide)]; done) | (simp only [ub, Nat.reduceEqDiff, ↓reduceIte, ur_s, ur_ur, ur_n (x := t) (r := 24) ht24, ur_n (x := 2) (r := 24) (by decide), ur_n (x := 4) (r := 24) (by decide), ur_n (x := 6) (r := 24) (by decide), ur_n (x := 8) (r := 24) (by decide)]; rfl) | rfl))
      refine R_vreturn (pc := 150) dX4_makeV_150 rfl (by decide) (by decide) ⟨rfl, (ub β_46 50 (macV (eK (κ 16)) (layE (ρ t) (vst (eK (κ 16)) (ρ 6) (vst (eK (κ 16)) (ρ 8) D0))))), ?_, rfl, S_48, ((((((F_5.tr F_10).tr F_15).tr F_20).tr F_33).tr F_38).tr F_45)⟩
      intro a_ n_
      simp only [List.mem_cons, List.not_mem_nil, or_false, not_or] at n_
      by_cases e0_ : a_ = 50
      · subst e0_; first | rfl | (simp only [ub_s]; done) | (simp (config := { decide := true }) only [ub, if_true, if_false, reduceIte]; first | rfl | skip)
      (try simp only [ub, if_neg, if_false, n_, e0_])
      (try simp only [ub_k])
      (try rw [B_47 a_ (by simp [n_, e0_])])
      (try simp only [ub, if_neg, if_false, n_, e0_])
      (try simp only [ub_k])
      (try rw [B_40 a_ (by simp [n_, e0_])])
      (try simp only [ub, if_neg, if_false, n_, e0_])
      (try simp only [ub_k])
      (try rw [B_22 a_ (by simp [n_, e0_])])
      (try simp only [ub, if_neg, if_false, n_, e0_])
      (try simp only [ub_k])
    · skip
      refine R_aload_n (pc := 87) 0 dX4_makeV_87 rfl rfl ?_
      refine R_aload_n (pc := 88) 0 dX4_makeV_88 rfl rfl ?_
      refine R_get (pc := 89) dX4_makeV_89 fX4_20 S_26.2.2.2.2.2.2.2.2.1 (by omega) rfl ?_
      refine R_aload_n (pc := 92) 0 dX4_makeV_92 rfl rfl ?_
      refine R_get (pc := 93) dX4_makeV_93 fX4_40 S_26.2.2.2.2.2.2.2.2.1 (by omega) rfl ?_
      refine R_callVh (pc := 96) (μ' := mX4_mac) (As := [.ref 6, .ref 50]) (st := []) dX4_makeV_96 zX4_mac lX4_115 ⟨by decide, by decide⟩ rfl rfl ⟨by decide, by decide⟩ S_26.2.2.2.2.2.2.2.2.1 (by omega) rfl (Nat.le_of_ble_eq_true rfl) (qX4_mac_50 S_26 hn rfl hk) (fun h_49 r_ q_50 => ?_)
      obtain ⟨β_54, B_55, rfl, S_51, F_53⟩ := q_50
      have S_52 : Sys h_49 (ur ρ 24 Z) β_54 κ τ := S_51
      have S_56 : Sys h_49 (ur ρ 24 Z) (ub β_54 49 (vst (eK (κ 16)) (ρ 8) D0)) κ τ := Sys.know S_52 ((B_55 49 (by decide)).trans (by first | (simp only [ub, Nat.reduceEqDiff, ↓reduceIte, ur_s, ur_ur, ur_n (x := t) (r := 24) ht24, ur_n (x := 2) (r := 24) (by decide), ur_n (x := 4) (r := 24) (by decide), ur_n (x := 6) (r := 24) (by decide), ur_n (x := 8) (r := 24) (by decide)]; done) | (simp only [ub, Nat.reduceEqDiff, ↓reduceIte, ur_s, ur_ur, ur_n (x := t) (r := 24) ht24, ur_n (x := 2) (r := 24) (by decide), ur_n (x := 4) (r := 24) (by decide), ur_n (x := 6) (r := 24) (by decide), ur_n (x := 8) (r := 24) (by decide)]; rfl) | rfl))
      have S_57 : Sys h_49 (ur ρ 24 Z) (ub (ub β_54 49 (vst (eK (κ 16)) (ρ 8) D0)) 50 (macV (eK (κ 16)) (ρ 6))) κ τ := Sys.know S_56 ((B_55 50 (by decide)).trans (by first | (simp only [ub, Nat.reduceEqDiff, ↓reduceIte, ur_s, ur_ur, ur_n (x := t) (r := 24) ht24, ur_n (x := 2) (r := 24) (by decide), ur_n (x := 4) (r := 24) (by decide), ur_n (x := 6) (r := 24) (by decide), ur_n (x := 8) (r := 24) (by decide)]; done) | (simp only [ub, Nat.reduceEqDiff, ↓reduceIte, ur_s, ur_ur, ur_n (x := t) (r := 24) ht24, ur_n (x := 2) (r := 24) (by decide), ur_n (x := 4) (r := 24) (by decide), ur_n (x := 6) (r := 24) (by decide), ur_n (x := 8) (r := 24) (by decide)]; rfl) | rfl))
      refine R_aload_n (pc := 99) 0 dX4_makeV_99 rfl rfl ?_
      refine R_get (pc := 100) dX4_makeV_100 fX4_37 S_57.2.2.2.2.2.2.2.2.1 (by omega) rfl ?_
      refine R_callVh (pc := 103) (μ' := mX0_makeDouble) (As := []) (st := []) dX4_makeV_103 zX0_makeDouble lX4_63 ⟨by decide, by decide⟩ rfl rfl ⟨by decide, by decide⟩ (S_57.blk 49 rfl) (by omega) rfl (Nat.le_of_ble_eq_true rfl) (S_makeDouble S_57 hn rfl) (fun h_58 r_ q_59 => ?_)
      obtain ⟨rfl, S_60, F_62⟩ := q_59
      have S_61 : Sys h_58 (ur ρ 24 Z) (ub (ub (ub β_54 49 (vst (eK (κ 16)) (ρ 8) D0)) 50 (macV (eK (κ 16)) (ρ 6))) 49 (dbl (vst (eK (κ 16)) (ρ 8) D0))) κ τ := S_60
      refine R_aload_n (pc := 106) 0 dX4_makeV_106 rfl rfl ?_
      refine R_get (pc := 107) dX4_makeV_107 fX4_37 S_61.2.2.2.2.2.2.2.2.1 (by omega) rfl ?_
      refine R_aload_n (pc := 110) 0 dX4_makeV_110 rfl rfl ?_
      refine R_get (pc := 111) dX4_makeV_111 fX4_40 S_61.2.2.2.2.2.2.2.2.1 (by omega) rfl ?_
      refine R_callVh (pc := 114) (μ' := mX0_add) (As := [.ref 50]) (st := []) dX4_makeV_114 zX0_add lX4_70 ⟨by decide, by decide⟩ rfl rfl ⟨by decide, by decide⟩ (S_61.blk 49 rfl) (by omega) rfl (Nat.le_of_ble_eq_true rfl) (S_add S_61 hn rfl rfl (by decide)) (fun h_63 r_ q_64 => ?_)
      obtain ⟨rfl, S_65, F_67⟩ := q_64
      have S_66 : Sys h_63 (ur ρ 24 Z) (ub (ub (ub (ub β_54 49 (vst (eK (κ 16)) (ρ 8) D0)) 50 (macV (eK (κ 16)) (ρ 6))) 49 (dbl (vst (eK (κ 16)) (ρ 8) D0))) 49 (xb (dbl (vst (eK (κ 16)) (ρ 8) D0)) (macV (eK (κ 16)) (ρ 6)))) κ τ := S_65
      have S_68 : Sys h_63 (ur ρ 24 Z) (ub (ub (ub (ub (ub β_54 49 (vst (eK (κ 16)) (ρ 8) D0)) 50 (macV (eK (κ 16)) (ρ 6))) 49 (dbl (vst (eK (κ 16)) (ρ 8) D0))) 49 (xb (dbl (vst (eK (κ 16)) (ρ 8) D0)) (macV (eK (κ 16)) (ρ 6)))) 49 (vst (eK (κ 16)) (ρ 6) (vst (eK (κ 16)) (ρ 8) D0))) κ τ := Sys.know S_66 (show xb (dbl (vst (eK (κ 16)) (ρ 8) D0)) (macV (eK (κ 16)) (ρ 6)) = vst (eK (κ 16)) (ρ 6) (vst (eK (κ 16)) (ρ 8) D0) from (show vst (eK (κ 16)) (ρ 6) (vst (eK (κ 16)) (ρ 8) D0) = xb (dbl (vst (eK (κ 16)) (ρ 8) D0)) (macV (eK (κ 16)) (ρ 6)) from if_neg c_27).symm)
      refine R_aload_n (pc := 117) 0 dX4_makeV_117 rfl rfl ?_
      refine R_get (pc := 118) dX4_makeV_118 fX4_27 S_68.2.2.2.2.2.2.2.2.1 (by omega) rfl ?_
      refine R_aload_n (pc := 121) 1 dX4_makeV_121 rfl rfl ?_
      refine R_iconst (pc := 122) (v := 0) dX4_makeV_122 (by decide) ?_
      refine R_aload_n (pc := 123) 1 dX4_makeV_123 rfl rfl ?_
      have := rw_cases (r := t) ht
      refine R_get (pc := 124) dX4_makeV_124 fX4_47 (S_68.rowO t ht) (by omega) rfl ?_
      refine R_eqi (y := nI (ρ t).length) (by first | rfl | (simp only [ur_s, ur_ur, ur_n (x := t) (r := 24) ht24, ur_n (x := 2) (r := 24) (by decide), ur_n (x := 4) (r := 24) (by decide), ur_n (x := 6) (r := 24) (by decide), ur_n (x := 8) (r := 24) (by decide)])) ?_
      refine R_eqi (y := nI (0 + (ρ t).length)) (by rw [Nat.zero_add]) ?_
      refine R_callVh (pc := 127) (μ' := mX6_copyPart) (As := [.ref t, .int (nI 0), .int (nI (0 + (ρ t).length))]) (st := []) dX4_makeV_127 zX6_copyPart lX4_142 ⟨by decide, by decide⟩ rfl rfl ⟨by decide, by decide⟩ (S_68.rowO 24 rfl) (by omega) rfl (Nat.le_of_ble_eq_true rfl) (S_copyPart S_68 hn rfl ht ht24 0 ((ρ t).length) (show _ ≤ 800 by omega) (by omega)) (fun h_69 r_ q_70 => ?_)
      obtain ⟨rfl, S_71, F_73⟩ := q_70
      have S_72 : Sys h_69 (ur ρ 24 (sl (ρ t) 0 ((ρ t).length))) (ub (ub (ub (ub (ub β_54 49 (vst (eK (κ 16)) (ρ 8) D0)) 50 (macV (eK (κ 16)) (ρ 6))) 49 (dbl (vst (eK (κ 16)) (ρ 8) D0))) 49 (xb (dbl (vst (eK (κ 16)) (ρ 8) D0)) (macV (eK (κ 16)) (ρ 6)))) 49 (vst (eK (κ 16)) (ρ 6) (vst (eK (κ 16)) (ρ 8) D0))) κ τ := by have z_ := S_71; (try simp only [ur_s, ur_ur, ur_n (x := t) (r := 24) ht24, ur_n (x := 2) (r := 24) (by decide), ur_n (x := 4) (r := 24) (by decide), ur_n (x := 6) (r := 24) (by decide), ur_n (x := 8) (r := 24) (by decide)] at z_); exact z_
      rw [sl_all] at S_72
      refine R_aload_n (pc := 130) 0 dX4_makeV_130 rfl rfl ?_
      refine R_aload_n (pc := 131) 1 dX4_makeV_131 rfl rfl ?_
      have := rw_cases (r := t) ht
      refine R_get (pc := 132) dX4_makeV_132 fX4_47 (S_72.rowO t ht) (by omega) rfl ?_
      refine R_eqi (y := nI (ρ t).length) (by first | rfl | (simp only [ur_s, ur_ur, ur_n (x := t) (r := 24) ht24, ur_n (x := 2) (r := 24) (by decide), ur_n (x := 4) (r := 24) (by decide), ur_n (x := 6) (r := 24) (by decide), ur_n (x := 8) (r := 24) (by decide)])) ?_
      refine R_eqi (y := nI (ur ρ 24 (ρ t) 24).length) (by rw [ur_s]) ?_
      refine R_callVh (pc := 135) (μ' := mX4_layEnd) (As := [.int (nI (ur ρ 24 (ρ t) 24).length)]) (st := []) dX4_makeV_135 zX4_layEnd lX4_145 ⟨by decide, by decide⟩ rfl rfl ⟨by decide, by decide⟩ S_72.2.2.2.2.2.2.2.2.1 (by omega) rfl (Nat.le_of_ble_eq_true rfl) (qX4_layEnd S_72 hn (by rw [ur_s]; omega)) (fun h_74 r_ q_75 => ?_)
      obtain ⟨β_79, B_80, rfl, S_76, F_78⟩ := q_75
      have S_77 : Sys h_74 (ur ρ 24 (layE (ρ t) (vst (eK (κ 16)) (ρ 6) (vst (eK (κ 16)) (ρ 8) D0)))) β_79 κ τ := by have z_ := S_76; (try simp only [ub, Nat.reduceEqDiff, ↓reduceIte, ur_s, ur_ur, ur_n (x := t) (r := 24) ht24, ur_n (x := 2) (r := 24) (by decide), ur_n (x := 4) (r := 24) (by decide), ur_n (x := 6) (r := 24) (by decide), ur_n (x := 8) (r := 24) (by decide)] at z_); exact z_
      refine R_aload_n (pc := 138) 0 dX4_makeV_138 rfl rfl ?_
      refine R_aload_n (pc := 139) 0 dX4_makeV_139 rfl rfl ?_
      refine R_get (pc := 140) dX4_makeV_140 fX4_27 S_77.2.2.2.2.2.2.2.2.1 (by omega) rfl ?_
      refine R_aload_n (pc := 143) 0 dX4_makeV_143 rfl rfl ?_
      refine R_get (pc := 144) dX4_makeV_144 fX4_40 S_77.2.2.2.2.2.2.2.2.1 (by omega) rfl ?_
      refine R_callVh (pc := 147) (μ' := mX4_mac) (As := [.ref 24, .ref 50]) (st := []) dX4_makeV_147 zX4_mac lX4_115 ⟨by decide, by decide⟩ rfl rfl ⟨by decide, by decide⟩ S_77.2.2.2.2.2.2.2.2.1 (by omega) rfl (Nat.le_of_ble_eq_true rfl) (qX4_mac_50 S_77 hn rfl hk) (fun h_81 r_ q_82 => ?_)
      obtain ⟨β_86, B_87, rfl, S_83, F_85⟩ := q_82
      have S_84 : Sys h_81 (ur ρ 24 (layE (ρ t) (vst (eK (κ 16)) (ρ 6) (vst (eK (κ 16)) (ρ 8) D0)))) β_86 κ τ := S_83
      have S_88 : Sys h_81 (ur ρ 24 (layE (ρ t) (vst (eK (κ 16)) (ρ 6) (vst (eK (κ 16)) (ρ 8) D0)))) (ub β_86 50 (macV (eK (κ 16)) (layE (ρ t) (vst (eK (κ 16)) (ρ 6) (vst (eK (κ 16)) (ρ 8) D0))))) κ τ := Sys.know S_84 ((B_87 50 (by decide)).trans (by first | (simp only [ub, Nat.reduceEqDiff, ↓reduceIte, ur_s, ur_ur, ur_n (x := t) (r := 24) ht24, ur_n (x := 2) (r := 24) (by decide), ur_n (x := 4) (r := 24) (by decide), ur_n (x := 6) (r := 24) (by decide), ur_n (x := 8) (r := 24) (by decide)]; done) | (simp only [ub, Nat.reduceEqDiff, ↓reduceIte, ur_s, ur_ur, ur_n (x := t) (r := 24) ht24, ur_n (x := 2) (r := 24) (by decide), ur_n (x := 4) (r := 24) (by decide), ur_n (x := 6) (r := 24) (by decide), ur_n (x := 8) (r := 24) (by decide)]; rfl) | rfl))
      refine R_vreturn (pc := 150) dX4_makeV_150 rfl (by decide) (by decide) ⟨rfl, (ub β_86 50 (macV (eK (κ 16)) (layE (ρ t) (vst (eK (κ 16)) (ρ 6) (vst (eK (κ 16)) (ρ 8) D0))))), ?_, rfl, S_88, (((((((((F_5.tr F_10).tr F_15).tr F_20).tr F_53).tr F_62).tr F_67).tr F_73).tr F_78).tr F_85)⟩
      intro a_ n_
      simp only [List.mem_cons, List.not_mem_nil, or_false, not_or] at n_
      by_cases e0_ : a_ = 50
      · subst e0_; first | rfl | (simp only [ub_s]; done) | (simp (config := { decide := true }) only [ub, if_true, if_false, reduceIte]; first | rfl | skip)
      (try simp only [ub, if_neg, if_false, n_, e0_])
      (try simp only [ub_k])
      (try rw [B_87 a_ (by simp [n_, e0_])])
      (try simp only [ub, if_neg, if_false, n_, e0_])
      (try simp only [ub_k])
      (try rw [B_80 a_ (by simp [n_, e0_])])
      (try simp only [ub, if_neg, if_false, n_, e0_])
      (try simp only [ub_k])
      (try rw [B_55 a_ (by simp [n_, e0_])])
      (try simp only [ub, if_neg, if_false, n_, e0_])
      (try simp only [ub_k])
      (try rw [B_22 a_ (by simp [n_, e0_])])
      (try simp only [ub, if_neg, if_false, n_, e0_])
      (try simp only [ub_k])
  · skip
    refine R_aload_n (pc := 47) 0 dX4_makeV_47 rfl rfl ?_
    refine R_aload_n (pc := 48) 0 dX4_makeV_48 rfl rfl ?_
    refine R_get (pc := 49) dX4_makeV_49 fX4_24 S_23.2.2.2.2.2.2.2.2.1 (by omega) rfl ?_
    refine R_aload_n (pc := 52) 0 dX4_makeV_52 rfl rfl ?_
    refine R_get (pc := 53) dX4_makeV_53 fX4_40 S_23.2.2.2.2.2.2.2.2.1 (by omega) rfl ?_
    refine R_callVh (pc := 56) (μ' := mX4_mac) (As := [.ref 8, .ref 50]) (st := []) dX4_makeV_56 zX4_mac lX4_115 ⟨by decide, by decide⟩ rfl rfl ⟨by decide, by decide⟩ S_23.2.2.2.2.2.2.2.2.1 (by omega) rfl (Nat.le_of_ble_eq_true rfl) (qX4_mac_50 S_23 hn rfl hk) (fun h_89 r_ q_90 => ?_)
    obtain ⟨β_94, B_95, rfl, S_91, F_93⟩ := q_90
    have S_92 : Sys h_89 (ur ρ 24 Z) β_94 κ τ := S_91
    have S_96 : Sys h_89 (ur ρ 24 Z) (ub β_94 49 D0) κ τ := Sys.know S_92 ((B_95 49 (by decide)).trans (by first | (simp only [ub, Nat.reduceEqDiff, ↓reduceIte, ur_s, ur_ur, ur_n (x := t) (r := 24) ht24, ur_n (x := 2) (r := 24) (by decide), ur_n (x := 4) (r := 24) (by decide), ur_n (x := 6) (r := 24) (by decide), ur_n (x := 8) (r := 24) (by decide)]; done) | (simp only [ub, Nat.reduceEqDiff, ↓reduceIte, ur_s, ur_ur, ur_n (x := t) (r := 24) ht24, ur_n (x := 2) (r := 24) (by decide), ur_n (x := 4) (r := 24) (by decide), ur_n (x := 6) (r := 24) (by decide), ur_n (x := 8) (r := 24) (by decide)]; rfl) | rfl))
    have S_97 : Sys h_89 (ur ρ 24 Z) (ub (ub β_94 49 D0) 50 (macV (eK (κ 16)) (ρ 8))) κ τ := Sys.know S_96 ((B_95 50 (by decide)).trans (by first | (simp only [ub, Nat.reduceEqDiff, ↓reduceIte, ur_s, ur_ur, ur_n (x := t) (r := 24) ht24, ur_n (x := 2) (r := 24) (by decide), ur_n (x := 4) (r := 24) (by decide), ur_n (x := 6) (r := 24) (by decide), ur_n (x := 8) (r := 24) (by decide)]; done) | (simp only [ub, Nat.reduceEqDiff, ↓reduceIte, ur_s, ur_ur, ur_n (x := t) (r := 24) ht24, ur_n (x := 2) (r := 24) (by decide), ur_n (x := 4) (r := 24) (by decide), ur_n (x := 6) (r := 24) (by decide), ur_n (x := 8) (r := 24) (by decide)]; rfl) | rfl))
    refine R_aload_n (pc := 59) 0 dX4_makeV_59 rfl rfl ?_
    refine R_get (pc := 60) dX4_makeV_60 fX4_37 S_97.2.2.2.2.2.2.2.2.1 (by omega) rfl ?_
    refine R_callVh (pc := 63) (μ' := mX0_makeDouble) (As := []) (st := []) dX4_makeV_63 zX0_makeDouble lX4_63 ⟨by decide, by decide⟩ rfl rfl ⟨by decide, by decide⟩ (S_97.blk 49 rfl) (by omega) rfl (Nat.le_of_ble_eq_true rfl) (S_makeDouble S_97 hn rfl) (fun h_98 r_ q_99 => ?_)
    obtain ⟨rfl, S_100, F_102⟩ := q_99
    have S_101 : Sys h_98 (ur ρ 24 Z) (ub (ub (ub β_94 49 D0) 50 (macV (eK (κ 16)) (ρ 8))) 49 (dbl D0)) κ τ := S_100
    refine R_aload_n (pc := 66) 0 dX4_makeV_66 rfl rfl ?_
    refine R_get (pc := 67) dX4_makeV_67 fX4_37 S_101.2.2.2.2.2.2.2.2.1 (by omega) rfl ?_
    refine R_aload_n (pc := 70) 0 dX4_makeV_70 rfl rfl ?_
    refine R_get (pc := 71) dX4_makeV_71 fX4_40 S_101.2.2.2.2.2.2.2.2.1 (by omega) rfl ?_
    refine R_callVh (pc := 74) (μ' := mX0_add) (As := [.ref 50]) (st := []) dX4_makeV_74 zX0_add lX4_70 ⟨by decide, by decide⟩ rfl rfl ⟨by decide, by decide⟩ (S_101.blk 49 rfl) (by omega) rfl (Nat.le_of_ble_eq_true rfl) (S_add S_101 hn rfl rfl (by decide)) (fun h_103 r_ q_104 => ?_)
    obtain ⟨rfl, S_105, F_107⟩ := q_104
    have S_106 : Sys h_103 (ur ρ 24 Z) (ub (ub (ub (ub β_94 49 D0) 50 (macV (eK (κ 16)) (ρ 8))) 49 (dbl D0)) 49 (xb (dbl D0) (macV (eK (κ 16)) (ρ 8)))) κ τ := S_105
    have S_109 : Sys h_103 (ur ρ 24 Z) (ub (ub (ub (ub (ub β_94 49 D0) 50 (macV (eK (κ 16)) (ρ 8))) 49 (dbl D0)) 49 (xb (dbl D0) (macV (eK (κ 16)) (ρ 8)))) 49 (vst (eK (κ 16)) (ρ 8) D0)) κ τ := Sys.know S_106 (show xb (dbl D0) (macV (eK (κ 16)) (ρ 8)) = vst (eK (κ 16)) (ρ 8) D0 from (show vst (eK (κ 16)) (ρ 8) D0 = xb (dbl D0) (macV (eK (κ 16)) (ρ 8)) from if_neg c_24).symm)
    refine R_aload_n (pc := 77) 0 dX4_makeV_77 rfl rfl ?_
    refine R_get (pc := 78) dX4_makeV_78 fX4_20 S_109.2.2.2.2.2.2.2.2.1 (by omega) rfl ?_
    skip
    refine R_get (pc := 81) dX4_makeV_81 fX4_47 (S_109.rowO 6 rfl) (by omega) rfl ?_
    refine R_eqi (y := nI (ρ 6).length) (by first | rfl | (simp only [ur_s, ur_ur, ur_n (x := t) (r := 24) ht24, ur_n (x := 2) (r := 24) (by decide), ur_n (x := 4) (r := 24) (by decide), ur_n (x := 6) (r := 24) (by decide), ur_n (x := 8) (r := 24) (by decide)])) ?_
    refine R_if_le (pc := 84) (tgt := 117) dX4_makeV_84 (by decide) (fun c_110 => ?_) (fun c_110 => ?_)
    · skip
      have S_111 : Sys h_103 (ur ρ 24 Z) (ub (ub (ub (ub (ub (ub β_94 49 D0) 50 (macV (eK (κ 16)) (ρ 8))) 49 (dbl D0)) 49 (xb (dbl D0) (macV (eK (κ 16)) (ρ 8)))) 49 (vst (eK (κ 16)) (ρ 8) D0)) 49 (vst (eK (κ 16)) (ρ 6) (vst (eK (κ 16)) (ρ 8) D0))) κ τ := Sys.know S_109 (show vst (eK (κ 16)) (ρ 8) D0 = vst (eK (κ 16)) (ρ 6) (vst (eK (κ 16)) (ρ 8) D0) from (show vst (eK (κ 16)) (ρ 6) (vst (eK (κ 16)) (ρ 8) D0) = vst (eK (κ 16)) (ρ 8) D0 from if_pos c_110).symm)
      refine R_aload_n (pc := 117) 0 dX4_makeV_117 rfl rfl ?_
      refine R_get (pc := 118) dX4_makeV_118 fX4_27 S_111.2.2.2.2.2.2.2.2.1 (by omega) rfl ?_
      refine R_aload_n (pc := 121) 1 dX4_makeV_121 rfl rfl ?_
      refine R_iconst (pc := 122) (v := 0) dX4_makeV_122 (by decide) ?_
      refine R_aload_n (pc := 123) 1 dX4_makeV_123 rfl rfl ?_
      have := rw_cases (r := t) ht
      refine R_get (pc := 124) dX4_makeV_124 fX4_47 (S_111.rowO t ht) (by omega) rfl ?_
      refine R_eqi (y := nI (ρ t).length) (by first | rfl | (simp only [ur_s, ur_ur, ur_n (x := t) (r := 24) ht24, ur_n (x := 2) (r := 24) (by decide), ur_n (x := 4) (r := 24) (by decide), ur_n (x := 6) (r := 24) (by decide), ur_n (x := 8) (r := 24) (by decide)])) ?_
      refine R_eqi (y := nI (0 + (ρ t).length)) (by rw [Nat.zero_add]) ?_
      refine R_callVh (pc := 127) (μ' := mX6_copyPart) (As := [.ref t, .int (nI 0), .int (nI (0 + (ρ t).length))]) (st := []) dX4_makeV_127 zX6_copyPart lX4_142 ⟨by decide, by decide⟩ rfl rfl ⟨by decide, by decide⟩ (S_111.rowO 24 rfl) (by omega) rfl (Nat.le_of_ble_eq_true rfl) (S_copyPart S_111 hn rfl ht ht24 0 ((ρ t).length) (show _ ≤ 800 by omega) (by omega)) (fun h_112 r_ q_113 => ?_)
      obtain ⟨rfl, S_114, F_116⟩ := q_113
      have S_115 : Sys h_112 (ur ρ 24 (sl (ρ t) 0 ((ρ t).length))) (ub (ub (ub (ub (ub (ub β_94 49 D0) 50 (macV (eK (κ 16)) (ρ 8))) 49 (dbl D0)) 49 (xb (dbl D0) (macV (eK (κ 16)) (ρ 8)))) 49 (vst (eK (κ 16)) (ρ 8) D0)) 49 (vst (eK (κ 16)) (ρ 6) (vst (eK (κ 16)) (ρ 8) D0))) κ τ := by have z_ := S_114; (try simp only [ur_s, ur_ur, ur_n (x := t) (r := 24) ht24, ur_n (x := 2) (r := 24) (by decide), ur_n (x := 4) (r := 24) (by decide), ur_n (x := 6) (r := 24) (by decide), ur_n (x := 8) (r := 24) (by decide)] at z_); exact z_
      rw [sl_all] at S_115
      refine R_aload_n (pc := 130) 0 dX4_makeV_130 rfl rfl ?_
      refine R_aload_n (pc := 131) 1 dX4_makeV_131 rfl rfl ?_
      have := rw_cases (r := t) ht
      refine R_get (pc := 132) dX4_makeV_132 fX4_47 (S_115.rowO t ht) (by omega) rfl ?_
      refine R_eqi (y := nI (ρ t).length) (by first | rfl | (simp only [ur_s, ur_ur, ur_n (x := t) (r := 24) ht24, ur_n (x := 2) (r := 24) (by decide), ur_n (x := 4) (r := 24) (by decide), ur_n (x := 6) (r := 24) (by decide), ur_n (x := 8) (r := 24) (by decide)])) ?_
      refine R_eqi (y := nI (ur ρ 24 (ρ t) 24).length) (by rw [ur_s]) ?_
      refine R_callVh (pc := 135) (μ' := mX4_layEnd) (As := [.int (nI (ur ρ 24 (ρ t) 24).length)]) (st := []) dX4_makeV_135 zX4_layEnd lX4_145 ⟨by decide, by decide⟩ rfl rfl ⟨by decide, by decide⟩ S_115.2.2.2.2.2.2.2.2.1 (by omega) rfl (Nat.le_of_ble_eq_true rfl) (qX4_layEnd S_115 hn (by rw [ur_s]; omega)) (fun h_117 r_ q_118 => ?_)
      obtain ⟨β_122, B_123, rfl, S_119, F_121⟩ := q_118
      have S_120 : Sys h_117 (ur ρ 24 (layE (ρ t) (vst (eK (κ 16)) (ρ 6) (vst (eK (κ 16)) (ρ 8) D0)))) β_122 κ τ := by have z_ := S_119; (try simp only [ub, Nat.reduceEqDiff, ↓reduceIte, ur_s, ur_ur, ur_n (x := t) (r := 24) ht24, ur_n (x := 2) (r := 24) (by decide), ur_n (x := 4) (r := 24) (by decide), ur_n (x := 6) (r := 24) (by decide), ur_n (x := 8) (r := 24) (by decide)] at z_); exact z_
      refine R_aload_n (pc := 138) 0 dX4_makeV_138 rfl rfl ?_
      refine R_aload_n (pc := 139) 0 dX4_makeV_139 rfl rfl ?_
      refine R_get (pc := 140) dX4_makeV_140 fX4_27 S_120.2.2.2.2.2.2.2.2.1 (by omega) rfl ?_
      refine R_aload_n (pc := 143) 0 dX4_makeV_143 rfl rfl ?_
      refine R_get (pc := 144) dX4_makeV_144 fX4_40 S_120.2.2.2.2.2.2.2.2.1 (by omega) rfl ?_
      refine R_callVh (pc := 147) (μ' := mX4_mac) (As := [.ref 24, .ref 50]) (st := []) dX4_makeV_147 zX4_mac lX4_115 ⟨by decide, by decide⟩ rfl rfl ⟨by decide, by decide⟩ S_120.2.2.2.2.2.2.2.2.1 (by omega) rfl (Nat.le_of_ble_eq_true rfl) (qX4_mac_50 S_120 hn rfl hk) (fun h_124 r_ q_125 => ?_)
      obtain ⟨β_129, B_130, rfl, S_126, F_128⟩ := q_125
      have S_127 : Sys h_124 (ur ρ 24 (layE (ρ t) (vst (eK (κ 16)) (ρ 6) (vst (eK (κ 16)) (ρ 8) D0)))) β_129 κ τ := S_126
      have S_131 : Sys h_124 (ur ρ 24 (layE (ρ t) (vst (eK (κ 16)) (ρ 6) (vst (eK (κ 16)) (ρ 8) D0)))) (ub β_129 50 (macV (eK (κ 16)) (layE (ρ t) (vst (eK (κ 16)) (ρ 6) (vst (eK (κ 16)) (ρ 8) D0))))) κ τ := Sys.know S_127 ((B_130 50 (by decide)).trans (by first | (simp only [ub, Nat.reduceEqDiff, ↓reduceIte, ur_s, ur_ur, ur_n (x := t) (r := 24) ht24, ur_n (x := 2) (r := 24) (by decide), ur_n (x := 4) (r := 24) (by decide), ur_n (x := 6) (r := 24) (by decide), ur_n (x := 8) (r := 24) (by decide)]; done) | (simp only [ub, Nat.reduceEqDiff, ↓reduceIte, ur_s, ur_ur, ur_n (x := t) (r := 24) ht24, ur_n (x := 2) (r := 24) (by decide), ur_n (x := 4) (r := 24) (by decide), ur_n (x := 6) (r := 24) (by decide), ur_n (x := 8) (r := 24) (by decide)]; rfl) | rfl))
      refine R_vreturn (pc := 150) dX4_makeV_150 rfl (by decide) (by decide) ⟨rfl, (ub β_129 50 (macV (eK (κ 16)) (layE (ρ t) (vst (eK (κ 16)) (ρ 6) (vst (eK (κ 16)) (ρ 8) D0))))), ?_, rfl, S_131, (((((((((F_5.tr F_10).tr F_15).tr F_20).tr F_93).tr F_102).tr F_107).tr F_116).tr F_121).tr F_128)⟩
      intro a_ n_
      simp only [List.mem_cons, List.not_mem_nil, or_false, not_or] at n_
      by_cases e0_ : a_ = 50
      · subst e0_; first | rfl | (simp only [ub_s]; done) | (simp (config := { decide := true }) only [ub, if_true, if_false, reduceIte]; first | rfl | skip)
      (try simp only [ub, if_neg, if_false, n_, e0_])
      (try simp only [ub_k])
      (try rw [B_130 a_ (by simp [n_, e0_])])
      (try simp only [ub, if_neg, if_false, n_, e0_])
      (try simp only [ub_k])
      (try rw [B_123 a_ (by simp [n_, e0_])])
      (try simp only [ub, if_neg, if_false, n_, e0_])
      (try simp only [ub_k])
      (try rw [B_95 a_ (by simp [n_, e0_])])
      (try simp only [ub, if_neg, if_false, n_, e0_])
      (try simp only [ub_k])
      (try rw [B_22 a_ (by simp [n_, e0_])])
      (try simp only [ub, if_neg, if_false, n_, e0_])
      (try simp only [ub_k])
    · skip
      refine R_aload_n (pc := 87) 0 dX4_makeV_87 rfl rfl ?_
      refine R_aload_n (pc := 88) 0 dX4_makeV_88 rfl rfl ?_
      refine R_get (pc := 89) dX4_makeV_89 fX4_20 S_109.2.2.2.2.2.2.2.2.1 (by omega) rfl ?_
      refine R_aload_n (pc := 92) 0 dX4_makeV_92 rfl rfl ?_
      refine R_get (pc := 93) dX4_makeV_93 fX4_40 S_109.2.2.2.2.2.2.2.2.1 (by omega) rfl ?_
      refine R_callVh (pc := 96) (μ' := mX4_mac) (As := [.ref 6, .ref 50]) (st := []) dX4_makeV_96 zX4_mac lX4_115 ⟨by decide, by decide⟩ rfl rfl ⟨by decide, by decide⟩ S_109.2.2.2.2.2.2.2.2.1 (by omega) rfl (Nat.le_of_ble_eq_true rfl) (qX4_mac_50 S_109 hn rfl hk) (fun h_132 r_ q_133 => ?_)
      obtain ⟨β_137, B_138, rfl, S_134, F_136⟩ := q_133
      have S_135 : Sys h_132 (ur ρ 24 Z) β_137 κ τ := S_134
      have S_139 : Sys h_132 (ur ρ 24 Z) (ub β_137 49 (vst (eK (κ 16)) (ρ 8) D0)) κ τ := Sys.know S_135 ((B_138 49 (by decide)).trans (by first | (simp only [ub, Nat.reduceEqDiff, ↓reduceIte, ur_s, ur_ur, ur_n (x := t) (r := 24) ht24, ur_n (x := 2) (r := 24) (by decide), ur_n (x := 4) (r := 24) (by decide), ur_n (x := 6) (r := 24) (by decide), ur_n (x := 8) (r := 24) (by decide)]; done) | (simp only [ub, Nat.reduceEqDiff, ↓reduceIte, ur_s, ur_ur, ur_n (x := t) (r := 24) ht24, ur_n (x := 2) (r := 24) (by decide), ur_n (x := 4) (r := 24) (by decide), ur_n (x := 6) (r := 24) (by decide), ur_n (x := 8) (r := 24) (by decide)]; rfl) | rfl))
      have S_140 : Sys h_132 (ur ρ 24 Z) (ub (ub β_137 49 (vst (eK (κ 16)) (ρ 8) D0)) 50 (macV (eK (κ 16)) (ρ 6))) κ τ := Sys.know S_139 ((B_138 50 (by decide)).trans (by first | (simp only [ub, Nat.reduceEqDiff, ↓reduceIte, ur_s, ur_ur, ur_n (x := t) (r := 24) ht24, ur_n (x := 2) (r := 24) (by decide), ur_n (x := 4) (r := 24) (by decide), ur_n (x := 6) (r := 24) (by decide), ur_n (x := 8) (r := 24) (by decide)]; done) | (simp only [ub, Nat.reduceEqDiff, ↓reduceIte, ur_s, ur_ur, ur_n (x := t) (r := 24) ht24, ur_n (x := 2) (r := 24) (by decide), ur_n (x := 4) (r := 24) (by decide), ur_n (x := 6) (r := 24) (by decide), ur_n (x := 8) (r := 24) (by decide)]; rfl) | rfl))
      refine R_aload_n (pc := 99) 0 dX4_makeV_99 rfl rfl ?_
      refine R_get (pc := 100) dX4_makeV_100 fX4_37 S_140.2.2.2.2.2.2.2.2.1 (by omega) rfl ?_
      refine R_callVh (pc := 103) (μ' := mX0_makeDouble) (As := []) (st := []) dX4_makeV_103 zX0_makeDouble lX4_63 ⟨by decide, by decide⟩ rfl rfl ⟨by decide, by decide⟩ (S_140.blk 49 rfl) (by omega) rfl (Nat.le_of_ble_eq_true rfl) (S_makeDouble S_140 hn rfl) (fun h_141 r_ q_142 => ?_)
      obtain ⟨rfl, S_143, F_145⟩ := q_142
      have S_144 : Sys h_141 (ur ρ 24 Z) (ub (ub (ub β_137 49 (vst (eK (κ 16)) (ρ 8) D0)) 50 (macV (eK (κ 16)) (ρ 6))) 49 (dbl (vst (eK (κ 16)) (ρ 8) D0))) κ τ := S_143
      refine R_aload_n (pc := 106) 0 dX4_makeV_106 rfl rfl ?_
      refine R_get (pc := 107) dX4_makeV_107 fX4_37 S_144.2.2.2.2.2.2.2.2.1 (by omega) rfl ?_
      refine R_aload_n (pc := 110) 0 dX4_makeV_110 rfl rfl ?_
      refine R_get (pc := 111) dX4_makeV_111 fX4_40 S_144.2.2.2.2.2.2.2.2.1 (by omega) rfl ?_
      refine R_callVh (pc := 114) (μ' := mX0_add) (As := [.ref 50]) (st := []) dX4_makeV_114 zX0_add lX4_70 ⟨by decide, by decide⟩ rfl rfl ⟨by decide, by decide⟩ (S_144.blk 49 rfl) (by omega) rfl (Nat.le_of_ble_eq_true rfl) (S_add S_144 hn rfl rfl (by decide)) (fun h_146 r_ q_147 => ?_)
      obtain ⟨rfl, S_148, F_150⟩ := q_147
      have S_149 : Sys h_146 (ur ρ 24 Z) (ub (ub (ub (ub β_137 49 (vst (eK (κ 16)) (ρ 8) D0)) 50 (macV (eK (κ 16)) (ρ 6))) 49 (dbl (vst (eK (κ 16)) (ρ 8) D0))) 49 (xb (dbl (vst (eK (κ 16)) (ρ 8) D0)) (macV (eK (κ 16)) (ρ 6)))) κ τ := S_148
      have S_151 : Sys h_146 (ur ρ 24 Z) (ub (ub (ub (ub (ub β_137 49 (vst (eK (κ 16)) (ρ 8) D0)) 50 (macV (eK (κ 16)) (ρ 6))) 49 (dbl (vst (eK (κ 16)) (ρ 8) D0))) 49 (xb (dbl (vst (eK (κ 16)) (ρ 8) D0)) (macV (eK (κ 16)) (ρ 6)))) 49 (vst (eK (κ 16)) (ρ 6) (vst (eK (κ 16)) (ρ 8) D0))) κ τ := Sys.know S_149 (show xb (dbl (vst (eK (κ 16)) (ρ 8) D0)) (macV (eK (κ 16)) (ρ 6)) = vst (eK (κ 16)) (ρ 6) (vst (eK (κ 16)) (ρ 8) D0) from (show vst (eK (κ 16)) (ρ 6) (vst (eK (κ 16)) (ρ 8) D0) = xb (dbl (vst (eK (κ 16)) (ρ 8) D0)) (macV (eK (κ 16)) (ρ 6)) from if_neg c_110).symm)
      refine R_aload_n (pc := 117) 0 dX4_makeV_117 rfl rfl ?_
      refine R_get (pc := 118) dX4_makeV_118 fX4_27 S_151.2.2.2.2.2.2.2.2.1 (by omega) rfl ?_
      refine R_aload_n (pc := 121) 1 dX4_makeV_121 rfl rfl ?_
      refine R_iconst (pc := 122) (v := 0) dX4_makeV_122 (by decide) ?_
      refine R_aload_n (pc := 123) 1 dX4_makeV_123 rfl rfl ?_
      have := rw_cases (r := t) ht
      refine R_get (pc := 124) dX4_makeV_124 fX4_47 (S_151.rowO t ht) (by omega) rfl ?_
      refine R_eqi (y := nI (ρ t).length) (by first | rfl | (simp only [ur_s, ur_ur, ur_n (x := t) (r := 24) ht24, ur_n (x := 2) (r := 24) (by decide), ur_n (x := 4) (r := 24) (by decide), ur_n (x := 6) (r := 24) (by decide), ur_n (x := 8) (r := 24) (by decide)])) ?_
      refine R_eqi (y := nI (0 + (ρ t).length)) (by rw [Nat.zero_add]) ?_
      refine R_callVh (pc := 127) (μ' := mX6_copyPart) (As := [.ref t, .int (nI 0), .int (nI (0 + (ρ t).length))]) (st := []) dX4_makeV_127 zX6_copyPart lX4_142 ⟨by decide, by decide⟩ rfl rfl ⟨by decide, by decide⟩ (S_151.rowO 24 rfl) (by omega) rfl (Nat.le_of_ble_eq_true rfl) (S_copyPart S_151 hn rfl ht ht24 0 ((ρ t).length) (show _ ≤ 800 by omega) (by omega)) (fun h_152 r_ q_153 => ?_)
      obtain ⟨rfl, S_154, F_156⟩ := q_153
      have S_155 : Sys h_152 (ur ρ 24 (sl (ρ t) 0 ((ρ t).length))) (ub (ub (ub (ub (ub β_137 49 (vst (eK (κ 16)) (ρ 8) D0)) 50 (macV (eK (κ 16)) (ρ 6))) 49 (dbl (vst (eK (κ 16)) (ρ 8) D0))) 49 (xb (dbl (vst (eK (κ 16)) (ρ 8) D0)) (macV (eK (κ 16)) (ρ 6)))) 49 (vst (eK (κ 16)) (ρ 6) (vst (eK (κ 16)) (ρ 8) D0))) κ τ := by have z_ := S_154; (try simp only [ur_s, ur_ur, ur_n (x := t) (r := 24) ht24, ur_n (x := 2) (r := 24) (by decide), ur_n (x := 4) (r := 24) (by decide), ur_n (x := 6) (r := 24) (by decide), ur_n (x := 8) (r := 24) (by decide)] at z_); exact z_
      rw [sl_all] at S_155
      refine R_aload_n (pc := 130) 0 dX4_makeV_130 rfl rfl ?_
      refine R_aload_n (pc := 131) 1 dX4_makeV_131 rfl rfl ?_
      have := rw_cases (r := t) ht
      refine R_get (pc := 132) dX4_makeV_132 fX4_47 (S_155.rowO t ht) (by omega) rfl ?_
      refine R_eqi (y := nI (ρ t).length) (by first | rfl | (simp only [ur_s, ur_ur, ur_n (x := t) (r := 24) ht24, ur_n (x := 2) (r := 24) (by decide), ur_n (x := 4) (r := 24) (by decide), ur_n (x := 6) (r := 24) (by decide), ur_n (x := 8) (r := 24) (by decide)])) ?_
      refine R_eqi (y := nI (ur ρ 24 (ρ t) 24).length) (by rw [ur_s]) ?_
      refine R_callVh (pc := 135) (μ' := mX4_layEnd) (As := [.int (nI (ur ρ 24 (ρ t) 24).length)]) (st := []) dX4_makeV_135 zX4_layEnd lX4_145 ⟨by decide, by decide⟩ rfl rfl ⟨by decide, by decide⟩ S_155.2.2.2.2.2.2.2.2.1 (by omega) rfl (Nat.le_of_ble_eq_true rfl) (qX4_layEnd S_155 hn (by rw [ur_s]; omega)) (fun h_157 r_ q_158 => ?_)
      obtain ⟨β_162, B_163, rfl, S_159, F_161⟩ := q_158
      have S_160 : Sys h_157 (ur ρ 24 (layE (ρ t) (vst (eK (κ 16)) (ρ 6) (vst (eK (κ 16)) (ρ 8) D0)))) β_162 κ τ := by have z_ := S_159; (try simp only [ub, Nat.reduceEqDiff, ↓reduceIte, ur_s, ur_ur, ur_n (x := t) (r := 24) ht24, ur_n (x := 2) (r := 24) (by decide), ur_n (x := 4) (r := 24) (by decide), ur_n (x := 6) (r := 24) (by decide), ur_n (x := 8) (r := 24) (by decide)] at z_); exact z_
      refine R_aload_n (pc := 138) 0 dX4_makeV_138 rfl rfl ?_
      refine R_aload_n (pc := 139) 0 dX4_makeV_139 rfl rfl ?_
      refine R_get (pc := 140) dX4_makeV_140 fX4_27 S_160.2.2.2.2.2.2.2.2.1 (by omega) rfl ?_
      refine R_aload_n (pc := 143) 0 dX4_makeV_143 rfl rfl ?_
      refine R_get (pc := 144) dX4_makeV_144 fX4_40 S_160.2.2.2.2.2.2.2.2.1 (by omega) rfl ?_
      refine R_callVh (pc := 147) (μ' := mX4_mac) (As := [.ref 24, .ref 50]) (st := []) dX4_makeV_147 zX4_mac lX4_115 ⟨by decide, by decide⟩ rfl rfl ⟨by decide, by decide⟩ S_160.2.2.2.2.2.2.2.2.1 (by omega) rfl (Nat.le_of_ble_eq_true rfl) (qX4_mac_50 S_160 hn rfl hk) (fun h_164 r_ q_165 => ?_)
      obtain ⟨β_169, B_170, rfl, S_166, F_168⟩ := q_165
      have S_167 : Sys h_164 (ur ρ 24 (layE (ρ t) (vst (eK (κ 16)) (ρ 6) (vst (eK (κ 16)) (ρ 8) D0)))) β_169 κ τ := S_166
      have S_171 : Sys h_164 (ur ρ 24 (layE (ρ t) (vst (eK (κ 16)) (ρ 6) (vst (eK (κ 16)) (ρ 8) D0)))) (ub β_169 50 (macV (eK (κ 16)) (layE (ρ t) (vst (eK (κ 16)) (ρ 6) (vst (eK (κ 16)) (ρ 8) D0))))) κ τ := Sys.know S_167 ((B_170 50 (by decide)).trans (by first | (simp only [ub, Nat.reduceEqDiff, ↓reduceIte, ur_s, ur_ur, ur_n (x := t) (r := 24) ht24, ur_n (x := 2) (r := 24) (by decide), ur_n (x := 4) (r := 24) (by decide), ur_n (x := 6) (r := 24) (by decide), ur_n (x := 8) (r := 24) (by decide)]; done) | (simp only [ub, Nat.reduceEqDiff, ↓reduceIte, ur_s, ur_ur, ur_n (x := t) (r := 24) ht24, ur_n (x := 2) (r := 24) (by decide), ur_n (x := 4) (r := 24) (by decide), ur_n (x := 6) (r := 24) (by decide), ur_n (x := 8) (r := 24) (by decide)]; rfl) | rfl))
      refine R_vreturn (pc := 150) dX4_makeV_150 rfl (by decide) (by decide) ⟨rfl, (ub β_169 50 (macV (eK (κ 16)) (layE (ρ t) (vst (eK (κ 16)) (ρ 6) (vst (eK (κ 16)) (ρ 8) D0))))), ?_, rfl, S_171, ((((((((((((F_5.tr F_10).tr F_15).tr F_20).tr F_93).tr F_102).tr F_107).tr F_136).tr F_145).tr F_150).tr F_156).tr F_161).tr F_168)⟩
      intro a_ n_
      simp only [List.mem_cons, List.not_mem_nil, or_false, not_or] at n_
      by_cases e0_ : a_ = 50
      · subst e0_; first | rfl | (simp only [ub_s]; done) | (simp (config := { decide := true }) only [ub, if_true, if_false, reduceIte]; first | rfl | skip)
      (try simp only [ub, if_neg, if_false, n_, e0_])
      (try simp only [ub_k])
      (try rw [B_170 a_ (by simp [n_, e0_])])
      (try simp only [ub, if_neg, if_false, n_, e0_])
      (try simp only [ub_k])
      (try rw [B_163 a_ (by simp [n_, e0_])])
      (try simp only [ub, if_neg, if_false, n_, e0_])
      (try simp only [ub_k])
      (try rw [B_138 a_ (by simp [n_, e0_])])
      (try simp only [ub, if_neg, if_false, n_, e0_])
      (try simp only [ub_k])
      (try rw [B_95 a_ (by simp [n_, e0_])])
      (try simp only [ub, if_neg, if_false, n_, e0_])
      (try simp only [ub_k])
      (try rw [B_22 a_ (by simp [n_, e0_])])
      (try simp only [ub, if_neg, if_false, n_, e0_])
      (try simp only [ub_k])
