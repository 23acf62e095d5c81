def uQ (h : am_H) (ψ : Nat → oA) (z : fA) (i : mI) (a : Int32) (R : Option (List (BitVec 8))) : am_H → Option Value → Prop := fun h2 q => ∃ ψ2 i2, q = some (.int a) ∧ MO h2 ψ2 z i2 ∧ (ψ2 62 = ψ 62 ∧ ψ2 65 = ψ 65 ∧ ψ2 66 = ψ 66) ∧ (i2 0 = i 0 ∧ i2 1 = i 1) ∧ (match R with | none => ψ2 64 = ψ 64 ∧ i2 2 = i 2 | some L => sg (ψ2 64) 0 L ∧ i2 2 = nI L.length) ∧ FM h h2
theorem ifge0 {c : Prop} [Decidable c] (h : 0 ≤ (if c then (0 : Int32) else -6)) : c := by
  by_cases q : c
  · exact q
  · rw [if_neg q] at h
    exact absurd h (by decide)
theorem ifge1 {c : Prop} [Decidable c] (h : 0 ≤ (if c then (-6 : Int32) else 0)) : ¬ c := fun q => by
  rw [if_pos q] at h
  exact absurd h (by decide)
set_option maxHeartbeats 1000000 in
set_option maxRecDepth 100000 in
theorem oX12_use_1s {l : Launch} {w : am_W} {h : am_H} {n : Nat} {ψ : Nat → oA} {z : fA} {i : mI} (S : MO h ψ z i) (hn : 90 ≤ n) (A N D : List (BitVec 8)) (mm m : Nat) (hA : A.length ≤ 256) (hN : N.length ≤ 64) (hD : D.length ≤ 512) (hmm : 4 ≤ mm) (hmm16 : mm ≤ 16) (hi1 : i 1 = nI mm) (hz0 : z 0 = nI (4 * m)) (hm : m = 4 ∨ m = 6 ∨ m = 8) (hz1 : z 1 = nI D.length) (hz2 : z 2 = nI N.length) (hz3 : z 3 = nI A.length) (s1 : sg (ψ 62) 512 D) (s2 : sg (ψ 62) 1024 N) (s3 : sg (ψ 62) 1536 A) (B : BitVec 8 → BitVec 8) (hB : ∀ v : BitVec 8, ψ 65 v.toNat = B v) {F G : bP → bP} (HK0 : ∀ ψ2, FR [67, 68, 71, 72, 73, 74, 75, 76, 77, 78, 79, 80, 81, 82, 83, 84, 85, 86, 87, 88, 89, 90] ψ ψ2 → exK ψ2 B 0 0 m → Kh ψ2 0 F G) (hP : ftP 1 0 D.length N.length mm) : RH l w mX12_use h n [.ref 61, .int 1, .int 0] (uQ h ψ z i (nI (bkN F D (nbk D)).length) (some (bkN F D (nbk D)))) := by
  refine RC.of [(0, .ref 61), (1, .int 1), (2, .int 0)] (by decide +kernel) rfl (Nat.le_of_ble_eq_true rfl) ?_
  have hm8 : 4 ≤ m ∧ m ≤ 8 := by omega
  refine R_iload_n (pc := 0) 1 dX12_use_0 rfl rfl ?_
  refine R_iconst (pc := 1) (v := 1) dX12_use_1 (by decide) ?_
  refine R_bipush (pc := 2) (v := 16) dX12_use_2 (by decide) ?_
  refine R_callSp (pc := 4) (μ' := mX12_in) (As := [.int 1, .int 1, .int 16]) (st := []) dX12_use_4 zX12_in lX12_108 ⟨by decide, by decide⟩ rfl rfl ⟨by decide, by decide⟩ rfl (Nat.le_of_ble_eq_true rfl) (qX12_in l w _ _ _ _ _) ?_
  refine R_eqi (y := 1) (by decide) ?_
  refine R_if_ne (pc := 7) (tgt := 13) dX12_use_7 (by decide) (fun c_1 => ?_) (fun c_1 => absurd c_1 (by decide))
  refine R_aload_n (pc := 13) 0 dX12_use_13 rfl rfl ?_
  refine R_iload_n (pc := 14) 1 dX12_use_14 rfl rfl ?_
  refine R_bipush (pc := 15) (v := 9) dX12_use_15 (by decide) ?_
  refine R_icmp_eq (pc := 17) (tgt := 26) dX12_use_17 (by decide) (fun c_2 => absurd c_2 (by decide)) (fun c_2 => ?_)
  refine R_iload_n (pc := 20) 1 dX12_use_20 rfl rfl ?_
  refine R_bipush (pc := 21) (v := 15) dX12_use_21 (by decide) ?_
  refine R_icmp_ne (pc := 23) (tgt := 30) dX12_use_23 (by decide) (fun c_3 => ?_) (fun c_3 => absurd c_3 (by decide))
  refine R_iconst (pc := 30) (v := 0) dX12_use_30 (by decide) ?_
  refine R_callVh (pc := 31) (μ' := mX12_hasKeys) (As := [.int 0]) (st := []) dX12_use_31 zX12_hasKeys lX12_250 ⟨by decide, by decide⟩ rfl rfl ⟨by decide, by decide⟩ S.obj (by omega) rfl (Nat.le_of_ble_eq_true rfl) (oX12_hasKeys_0 S hn m hz0 hm B hB) (fun h_4 r_ q_5 => ?_)
  obtain ⟨ψa, rfl, Sa, Ka, Ea, Fa⟩ := q_5
  refine R_if_ne (pc := 34) (tgt := 40) dX12_use_34 (by decide) (fun c_6 => ?_) (fun c_6 => absurd c_6 (by decide))
  refine R_aload_n (pc := 40) 0 dX12_use_40 rfl rfl ?_
  refine R_iload_n (pc := 41) 1 dX12_use_41 rfl rfl ?_
  refine R_iload_n (pc := 42) 2 dX12_use_42 rfl rfl ?_
  refine R_callVh (pc := 43) (μ' := mX12_fits) (As := [.int 1, .int 0]) (st := []) dX12_use_43 zX12_fits lX12_254 ⟨by decide, by decide⟩ rfl rfl ⟨by decide, by decide⟩ Sa.obj (by omega) rfl (Nat.le_of_ble_eq_true rfl) (oX12_fits_1s Sa hn D.length N.length mm hD hN (by omega) hz1 hz2 hi1 hP) (fun h_7 r_ q_8 => ?_)
  obtain ⟨rfl, Sb, Fb⟩ := q_8
  refine R_if_ne (pc := 46) (tgt := 52) dX12_use_46 (by decide) (fun c_9 => ?_) (fun c_9 => absurd c_9 (by decide))
  refine R_aload_n (pc := 52) 0 dX12_use_52 rfl rfl ?_
  refine R_callVh (pc := 53) (μ' := mX12_load) (As := []) (st := []) dX12_use_53 zX12_load lX12_258 ⟨by decide, by decide⟩ rfl rfl ⟨by decide, by decide⟩ Sb.obj (by omega) rfl (Nat.le_of_ble_eq_true rfl) (oX12_load Sb hn D.length N.length A.length hz1 hz2 hz3 hD hN hA) (fun h_10 r_ q_11 => ?_)
  obtain ⟨rfl, Sc, Fc⟩ := q_11
  obtain ⟨ψc, ec⟩ : ∃ x, x = (uo (uo (uo ψa 71 (cpB (ψa 62) 512 (ψa 71) 0 D.length)) 73 (cpB (ψa 62) 1024 (ψa 73) 0 N.length)) 74 (cpB (ψa 62) 1536 (ψa 74) 0 A.length)) := ⟨_, rfl⟩
  rw [← ec] at Sc
  have Kc : FR [67, 68, 71, 72, 73, 74, 75, 76, 77, 78, 79, 80, 81, 82, 83, 84, 85, 86, 87, 88, 89, 90] ψ ψc := by rw [ec]; exact (((((FR.rf _ _).tr Ka (by decide)).up (by decide)).up (by decide)).up (by decide))
  have e62 : ψa 62 = ψ 62 := Ka 62 (by decide)
  have sD : sg (ψc 71) 0 D := by rw [ec]; exact (show sg (ψa 62) 512 D by rw [e62]; exact s1).cp (ψa 71) 0 rfl
  have sN : sg (ψc 73) 0 N := by rw [ec]; exact (show sg (ψa 62) 1024 N by rw [e62]; exact s2).cp (ψa 73) 0 rfl
  have sA : sg (ψc 74) 0 A := by rw [ec]; exact (show sg (ψa 62) 1536 A by rw [e62]; exact s3).cp (ψa 74) 0 rfl
  have K0 : Kh ψc 0 F G := HK0 ψc Kc (by rw [ec]; exact Ea)
  have hb : D.length = 16 * nbk D := by have : D.length % 16 = 0 := hP; unfold nbk; omega
  refine R_iconst (pc := 56) (v := 0) dX12_use_56 (by decide) ?_
  refine R_istore_n (pc := 57) (lv' := [(3, .int 0), (0, .ref 61), (1, .int 1), (2, .int 0)]) dX12_use_57 rfl (by decide) rfl ?_
  refine R_iload_n (pc := 58) 2 dX12_use_58 rfl rfl ?_
  refine R_tableIn (pc := 59) (tgt := 132) dX12_use_59 (by decide) (by decide) rfl (by decide) ?_
  refine R_aload_n (pc := 132) 1 dX12_use_132 rfl rfl ?_
  refine R_iload_n (pc := 133) 3 dX12_use_133 rfl rfl ?_
  refine R_callVh (pc := 134) (μ' := mX12_book) (As := [.int 0]) (st := []) dX12_use_134 zX12_book lX12_261 ⟨by decide, by decide⟩ rfl rfl ⟨by decide, by decide⟩ Sc.obj (by omega) rfl (Nat.le_of_ble_eq_true rfl) (oX12_book_s Sc hn (nbk D) (by omega) (show nI D.length = nI (16 * nbk D) by rw [← hb]) K0 D hb sD) (fun h_12 r_ q_13 => ?_)
  obtain ⟨ψd, rfl, Sd, Kd, Yd, Fd⟩ := q_13
  refine R_goto (pc := 137) (tgt := 334) dX12_use_137 (by decide) ?_
  refine R_iload_n (pc := 334) 0 dX12_use_334 rfl rfl ?_
  refine R_if_ge (pc := 335) (tgt := 342) dX12_use_335 (by decide) (fun c_14 => ?_) (fun c_14 => absurd (by decide) c_14)
  have yF : sg (ψd 72) 0 (bkN F D (nbk D)) := Yd
  have lF : (bkN F D (nbk D)).length = 16 * nbk D := bkN_len _ _ _
  have hl7 : (bkN F D (nbk D)).length ≤ 700 := by rw [lF]; omega
  refine R_aload_n (pc := 342) 1 dX12_use_342 rfl rfl ?_
  refine R_aload_n (pc := 343) 1 dX12_use_343 rfl rfl ?_
  refine R_get (pc := 344) dX12_use_344 fX12_44 Sd.obj (by omega) rfl ?_
  refine R_aload_n (pc := 347) 1 dX12_use_347 rfl rfl ?_
  refine R_get (pc := 348) dX12_use_348 fX12_153 Sd.obj (by omega) rfl ?_
  refine R_eqi (y := nI (16 * nbk D)) rfl ?_
  refine R_eqi (y := nI (bkN F D (nbk D)).length) (by rw [lF]) ?_
  refine R_callVh (pc := 351) (μ' := mX12_come) (As := [.ref 72, .int (nI (bkN F D (nbk D)).length)]) (st := []) dX12_use_351 zX12_come lX12_297 ⟨by decide, by decide⟩ rfl rfl ⟨by decide, by decide⟩ Sd.obj (by omega) rfl (Nat.le_of_ble_eq_true rfl) (oX12_come Sd hn (p := 72) rfl (by decide) (bkN F D (nbk D)).length hl7 hl7) (fun h_15 r_ q_16 => ?_)
  obtain ⟨rfl, Se, Fe⟩ := q_16
  have KF : FR [67, 68, 71, 72, 73, 74, 75, 76, 77, 78, 79, 80, 81, 82, 83, 84, 85, 86, 87, 88, 89, 90] ψ ψd := (Kc.tr Kd (by decide))
  exact R_ireturn (pc := 354) dX12_use_354 rfl (by decide) (by decide) ⟨rfl, _, _, rfl, Se, ⟨KF 62 (by decide), KF 65 (by decide), KF 66 (by decide)⟩, ⟨rfl, rfl⟩, ⟨sg.cp yF _ 0 rfl, ui_s _ _ _⟩, ((((Fa.tr Fb).tr Fc).tr Fd).tr Fe)⟩
set_option maxHeartbeats 1000000 in
set_option maxRecDepth 100000 in
theorem oX12_use_1o {l : Launch} {w : am_W} {h : am_H} {n : Nat} {ψ : Nat → oA} {z : fA} {i : mI} (S : MO h ψ z i) (hn : 90 ≤ n) (A N D : List (BitVec 8)) (mm m : Nat) (hA : A.length ≤ 256) (hN : N.length ≤ 64) (hD : D.length ≤ 512) (hmm : 4 ≤ mm) (hmm16 : mm ≤ 16) (hi1 : i 1 = nI mm) (hz0 : z 0 = nI (4 * m)) (hm : m = 4 ∨ m = 6 ∨ m = 8) (hz1 : z 1 = nI D.length) (hz2 : z 2 = nI N.length) (hz3 : z 3 = nI A.length) (s1 : sg (ψ 62) 512 D) (s2 : sg (ψ 62) 1024 N) (s3 : sg (ψ 62) 1536 A) (B : BitVec 8 → BitVec 8) (hB : ∀ v : BitVec 8, ψ 65 v.toNat = B v) {F G : bP → bP} (HK0 : ∀ ψ2, FR [67, 68, 71, 72, 73, 74, 75, 76, 77, 78, 79, 80, 81, 82, 83, 84, 85, 86, 87, 88, 89, 90] ψ ψ2 → exK ψ2 B 0 0 m → Kh ψ2 0 F G) (hP : ftP 1 1 D.length N.length mm) : RH l w mX12_use h n [.ref 61, .int 1, .int 1] (uQ h ψ z i (nI (bkN G D (nbk D)).length) (some (bkN G D (nbk D)))) := by
  refine RC.of [(0, .ref 61), (1, .int 1), (2, .int 1)] (by decide +kernel) rfl (Nat.le_of_ble_eq_true rfl) ?_
  have hm8 : 4 ≤ m ∧ m ≤ 8 := by omega
  refine R_iload_n (pc := 0) 1 dX12_use_0 rfl rfl ?_
  refine R_iconst (pc := 1) (v := 1) dX12_use_1 (by decide) ?_
  refine R_bipush (pc := 2) (v := 16) dX12_use_2 (by decide) ?_
  refine R_callSp (pc := 4) (μ' := mX12_in) (As := [.int 1, .int 1, .int 16]) (st := []) dX12_use_4 zX12_in lX12_108 ⟨by decide, by decide⟩ rfl rfl ⟨by decide, by decide⟩ rfl (Nat.le_of_ble_eq_true rfl) (qX12_in l w _ _ _ _ _) ?_
  refine R_eqi (y := 1) (by decide) ?_
  refine R_if_ne (pc := 7) (tgt := 13) dX12_use_7 (by decide) (fun c_1 => ?_) (fun c_1 => absurd c_1 (by decide))
  refine R_aload_n (pc := 13) 0 dX12_use_13 rfl rfl ?_
  refine R_iload_n (pc := 14) 1 dX12_use_14 rfl rfl ?_
  refine R_bipush (pc := 15) (v := 9) dX12_use_15 (by decide) ?_
  refine R_icmp_eq (pc := 17) (tgt := 26) dX12_use_17 (by decide) (fun c_2 => absurd c_2 (by decide)) (fun c_2 => ?_)
  refine R_iload_n (pc := 20) 1 dX12_use_20 rfl rfl ?_
  refine R_bipush (pc := 21) (v := 15) dX12_use_21 (by decide) ?_
  refine R_icmp_ne (pc := 23) (tgt := 30) dX12_use_23 (by decide) (fun c_3 => ?_) (fun c_3 => absurd c_3 (by decide))
  refine R_iconst (pc := 30) (v := 0) dX12_use_30 (by decide) ?_
  refine R_callVh (pc := 31) (μ' := mX12_hasKeys) (As := [.int 0]) (st := []) dX12_use_31 zX12_hasKeys lX12_250 ⟨by decide, by decide⟩ rfl rfl ⟨by decide, by decide⟩ S.obj (by omega) rfl (Nat.le_of_ble_eq_true rfl) (oX12_hasKeys_0 S hn m hz0 hm B hB) (fun h_4 r_ q_5 => ?_)
  obtain ⟨ψa, rfl, Sa, Ka, Ea, Fa⟩ := q_5
  refine R_if_ne (pc := 34) (tgt := 40) dX12_use_34 (by decide) (fun c_6 => ?_) (fun c_6 => absurd c_6 (by decide))
  refine R_aload_n (pc := 40) 0 dX12_use_40 rfl rfl ?_
  refine R_iload_n (pc := 41) 1 dX12_use_41 rfl rfl ?_
  refine R_iload_n (pc := 42) 2 dX12_use_42 rfl rfl ?_
  refine R_callVh (pc := 43) (μ' := mX12_fits) (As := [.int 1, .int 1]) (st := []) dX12_use_43 zX12_fits lX12_254 ⟨by decide, by decide⟩ rfl rfl ⟨by decide, by decide⟩ Sa.obj (by omega) rfl (Nat.le_of_ble_eq_true rfl) (oX12_fits_1o Sa hn D.length N.length mm hD hN (by omega) hz1 hz2 hi1 hP) (fun h_7 r_ q_8 => ?_)
  obtain ⟨rfl, Sb, Fb⟩ := q_8
  refine R_if_ne (pc := 46) (tgt := 52) dX12_use_46 (by decide) (fun c_9 => ?_) (fun c_9 => absurd c_9 (by decide))
  refine R_aload_n (pc := 52) 0 dX12_use_52 rfl rfl ?_
  refine R_callVh (pc := 53) (μ' := mX12_load) (As := []) (st := []) dX12_use_53 zX12_load lX12_258 ⟨by decide, by decide⟩ rfl rfl ⟨by decide, by decide⟩ Sb.obj (by omega) rfl (Nat.le_of_ble_eq_true rfl) (oX12_load Sb hn D.length N.length A.length hz1 hz2 hz3 hD hN hA) (fun h_10 r_ q_11 => ?_)
  obtain ⟨rfl, Sc, Fc⟩ := q_11
  obtain ⟨ψc, ec⟩ : ∃ x, x = (uo (uo (uo ψa 71 (cpB (ψa 62) 512 (ψa 71) 0 D.length)) 73 (cpB (ψa 62) 1024 (ψa 73) 0 N.length)) 74 (cpB (ψa 62) 1536 (ψa 74) 0 A.length)) := ⟨_, rfl⟩
  rw [← ec] at Sc
  have Kc : FR [67, 68, 71, 72, 73, 74, 75, 76, 77, 78, 79, 80, 81, 82, 83, 84, 85, 86, 87, 88, 89, 90] ψ ψc := by rw [ec]; exact (((((FR.rf _ _).tr Ka (by decide)).up (by decide)).up (by decide)).up (by decide))
  have e62 : ψa 62 = ψ 62 := Ka 62 (by decide)
  have sD : sg (ψc 71) 0 D := by rw [ec]; exact (show sg (ψa 62) 512 D by rw [e62]; exact s1).cp (ψa 71) 0 rfl
  have sN : sg (ψc 73) 0 N := by rw [ec]; exact (show sg (ψa 62) 1024 N by rw [e62]; exact s2).cp (ψa 73) 0 rfl
  have sA : sg (ψc 74) 0 A := by rw [ec]; exact (show sg (ψa 62) 1536 A by rw [e62]; exact s3).cp (ψa 74) 0 rfl
  have K0 : Kh ψc 0 F G := HK0 ψc Kc (by rw [ec]; exact Ea)
  have hb : D.length = 16 * nbk D := by have : D.length % 16 = 0 := hP; unfold nbk; omega
  refine R_iconst (pc := 56) (v := 0) dX12_use_56 (by decide) ?_
  refine R_istore_n (pc := 57) (lv' := [(3, .int 0), (0, .ref 61), (1, .int 1), (2, .int 1)]) dX12_use_57 rfl (by decide) rfl ?_
  refine R_iload_n (pc := 58) 2 dX12_use_58 rfl rfl ?_
  refine R_tableIn (pc := 59) (tgt := 132) dX12_use_59 (by decide) (by decide) rfl (by decide) ?_
  refine R_aload_n (pc := 132) 1 dX12_use_132 rfl rfl ?_
  refine R_iload_n (pc := 133) 3 dX12_use_133 rfl rfl ?_
  refine R_callVh (pc := 134) (μ' := mX12_book) (As := [.int 1]) (st := []) dX12_use_134 zX12_book lX12_261 ⟨by decide, by decide⟩ rfl rfl ⟨by decide, by decide⟩ Sc.obj (by omega) rfl (Nat.le_of_ble_eq_true rfl) (oX12_book_o Sc hn (nbk D) (by omega) (show nI D.length = nI (16 * nbk D) by rw [← hb]) K0 D hb sD) (fun h_12 r_ q_13 => ?_)
  obtain ⟨ψd, rfl, Sd, Kd, Yd, Fd⟩ := q_13
  refine R_goto (pc := 137) (tgt := 334) dX12_use_137 (by decide) ?_
  refine R_iload_n (pc := 334) 0 dX12_use_334 rfl rfl ?_
  refine R_if_ge (pc := 335) (tgt := 342) dX12_use_335 (by decide) (fun c_14 => ?_) (fun c_14 => absurd (by decide) c_14)
  have yF : sg (ψd 72) 0 (bkN G D (nbk D)) := Yd
  have lF : (bkN G D (nbk D)).length = 16 * nbk D := bkN_len _ _ _
  have hl7 : (bkN G D (nbk D)).length ≤ 700 := by rw [lF]; omega
  refine R_aload_n (pc := 342) 1 dX12_use_342 rfl rfl ?_
  refine R_aload_n (pc := 343) 1 dX12_use_343 rfl rfl ?_
  refine R_get (pc := 344) dX12_use_344 fX12_44 Sd.obj (by omega) rfl ?_
  refine R_aload_n (pc := 347) 1 dX12_use_347 rfl rfl ?_
  refine R_get (pc := 348) dX12_use_348 fX12_153 Sd.obj (by omega) rfl ?_
  refine R_eqi (y := nI (16 * nbk D)) rfl ?_
  refine R_eqi (y := nI (bkN G D (nbk D)).length) (by rw [lF]) ?_
  refine R_callVh (pc := 351) (μ' := mX12_come) (As := [.ref 72, .int (nI (bkN G D (nbk D)).length)]) (st := []) dX12_use_351 zX12_come lX12_297 ⟨by decide, by decide⟩ rfl rfl ⟨by decide, by decide⟩ Sd.obj (by omega) rfl (Nat.le_of_ble_eq_true rfl) (oX12_come Sd hn (p := 72) rfl (by decide) (bkN G D (nbk D)).length hl7 hl7) (fun h_15 r_ q_16 => ?_)
  obtain ⟨rfl, Se, Fe⟩ := q_16
  have KF : FR [67, 68, 71, 72, 73, 74, 75, 76, 77, 78, 79, 80, 81, 82, 83, 84, 85, 86, 87, 88, 89, 90] ψ ψd := (Kc.tr Kd (by decide))
  exact R_ireturn (pc := 354) dX12_use_354 rfl (by decide) (by decide) ⟨rfl, _, _, rfl, Se, ⟨KF 62 (by decide), KF 65 (by decide), KF 66 (by decide)⟩, ⟨rfl, rfl⟩, ⟨sg.cp yF _ 0 rfl, ui_s _ _ _⟩, ((((Fa.tr Fb).tr Fc).tr Fd).tr Fe)⟩
set_option maxHeartbeats 1000000 in
set_option maxRecDepth 100000 in
theorem oX12_use_2s {l : Launch} {w : am_W} {h : am_H} {n : Nat} {ψ : Nat → oA} {z : fA} {i : mI} (S : MO h ψ z i) (hn : 90 ≤ n) (A N D : List (BitVec 8)) (mm m : Nat) (hA : A.length ≤ 256) (hN : N.length ≤ 64) (hD : D.length ≤ 512) (hmm : 4 ≤ mm) (hmm16 : mm ≤ 16) (hi1 : i 1 = nI mm) (hz0 : z 0 = nI (4 * m)) (hm : m = 4 ∨ m = 6 ∨ m = 8) (hz1 : z 1 = nI D.length) (hz2 : z 2 = nI N.length) (hz3 : z 3 = nI A.length) (s1 : sg (ψ 62) 512 D) (s2 : sg (ψ 62) 1024 N) (s3 : sg (ψ 62) 1536 A) (B : BitVec 8 → BitVec 8) (hB : ∀ v : BitVec 8, ψ 65 v.toNat = B v) {F G : bP → bP} (HK0 : ∀ ψ2, FR [67, 68, 71, 72, 73, 74, 75, 76, 77, 78, 79, 80, 81, 82, 83, 84, 85, 86, 87, 88, 89, 90] ψ ψ2 → exK ψ2 B 0 0 m → Kh ψ2 0 F G) (hP : ftP 2 0 D.length N.length mm) : RH l w mX12_use h n [.ref 61, .int 2, .int 0] (uQ h ψ z i (nI (stN (chS F D) (rd N 0) (nbk D)).2.length) (some (stN (chS F D) (rd N 0) (nbk D)).2)) := by
  refine RC.of [(0, .ref 61), (1, .int 2), (2, .int 0)] (by decide +kernel) rfl (Nat.le_of_ble_eq_true rfl) ?_
  have hm8 : 4 ≤ m ∧ m ≤ 8 := by omega
  have hbk : D.length = 16 * nbk D := by have : D.length % 16 = 0 := hP.1; unfold nbk; omega
  refine R_iload_n (pc := 0) 1 dX12_use_0 rfl rfl ?_
  refine R_iconst (pc := 1) (v := 1) dX12_use_1 (by decide) ?_
  refine R_bipush (pc := 2) (v := 16) dX12_use_2 (by decide) ?_
  refine R_callSp (pc := 4) (μ' := mX12_in) (As := [.int 2, .int 1, .int 16]) (st := []) dX12_use_4 zX12_in lX12_108 ⟨by decide, by decide⟩ rfl rfl ⟨by decide, by decide⟩ rfl (Nat.le_of_ble_eq_true rfl) (qX12_in l w _ _ _ _ _) ?_
  refine R_eqi (y := 1) (by decide) ?_
  refine R_if_ne (pc := 7) (tgt := 13) dX12_use_7 (by decide) (fun c_1 => ?_) (fun c_1 => absurd c_1 (by decide))
  refine R_aload_n (pc := 13) 0 dX12_use_13 rfl rfl ?_
  refine R_iload_n (pc := 14) 1 dX12_use_14 rfl rfl ?_
  refine R_bipush (pc := 15) (v := 9) dX12_use_15 (by decide) ?_
  refine R_icmp_eq (pc := 17) (tgt := 26) dX12_use_17 (by decide) (fun c_2 => absurd c_2 (by decide)) (fun c_2 => ?_)
  refine R_iload_n (pc := 20) 1 dX12_use_20 rfl rfl ?_
  refine R_bipush (pc := 21) (v := 15) dX12_use_21 (by decide) ?_
  refine R_icmp_ne (pc := 23) (tgt := 30) dX12_use_23 (by decide) (fun c_3 => ?_) (fun c_3 => absurd c_3 (by decide))
  refine R_iconst (pc := 30) (v := 0) dX12_use_30 (by decide) ?_
  refine R_callVh (pc := 31) (μ' := mX12_hasKeys) (As := [.int 0]) (st := []) dX12_use_31 zX12_hasKeys lX12_250 ⟨by decide, by decide⟩ rfl rfl ⟨by decide, by decide⟩ S.obj (by omega) rfl (Nat.le_of_ble_eq_true rfl) (oX12_hasKeys_0 S hn m hz0 hm B hB) (fun h_4 r_ q_5 => ?_)
  obtain ⟨ψa, rfl, Sa, Ka, Ea, Fa⟩ := q_5
  refine R_if_ne (pc := 34) (tgt := 40) dX12_use_34 (by decide) (fun c_6 => ?_) (fun c_6 => absurd c_6 (by decide))
  refine R_aload_n (pc := 40) 0 dX12_use_40 rfl rfl ?_
  refine R_iload_n (pc := 41) 1 dX12_use_41 rfl rfl ?_
  refine R_iload_n (pc := 42) 2 dX12_use_42 rfl rfl ?_
  refine R_callVh (pc := 43) (μ' := mX12_fits) (As := [.int 2, .int 0]) (st := []) dX12_use_43 zX12_fits lX12_254 ⟨by decide, by decide⟩ rfl rfl ⟨by decide, by decide⟩ Sa.obj (by omega) rfl (Nat.le_of_ble_eq_true rfl) (oX12_fits_2s Sa hn D.length N.length mm hD hN (by omega) hz1 hz2 hi1 hP) (fun h_7 r_ q_8 => ?_)
  obtain ⟨rfl, Sb, Fb⟩ := q_8
  refine R_if_ne (pc := 46) (tgt := 52) dX12_use_46 (by decide) (fun c_9 => ?_) (fun c_9 => absurd c_9 (by decide))
  refine R_aload_n (pc := 52) 0 dX12_use_52 rfl rfl ?_
  refine R_callVh (pc := 53) (μ' := mX12_load) (As := []) (st := []) dX12_use_53 zX12_load lX12_258 ⟨by decide, by decide⟩ rfl rfl ⟨by decide, by decide⟩ Sb.obj (by omega) rfl (Nat.le_of_ble_eq_true rfl) (oX12_load Sb hn D.length N.length A.length hz1 hz2 hz3 hD hN hA) (fun h_10 r_ q_11 => ?_)
  obtain ⟨rfl, Sc, Fc⟩ := q_11
  obtain ⟨ψc, ec⟩ : ∃ x, x = (uo (uo (uo ψa 71 (cpB (ψa 62) 512 (ψa 71) 0 D.length)) 73 (cpB (ψa 62) 1024 (ψa 73) 0 N.length)) 74 (cpB (ψa 62) 1536 (ψa 74) 0 A.length)) := ⟨_, rfl⟩
  rw [← ec] at Sc
  have Kc : FR [67, 68, 71, 72, 73, 74, 75, 76, 77, 78, 79, 80, 81, 82, 83, 84, 85, 86, 87, 88, 89, 90] ψ ψc := by rw [ec]; exact (((((FR.rf _ _).tr Ka (by decide)).up (by decide)).up (by decide)).up (by decide))
  have e62 : ψa 62 = ψ 62 := Ka 62 (by decide)
  have sD : sg (ψc 71) 0 D := by rw [ec]; exact (show sg (ψa 62) 512 D by rw [e62]; exact s1).cp (ψa 71) 0 rfl
  have sN : sg (ψc 73) 0 N := by rw [ec]; exact (show sg (ψa 62) 1024 N by rw [e62]; exact s2).cp (ψa 73) 0 rfl
  have sA : sg (ψc 74) 0 A := by rw [ec]; exact (show sg (ψa 62) 1536 A by rw [e62]; exact s3).cp (ψa 74) 0 rfl
  have K0 : Kh ψc 0 F G := HK0 ψc Kc (by rw [ec]; exact Ea)
  have eN : gt (ψc 73) 0 = rd N 0 := sg_rd0 sN (by have h_ : N.length = 16 := hP.2; omega)
  refine R_iconst (pc := 56) (v := 0) dX12_use_56 (by decide) ?_
  refine R_istore_n (pc := 57) (lv' := [(3, .int 0), (0, .ref 61), (1, .int 2), (2, .int 0)]) dX12_use_57 rfl (by decide) rfl ?_
  refine R_iload_n (pc := 58) 2 dX12_use_58 rfl rfl ?_
  refine R_tableIn (pc := 59) (tgt := 140) dX12_use_59 (by decide) (by decide) rfl (by decide) ?_
  refine R_aload_n (pc := 140) 1 dX12_use_140 rfl rfl ?_
  refine R_get (pc := 141) dX12_use_141 fX12_47 Sc.obj (by omega) rfl ?_
  refine R_iconst (pc := 144) (v := 0) dX12_use_144 (by decide) ?_
  refine R_aload_n (pc := 145) 1 dX12_use_145 rfl rfl ?_
  refine R_get (pc := 146) dX12_use_146 fX12_53 Sc.obj (by omega) rfl ?_
  refine R_iconst (pc := 149) (v := 0) dX12_use_149 (by decide) ?_
  refine R_bipush (pc := 150) (v := 16) dX12_use_150 (by decide) ?_
  refine R_callSh (pc := 152) (μ' := mX12_copy) (As := [.ref 73, .int (nI 0), .ref 75, .int (nI 0), .int 16]) (st := []) dX12_use_152 zX12_copy lX12_133 ⟨by decide, by decide⟩ rfl rfl ⟨by decide, by decide⟩ rfl (Nat.le_of_ble_eq_true rfl) (oX12_copy16 Sc hn (p := 73) (q := 75) rfl rfl 0 0 (by show 0 + 16 ≤ 64; omega) (by show 0 + 16 ≤ 16; omega) (by decide)) (fun h_12 r_ q_13 => ?_)
  obtain ⟨rfl, S_14, F_15⟩ := q_13
  have S_16 : MO h_12 (uo ψc 75 (pt (ψc 75) 0 (gt (ψc 73) 0))) z (ui (ui (ui i 3 (nI D.length)) 5 (nI N.length)) 6 (nI A.length)) := S_14
  refine R_iload_n (pc := 155) 3 dX12_use_155 rfl rfl ?_
  refine R_if_eq (pc := 156) (tgt := 173) dX12_use_156 (by decide) (fun c_17 => ?_) (fun c_17 => absurd (rfl) c_17)
  refine R_aload_n (pc := 173) 1 dX12_use_173 rfl rfl ?_
  refine R_get (pc := 174) dX12_use_174 fX12_41 S_16.obj (by omega) rfl ?_
  refine R_iconst (pc := 177) (v := 0) dX12_use_177 (by decide) ?_
  refine R_aload_n (pc := 178) 1 dX12_use_178 rfl rfl ?_
  refine R_get (pc := 179) dX12_use_179 fX12_44 S_16.obj (by omega) rfl ?_
  refine R_iconst (pc := 182) (v := 0) dX12_use_182 (by decide) ?_
  refine R_aload_n (pc := 183) 1 dX12_use_183 rfl rfl ?_
  refine R_get (pc := 184) dX12_use_184 fX12_130 S_16.obj (by omega) rfl ?_
  refine R_eqi (y := nI D.length) rfl ?_
  refine R_callSh (pc := 187) (μ' := mX12_copy) (As := [.ref 71, .int (nI 0), .ref 72, .int (nI 0), .int (nI D.length)]) (st := []) dX12_use_187 zX12_copy lX12_133 ⟨by decide, by decide⟩ rfl rfl ⟨by decide, by decide⟩ rfl (Nat.le_of_ble_eq_true rfl) (oX12_copy S_16 hn (p := 71) (q := 72) rfl rfl 0 0 D.length (by show 0 + D.length ≤ 700; omega) (by show 0 + D.length ≤ 700; omega) (by decide)) (fun h_18 r_ q_19 => ?_)
  obtain ⟨rfl, S_20, F_21⟩ := q_19
  have S_22 : MO h_18 (uo (uo ψc 75 (pt (ψc 75) 0 (gt (ψc 73) 0))) 72 (cpB (ψc 71) 0 (ψc 72) 0 D.length)) z (ui (ui (ui i 3 (nI D.length)) 5 (nI N.length)) 6 (nI A.length)) := S_20
  refine R_aload_n (pc := 190) 1 dX12_use_190 rfl rfl ?_
  refine R_iconst (pc := 191) (v := 0) dX12_use_191 (by decide) ?_
  refine R_iconst (pc := 192) (v := 0) dX12_use_192 (by decide) ?_
  refine R_aload_n (pc := 193) 1 dX12_use_193 rfl rfl ?_
  refine R_get (pc := 194) dX12_use_194 fX12_130 S_22.obj (by omega) rfl ?_
  refine R_eqi (y := nI D.length) rfl ?_
  refine R_bipush (pc := 197) (v := 16) dX12_use_197 (by decide) ?_
  refine R_idiv (pc := 199) dX12_use_199 (by decide) ?_
  refine R_eqi (y := nI (nbk D)) ((nI_div (a := D.length) (b := 16) (by omega) (by omega)).trans (congrArg nI (by have : D.length % 16 = 0 := hP.1; unfold nbk; omega))) ?_
  refine R_callVh (pc := 200) (μ' := mX12_chain) (As := [.int (nI 0), .int (nI 0), .int (nI (nbk D))]) (st := []) dX12_use_200 zX12_chain lX12_160 ⟨by decide, by decide⟩ rfl rfl ⟨by decide, by decide⟩ S_22.obj (by omega) rfl (Nat.le_of_ble_eq_true rfl) (oX12_chain S_22 hn 0 0 (nbk D) (by omega) ((K0.uo (by decide)).uo (by decide)) D (fun j_ hj_ => (show sg _ 0 D from sD.cp _ 0 rfl) j_ (by omega)) (rd N 0) ((gt_pt _ _ _).trans eN)) (fun h_23 r_ q_24 => ?_)
  obtain ⟨ψ_28, rfl, S_25, K_27, J_29, F_26⟩ := q_24
  have K_30 := ((K0.uo (by decide)).uo (by decide)).fr K_27 (by decide) (by decide) (by decide) (by decide)
  have Yd : sg (ψ_28 72) 0 (stN (chS F D) (rd N 0) (nbk D)).2 := J_29.2.1
  refine R_aload_n (pc := 203) 1 dX12_use_203 rfl rfl ?_
  refine R_aload_n (pc := 204) 1 dX12_use_204 rfl rfl ?_
  refine R_get (pc := 205) dX12_use_205 fX12_130 S_25.obj (by omega) rfl ?_
  refine R_eqi (y := nI D.length) rfl ?_
  refine R_put' (pc := 208) (fs' := [.int (i 0), .ref 62, .ref 63, .int (i 1), .ref 64, .int (i 2), .ref 65, .ref 66, .ref 67, .ref 68, .ref 69, .ref 70, .ref 71, .int (nI D.length), .ref 72, .int (nI D.length), .ref 73, .int (nI N.length), .ref 74, .int (nI A.length), .ref 75, .ref 76, .ref 77, .ref 78, .ref 79, .ref 80, .ref 81, .ref 82, .ref 83, .ref 84, .int (i 7), .ref 85, .ref 86, .ref 87, .ref 88, .ref 89, .ref 90]) dX12_use_208 fX12_153 tX12_15 rfl rfl S_25.obj (by omega) (Nat.le_of_ble_eq_true rfl) rfl (fun h_31 f_32 g_33 => ?_)
  have S_34 : MO h_31 ψ_28 z (ui (ui (ui (ui i 3 (nI D.length)) 5 (nI N.length)) 6 (nI A.length)) 4 (nI D.length)) := MO.setI (j := (ui (ui (ui (ui i 3 (nI D.length)) 5 (nI N.length)) 6 (nI A.length)) 4 (nI D.length))) S_25 f_32 g_33
  have F_35 := fmI g_33
  refine R_goto (pc := 211) (tgt := 334) dX12_use_211 (by decide) ?_
  refine R_iload_n (pc := 334) 0 dX12_use_334 rfl rfl ?_
  refine R_if_ge (pc := 335) (tgt := 342) dX12_use_335 (by decide) (fun c_36 => ?_) (fun c_36 => absurd (by decide) c_36)
  have yF : sg (ψ_28 72) 0 (stN (chS F D) (rd N 0) (nbk D)).2 := Yd
  have lF : (stN (chS F D) (rd N 0) (nbk D)).2.length = D.length := by rw [stN_len (chS_len F D)]; have : D.length % 16 = 0 := hP.1; unfold nbk; omega
  have hl7 : (stN (chS F D) (rd N 0) (nbk D)).2.length ≤ 700 := by rw [lF]; omega
  refine R_aload_n (pc := 342) 1 dX12_use_342 rfl rfl ?_
  refine R_aload_n (pc := 343) 1 dX12_use_343 rfl rfl ?_
  refine R_get (pc := 344) dX12_use_344 fX12_44 S_34.obj (by omega) rfl ?_
  refine R_aload_n (pc := 347) 1 dX12_use_347 rfl rfl ?_
  refine R_get (pc := 348) dX12_use_348 fX12_153 S_34.obj (by omega) rfl ?_
  refine R_eqi (y := nI D.length) rfl ?_
  refine R_eqi (y := nI (stN (chS F D) (rd N 0) (nbk D)).2.length) (by rw [lF]) ?_
  refine R_callVh (pc := 351) (μ' := mX12_come) (As := [.ref 72, .int (nI (stN (chS F D) (rd N 0) (nbk D)).2.length)]) (st := []) dX12_use_351 zX12_come lX12_297 ⟨by decide, by decide⟩ rfl rfl ⟨by decide, by decide⟩ S_34.obj (by omega) rfl (Nat.le_of_ble_eq_true rfl) (oX12_come S_34 hn (p := 72) rfl (by decide) (stN (chS F D) (rd N 0) (nbk D)).2.length hl7 hl7) (fun h_37 r_ q_38 => ?_)
  obtain ⟨rfl, Se, Fe⟩ := q_38
  have KF : FR [67, 68, 71, 72, 73, 74, 75, 76, 77, 78, 79, 80, 81, 82, 83, 84, 85, 86, 87, 88, 89, 90] ψ ψ_28 := (((Kc.up (by decide)).up (by decide)).tr K_27 (by decide))
  exact R_ireturn (pc := 354) dX12_use_354 rfl (by decide) (by decide) ⟨rfl, _, _, rfl, Se, ⟨KF 62 (by decide), KF 65 (by decide), KF 66 (by decide)⟩, ⟨rfl, rfl⟩, ⟨sg.cp yF _ 0 rfl, ui_s _ _ _⟩, (((((((Fa.tr Fb).tr Fc).tr F_15).tr F_21).tr F_26).tr F_35).tr Fe)⟩
set_option maxHeartbeats 1000000 in
set_option maxRecDepth 100000 in
theorem oX12_use_2o {l : Launch} {w : am_W} {h : am_H} {n : Nat} {ψ : Nat → oA} {z : fA} {i : mI} (S : MO h ψ z i) (hn : 90 ≤ n) (A N D : List (BitVec 8)) (mm m : Nat) (hA : A.length ≤ 256) (hN : N.length ≤ 64) (hD : D.length ≤ 512) (hmm : 4 ≤ mm) (hmm16 : mm ≤ 16) (hi1 : i 1 = nI mm) (hz0 : z 0 = nI (4 * m)) (hm : m = 4 ∨ m = 6 ∨ m = 8) (hz1 : z 1 = nI D.length) (hz2 : z 2 = nI N.length) (hz3 : z 3 = nI A.length) (s1 : sg (ψ 62) 512 D) (s2 : sg (ψ 62) 1024 N) (s3 : sg (ψ 62) 1536 A) (B : BitVec 8 → BitVec 8) (hB : ∀ v : BitVec 8, ψ 65 v.toNat = B v) {F G : bP → bP} (HK0 : ∀ ψ2, FR [67, 68, 71, 72, 73, 74, 75, 76, 77, 78, 79, 80, 81, 82, 83, 84, 85, 86, 87, 88, 89, 90] ψ ψ2 → exK ψ2 B 0 0 m → Kh ψ2 0 F G) (hP : ftP 2 1 D.length N.length mm) : RH l w mX12_use h n [.ref 61, .int 2, .int 1] (uQ h ψ z i (nI (stN (ucS G D) (rd N 0) (nbk D)).2.length) (some (stN (ucS G D) (rd N 0) (nbk D)).2)) := by
  refine RC.of [(0, .ref 61), (1, .int 2), (2, .int 1)] (by decide +kernel) rfl (Nat.le_of_ble_eq_true rfl) ?_
  have hm8 : 4 ≤ m ∧ m ≤ 8 := by omega
  have hbk : D.length = 16 * nbk D := by have : D.length % 16 = 0 := hP.1; unfold nbk; omega
  refine R_iload_n (pc := 0) 1 dX12_use_0 rfl rfl ?_
  refine R_iconst (pc := 1) (v := 1) dX12_use_1 (by decide) ?_
  refine R_bipush (pc := 2) (v := 16) dX12_use_2 (by decide) ?_
  refine R_callSp (pc := 4) (μ' := mX12_in) (As := [.int 2, .int 1, .int 16]) (st := []) dX12_use_4 zX12_in lX12_108 ⟨by decide, by decide⟩ rfl rfl ⟨by decide, by decide⟩ rfl (Nat.le_of_ble_eq_true rfl) (qX12_in l w _ _ _ _ _) ?_
  refine R_eqi (y := 1) (by decide) ?_
  refine R_if_ne (pc := 7) (tgt := 13) dX12_use_7 (by decide) (fun c_1 => ?_) (fun c_1 => absurd c_1 (by decide))
  refine R_aload_n (pc := 13) 0 dX12_use_13 rfl rfl ?_
  refine R_iload_n (pc := 14) 1 dX12_use_14 rfl rfl ?_
  refine R_bipush (pc := 15) (v := 9) dX12_use_15 (by decide) ?_
  refine R_icmp_eq (pc := 17) (tgt := 26) dX12_use_17 (by decide) (fun c_2 => absurd c_2 (by decide)) (fun c_2 => ?_)
  refine R_iload_n (pc := 20) 1 dX12_use_20 rfl rfl ?_
  refine R_bipush (pc := 21) (v := 15) dX12_use_21 (by decide) ?_
  refine R_icmp_ne (pc := 23) (tgt := 30) dX12_use_23 (by decide) (fun c_3 => ?_) (fun c_3 => absurd c_3 (by decide))
  refine R_iconst (pc := 30) (v := 0) dX12_use_30 (by decide) ?_
  refine R_callVh (pc := 31) (μ' := mX12_hasKeys) (As := [.int 0]) (st := []) dX12_use_31 zX12_hasKeys lX12_250 ⟨by decide, by decide⟩ rfl rfl ⟨by decide, by decide⟩ S.obj (by omega) rfl (Nat.le_of_ble_eq_true rfl) (oX12_hasKeys_0 S hn m hz0 hm B hB) (fun h_4 r_ q_5 => ?_)
  obtain ⟨ψa, rfl, Sa, Ka, Ea, Fa⟩ := q_5
  refine R_if_ne (pc := 34) (tgt := 40) dX12_use_34 (by decide) (fun c_6 => ?_) (fun c_6 => absurd c_6 (by decide))
  refine R_aload_n (pc := 40) 0 dX12_use_40 rfl rfl ?_
  refine R_iload_n (pc := 41) 1 dX12_use_41 rfl rfl ?_
  refine R_iload_n (pc := 42) 2 dX12_use_42 rfl rfl ?_
  refine R_callVh (pc := 43) (μ' := mX12_fits) (As := [.int 2, .int 1]) (st := []) dX12_use_43 zX12_fits lX12_254 ⟨by decide, by decide⟩ rfl rfl ⟨by decide, by decide⟩ Sa.obj (by omega) rfl (Nat.le_of_ble_eq_true rfl) (oX12_fits_2o Sa hn D.length N.length mm hD hN (by omega) hz1 hz2 hi1 hP) (fun h_7 r_ q_8 => ?_)
  obtain ⟨rfl, Sb, Fb⟩ := q_8
  refine R_if_ne (pc := 46) (tgt := 52) dX12_use_46 (by decide) (fun c_9 => ?_) (fun c_9 => absurd c_9 (by decide))
  refine R_aload_n (pc := 52) 0 dX12_use_52 rfl rfl ?_
  refine R_callVh (pc := 53) (μ' := mX12_load) (As := []) (st := []) dX12_use_53 zX12_load lX12_258 ⟨by decide, by decide⟩ rfl rfl ⟨by decide, by decide⟩ Sb.obj (by omega) rfl (Nat.le_of_ble_eq_true rfl) (oX12_load Sb hn D.length N.length A.length hz1 hz2 hz3 hD hN hA) (fun h_10 r_ q_11 => ?_)
  obtain ⟨rfl, Sc, Fc⟩ := q_11
  obtain ⟨ψc, ec⟩ : ∃ x, x = (uo (uo (uo ψa 71 (cpB (ψa 62) 512 (ψa 71) 0 D.length)) 73 (cpB (ψa 62) 1024 (ψa 73) 0 N.length)) 74 (cpB (ψa 62) 1536 (ψa 74) 0 A.length)) := ⟨_, rfl⟩
  rw [← ec] at Sc
  have Kc : FR [67, 68, 71, 72, 73, 74, 75, 76, 77, 78, 79, 80, 81, 82, 83, 84, 85, 86, 87, 88, 89, 90] ψ ψc := by rw [ec]; exact (((((FR.rf _ _).tr Ka (by decide)).up (by decide)).up (by decide)).up (by decide))
  have e62 : ψa 62 = ψ 62 := Ka 62 (by decide)
  have sD : sg (ψc 71) 0 D := by rw [ec]; exact (show sg (ψa 62) 512 D by rw [e62]; exact s1).cp (ψa 71) 0 rfl
  have sN : sg (ψc 73) 0 N := by rw [ec]; exact (show sg (ψa 62) 1024 N by rw [e62]; exact s2).cp (ψa 73) 0 rfl
  have sA : sg (ψc 74) 0 A := by rw [ec]; exact (show sg (ψa 62) 1536 A by rw [e62]; exact s3).cp (ψa 74) 0 rfl
  have K0 : Kh ψc 0 F G := HK0 ψc Kc (by rw [ec]; exact Ea)
  have eN : gt (ψc 73) 0 = rd N 0 := sg_rd0 sN (by have h_ : N.length = 16 := hP.2; omega)
  refine R_iconst (pc := 56) (v := 0) dX12_use_56 (by decide) ?_
  refine R_istore_n (pc := 57) (lv' := [(3, .int 0), (0, .ref 61), (1, .int 2), (2, .int 1)]) dX12_use_57 rfl (by decide) rfl ?_
  refine R_iload_n (pc := 58) 2 dX12_use_58 rfl rfl ?_
  refine R_tableIn (pc := 59) (tgt := 140) dX12_use_59 (by decide) (by decide) rfl (by decide) ?_
  refine R_aload_n (pc := 140) 1 dX12_use_140 rfl rfl ?_
  refine R_get (pc := 141) dX12_use_141 fX12_47 Sc.obj (by omega) rfl ?_
  refine R_iconst (pc := 144) (v := 0) dX12_use_144 (by decide) ?_
  refine R_aload_n (pc := 145) 1 dX12_use_145 rfl rfl ?_
  refine R_get (pc := 146) dX12_use_146 fX12_53 Sc.obj (by omega) rfl ?_
  refine R_iconst (pc := 149) (v := 0) dX12_use_149 (by decide) ?_
  refine R_bipush (pc := 150) (v := 16) dX12_use_150 (by decide) ?_
  refine R_callSh (pc := 152) (μ' := mX12_copy) (As := [.ref 73, .int (nI 0), .ref 75, .int (nI 0), .int 16]) (st := []) dX12_use_152 zX12_copy lX12_133 ⟨by decide, by decide⟩ rfl rfl ⟨by decide, by decide⟩ rfl (Nat.le_of_ble_eq_true rfl) (oX12_copy16 Sc hn (p := 73) (q := 75) rfl rfl 0 0 (by show 0 + 16 ≤ 64; omega) (by show 0 + 16 ≤ 16; omega) (by decide)) (fun h_12 r_ q_13 => ?_)
  obtain ⟨rfl, S_14, F_15⟩ := q_13
  have S_16 : MO h_12 (uo ψc 75 (pt (ψc 75) 0 (gt (ψc 73) 0))) z (ui (ui (ui i 3 (nI D.length)) 5 (nI N.length)) 6 (nI A.length)) := S_14
  refine R_iload_n (pc := 155) 3 dX12_use_155 rfl rfl ?_
  refine R_if_eq (pc := 156) (tgt := 173) dX12_use_156 (by decide) (fun c_17 => absurd c_17 (by decide)) (fun c_17 => ?_)
  refine R_aload_n (pc := 159) 1 dX12_use_159 rfl rfl ?_
  refine R_aload_n (pc := 160) 1 dX12_use_160 rfl rfl ?_
  refine R_get (pc := 161) dX12_use_161 fX12_130 S_16.obj (by omega) rfl ?_
  refine R_eqi (y := nI D.length) rfl ?_
  refine R_bipush (pc := 164) (v := 16) dX12_use_164 (by decide) ?_
  refine R_idiv (pc := 166) dX12_use_166 (by decide) ?_
  refine R_eqi (y := nI (nbk D)) ((nI_div (a := D.length) (b := 16) (by omega) (by omega)).trans (congrArg nI (by have : D.length % 16 = 0 := hP.1; unfold nbk; omega))) ?_
  refine R_callVh (pc := 167) (μ' := mX12_unchain) (As := [.int (nI (nbk D))]) (st := []) dX12_use_167 zX12_unchain lX12_156 ⟨by decide, by decide⟩ rfl rfl ⟨by decide, by decide⟩ S_16.obj (by omega) rfl (Nat.le_of_ble_eq_true rfl) (oX12_unchain S_16 hn (nbk D) (by omega) (K0.uo (by decide)) D (by omega) sD (rd N 0) ((gt_pt _ _ _).trans eN)) (fun h_18 r_ q_19 => ?_)
  obtain ⟨ψ_23, rfl, S_20, K_22, J_24, F_21⟩ := q_19
  have K_25 := (K0.uo (by decide)).fr K_22 (by decide) (by decide) (by decide) (by decide)
  have Yd : sg (ψ_23 72) 0 (stN (ucS G D) (rd N 0) (nbk D)).2 := J_24.2
  refine R_goto (pc := 170) (tgt := 203) dX12_use_170 (by decide) ?_
  refine R_aload_n (pc := 203) 1 dX12_use_203 rfl rfl ?_
  refine R_aload_n (pc := 204) 1 dX12_use_204 rfl rfl ?_
  refine R_get (pc := 205) dX12_use_205 fX12_130 S_20.obj (by omega) rfl ?_
  refine R_eqi (y := nI D.length) rfl ?_
  refine R_put' (pc := 208) (fs' := [.int (i 0), .ref 62, .ref 63, .int (i 1), .ref 64, .int (i 2), .ref 65, .ref 66, .ref 67, .ref 68, .ref 69, .ref 70, .ref 71, .int (nI D.length), .ref 72, .int (nI D.length), .ref 73, .int (nI N.length), .ref 74, .int (nI A.length), .ref 75, .ref 76, .ref 77, .ref 78, .ref 79, .ref 80, .ref 81, .ref 82, .ref 83, .ref 84, .int (i 7), .ref 85, .ref 86, .ref 87, .ref 88, .ref 89, .ref 90]) dX12_use_208 fX12_153 tX12_15 rfl rfl S_20.obj (by omega) (Nat.le_of_ble_eq_true rfl) rfl (fun h_26 f_27 g_28 => ?_)
  have S_29 : MO h_26 ψ_23 z (ui (ui (ui (ui i 3 (nI D.length)) 5 (nI N.length)) 6 (nI A.length)) 4 (nI D.length)) := MO.setI (j := (ui (ui (ui (ui i 3 (nI D.length)) 5 (nI N.length)) 6 (nI A.length)) 4 (nI D.length))) S_20 f_27 g_28
  have F_30 := fmI g_28
  refine R_goto (pc := 211) (tgt := 334) dX12_use_211 (by decide) ?_
  refine R_iload_n (pc := 334) 0 dX12_use_334 rfl rfl ?_
  refine R_if_ge (pc := 335) (tgt := 342) dX12_use_335 (by decide) (fun c_31 => ?_) (fun c_31 => absurd (by decide) c_31)
  have yF : sg (ψ_23 72) 0 (stN (ucS G D) (rd N 0) (nbk D)).2 := Yd
  have lF : (stN (ucS G D) (rd N 0) (nbk D)).2.length = D.length := by rw [stN_len (ucS_len G D)]; have : D.length % 16 = 0 := hP.1; unfold nbk; omega
  have hl7 : (stN (ucS G D) (rd N 0) (nbk D)).2.length ≤ 700 := by rw [lF]; omega
  refine R_aload_n (pc := 342) 1 dX12_use_342 rfl rfl ?_
  refine R_aload_n (pc := 343) 1 dX12_use_343 rfl rfl ?_
  refine R_get (pc := 344) dX12_use_344 fX12_44 S_29.obj (by omega) rfl ?_
  refine R_aload_n (pc := 347) 1 dX12_use_347 rfl rfl ?_
  refine R_get (pc := 348) dX12_use_348 fX12_153 S_29.obj (by omega) rfl ?_
  refine R_eqi (y := nI D.length) rfl ?_
  refine R_eqi (y := nI (stN (ucS G D) (rd N 0) (nbk D)).2.length) (by rw [lF]) ?_
  refine R_callVh (pc := 351) (μ' := mX12_come) (As := [.ref 72, .int (nI (stN (ucS G D) (rd N 0) (nbk D)).2.length)]) (st := []) dX12_use_351 zX12_come lX12_297 ⟨by decide, by decide⟩ rfl rfl ⟨by decide, by decide⟩ S_29.obj (by omega) rfl (Nat.le_of_ble_eq_true rfl) (oX12_come S_29 hn (p := 72) rfl (by decide) (stN (ucS G D) (rd N 0) (nbk D)).2.length hl7 hl7) (fun h_32 r_ q_33 => ?_)
  obtain ⟨rfl, Se, Fe⟩ := q_33
  have KF : FR [67, 68, 71, 72, 73, 74, 75, 76, 77, 78, 79, 80, 81, 82, 83, 84, 85, 86, 87, 88, 89, 90] ψ ψ_23 := ((Kc.up (by decide)).tr K_22 (by decide))
  exact R_ireturn (pc := 354) dX12_use_354 rfl (by decide) (by decide) ⟨rfl, _, _, rfl, Se, ⟨KF 62 (by decide), KF 65 (by decide), KF 66 (by decide)⟩, ⟨rfl, rfl⟩, ⟨sg.cp yF _ 0 rfl, ui_s _ _ _⟩, ((((((Fa.tr Fb).tr Fc).tr F_15).tr F_21).tr F_30).tr Fe)⟩
set_option maxHeartbeats 1000000 in
set_option maxRecDepth 100000 in
theorem oX12_use_5s {l : Launch} {w : am_W} {h : am_H} {n : Nat} {ψ : Nat → oA} {z : fA} {i : mI} (S : MO h ψ z i) (hn : 90 ≤ n) (A N D : List (BitVec 8)) (mm m : Nat) (hA : A.length ≤ 256) (hN : N.length ≤ 64) (hD : D.length ≤ 512) (hmm : 4 ≤ mm) (hmm16 : mm ≤ 16) (hi1 : i 1 = nI mm) (hz0 : z 0 = nI (4 * m)) (hm : m = 4 ∨ m = 6 ∨ m = 8) (hz1 : z 1 = nI D.length) (hz2 : z 2 = nI N.length) (hz3 : z 3 = nI A.length) (s1 : sg (ψ 62) 512 D) (s2 : sg (ψ 62) 1024 N) (s3 : sg (ψ 62) 1536 A) (B : BitVec 8 → BitVec 8) (hB : ∀ v : BitVec 8, ψ 65 v.toNat = B v) {F G : bP → bP} (HK0 : ∀ ψ2, FR [67, 68, 71, 72, 73, 74, 75, 76, 77, 78, 79, 80, 81, 82, 83, 84, 85, 86, 87, 88, 89, 90] ψ ψ2 → exK ψ2 B 0 0 m → Kh ψ2 0 F G) (hP : ftP 5 0 D.length N.length mm) : RH l w mX12_use h n [.ref 61, .int 5, .int 0] (uQ h ψ z i (nI (stN (fbS F 0 D) (rd N 0) (nbk D)).2.length) (some (stN (fbS F 0 D) (rd N 0) (nbk D)).2)) := by
  refine RC.of [(0, .ref 61), (1, .int 5), (2, .int 0)] (by decide +kernel) rfl (Nat.le_of_ble_eq_true rfl) ?_
  have hm8 : 4 ≤ m ∧ m ≤ 8 := by omega
  refine R_iload_n (pc := 0) 1 dX12_use_0 rfl rfl ?_
  refine R_iconst (pc := 1) (v := 1) dX12_use_1 (by decide) ?_
  refine R_bipush (pc := 2) (v := 16) dX12_use_2 (by decide) ?_
  refine R_callSp (pc := 4) (μ' := mX12_in) (As := [.int 5, .int 1, .int 16]) (st := []) dX12_use_4 zX12_in lX12_108 ⟨by decide, by decide⟩ rfl rfl ⟨by decide, by decide⟩ rfl (Nat.le_of_ble_eq_true rfl) (qX12_in l w _ _ _ _ _) ?_
  refine R_eqi (y := 1) (by decide) ?_
  refine R_if_ne (pc := 7) (tgt := 13) dX12_use_7 (by decide) (fun c_1 => ?_) (fun c_1 => absurd c_1 (by decide))
  refine R_aload_n (pc := 13) 0 dX12_use_13 rfl rfl ?_
  refine R_iload_n (pc := 14) 1 dX12_use_14 rfl rfl ?_
  refine R_bipush (pc := 15) (v := 9) dX12_use_15 (by decide) ?_
  refine R_icmp_eq (pc := 17) (tgt := 26) dX12_use_17 (by decide) (fun c_2 => absurd c_2 (by decide)) (fun c_2 => ?_)
  refine R_iload_n (pc := 20) 1 dX12_use_20 rfl rfl ?_
  refine R_bipush (pc := 21) (v := 15) dX12_use_21 (by decide) ?_
  refine R_icmp_ne (pc := 23) (tgt := 30) dX12_use_23 (by decide) (fun c_3 => ?_) (fun c_3 => absurd c_3 (by decide))
  refine R_iconst (pc := 30) (v := 0) dX12_use_30 (by decide) ?_
  refine R_callVh (pc := 31) (μ' := mX12_hasKeys) (As := [.int 0]) (st := []) dX12_use_31 zX12_hasKeys lX12_250 ⟨by decide, by decide⟩ rfl rfl ⟨by decide, by decide⟩ S.obj (by omega) rfl (Nat.le_of_ble_eq_true rfl) (oX12_hasKeys_0 S hn m hz0 hm B hB) (fun h_4 r_ q_5 => ?_)
  obtain ⟨ψa, rfl, Sa, Ka, Ea, Fa⟩ := q_5
  refine R_if_ne (pc := 34) (tgt := 40) dX12_use_34 (by decide) (fun c_6 => ?_) (fun c_6 => absurd c_6 (by decide))
  refine R_aload_n (pc := 40) 0 dX12_use_40 rfl rfl ?_
  refine R_iload_n (pc := 41) 1 dX12_use_41 rfl rfl ?_
  refine R_iload_n (pc := 42) 2 dX12_use_42 rfl rfl ?_
  refine R_callVh (pc := 43) (μ' := mX12_fits) (As := [.int 5, .int 0]) (st := []) dX12_use_43 zX12_fits lX12_254 ⟨by decide, by decide⟩ rfl rfl ⟨by decide, by decide⟩ Sa.obj (by omega) rfl (Nat.le_of_ble_eq_true rfl) (oX12_fits_5s Sa hn D.length N.length mm hD hN (by omega) hz1 hz2 hi1 hP) (fun h_7 r_ q_8 => ?_)
  obtain ⟨rfl, Sb, Fb⟩ := q_8
  refine R_if_ne (pc := 46) (tgt := 52) dX12_use_46 (by decide) (fun c_9 => ?_) (fun c_9 => absurd c_9 (by decide))
  refine R_aload_n (pc := 52) 0 dX12_use_52 rfl rfl ?_
  refine R_callVh (pc := 53) (μ' := mX12_load) (As := []) (st := []) dX12_use_53 zX12_load lX12_258 ⟨by decide, by decide⟩ rfl rfl ⟨by decide, by decide⟩ Sb.obj (by omega) rfl (Nat.le_of_ble_eq_true rfl) (oX12_load Sb hn D.length N.length A.length hz1 hz2 hz3 hD hN hA) (fun h_10 r_ q_11 => ?_)
  obtain ⟨rfl, Sc, Fc⟩ := q_11
  obtain ⟨ψc, ec⟩ : ∃ x, x = (uo (uo (uo ψa 71 (cpB (ψa 62) 512 (ψa 71) 0 D.length)) 73 (cpB (ψa 62) 1024 (ψa 73) 0 N.length)) 74 (cpB (ψa 62) 1536 (ψa 74) 0 A.length)) := ⟨_, rfl⟩
  rw [← ec] at Sc
  have Kc : FR [67, 68, 71, 72, 73, 74, 75, 76, 77, 78, 79, 80, 81, 82, 83, 84, 85, 86, 87, 88, 89, 90] ψ ψc := by rw [ec]; exact (((((FR.rf _ _).tr Ka (by decide)).up (by decide)).up (by decide)).up (by decide))
  have e62 : ψa 62 = ψ 62 := Ka 62 (by decide)
  have sD : sg (ψc 71) 0 D := by rw [ec]; exact (show sg (ψa 62) 512 D by rw [e62]; exact s1).cp (ψa 71) 0 rfl
  have sN : sg (ψc 73) 0 N := by rw [ec]; exact (show sg (ψa 62) 1024 N by rw [e62]; exact s2).cp (ψa 73) 0 rfl
  have sA : sg (ψc 74) 0 A := by rw [ec]; exact (show sg (ψa 62) 1536 A by rw [e62]; exact s3).cp (ψa 74) 0 rfl
  have K0 : Kh ψc 0 F G := HK0 ψc Kc (by rw [ec]; exact Ea)
  have eN : gt (ψc 73) 0 = rd N 0 := sg_rd0 sN (by have h_ : N.length = 16 := hP; omega)
  refine R_iconst (pc := 56) (v := 0) dX12_use_56 (by decide) ?_
  refine R_istore_n (pc := 57) (lv' := [(3, .int 0), (0, .ref 61), (1, .int 5), (2, .int 0)]) dX12_use_57 rfl (by decide) rfl ?_
  refine R_iload_n (pc := 58) 2 dX12_use_58 rfl rfl ?_
  refine R_tableIn (pc := 59) (tgt := 231) dX12_use_59 (by decide) (by decide) rfl (by decide) ?_
  refine R_aload_n (pc := 231) 1 dX12_use_231 rfl rfl ?_
  refine R_iload_n (pc := 232) 3 dX12_use_232 rfl rfl ?_
  refine R_callVh (pc := 233) (μ' := mX12_fed) (As := [.int 0]) (st := []) dX12_use_233 zX12_fed lX12_272 ⟨by decide, by decide⟩ rfl rfl ⟨by decide, by decide⟩ Sc.obj (by omega) rfl (Nat.le_of_ble_eq_true rfl) (oX12_fed_s Sc hn D hD rfl K0 sD) (fun h_12 r_ q_13 => ?_)
  obtain ⟨ψd, rfl, Sd, Kd, Yd, Fd⟩ := q_13
  rw [eN] at Yd
  refine R_goto (pc := 236) (tgt := 334) dX12_use_236 (by decide) ?_
  refine R_iload_n (pc := 334) 0 dX12_use_334 rfl rfl ?_
  refine R_if_ge (pc := 335) (tgt := 342) dX12_use_335 (by decide) (fun c_14 => ?_) (fun c_14 => absurd (by decide) c_14)
  have yF : sg (ψd 72) 0 (stN (fbS F 0 D) (rd N 0) (nbk D)).2 := Yd
  have lF : (stN (fbS F 0 D) (rd N 0) (nbk D)).2.length = D.length := by rw [stN_lenM D (fun j_ y_ => fbS_len F 0 D j_ y_)]; have := nbk_b D; omega
  have hl7 : (stN (fbS F 0 D) (rd N 0) (nbk D)).2.length ≤ 700 := by rw [lF]; omega
  refine R_aload_n (pc := 342) 1 dX12_use_342 rfl rfl ?_
  refine R_aload_n (pc := 343) 1 dX12_use_343 rfl rfl ?_
  refine R_get (pc := 344) dX12_use_344 fX12_44 Sd.obj (by omega) rfl ?_
  refine R_aload_n (pc := 347) 1 dX12_use_347 rfl rfl ?_
  refine R_get (pc := 348) dX12_use_348 fX12_153 Sd.obj (by omega) rfl ?_
  refine R_eqi (y := nI (D.length)) rfl ?_
  refine R_eqi (y := nI (stN (fbS F 0 D) (rd N 0) (nbk D)).2.length) (by rw [lF]) ?_
  refine R_callVh (pc := 351) (μ' := mX12_come) (As := [.ref 72, .int (nI (stN (fbS F 0 D) (rd N 0) (nbk D)).2.length)]) (st := []) dX12_use_351 zX12_come lX12_297 ⟨by decide, by decide⟩ rfl rfl ⟨by decide, by decide⟩ Sd.obj (by omega) rfl (Nat.le_of_ble_eq_true rfl) (oX12_come Sd hn (p := 72) rfl (by decide) (stN (fbS F 0 D) (rd N 0) (nbk D)).2.length hl7 hl7) (fun h_15 r_ q_16 => ?_)
  obtain ⟨rfl, Se, Fe⟩ := q_16
  have KF : FR [67, 68, 71, 72, 73, 74, 75, 76, 77, 78, 79, 80, 81, 82, 83, 84, 85, 86, 87, 88, 89, 90] ψ ψd := (Kc.tr Kd (by decide))
  exact R_ireturn (pc := 354) dX12_use_354 rfl (by decide) (by decide) ⟨rfl, _, _, rfl, Se, ⟨KF 62 (by decide), KF 65 (by decide), KF 66 (by decide)⟩, ⟨rfl, rfl⟩, ⟨sg.cp yF _ 0 rfl, ui_s _ _ _⟩, ((((Fa.tr Fb).tr Fc).tr Fd).tr Fe)⟩
set_option maxHeartbeats 1000000 in
set_option maxRecDepth 100000 in
theorem oX12_use_5o {l : Launch} {w : am_W} {h : am_H} {n : Nat} {ψ : Nat → oA} {z : fA} {i : mI} (S : MO h ψ z i) (hn : 90 ≤ n) (A N D : List (BitVec 8)) (mm m : Nat) (hA : A.length ≤ 256) (hN : N.length ≤ 64) (hD : D.length ≤ 512) (hmm : 4 ≤ mm) (hmm16 : mm ≤ 16) (hi1 : i 1 = nI mm) (hz0 : z 0 = nI (4 * m)) (hm : m = 4 ∨ m = 6 ∨ m = 8) (hz1 : z 1 = nI D.length) (hz2 : z 2 = nI N.length) (hz3 : z 3 = nI A.length) (s1 : sg (ψ 62) 512 D) (s2 : sg (ψ 62) 1024 N) (s3 : sg (ψ 62) 1536 A) (B : BitVec 8 → BitVec 8) (hB : ∀ v : BitVec 8, ψ 65 v.toNat = B v) {F G : bP → bP} (HK0 : ∀ ψ2, FR [67, 68, 71, 72, 73, 74, 75, 76, 77, 78, 79, 80, 81, 82, 83, 84, 85, 86, 87, 88, 89, 90] ψ ψ2 → exK ψ2 B 0 0 m → Kh ψ2 0 F G) (hP : ftP 5 1 D.length N.length mm) : RH l w mX12_use h n [.ref 61, .int 5, .int 1] (uQ h ψ z i (nI (stN (fbS F 1 D) (rd N 0) (nbk D)).2.length) (some (stN (fbS F 1 D) (rd N 0) (nbk D)).2)) := by
  refine RC.of [(0, .ref 61), (1, .int 5), (2, .int 1)] (by decide +kernel) rfl (Nat.le_of_ble_eq_true rfl) ?_
  have hm8 : 4 ≤ m ∧ m ≤ 8 := by omega
  refine R_iload_n (pc := 0) 1 dX12_use_0 rfl rfl ?_
  refine R_iconst (pc := 1) (v := 1) dX12_use_1 (by decide) ?_
  refine R_bipush (pc := 2) (v := 16) dX12_use_2 (by decide) ?_
  refine R_callSp (pc := 4) (μ' := mX12_in) (As := [.int 5, .int 1, .int 16]) (st := []) dX12_use_4 zX12_in lX12_108 ⟨by decide, by decide⟩ rfl rfl ⟨by decide, by decide⟩ rfl (Nat.le_of_ble_eq_true rfl) (qX12_in l w _ _ _ _ _) ?_
  refine R_eqi (y := 1) (by decide) ?_
  refine R_if_ne (pc := 7) (tgt := 13) dX12_use_7 (by decide) (fun c_1 => ?_) (fun c_1 => absurd c_1 (by decide))
  refine R_aload_n (pc := 13) 0 dX12_use_13 rfl rfl ?_
  refine R_iload_n (pc := 14) 1 dX12_use_14 rfl rfl ?_
  refine R_bipush (pc := 15) (v := 9) dX12_use_15 (by decide) ?_
  refine R_icmp_eq (pc := 17) (tgt := 26) dX12_use_17 (by decide) (fun c_2 => absurd c_2 (by decide)) (fun c_2 => ?_)
  refine R_iload_n (pc := 20) 1 dX12_use_20 rfl rfl ?_
  refine R_bipush (pc := 21) (v := 15) dX12_use_21 (by decide) ?_
  refine R_icmp_ne (pc := 23) (tgt := 30) dX12_use_23 (by decide) (fun c_3 => ?_) (fun c_3 => absurd c_3 (by decide))
  refine R_iconst (pc := 30) (v := 0) dX12_use_30 (by decide) ?_
  refine R_callVh (pc := 31) (μ' := mX12_hasKeys) (As := [.int 0]) (st := []) dX12_use_31 zX12_hasKeys lX12_250 ⟨by decide, by decide⟩ rfl rfl ⟨by decide, by decide⟩ S.obj (by omega) rfl (Nat.le_of_ble_eq_true rfl) (oX12_hasKeys_0 S hn m hz0 hm B hB) (fun h_4 r_ q_5 => ?_)
  obtain ⟨ψa, rfl, Sa, Ka, Ea, Fa⟩ := q_5
  refine R_if_ne (pc := 34) (tgt := 40) dX12_use_34 (by decide) (fun c_6 => ?_) (fun c_6 => absurd c_6 (by decide))
  refine R_aload_n (pc := 40) 0 dX12_use_40 rfl rfl ?_
  refine R_iload_n (pc := 41) 1 dX12_use_41 rfl rfl ?_
  refine R_iload_n (pc := 42) 2 dX12_use_42 rfl rfl ?_
  refine R_callVh (pc := 43) (μ' := mX12_fits) (As := [.int 5, .int 1]) (st := []) dX12_use_43 zX12_fits lX12_254 ⟨by decide, by decide⟩ rfl rfl ⟨by decide, by decide⟩ Sa.obj (by omega) rfl (Nat.le_of_ble_eq_true rfl) (oX12_fits_5o Sa hn D.length N.length mm hD hN (by omega) hz1 hz2 hi1 hP) (fun h_7 r_ q_8 => ?_)
  obtain ⟨rfl, Sb, Fb⟩ := q_8
  refine R_if_ne (pc := 46) (tgt := 52) dX12_use_46 (by decide) (fun c_9 => ?_) (fun c_9 => absurd c_9 (by decide))
  refine R_aload_n (pc := 52) 0 dX12_use_52 rfl rfl ?_
  refine R_callVh (pc := 53) (μ' := mX12_load) (As := []) (st := []) dX12_use_53 zX12_load lX12_258 ⟨by decide, by decide⟩ rfl rfl ⟨by decide, by decide⟩ Sb.obj (by omega) rfl (Nat.le_of_ble_eq_true rfl) (oX12_load Sb hn D.length N.length A.length hz1 hz2 hz3 hD hN hA) (fun h_10 r_ q_11 => ?_)
  obtain ⟨rfl, Sc, Fc⟩ := q_11
  obtain ⟨ψc, ec⟩ : ∃ x, x = (uo (uo (uo ψa 71 (cpB (ψa 62) 512 (ψa 71) 0 D.length)) 73 (cpB (ψa 62) 1024 (ψa 73) 0 N.length)) 74 (cpB (ψa 62) 1536 (ψa 74) 0 A.length)) := ⟨_, rfl⟩
  rw [← ec] at Sc
  have Kc : FR [67, 68, 71, 72, 73, 74, 75, 76, 77, 78, 79, 80, 81, 82, 83, 84, 85, 86, 87, 88, 89, 90] ψ ψc := by rw [ec]; exact (((((FR.rf _ _).tr Ka (by decide)).up (by decide)).up (by decide)).up (by decide))
  have e62 : ψa 62 = ψ 62 := Ka 62 (by decide)
  have sD : sg (ψc 71) 0 D := by rw [ec]; exact (show sg (ψa 62) 512 D by rw [e62]; exact s1).cp (ψa 71) 0 rfl
  have sN : sg (ψc 73) 0 N := by rw [ec]; exact (show sg (ψa 62) 1024 N by rw [e62]; exact s2).cp (ψa 73) 0 rfl
  have sA : sg (ψc 74) 0 A := by rw [ec]; exact (show sg (ψa 62) 1536 A by rw [e62]; exact s3).cp (ψa 74) 0 rfl
  have K0 : Kh ψc 0 F G := HK0 ψc Kc (by rw [ec]; exact Ea)
  have eN : gt (ψc 73) 0 = rd N 0 := sg_rd0 sN (by have h_ : N.length = 16 := hP; omega)
  refine R_iconst (pc := 56) (v := 0) dX12_use_56 (by decide) ?_
  refine R_istore_n (pc := 57) (lv' := [(3, .int 0), (0, .ref 61), (1, .int 5), (2, .int 1)]) dX12_use_57 rfl (by decide) rfl ?_
  refine R_iload_n (pc := 58) 2 dX12_use_58 rfl rfl ?_
  refine R_tableIn (pc := 59) (tgt := 231) dX12_use_59 (by decide) (by decide) rfl (by decide) ?_
  refine R_aload_n (pc := 231) 1 dX12_use_231 rfl rfl ?_
  refine R_iload_n (pc := 232) 3 dX12_use_232 rfl rfl ?_
  refine R_callVh (pc := 233) (μ' := mX12_fed) (As := [.int 1]) (st := []) dX12_use_233 zX12_fed lX12_272 ⟨by decide, by decide⟩ rfl rfl ⟨by decide, by decide⟩ Sc.obj (by omega) rfl (Nat.le_of_ble_eq_true rfl) (oX12_fed_o Sc hn D hD rfl K0 sD) (fun h_12 r_ q_13 => ?_)
  obtain ⟨ψd, rfl, Sd, Kd, Yd, Fd⟩ := q_13
  rw [eN] at Yd
  refine R_goto (pc := 236) (tgt := 334) dX12_use_236 (by decide) ?_
  refine R_iload_n (pc := 334) 0 dX12_use_334 rfl rfl ?_
  refine R_if_ge (pc := 335) (tgt := 342) dX12_use_335 (by decide) (fun c_14 => ?_) (fun c_14 => absurd (by decide) c_14)
  have yF : sg (ψd 72) 0 (stN (fbS F 1 D) (rd N 0) (nbk D)).2 := Yd
  have lF : (stN (fbS F 1 D) (rd N 0) (nbk D)).2.length = D.length := by rw [stN_lenM D (fun j_ y_ => fbS_len F 1 D j_ y_)]; have := nbk_b D; omega
  have hl7 : (stN (fbS F 1 D) (rd N 0) (nbk D)).2.length ≤ 700 := by rw [lF]; omega
  refine R_aload_n (pc := 342) 1 dX12_use_342 rfl rfl ?_
  refine R_aload_n (pc := 343) 1 dX12_use_343 rfl rfl ?_
  refine R_get (pc := 344) dX12_use_344 fX12_44 Sd.obj (by omega) rfl ?_
  refine R_aload_n (pc := 347) 1 dX12_use_347 rfl rfl ?_
  refine R_get (pc := 348) dX12_use_348 fX12_153 Sd.obj (by omega) rfl ?_
  refine R_eqi (y := nI (D.length)) rfl ?_
  refine R_eqi (y := nI (stN (fbS F 1 D) (rd N 0) (nbk D)).2.length) (by rw [lF]) ?_
  refine R_callVh (pc := 351) (μ' := mX12_come) (As := [.ref 72, .int (nI (stN (fbS F 1 D) (rd N 0) (nbk D)).2.length)]) (st := []) dX12_use_351 zX12_come lX12_297 ⟨by decide, by decide⟩ rfl rfl ⟨by decide, by decide⟩ Sd.obj (by omega) rfl (Nat.le_of_ble_eq_true rfl) (oX12_come Sd hn (p := 72) rfl (by decide) (stN (fbS F 1 D) (rd N 0) (nbk D)).2.length hl7 hl7) (fun h_15 r_ q_16 => ?_)
  obtain ⟨rfl, Se, Fe⟩ := q_16
  have KF : FR [67, 68, 71, 72, 73, 74, 75, 76, 77, 78, 79, 80, 81, 82, 83, 84, 85, 86, 87, 88, 89, 90] ψ ψd := (Kc.tr Kd (by decide))
  exact R_ireturn (pc := 354) dX12_use_354 rfl (by decide) (by decide) ⟨rfl, _, _, rfl, Se, ⟨KF 62 (by decide), KF 65 (by decide), KF 66 (by decide)⟩, ⟨rfl, rfl⟩, ⟨sg.cp yF _ 0 rfl, ui_s _ _ _⟩, ((((Fa.tr Fb).tr Fc).tr Fd).tr Fe)⟩
set_option maxHeartbeats 1000000 in
set_option maxRecDepth 100000 in
theorem oX12_use_6s {l : Launch} {w : am_W} {h : am_H} {n : Nat} {ψ : Nat → oA} {z : fA} {i : mI} (S : MO h ψ z i) (hn : 90 ≤ n) (A N D : List (BitVec 8)) (mm m : Nat) (hA : A.length ≤ 256) (hN : N.length ≤ 64) (hD : D.length ≤ 512) (hmm : 4 ≤ mm) (hmm16 : mm ≤ 16) (hi1 : i 1 = nI mm) (hz0 : z 0 = nI (4 * m)) (hm : m = 4 ∨ m = 6 ∨ m = 8) (hz1 : z 1 = nI D.length) (hz2 : z 2 = nI N.length) (hz3 : z 3 = nI A.length) (s1 : sg (ψ 62) 512 D) (s2 : sg (ψ 62) 1024 N) (s3 : sg (ψ 62) 1536 A) (B : BitVec 8 → BitVec 8) (hB : ∀ v : BitVec 8, ψ 65 v.toNat = B v) {F G : bP → bP} (HK0 : ∀ ψ2, FR [67, 68, 71, 72, 73, 74, 75, 76, 77, 78, 79, 80, 81, 82, 83, 84, 85, 86, 87, 88, 89, 90] ψ ψ2 → exK ψ2 B 0 0 m → Kh ψ2 0 F G) (hP : ftP 6 0 D.length N.length mm) : RH l w mX12_use h n [.ref 61, .int 6, .int 0] (uQ h ψ z i (nI (stN (foS F 0 D) (rd N 0) D.length).2.length) (some (stN (foS F 0 D) (rd N 0) D.length).2)) := by
  refine RC.of [(0, .ref 61), (1, .int 6), (2, .int 0)] (by decide +kernel) rfl (Nat.le_of_ble_eq_true rfl) ?_
  have hm8 : 4 ≤ m ∧ m ≤ 8 := by omega
  refine R_iload_n (pc := 0) 1 dX12_use_0 rfl rfl ?_
  refine R_iconst (pc := 1) (v := 1) dX12_use_1 (by decide) ?_
  refine R_bipush (pc := 2) (v := 16) dX12_use_2 (by decide) ?_
  refine R_callSp (pc := 4) (μ' := mX12_in) (As := [.int 6, .int 1, .int 16]) (st := []) dX12_use_4 zX12_in lX12_108 ⟨by decide, by decide⟩ rfl rfl ⟨by decide, by decide⟩ rfl (Nat.le_of_ble_eq_true rfl) (qX12_in l w _ _ _ _ _) ?_
  refine R_eqi (y := 1) (by decide) ?_
  refine R_if_ne (pc := 7) (tgt := 13) dX12_use_7 (by decide) (fun c_1 => ?_) (fun c_1 => absurd c_1 (by decide))
  refine R_aload_n (pc := 13) 0 dX12_use_13 rfl rfl ?_
  refine R_iload_n (pc := 14) 1 dX12_use_14 rfl rfl ?_
  refine R_bipush (pc := 15) (v := 9) dX12_use_15 (by decide) ?_
  refine R_icmp_eq (pc := 17) (tgt := 26) dX12_use_17 (by decide) (fun c_2 => absurd c_2 (by decide)) (fun c_2 => ?_)
  refine R_iload_n (pc := 20) 1 dX12_use_20 rfl rfl ?_
  refine R_bipush (pc := 21) (v := 15) dX12_use_21 (by decide) ?_
  refine R_icmp_ne (pc := 23) (tgt := 30) dX12_use_23 (by decide) (fun c_3 => ?_) (fun c_3 => absurd c_3 (by decide))
  refine R_iconst (pc := 30) (v := 0) dX12_use_30 (by decide) ?_
  refine R_callVh (pc := 31) (μ' := mX12_hasKeys) (As := [.int 0]) (st := []) dX12_use_31 zX12_hasKeys lX12_250 ⟨by decide, by decide⟩ rfl rfl ⟨by decide, by decide⟩ S.obj (by omega) rfl (Nat.le_of_ble_eq_true rfl) (oX12_hasKeys_0 S hn m hz0 hm B hB) (fun h_4 r_ q_5 => ?_)
  obtain ⟨ψa, rfl, Sa, Ka, Ea, Fa⟩ := q_5
  refine R_if_ne (pc := 34) (tgt := 40) dX12_use_34 (by decide) (fun c_6 => ?_) (fun c_6 => absurd c_6 (by decide))
  refine R_aload_n (pc := 40) 0 dX12_use_40 rfl rfl ?_
  refine R_iload_n (pc := 41) 1 dX12_use_41 rfl rfl ?_
  refine R_iload_n (pc := 42) 2 dX12_use_42 rfl rfl ?_
  refine R_callVh (pc := 43) (μ' := mX12_fits) (As := [.int 6, .int 0]) (st := []) dX12_use_43 zX12_fits lX12_254 ⟨by decide, by decide⟩ rfl rfl ⟨by decide, by decide⟩ Sa.obj (by omega) rfl (Nat.le_of_ble_eq_true rfl) (oX12_fits_6s Sa hn D.length N.length mm hD hN (by omega) hz1 hz2 hi1 hP) (fun h_7 r_ q_8 => ?_)
  obtain ⟨rfl, Sb, Fb⟩ := q_8
  refine R_if_ne (pc := 46) (tgt := 52) dX12_use_46 (by decide) (fun c_9 => ?_) (fun c_9 => absurd c_9 (by decide))
  refine R_aload_n (pc := 52) 0 dX12_use_52 rfl rfl ?_
  refine R_callVh (pc := 53) (μ' := mX12_load) (As := []) (st := []) dX12_use_53 zX12_load lX12_258 ⟨by decide, by decide⟩ rfl rfl ⟨by decide, by decide⟩ Sb.obj (by omega) rfl (Nat.le_of_ble_eq_true rfl) (oX12_load Sb hn D.length N.length A.length hz1 hz2 hz3 hD hN hA) (fun h_10 r_ q_11 => ?_)
  obtain ⟨rfl, Sc, Fc⟩ := q_11
  obtain ⟨ψc, ec⟩ : ∃ x, x = (uo (uo (uo ψa 71 (cpB (ψa 62) 512 (ψa 71) 0 D.length)) 73 (cpB (ψa 62) 1024 (ψa 73) 0 N.length)) 74 (cpB (ψa 62) 1536 (ψa 74) 0 A.length)) := ⟨_, rfl⟩
  rw [← ec] at Sc
  have Kc : FR [67, 68, 71, 72, 73, 74, 75, 76, 77, 78, 79, 80, 81, 82, 83, 84, 85, 86, 87, 88, 89, 90] ψ ψc := by rw [ec]; exact (((((FR.rf _ _).tr Ka (by decide)).up (by decide)).up (by decide)).up (by decide))
  have e62 : ψa 62 = ψ 62 := Ka 62 (by decide)
  have sD : sg (ψc 71) 0 D := by rw [ec]; exact (show sg (ψa 62) 512 D by rw [e62]; exact s1).cp (ψa 71) 0 rfl
  have sN : sg (ψc 73) 0 N := by rw [ec]; exact (show sg (ψa 62) 1024 N by rw [e62]; exact s2).cp (ψa 73) 0 rfl
  have sA : sg (ψc 74) 0 A := by rw [ec]; exact (show sg (ψa 62) 1536 A by rw [e62]; exact s3).cp (ψa 74) 0 rfl
  have K0 : Kh ψc 0 F G := HK0 ψc Kc (by rw [ec]; exact Ea)
  have eN : gt (ψc 73) 0 = rd N 0 := sg_rd0 sN (by have h_ : N.length = 16 := hP; omega)
  refine R_iconst (pc := 56) (v := 0) dX12_use_56 (by decide) ?_
  refine R_istore_n (pc := 57) (lv' := [(3, .int 0), (0, .ref 61), (1, .int 6), (2, .int 0)]) dX12_use_57 rfl (by decide) rfl ?_
  refine R_iload_n (pc := 58) 2 dX12_use_58 rfl rfl ?_
  refine R_tableIn (pc := 59) (tgt := 239) dX12_use_59 (by decide) (by decide) rfl (by decide) ?_
  refine R_aload_n (pc := 239) 1 dX12_use_239 rfl rfl ?_
  refine R_iload_n (pc := 240) 3 dX12_use_240 rfl rfl ?_
  refine R_callVh (pc := 241) (μ' := mX12_fedOne) (As := [.int 0]) (st := []) dX12_use_241 zX12_fedOne lX12_275 ⟨by decide, by decide⟩ rfl rfl ⟨by decide, by decide⟩ Sc.obj (by omega) rfl (Nat.le_of_ble_eq_true rfl) (oX12_fedOne_s Sc hn D hD rfl K0 sD) (fun h_12 r_ q_13 => ?_)
  obtain ⟨ψd, rfl, Sd, Kd, Yd, Fd⟩ := q_13
  rw [eN] at Yd
  refine R_goto (pc := 244) (tgt := 334) dX12_use_244 (by decide) ?_
  refine R_iload_n (pc := 334) 0 dX12_use_334 rfl rfl ?_
  refine R_if_ge (pc := 335) (tgt := 342) dX12_use_335 (by decide) (fun c_14 => ?_) (fun c_14 => absurd (by decide) c_14)
  have yF : sg (ψd 72) 0 (stN (foS F 0 D) (rd N 0) D.length).2 := Yd
  have lF : (stN (foS F 0 D) (rd N 0) D.length).2.length = D.length := foS_len _ _ _ _ _
  have hl7 : (stN (foS F 0 D) (rd N 0) D.length).2.length ≤ 700 := by rw [lF]; omega
  refine R_aload_n (pc := 342) 1 dX12_use_342 rfl rfl ?_
  refine R_aload_n (pc := 343) 1 dX12_use_343 rfl rfl ?_
  refine R_get (pc := 344) dX12_use_344 fX12_44 Sd.obj (by omega) rfl ?_
  refine R_aload_n (pc := 347) 1 dX12_use_347 rfl rfl ?_
  refine R_get (pc := 348) dX12_use_348 fX12_153 Sd.obj (by omega) rfl ?_
  refine R_eqi (y := nI (D.length)) rfl ?_
  refine R_eqi (y := nI (stN (foS F 0 D) (rd N 0) D.length).2.length) (by rw [lF]) ?_
  refine R_callVh (pc := 351) (μ' := mX12_come) (As := [.ref 72, .int (nI (stN (foS F 0 D) (rd N 0) D.length).2.length)]) (st := []) dX12_use_351 zX12_come lX12_297 ⟨by decide, by decide⟩ rfl rfl ⟨by decide, by decide⟩ Sd.obj (by omega) rfl (Nat.le_of_ble_eq_true rfl) (oX12_come Sd hn (p := 72) rfl (by decide) (stN (foS F 0 D) (rd N 0) D.length).2.length hl7 hl7) (fun h_15 r_ q_16 => ?_)
  obtain ⟨rfl, Se, Fe⟩ := q_16
  have KF : FR [67, 68, 71, 72, 73, 74, 75, 76, 77, 78, 79, 80, 81, 82, 83, 84, 85, 86, 87, 88, 89, 90] ψ ψd := (Kc.tr Kd (by decide))
  exact R_ireturn (pc := 354) dX12_use_354 rfl (by decide) (by decide) ⟨rfl, _, _, rfl, Se, ⟨KF 62 (by decide), KF 65 (by decide), KF 66 (by decide)⟩, ⟨rfl, rfl⟩, ⟨sg.cp yF _ 0 rfl, ui_s _ _ _⟩, ((((Fa.tr Fb).tr Fc).tr Fd).tr Fe)⟩
set_option maxHeartbeats 1000000 in
set_option maxRecDepth 100000 in
theorem oX12_use_6o {l : Launch} {w : am_W} {h : am_H} {n : Nat} {ψ : Nat → oA} {z : fA} {i : mI} (S : MO h ψ z i) (hn : 90 ≤ n) (A N D : List (BitVec 8)) (mm m : Nat) (hA : A.length ≤ 256) (hN : N.length ≤ 64) (hD : D.length ≤ 512) (hmm : 4 ≤ mm) (hmm16 : mm ≤ 16) (hi1 : i 1 = nI mm) (hz0 : z 0 = nI (4 * m)) (hm : m = 4 ∨ m = 6 ∨ m = 8) (hz1 : z 1 = nI D.length) (hz2 : z 2 = nI N.length) (hz3 : z 3 = nI A.length) (s1 : sg (ψ 62) 512 D) (s2 : sg (ψ 62) 1024 N) (s3 : sg (ψ 62) 1536 A) (B : BitVec 8 → BitVec 8) (hB : ∀ v : BitVec 8, ψ 65 v.toNat = B v) {F G : bP → bP} (HK0 : ∀ ψ2, FR [67, 68, 71, 72, 73, 74, 75, 76, 77, 78, 79, 80, 81, 82, 83, 84, 85, 86, 87, 88, 89, 90] ψ ψ2 → exK ψ2 B 0 0 m → Kh ψ2 0 F G) (hP : ftP 6 1 D.length N.length mm) : RH l w mX12_use h n [.ref 61, .int 6, .int 1] (uQ h ψ z i (nI (stN (foS F 1 D) (rd N 0) D.length).2.length) (some (stN (foS F 1 D) (rd N 0) D.length).2)) := by
  refine RC.of [(0, .ref 61), (1, .int 6), (2, .int 1)] (by decide +kernel) rfl (Nat.le_of_ble_eq_true rfl) ?_
  have hm8 : 4 ≤ m ∧ m ≤ 8 := by omega
  refine R_iload_n (pc := 0) 1 dX12_use_0 rfl rfl ?_
  refine R_iconst (pc := 1) (v := 1) dX12_use_1 (by decide) ?_
  refine R_bipush (pc := 2) (v := 16) dX12_use_2 (by decide) ?_
  refine R_callSp (pc := 4) (μ' := mX12_in) (As := [.int 6, .int 1, .int 16]) (st := []) dX12_use_4 zX12_in lX12_108 ⟨by decide, by decide⟩ rfl rfl ⟨by decide, by decide⟩ rfl (Nat.le_of_ble_eq_true rfl) (qX12_in l w _ _ _ _ _) ?_
  refine R_eqi (y := 1) (by decide) ?_
  refine R_if_ne (pc := 7) (tgt := 13) dX12_use_7 (by decide) (fun c_1 => ?_) (fun c_1 => absurd c_1 (by decide))
  refine R_aload_n (pc := 13) 0 dX12_use_13 rfl rfl ?_
  refine R_iload_n (pc := 14) 1 dX12_use_14 rfl rfl ?_
  refine R_bipush (pc := 15) (v := 9) dX12_use_15 (by decide) ?_
  refine R_icmp_eq (pc := 17) (tgt := 26) dX12_use_17 (by decide) (fun c_2 => absurd c_2 (by decide)) (fun c_2 => ?_)
  refine R_iload_n (pc := 20) 1 dX12_use_20 rfl rfl ?_
  refine R_bipush (pc := 21) (v := 15) dX12_use_21 (by decide) ?_
  refine R_icmp_ne (pc := 23) (tgt := 30) dX12_use_23 (by decide) (fun c_3 => ?_) (fun c_3 => absurd c_3 (by decide))
  refine R_iconst (pc := 30) (v := 0) dX12_use_30 (by decide) ?_
  refine R_callVh (pc := 31) (μ' := mX12_hasKeys) (As := [.int 0]) (st := []) dX12_use_31 zX12_hasKeys lX12_250 ⟨by decide, by decide⟩ rfl rfl ⟨by decide, by decide⟩ S.obj (by omega) rfl (Nat.le_of_ble_eq_true rfl) (oX12_hasKeys_0 S hn m hz0 hm B hB) (fun h_4 r_ q_5 => ?_)
  obtain ⟨ψa, rfl, Sa, Ka, Ea, Fa⟩ := q_5
  refine R_if_ne (pc := 34) (tgt := 40) dX12_use_34 (by decide) (fun c_6 => ?_) (fun c_6 => absurd c_6 (by decide))
  refine R_aload_n (pc := 40) 0 dX12_use_40 rfl rfl ?_
  refine R_iload_n (pc := 41) 1 dX12_use_41 rfl rfl ?_
  refine R_iload_n (pc := 42) 2 dX12_use_42 rfl rfl ?_
  refine R_callVh (pc := 43) (μ' := mX12_fits) (As := [.int 6, .int 1]) (st := []) dX12_use_43 zX12_fits lX12_254 ⟨by decide, by decide⟩ rfl rfl ⟨by decide, by decide⟩ Sa.obj (by omega) rfl (Nat.le_of_ble_eq_true rfl) (oX12_fits_6o Sa hn D.length N.length mm hD hN (by omega) hz1 hz2 hi1 hP) (fun h_7 r_ q_8 => ?_)
  obtain ⟨rfl, Sb, Fb⟩ := q_8
  refine R_if_ne (pc := 46) (tgt := 52) dX12_use_46 (by decide) (fun c_9 => ?_) (fun c_9 => absurd c_9 (by decide))
  refine R_aload_n (pc := 52) 0 dX12_use_52 rfl rfl ?_
  refine R_callVh (pc := 53) (μ' := mX12_load) (As := []) (st := []) dX12_use_53 zX12_load lX12_258 ⟨by decide, by decide⟩ rfl rfl ⟨by decide, by decide⟩ Sb.obj (by omega) rfl (Nat.le_of_ble_eq_true rfl) (oX12_load Sb hn D.length N.length A.length hz1 hz2 hz3 hD hN hA) (fun h_10 r_ q_11 => ?_)
  obtain ⟨rfl, Sc, Fc⟩ := q_11
  obtain ⟨ψc, ec⟩ : ∃ x, x = (uo (uo (uo ψa 71 (cpB (ψa 62) 512 (ψa 71) 0 D.length)) 73 (cpB (ψa 62) 1024 (ψa 73) 0 N.length)) 74 (cpB (ψa 62) 1536 (ψa 74) 0 A.length)) := ⟨_, rfl⟩
  rw [← ec] at Sc
  have Kc : FR [67, 68, 71, 72, 73, 74, 75, 76, 77, 78, 79, 80, 81, 82, 83, 84, 85, 86, 87, 88, 89, 90] ψ ψc := by rw [ec]; exact (((((FR.rf _ _).tr Ka (by decide)).up (by decide)).up (by decide)).up (by decide))
  have e62 : ψa 62 = ψ 62 := Ka 62 (by decide)
  have sD : sg (ψc 71) 0 D := by rw [ec]; exact (show sg (ψa 62) 512 D by rw [e62]; exact s1).cp (ψa 71) 0 rfl
  have sN : sg (ψc 73) 0 N := by rw [ec]; exact (show sg (ψa 62) 1024 N by rw [e62]; exact s2).cp (ψa 73) 0 rfl
  have sA : sg (ψc 74) 0 A := by rw [ec]; exact (show sg (ψa 62) 1536 A by rw [e62]; exact s3).cp (ψa 74) 0 rfl
  have K0 : Kh ψc 0 F G := HK0 ψc Kc (by rw [ec]; exact Ea)
  have eN : gt (ψc 73) 0 = rd N 0 := sg_rd0 sN (by have h_ : N.length = 16 := hP; omega)
  refine R_iconst (pc := 56) (v := 0) dX12_use_56 (by decide) ?_
  refine R_istore_n (pc := 57) (lv' := [(3, .int 0), (0, .ref 61), (1, .int 6), (2, .int 1)]) dX12_use_57 rfl (by decide) rfl ?_
  refine R_iload_n (pc := 58) 2 dX12_use_58 rfl rfl ?_
  refine R_tableIn (pc := 59) (tgt := 239) dX12_use_59 (by decide) (by decide) rfl (by decide) ?_
  refine R_aload_n (pc := 239) 1 dX12_use_239 rfl rfl ?_
  refine R_iload_n (pc := 240) 3 dX12_use_240 rfl rfl ?_
  refine R_callVh (pc := 241) (μ' := mX12_fedOne) (As := [.int 1]) (st := []) dX12_use_241 zX12_fedOne lX12_275 ⟨by decide, by decide⟩ rfl rfl ⟨by decide, by decide⟩ Sc.obj (by omega) rfl (Nat.le_of_ble_eq_true rfl) (oX12_fedOne_o Sc hn D hD rfl K0 sD) (fun h_12 r_ q_13 => ?_)
  obtain ⟨ψd, rfl, Sd, Kd, Yd, Fd⟩ := q_13
  rw [eN] at Yd
  refine R_goto (pc := 244) (tgt := 334) dX12_use_244 (by decide) ?_
  refine R_iload_n (pc := 334) 0 dX12_use_334 rfl rfl ?_
  refine R_if_ge (pc := 335) (tgt := 342) dX12_use_335 (by decide) (fun c_14 => ?_) (fun c_14 => absurd (by decide) c_14)
  have yF : sg (ψd 72) 0 (stN (foS F 1 D) (rd N 0) D.length).2 := Yd
  have lF : (stN (foS F 1 D) (rd N 0) D.length).2.length = D.length := foS_len _ _ _ _ _
  have hl7 : (stN (foS F 1 D) (rd N 0) D.length).2.length ≤ 700 := by rw [lF]; omega
  refine R_aload_n (pc := 342) 1 dX12_use_342 rfl rfl ?_
  refine R_aload_n (pc := 343) 1 dX12_use_343 rfl rfl ?_
  refine R_get (pc := 344) dX12_use_344 fX12_44 Sd.obj (by omega) rfl ?_
  refine R_aload_n (pc := 347) 1 dX12_use_347 rfl rfl ?_
  refine R_get (pc := 348) dX12_use_348 fX12_153 Sd.obj (by omega) rfl ?_
  refine R_eqi (y := nI (D.length)) rfl ?_
  refine R_eqi (y := nI (stN (foS F 1 D) (rd N 0) D.length).2.length) (by rw [lF]) ?_
  refine R_callVh (pc := 351) (μ' := mX12_come) (As := [.ref 72, .int (nI (stN (foS F 1 D) (rd N 0) D.length).2.length)]) (st := []) dX12_use_351 zX12_come lX12_297 ⟨by decide, by decide⟩ rfl rfl ⟨by decide, by decide⟩ Sd.obj (by omega) rfl (Nat.le_of_ble_eq_true rfl) (oX12_come Sd hn (p := 72) rfl (by decide) (stN (foS F 1 D) (rd N 0) D.length).2.length hl7 hl7) (fun h_15 r_ q_16 => ?_)
  obtain ⟨rfl, Se, Fe⟩ := q_16
  have KF : FR [67, 68, 71, 72, 73, 74, 75, 76, 77, 78, 79, 80, 81, 82, 83, 84, 85, 86, 87, 88, 89, 90] ψ ψd := (Kc.tr Kd (by decide))
  exact R_ireturn (pc := 354) dX12_use_354 rfl (by decide) (by decide) ⟨rfl, _, _, rfl, Se, ⟨KF 62 (by decide), KF 65 (by decide), KF 66 (by decide)⟩, ⟨rfl, rfl⟩, ⟨sg.cp yF _ 0 rfl, ui_s _ _ _⟩, ((((Fa.tr Fb).tr Fc).tr Fd).tr Fe)⟩
set_option maxHeartbeats 1000000 in
set_option maxRecDepth 100000 in
theorem oX12_use_7s {l : Launch} {w : am_W} {h : am_H} {n : Nat} {ψ : Nat → oA} {z : fA} {i : mI} (S : MO h ψ z i) (hn : 90 ≤ n) (A N D : List (BitVec 8)) (mm m : Nat) (hA : A.length ≤ 256) (hN : N.length ≤ 64) (hD : D.length ≤ 512) (hmm : 4 ≤ mm) (hmm16 : mm ≤ 16) (hi1 : i 1 = nI mm) (hz0 : z 0 = nI (4 * m)) (hm : m = 4 ∨ m = 6 ∨ m = 8) (hz1 : z 1 = nI D.length) (hz2 : z 2 = nI N.length) (hz3 : z 3 = nI A.length) (s1 : sg (ψ 62) 512 D) (s2 : sg (ψ 62) 1024 N) (s3 : sg (ψ 62) 1536 A) (B : BitVec 8 → BitVec 8) (hB : ∀ v : BitVec 8, ψ 65 v.toNat = B v) {F G : bP → bP} (HK0 : ∀ ψ2, FR [67, 68, 71, 72, 73, 74, 75, 76, 77, 78, 79, 80, 81, 82, 83, 84, 85, 86, 87, 88, 89, 90] ψ ψ2 → exK ψ2 B 0 0 m → Kh ψ2 0 F G) (hP : ftP 7 0 D.length N.length mm) : RH l w mX12_use h n [.ref 61, .int 7, .int 0] (uQ h ψ z i (nI (stN (toS F D) (rd N 0) (nbk D)).2.length) (some (stN (toS F D) (rd N 0) (nbk D)).2)) := by
  refine RC.of [(0, .ref 61), (1, .int 7), (2, .int 0)] (by decide +kernel) rfl (Nat.le_of_ble_eq_true rfl) ?_
  have hm8 : 4 ≤ m ∧ m ≤ 8 := by omega
  refine R_iload_n (pc := 0) 1 dX12_use_0 rfl rfl ?_
  refine R_iconst (pc := 1) (v := 1) dX12_use_1 (by decide) ?_
  refine R_bipush (pc := 2) (v := 16) dX12_use_2 (by decide) ?_
  refine R_callSp (pc := 4) (μ' := mX12_in) (As := [.int 7, .int 1, .int 16]) (st := []) dX12_use_4 zX12_in lX12_108 ⟨by decide, by decide⟩ rfl rfl ⟨by decide, by decide⟩ rfl (Nat.le_of_ble_eq_true rfl) (qX12_in l w _ _ _ _ _) ?_
  refine R_eqi (y := 1) (by decide) ?_
  refine R_if_ne (pc := 7) (tgt := 13) dX12_use_7 (by decide) (fun c_1 => ?_) (fun c_1 => absurd c_1 (by decide))
  refine R_aload_n (pc := 13) 0 dX12_use_13 rfl rfl ?_
  refine R_iload_n (pc := 14) 1 dX12_use_14 rfl rfl ?_
  refine R_bipush (pc := 15) (v := 9) dX12_use_15 (by decide) ?_
  refine R_icmp_eq (pc := 17) (tgt := 26) dX12_use_17 (by decide) (fun c_2 => absurd c_2 (by decide)) (fun c_2 => ?_)
  refine R_iload_n (pc := 20) 1 dX12_use_20 rfl rfl ?_
  refine R_bipush (pc := 21) (v := 15) dX12_use_21 (by decide) ?_
  refine R_icmp_ne (pc := 23) (tgt := 30) dX12_use_23 (by decide) (fun c_3 => ?_) (fun c_3 => absurd c_3 (by decide))
  refine R_iconst (pc := 30) (v := 0) dX12_use_30 (by decide) ?_
  refine R_callVh (pc := 31) (μ' := mX12_hasKeys) (As := [.int 0]) (st := []) dX12_use_31 zX12_hasKeys lX12_250 ⟨by decide, by decide⟩ rfl rfl ⟨by decide, by decide⟩ S.obj (by omega) rfl (Nat.le_of_ble_eq_true rfl) (oX12_hasKeys_0 S hn m hz0 hm B hB) (fun h_4 r_ q_5 => ?_)
  obtain ⟨ψa, rfl, Sa, Ka, Ea, Fa⟩ := q_5
  refine R_if_ne (pc := 34) (tgt := 40) dX12_use_34 (by decide) (fun c_6 => ?_) (fun c_6 => absurd c_6 (by decide))
  refine R_aload_n (pc := 40) 0 dX12_use_40 rfl rfl ?_
  refine R_iload_n (pc := 41) 1 dX12_use_41 rfl rfl ?_
  refine R_iload_n (pc := 42) 2 dX12_use_42 rfl rfl ?_
  refine R_callVh (pc := 43) (μ' := mX12_fits) (As := [.int 7, .int 0]) (st := []) dX12_use_43 zX12_fits lX12_254 ⟨by decide, by decide⟩ rfl rfl ⟨by decide, by decide⟩ Sa.obj (by omega) rfl (Nat.le_of_ble_eq_true rfl) (oX12_fits_7s Sa hn D.length N.length mm hD hN (by omega) hz1 hz2 hi1 hP) (fun h_7 r_ q_8 => ?_)
  obtain ⟨rfl, Sb, Fb⟩ := q_8
  refine R_if_ne (pc := 46) (tgt := 52) dX12_use_46 (by decide) (fun c_9 => ?_) (fun c_9 => absurd c_9 (by decide))
  refine R_aload_n (pc := 52) 0 dX12_use_52 rfl rfl ?_
  refine R_callVh (pc := 53) (μ' := mX12_load) (As := []) (st := []) dX12_use_53 zX12_load lX12_258 ⟨by decide, by decide⟩ rfl rfl ⟨by decide, by decide⟩ Sb.obj (by omega) rfl (Nat.le_of_ble_eq_true rfl) (oX12_load Sb hn D.length N.length A.length hz1 hz2 hz3 hD hN hA) (fun h_10 r_ q_11 => ?_)
  obtain ⟨rfl, Sc, Fc⟩ := q_11
  obtain ⟨ψc, ec⟩ : ∃ x, x = (uo (uo (uo ψa 71 (cpB (ψa 62) 512 (ψa 71) 0 D.length)) 73 (cpB (ψa 62) 1024 (ψa 73) 0 N.length)) 74 (cpB (ψa 62) 1536 (ψa 74) 0 A.length)) := ⟨_, rfl⟩
  rw [← ec] at Sc
  have Kc : FR [67, 68, 71, 72, 73, 74, 75, 76, 77, 78, 79, 80, 81, 82, 83, 84, 85, 86, 87, 88, 89, 90] ψ ψc := by rw [ec]; exact (((((FR.rf _ _).tr Ka (by decide)).up (by decide)).up (by decide)).up (by decide))
  have e62 : ψa 62 = ψ 62 := Ka 62 (by decide)
  have sD : sg (ψc 71) 0 D := by rw [ec]; exact (show sg (ψa 62) 512 D by rw [e62]; exact s1).cp (ψa 71) 0 rfl
  have sN : sg (ψc 73) 0 N := by rw [ec]; exact (show sg (ψa 62) 1024 N by rw [e62]; exact s2).cp (ψa 73) 0 rfl
  have sA : sg (ψc 74) 0 A := by rw [ec]; exact (show sg (ψa 62) 1536 A by rw [e62]; exact s3).cp (ψa 74) 0 rfl
  have K0 : Kh ψc 0 F G := HK0 ψc Kc (by rw [ec]; exact Ea)
  have eN : gt (ψc 73) 0 = rd N 0 := sg_rd0 sN (by have h_ : N.length = 16 := hP; omega)
  refine R_iconst (pc := 56) (v := 0) dX12_use_56 (by decide) ?_
  refine R_istore_n (pc := 57) (lv' := [(3, .int 0), (0, .ref 61), (1, .int 7), (2, .int 0)]) dX12_use_57 rfl (by decide) rfl ?_
  refine R_iload_n (pc := 58) 2 dX12_use_58 rfl rfl ?_
  refine R_tableIn (pc := 59) (tgt := 247) dX12_use_59 (by decide) (by decide) rfl (by decide) ?_
  refine R_aload_n (pc := 247) 1 dX12_use_247 rfl rfl ?_
  refine R_callVh (pc := 248) (μ' := mX12_outFed) (As := []) (st := []) dX12_use_248 zX12_outFed lX12_278 ⟨by decide, by decide⟩ rfl rfl ⟨by decide, by decide⟩ Sc.obj (by omega) rfl (Nat.le_of_ble_eq_true rfl) (oX12_outFed Sc hn D hD rfl K0 sD) (fun h_12 r_ q_13 => ?_)
  obtain ⟨ψd, rfl, Sd, Kd, Yd, Fd⟩ := q_13
  rw [eN] at Yd
  refine R_goto (pc := 251) (tgt := 334) dX12_use_251 (by decide) ?_
  refine R_iload_n (pc := 334) 0 dX12_use_334 rfl rfl ?_
  refine R_if_ge (pc := 335) (tgt := 342) dX12_use_335 (by decide) (fun c_14 => ?_) (fun c_14 => absurd (by decide) c_14)
  have yF : sg (ψd 72) 0 (stN (toS F D) (rd N 0) (nbk D)).2 := Yd
  have lF : (stN (toS F D) (rd N 0) (nbk D)).2.length = D.length := by rw [stN_lenM D (fun j_ y_ => toS_len F D j_ y_)]; have := nbk_b D; omega
  have hl7 : (stN (toS F D) (rd N 0) (nbk D)).2.length ≤ 700 := by rw [lF]; omega
  refine R_aload_n (pc := 342) 1 dX12_use_342 rfl rfl ?_
  refine R_aload_n (pc := 343) 1 dX12_use_343 rfl rfl ?_
  refine R_get (pc := 344) dX12_use_344 fX12_44 Sd.obj (by omega) rfl ?_
  refine R_aload_n (pc := 347) 1 dX12_use_347 rfl rfl ?_
  refine R_get (pc := 348) dX12_use_348 fX12_153 Sd.obj (by omega) rfl ?_
  refine R_eqi (y := nI (D.length)) rfl ?_
  refine R_eqi (y := nI (stN (toS F D) (rd N 0) (nbk D)).2.length) (by rw [lF]) ?_
  refine R_callVh (pc := 351) (μ' := mX12_come) (As := [.ref 72, .int (nI (stN (toS F D) (rd N 0) (nbk D)).2.length)]) (st := []) dX12_use_351 zX12_come lX12_297 ⟨by decide, by decide⟩ rfl rfl ⟨by decide, by decide⟩ Sd.obj (by omega) rfl (Nat.le_of_ble_eq_true rfl) (oX12_come Sd hn (p := 72) rfl (by decide) (stN (toS F D) (rd N 0) (nbk D)).2.length hl7 hl7) (fun h_15 r_ q_16 => ?_)
  obtain ⟨rfl, Se, Fe⟩ := q_16
  have KF : FR [67, 68, 71, 72, 73, 74, 75, 76, 77, 78, 79, 80, 81, 82, 83, 84, 85, 86, 87, 88, 89, 90] ψ ψd := (Kc.tr Kd (by decide))
  exact R_ireturn (pc := 354) dX12_use_354 rfl (by decide) (by decide) ⟨rfl, _, _, rfl, Se, ⟨KF 62 (by decide), KF 65 (by decide), KF 66 (by decide)⟩, ⟨rfl, rfl⟩, ⟨sg.cp yF _ 0 rfl, ui_s _ _ _⟩, ((((Fa.tr Fb).tr Fc).tr Fd).tr Fe)⟩
set_option maxHeartbeats 1000000 in
set_option maxRecDepth 100000 in
theorem oX12_use_7o {l : Launch} {w : am_W} {h : am_H} {n : Nat} {ψ : Nat → oA} {z : fA} {i : mI} (S : MO h ψ z i) (hn : 90 ≤ n) (A N D : List (BitVec 8)) (mm m : Nat) (hA : A.length ≤ 256) (hN : N.length ≤ 64) (hD : D.length ≤ 512) (hmm : 4 ≤ mm) (hmm16 : mm ≤ 16) (hi1 : i 1 = nI mm) (hz0 : z 0 = nI (4 * m)) (hm : m = 4 ∨ m = 6 ∨ m = 8) (hz1 : z 1 = nI D.length) (hz2 : z 2 = nI N.length) (hz3 : z 3 = nI A.length) (s1 : sg (ψ 62) 512 D) (s2 : sg (ψ 62) 1024 N) (s3 : sg (ψ 62) 1536 A) (B : BitVec 8 → BitVec 8) (hB : ∀ v : BitVec 8, ψ 65 v.toNat = B v) {F G : bP → bP} (HK0 : ∀ ψ2, FR [67, 68, 71, 72, 73, 74, 75, 76, 77, 78, 79, 80, 81, 82, 83, 84, 85, 86, 87, 88, 89, 90] ψ ψ2 → exK ψ2 B 0 0 m → Kh ψ2 0 F G) (hP : ftP 7 1 D.length N.length mm) : RH l w mX12_use h n [.ref 61, .int 7, .int 1] (uQ h ψ z i (nI (stN (toS F D) (rd N 0) (nbk D)).2.length) (some (stN (toS F D) (rd N 0) (nbk D)).2)) := by
  refine RC.of [(0, .ref 61), (1, .int 7), (2, .int 1)] (by decide +kernel) rfl (Nat.le_of_ble_eq_true rfl) ?_
  have hm8 : 4 ≤ m ∧ m ≤ 8 := by omega
  refine R_iload_n (pc := 0) 1 dX12_use_0 rfl rfl ?_
  refine R_iconst (pc := 1) (v := 1) dX12_use_1 (by decide) ?_
  refine R_bipush (pc := 2) (v := 16) dX12_use_2 (by decide) ?_
  refine R_callSp (pc := 4) (μ' := mX12_in) (As := [.int 7, .int 1, .int 16]) (st := []) dX12_use_4 zX12_in lX12_108 ⟨by decide, by decide⟩ rfl rfl ⟨by decide, by decide⟩ rfl (Nat.le_of_ble_eq_true rfl) (qX12_in l w _ _ _ _ _) ?_
  refine R_eqi (y := 1) (by decide) ?_
  refine R_if_ne (pc := 7) (tgt := 13) dX12_use_7 (by decide) (fun c_1 => ?_) (fun c_1 => absurd c_1 (by decide))
  refine R_aload_n (pc := 13) 0 dX12_use_13 rfl rfl ?_
  refine R_iload_n (pc := 14) 1 dX12_use_14 rfl rfl ?_
  refine R_bipush (pc := 15) (v := 9) dX12_use_15 (by decide) ?_
  refine R_icmp_eq (pc := 17) (tgt := 26) dX12_use_17 (by decide) (fun c_2 => absurd c_2 (by decide)) (fun c_2 => ?_)
  refine R_iload_n (pc := 20) 1 dX12_use_20 rfl rfl ?_
  refine R_bipush (pc := 21) (v := 15) dX12_use_21 (by decide) ?_
  refine R_icmp_ne (pc := 23) (tgt := 30) dX12_use_23 (by decide) (fun c_3 => ?_) (fun c_3 => absurd c_3 (by decide))
  refine R_iconst (pc := 30) (v := 0) dX12_use_30 (by decide) ?_
  refine R_callVh (pc := 31) (μ' := mX12_hasKeys) (As := [.int 0]) (st := []) dX12_use_31 zX12_hasKeys lX12_250 ⟨by decide, by decide⟩ rfl rfl ⟨by decide, by decide⟩ S.obj (by omega) rfl (Nat.le_of_ble_eq_true rfl) (oX12_hasKeys_0 S hn m hz0 hm B hB) (fun h_4 r_ q_5 => ?_)
  obtain ⟨ψa, rfl, Sa, Ka, Ea, Fa⟩ := q_5
  refine R_if_ne (pc := 34) (tgt := 40) dX12_use_34 (by decide) (fun c_6 => ?_) (fun c_6 => absurd c_6 (by decide))
  refine R_aload_n (pc := 40) 0 dX12_use_40 rfl rfl ?_
  refine R_iload_n (pc := 41) 1 dX12_use_41 rfl rfl ?_
  refine R_iload_n (pc := 42) 2 dX12_use_42 rfl rfl ?_
  refine R_callVh (pc := 43) (μ' := mX12_fits) (As := [.int 7, .int 1]) (st := []) dX12_use_43 zX12_fits lX12_254 ⟨by decide, by decide⟩ rfl rfl ⟨by decide, by decide⟩ Sa.obj (by omega) rfl (Nat.le_of_ble_eq_true rfl) (oX12_fits_7o Sa hn D.length N.length mm hD hN (by omega) hz1 hz2 hi1 hP) (fun h_7 r_ q_8 => ?_)
  obtain ⟨rfl, Sb, Fb⟩ := q_8
  refine R_if_ne (pc := 46) (tgt := 52) dX12_use_46 (by decide) (fun c_9 => ?_) (fun c_9 => absurd c_9 (by decide))
  refine R_aload_n (pc := 52) 0 dX12_use_52 rfl rfl ?_
  refine R_callVh (pc := 53) (μ' := mX12_load) (As := []) (st := []) dX12_use_53 zX12_load lX12_258 ⟨by decide, by decide⟩ rfl rfl ⟨by decide, by decide⟩ Sb.obj (by omega) rfl (Nat.le_of_ble_eq_true rfl) (oX12_load Sb hn D.length N.length A.length hz1 hz2 hz3 hD hN hA) (fun h_10 r_ q_11 => ?_)
  obtain ⟨rfl, Sc, Fc⟩ := q_11
  obtain ⟨ψc, ec⟩ : ∃ x, x = (uo (uo (uo ψa 71 (cpB (ψa 62) 512 (ψa 71) 0 D.length)) 73 (cpB (ψa 62) 1024 (ψa 73) 0 N.length)) 74 (cpB (ψa 62) 1536 (ψa 74) 0 A.length)) := ⟨_, rfl⟩
  rw [← ec] at Sc
  have Kc : FR [67, 68, 71, 72, 73, 74, 75, 76, 77, 78, 79, 80, 81, 82, 83, 84, 85, 86, 87, 88, 89, 90] ψ ψc := by rw [ec]; exact (((((FR.rf _ _).tr Ka (by decide)).up (by decide)).up (by decide)).up (by decide))
  have e62 : ψa 62 = ψ 62 := Ka 62 (by decide)
  have sD : sg (ψc 71) 0 D := by rw [ec]; exact (show sg (ψa 62) 512 D by rw [e62]; exact s1).cp (ψa 71) 0 rfl
  have sN : sg (ψc 73) 0 N := by rw [ec]; exact (show sg (ψa 62) 1024 N by rw [e62]; exact s2).cp (ψa 73) 0 rfl
  have sA : sg (ψc 74) 0 A := by rw [ec]; exact (show sg (ψa 62) 1536 A by rw [e62]; exact s3).cp (ψa 74) 0 rfl
  have K0 : Kh ψc 0 F G := HK0 ψc Kc (by rw [ec]; exact Ea)
  have eN : gt (ψc 73) 0 = rd N 0 := sg_rd0 sN (by have h_ : N.length = 16 := hP; omega)
  refine R_iconst (pc := 56) (v := 0) dX12_use_56 (by decide) ?_
  refine R_istore_n (pc := 57) (lv' := [(3, .int 0), (0, .ref 61), (1, .int 7), (2, .int 1)]) dX12_use_57 rfl (by decide) rfl ?_
  refine R_iload_n (pc := 58) 2 dX12_use_58 rfl rfl ?_
  refine R_tableIn (pc := 59) (tgt := 247) dX12_use_59 (by decide) (by decide) rfl (by decide) ?_
  refine R_aload_n (pc := 247) 1 dX12_use_247 rfl rfl ?_
  refine R_callVh (pc := 248) (μ' := mX12_outFed) (As := []) (st := []) dX12_use_248 zX12_outFed lX12_278 ⟨by decide, by decide⟩ rfl rfl ⟨by decide, by decide⟩ Sc.obj (by omega) rfl (Nat.le_of_ble_eq_true rfl) (oX12_outFed Sc hn D hD rfl K0 sD) (fun h_12 r_ q_13 => ?_)
  obtain ⟨ψd, rfl, Sd, Kd, Yd, Fd⟩ := q_13
  rw [eN] at Yd
  refine R_goto (pc := 251) (tgt := 334) dX12_use_251 (by decide) ?_
  refine R_iload_n (pc := 334) 0 dX12_use_334 rfl rfl ?_
  refine R_if_ge (pc := 335) (tgt := 342) dX12_use_335 (by decide) (fun c_14 => ?_) (fun c_14 => absurd (by decide) c_14)
  have yF : sg (ψd 72) 0 (stN (toS F D) (rd N 0) (nbk D)).2 := Yd
  have lF : (stN (toS F D) (rd N 0) (nbk D)).2.length = D.length := by rw [stN_lenM D (fun j_ y_ => toS_len F D j_ y_)]; have := nbk_b D; omega
  have hl7 : (stN (toS F D) (rd N 0) (nbk D)).2.length ≤ 700 := by rw [lF]; omega
  refine R_aload_n (pc := 342) 1 dX12_use_342 rfl rfl ?_
  refine R_aload_n (pc := 343) 1 dX12_use_343 rfl rfl ?_
  refine R_get (pc := 344) dX12_use_344 fX12_44 Sd.obj (by omega) rfl ?_
  refine R_aload_n (pc := 347) 1 dX12_use_347 rfl rfl ?_
  refine R_get (pc := 348) dX12_use_348 fX12_153 Sd.obj (by omega) rfl ?_
  refine R_eqi (y := nI (D.length)) rfl ?_
  refine R_eqi (y := nI (stN (toS F D) (rd N 0) (nbk D)).2.length) (by rw [lF]) ?_
  refine R_callVh (pc := 351) (μ' := mX12_come) (As := [.ref 72, .int (nI (stN (toS F D) (rd N 0) (nbk D)).2.length)]) (st := []) dX12_use_351 zX12_come lX12_297 ⟨by decide, by decide⟩ rfl rfl ⟨by decide, by decide⟩ Sd.obj (by omega) rfl (Nat.le_of_ble_eq_true rfl) (oX12_come Sd hn (p := 72) rfl (by decide) (stN (toS F D) (rd N 0) (nbk D)).2.length hl7 hl7) (fun h_15 r_ q_16 => ?_)
  obtain ⟨rfl, Se, Fe⟩ := q_16
  have KF : FR [67, 68, 71, 72, 73, 74, 75, 76, 77, 78, 79, 80, 81, 82, 83, 84, 85, 86, 87, 88, 89, 90] ψ ψd := (Kc.tr Kd (by decide))
  exact R_ireturn (pc := 354) dX12_use_354 rfl (by decide) (by decide) ⟨rfl, _, _, rfl, Se, ⟨KF 62 (by decide), KF 65 (by decide), KF 66 (by decide)⟩, ⟨rfl, rfl⟩, ⟨sg.cp yF _ 0 rfl, ui_s _ _ _⟩, ((((Fa.tr Fb).tr Fc).tr Fd).tr Fe)⟩
set_option maxHeartbeats 1000000 in
set_option maxRecDepth 100000 in
theorem oX12_use_8s {l : Launch} {w : am_W} {h : am_H} {n : Nat} {ψ : Nat → oA} {z : fA} {i : mI} (S : MO h ψ z i) (hn : 90 ≤ n) (A N D : List (BitVec 8)) (mm m : Nat) (hA : A.length ≤ 256) (hN : N.length ≤ 64) (hD : D.length ≤ 512) (hmm : 4 ≤ mm) (hmm16 : mm ≤ 16) (hi1 : i 1 = nI mm) (hz0 : z 0 = nI (4 * m)) (hm : m = 4 ∨ m = 6 ∨ m = 8) (hz1 : z 1 = nI D.length) (hz2 : z 2 = nI N.length) (hz3 : z 3 = nI A.length) (s1 : sg (ψ 62) 512 D) (s2 : sg (ψ 62) 1024 N) (s3 : sg (ψ 62) 1536 A) (B : BitVec 8 → BitVec 8) (hB : ∀ v : BitVec 8, ψ 65 v.toNat = B v) {F G : bP → bP} (HK0 : ∀ ψ2, FR [67, 68, 71, 72, 73, 74, 75, 76, 77, 78, 79, 80, 81, 82, 83, 84, 85, 86, 87, 88, 89, 90] ψ ψ2 → exK ψ2 B 0 0 m → Kh ψ2 0 F G) (hP : ftP 8 0 D.length N.length mm) : RH l w mX12_use h n [.ref 61, .int 8, .int 0] (uQ h ψ z i (nI (stN (ctS F D) (rd N 0) (nbk D)).2.length) (some (stN (ctS F D) (rd N 0) (nbk D)).2)) := by
  refine RC.of [(0, .ref 61), (1, .int 8), (2, .int 0)] (by decide +kernel) rfl (Nat.le_of_ble_eq_true rfl) ?_
  have hm8 : 4 ≤ m ∧ m ≤ 8 := by omega
  refine R_iload_n (pc := 0) 1 dX12_use_0 rfl rfl ?_
  refine R_iconst (pc := 1) (v := 1) dX12_use_1 (by decide) ?_
  refine R_bipush (pc := 2) (v := 16) dX12_use_2 (by decide) ?_
  refine R_callSp (pc := 4) (μ' := mX12_in) (As := [.int 8, .int 1, .int 16]) (st := []) dX12_use_4 zX12_in lX12_108 ⟨by decide, by decide⟩ rfl rfl ⟨by decide, by decide⟩ rfl (Nat.le_of_ble_eq_true rfl) (qX12_in l w _ _ _ _ _) ?_
  refine R_eqi (y := 1) (by decide) ?_
  refine R_if_ne (pc := 7) (tgt := 13) dX12_use_7 (by decide) (fun c_1 => ?_) (fun c_1 => absurd c_1 (by decide))
  refine R_aload_n (pc := 13) 0 dX12_use_13 rfl rfl ?_
  refine R_iload_n (pc := 14) 1 dX12_use_14 rfl rfl ?_
  refine R_bipush (pc := 15) (v := 9) dX12_use_15 (by decide) ?_
  refine R_icmp_eq (pc := 17) (tgt := 26) dX12_use_17 (by decide) (fun c_2 => absurd c_2 (by decide)) (fun c_2 => ?_)
  refine R_iload_n (pc := 20) 1 dX12_use_20 rfl rfl ?_
  refine R_bipush (pc := 21) (v := 15) dX12_use_21 (by decide) ?_
  refine R_icmp_ne (pc := 23) (tgt := 30) dX12_use_23 (by decide) (fun c_3 => ?_) (fun c_3 => absurd c_3 (by decide))
  refine R_iconst (pc := 30) (v := 0) dX12_use_30 (by decide) ?_
  refine R_callVh (pc := 31) (μ' := mX12_hasKeys) (As := [.int 0]) (st := []) dX12_use_31 zX12_hasKeys lX12_250 ⟨by decide, by decide⟩ rfl rfl ⟨by decide, by decide⟩ S.obj (by omega) rfl (Nat.le_of_ble_eq_true rfl) (oX12_hasKeys_0 S hn m hz0 hm B hB) (fun h_4 r_ q_5 => ?_)
  obtain ⟨ψa, rfl, Sa, Ka, Ea, Fa⟩ := q_5
  refine R_if_ne (pc := 34) (tgt := 40) dX12_use_34 (by decide) (fun c_6 => ?_) (fun c_6 => absurd c_6 (by decide))
  refine R_aload_n (pc := 40) 0 dX12_use_40 rfl rfl ?_
  refine R_iload_n (pc := 41) 1 dX12_use_41 rfl rfl ?_
  refine R_iload_n (pc := 42) 2 dX12_use_42 rfl rfl ?_
  refine R_callVh (pc := 43) (μ' := mX12_fits) (As := [.int 8, .int 0]) (st := []) dX12_use_43 zX12_fits lX12_254 ⟨by decide, by decide⟩ rfl rfl ⟨by decide, by decide⟩ Sa.obj (by omega) rfl (Nat.le_of_ble_eq_true rfl) (oX12_fits_8s Sa hn D.length N.length mm hD hN (by omega) hz1 hz2 hi1 hP) (fun h_7 r_ q_8 => ?_)
  obtain ⟨rfl, Sb, Fb⟩ := q_8
  refine R_if_ne (pc := 46) (tgt := 52) dX12_use_46 (by decide) (fun c_9 => ?_) (fun c_9 => absurd c_9 (by decide))
  refine R_aload_n (pc := 52) 0 dX12_use_52 rfl rfl ?_
  refine R_callVh (pc := 53) (μ' := mX12_load) (As := []) (st := []) dX12_use_53 zX12_load lX12_258 ⟨by decide, by decide⟩ rfl rfl ⟨by decide, by decide⟩ Sb.obj (by omega) rfl (Nat.le_of_ble_eq_true rfl) (oX12_load Sb hn D.length N.length A.length hz1 hz2 hz3 hD hN hA) (fun h_10 r_ q_11 => ?_)
  obtain ⟨rfl, Sc, Fc⟩ := q_11
  obtain ⟨ψc, ec⟩ : ∃ x, x = (uo (uo (uo ψa 71 (cpB (ψa 62) 512 (ψa 71) 0 D.length)) 73 (cpB (ψa 62) 1024 (ψa 73) 0 N.length)) 74 (cpB (ψa 62) 1536 (ψa 74) 0 A.length)) := ⟨_, rfl⟩
  rw [← ec] at Sc
  have Kc : FR [67, 68, 71, 72, 73, 74, 75, 76, 77, 78, 79, 80, 81, 82, 83, 84, 85, 86, 87, 88, 89, 90] ψ ψc := by rw [ec]; exact (((((FR.rf _ _).tr Ka (by decide)).up (by decide)).up (by decide)).up (by decide))
  have e62 : ψa 62 = ψ 62 := Ka 62 (by decide)
  have sD : sg (ψc 71) 0 D := by rw [ec]; exact (show sg (ψa 62) 512 D by rw [e62]; exact s1).cp (ψa 71) 0 rfl
  have sN : sg (ψc 73) 0 N := by rw [ec]; exact (show sg (ψa 62) 1024 N by rw [e62]; exact s2).cp (ψa 73) 0 rfl
  have sA : sg (ψc 74) 0 A := by rw [ec]; exact (show sg (ψa 62) 1536 A by rw [e62]; exact s3).cp (ψa 74) 0 rfl
  have K0 : Kh ψc 0 F G := HK0 ψc Kc (by rw [ec]; exact Ea)
  have eN : gt (ψc 73) 0 = rd N 0 := sg_rd0 sN (by have h_ : N.length = 16 := hP; omega)
  refine R_iconst (pc := 56) (v := 0) dX12_use_56 (by decide) ?_
  refine R_istore_n (pc := 57) (lv' := [(3, .int 0), (0, .ref 61), (1, .int 8), (2, .int 0)]) dX12_use_57 rfl (by decide) rfl ?_
  refine R_iload_n (pc := 58) 2 dX12_use_58 rfl rfl ?_
  refine R_tableIn (pc := 59) (tgt := 254) dX12_use_59 (by decide) (by decide) rfl (by decide) ?_
  refine R_aload_n (pc := 254) 1 dX12_use_254 rfl rfl ?_
  refine R_get (pc := 255) dX12_use_255 fX12_47 Sc.obj (by omega) rfl ?_
  refine R_iconst (pc := 258) (v := 0) dX12_use_258 (by decide) ?_
  refine R_aload_n (pc := 259) 1 dX12_use_259 rfl rfl ?_
  refine R_get (pc := 260) dX12_use_260 fX12_53 Sc.obj (by omega) rfl ?_
  refine R_iconst (pc := 263) (v := 0) dX12_use_263 (by decide) ?_
  refine R_bipush (pc := 264) (v := 16) dX12_use_264 (by decide) ?_
  refine R_callSh (pc := 266) (μ' := mX12_copy) (As := [.ref 73, .int (nI 0), .ref 75, .int (nI 0), .int 16]) (st := []) dX12_use_266 zX12_copy lX12_133 ⟨by decide, by decide⟩ rfl rfl ⟨by decide, by decide⟩ rfl (Nat.le_of_ble_eq_true rfl) (oX12_copy16 Sc hn (p := 73) (q := 75) rfl rfl 0 0 (by show 0 + 16 ≤ 64; omega) (by show 0 + 16 ≤ 16; omega) (by decide)) (fun h_12 r_ q_13 => ?_)
  obtain ⟨rfl, S_14, F_15⟩ := q_13
  have S_16 : MO h_12 (uo ψc 75 (pt (ψc 75) 0 (gt (ψc 73) 0))) z (ui (ui (ui i 3 (nI D.length)) 5 (nI N.length)) 6 (nI A.length)) := S_14
  refine R_aload_n (pc := 269) 1 dX12_use_269 rfl rfl ?_
  refine R_iconst (pc := 270) (v := 0) dX12_use_270 (by decide) ?_
  refine R_iconst (pc := 271) (v := 0) dX12_use_271 (by decide) ?_
  refine R_iconst (pc := 272) (v := 0) dX12_use_272 (by decide) ?_
  refine R_aload_n (pc := 273) 1 dX12_use_273 rfl rfl ?_
  refine R_get (pc := 274) dX12_use_274 fX12_130 S_16.obj (by omega) rfl ?_
  refine R_eqi (y := nI D.length) rfl ?_
  refine R_iconst (pc := 277) (v := 0) dX12_use_277 (by decide) ?_
  refine R_callVh (pc := 278) (μ' := mX12_count) (As := [.int (nI 0), .int (nI 0), .int (nI 0), .int (nI D.length), .int (nI 0)]) (st := []) dX12_use_278 zX12_count lX12_204 ⟨by decide, by decide⟩ rfl rfl ⟨by decide, by decide⟩ S_16.obj (by omega) rfl (Nat.le_of_ble_eq_true rfl) (oX12_count S_16 hn 0 0 0 D.length 0 (by omega) (by omega) (by omega) (K0.uo (by decide)) (fun j => (stN (ctS F D) (rd N 0) j).1) (fun j_ f_ _ e_ => by rw [om_one1 f_ (by omega) (Or.inl rfl), e_]; rfl) ((gt_pt _ _ _).trans eN)) (fun h_17 r_ q_18 => ?_)
  obtain ⟨ψ_22, rfl, S_19, K_21, J_23, F_20⟩ := q_18
  have K_24 := (K0.uo (by decide)).fr K_21 (by decide) (by decide) (by decide) (by decide)
  have c_ : ψ_22 72 = pgB _ _ 0 D.length := J_23
  have Yd : sg (ψ_22 72) 0 (stN (ctS F D) (rd N 0) (nbk D)).2 := by
    refine stN_sg (H := F) (fun _ _ => rfl) (fun j_ hj_ => ?_)
    rw [c_, pgB_in _ _ (by omega) (by omega), Nat.zero_add, Nat.sub_zero, Nat.zero_add]
    exact congrArg (fun v_ => v_ ^^^ _) (by show ψc 71 j_ = _; exact sg0 sD hj_)
  refine R_aload_n (pc := 281) 1 dX12_use_281 rfl rfl ?_
  refine R_aload_n (pc := 282) 1 dX12_use_282 rfl rfl ?_
  refine R_get (pc := 283) dX12_use_283 fX12_130 S_19.obj (by omega) rfl ?_
  refine R_eqi (y := nI D.length) rfl ?_
  refine R_put' (pc := 286) (fs' := [.int (i 0), .ref 62, .ref 63, .int (i 1), .ref 64, .int (i 2), .ref 65, .ref 66, .ref 67, .ref 68, .ref 69, .ref 70, .ref 71, .int (nI D.length), .ref 72, .int (nI D.length), .ref 73, .int (nI N.length), .ref 74, .int (nI A.length), .ref 75, .ref 76, .ref 77, .ref 78, .ref 79, .ref 80, .ref 81, .ref 82, .ref 83, .ref 84, .int (i 7), .ref 85, .ref 86, .ref 87, .ref 88, .ref 89, .ref 90]) dX12_use_286 fX12_153 tX12_15 rfl rfl S_19.obj (by omega) (Nat.le_of_ble_eq_true rfl) rfl (fun h_25 f_26 g_27 => ?_)
  have S_28 : MO h_25 ψ_22 z (ui (ui (ui (ui i 3 (nI D.length)) 5 (nI N.length)) 6 (nI A.length)) 4 (nI D.length)) := MO.setI (j := (ui (ui (ui (ui i 3 (nI D.length)) 5 (nI N.length)) 6 (nI A.length)) 4 (nI D.length))) S_19 f_26 g_27
  have F_29 := fmI g_27
  refine R_goto (pc := 289) (tgt := 334) dX12_use_289 (by decide) ?_
  refine R_iload_n (pc := 334) 0 dX12_use_334 rfl rfl ?_
  refine R_if_ge (pc := 335) (tgt := 342) dX12_use_335 (by decide) (fun c_30 => ?_) (fun c_30 => absurd (by decide) c_30)
  have yF : sg (ψ_22 72) 0 (stN (ctS F D) (rd N 0) (nbk D)).2 := Yd
  have lF : (stN (ctS F D) (rd N 0) (nbk D)).2.length = D.length := by rw [stN_lenM D (fun j_ y_ => ctS_len F D j_ y_)]; have := nbk_b D; omega
  have hl7 : (stN (ctS F D) (rd N 0) (nbk D)).2.length ≤ 700 := by rw [lF]; omega
  refine R_aload_n (pc := 342) 1 dX12_use_342 rfl rfl ?_
  refine R_aload_n (pc := 343) 1 dX12_use_343 rfl rfl ?_
  refine R_get (pc := 344) dX12_use_344 fX12_44 S_28.obj (by omega) rfl ?_
  refine R_aload_n (pc := 347) 1 dX12_use_347 rfl rfl ?_
  refine R_get (pc := 348) dX12_use_348 fX12_153 S_28.obj (by omega) rfl ?_
  refine R_eqi (y := nI D.length) rfl ?_
  refine R_eqi (y := nI (stN (ctS F D) (rd N 0) (nbk D)).2.length) (by rw [lF]) ?_
  refine R_callVh (pc := 351) (μ' := mX12_come) (As := [.ref 72, .int (nI (stN (ctS F D) (rd N 0) (nbk D)).2.length)]) (st := []) dX12_use_351 zX12_come lX12_297 ⟨by decide, by decide⟩ rfl rfl ⟨by decide, by decide⟩ S_28.obj (by omega) rfl (Nat.le_of_ble_eq_true rfl) (oX12_come S_28 hn (p := 72) rfl (by decide) (stN (ctS F D) (rd N 0) (nbk D)).2.length hl7 hl7) (fun h_31 r_ q_32 => ?_)
  obtain ⟨rfl, Se, Fe⟩ := q_32
  have KF : FR [67, 68, 71, 72, 73, 74, 75, 76, 77, 78, 79, 80, 81, 82, 83, 84, 85, 86, 87, 88, 89, 90] ψ ψ_22 := ((Kc.up (by decide)).tr K_21 (by decide))
  exact R_ireturn (pc := 354) dX12_use_354 rfl (by decide) (by decide) ⟨rfl, _, _, rfl, Se, ⟨KF 62 (by decide), KF 65 (by decide), KF 66 (by decide)⟩, ⟨rfl, rfl⟩, ⟨sg.cp yF _ 0 rfl, ui_s _ _ _⟩, ((((((Fa.tr Fb).tr Fc).tr F_15).tr F_20).tr F_29).tr Fe)⟩
set_option maxHeartbeats 1000000 in
set_option maxRecDepth 100000 in
theorem oX12_use_8o {l : Launch} {w : am_W} {h : am_H} {n : Nat} {ψ : Nat → oA} {z : fA} {i : mI} (S : MO h ψ z i) (hn : 90 ≤ n) (A N D : List (BitVec 8)) (mm m : Nat) (hA : A.length ≤ 256) (hN : N.length ≤ 64) (hD : D.length ≤ 512) (hmm : 4 ≤ mm) (hmm16 : mm ≤ 16) (hi1 : i 1 = nI mm) (hz0 : z 0 = nI (4 * m)) (hm : m = 4 ∨ m = 6 ∨ m = 8) (hz1 : z 1 = nI D.length) (hz2 : z 2 = nI N.length) (hz3 : z 3 = nI A.length) (s1 : sg (ψ 62) 512 D) (s2 : sg (ψ 62) 1024 N) (s3 : sg (ψ 62) 1536 A) (B : BitVec 8 → BitVec 8) (hB : ∀ v : BitVec 8, ψ 65 v.toNat = B v) {F G : bP → bP} (HK0 : ∀ ψ2, FR [67, 68, 71, 72, 73, 74, 75, 76, 77, 78, 79, 80, 81, 82, 83, 84, 85, 86, 87, 88, 89, 90] ψ ψ2 → exK ψ2 B 0 0 m → Kh ψ2 0 F G) (hP : ftP 8 1 D.length N.length mm) : RH l w mX12_use h n [.ref 61, .int 8, .int 1] (uQ h ψ z i (nI (stN (ctS F D) (rd N 0) (nbk D)).2.length) (some (stN (ctS F D) (rd N 0) (nbk D)).2)) := by
  refine RC.of [(0, .ref 61), (1, .int 8), (2, .int 1)] (by decide +kernel) rfl (Nat.le_of_ble_eq_true rfl) ?_
  have hm8 : 4 ≤ m ∧ m ≤ 8 := by omega
  refine R_iload_n (pc := 0) 1 dX12_use_0 rfl rfl ?_
  refine R_iconst (pc := 1) (v := 1) dX12_use_1 (by decide) ?_
  refine R_bipush (pc := 2) (v := 16) dX12_use_2 (by decide) ?_
  refine R_callSp (pc := 4) (μ' := mX12_in) (As := [.int 8, .int 1, .int 16]) (st := []) dX12_use_4 zX12_in lX12_108 ⟨by decide, by decide⟩ rfl rfl ⟨by decide, by decide⟩ rfl (Nat.le_of_ble_eq_true rfl) (qX12_in l w _ _ _ _ _) ?_
  refine R_eqi (y := 1) (by decide) ?_
  refine R_if_ne (pc := 7) (tgt := 13) dX12_use_7 (by decide) (fun c_1 => ?_) (fun c_1 => absurd c_1 (by decide))
  refine R_aload_n (pc := 13) 0 dX12_use_13 rfl rfl ?_
  refine R_iload_n (pc := 14) 1 dX12_use_14 rfl rfl ?_
  refine R_bipush (pc := 15) (v := 9) dX12_use_15 (by decide) ?_
  refine R_icmp_eq (pc := 17) (tgt := 26) dX12_use_17 (by decide) (fun c_2 => absurd c_2 (by decide)) (fun c_2 => ?_)
  refine R_iload_n (pc := 20) 1 dX12_use_20 rfl rfl ?_
  refine R_bipush (pc := 21) (v := 15) dX12_use_21 (by decide) ?_
  refine R_icmp_ne (pc := 23) (tgt := 30) dX12_use_23 (by decide) (fun c_3 => ?_) (fun c_3 => absurd c_3 (by decide))
  refine R_iconst (pc := 30) (v := 0) dX12_use_30 (by decide) ?_
  refine R_callVh (pc := 31) (μ' := mX12_hasKeys) (As := [.int 0]) (st := []) dX12_use_31 zX12_hasKeys lX12_250 ⟨by decide, by decide⟩ rfl rfl ⟨by decide, by decide⟩ S.obj (by omega) rfl (Nat.le_of_ble_eq_true rfl) (oX12_hasKeys_0 S hn m hz0 hm B hB) (fun h_4 r_ q_5 => ?_)
  obtain ⟨ψa, rfl, Sa, Ka, Ea, Fa⟩ := q_5
  refine R_if_ne (pc := 34) (tgt := 40) dX12_use_34 (by decide) (fun c_6 => ?_) (fun c_6 => absurd c_6 (by decide))
  refine R_aload_n (pc := 40) 0 dX12_use_40 rfl rfl ?_
  refine R_iload_n (pc := 41) 1 dX12_use_41 rfl rfl ?_
  refine R_iload_n (pc := 42) 2 dX12_use_42 rfl rfl ?_
  refine R_callVh (pc := 43) (μ' := mX12_fits) (As := [.int 8, .int 1]) (st := []) dX12_use_43 zX12_fits lX12_254 ⟨by decide, by decide⟩ rfl rfl ⟨by decide, by decide⟩ Sa.obj (by omega) rfl (Nat.le_of_ble_eq_true rfl) (oX12_fits_8o Sa hn D.length N.length mm hD hN (by omega) hz1 hz2 hi1 hP) (fun h_7 r_ q_8 => ?_)
  obtain ⟨rfl, Sb, Fb⟩ := q_8
  refine R_if_ne (pc := 46) (tgt := 52) dX12_use_46 (by decide) (fun c_9 => ?_) (fun c_9 => absurd c_9 (by decide))
  refine R_aload_n (pc := 52) 0 dX12_use_52 rfl rfl ?_
  refine R_callVh (pc := 53) (μ' := mX12_load) (As := []) (st := []) dX12_use_53 zX12_load lX12_258 ⟨by decide, by decide⟩ rfl rfl ⟨by decide, by decide⟩ Sb.obj (by omega) rfl (Nat.le_of_ble_eq_true rfl) (oX12_load Sb hn D.length N.length A.length hz1 hz2 hz3 hD hN hA) (fun h_10 r_ q_11 => ?_)
  obtain ⟨rfl, Sc, Fc⟩ := q_11
  obtain ⟨ψc, ec⟩ : ∃ x, x = (uo (uo (uo ψa 71 (cpB (ψa 62) 512 (ψa 71) 0 D.length)) 73 (cpB (ψa 62) 1024 (ψa 73) 0 N.length)) 74 (cpB (ψa 62) 1536 (ψa 74) 0 A.length)) := ⟨_, rfl⟩
  rw [← ec] at Sc
  have Kc : FR [67, 68, 71, 72, 73, 74, 75, 76, 77, 78, 79, 80, 81, 82, 83, 84, 85, 86, 87, 88, 89, 90] ψ ψc := by rw [ec]; exact (((((FR.rf _ _).tr Ka (by decide)).up (by decide)).up (by decide)).up (by decide))
  have e62 : ψa 62 = ψ 62 := Ka 62 (by decide)
  have sD : sg (ψc 71) 0 D := by rw [ec]; exact (show sg (ψa 62) 512 D by rw [e62]; exact s1).cp (ψa 71) 0 rfl
  have sN : sg (ψc 73) 0 N := by rw [ec]; exact (show sg (ψa 62) 1024 N by rw [e62]; exact s2).cp (ψa 73) 0 rfl
  have sA : sg (ψc 74) 0 A := by rw [ec]; exact (show sg (ψa 62) 1536 A by rw [e62]; exact s3).cp (ψa 74) 0 rfl
  have K0 : Kh ψc 0 F G := HK0 ψc Kc (by rw [ec]; exact Ea)
  have eN : gt (ψc 73) 0 = rd N 0 := sg_rd0 sN (by have h_ : N.length = 16 := hP; omega)
  refine R_iconst (pc := 56) (v := 0) dX12_use_56 (by decide) ?_
  refine R_istore_n (pc := 57) (lv' := [(3, .int 0), (0, .ref 61), (1, .int 8), (2, .int 1)]) dX12_use_57 rfl (by decide) rfl ?_
  refine R_iload_n (pc := 58) 2 dX12_use_58 rfl rfl ?_
  refine R_tableIn (pc := 59) (tgt := 254) dX12_use_59 (by decide) (by decide) rfl (by decide) ?_
  refine R_aload_n (pc := 254) 1 dX12_use_254 rfl rfl ?_
  refine R_get (pc := 255) dX12_use_255 fX12_47 Sc.obj (by omega) rfl ?_
  refine R_iconst (pc := 258) (v := 0) dX12_use_258 (by decide) ?_
  refine R_aload_n (pc := 259) 1 dX12_use_259 rfl rfl ?_
  refine R_get (pc := 260) dX12_use_260 fX12_53 Sc.obj (by omega) rfl ?_
  refine R_iconst (pc := 263) (v := 0) dX12_use_263 (by decide) ?_
  refine R_bipush (pc := 264) (v := 16) dX12_use_264 (by decide) ?_
  refine R_callSh (pc := 266) (μ' := mX12_copy) (As := [.ref 73, .int (nI 0), .ref 75, .int (nI 0), .int 16]) (st := []) dX12_use_266 zX12_copy lX12_133 ⟨by decide, by decide⟩ rfl rfl ⟨by decide, by decide⟩ rfl (Nat.le_of_ble_eq_true rfl) (oX12_copy16 Sc hn (p := 73) (q := 75) rfl rfl 0 0 (by show 0 + 16 ≤ 64; omega) (by show 0 + 16 ≤ 16; omega) (by decide)) (fun h_12 r_ q_13 => ?_)
  obtain ⟨rfl, S_14, F_15⟩ := q_13
  have S_16 : MO h_12 (uo ψc 75 (pt (ψc 75) 0 (gt (ψc 73) 0))) z (ui (ui (ui i 3 (nI D.length)) 5 (nI N.length)) 6 (nI A.length)) := S_14
  refine R_aload_n (pc := 269) 1 dX12_use_269 rfl rfl ?_
  refine R_iconst (pc := 270) (v := 0) dX12_use_270 (by decide) ?_
  refine R_iconst (pc := 271) (v := 0) dX12_use_271 (by decide) ?_
  refine R_iconst (pc := 272) (v := 0) dX12_use_272 (by decide) ?_
  refine R_aload_n (pc := 273) 1 dX12_use_273 rfl rfl ?_
  refine R_get (pc := 274) dX12_use_274 fX12_130 S_16.obj (by omega) rfl ?_
  refine R_eqi (y := nI D.length) rfl ?_
  refine R_iconst (pc := 277) (v := 0) dX12_use_277 (by decide) ?_
  refine R_callVh (pc := 278) (μ' := mX12_count) (As := [.int (nI 0), .int (nI 0), .int (nI 0), .int (nI D.length), .int (nI 0)]) (st := []) dX12_use_278 zX12_count lX12_204 ⟨by decide, by decide⟩ rfl rfl ⟨by decide, by decide⟩ S_16.obj (by omega) rfl (Nat.le_of_ble_eq_true rfl) (oX12_count S_16 hn 0 0 0 D.length 0 (by omega) (by omega) (by omega) (K0.uo (by decide)) (fun j => (stN (ctS F D) (rd N 0) j).1) (fun j_ f_ _ e_ => by rw [om_one1 f_ (by omega) (Or.inl rfl), e_]; rfl) ((gt_pt _ _ _).trans eN)) (fun h_17 r_ q_18 => ?_)
  obtain ⟨ψ_22, rfl, S_19, K_21, J_23, F_20⟩ := q_18
  have K_24 := (K0.uo (by decide)).fr K_21 (by decide) (by decide) (by decide) (by decide)
  have c_ : ψ_22 72 = pgB _ _ 0 D.length := J_23
  have Yd : sg (ψ_22 72) 0 (stN (ctS F D) (rd N 0) (nbk D)).2 := by
    refine stN_sg (H := F) (fun _ _ => rfl) (fun j_ hj_ => ?_)
    rw [c_, pgB_in _ _ (by omega) (by omega), Nat.zero_add, Nat.sub_zero, Nat.zero_add]
    exact congrArg (fun v_ => v_ ^^^ _) (by show ψc 71 j_ = _; exact sg0 sD hj_)
  refine R_aload_n (pc := 281) 1 dX12_use_281 rfl rfl ?_
  refine R_aload_n (pc := 282) 1 dX12_use_282 rfl rfl ?_
  refine R_get (pc := 283) dX12_use_283 fX12_130 S_19.obj (by omega) rfl ?_
  refine R_eqi (y := nI D.length) rfl ?_
  refine R_put' (pc := 286) (fs' := [.int (i 0), .ref 62, .ref 63, .int (i 1), .ref 64, .int (i 2), .ref 65, .ref 66, .ref 67, .ref 68, .ref 69, .ref 70, .ref 71, .int (nI D.length), .ref 72, .int (nI D.length), .ref 73, .int (nI N.length), .ref 74, .int (nI A.length), .ref 75, .ref 76, .ref 77, .ref 78, .ref 79, .ref 80, .ref 81, .ref 82, .ref 83, .ref 84, .int (i 7), .ref 85, .ref 86, .ref 87, .ref 88, .ref 89, .ref 90]) dX12_use_286 fX12_153 tX12_15 rfl rfl S_19.obj (by omega) (Nat.le_of_ble_eq_true rfl) rfl (fun h_25 f_26 g_27 => ?_)
  have S_28 : MO h_25 ψ_22 z (ui (ui (ui (ui i 3 (nI D.length)) 5 (nI N.length)) 6 (nI A.length)) 4 (nI D.length)) := MO.setI (j := (ui (ui (ui (ui i 3 (nI D.length)) 5 (nI N.length)) 6 (nI A.length)) 4 (nI D.length))) S_19 f_26 g_27
  have F_29 := fmI g_27
  refine R_goto (pc := 289) (tgt := 334) dX12_use_289 (by decide) ?_
  refine R_iload_n (pc := 334) 0 dX12_use_334 rfl rfl ?_
  refine R_if_ge (pc := 335) (tgt := 342) dX12_use_335 (by decide) (fun c_30 => ?_) (fun c_30 => absurd (by decide) c_30)
  have yF : sg (ψ_22 72) 0 (stN (ctS F D) (rd N 0) (nbk D)).2 := Yd
  have lF : (stN (ctS F D) (rd N 0) (nbk D)).2.length = D.length := by rw [stN_lenM D (fun j_ y_ => ctS_len F D j_ y_)]; have := nbk_b D; omega
  have hl7 : (stN (ctS F D) (rd N 0) (nbk D)).2.length ≤ 700 := by rw [lF]; omega
  refine R_aload_n (pc := 342) 1 dX12_use_342 rfl rfl ?_
  refine R_aload_n (pc := 343) 1 dX12_use_343 rfl rfl ?_
  refine R_get (pc := 344) dX12_use_344 fX12_44 S_28.obj (by omega) rfl ?_
  refine R_aload_n (pc := 347) 1 dX12_use_347 rfl rfl ?_
  refine R_get (pc := 348) dX12_use_348 fX12_153 S_28.obj (by omega) rfl ?_
  refine R_eqi (y := nI D.length) rfl ?_
  refine R_eqi (y := nI (stN (ctS F D) (rd N 0) (nbk D)).2.length) (by rw [lF]) ?_
  refine R_callVh (pc := 351) (μ' := mX12_come) (As := [.ref 72, .int (nI (stN (ctS F D) (rd N 0) (nbk D)).2.length)]) (st := []) dX12_use_351 zX12_come lX12_297 ⟨by decide, by decide⟩ rfl rfl ⟨by decide, by decide⟩ S_28.obj (by omega) rfl (Nat.le_of_ble_eq_true rfl) (oX12_come S_28 hn (p := 72) rfl (by decide) (stN (ctS F D) (rd N 0) (nbk D)).2.length hl7 hl7) (fun h_31 r_ q_32 => ?_)
  obtain ⟨rfl, Se, Fe⟩ := q_32
  have KF : FR [67, 68, 71, 72, 73, 74, 75, 76, 77, 78, 79, 80, 81, 82, 83, 84, 85, 86, 87, 88, 89, 90] ψ ψ_22 := ((Kc.up (by decide)).tr K_21 (by decide))
  exact R_ireturn (pc := 354) dX12_use_354 rfl (by decide) (by decide) ⟨rfl, _, _, rfl, Se, ⟨KF 62 (by decide), KF 65 (by decide), KF 66 (by decide)⟩, ⟨rfl, rfl⟩, ⟨sg.cp yF _ 0 rfl, ui_s _ _ _⟩, ((((((Fa.tr Fb).tr Fc).tr F_15).tr F_20).tr F_29).tr Fe)⟩
