def wr10 (F : bP → bP) (D : List (BitVec 8)) : List (BitVec 8) := wMx F ((lay8 D).length / 8 - 1) ((-6438275382588823898 : Int64), lay8 D)
theorem wr10_l (F : bP → bP) (D : List (BitVec 8)) (h : D.length % 8 = 0) : (wr10 F D).length = D.length + 8 := by
  have hl := lay8_len D
  unfold wr10 wMx
  rw [p8_len, wOut_len]
  show (lay8 D).length = _
  omega
theorem stE_l (F : bP → bP) (iv : bP) (D : List (BitVec 8)) (h : 17 ≤ D.length) : (stE (chE F iv D) D.length).length = D.length := by
  have hC := chE_len F iv D
  have hb := nbk_b D
  have hn : 2 ≤ nbk D := by unfold nbk; omega
  unfold stE
  rw [List.length_take, List.length_append, List.length_append, List.length_take, bt_len, bt_len]
  omega
theorem stT_l (G : bP → bP) (iv : bP) (D : List (BitVec 8)) (h : 17 ≤ D.length) : ((chD G iv (stT G D)).take D.length).length = D.length := by
  have hb := nbk_b (stT G D)
  rw [List.length_take, chD_len]
  have := stT_len G h
  omega
theorem pwE_l (F : bP → bP) (D : List (BitVec 8)) (hD : D.length ≤ 512) : (pwE F D).length = 8 * ((D.length + 7) / 8) + 8 := by
  have hl := lay8_len D
  unfold pwE
  by_cases c : nI (lay8 D).length = 16
  · have := (nI_eq (a := (lay8 D).length) (b := 16) (by omega) (by omega)).mp c
    rw [if_pos c, bt_len]
    omega
  · rw [if_neg c]
    unfold wMx
    rw [p8_len, wOut_len]
    show (lay8 D).length = _
    omega
theorem upR_700 {G : bP → bP} {iv : bP} {D : List (BitVec 8)} (hD : D.length ≤ 512) : (upR (chD G iv D)).length ≤ 700 := by
  have hC := chD_len G iv D
  have hb := nbk_b D
  unfold upR
  by_cases c : upW (chD G iv D) 16 = 0
  · rw [if_pos c, List.length_take]
    omega
  · rw [if_neg c]
    omega
theorem pwR_700 {G : bP → bP} {D : List (BitVec 8)} (hD : D.length ≤ 512) : (pwR G D).length ≤ 700 := by
  have hC : (tk8 (pwU G D).2).length = D.length - 8 := by rw [tk8_len, pwU_len]
  unfold pwR
  by_cases c : pwC G D = 0
  · rw [if_pos c, List.length_take]
    omega
  · rw [if_neg c]
    omega
theorem nI0 {r : Nat} (hr : r < 16) : nI r = 0 ↔ r = 0 := nI_eq (a := r) (b := 0) (by omega) (by omega)
theorem scE_l (F : bP → bP) (D : List (BitVec 8)) (x b : bP) (h : 16 ≤ D.length) : (scE F D x b).length = D.length := by
  have hl : (stN (scS F D) x (D.length / 16)).2.length = 16 * (D.length / 16) := stN_len (scS_len F D) _
  unfold scE
  by_cases c : nI (D.length % 16) = 0
  · have := (nI0 (by omega)).mp c
    simp only [if_pos c]
    omega
  · have h2 : ¬ D.length % 16 = 0 := fun q => c ((nI0 (by omega)).mpr q)
    simp only [if_neg c]
    rw [List.length_append, List.length_append, List.length_take, bt_len, bt_len]
    omega
theorem scD_l (G : bP → bP) (D : List (BitVec 8)) (x : bP) (h : 16 ≤ D.length) : (scD G D x).length = D.length := by
  have hl : (stN (scS G D) x (scW D)).2.length = 16 * scW D := stN_len (scS_len G D) _
  unfold scD
  by_cases c : nI (D.length % 16) = 0
  · have := (nI0 (by omega)).mp c
    have e : scW D = D.length / 16 := if_pos c
    simp only [if_pos c]
    omega
  · have h2 : ¬ D.length % 16 = 0 := fun q => c ((nI0 (by omega)).mpr q)
    have e : scW D = D.length / 16 - 1 := if_neg c
    simp only [if_neg c]
    rw [List.length_append, List.length_append, bt_len, bt_len]
    omega
set_option maxHeartbeats 1000000 in
set_option maxRecDepth 100000 in
theorem oX12_use_3s {l : Launch} {w : am_W} {h : am_H} {n : Nat} {ψ : Nat → oA} {z : fA} {i : mI} (S : MO h ψ z i) (hn : 90 ≤ n) (A N D : List (BitVec 8)) (mm m : Nat) (hA : A.length ≤ 256) (hN : N.length ≤ 64) (hD : D.length ≤ 512) (hmm : 4 ≤ mm) (hmm16 : mm ≤ 16) (hi1 : i 1 = nI mm) (hz0 : z 0 = nI (4 * m)) (hm : m = 4 ∨ m = 6 ∨ m = 8) (hz1 : z 1 = nI D.length) (hz2 : z 2 = nI N.length) (hz3 : z 3 = nI A.length) (s1 : sg (ψ 62) 512 D) (s2 : sg (ψ 62) 1024 N) (s3 : sg (ψ 62) 1536 A) (B : BitVec 8 → BitVec 8) (hB : ∀ v : BitVec 8, ψ 65 v.toNat = B v) {F G : bP → bP} (HK0 : ∀ ψ2, FR [67, 68, 71, 72, 73, 74, 75, 76, 77, 78, 79, 80, 81, 82, 83, 84, 85, 86, 87, 88, 89, 90] ψ ψ2 → exK ψ2 B 0 0 m → Kh ψ2 0 F G) (hP : ftP 3 0 D.length N.length mm) : RH l w mX12_use h n [.ref 61, .int 3, .int 0] (uQ h ψ z i (nI (chE F (rd N 0) (pdP D)).length) (some (chE F (rd N 0) (pdP D)))) := by
  refine RC.of [(0, .ref 61), (1, .int 3), (2, .int 0)] (by decide +kernel) rfl (Nat.le_of_ble_eq_true rfl) ?_
  have hm8 : 4 ≤ m ∧ m ≤ 8 := by omega
  refine R_iload_n (pc := 0) 1 dX12_use_0 rfl rfl ?_
  refine R_iconst (pc := 1) (v := 1) dX12_use_1 (by decide) ?_
  refine R_bipush (pc := 2) (v := 16) dX12_use_2 (by decide) ?_
  refine R_callSp (pc := 4) (μ' := mX12_in) (As := [.int 3, .int 1, .int 16]) (st := []) dX12_use_4 zX12_in lX12_108 ⟨by decide, by decide⟩ rfl rfl ⟨by decide, by decide⟩ rfl (Nat.le_of_ble_eq_true rfl) (qX12_in l w _ _ _ _ _) ?_
  refine R_eqi (y := 1) (by decide) ?_
  refine R_if_ne (pc := 7) (tgt := 13) dX12_use_7 (by decide) (fun c_1 => ?_) (fun c_1 => absurd c_1 (by decide))
  refine R_aload_n (pc := 13) 0 dX12_use_13 rfl rfl ?_
  refine R_iload_n (pc := 14) 1 dX12_use_14 rfl rfl ?_
  refine R_bipush (pc := 15) (v := 9) dX12_use_15 (by decide) ?_
  refine R_icmp_eq (pc := 17) (tgt := 26) dX12_use_17 (by decide) (fun c_2 => absurd c_2 (by decide)) (fun c_2 => ?_)
  refine R_iload_n (pc := 20) 1 dX12_use_20 rfl rfl ?_
  refine R_bipush (pc := 21) (v := 15) dX12_use_21 (by decide) ?_
  refine R_icmp_ne (pc := 23) (tgt := 30) dX12_use_23 (by decide) (fun c_3 => ?_) (fun c_3 => absurd c_3 (by decide))
  refine R_iconst (pc := 30) (v := 0) dX12_use_30 (by decide) ?_
  refine R_callVh (pc := 31) (μ' := mX12_hasKeys) (As := [.int 0]) (st := []) dX12_use_31 zX12_hasKeys lX12_250 ⟨by decide, by decide⟩ rfl rfl ⟨by decide, by decide⟩ S.obj (by omega) rfl (Nat.le_of_ble_eq_true rfl) (oX12_hasKeys_0 S hn m hz0 hm B hB) (fun h_4 r_ q_5 => ?_)
  obtain ⟨ψa, rfl, Sa, Ka, Ea, Fa⟩ := q_5
  refine R_if_ne (pc := 34) (tgt := 40) dX12_use_34 (by decide) (fun c_6 => ?_) (fun c_6 => absurd c_6 (by decide))
  refine R_aload_n (pc := 40) 0 dX12_use_40 rfl rfl ?_
  refine R_iload_n (pc := 41) 1 dX12_use_41 rfl rfl ?_
  refine R_iload_n (pc := 42) 2 dX12_use_42 rfl rfl ?_
  refine R_callVh (pc := 43) (μ' := mX12_fits) (As := [.int 3, .int 0]) (st := []) dX12_use_43 zX12_fits lX12_254 ⟨by decide, by decide⟩ rfl rfl ⟨by decide, by decide⟩ Sa.obj (by omega) rfl (Nat.le_of_ble_eq_true rfl) (oX12_fits_3s Sa hn D.length N.length mm hD hN (by omega) hz1 hz2 hi1 hP) (fun h_7 r_ q_8 => ?_)
  obtain ⟨rfl, Sb, Fb⟩ := q_8
  refine R_if_ne (pc := 46) (tgt := 52) dX12_use_46 (by decide) (fun c_9 => ?_) (fun c_9 => absurd c_9 (by decide))
  refine R_aload_n (pc := 52) 0 dX12_use_52 rfl rfl ?_
  refine R_callVh (pc := 53) (μ' := mX12_load) (As := []) (st := []) dX12_use_53 zX12_load lX12_258 ⟨by decide, by decide⟩ rfl rfl ⟨by decide, by decide⟩ Sb.obj (by omega) rfl (Nat.le_of_ble_eq_true rfl) (oX12_load Sb hn D.length N.length A.length hz1 hz2 hz3 hD hN hA) (fun h_10 r_ q_11 => ?_)
  obtain ⟨rfl, Sc, Fc⟩ := q_11
  obtain ⟨ψc, ec⟩ : ∃ x, x = (uo (uo (uo ψa 71 (cpB (ψa 62) 512 (ψa 71) 0 D.length)) 73 (cpB (ψa 62) 1024 (ψa 73) 0 N.length)) 74 (cpB (ψa 62) 1536 (ψa 74) 0 A.length)) := ⟨_, rfl⟩
  rw [← ec] at Sc
  have Kc : FR [67, 68, 71, 72, 73, 74, 75, 76, 77, 78, 79, 80, 81, 82, 83, 84, 85, 86, 87, 88, 89, 90] ψ ψc := by rw [ec]; exact (((((FR.rf _ _).tr Ka (by decide)).up (by decide)).up (by decide)).up (by decide))
  have e62 : ψa 62 = ψ 62 := Ka 62 (by decide)
  have sD : sg (ψc 71) 0 D := by rw [ec]; exact (show sg (ψa 62) 512 D by rw [e62]; exact s1).cp (ψa 71) 0 rfl
  have sN : sg (ψc 73) 0 N := by rw [ec]; exact (show sg (ψa 62) 1024 N by rw [e62]; exact s2).cp (ψa 73) 0 rfl
  have sA : sg (ψc 74) 0 A := by rw [ec]; exact (show sg (ψa 62) 1536 A by rw [e62]; exact s3).cp (ψa 74) 0 rfl
  have K0 : Kh ψc 0 F G := HK0 ψc Kc (by rw [ec]; exact Ea)
  have eN : gt (ψc 73) 0 = rd N 0 := sg_rd0 sN (by have h_ : N.length = 16 := hP; omega)
  refine R_iconst (pc := 56) (v := 0) dX12_use_56 (by decide) ?_
  refine R_istore_n (pc := 57) (lv' := [(3, .int 0), (0, .ref 61), (1, .int 3), (2, .int 0)]) dX12_use_57 rfl (by decide) rfl ?_
  refine R_iload_n (pc := 58) 2 dX12_use_58 rfl rfl ?_
  refine R_tableIn (pc := 59) (tgt := 214) dX12_use_59 (by decide) (by decide) rfl (by decide) ?_
  refine R_aload_n (pc := 214) 1 dX12_use_214 rfl rfl ?_
  refine R_iload_n (pc := 215) 3 dX12_use_215 rfl rfl ?_
  refine R_callVh (pc := 216) (μ' := mX12_padded) (As := [.int 0]) (st := []) dX12_use_216 zX12_padded lX12_265 ⟨by decide, by decide⟩ rfl rfl ⟨by decide, by decide⟩ Sc.obj (by omega) rfl (Nat.le_of_ble_eq_true rfl) (oX12_padded_s Sc hn D hD rfl K0 sD) (fun h_12 r_ q_13 => ?_)
  obtain ⟨ψd, rfl, Sd, Kd, Yd, Fd⟩ := q_13
  rw [eN] at Yd
  refine R_istore_n (pc := 219) (lv' := [(3, .int 0), (0, .ref 61), (1, .int 3), (2, .int 0)]) dX12_use_219 rfl (by decide) rfl ?_
  refine R_goto (pc := 220) (tgt := 334) dX12_use_220 (by decide) ?_
  refine R_iload_n (pc := 334) 0 dX12_use_334 rfl rfl ?_
  refine R_if_ge (pc := 335) (tgt := 342) dX12_use_335 (by decide) (fun c_14 => ?_) (fun c_14 => absurd (by decide) c_14)
  have yF : sg (ψd 72) 0 (chE F (rd N 0) (pdP D)) := Yd
  have lF : (chE F (rd N 0) (pdP D)).length = D.length + (16 - D.length % 16) := by unfold chE; rw [stN_len (chS_len F _)]; unfold nbk pdP; rw [List.length_append, List.length_replicate]; omega
  have hl7 : (chE F (rd N 0) (pdP D)).length ≤ 700 := by rw [lF]; omega
  refine R_aload_n (pc := 342) 1 dX12_use_342 rfl rfl ?_
  refine R_aload_n (pc := 343) 1 dX12_use_343 rfl rfl ?_
  refine R_get (pc := 344) dX12_use_344 fX12_44 Sd.obj (by omega) rfl ?_
  refine R_aload_n (pc := 347) 1 dX12_use_347 rfl rfl ?_
  refine R_get (pc := 348) dX12_use_348 fX12_153 Sd.obj (by omega) rfl ?_
  refine R_eqi (y := nI (D.length + (16 - D.length % 16))) rfl ?_
  refine R_eqi (y := nI (chE F (rd N 0) (pdP D)).length) (by rw [lF]) ?_
  refine R_callVh (pc := 351) (μ' := mX12_come) (As := [.ref 72, .int (nI (chE F (rd N 0) (pdP D)).length)]) (st := []) dX12_use_351 zX12_come lX12_297 ⟨by decide, by decide⟩ rfl rfl ⟨by decide, by decide⟩ Sd.obj (by omega) rfl (Nat.le_of_ble_eq_true rfl) (oX12_come Sd hn (p := 72) rfl (by decide) (chE F (rd N 0) (pdP D)).length hl7 hl7) (fun h_15 r_ q_16 => ?_)
  obtain ⟨rfl, Se, Fe⟩ := q_16
  have KF : FR [67, 68, 71, 72, 73, 74, 75, 76, 77, 78, 79, 80, 81, 82, 83, 84, 85, 86, 87, 88, 89, 90] ψ ψd := (Kc.tr Kd (by decide))
  exact R_ireturn (pc := 354) dX12_use_354 rfl (by decide) (by decide) ⟨rfl, _, _, rfl, Se, ⟨KF 62 (by decide), KF 65 (by decide), KF 66 (by decide)⟩, ⟨rfl, rfl⟩, ⟨sg.cp yF _ 0 rfl, ui_s _ _ _⟩, ((((Fa.tr Fb).tr Fc).tr Fd).tr Fe)⟩
set_option maxHeartbeats 1000000 in
set_option maxRecDepth 100000 in
theorem oX12_use_3o {l : Launch} {w : am_W} {h : am_H} {n : Nat} {ψ : Nat → oA} {z : fA} {i : mI} (S : MO h ψ z i) (hn : 90 ≤ n) (A N D : List (BitVec 8)) (mm m : Nat) (hA : A.length ≤ 256) (hN : N.length ≤ 64) (hD : D.length ≤ 512) (hmm : 4 ≤ mm) (hmm16 : mm ≤ 16) (hi1 : i 1 = nI mm) (hz0 : z 0 = nI (4 * m)) (hm : m = 4 ∨ m = 6 ∨ m = 8) (hz1 : z 1 = nI D.length) (hz2 : z 2 = nI N.length) (hz3 : z 3 = nI A.length) (s1 : sg (ψ 62) 512 D) (s2 : sg (ψ 62) 1024 N) (s3 : sg (ψ 62) 1536 A) (B : BitVec 8 → BitVec 8) (hB : ∀ v : BitVec 8, ψ 65 v.toNat = B v) {F G : bP → bP} (HK0 : ∀ ψ2, FR [67, 68, 71, 72, 73, 74, 75, 76, 77, 78, 79, 80, 81, 82, 83, 84, 85, 86, 87, 88, 89, 90] ψ ψ2 → exK ψ2 B 0 0 m → Kh ψ2 0 F G) (hP : ftP 3 1 D.length N.length mm) : RH l w mX12_use h n [.ref 61, .int 3, .int 1] (uQ h ψ z i (if upW (chD G (rd N 0) D) 16 = 0 then nI (upR (chD G (rd N 0) D)).length else -6) (if upW (chD G (rd N 0) D) 16 = 0 then some (upR (chD G (rd N 0) D)) else none)) := by
  refine RC.of [(0, .ref 61), (1, .int 3), (2, .int 1)] (by decide +kernel) rfl (Nat.le_of_ble_eq_true rfl) ?_
  have hm8 : 4 ≤ m ∧ m ≤ 8 := by omega
  refine R_iload_n (pc := 0) 1 dX12_use_0 rfl rfl ?_
  refine R_iconst (pc := 1) (v := 1) dX12_use_1 (by decide) ?_
  refine R_bipush (pc := 2) (v := 16) dX12_use_2 (by decide) ?_
  refine R_callSp (pc := 4) (μ' := mX12_in) (As := [.int 3, .int 1, .int 16]) (st := []) dX12_use_4 zX12_in lX12_108 ⟨by decide, by decide⟩ rfl rfl ⟨by decide, by decide⟩ rfl (Nat.le_of_ble_eq_true rfl) (qX12_in l w _ _ _ _ _) ?_
  refine R_eqi (y := 1) (by decide) ?_
  refine R_if_ne (pc := 7) (tgt := 13) dX12_use_7 (by decide) (fun c_1 => ?_) (fun c_1 => absurd c_1 (by decide))
  refine R_aload_n (pc := 13) 0 dX12_use_13 rfl rfl ?_
  refine R_iload_n (pc := 14) 1 dX12_use_14 rfl rfl ?_
  refine R_bipush (pc := 15) (v := 9) dX12_use_15 (by decide) ?_
  refine R_icmp_eq (pc := 17) (tgt := 26) dX12_use_17 (by decide) (fun c_2 => absurd c_2 (by decide)) (fun c_2 => ?_)
  refine R_iload_n (pc := 20) 1 dX12_use_20 rfl rfl ?_
  refine R_bipush (pc := 21) (v := 15) dX12_use_21 (by decide) ?_
  refine R_icmp_ne (pc := 23) (tgt := 30) dX12_use_23 (by decide) (fun c_3 => ?_) (fun c_3 => absurd c_3 (by decide))
  refine R_iconst (pc := 30) (v := 0) dX12_use_30 (by decide) ?_
  refine R_callVh (pc := 31) (μ' := mX12_hasKeys) (As := [.int 0]) (st := []) dX12_use_31 zX12_hasKeys lX12_250 ⟨by decide, by decide⟩ rfl rfl ⟨by decide, by decide⟩ S.obj (by omega) rfl (Nat.le_of_ble_eq_true rfl) (oX12_hasKeys_0 S hn m hz0 hm B hB) (fun h_4 r_ q_5 => ?_)
  obtain ⟨ψa, rfl, Sa, Ka, Ea, Fa⟩ := q_5
  refine R_if_ne (pc := 34) (tgt := 40) dX12_use_34 (by decide) (fun c_6 => ?_) (fun c_6 => absurd c_6 (by decide))
  refine R_aload_n (pc := 40) 0 dX12_use_40 rfl rfl ?_
  refine R_iload_n (pc := 41) 1 dX12_use_41 rfl rfl ?_
  refine R_iload_n (pc := 42) 2 dX12_use_42 rfl rfl ?_
  refine R_callVh (pc := 43) (μ' := mX12_fits) (As := [.int 3, .int 1]) (st := []) dX12_use_43 zX12_fits lX12_254 ⟨by decide, by decide⟩ rfl rfl ⟨by decide, by decide⟩ Sa.obj (by omega) rfl (Nat.le_of_ble_eq_true rfl) (oX12_fits_3o Sa hn D.length N.length mm hD hN (by omega) hz1 hz2 hi1 hP) (fun h_7 r_ q_8 => ?_)
  obtain ⟨rfl, Sb, Fb⟩ := q_8
  refine R_if_ne (pc := 46) (tgt := 52) dX12_use_46 (by decide) (fun c_9 => ?_) (fun c_9 => absurd c_9 (by decide))
  refine R_aload_n (pc := 52) 0 dX12_use_52 rfl rfl ?_
  refine R_callVh (pc := 53) (μ' := mX12_load) (As := []) (st := []) dX12_use_53 zX12_load lX12_258 ⟨by decide, by decide⟩ rfl rfl ⟨by decide, by decide⟩ Sb.obj (by omega) rfl (Nat.le_of_ble_eq_true rfl) (oX12_load Sb hn D.length N.length A.length hz1 hz2 hz3 hD hN hA) (fun h_10 r_ q_11 => ?_)
  obtain ⟨rfl, Sc, Fc⟩ := q_11
  obtain ⟨ψc, ec⟩ : ∃ x, x = (uo (uo (uo ψa 71 (cpB (ψa 62) 512 (ψa 71) 0 D.length)) 73 (cpB (ψa 62) 1024 (ψa 73) 0 N.length)) 74 (cpB (ψa 62) 1536 (ψa 74) 0 A.length)) := ⟨_, rfl⟩
  rw [← ec] at Sc
  have Kc : FR [67, 68, 71, 72, 73, 74, 75, 76, 77, 78, 79, 80, 81, 82, 83, 84, 85, 86, 87, 88, 89, 90] ψ ψc := by rw [ec]; exact (((((FR.rf _ _).tr Ka (by decide)).up (by decide)).up (by decide)).up (by decide))
  have e62 : ψa 62 = ψ 62 := Ka 62 (by decide)
  have sD : sg (ψc 71) 0 D := by rw [ec]; exact (show sg (ψa 62) 512 D by rw [e62]; exact s1).cp (ψa 71) 0 rfl
  have sN : sg (ψc 73) 0 N := by rw [ec]; exact (show sg (ψa 62) 1024 N by rw [e62]; exact s2).cp (ψa 73) 0 rfl
  have sA : sg (ψc 74) 0 A := by rw [ec]; exact (show sg (ψa 62) 1536 A by rw [e62]; exact s3).cp (ψa 74) 0 rfl
  have K0 : Kh ψc 0 F G := HK0 ψc Kc (by rw [ec]; exact Ea)
  have eN : gt (ψc 73) 0 = rd N 0 := sg_rd0 sN (by have h_ : N.length = 16 := hP.1; omega)
  refine R_iconst (pc := 56) (v := 0) dX12_use_56 (by decide) ?_
  refine R_istore_n (pc := 57) (lv' := [(3, .int 0), (0, .ref 61), (1, .int 3), (2, .int 1)]) dX12_use_57 rfl (by decide) rfl ?_
  refine R_iload_n (pc := 58) 2 dX12_use_58 rfl rfl ?_
  refine R_tableIn (pc := 59) (tgt := 214) dX12_use_59 (by decide) (by decide) rfl (by decide) ?_
  refine R_aload_n (pc := 214) 1 dX12_use_214 rfl rfl ?_
  refine R_iload_n (pc := 215) 3 dX12_use_215 rfl rfl ?_
  refine R_callVh (pc := 216) (μ' := mX12_padded) (As := [.int 1]) (st := []) dX12_use_216 zX12_padded lX12_265 ⟨by decide, by decide⟩ rfl rfl ⟨by decide, by decide⟩ Sc.obj (by omega) rfl (Nat.le_of_ble_eq_true rfl) (oX12_padded_o Sc hn D hD rfl (D.length / 16) (by have := hP.2.1; omega) (by have := hP.2.2; omega) K0 sD) (fun h_12 r_ q_13 => ?_)
  obtain ⟨ψd, vd, rfl, Sd, Kd, Yd, Fd⟩ := q_13
  rw [eN] at Yd ⊢
  refine R_istore_n (pc := 219) (lv' := [(3, .int (if upW (chD G (rd N 0) D) 16 = 0 then 0 else -6)), (0, .ref 61), (1, .int 3), (2, .int 1)]) dX12_use_219 rfl (by decide) rfl ?_
  refine R_goto (pc := 220) (tgt := 334) dX12_use_220 (by decide) ?_
  refine R_iload_n (pc := 334) 0 dX12_use_334 rfl rfl ?_
  refine R_if_ge (pc := 335) (tgt := 342) dX12_use_335 (by decide) (fun c_14 => ?_) (fun c_14 => ?_)
  · skip
    have hc := ifge0 c_14
    have yF : sg (ψd 72) 0 (upR (chD G (rd N 0) D)) := (Yd hc).1
    have zF : vd = nI (upR (chD G (rd N 0) D)).length := (Yd hc).2
    have hl7 : (upR (chD G (rd N 0) D)).length ≤ 700 := by exact upR_700 (by omega)
    refine R_aload_n (pc := 342) 1 dX12_use_342 rfl rfl ?_
    refine R_aload_n (pc := 343) 1 dX12_use_343 rfl rfl ?_
    refine R_get (pc := 344) dX12_use_344 fX12_44 Sd.obj (by omega) rfl ?_
    refine R_aload_n (pc := 347) 1 dX12_use_347 rfl rfl ?_
    refine R_get (pc := 348) dX12_use_348 fX12_153 Sd.obj (by omega) rfl ?_
    refine R_eqi (y := vd) rfl ?_
    refine R_eqi (y := nI (upR (chD G (rd N 0) D)).length) (zF) ?_
    refine R_callVh (pc := 351) (μ' := mX12_come) (As := [.ref 72, .int (nI (upR (chD G (rd N 0) D)).length)]) (st := []) dX12_use_351 zX12_come lX12_297 ⟨by decide, by decide⟩ rfl rfl ⟨by decide, by decide⟩ Sd.obj (by omega) rfl (Nat.le_of_ble_eq_true rfl) (oX12_come Sd hn (p := 72) rfl (by decide) (upR (chD G (rd N 0) D)).length hl7 hl7) (fun h_15 r_ q_16 => ?_)
    obtain ⟨rfl, Se, Fe⟩ := q_16
    have KF : FR [67, 68, 71, 72, 73, 74, 75, 76, 77, 78, 79, 80, 81, 82, 83, 84, 85, 86, 87, 88, 89, 90] ψ ψd := (Kc.tr Kd (by decide))
    rw [if_pos hc, if_pos hc, if_pos hc]
    exact R_ireturn (pc := 354) dX12_use_354 rfl (by decide) (by decide) ⟨rfl, _, _, rfl, Se, ⟨KF 62 (by decide), KF 65 (by decide), KF 66 (by decide)⟩, ⟨rfl, rfl⟩, ⟨sg.cp yF _ 0 rfl, ui_s _ _ _⟩, ((((Fa.tr Fb).tr Fc).tr Fd).tr Fe)⟩
  · skip
    refine R_iload_n (pc := 338) 0 dX12_use_338 rfl rfl ?_
    refine R_goto (pc := 339) (tgt := 354) dX12_use_339 (by decide) ?_
    have KF : FR [67, 68, 71, 72, 73, 74, 75, 76, 77, 78, 79, 80, 81, 82, 83, 84, 85, 86, 87, 88, 89, 90] ψ ψd := (Kc.tr Kd (by decide))
    have hc : ¬ (upW (chD G (rd N 0) D) 16 = 0) := fun q_ => c_14 (by rw [if_pos q_]; decide)
    rw [if_neg hc, if_neg hc, if_neg hc]
    exact R_ireturn (pc := 354) dX12_use_354 rfl (by decide) (by decide) ⟨rfl, _, _, rfl, Sd, ⟨KF 62 (by decide), KF 65 (by decide), KF 66 (by decide)⟩, ⟨rfl, rfl⟩, ⟨KF 64 (by decide), rfl⟩, (((Fa.tr Fb).tr Fc).tr Fd)⟩
set_option maxHeartbeats 1000000 in
set_option maxRecDepth 100000 in
theorem oX12_use_4s {l : Launch} {w : am_W} {h : am_H} {n : Nat} {ψ : Nat → oA} {z : fA} {i : mI} (S : MO h ψ z i) (hn : 90 ≤ n) (A N D : List (BitVec 8)) (mm m : Nat) (hA : A.length ≤ 256) (hN : N.length ≤ 64) (hD : D.length ≤ 512) (hmm : 4 ≤ mm) (hmm16 : mm ≤ 16) (hi1 : i 1 = nI mm) (hz0 : z 0 = nI (4 * m)) (hm : m = 4 ∨ m = 6 ∨ m = 8) (hz1 : z 1 = nI D.length) (hz2 : z 2 = nI N.length) (hz3 : z 3 = nI A.length) (s1 : sg (ψ 62) 512 D) (s2 : sg (ψ 62) 1024 N) (s3 : sg (ψ 62) 1536 A) (B : BitVec 8 → BitVec 8) (hB : ∀ v : BitVec 8, ψ 65 v.toNat = B v) {F G : bP → bP} (HK0 : ∀ ψ2, FR [67, 68, 71, 72, 73, 74, 75, 76, 77, 78, 79, 80, 81, 82, 83, 84, 85, 86, 87, 88, 89, 90] ψ ψ2 → exK ψ2 B 0 0 m → Kh ψ2 0 F G) (hP : ftP 4 0 D.length N.length mm) : RH l w mX12_use h n [.ref 61, .int 4, .int 0] (uQ h ψ z i (nI (stE (chE F (rd N 0) D) D.length).length) (some (stE (chE F (rd N 0) D) D.length))) := by
  refine RC.of [(0, .ref 61), (1, .int 4), (2, .int 0)] (by decide +kernel) rfl (Nat.le_of_ble_eq_true rfl) ?_
  have hm8 : 4 ≤ m ∧ m ≤ 8 := by omega
  refine R_iload_n (pc := 0) 1 dX12_use_0 rfl rfl ?_
  refine R_iconst (pc := 1) (v := 1) dX12_use_1 (by decide) ?_
  refine R_bipush (pc := 2) (v := 16) dX12_use_2 (by decide) ?_
  refine R_callSp (pc := 4) (μ' := mX12_in) (As := [.int 4, .int 1, .int 16]) (st := []) dX12_use_4 zX12_in lX12_108 ⟨by decide, by decide⟩ rfl rfl ⟨by decide, by decide⟩ rfl (Nat.le_of_ble_eq_true rfl) (qX12_in l w _ _ _ _ _) ?_
  refine R_eqi (y := 1) (by decide) ?_
  refine R_if_ne (pc := 7) (tgt := 13) dX12_use_7 (by decide) (fun c_1 => ?_) (fun c_1 => absurd c_1 (by decide))
  refine R_aload_n (pc := 13) 0 dX12_use_13 rfl rfl ?_
  refine R_iload_n (pc := 14) 1 dX12_use_14 rfl rfl ?_
  refine R_bipush (pc := 15) (v := 9) dX12_use_15 (by decide) ?_
  refine R_icmp_eq (pc := 17) (tgt := 26) dX12_use_17 (by decide) (fun c_2 => absurd c_2 (by decide)) (fun c_2 => ?_)
  refine R_iload_n (pc := 20) 1 dX12_use_20 rfl rfl ?_
  refine R_bipush (pc := 21) (v := 15) dX12_use_21 (by decide) ?_
  refine R_icmp_ne (pc := 23) (tgt := 30) dX12_use_23 (by decide) (fun c_3 => ?_) (fun c_3 => absurd c_3 (by decide))
  refine R_iconst (pc := 30) (v := 0) dX12_use_30 (by decide) ?_
  refine R_callVh (pc := 31) (μ' := mX12_hasKeys) (As := [.int 0]) (st := []) dX12_use_31 zX12_hasKeys lX12_250 ⟨by decide, by decide⟩ rfl rfl ⟨by decide, by decide⟩ S.obj (by omega) rfl (Nat.le_of_ble_eq_true rfl) (oX12_hasKeys_0 S hn m hz0 hm B hB) (fun h_4 r_ q_5 => ?_)
  obtain ⟨ψa, rfl, Sa, Ka, Ea, Fa⟩ := q_5
  refine R_if_ne (pc := 34) (tgt := 40) dX12_use_34 (by decide) (fun c_6 => ?_) (fun c_6 => absurd c_6 (by decide))
  refine R_aload_n (pc := 40) 0 dX12_use_40 rfl rfl ?_
  refine R_iload_n (pc := 41) 1 dX12_use_41 rfl rfl ?_
  refine R_iload_n (pc := 42) 2 dX12_use_42 rfl rfl ?_
  refine R_callVh (pc := 43) (μ' := mX12_fits) (As := [.int 4, .int 0]) (st := []) dX12_use_43 zX12_fits lX12_254 ⟨by decide, by decide⟩ rfl rfl ⟨by decide, by decide⟩ Sa.obj (by omega) rfl (Nat.le_of_ble_eq_true rfl) (oX12_fits_4s Sa hn D.length N.length mm hD hN (by omega) hz1 hz2 hi1 hP) (fun h_7 r_ q_8 => ?_)
  obtain ⟨rfl, Sb, Fb⟩ := q_8
  refine R_if_ne (pc := 46) (tgt := 52) dX12_use_46 (by decide) (fun c_9 => ?_) (fun c_9 => absurd c_9 (by decide))
  refine R_aload_n (pc := 52) 0 dX12_use_52 rfl rfl ?_
  refine R_callVh (pc := 53) (μ' := mX12_load) (As := []) (st := []) dX12_use_53 zX12_load lX12_258 ⟨by decide, by decide⟩ rfl rfl ⟨by decide, by decide⟩ Sb.obj (by omega) rfl (Nat.le_of_ble_eq_true rfl) (oX12_load Sb hn D.length N.length A.length hz1 hz2 hz3 hD hN hA) (fun h_10 r_ q_11 => ?_)
  obtain ⟨rfl, Sc, Fc⟩ := q_11
  obtain ⟨ψc, ec⟩ : ∃ x, x = (uo (uo (uo ψa 71 (cpB (ψa 62) 512 (ψa 71) 0 D.length)) 73 (cpB (ψa 62) 1024 (ψa 73) 0 N.length)) 74 (cpB (ψa 62) 1536 (ψa 74) 0 A.length)) := ⟨_, rfl⟩
  rw [← ec] at Sc
  have Kc : FR [67, 68, 71, 72, 73, 74, 75, 76, 77, 78, 79, 80, 81, 82, 83, 84, 85, 86, 87, 88, 89, 90] ψ ψc := by rw [ec]; exact (((((FR.rf _ _).tr Ka (by decide)).up (by decide)).up (by decide)).up (by decide))
  have e62 : ψa 62 = ψ 62 := Ka 62 (by decide)
  have sD : sg (ψc 71) 0 D := by rw [ec]; exact (show sg (ψa 62) 512 D by rw [e62]; exact s1).cp (ψa 71) 0 rfl
  have sN : sg (ψc 73) 0 N := by rw [ec]; exact (show sg (ψa 62) 1024 N by rw [e62]; exact s2).cp (ψa 73) 0 rfl
  have sA : sg (ψc 74) 0 A := by rw [ec]; exact (show sg (ψa 62) 1536 A by rw [e62]; exact s3).cp (ψa 74) 0 rfl
  have K0 : Kh ψc 0 F G := HK0 ψc Kc (by rw [ec]; exact Ea)
  have eN : gt (ψc 73) 0 = rd N 0 := sg_rd0 sN (by have h_ : N.length = 16 := hP.1; omega)
  refine R_iconst (pc := 56) (v := 0) dX12_use_56 (by decide) ?_
  refine R_istore_n (pc := 57) (lv' := [(3, .int 0), (0, .ref 61), (1, .int 4), (2, .int 0)]) dX12_use_57 rfl (by decide) rfl ?_
  refine R_iload_n (pc := 58) 2 dX12_use_58 rfl rfl ?_
  refine R_tableIn (pc := 59) (tgt := 223) dX12_use_59 (by decide) (by decide) rfl (by decide) ?_
  refine R_aload_n (pc := 223) 1 dX12_use_223 rfl rfl ?_
  refine R_iload_n (pc := 224) 3 dX12_use_224 rfl rfl ?_
  refine R_callVh (pc := 225) (μ' := mX12_stolen) (As := [.int 0]) (st := []) dX12_use_225 zX12_stolen lX12_269 ⟨by decide, by decide⟩ rfl rfl ⟨by decide, by decide⟩ Sc.obj (by omega) rfl (Nat.le_of_ble_eq_true rfl) (oX12_stolen_s Sc hn D ((D.length - 1) / 16 - 1) (D.length - 16 * ((D.length - 1) / 16)) (by have := hP.2; omega) (by omega) (by have := hP.2; omega) hD rfl K0 sD) (fun h_12 r_ q_13 => ?_)
  obtain ⟨ψd, rfl, Sd, Kd, Yd, Fd⟩ := q_13
  rw [eN] at Yd
  refine R_goto (pc := 228) (tgt := 334) dX12_use_228 (by decide) ?_
  refine R_iload_n (pc := 334) 0 dX12_use_334 rfl rfl ?_
  refine R_if_ge (pc := 335) (tgt := 342) dX12_use_335 (by decide) (fun c_14 => ?_) (fun c_14 => absurd (by decide) c_14)
  have yF : sg (ψd 72) 0 (stE (chE F (rd N 0) D) D.length) := Yd
  have lF : (stE (chE F (rd N 0) D) D.length).length = D.length := stE_l F _ D (by have := hP.2; omega)
  have hl7 : (stE (chE F (rd N 0) D) D.length).length ≤ 700 := by rw [lF]; omega
  refine R_aload_n (pc := 342) 1 dX12_use_342 rfl rfl ?_
  refine R_aload_n (pc := 343) 1 dX12_use_343 rfl rfl ?_
  refine R_get (pc := 344) dX12_use_344 fX12_44 Sd.obj (by omega) rfl ?_
  refine R_aload_n (pc := 347) 1 dX12_use_347 rfl rfl ?_
  refine R_get (pc := 348) dX12_use_348 fX12_153 Sd.obj (by omega) rfl ?_
  refine R_eqi (y := nI (D.length)) rfl ?_
  refine R_eqi (y := nI (stE (chE F (rd N 0) D) D.length).length) (by rw [lF]) ?_
  refine R_callVh (pc := 351) (μ' := mX12_come) (As := [.ref 72, .int (nI (stE (chE F (rd N 0) D) D.length).length)]) (st := []) dX12_use_351 zX12_come lX12_297 ⟨by decide, by decide⟩ rfl rfl ⟨by decide, by decide⟩ Sd.obj (by omega) rfl (Nat.le_of_ble_eq_true rfl) (oX12_come Sd hn (p := 72) rfl (by decide) (stE (chE F (rd N 0) D) D.length).length hl7 hl7) (fun h_15 r_ q_16 => ?_)
  obtain ⟨rfl, Se, Fe⟩ := q_16
  have KF : FR [67, 68, 71, 72, 73, 74, 75, 76, 77, 78, 79, 80, 81, 82, 83, 84, 85, 86, 87, 88, 89, 90] ψ ψd := (Kc.tr Kd (by decide))
  exact R_ireturn (pc := 354) dX12_use_354 rfl (by decide) (by decide) ⟨rfl, _, _, rfl, Se, ⟨KF 62 (by decide), KF 65 (by decide), KF 66 (by decide)⟩, ⟨rfl, rfl⟩, ⟨sg.cp yF _ 0 rfl, ui_s _ _ _⟩, ((((Fa.tr Fb).tr Fc).tr Fd).tr Fe)⟩
set_option maxHeartbeats 1000000 in
set_option maxRecDepth 100000 in
theorem oX12_use_4o {l : Launch} {w : am_W} {h : am_H} {n : Nat} {ψ : Nat → oA} {z : fA} {i : mI} (S : MO h ψ z i) (hn : 90 ≤ n) (A N D : List (BitVec 8)) (mm m : Nat) (hA : A.length ≤ 256) (hN : N.length ≤ 64) (hD : D.length ≤ 512) (hmm : 4 ≤ mm) (hmm16 : mm ≤ 16) (hi1 : i 1 = nI mm) (hz0 : z 0 = nI (4 * m)) (hm : m = 4 ∨ m = 6 ∨ m = 8) (hz1 : z 1 = nI D.length) (hz2 : z 2 = nI N.length) (hz3 : z 3 = nI A.length) (s1 : sg (ψ 62) 512 D) (s2 : sg (ψ 62) 1024 N) (s3 : sg (ψ 62) 1536 A) (B : BitVec 8 → BitVec 8) (hB : ∀ v : BitVec 8, ψ 65 v.toNat = B v) {F G : bP → bP} (HK0 : ∀ ψ2, FR [67, 68, 71, 72, 73, 74, 75, 76, 77, 78, 79, 80, 81, 82, 83, 84, 85, 86, 87, 88, 89, 90] ψ ψ2 → exK ψ2 B 0 0 m → Kh ψ2 0 F G) (hP : ftP 4 1 D.length N.length mm) : RH l w mX12_use h n [.ref 61, .int 4, .int 1] (uQ h ψ z i (nI ((chD G (rd N 0) (stT G D)).take D.length).length) (some ((chD G (rd N 0) (stT G D)).take D.length))) := by
  refine RC.of [(0, .ref 61), (1, .int 4), (2, .int 1)] (by decide +kernel) rfl (Nat.le_of_ble_eq_true rfl) ?_
  have hm8 : 4 ≤ m ∧ m ≤ 8 := by omega
  refine R_iload_n (pc := 0) 1 dX12_use_0 rfl rfl ?_
  refine R_iconst (pc := 1) (v := 1) dX12_use_1 (by decide) ?_
  refine R_bipush (pc := 2) (v := 16) dX12_use_2 (by decide) ?_
  refine R_callSp (pc := 4) (μ' := mX12_in) (As := [.int 4, .int 1, .int 16]) (st := []) dX12_use_4 zX12_in lX12_108 ⟨by decide, by decide⟩ rfl rfl ⟨by decide, by decide⟩ rfl (Nat.le_of_ble_eq_true rfl) (qX12_in l w _ _ _ _ _) ?_
  refine R_eqi (y := 1) (by decide) ?_
  refine R_if_ne (pc := 7) (tgt := 13) dX12_use_7 (by decide) (fun c_1 => ?_) (fun c_1 => absurd c_1 (by decide))
  refine R_aload_n (pc := 13) 0 dX12_use_13 rfl rfl ?_
  refine R_iload_n (pc := 14) 1 dX12_use_14 rfl rfl ?_
  refine R_bipush (pc := 15) (v := 9) dX12_use_15 (by decide) ?_
  refine R_icmp_eq (pc := 17) (tgt := 26) dX12_use_17 (by decide) (fun c_2 => absurd c_2 (by decide)) (fun c_2 => ?_)
  refine R_iload_n (pc := 20) 1 dX12_use_20 rfl rfl ?_
  refine R_bipush (pc := 21) (v := 15) dX12_use_21 (by decide) ?_
  refine R_icmp_ne (pc := 23) (tgt := 30) dX12_use_23 (by decide) (fun c_3 => ?_) (fun c_3 => absurd c_3 (by decide))
  refine R_iconst (pc := 30) (v := 0) dX12_use_30 (by decide) ?_
  refine R_callVh (pc := 31) (μ' := mX12_hasKeys) (As := [.int 0]) (st := []) dX12_use_31 zX12_hasKeys lX12_250 ⟨by decide, by decide⟩ rfl rfl ⟨by decide, by decide⟩ S.obj (by omega) rfl (Nat.le_of_ble_eq_true rfl) (oX12_hasKeys_0 S hn m hz0 hm B hB) (fun h_4 r_ q_5 => ?_)
  obtain ⟨ψa, rfl, Sa, Ka, Ea, Fa⟩ := q_5
  refine R_if_ne (pc := 34) (tgt := 40) dX12_use_34 (by decide) (fun c_6 => ?_) (fun c_6 => absurd c_6 (by decide))
  refine R_aload_n (pc := 40) 0 dX12_use_40 rfl rfl ?_
  refine R_iload_n (pc := 41) 1 dX12_use_41 rfl rfl ?_
  refine R_iload_n (pc := 42) 2 dX12_use_42 rfl rfl ?_
  refine R_callVh (pc := 43) (μ' := mX12_fits) (As := [.int 4, .int 1]) (st := []) dX12_use_43 zX12_fits lX12_254 ⟨by decide, by decide⟩ rfl rfl ⟨by decide, by decide⟩ Sa.obj (by omega) rfl (Nat.le_of_ble_eq_true rfl) (oX12_fits_4o Sa hn D.length N.length mm hD hN (by omega) hz1 hz2 hi1 hP) (fun h_7 r_ q_8 => ?_)
  obtain ⟨rfl, Sb, Fb⟩ := q_8
  refine R_if_ne (pc := 46) (tgt := 52) dX12_use_46 (by decide) (fun c_9 => ?_) (fun c_9 => absurd c_9 (by decide))
  refine R_aload_n (pc := 52) 0 dX12_use_52 rfl rfl ?_
  refine R_callVh (pc := 53) (μ' := mX12_load) (As := []) (st := []) dX12_use_53 zX12_load lX12_258 ⟨by decide, by decide⟩ rfl rfl ⟨by decide, by decide⟩ Sb.obj (by omega) rfl (Nat.le_of_ble_eq_true rfl) (oX12_load Sb hn D.length N.length A.length hz1 hz2 hz3 hD hN hA) (fun h_10 r_ q_11 => ?_)
  obtain ⟨rfl, Sc, Fc⟩ := q_11
  obtain ⟨ψc, ec⟩ : ∃ x, x = (uo (uo (uo ψa 71 (cpB (ψa 62) 512 (ψa 71) 0 D.length)) 73 (cpB (ψa 62) 1024 (ψa 73) 0 N.length)) 74 (cpB (ψa 62) 1536 (ψa 74) 0 A.length)) := ⟨_, rfl⟩
  rw [← ec] at Sc
  have Kc : FR [67, 68, 71, 72, 73, 74, 75, 76, 77, 78, 79, 80, 81, 82, 83, 84, 85, 86, 87, 88, 89, 90] ψ ψc := by rw [ec]; exact (((((FR.rf _ _).tr Ka (by decide)).up (by decide)).up (by decide)).up (by decide))
  have e62 : ψa 62 = ψ 62 := Ka 62 (by decide)
  have sD : sg (ψc 71) 0 D := by rw [ec]; exact (show sg (ψa 62) 512 D by rw [e62]; exact s1).cp (ψa 71) 0 rfl
  have sN : sg (ψc 73) 0 N := by rw [ec]; exact (show sg (ψa 62) 1024 N by rw [e62]; exact s2).cp (ψa 73) 0 rfl
  have sA : sg (ψc 74) 0 A := by rw [ec]; exact (show sg (ψa 62) 1536 A by rw [e62]; exact s3).cp (ψa 74) 0 rfl
  have K0 : Kh ψc 0 F G := HK0 ψc Kc (by rw [ec]; exact Ea)
  have eN : gt (ψc 73) 0 = rd N 0 := sg_rd0 sN (by have h_ : N.length = 16 := hP.1; omega)
  refine R_iconst (pc := 56) (v := 0) dX12_use_56 (by decide) ?_
  refine R_istore_n (pc := 57) (lv' := [(3, .int 0), (0, .ref 61), (1, .int 4), (2, .int 1)]) dX12_use_57 rfl (by decide) rfl ?_
  refine R_iload_n (pc := 58) 2 dX12_use_58 rfl rfl ?_
  refine R_tableIn (pc := 59) (tgt := 223) dX12_use_59 (by decide) (by decide) rfl (by decide) ?_
  refine R_aload_n (pc := 223) 1 dX12_use_223 rfl rfl ?_
  refine R_iload_n (pc := 224) 3 dX12_use_224 rfl rfl ?_
  refine R_callVh (pc := 225) (μ' := mX12_stolen) (As := [.int 1]) (st := []) dX12_use_225 zX12_stolen lX12_269 ⟨by decide, by decide⟩ rfl rfl ⟨by decide, by decide⟩ Sc.obj (by omega) rfl (Nat.le_of_ble_eq_true rfl) (oX12_stolen_o Sc hn D ((D.length - 1) / 16 - 1) (D.length - 16 * ((D.length - 1) / 16)) (by have := hP.2; omega) (by omega) (by have := hP.2; omega) hD rfl K0 sD) (fun h_12 r_ q_13 => ?_)
  obtain ⟨ψd, rfl, Sd, Kd, Yd, Fd⟩ := q_13
  rw [eN] at Yd
  refine R_goto (pc := 228) (tgt := 334) dX12_use_228 (by decide) ?_
  refine R_iload_n (pc := 334) 0 dX12_use_334 rfl rfl ?_
  refine R_if_ge (pc := 335) (tgt := 342) dX12_use_335 (by decide) (fun c_14 => ?_) (fun c_14 => absurd (by decide) c_14)
  have yF : sg (ψd 72) 0 ((chD G (rd N 0) (stT G D)).take D.length) := Yd
  have lF : ((chD G (rd N 0) (stT G D)).take D.length).length = D.length := stT_l G _ D (by have := hP.2; omega)
  have hl7 : ((chD G (rd N 0) (stT G D)).take D.length).length ≤ 700 := by rw [lF]; omega
  refine R_aload_n (pc := 342) 1 dX12_use_342 rfl rfl ?_
  refine R_aload_n (pc := 343) 1 dX12_use_343 rfl rfl ?_
  refine R_get (pc := 344) dX12_use_344 fX12_44 Sd.obj (by omega) rfl ?_
  refine R_aload_n (pc := 347) 1 dX12_use_347 rfl rfl ?_
  refine R_get (pc := 348) dX12_use_348 fX12_153 Sd.obj (by omega) rfl ?_
  refine R_eqi (y := nI (D.length)) rfl ?_
  refine R_eqi (y := nI ((chD G (rd N 0) (stT G D)).take D.length).length) (by rw [lF]) ?_
  refine R_callVh (pc := 351) (μ' := mX12_come) (As := [.ref 72, .int (nI ((chD G (rd N 0) (stT G D)).take D.length).length)]) (st := []) dX12_use_351 zX12_come lX12_297 ⟨by decide, by decide⟩ rfl rfl ⟨by decide, by decide⟩ Sd.obj (by omega) rfl (Nat.le_of_ble_eq_true rfl) (oX12_come Sd hn (p := 72) rfl (by decide) ((chD G (rd N 0) (stT G D)).take D.length).length hl7 hl7) (fun h_15 r_ q_16 => ?_)
  obtain ⟨rfl, Se, Fe⟩ := q_16
  have KF : FR [67, 68, 71, 72, 73, 74, 75, 76, 77, 78, 79, 80, 81, 82, 83, 84, 85, 86, 87, 88, 89, 90] ψ ψd := (Kc.tr Kd (by decide))
  exact R_ireturn (pc := 354) dX12_use_354 rfl (by decide) (by decide) ⟨rfl, _, _, rfl, Se, ⟨KF 62 (by decide), KF 65 (by decide), KF 66 (by decide)⟩, ⟨rfl, rfl⟩, ⟨sg.cp yF _ 0 rfl, ui_s _ _ _⟩, ((((Fa.tr Fb).tr Fc).tr Fd).tr Fe)⟩
set_option maxHeartbeats 1000000 in
set_option maxRecDepth 100000 in
theorem oX12_use_10s {l : Launch} {w : am_W} {h : am_H} {n : Nat} {ψ : Nat → oA} {z : fA} {i : mI} (S : MO h ψ z i) (hn : 90 ≤ n) (A N D : List (BitVec 8)) (mm m : Nat) (hA : A.length ≤ 256) (hN : N.length ≤ 64) (hD : D.length ≤ 512) (hmm : 4 ≤ mm) (hmm16 : mm ≤ 16) (hi1 : i 1 = nI mm) (hz0 : z 0 = nI (4 * m)) (hm : m = 4 ∨ m = 6 ∨ m = 8) (hz1 : z 1 = nI D.length) (hz2 : z 2 = nI N.length) (hz3 : z 3 = nI A.length) (s1 : sg (ψ 62) 512 D) (s2 : sg (ψ 62) 1024 N) (s3 : sg (ψ 62) 1536 A) (B : BitVec 8 → BitVec 8) (hB : ∀ v : BitVec 8, ψ 65 v.toNat = B v) {F G : bP → bP} (HK0 : ∀ ψ2, FR [67, 68, 71, 72, 73, 74, 75, 76, 77, 78, 79, 80, 81, 82, 83, 84, 85, 86, 87, 88, 89, 90] ψ ψ2 → exK ψ2 B 0 0 m → Kh ψ2 0 F G) (hP : ftP 10 0 D.length N.length mm) : RH l w mX12_use h n [.ref 61, .int 10, .int 0] (uQ h ψ z i (nI (wr10 F D).length) (some (wr10 F D))) := by
  refine RC.of [(0, .ref 61), (1, .int 10), (2, .int 0)] (by decide +kernel) rfl (Nat.le_of_ble_eq_true rfl) ?_
  have hm8 : 4 ≤ m ∧ m ≤ 8 := by omega
  obtain ⟨W_, eW⟩ : ∃ W_, W_ = (wr10 F D) := ⟨_, rfl⟩
  rw [← eW]
  refine R_iload_n (pc := 0) 1 dX12_use_0 rfl rfl ?_
  refine R_iconst (pc := 1) (v := 1) dX12_use_1 (by decide) ?_
  refine R_bipush (pc := 2) (v := 16) dX12_use_2 (by decide) ?_
  refine R_callSp (pc := 4) (μ' := mX12_in) (As := [.int 10, .int 1, .int 16]) (st := []) dX12_use_4 zX12_in lX12_108 ⟨by decide, by decide⟩ rfl rfl ⟨by decide, by decide⟩ rfl (Nat.le_of_ble_eq_true rfl) (qX12_in l w _ _ _ _ _) ?_
  refine R_eqi (y := 1) (by decide) ?_
  refine R_if_ne (pc := 7) (tgt := 13) dX12_use_7 (by decide) (fun c_1 => ?_) (fun c_1 => absurd c_1 (by decide))
  refine R_aload_n (pc := 13) 0 dX12_use_13 rfl rfl ?_
  refine R_iload_n (pc := 14) 1 dX12_use_14 rfl rfl ?_
  refine R_bipush (pc := 15) (v := 9) dX12_use_15 (by decide) ?_
  refine R_icmp_eq (pc := 17) (tgt := 26) dX12_use_17 (by decide) (fun c_2 => absurd c_2 (by decide)) (fun c_2 => ?_)
  refine R_iload_n (pc := 20) 1 dX12_use_20 rfl rfl ?_
  refine R_bipush (pc := 21) (v := 15) dX12_use_21 (by decide) ?_
  refine R_icmp_ne (pc := 23) (tgt := 30) dX12_use_23 (by decide) (fun c_3 => ?_) (fun c_3 => absurd c_3 (by decide))
  refine R_iconst (pc := 30) (v := 0) dX12_use_30 (by decide) ?_
  refine R_callVh (pc := 31) (μ' := mX12_hasKeys) (As := [.int 0]) (st := []) dX12_use_31 zX12_hasKeys lX12_250 ⟨by decide, by decide⟩ rfl rfl ⟨by decide, by decide⟩ S.obj (by omega) rfl (Nat.le_of_ble_eq_true rfl) (oX12_hasKeys_0 S hn m hz0 hm B hB) (fun h_4 r_ q_5 => ?_)
  obtain ⟨ψa, rfl, Sa, Ka, Ea, Fa⟩ := q_5
  refine R_if_ne (pc := 34) (tgt := 40) dX12_use_34 (by decide) (fun c_6 => ?_) (fun c_6 => absurd c_6 (by decide))
  refine R_aload_n (pc := 40) 0 dX12_use_40 rfl rfl ?_
  refine R_iload_n (pc := 41) 1 dX12_use_41 rfl rfl ?_
  refine R_iload_n (pc := 42) 2 dX12_use_42 rfl rfl ?_
  refine R_callVh (pc := 43) (μ' := mX12_fits) (As := [.int 10, .int 0]) (st := []) dX12_use_43 zX12_fits lX12_254 ⟨by decide, by decide⟩ rfl rfl ⟨by decide, by decide⟩ Sa.obj (by omega) rfl (Nat.le_of_ble_eq_true rfl) (oX12_fits_10s Sa hn D.length N.length mm hD hN (by omega) hz1 hz2 hi1 hP) (fun h_7 r_ q_8 => ?_)
  obtain ⟨rfl, Sb, Fb⟩ := q_8
  refine R_if_ne (pc := 46) (tgt := 52) dX12_use_46 (by decide) (fun c_9 => ?_) (fun c_9 => absurd c_9 (by decide))
  refine R_aload_n (pc := 52) 0 dX12_use_52 rfl rfl ?_
  refine R_callVh (pc := 53) (μ' := mX12_load) (As := []) (st := []) dX12_use_53 zX12_load lX12_258 ⟨by decide, by decide⟩ rfl rfl ⟨by decide, by decide⟩ Sb.obj (by omega) rfl (Nat.le_of_ble_eq_true rfl) (oX12_load Sb hn D.length N.length A.length hz1 hz2 hz3 hD hN hA) (fun h_10 r_ q_11 => ?_)
  obtain ⟨rfl, Sc, Fc⟩ := q_11
  obtain ⟨ψc, ec⟩ : ∃ x, x = (uo (uo (uo ψa 71 (cpB (ψa 62) 512 (ψa 71) 0 D.length)) 73 (cpB (ψa 62) 1024 (ψa 73) 0 N.length)) 74 (cpB (ψa 62) 1536 (ψa 74) 0 A.length)) := ⟨_, rfl⟩
  rw [← ec] at Sc
  have Kc : FR [67, 68, 71, 72, 73, 74, 75, 76, 77, 78, 79, 80, 81, 82, 83, 84, 85, 86, 87, 88, 89, 90] ψ ψc := by rw [ec]; exact (((((FR.rf _ _).tr Ka (by decide)).up (by decide)).up (by decide)).up (by decide))
  have e62 : ψa 62 = ψ 62 := Ka 62 (by decide)
  have sD : sg (ψc 71) 0 D := by rw [ec]; exact (show sg (ψa 62) 512 D by rw [e62]; exact s1).cp (ψa 71) 0 rfl
  have sN : sg (ψc 73) 0 N := by rw [ec]; exact (show sg (ψa 62) 1024 N by rw [e62]; exact s2).cp (ψa 73) 0 rfl
  have sA : sg (ψc 74) 0 A := by rw [ec]; exact (show sg (ψa 62) 1536 A by rw [e62]; exact s3).cp (ψa 74) 0 rfl
  have K0 : Kh ψc 0 F G := HK0 ψc Kc (by rw [ec]; exact Ea)
  refine R_iconst (pc := 56) (v := 0) dX12_use_56 (by decide) ?_
  refine R_istore_n (pc := 57) (lv' := [(3, .int 0), (0, .ref 61), (1, .int 10), (2, .int 0)]) dX12_use_57 rfl (by decide) rfl ?_
  refine R_iload_n (pc := 58) 2 dX12_use_58 rfl rfl ?_
  refine R_tableIn (pc := 59) (tgt := 300) dX12_use_59 (by decide) (by decide) rfl (by decide) ?_
  refine R_aload_n (pc := 300) 1 dX12_use_300 rfl rfl ?_
  refine R_iload_n (pc := 301) 3 dX12_use_301 rfl rfl ?_
  refine R_callVh (pc := 302) (μ' := mX12_wrap) (As := [.int 0]) (st := []) dX12_use_302 zX12_wrap lX12_284 ⟨by decide, by decide⟩ rfl rfl ⟨by decide, by decide⟩ Sc.obj (by omega) rfl (Nat.le_of_ble_eq_true rfl) (oX12_wrap_s Sc hn D (D.length / 8) (by have := hP.1; omega) hD rfl K0 sD) (fun h_12 r_ q_13 => ?_)
  obtain ⟨ψd, rfl, Sd, Kd, Yd, Fd⟩ := q_13
  have Yd : sg (ψd 72) 0 W_ := by rw [eW]; exact Yd
  refine R_istore_n (pc := 305) (lv' := [(3, .int 0), (0, .ref 61), (1, .int 10), (2, .int 0)]) dX12_use_305 rfl (by decide) rfl ?_
  refine R_goto (pc := 306) (tgt := 334) dX12_use_306 (by decide) ?_
  refine R_iload_n (pc := 334) 0 dX12_use_334 rfl rfl ?_
  refine R_if_ge (pc := 335) (tgt := 342) dX12_use_335 (by decide) (fun c_14 => ?_) (fun c_14 => absurd (by decide) c_14)
  have yF : sg (ψd 72) 0 W_ := Yd
  have lF : W_.length = D.length + 8 := by rw [eW]; exact wr10_l F D hP.1
  have hl7 : W_.length ≤ 700 := by rw [lF]; omega
  refine R_aload_n (pc := 342) 1 dX12_use_342 rfl rfl ?_
  refine R_aload_n (pc := 343) 1 dX12_use_343 rfl rfl ?_
  refine R_get (pc := 344) dX12_use_344 fX12_44 Sd.obj (by omega) rfl ?_
  refine R_aload_n (pc := 347) 1 dX12_use_347 rfl rfl ?_
  refine R_get (pc := 348) dX12_use_348 fX12_153 Sd.obj (by omega) rfl ?_
  refine R_eqi (y := nI (D.length + 8)) rfl ?_
  refine R_eqi (y := nI W_.length) (by rw [lF]) ?_
  refine R_callVh (pc := 351) (μ' := mX12_come) (As := [.ref 72, .int (nI W_.length)]) (st := []) dX12_use_351 zX12_come lX12_297 ⟨by decide, by decide⟩ rfl rfl ⟨by decide, by decide⟩ Sd.obj (by omega) rfl (Nat.le_of_ble_eq_true rfl) (oX12_come Sd hn (p := 72) rfl (by decide) W_.length hl7 hl7) (fun h_15 r_ q_16 => ?_)
  obtain ⟨rfl, Se, Fe⟩ := q_16
  have KF : FR [67, 68, 71, 72, 73, 74, 75, 76, 77, 78, 79, 80, 81, 82, 83, 84, 85, 86, 87, 88, 89, 90] ψ ψd := (Kc.tr Kd (by decide))
  exact R_ireturn (pc := 354) dX12_use_354 rfl (by decide) (by decide) ⟨rfl, _, _, rfl, Se, ⟨KF 62 (by decide), KF 65 (by decide), KF 66 (by decide)⟩, ⟨rfl, rfl⟩, ⟨sg.cp yF _ 0 rfl, ui_s _ _ _⟩, ((((Fa.tr Fb).tr Fc).tr Fd).tr Fe)⟩
set_option maxHeartbeats 1000000 in
set_option maxRecDepth 100000 in
theorem oX12_use_10o {l : Launch} {w : am_W} {h : am_H} {n : Nat} {ψ : Nat → oA} {z : fA} {i : mI} (S : MO h ψ z i) (hn : 90 ≤ n) (A N D : List (BitVec 8)) (mm m : Nat) (hA : A.length ≤ 256) (hN : N.length ≤ 64) (hD : D.length ≤ 512) (hmm : 4 ≤ mm) (hmm16 : mm ≤ 16) (hi1 : i 1 = nI mm) (hz0 : z 0 = nI (4 * m)) (hm : m = 4 ∨ m = 6 ∨ m = 8) (hz1 : z 1 = nI D.length) (hz2 : z 2 = nI N.length) (hz3 : z 3 = nI A.length) (s1 : sg (ψ 62) 512 D) (s2 : sg (ψ 62) 1024 N) (s3 : sg (ψ 62) 1536 A) (B : BitVec 8 → BitVec 8) (hB : ∀ v : BitVec 8, ψ 65 v.toNat = B v) {F G : bP → bP} (HK0 : ∀ ψ2, FR [67, 68, 71, 72, 73, 74, 75, 76, 77, 78, 79, 80, 81, 82, 83, 84, 85, 86, 87, 88, 89, 90] ψ ψ2 → exK ψ2 B 0 0 m → Kh ψ2 0 F G) (hP : ftP 10 1 D.length N.length mm) : RH l w mX12_use h n [.ref 61, .int 10, .int 1] (uQ h ψ z i (if lg_cmp (uOut G (D.length / 8 - 1) (e8 D 0, D) 6).1 (-6438275382588823898) = 0 then nI (tk8 (uOut G (D.length / 8 - 1) (e8 D 0, D) 6).2).length else -6) (if lg_cmp (uOut G (D.length / 8 - 1) (e8 D 0, D) 6).1 (-6438275382588823898) = 0 then some (tk8 (uOut G (D.length / 8 - 1) (e8 D 0, D) 6).2) else none)) := by
  refine RC.of [(0, .ref 61), (1, .int 10), (2, .int 1)] (by decide +kernel) rfl (Nat.le_of_ble_eq_true rfl) ?_
  have hm8 : 4 ≤ m ∧ m ≤ 8 := by omega
  refine R_iload_n (pc := 0) 1 dX12_use_0 rfl rfl ?_
  refine R_iconst (pc := 1) (v := 1) dX12_use_1 (by decide) ?_
  refine R_bipush (pc := 2) (v := 16) dX12_use_2 (by decide) ?_
  refine R_callSp (pc := 4) (μ' := mX12_in) (As := [.int 10, .int 1, .int 16]) (st := []) dX12_use_4 zX12_in lX12_108 ⟨by decide, by decide⟩ rfl rfl ⟨by decide, by decide⟩ rfl (Nat.le_of_ble_eq_true rfl) (qX12_in l w _ _ _ _ _) ?_
  refine R_eqi (y := 1) (by decide) ?_
  refine R_if_ne (pc := 7) (tgt := 13) dX12_use_7 (by decide) (fun c_1 => ?_) (fun c_1 => absurd c_1 (by decide))
  refine R_aload_n (pc := 13) 0 dX12_use_13 rfl rfl ?_
  refine R_iload_n (pc := 14) 1 dX12_use_14 rfl rfl ?_
  refine R_bipush (pc := 15) (v := 9) dX12_use_15 (by decide) ?_
  refine R_icmp_eq (pc := 17) (tgt := 26) dX12_use_17 (by decide) (fun c_2 => absurd c_2 (by decide)) (fun c_2 => ?_)
  refine R_iload_n (pc := 20) 1 dX12_use_20 rfl rfl ?_
  refine R_bipush (pc := 21) (v := 15) dX12_use_21 (by decide) ?_
  refine R_icmp_ne (pc := 23) (tgt := 30) dX12_use_23 (by decide) (fun c_3 => ?_) (fun c_3 => absurd c_3 (by decide))
  refine R_iconst (pc := 30) (v := 0) dX12_use_30 (by decide) ?_
  refine R_callVh (pc := 31) (μ' := mX12_hasKeys) (As := [.int 0]) (st := []) dX12_use_31 zX12_hasKeys lX12_250 ⟨by decide, by decide⟩ rfl rfl ⟨by decide, by decide⟩ S.obj (by omega) rfl (Nat.le_of_ble_eq_true rfl) (oX12_hasKeys_0 S hn m hz0 hm B hB) (fun h_4 r_ q_5 => ?_)
  obtain ⟨ψa, rfl, Sa, Ka, Ea, Fa⟩ := q_5
  refine R_if_ne (pc := 34) (tgt := 40) dX12_use_34 (by decide) (fun c_6 => ?_) (fun c_6 => absurd c_6 (by decide))
  refine R_aload_n (pc := 40) 0 dX12_use_40 rfl rfl ?_
  refine R_iload_n (pc := 41) 1 dX12_use_41 rfl rfl ?_
  refine R_iload_n (pc := 42) 2 dX12_use_42 rfl rfl ?_
  refine R_callVh (pc := 43) (μ' := mX12_fits) (As := [.int 10, .int 1]) (st := []) dX12_use_43 zX12_fits lX12_254 ⟨by decide, by decide⟩ rfl rfl ⟨by decide, by decide⟩ Sa.obj (by omega) rfl (Nat.le_of_ble_eq_true rfl) (oX12_fits_10o Sa hn D.length N.length mm hD hN (by omega) hz1 hz2 hi1 hP) (fun h_7 r_ q_8 => ?_)
  obtain ⟨rfl, Sb, Fb⟩ := q_8
  refine R_if_ne (pc := 46) (tgt := 52) dX12_use_46 (by decide) (fun c_9 => ?_) (fun c_9 => absurd c_9 (by decide))
  refine R_aload_n (pc := 52) 0 dX12_use_52 rfl rfl ?_
  refine R_callVh (pc := 53) (μ' := mX12_load) (As := []) (st := []) dX12_use_53 zX12_load lX12_258 ⟨by decide, by decide⟩ rfl rfl ⟨by decide, by decide⟩ Sb.obj (by omega) rfl (Nat.le_of_ble_eq_true rfl) (oX12_load Sb hn D.length N.length A.length hz1 hz2 hz3 hD hN hA) (fun h_10 r_ q_11 => ?_)
  obtain ⟨rfl, Sc, Fc⟩ := q_11
  obtain ⟨ψc, ec⟩ : ∃ x, x = (uo (uo (uo ψa 71 (cpB (ψa 62) 512 (ψa 71) 0 D.length)) 73 (cpB (ψa 62) 1024 (ψa 73) 0 N.length)) 74 (cpB (ψa 62) 1536 (ψa 74) 0 A.length)) := ⟨_, rfl⟩
  rw [← ec] at Sc
  have Kc : FR [67, 68, 71, 72, 73, 74, 75, 76, 77, 78, 79, 80, 81, 82, 83, 84, 85, 86, 87, 88, 89, 90] ψ ψc := by rw [ec]; exact (((((FR.rf _ _).tr Ka (by decide)).up (by decide)).up (by decide)).up (by decide))
  have e62 : ψa 62 = ψ 62 := Ka 62 (by decide)
  have sD : sg (ψc 71) 0 D := by rw [ec]; exact (show sg (ψa 62) 512 D by rw [e62]; exact s1).cp (ψa 71) 0 rfl
  have sN : sg (ψc 73) 0 N := by rw [ec]; exact (show sg (ψa 62) 1024 N by rw [e62]; exact s2).cp (ψa 73) 0 rfl
  have sA : sg (ψc 74) 0 A := by rw [ec]; exact (show sg (ψa 62) 1536 A by rw [e62]; exact s3).cp (ψa 74) 0 rfl
  have K0 : Kh ψc 0 F G := HK0 ψc Kc (by rw [ec]; exact Ea)
  refine R_iconst (pc := 56) (v := 0) dX12_use_56 (by decide) ?_
  refine R_istore_n (pc := 57) (lv' := [(3, .int 0), (0, .ref 61), (1, .int 10), (2, .int 1)]) dX12_use_57 rfl (by decide) rfl ?_
  refine R_iload_n (pc := 58) 2 dX12_use_58 rfl rfl ?_
  refine R_tableIn (pc := 59) (tgt := 300) dX12_use_59 (by decide) (by decide) rfl (by decide) ?_
  refine R_aload_n (pc := 300) 1 dX12_use_300 rfl rfl ?_
  refine R_iload_n (pc := 301) 3 dX12_use_301 rfl rfl ?_
  refine R_callVh (pc := 302) (μ' := mX12_wrap) (As := [.int 1]) (st := []) dX12_use_302 zX12_wrap lX12_284 ⟨by decide, by decide⟩ rfl rfl ⟨by decide, by decide⟩ Sc.obj (by omega) rfl (Nat.le_of_ble_eq_true rfl) (oX12_wrap_o Sc hn D (D.length / 8) (by have := hP.1; omega) hD rfl K0 sD (by have := hP.2; omega)) (fun h_12 r_ q_13 => ?_)
  obtain ⟨ψd, rfl, Sd, Kd, Yd, Fd⟩ := q_13
  refine R_istore_n (pc := 305) (lv' := [(3, .int (if lg_cmp (uOut G (D.length / 8 - 1) (e8 D 0, D) 6).1 (-6438275382588823898) = 0 then 0 else -6)), (0, .ref 61), (1, .int 10), (2, .int 1)]) dX12_use_305 rfl (by decide) rfl ?_
  refine R_goto (pc := 306) (tgt := 334) dX12_use_306 (by decide) ?_
  refine R_iload_n (pc := 334) 0 dX12_use_334 rfl rfl ?_
  refine R_if_ge (pc := 335) (tgt := 342) dX12_use_335 (by decide) (fun c_14 => ?_) (fun c_14 => ?_)
  · skip
    have hc := ifge0 c_14
    have yF : sg (ψd 72) 0 (tk8 (uOut G (D.length / 8 - 1) (e8 D 0, D) 6).2) := Yd
    have lF : (tk8 (uOut G (D.length / 8 - 1) (e8 D 0, D) 6).2).length = D.length - 8 := by rw [tk8_len, uOut_len]
    have hl7 : (tk8 (uOut G (D.length / 8 - 1) (e8 D 0, D) 6).2).length ≤ 700 := by rw [lF]; omega
    refine R_aload_n (pc := 342) 1 dX12_use_342 rfl rfl ?_
    refine R_aload_n (pc := 343) 1 dX12_use_343 rfl rfl ?_
    refine R_get (pc := 344) dX12_use_344 fX12_44 Sd.obj (by omega) rfl ?_
    refine R_aload_n (pc := 347) 1 dX12_use_347 rfl rfl ?_
    refine R_get (pc := 348) dX12_use_348 fX12_153 Sd.obj (by omega) rfl ?_
    refine R_eqi (y := nI (D.length - 8)) rfl ?_
    refine R_eqi (y := nI (tk8 (uOut G (D.length / 8 - 1) (e8 D 0, D) 6).2).length) (by rw [lF]) ?_
    refine R_callVh (pc := 351) (μ' := mX12_come) (As := [.ref 72, .int (nI (tk8 (uOut G (D.length / 8 - 1) (e8 D 0, D) 6).2).length)]) (st := []) dX12_use_351 zX12_come lX12_297 ⟨by decide, by decide⟩ rfl rfl ⟨by decide, by decide⟩ Sd.obj (by omega) rfl (Nat.le_of_ble_eq_true rfl) (oX12_come Sd hn (p := 72) rfl (by decide) (tk8 (uOut G (D.length / 8 - 1) (e8 D 0, D) 6).2).length hl7 hl7) (fun h_15 r_ q_16 => ?_)
    obtain ⟨rfl, Se, Fe⟩ := q_16
    have KF : FR [67, 68, 71, 72, 73, 74, 75, 76, 77, 78, 79, 80, 81, 82, 83, 84, 85, 86, 87, 88, 89, 90] ψ ψd := (Kc.tr Kd (by decide))
    rw [if_pos hc, if_pos hc, if_pos hc]
    exact R_ireturn (pc := 354) dX12_use_354 rfl (by decide) (by decide) ⟨rfl, _, _, rfl, Se, ⟨KF 62 (by decide), KF 65 (by decide), KF 66 (by decide)⟩, ⟨rfl, rfl⟩, ⟨sg.cp yF _ 0 rfl, ui_s _ _ _⟩, ((((Fa.tr Fb).tr Fc).tr Fd).tr Fe)⟩
  · skip
    refine R_iload_n (pc := 338) 0 dX12_use_338 rfl rfl ?_
    refine R_goto (pc := 339) (tgt := 354) dX12_use_339 (by decide) ?_
    have KF : FR [67, 68, 71, 72, 73, 74, 75, 76, 77, 78, 79, 80, 81, 82, 83, 84, 85, 86, 87, 88, 89, 90] ψ ψd := (Kc.tr Kd (by decide))
    have hc : ¬ (lg_cmp (uOut G (D.length / 8 - 1) (e8 D 0, D) 6).1 (-6438275382588823898) = 0) := fun q_ => c_14 (by rw [if_pos q_]; decide)
    rw [if_neg hc, if_neg hc, if_neg hc]
    exact R_ireturn (pc := 354) dX12_use_354 rfl (by decide) (by decide) ⟨rfl, _, _, rfl, Sd, ⟨KF 62 (by decide), KF 65 (by decide), KF 66 (by decide)⟩, ⟨rfl, rfl⟩, ⟨KF 64 (by decide), rfl⟩, (((Fa.tr Fb).tr Fc).tr Fd)⟩
set_option maxHeartbeats 1000000 in
set_option maxRecDepth 100000 in
theorem oX12_use_11s {l : Launch} {w : am_W} {h : am_H} {n : Nat} {ψ : Nat → oA} {z : fA} {i : mI} (S : MO h ψ z i) (hn : 90 ≤ n) (A N D : List (BitVec 8)) (mm m : Nat) (hA : A.length ≤ 256) (hN : N.length ≤ 64) (hD : D.length ≤ 512) (hmm : 4 ≤ mm) (hmm16 : mm ≤ 16) (hi1 : i 1 = nI mm) (hz0 : z 0 = nI (4 * m)) (hm : m = 4 ∨ m = 6 ∨ m = 8) (hz1 : z 1 = nI D.length) (hz2 : z 2 = nI N.length) (hz3 : z 3 = nI A.length) (s1 : sg (ψ 62) 512 D) (s2 : sg (ψ 62) 1024 N) (s3 : sg (ψ 62) 1536 A) (B : BitVec 8 → BitVec 8) (hB : ∀ v : BitVec 8, ψ 65 v.toNat = B v) {F G : bP → bP} (HK0 : ∀ ψ2, FR [67, 68, 71, 72, 73, 74, 75, 76, 77, 78, 79, 80, 81, 82, 83, 84, 85, 86, 87, 88, 89, 90] ψ ψ2 → exK ψ2 B 0 0 m → Kh ψ2 0 F G) (hP : ftP 11 0 D.length N.length mm) : RH l w mX12_use h n [.ref 61, .int 11, .int 0] (uQ h ψ z i (nI (pwE F D).length) (some (pwE F D))) := by
  refine RC.of [(0, .ref 61), (1, .int 11), (2, .int 0)] (by decide +kernel) rfl (Nat.le_of_ble_eq_true rfl) ?_
  have hm8 : 4 ≤ m ∧ m ≤ 8 := by omega
  refine R_iload_n (pc := 0) 1 dX12_use_0 rfl rfl ?_
  refine R_iconst (pc := 1) (v := 1) dX12_use_1 (by decide) ?_
  refine R_bipush (pc := 2) (v := 16) dX12_use_2 (by decide) ?_
  refine R_callSp (pc := 4) (μ' := mX12_in) (As := [.int 11, .int 1, .int 16]) (st := []) dX12_use_4 zX12_in lX12_108 ⟨by decide, by decide⟩ rfl rfl ⟨by decide, by decide⟩ rfl (Nat.le_of_ble_eq_true rfl) (qX12_in l w _ _ _ _ _) ?_
  refine R_eqi (y := 1) (by decide) ?_
  refine R_if_ne (pc := 7) (tgt := 13) dX12_use_7 (by decide) (fun c_1 => ?_) (fun c_1 => absurd c_1 (by decide))
  refine R_aload_n (pc := 13) 0 dX12_use_13 rfl rfl ?_
  refine R_iload_n (pc := 14) 1 dX12_use_14 rfl rfl ?_
  refine R_bipush (pc := 15) (v := 9) dX12_use_15 (by decide) ?_
  refine R_icmp_eq (pc := 17) (tgt := 26) dX12_use_17 (by decide) (fun c_2 => absurd c_2 (by decide)) (fun c_2 => ?_)
  refine R_iload_n (pc := 20) 1 dX12_use_20 rfl rfl ?_
  refine R_bipush (pc := 21) (v := 15) dX12_use_21 (by decide) ?_
  refine R_icmp_ne (pc := 23) (tgt := 30) dX12_use_23 (by decide) (fun c_3 => ?_) (fun c_3 => absurd c_3 (by decide))
  refine R_iconst (pc := 30) (v := 0) dX12_use_30 (by decide) ?_
  refine R_callVh (pc := 31) (μ' := mX12_hasKeys) (As := [.int 0]) (st := []) dX12_use_31 zX12_hasKeys lX12_250 ⟨by decide, by decide⟩ rfl rfl ⟨by decide, by decide⟩ S.obj (by omega) rfl (Nat.le_of_ble_eq_true rfl) (oX12_hasKeys_0 S hn m hz0 hm B hB) (fun h_4 r_ q_5 => ?_)
  obtain ⟨ψa, rfl, Sa, Ka, Ea, Fa⟩ := q_5
  refine R_if_ne (pc := 34) (tgt := 40) dX12_use_34 (by decide) (fun c_6 => ?_) (fun c_6 => absurd c_6 (by decide))
  refine R_aload_n (pc := 40) 0 dX12_use_40 rfl rfl ?_
  refine R_iload_n (pc := 41) 1 dX12_use_41 rfl rfl ?_
  refine R_iload_n (pc := 42) 2 dX12_use_42 rfl rfl ?_
  refine R_callVh (pc := 43) (μ' := mX12_fits) (As := [.int 11, .int 0]) (st := []) dX12_use_43 zX12_fits lX12_254 ⟨by decide, by decide⟩ rfl rfl ⟨by decide, by decide⟩ Sa.obj (by omega) rfl (Nat.le_of_ble_eq_true rfl) (oX12_fits_11s Sa hn D.length N.length mm hD hN (by omega) hz1 hz2 hi1 hP) (fun h_7 r_ q_8 => ?_)
  obtain ⟨rfl, Sb, Fb⟩ := q_8
  refine R_if_ne (pc := 46) (tgt := 52) dX12_use_46 (by decide) (fun c_9 => ?_) (fun c_9 => absurd c_9 (by decide))
  refine R_aload_n (pc := 52) 0 dX12_use_52 rfl rfl ?_
  refine R_callVh (pc := 53) (μ' := mX12_load) (As := []) (st := []) dX12_use_53 zX12_load lX12_258 ⟨by decide, by decide⟩ rfl rfl ⟨by decide, by decide⟩ Sb.obj (by omega) rfl (Nat.le_of_ble_eq_true rfl) (oX12_load Sb hn D.length N.length A.length hz1 hz2 hz3 hD hN hA) (fun h_10 r_ q_11 => ?_)
  obtain ⟨rfl, Sc, Fc⟩ := q_11
  obtain ⟨ψc, ec⟩ : ∃ x, x = (uo (uo (uo ψa 71 (cpB (ψa 62) 512 (ψa 71) 0 D.length)) 73 (cpB (ψa 62) 1024 (ψa 73) 0 N.length)) 74 (cpB (ψa 62) 1536 (ψa 74) 0 A.length)) := ⟨_, rfl⟩
  rw [← ec] at Sc
  have Kc : FR [67, 68, 71, 72, 73, 74, 75, 76, 77, 78, 79, 80, 81, 82, 83, 84, 85, 86, 87, 88, 89, 90] ψ ψc := by rw [ec]; exact (((((FR.rf _ _).tr Ka (by decide)).up (by decide)).up (by decide)).up (by decide))
  have e62 : ψa 62 = ψ 62 := Ka 62 (by decide)
  have sD : sg (ψc 71) 0 D := by rw [ec]; exact (show sg (ψa 62) 512 D by rw [e62]; exact s1).cp (ψa 71) 0 rfl
  have sN : sg (ψc 73) 0 N := by rw [ec]; exact (show sg (ψa 62) 1024 N by rw [e62]; exact s2).cp (ψa 73) 0 rfl
  have sA : sg (ψc 74) 0 A := by rw [ec]; exact (show sg (ψa 62) 1536 A by rw [e62]; exact s3).cp (ψa 74) 0 rfl
  have K0 : Kh ψc 0 F G := HK0 ψc Kc (by rw [ec]; exact Ea)
  refine R_iconst (pc := 56) (v := 0) dX12_use_56 (by decide) ?_
  refine R_istore_n (pc := 57) (lv' := [(3, .int 0), (0, .ref 61), (1, .int 11), (2, .int 0)]) dX12_use_57 rfl (by decide) rfl ?_
  refine R_iload_n (pc := 58) 2 dX12_use_58 rfl rfl ?_
  refine R_tableIn (pc := 59) (tgt := 309) dX12_use_59 (by decide) (by decide) rfl (by decide) ?_
  refine R_aload_n (pc := 309) 1 dX12_use_309 rfl rfl ?_
  refine R_iload_n (pc := 310) 3 dX12_use_310 rfl rfl ?_
  refine R_callVh (pc := 311) (μ' := mX12_paddedWrap) (As := [.int 0]) (st := []) dX12_use_311 zX12_paddedWrap lX12_287 ⟨by decide, by decide⟩ rfl rfl ⟨by decide, by decide⟩ Sc.obj (by omega) rfl (Nat.le_of_ble_eq_true rfl) (oX12_paddedWrap_s Sc hn D ((D.length + 7) / 8) rfl hP hD rfl K0 sD) (fun h_12 r_ q_13 => ?_)
  obtain ⟨ψd, rfl, Sd, Kd, Yd, Fd⟩ := q_13
  refine R_istore_n (pc := 314) (lv' := [(3, .int 0), (0, .ref 61), (1, .int 11), (2, .int 0)]) dX12_use_314 rfl (by decide) rfl ?_
  refine R_goto (pc := 315) (tgt := 334) dX12_use_315 (by decide) ?_
  refine R_iload_n (pc := 334) 0 dX12_use_334 rfl rfl ?_
  refine R_if_ge (pc := 335) (tgt := 342) dX12_use_335 (by decide) (fun c_14 => ?_) (fun c_14 => absurd (by decide) c_14)
  have yF : sg (ψd 72) 0 (pwE F D) := Yd
  have lF : (pwE F D).length = 8 * ((D.length + 7) / 8) + 8 := pwE_l F D (by omega)
  have hl7 : (pwE F D).length ≤ 700 := by rw [lF]; omega
  refine R_aload_n (pc := 342) 1 dX12_use_342 rfl rfl ?_
  refine R_aload_n (pc := 343) 1 dX12_use_343 rfl rfl ?_
  refine R_get (pc := 344) dX12_use_344 fX12_44 Sd.obj (by omega) rfl ?_
  refine R_aload_n (pc := 347) 1 dX12_use_347 rfl rfl ?_
  refine R_get (pc := 348) dX12_use_348 fX12_153 Sd.obj (by omega) rfl ?_
  refine R_eqi (y := nI (8 * ((D.length + 7) / 8) + 8)) rfl ?_
  refine R_eqi (y := nI (pwE F D).length) (by rw [lF]) ?_
  refine R_callVh (pc := 351) (μ' := mX12_come) (As := [.ref 72, .int (nI (pwE F D).length)]) (st := []) dX12_use_351 zX12_come lX12_297 ⟨by decide, by decide⟩ rfl rfl ⟨by decide, by decide⟩ Sd.obj (by omega) rfl (Nat.le_of_ble_eq_true rfl) (oX12_come Sd hn (p := 72) rfl (by decide) (pwE F D).length hl7 hl7) (fun h_15 r_ q_16 => ?_)
  obtain ⟨rfl, Se, Fe⟩ := q_16
  have KF : FR [67, 68, 71, 72, 73, 74, 75, 76, 77, 78, 79, 80, 81, 82, 83, 84, 85, 86, 87, 88, 89, 90] ψ ψd := (Kc.tr Kd (by decide))
  exact R_ireturn (pc := 354) dX12_use_354 rfl (by decide) (by decide) ⟨rfl, _, _, rfl, Se, ⟨KF 62 (by decide), KF 65 (by decide), KF 66 (by decide)⟩, ⟨rfl, rfl⟩, ⟨sg.cp yF _ 0 rfl, ui_s _ _ _⟩, ((((Fa.tr Fb).tr Fc).tr Fd).tr Fe)⟩
set_option maxHeartbeats 1000000 in
set_option maxRecDepth 100000 in
theorem oX12_use_11o {l : Launch} {w : am_W} {h : am_H} {n : Nat} {ψ : Nat → oA} {z : fA} {i : mI} (S : MO h ψ z i) (hn : 90 ≤ n) (A N D : List (BitVec 8)) (mm m : Nat) (hA : A.length ≤ 256) (hN : N.length ≤ 64) (hD : D.length ≤ 512) (hmm : 4 ≤ mm) (hmm16 : mm ≤ 16) (hi1 : i 1 = nI mm) (hz0 : z 0 = nI (4 * m)) (hm : m = 4 ∨ m = 6 ∨ m = 8) (hz1 : z 1 = nI D.length) (hz2 : z 2 = nI N.length) (hz3 : z 3 = nI A.length) (s1 : sg (ψ 62) 512 D) (s2 : sg (ψ 62) 1024 N) (s3 : sg (ψ 62) 1536 A) (B : BitVec 8 → BitVec 8) (hB : ∀ v : BitVec 8, ψ 65 v.toNat = B v) {F G : bP → bP} (HK0 : ∀ ψ2, FR [67, 68, 71, 72, 73, 74, 75, 76, 77, 78, 79, 80, 81, 82, 83, 84, 85, 86, 87, 88, 89, 90] ψ ψ2 → exK ψ2 B 0 0 m → Kh ψ2 0 F G) (hP : ftP 11 1 D.length N.length mm) : RH l w mX12_use h n [.ref 61, .int 11, .int 1] (uQ h ψ z i (if pwC G D = 0 then nI (pwR G D).length else -6) (if pwC G D = 0 then some (pwR G D) else none)) := by
  refine RC.of [(0, .ref 61), (1, .int 11), (2, .int 1)] (by decide +kernel) rfl (Nat.le_of_ble_eq_true rfl) ?_
  have hm8 : 4 ≤ m ∧ m ≤ 8 := by omega
  refine R_iload_n (pc := 0) 1 dX12_use_0 rfl rfl ?_
  refine R_iconst (pc := 1) (v := 1) dX12_use_1 (by decide) ?_
  refine R_bipush (pc := 2) (v := 16) dX12_use_2 (by decide) ?_
  refine R_callSp (pc := 4) (μ' := mX12_in) (As := [.int 11, .int 1, .int 16]) (st := []) dX12_use_4 zX12_in lX12_108 ⟨by decide, by decide⟩ rfl rfl ⟨by decide, by decide⟩ rfl (Nat.le_of_ble_eq_true rfl) (qX12_in l w _ _ _ _ _) ?_
  refine R_eqi (y := 1) (by decide) ?_
  refine R_if_ne (pc := 7) (tgt := 13) dX12_use_7 (by decide) (fun c_1 => ?_) (fun c_1 => absurd c_1 (by decide))
  refine R_aload_n (pc := 13) 0 dX12_use_13 rfl rfl ?_
  refine R_iload_n (pc := 14) 1 dX12_use_14 rfl rfl ?_
  refine R_bipush (pc := 15) (v := 9) dX12_use_15 (by decide) ?_
  refine R_icmp_eq (pc := 17) (tgt := 26) dX12_use_17 (by decide) (fun c_2 => absurd c_2 (by decide)) (fun c_2 => ?_)
  refine R_iload_n (pc := 20) 1 dX12_use_20 rfl rfl ?_
  refine R_bipush (pc := 21) (v := 15) dX12_use_21 (by decide) ?_
  refine R_icmp_ne (pc := 23) (tgt := 30) dX12_use_23 (by decide) (fun c_3 => ?_) (fun c_3 => absurd c_3 (by decide))
  refine R_iconst (pc := 30) (v := 0) dX12_use_30 (by decide) ?_
  refine R_callVh (pc := 31) (μ' := mX12_hasKeys) (As := [.int 0]) (st := []) dX12_use_31 zX12_hasKeys lX12_250 ⟨by decide, by decide⟩ rfl rfl ⟨by decide, by decide⟩ S.obj (by omega) rfl (Nat.le_of_ble_eq_true rfl) (oX12_hasKeys_0 S hn m hz0 hm B hB) (fun h_4 r_ q_5 => ?_)
  obtain ⟨ψa, rfl, Sa, Ka, Ea, Fa⟩ := q_5
  refine R_if_ne (pc := 34) (tgt := 40) dX12_use_34 (by decide) (fun c_6 => ?_) (fun c_6 => absurd c_6 (by decide))
  refine R_aload_n (pc := 40) 0 dX12_use_40 rfl rfl ?_
  refine R_iload_n (pc := 41) 1 dX12_use_41 rfl rfl ?_
  refine R_iload_n (pc := 42) 2 dX12_use_42 rfl rfl ?_
  refine R_callVh (pc := 43) (μ' := mX12_fits) (As := [.int 11, .int 1]) (st := []) dX12_use_43 zX12_fits lX12_254 ⟨by decide, by decide⟩ rfl rfl ⟨by decide, by decide⟩ Sa.obj (by omega) rfl (Nat.le_of_ble_eq_true rfl) (oX12_fits_11o Sa hn D.length N.length mm hD hN (by omega) hz1 hz2 hi1 hP) (fun h_7 r_ q_8 => ?_)
  obtain ⟨rfl, Sb, Fb⟩ := q_8
  refine R_if_ne (pc := 46) (tgt := 52) dX12_use_46 (by decide) (fun c_9 => ?_) (fun c_9 => absurd c_9 (by decide))
  refine R_aload_n (pc := 52) 0 dX12_use_52 rfl rfl ?_
  refine R_callVh (pc := 53) (μ' := mX12_load) (As := []) (st := []) dX12_use_53 zX12_load lX12_258 ⟨by decide, by decide⟩ rfl rfl ⟨by decide, by decide⟩ Sb.obj (by omega) rfl (Nat.le_of_ble_eq_true rfl) (oX12_load Sb hn D.length N.length A.length hz1 hz2 hz3 hD hN hA) (fun h_10 r_ q_11 => ?_)
  obtain ⟨rfl, Sc, Fc⟩ := q_11
  obtain ⟨ψc, ec⟩ : ∃ x, x = (uo (uo (uo ψa 71 (cpB (ψa 62) 512 (ψa 71) 0 D.length)) 73 (cpB (ψa 62) 1024 (ψa 73) 0 N.length)) 74 (cpB (ψa 62) 1536 (ψa 74) 0 A.length)) := ⟨_, rfl⟩
  rw [← ec] at Sc
  have Kc : FR [67, 68, 71, 72, 73, 74, 75, 76, 77, 78, 79, 80, 81, 82, 83, 84, 85, 86, 87, 88, 89, 90] ψ ψc := by rw [ec]; exact (((((FR.rf _ _).tr Ka (by decide)).up (by decide)).up (by decide)).up (by decide))
  have e62 : ψa 62 = ψ 62 := Ka 62 (by decide)
  have sD : sg (ψc 71) 0 D := by rw [ec]; exact (show sg (ψa 62) 512 D by rw [e62]; exact s1).cp (ψa 71) 0 rfl
  have sN : sg (ψc 73) 0 N := by rw [ec]; exact (show sg (ψa 62) 1024 N by rw [e62]; exact s2).cp (ψa 73) 0 rfl
  have sA : sg (ψc 74) 0 A := by rw [ec]; exact (show sg (ψa 62) 1536 A by rw [e62]; exact s3).cp (ψa 74) 0 rfl
  have K0 : Kh ψc 0 F G := HK0 ψc Kc (by rw [ec]; exact Ea)
  refine R_iconst (pc := 56) (v := 0) dX12_use_56 (by decide) ?_
  refine R_istore_n (pc := 57) (lv' := [(3, .int 0), (0, .ref 61), (1, .int 11), (2, .int 1)]) dX12_use_57 rfl (by decide) rfl ?_
  refine R_iload_n (pc := 58) 2 dX12_use_58 rfl rfl ?_
  refine R_tableIn (pc := 59) (tgt := 309) dX12_use_59 (by decide) (by decide) rfl (by decide) ?_
  refine R_aload_n (pc := 309) 1 dX12_use_309 rfl rfl ?_
  refine R_iload_n (pc := 310) 3 dX12_use_310 rfl rfl ?_
  refine R_callVh (pc := 311) (μ' := mX12_paddedWrap) (As := [.int 1]) (st := []) dX12_use_311 zX12_paddedWrap lX12_287 ⟨by decide, by decide⟩ rfl rfl ⟨by decide, by decide⟩ Sc.obj (by omega) rfl (Nat.le_of_ble_eq_true rfl) (oX12_paddedWrap_o Sc hn D (D.length / 8) (by have := hP.1; omega) (by have := hP.2; omega) hD rfl K0 sD) (fun h_12 r_ q_13 => ?_)
  obtain ⟨ψd, vd, rfl, Sd, Kd, Yd, Fd⟩ := q_13
  refine R_istore_n (pc := 314) (lv' := [(3, .int (if pwC G D = 0 then 0 else -6)), (0, .ref 61), (1, .int 11), (2, .int 1)]) dX12_use_314 rfl (by decide) rfl ?_
  refine R_goto (pc := 315) (tgt := 334) dX12_use_315 (by decide) ?_
  refine R_iload_n (pc := 334) 0 dX12_use_334 rfl rfl ?_
  refine R_if_ge (pc := 335) (tgt := 342) dX12_use_335 (by decide) (fun c_14 => ?_) (fun c_14 => ?_)
  · skip
    have hc := ifge0 c_14
    have yF : sg (ψd 72) 0 (pwR G D) := (Yd hc).1
    have zF : vd = nI (pwR G D).length := (Yd hc).2
    have hl7 : (pwR G D).length ≤ 700 := by exact pwR_700 (by omega)
    refine R_aload_n (pc := 342) 1 dX12_use_342 rfl rfl ?_
    refine R_aload_n (pc := 343) 1 dX12_use_343 rfl rfl ?_
    refine R_get (pc := 344) dX12_use_344 fX12_44 Sd.obj (by omega) rfl ?_
    refine R_aload_n (pc := 347) 1 dX12_use_347 rfl rfl ?_
    refine R_get (pc := 348) dX12_use_348 fX12_153 Sd.obj (by omega) rfl ?_
    refine R_eqi (y := vd) rfl ?_
    refine R_eqi (y := nI (pwR G D).length) (zF) ?_
    refine R_callVh (pc := 351) (μ' := mX12_come) (As := [.ref 72, .int (nI (pwR G D).length)]) (st := []) dX12_use_351 zX12_come lX12_297 ⟨by decide, by decide⟩ rfl rfl ⟨by decide, by decide⟩ Sd.obj (by omega) rfl (Nat.le_of_ble_eq_true rfl) (oX12_come Sd hn (p := 72) rfl (by decide) (pwR G D).length hl7 hl7) (fun h_15 r_ q_16 => ?_)
    obtain ⟨rfl, Se, Fe⟩ := q_16
    have KF : FR [67, 68, 71, 72, 73, 74, 75, 76, 77, 78, 79, 80, 81, 82, 83, 84, 85, 86, 87, 88, 89, 90] ψ ψd := (Kc.tr Kd (by decide))
    rw [if_pos hc, if_pos hc, if_pos hc]
    exact R_ireturn (pc := 354) dX12_use_354 rfl (by decide) (by decide) ⟨rfl, _, _, rfl, Se, ⟨KF 62 (by decide), KF 65 (by decide), KF 66 (by decide)⟩, ⟨rfl, rfl⟩, ⟨sg.cp yF _ 0 rfl, ui_s _ _ _⟩, ((((Fa.tr Fb).tr Fc).tr Fd).tr Fe)⟩
  · skip
    refine R_iload_n (pc := 338) 0 dX12_use_338 rfl rfl ?_
    refine R_goto (pc := 339) (tgt := 354) dX12_use_339 (by decide) ?_
    have KF : FR [67, 68, 71, 72, 73, 74, 75, 76, 77, 78, 79, 80, 81, 82, 83, 84, 85, 86, 87, 88, 89, 90] ψ ψd := (Kc.tr Kd (by decide))
    have hc : ¬ (pwC G D = 0) := fun q_ => c_14 (by rw [if_pos q_]; decide)
    rw [if_neg hc, if_neg hc, if_neg hc]
    exact R_ireturn (pc := 354) dX12_use_354 rfl (by decide) (by decide) ⟨rfl, _, _, rfl, Sd, ⟨KF 62 (by decide), KF 65 (by decide), KF 66 (by decide)⟩, ⟨rfl, rfl⟩, ⟨KF 64 (by decide), rfl⟩, (((Fa.tr Fb).tr Fc).tr Fd)⟩
set_option maxHeartbeats 1000000 in
set_option maxRecDepth 100000 in
theorem oX12_use_15s {l : Launch} {w : am_W} {h : am_H} {n : Nat} {ψ : Nat → oA} {z : fA} {i : mI} (S : MO h ψ z i) (hn : 90 ≤ n) (A N D : List (BitVec 8)) (mm m : Nat) (hA : A.length ≤ 256) (hN : N.length ≤ 64) (hD : D.length ≤ 512) (hmm : 4 ≤ mm) (hmm16 : mm ≤ 16) (hi1 : i 1 = nI mm) (hz0 : z 0 = nI (8 * m)) (hm : m = 4 ∨ m = 6 ∨ m = 8) (hz1 : z 1 = nI D.length) (hz2 : z 2 = nI N.length) (hz3 : z 3 = nI A.length) (s1 : sg (ψ 62) 512 D) (s2 : sg (ψ 62) 1024 N) (s3 : sg (ψ 62) 1536 A) (B : BitVec 8 → BitVec 8) (hB : ∀ v : BitVec 8, ψ 65 v.toNat = B v) {F G : bP → bP} (HK0 : ∀ ψ2, FR [67, 68, 71, 72, 73, 74, 75, 76, 77, 78, 79, 80, 81, 82, 83, 84, 85, 86, 87, 88, 89, 90] ψ ψ2 → exK ψ2 B 0 0 m → Kh ψ2 0 F G) {F1 G1 : bP → bP} (HK1 : ∀ ψ2, FR [67, 68, 71, 72, 73, 74, 75, 76, 77, 78, 79, 80, 81, 82, 83, 84, 85, 86, 87, 88, 89, 90] ψ ψ2 → exK ψ2 B 1 (4 * m) m → Kh ψ2 1 F1 G1) (hP : ftP 15 0 D.length N.length mm) : RH l w mX12_use h n [.ref 61, .int 15, .int 0] (uQ h ψ z i (nI (bt (mdV F A N D) 16 ++ ctO F1 D (cfm (mdV F A N D))).length) (some (bt (mdV F A N D) 16 ++ ctO F1 D (cfm (mdV F A N D))))) := by
  refine RC.of [(0, .ref 61), (1, .int 15), (2, .int 0)] (by decide +kernel) rfl (Nat.le_of_ble_eq_true rfl) ?_
  have hm8 : 4 ≤ m ∧ m ≤ 8 := by omega
  refine R_iload_n (pc := 0) 1 dX12_use_0 rfl rfl ?_
  refine R_iconst (pc := 1) (v := 1) dX12_use_1 (by decide) ?_
  refine R_bipush (pc := 2) (v := 16) dX12_use_2 (by decide) ?_
  refine R_callSp (pc := 4) (μ' := mX12_in) (As := [.int 15, .int 1, .int 16]) (st := []) dX12_use_4 zX12_in lX12_108 ⟨by decide, by decide⟩ rfl rfl ⟨by decide, by decide⟩ rfl (Nat.le_of_ble_eq_true rfl) (qX12_in l w _ _ _ _ _) ?_
  refine R_eqi (y := 1) (by decide) ?_
  refine R_if_ne (pc := 7) (tgt := 13) dX12_use_7 (by decide) (fun c_1 => ?_) (fun c_1 => absurd c_1 (by decide))
  refine R_aload_n (pc := 13) 0 dX12_use_13 rfl rfl ?_
  refine R_iload_n (pc := 14) 1 dX12_use_14 rfl rfl ?_
  refine R_bipush (pc := 15) (v := 9) dX12_use_15 (by decide) ?_
  refine R_icmp_eq (pc := 17) (tgt := 26) dX12_use_17 (by decide) (fun c_2 => absurd c_2 (by decide)) (fun c_2 => ?_)
  refine R_iload_n (pc := 20) 1 dX12_use_20 rfl rfl ?_
  refine R_bipush (pc := 21) (v := 15) dX12_use_21 (by decide) ?_
  refine R_icmp_ne (pc := 23) (tgt := 30) dX12_use_23 (by decide) (fun c_3 => absurd (rfl) c_3) (fun c_3 => ?_)
  refine R_iconst (pc := 26) (v := 1) dX12_use_26 (by decide) ?_
  refine R_goto (pc := 27) (tgt := 31) dX12_use_27 (by decide) ?_
  refine R_callVh (pc := 31) (μ' := mX12_hasKeys) (As := [.int 1]) (st := []) dX12_use_31 zX12_hasKeys lX12_250 ⟨by decide, by decide⟩ rfl rfl ⟨by decide, by decide⟩ S.obj (by omega) rfl (Nat.le_of_ble_eq_true rfl) (oX12_hasKeys_1 S hn m hz0 hm B hB) (fun h_4 r_ q_5 => ?_)
  obtain ⟨ψa, rfl, Sa, Ka, Ea, Fa⟩ := q_5
  refine R_if_ne (pc := 34) (tgt := 40) dX12_use_34 (by decide) (fun c_6 => ?_) (fun c_6 => absurd c_6 (by decide))
  refine R_aload_n (pc := 40) 0 dX12_use_40 rfl rfl ?_
  refine R_iload_n (pc := 41) 1 dX12_use_41 rfl rfl ?_
  refine R_iload_n (pc := 42) 2 dX12_use_42 rfl rfl ?_
  refine R_callVh (pc := 43) (μ' := mX12_fits) (As := [.int 15, .int 0]) (st := []) dX12_use_43 zX12_fits lX12_254 ⟨by decide, by decide⟩ rfl rfl ⟨by decide, by decide⟩ Sa.obj (by omega) rfl (Nat.le_of_ble_eq_true rfl) (oX12_fits_15s Sa hn D.length N.length mm hD hN (by omega) hz1 hz2 hi1 hP) (fun h_7 r_ q_8 => ?_)
  obtain ⟨rfl, Sb, Fb⟩ := q_8
  refine R_if_ne (pc := 46) (tgt := 52) dX12_use_46 (by decide) (fun c_9 => ?_) (fun c_9 => absurd c_9 (by decide))
  refine R_aload_n (pc := 52) 0 dX12_use_52 rfl rfl ?_
  refine R_callVh (pc := 53) (μ' := mX12_load) (As := []) (st := []) dX12_use_53 zX12_load lX12_258 ⟨by decide, by decide⟩ rfl rfl ⟨by decide, by decide⟩ Sb.obj (by omega) rfl (Nat.le_of_ble_eq_true rfl) (oX12_load Sb hn D.length N.length A.length hz1 hz2 hz3 hD hN hA) (fun h_10 r_ q_11 => ?_)
  obtain ⟨rfl, Sc, Fc⟩ := q_11
  obtain ⟨ψc, ec⟩ : ∃ x, x = (uo (uo (uo ψa 71 (cpB (ψa 62) 512 (ψa 71) 0 D.length)) 73 (cpB (ψa 62) 1024 (ψa 73) 0 N.length)) 74 (cpB (ψa 62) 1536 (ψa 74) 0 A.length)) := ⟨_, rfl⟩
  rw [← ec] at Sc
  have Kc : FR [67, 68, 71, 72, 73, 74, 75, 76, 77, 78, 79, 80, 81, 82, 83, 84, 85, 86, 87, 88, 89, 90] ψ ψc := by rw [ec]; exact (((((FR.rf _ _).tr Ka (by decide)).up (by decide)).up (by decide)).up (by decide))
  have e62 : ψa 62 = ψ 62 := Ka 62 (by decide)
  have sD : sg (ψc 71) 0 D := by rw [ec]; exact (show sg (ψa 62) 512 D by rw [e62]; exact s1).cp (ψa 71) 0 rfl
  have sN : sg (ψc 73) 0 N := by rw [ec]; exact (show sg (ψa 62) 1024 N by rw [e62]; exact s2).cp (ψa 73) 0 rfl
  have sA : sg (ψc 74) 0 A := by rw [ec]; exact (show sg (ψa 62) 1536 A by rw [e62]; exact s3).cp (ψa 74) 0 rfl
  have K0 : Kh ψc 0 F G := HK0 ψc Kc (by rw [ec]; exact Ea.1)
  have K1 : Kh ψc 1 F1 G1 := HK1 ψc Kc (by rw [ec]; exact Ea.2)
  refine R_iconst (pc := 56) (v := 0) dX12_use_56 (by decide) ?_
  refine R_istore_n (pc := 57) (lv' := [(3, .int 0), (0, .ref 61), (1, .int 15), (2, .int 0)]) dX12_use_57 rfl (by decide) rfl ?_
  refine R_iload_n (pc := 58) 2 dX12_use_58 rfl rfl ?_
  refine R_tableIn (pc := 59) (tgt := 318) dX12_use_59 (by decide) (by decide) rfl (by decide) ?_
  refine R_aload_n (pc := 318) 1 dX12_use_318 rfl rfl ?_
  refine R_iload_n (pc := 319) 3 dX12_use_319 rfl rfl ?_
  refine R_callVh (pc := 320) (μ' := mX12_siv) (As := [.int 0]) (st := []) dX12_use_320 zX12_siv lX12_290 ⟨by decide, by decide⟩ rfl rfl ⟨by decide, by decide⟩ Sc.obj (by omega) rfl (Nat.le_of_ble_eq_true rfl) (oX12_siv_s Sc hn A N D hA hN hD rfl rfl rfl sA sN sD K0 K1) (fun h_12 r_ q_13 => ?_)
  obtain ⟨ψd, id, rfl, Sd, Id, zd, Kd, Yd, Fd⟩ := q_13
  refine R_istore_n (pc := 323) (lv' := [(3, .int 0), (0, .ref 61), (1, .int 15), (2, .int 0)]) dX12_use_323 rfl (by decide) rfl ?_
  refine R_goto (pc := 324) (tgt := 334) dX12_use_324 (by decide) ?_
  refine R_iload_n (pc := 334) 0 dX12_use_334 rfl rfl ?_
  refine R_if_ge (pc := 335) (tgt := 342) dX12_use_335 (by decide) (fun c_14 => ?_) (fun c_14 => absurd (by decide) c_14)
  have yF : sg (ψd 72) 0 (bt (mdV F A N D) 16 ++ ctO F1 D (cfm (mdV F A N D))) := Yd
  have lF : (bt (mdV F A N D) 16 ++ ctO F1 D (cfm (mdV F A N D))).length = D.length + 16 := by rw [List.length_append, bt_len]; unfold ctO; rw [stN_lenM D (fun j_ y_ => ctS_len F1 D j_ y_)]; have := nbk_b D; omega
  have hl7 : (bt (mdV F A N D) 16 ++ ctO F1 D (cfm (mdV F A N D))).length ≤ 700 := by rw [lF]; omega
  refine R_aload_n (pc := 342) 1 dX12_use_342 rfl rfl ?_
  refine R_aload_n (pc := 343) 1 dX12_use_343 rfl rfl ?_
  refine R_get (pc := 344) dX12_use_344 fX12_44 Sd.obj (by omega) rfl ?_
  refine R_aload_n (pc := 347) 1 dX12_use_347 rfl rfl ?_
  refine R_get (pc := 348) dX12_use_348 fX12_153 Sd.obj (by omega) rfl ?_
  refine R_eqi (y := id 4) rfl ?_
  refine R_eqi (y := nI (bt (mdV F A N D) 16 ++ ctO F1 D (cfm (mdV F A N D))).length) (zd.trans (by rw [lF])) ?_
  refine R_callVh (pc := 351) (μ' := mX12_come) (As := [.ref 72, .int (nI (bt (mdV F A N D) 16 ++ ctO F1 D (cfm (mdV F A N D))).length)]) (st := []) dX12_use_351 zX12_come lX12_297 ⟨by decide, by decide⟩ rfl rfl ⟨by decide, by decide⟩ Sd.obj (by omega) rfl (Nat.le_of_ble_eq_true rfl) (oX12_come Sd hn (p := 72) rfl (by decide) (bt (mdV F A N D) 16 ++ ctO F1 D (cfm (mdV F A N D))).length hl7 hl7) (fun h_15 r_ q_16 => ?_)
  obtain ⟨rfl, Se, Fe⟩ := q_16
  have KF : FR [67, 68, 71, 72, 73, 74, 75, 76, 77, 78, 79, 80, 81, 82, 83, 84, 85, 86, 87, 88, 89, 90] ψ ψd := (Kc.tr Kd (by decide))
  exact R_ireturn (pc := 354) dX12_use_354 rfl (by decide) (by decide) ⟨rfl, _, _, rfl, Se, ⟨KF 62 (by decide), KF 65 (by decide), KF 66 (by decide)⟩, ⟨(Id 0 (by decide)), (Id 1 (by decide))⟩, ⟨sg.cp yF _ 0 rfl, ui_s _ _ _⟩, ((((Fa.tr Fb).tr Fc).tr Fd).tr Fe)⟩
set_option maxHeartbeats 1000000 in
set_option maxRecDepth 100000 in
theorem oX12_use_15o {l : Launch} {w : am_W} {h : am_H} {n : Nat} {ψ : Nat → oA} {z : fA} {i : mI} (S : MO h ψ z i) (hn : 90 ≤ n) (A N D : List (BitVec 8)) (mm m : Nat) (hA : A.length ≤ 256) (hN : N.length ≤ 64) (hD : D.length ≤ 512) (hmm : 4 ≤ mm) (hmm16 : mm ≤ 16) (hi1 : i 1 = nI mm) (hz0 : z 0 = nI (8 * m)) (hm : m = 4 ∨ m = 6 ∨ m = 8) (hz1 : z 1 = nI D.length) (hz2 : z 2 = nI N.length) (hz3 : z 3 = nI A.length) (s1 : sg (ψ 62) 512 D) (s2 : sg (ψ 62) 1024 N) (s3 : sg (ψ 62) 1536 A) (B : BitVec 8 → BitVec 8) (hB : ∀ v : BitVec 8, ψ 65 v.toNat = B v) {F G : bP → bP} (HK0 : ∀ ψ2, FR [67, 68, 71, 72, 73, 74, 75, 76, 77, 78, 79, 80, 81, 82, 83, 84, 85, 86, 87, 88, 89, 90] ψ ψ2 → exK ψ2 B 0 0 m → Kh ψ2 0 F G) {F1 G1 : bP → bP} (HK1 : ∀ ψ2, FR [67, 68, 71, 72, 73, 74, 75, 76, 77, 78, 79, 80, 81, 82, 83, 84, 85, 86, 87, 88, 89, 90] ψ ψ2 → exK ψ2 B 1 (4 * m) m → Kh ψ2 1 F1 G1) (hP : ftP 15 1 D.length N.length mm) : RH l w mX12_use h n [.ref 61, .int 15, .int 1] (uQ h ψ z i (if smI (mdV F A N (ctO F1 (sl D 16 (D.length - 16)) (cfm (rd D 0)))) (rd D 0) = 0 then -6 else nI (ctO F1 (sl D 16 (D.length - 16)) (cfm (rd D 0))).length) (if smI (mdV F A N (ctO F1 (sl D 16 (D.length - 16)) (cfm (rd D 0)))) (rd D 0) = 0 then none else some (ctO F1 (sl D 16 (D.length - 16)) (cfm (rd D 0))))) := by
  refine RC.of [(0, .ref 61), (1, .int 15), (2, .int 1)] (by decide +kernel) rfl (Nat.le_of_ble_eq_true rfl) ?_
  have hm8 : 4 ≤ m ∧ m ≤ 8 := by omega
  refine R_iload_n (pc := 0) 1 dX12_use_0 rfl rfl ?_
  refine R_iconst (pc := 1) (v := 1) dX12_use_1 (by decide) ?_
  refine R_bipush (pc := 2) (v := 16) dX12_use_2 (by decide) ?_
  refine R_callSp (pc := 4) (μ' := mX12_in) (As := [.int 15, .int 1, .int 16]) (st := []) dX12_use_4 zX12_in lX12_108 ⟨by decide, by decide⟩ rfl rfl ⟨by decide, by decide⟩ rfl (Nat.le_of_ble_eq_true rfl) (qX12_in l w _ _ _ _ _) ?_
  refine R_eqi (y := 1) (by decide) ?_
  refine R_if_ne (pc := 7) (tgt := 13) dX12_use_7 (by decide) (fun c_1 => ?_) (fun c_1 => absurd c_1 (by decide))
  refine R_aload_n (pc := 13) 0 dX12_use_13 rfl rfl ?_
  refine R_iload_n (pc := 14) 1 dX12_use_14 rfl rfl ?_
  refine R_bipush (pc := 15) (v := 9) dX12_use_15 (by decide) ?_
  refine R_icmp_eq (pc := 17) (tgt := 26) dX12_use_17 (by decide) (fun c_2 => absurd c_2 (by decide)) (fun c_2 => ?_)
  refine R_iload_n (pc := 20) 1 dX12_use_20 rfl rfl ?_
  refine R_bipush (pc := 21) (v := 15) dX12_use_21 (by decide) ?_
  refine R_icmp_ne (pc := 23) (tgt := 30) dX12_use_23 (by decide) (fun c_3 => absurd (rfl) c_3) (fun c_3 => ?_)
  refine R_iconst (pc := 26) (v := 1) dX12_use_26 (by decide) ?_
  refine R_goto (pc := 27) (tgt := 31) dX12_use_27 (by decide) ?_
  refine R_callVh (pc := 31) (μ' := mX12_hasKeys) (As := [.int 1]) (st := []) dX12_use_31 zX12_hasKeys lX12_250 ⟨by decide, by decide⟩ rfl rfl ⟨by decide, by decide⟩ S.obj (by omega) rfl (Nat.le_of_ble_eq_true rfl) (oX12_hasKeys_1 S hn m hz0 hm B hB) (fun h_4 r_ q_5 => ?_)
  obtain ⟨ψa, rfl, Sa, Ka, Ea, Fa⟩ := q_5
  refine R_if_ne (pc := 34) (tgt := 40) dX12_use_34 (by decide) (fun c_6 => ?_) (fun c_6 => absurd c_6 (by decide))
  refine R_aload_n (pc := 40) 0 dX12_use_40 rfl rfl ?_
  refine R_iload_n (pc := 41) 1 dX12_use_41 rfl rfl ?_
  refine R_iload_n (pc := 42) 2 dX12_use_42 rfl rfl ?_
  refine R_callVh (pc := 43) (μ' := mX12_fits) (As := [.int 15, .int 1]) (st := []) dX12_use_43 zX12_fits lX12_254 ⟨by decide, by decide⟩ rfl rfl ⟨by decide, by decide⟩ Sa.obj (by omega) rfl (Nat.le_of_ble_eq_true rfl) (oX12_fits_15o Sa hn D.length N.length mm hD hN (by omega) hz1 hz2 hi1 hP) (fun h_7 r_ q_8 => ?_)
  obtain ⟨rfl, Sb, Fb⟩ := q_8
  refine R_if_ne (pc := 46) (tgt := 52) dX12_use_46 (by decide) (fun c_9 => ?_) (fun c_9 => absurd c_9 (by decide))
  refine R_aload_n (pc := 52) 0 dX12_use_52 rfl rfl ?_
  refine R_callVh (pc := 53) (μ' := mX12_load) (As := []) (st := []) dX12_use_53 zX12_load lX12_258 ⟨by decide, by decide⟩ rfl rfl ⟨by decide, by decide⟩ Sb.obj (by omega) rfl (Nat.le_of_ble_eq_true rfl) (oX12_load Sb hn D.length N.length A.length hz1 hz2 hz3 hD hN hA) (fun h_10 r_ q_11 => ?_)
  obtain ⟨rfl, Sc, Fc⟩ := q_11
  obtain ⟨ψc, ec⟩ : ∃ x, x = (uo (uo (uo ψa 71 (cpB (ψa 62) 512 (ψa 71) 0 D.length)) 73 (cpB (ψa 62) 1024 (ψa 73) 0 N.length)) 74 (cpB (ψa 62) 1536 (ψa 74) 0 A.length)) := ⟨_, rfl⟩
  rw [← ec] at Sc
  have Kc : FR [67, 68, 71, 72, 73, 74, 75, 76, 77, 78, 79, 80, 81, 82, 83, 84, 85, 86, 87, 88, 89, 90] ψ ψc := by rw [ec]; exact (((((FR.rf _ _).tr Ka (by decide)).up (by decide)).up (by decide)).up (by decide))
  have e62 : ψa 62 = ψ 62 := Ka 62 (by decide)
  have sD : sg (ψc 71) 0 D := by rw [ec]; exact (show sg (ψa 62) 512 D by rw [e62]; exact s1).cp (ψa 71) 0 rfl
  have sN : sg (ψc 73) 0 N := by rw [ec]; exact (show sg (ψa 62) 1024 N by rw [e62]; exact s2).cp (ψa 73) 0 rfl
  have sA : sg (ψc 74) 0 A := by rw [ec]; exact (show sg (ψa 62) 1536 A by rw [e62]; exact s3).cp (ψa 74) 0 rfl
  have K0 : Kh ψc 0 F G := HK0 ψc Kc (by rw [ec]; exact Ea.1)
  have K1 : Kh ψc 1 F1 G1 := HK1 ψc Kc (by rw [ec]; exact Ea.2)
  refine R_iconst (pc := 56) (v := 0) dX12_use_56 (by decide) ?_
  refine R_istore_n (pc := 57) (lv' := [(3, .int 0), (0, .ref 61), (1, .int 15), (2, .int 1)]) dX12_use_57 rfl (by decide) rfl ?_
  refine R_iload_n (pc := 58) 2 dX12_use_58 rfl rfl ?_
  refine R_tableIn (pc := 59) (tgt := 318) dX12_use_59 (by decide) (by decide) rfl (by decide) ?_
  refine R_aload_n (pc := 318) 1 dX12_use_318 rfl rfl ?_
  refine R_iload_n (pc := 319) 3 dX12_use_319 rfl rfl ?_
  refine R_callVh (pc := 320) (μ' := mX12_siv) (As := [.int 1]) (st := []) dX12_use_320 zX12_siv lX12_290 ⟨by decide, by decide⟩ rfl rfl ⟨by decide, by decide⟩ Sc.obj (by omega) rfl (Nat.le_of_ble_eq_true rfl) (oX12_siv_o Sc hn A N D hA hN hD rfl rfl rfl sA sN sD K0 K1 hP) (fun h_12 r_ q_13 => ?_)
  obtain ⟨ψd, id, rfl, Sd, Id, zd, Kd, Yd, Fd⟩ := q_13
  refine R_istore_n (pc := 323) (lv' := [(3, .int (if smI (mdV F A N (ctO F1 (sl D 16 (D.length - 16)) (cfm (rd D 0)))) (rd D 0) = 0 then -6 else 0)), (0, .ref 61), (1, .int 15), (2, .int 1)]) dX12_use_323 rfl (by decide) rfl ?_
  refine R_goto (pc := 324) (tgt := 334) dX12_use_324 (by decide) ?_
  refine R_iload_n (pc := 334) 0 dX12_use_334 rfl rfl ?_
  refine R_if_ge (pc := 335) (tgt := 342) dX12_use_335 (by decide) (fun c_14 => ?_) (fun c_14 => ?_)
  · skip
    have hc := ifge1 c_14
    have yF : sg (ψd 72) 0 (ctO F1 (sl D 16 (D.length - 16)) (cfm (rd D 0))) := Yd
    have lF : (ctO F1 (sl D 16 (D.length - 16)) (cfm (rd D 0))).length = D.length - 16 := by unfold ctO; rw [stN_lenM (sl D 16 (D.length - 16)) (fun j_ y_ => ctS_len F1 _ j_ y_), sl_len]; have := nbk_b (sl D 16 (D.length - 16)); rw [sl_len] at this; omega
    have hl7 : (ctO F1 (sl D 16 (D.length - 16)) (cfm (rd D 0))).length ≤ 700 := by rw [lF]; omega
    refine R_aload_n (pc := 342) 1 dX12_use_342 rfl rfl ?_
    refine R_aload_n (pc := 343) 1 dX12_use_343 rfl rfl ?_
    refine R_get (pc := 344) dX12_use_344 fX12_44 Sd.obj (by omega) rfl ?_
    refine R_aload_n (pc := 347) 1 dX12_use_347 rfl rfl ?_
    refine R_get (pc := 348) dX12_use_348 fX12_153 Sd.obj (by omega) rfl ?_
    refine R_eqi (y := id 4) rfl ?_
    refine R_eqi (y := nI (ctO F1 (sl D 16 (D.length - 16)) (cfm (rd D 0))).length) (zd.trans (by rw [lF])) ?_
    refine R_callVh (pc := 351) (μ' := mX12_come) (As := [.ref 72, .int (nI (ctO F1 (sl D 16 (D.length - 16)) (cfm (rd D 0))).length)]) (st := []) dX12_use_351 zX12_come lX12_297 ⟨by decide, by decide⟩ rfl rfl ⟨by decide, by decide⟩ Sd.obj (by omega) rfl (Nat.le_of_ble_eq_true rfl) (oX12_come Sd hn (p := 72) rfl (by decide) (ctO F1 (sl D 16 (D.length - 16)) (cfm (rd D 0))).length hl7 hl7) (fun h_15 r_ q_16 => ?_)
    obtain ⟨rfl, Se, Fe⟩ := q_16
    have KF : FR [67, 68, 71, 72, 73, 74, 75, 76, 77, 78, 79, 80, 81, 82, 83, 84, 85, 86, 87, 88, 89, 90] ψ ψd := (Kc.tr Kd (by decide))
    rw [if_neg hc, if_neg hc, if_neg hc]
    exact R_ireturn (pc := 354) dX12_use_354 rfl (by decide) (by decide) ⟨rfl, _, _, rfl, Se, ⟨KF 62 (by decide), KF 65 (by decide), KF 66 (by decide)⟩, ⟨(Id 0 (by decide)), (Id 1 (by decide))⟩, ⟨sg.cp yF _ 0 rfl, ui_s _ _ _⟩, ((((Fa.tr Fb).tr Fc).tr Fd).tr Fe)⟩
  · skip
    refine R_iload_n (pc := 338) 0 dX12_use_338 rfl rfl ?_
    refine R_goto (pc := 339) (tgt := 354) dX12_use_339 (by decide) ?_
    have KF : FR [67, 68, 71, 72, 73, 74, 75, 76, 77, 78, 79, 80, 81, 82, 83, 84, 85, 86, 87, 88, 89, 90] ψ ψd := (Kc.tr Kd (by decide))
    have hc : smI (mdV F A N (ctO F1 (sl D 16 (D.length - 16)) (cfm (rd D 0)))) (rd D 0) = 0 := Decidable.not_not.mp (fun q_ => c_14 (by rw [if_neg q_]; decide))
    rw [if_pos hc, if_pos hc, if_pos hc]
    exact R_ireturn (pc := 354) dX12_use_354 rfl (by decide) (by decide) ⟨rfl, _, _, rfl, Sd, ⟨KF 62 (by decide), KF 65 (by decide), KF 66 (by decide)⟩, ⟨(Id 0 (by decide)), (Id 1 (by decide))⟩, ⟨KF 64 (by decide), (Id 2 (by decide))⟩, (((Fa.tr Fb).tr Fc).tr Fd)⟩
set_option maxHeartbeats 1000000 in
set_option maxRecDepth 100000 in
theorem oX12_use_12s {l : Launch} {w : am_W} {h : am_H} {n : Nat} {ψ : Nat → oA} {z : fA} {i : mI} (S : MO h ψ z i) (hn : 90 ≤ n) (A N D : List (BitVec 8)) (mm m : Nat) (hA : A.length ≤ 256) (hN : N.length ≤ 64) (hD : D.length ≤ 512) (hmm : 4 ≤ mm) (hmm16 : mm ≤ 16) (hi1 : i 1 = nI mm) (hz0 : z 0 = nI (4 * m)) (hm : m = 4 ∨ m = 6 ∨ m = 8) (hz1 : z 1 = nI D.length) (hz2 : z 2 = nI N.length) (hz3 : z 3 = nI A.length) (s1 : sg (ψ 62) 512 D) (s2 : sg (ψ 62) 1024 N) (s3 : sg (ψ 62) 1536 A) (B : BitVec 8 → BitVec 8) (hB : ∀ v : BitVec 8, ψ 65 v.toNat = B v) {F G : bP → bP} (HK0 : ∀ ψ2, FR [67, 68, 71, 72, 73, 74, 75, 76, 77, 78, 79, 80, 81, 82, 83, 84, 85, 86, 87, 88, 89, 90] ψ ψ2 → exK ψ2 B 0 0 m → Kh ψ2 0 F G) (hP : ftP 12 0 D.length N.length mm) : RH l w mX12_use h n [.ref 61, .int 12, .int 0] (uQ h ψ z i (nI ((gcO F D (gJ (F (0, 0)) N)) ++ bt (gTag F A (gcO F D (gJ (F (0, 0)) N)) D N) mm).length) (some ((gcO F D (gJ (F (0, 0)) N)) ++ bt (gTag F A (gcO F D (gJ (F (0, 0)) N)) D N) mm))) := by
  refine RC.of [(0, .ref 61), (1, .int 12), (2, .int 0)] (by decide +kernel) rfl (Nat.le_of_ble_eq_true rfl) ?_
  have hm8 : 4 ≤ m ∧ m ≤ 8 := by omega
  refine R_iload_n (pc := 0) 1 dX12_use_0 rfl rfl ?_
  refine R_iconst (pc := 1) (v := 1) dX12_use_1 (by decide) ?_
  refine R_bipush (pc := 2) (v := 16) dX12_use_2 (by decide) ?_
  refine R_callSp (pc := 4) (μ' := mX12_in) (As := [.int 12, .int 1, .int 16]) (st := []) dX12_use_4 zX12_in lX12_108 ⟨by decide, by decide⟩ rfl rfl ⟨by decide, by decide⟩ rfl (Nat.le_of_ble_eq_true rfl) (qX12_in l w _ _ _ _ _) ?_
  refine R_eqi (y := 1) (by decide) ?_
  refine R_if_ne (pc := 7) (tgt := 13) dX12_use_7 (by decide) (fun c_1 => ?_) (fun c_1 => absurd c_1 (by decide))
  refine R_aload_n (pc := 13) 0 dX12_use_13 rfl rfl ?_
  refine R_iload_n (pc := 14) 1 dX12_use_14 rfl rfl ?_
  refine R_bipush (pc := 15) (v := 9) dX12_use_15 (by decide) ?_
  refine R_icmp_eq (pc := 17) (tgt := 26) dX12_use_17 (by decide) (fun c_2 => absurd c_2 (by decide)) (fun c_2 => ?_)
  refine R_iload_n (pc := 20) 1 dX12_use_20 rfl rfl ?_
  refine R_bipush (pc := 21) (v := 15) dX12_use_21 (by decide) ?_
  refine R_icmp_ne (pc := 23) (tgt := 30) dX12_use_23 (by decide) (fun c_3 => ?_) (fun c_3 => absurd c_3 (by decide))
  refine R_iconst (pc := 30) (v := 0) dX12_use_30 (by decide) ?_
  refine R_callVh (pc := 31) (μ' := mX12_hasKeys) (As := [.int 0]) (st := []) dX12_use_31 zX12_hasKeys lX12_250 ⟨by decide, by decide⟩ rfl rfl ⟨by decide, by decide⟩ S.obj (by omega) rfl (Nat.le_of_ble_eq_true rfl) (oX12_hasKeys_0 S hn m hz0 hm B hB) (fun h_4 r_ q_5 => ?_)
  obtain ⟨ψa, rfl, Sa, Ka, Ea, Fa⟩ := q_5
  refine R_if_ne (pc := 34) (tgt := 40) dX12_use_34 (by decide) (fun c_6 => ?_) (fun c_6 => absurd c_6 (by decide))
  refine R_aload_n (pc := 40) 0 dX12_use_40 rfl rfl ?_
  refine R_iload_n (pc := 41) 1 dX12_use_41 rfl rfl ?_
  refine R_iload_n (pc := 42) 2 dX12_use_42 rfl rfl ?_
  refine R_callVh (pc := 43) (μ' := mX12_fits) (As := [.int 12, .int 0]) (st := []) dX12_use_43 zX12_fits lX12_254 ⟨by decide, by decide⟩ rfl rfl ⟨by decide, by decide⟩ Sa.obj (by omega) rfl (Nat.le_of_ble_eq_true rfl) (oX12_fits_12s Sa hn D.length N.length mm hD hN (by omega) hz1 hz2 hi1 hP) (fun h_7 r_ q_8 => ?_)
  obtain ⟨rfl, Sb, Fb⟩ := q_8
  refine R_if_ne (pc := 46) (tgt := 52) dX12_use_46 (by decide) (fun c_9 => ?_) (fun c_9 => absurd c_9 (by decide))
  refine R_aload_n (pc := 52) 0 dX12_use_52 rfl rfl ?_
  refine R_callVh (pc := 53) (μ' := mX12_load) (As := []) (st := []) dX12_use_53 zX12_load lX12_258 ⟨by decide, by decide⟩ rfl rfl ⟨by decide, by decide⟩ Sb.obj (by omega) rfl (Nat.le_of_ble_eq_true rfl) (oX12_load Sb hn D.length N.length A.length hz1 hz2 hz3 hD hN hA) (fun h_10 r_ q_11 => ?_)
  obtain ⟨rfl, Sc, Fc⟩ := q_11
  obtain ⟨ψc, ec⟩ : ∃ x, x = (uo (uo (uo ψa 71 (cpB (ψa 62) 512 (ψa 71) 0 D.length)) 73 (cpB (ψa 62) 1024 (ψa 73) 0 N.length)) 74 (cpB (ψa 62) 1536 (ψa 74) 0 A.length)) := ⟨_, rfl⟩
  rw [← ec] at Sc
  have Kc : FR [67, 68, 71, 72, 73, 74, 75, 76, 77, 78, 79, 80, 81, 82, 83, 84, 85, 86, 87, 88, 89, 90] ψ ψc := by rw [ec]; exact (((((FR.rf _ _).tr Ka (by decide)).up (by decide)).up (by decide)).up (by decide))
  have e62 : ψa 62 = ψ 62 := Ka 62 (by decide)
  have sD : sg (ψc 71) 0 D := by rw [ec]; exact (show sg (ψa 62) 512 D by rw [e62]; exact s1).cp (ψa 71) 0 rfl
  have sN : sg (ψc 73) 0 N := by rw [ec]; exact (show sg (ψa 62) 1024 N by rw [e62]; exact s2).cp (ψa 73) 0 rfl
  have sA : sg (ψc 74) 0 A := by rw [ec]; exact (show sg (ψa 62) 1536 A by rw [e62]; exact s3).cp (ψa 74) 0 rfl
  have K0 : Kh ψc 0 F G := HK0 ψc Kc (by rw [ec]; exact Ea)
  refine R_iconst (pc := 56) (v := 0) dX12_use_56 (by decide) ?_
  refine R_istore_n (pc := 57) (lv' := [(3, .int 0), (0, .ref 61), (1, .int 12), (2, .int 0)]) dX12_use_57 rfl (by decide) rfl ?_
  refine R_iload_n (pc := 58) 2 dX12_use_58 rfl rfl ?_
  refine R_tableIn (pc := 59) (tgt := 327) dX12_use_59 (by decide) (by decide) rfl (by decide) ?_
  refine R_aload_n (pc := 327) 1 dX12_use_327 rfl rfl ?_
  refine R_iload_n (pc := 328) 2 dX12_use_328 rfl rfl ?_
  refine R_iload_n (pc := 329) 3 dX12_use_329 rfl rfl ?_
  refine R_callVh (pc := 330) (μ' := mX12_tagged) (As := [.int 12, .int 0]) (st := []) dX12_use_330 zX12_tagged lX12_293 ⟨by decide, by decide⟩ rfl rfl ⟨by decide, by decide⟩ Sc.obj (by omega) rfl (Nat.le_of_ble_eq_true rfl) (oX12_tagged_12s Sc hn A N D mm hA hN hD hmm hmm16 hi1 rfl rfl rfl sA sN sD K0) (fun h_12 r_ q_13 => ?_)
  obtain ⟨ψd, id, rfl, Sd, Id, zd, Kd, Yd, Fd⟩ := q_13
  refine R_istore_n (pc := 333) (lv' := [(3, .int 0), (0, .ref 61), (1, .int 12), (2, .int 0)]) dX12_use_333 rfl (by decide) rfl ?_
  refine R_iload_n (pc := 334) 0 dX12_use_334 rfl rfl ?_
  refine R_if_ge (pc := 335) (tgt := 342) dX12_use_335 (by decide) (fun c_14 => ?_) (fun c_14 => absurd (by decide) c_14)
  have yF : sg (ψd 72) 0 ((gcO F D (gJ (F (0, 0)) N)) ++ bt (gTag F A (gcO F D (gJ (F (0, 0)) N)) D N) mm) := Yd
  have lF : ((gcO F D (gJ (F (0, 0)) N)) ++ bt (gTag F A (gcO F D (gJ (F (0, 0)) N)) D N) mm).length = D.length + mm := by rw [List.length_append, bt_len, show (gcO F D (gJ (F (0, 0)) N)).length = D.length from by unfold gcO; rw [stN_lenM D (fun j_ y_ => gcS_len F _ j_ y_)]; have := nbk_b D; omega]
  have hl7 : ((gcO F D (gJ (F (0, 0)) N)) ++ bt (gTag F A (gcO F D (gJ (F (0, 0)) N)) D N) mm).length ≤ 700 := by rw [lF]; omega
  refine R_aload_n (pc := 342) 1 dX12_use_342 rfl rfl ?_
  refine R_aload_n (pc := 343) 1 dX12_use_343 rfl rfl ?_
  refine R_get (pc := 344) dX12_use_344 fX12_44 Sd.obj (by omega) rfl ?_
  refine R_aload_n (pc := 347) 1 dX12_use_347 rfl rfl ?_
  refine R_get (pc := 348) dX12_use_348 fX12_153 Sd.obj (by omega) rfl ?_
  refine R_eqi (y := id 4) rfl ?_
  refine R_eqi (y := nI ((gcO F D (gJ (F (0, 0)) N)) ++ bt (gTag F A (gcO F D (gJ (F (0, 0)) N)) D N) mm).length) (zd.trans (by rw [lF])) ?_
  refine R_callVh (pc := 351) (μ' := mX12_come) (As := [.ref 72, .int (nI ((gcO F D (gJ (F (0, 0)) N)) ++ bt (gTag F A (gcO F D (gJ (F (0, 0)) N)) D N) mm).length)]) (st := []) dX12_use_351 zX12_come lX12_297 ⟨by decide, by decide⟩ rfl rfl ⟨by decide, by decide⟩ Sd.obj (by omega) rfl (Nat.le_of_ble_eq_true rfl) (oX12_come Sd hn (p := 72) rfl (by decide) ((gcO F D (gJ (F (0, 0)) N)) ++ bt (gTag F A (gcO F D (gJ (F (0, 0)) N)) D N) mm).length hl7 hl7) (fun h_15 r_ q_16 => ?_)
  obtain ⟨rfl, Se, Fe⟩ := q_16
  have KF : FR [67, 68, 71, 72, 73, 74, 75, 76, 77, 78, 79, 80, 81, 82, 83, 84, 85, 86, 87, 88, 89, 90] ψ ψd := (Kc.tr Kd (by decide))
  exact R_ireturn (pc := 354) dX12_use_354 rfl (by decide) (by decide) ⟨rfl, _, _, rfl, Se, ⟨KF 62 (by decide), KF 65 (by decide), KF 66 (by decide)⟩, ⟨(Id 0 (by decide)), (Id 1 (by decide))⟩, ⟨sg.cp yF _ 0 rfl, ui_s _ _ _⟩, ((((Fa.tr Fb).tr Fc).tr Fd).tr Fe)⟩
set_option maxHeartbeats 1000000 in
set_option maxRecDepth 100000 in
theorem oX12_use_12o {l : Launch} {w : am_W} {h : am_H} {n : Nat} {ψ : Nat → oA} {z : fA} {i : mI} (S : MO h ψ z i) (hn : 90 ≤ n) (A N D : List (BitVec 8)) (mm m : Nat) (hA : A.length ≤ 256) (hN : N.length ≤ 64) (hD : D.length ≤ 512) (hmm : 4 ≤ mm) (hmm16 : mm ≤ 16) (hi1 : i 1 = nI mm) (hz0 : z 0 = nI (4 * m)) (hm : m = 4 ∨ m = 6 ∨ m = 8) (hz1 : z 1 = nI D.length) (hz2 : z 2 = nI N.length) (hz3 : z 3 = nI A.length) (s1 : sg (ψ 62) 512 D) (s2 : sg (ψ 62) 1024 N) (s3 : sg (ψ 62) 1536 A) (B : BitVec 8 → BitVec 8) (hB : ∀ v : BitVec 8, ψ 65 v.toNat = B v) {F G : bP → bP} (HK0 : ∀ ψ2, FR [67, 68, 71, 72, 73, 74, 75, 76, 77, 78, 79, 80, 81, 82, 83, 84, 85, 86, 87, 88, 89, 90] ψ ψ2 → exK ψ2 B 0 0 m → Kh ψ2 0 F G) (hP : ftP 12 1 D.length N.length mm) : RH l w mX12_use h n [.ref 61, .int 12, .int 1] (uQ h ψ z i (if smI (kf (gTag F A (sl D 0 (D.length - mm)) (sl D 0 (D.length - mm)) N) (nI mm)) (rd D (D.length - mm)) = 0 then -6 else nI (gcO F (sl D 0 (D.length - mm)) (gJ (F (0, 0)) N)).length) (if smI (kf (gTag F A (sl D 0 (D.length - mm)) (sl D 0 (D.length - mm)) N) (nI mm)) (rd D (D.length - mm)) = 0 then none else some (gcO F (sl D 0 (D.length - mm)) (gJ (F (0, 0)) N)))) := by
  refine RC.of [(0, .ref 61), (1, .int 12), (2, .int 1)] (by decide +kernel) rfl (Nat.le_of_ble_eq_true rfl) ?_
  have hm8 : 4 ≤ m ∧ m ≤ 8 := by omega
  refine R_iload_n (pc := 0) 1 dX12_use_0 rfl rfl ?_
  refine R_iconst (pc := 1) (v := 1) dX12_use_1 (by decide) ?_
  refine R_bipush (pc := 2) (v := 16) dX12_use_2 (by decide) ?_
  refine R_callSp (pc := 4) (μ' := mX12_in) (As := [.int 12, .int 1, .int 16]) (st := []) dX12_use_4 zX12_in lX12_108 ⟨by decide, by decide⟩ rfl rfl ⟨by decide, by decide⟩ rfl (Nat.le_of_ble_eq_true rfl) (qX12_in l w _ _ _ _ _) ?_
  refine R_eqi (y := 1) (by decide) ?_
  refine R_if_ne (pc := 7) (tgt := 13) dX12_use_7 (by decide) (fun c_1 => ?_) (fun c_1 => absurd c_1 (by decide))
  refine R_aload_n (pc := 13) 0 dX12_use_13 rfl rfl ?_
  refine R_iload_n (pc := 14) 1 dX12_use_14 rfl rfl ?_
  refine R_bipush (pc := 15) (v := 9) dX12_use_15 (by decide) ?_
  refine R_icmp_eq (pc := 17) (tgt := 26) dX12_use_17 (by decide) (fun c_2 => absurd c_2 (by decide)) (fun c_2 => ?_)
  refine R_iload_n (pc := 20) 1 dX12_use_20 rfl rfl ?_
  refine R_bipush (pc := 21) (v := 15) dX12_use_21 (by decide) ?_
  refine R_icmp_ne (pc := 23) (tgt := 30) dX12_use_23 (by decide) (fun c_3 => ?_) (fun c_3 => absurd c_3 (by decide))
  refine R_iconst (pc := 30) (v := 0) dX12_use_30 (by decide) ?_
  refine R_callVh (pc := 31) (μ' := mX12_hasKeys) (As := [.int 0]) (st := []) dX12_use_31 zX12_hasKeys lX12_250 ⟨by decide, by decide⟩ rfl rfl ⟨by decide, by decide⟩ S.obj (by omega) rfl (Nat.le_of_ble_eq_true rfl) (oX12_hasKeys_0 S hn m hz0 hm B hB) (fun h_4 r_ q_5 => ?_)
  obtain ⟨ψa, rfl, Sa, Ka, Ea, Fa⟩ := q_5
  refine R_if_ne (pc := 34) (tgt := 40) dX12_use_34 (by decide) (fun c_6 => ?_) (fun c_6 => absurd c_6 (by decide))
  refine R_aload_n (pc := 40) 0 dX12_use_40 rfl rfl ?_
  refine R_iload_n (pc := 41) 1 dX12_use_41 rfl rfl ?_
  refine R_iload_n (pc := 42) 2 dX12_use_42 rfl rfl ?_
  refine R_callVh (pc := 43) (μ' := mX12_fits) (As := [.int 12, .int 1]) (st := []) dX12_use_43 zX12_fits lX12_254 ⟨by decide, by decide⟩ rfl rfl ⟨by decide, by decide⟩ Sa.obj (by omega) rfl (Nat.le_of_ble_eq_true rfl) (oX12_fits_12o Sa hn D.length N.length mm hD hN (by omega) hz1 hz2 hi1 hP) (fun h_7 r_ q_8 => ?_)
  obtain ⟨rfl, Sb, Fb⟩ := q_8
  refine R_if_ne (pc := 46) (tgt := 52) dX12_use_46 (by decide) (fun c_9 => ?_) (fun c_9 => absurd c_9 (by decide))
  refine R_aload_n (pc := 52) 0 dX12_use_52 rfl rfl ?_
  refine R_callVh (pc := 53) (μ' := mX12_load) (As := []) (st := []) dX12_use_53 zX12_load lX12_258 ⟨by decide, by decide⟩ rfl rfl ⟨by decide, by decide⟩ Sb.obj (by omega) rfl (Nat.le_of_ble_eq_true rfl) (oX12_load Sb hn D.length N.length A.length hz1 hz2 hz3 hD hN hA) (fun h_10 r_ q_11 => ?_)
  obtain ⟨rfl, Sc, Fc⟩ := q_11
  obtain ⟨ψc, ec⟩ : ∃ x, x = (uo (uo (uo ψa 71 (cpB (ψa 62) 512 (ψa 71) 0 D.length)) 73 (cpB (ψa 62) 1024 (ψa 73) 0 N.length)) 74 (cpB (ψa 62) 1536 (ψa 74) 0 A.length)) := ⟨_, rfl⟩
  rw [← ec] at Sc
  have Kc : FR [67, 68, 71, 72, 73, 74, 75, 76, 77, 78, 79, 80, 81, 82, 83, 84, 85, 86, 87, 88, 89, 90] ψ ψc := by rw [ec]; exact (((((FR.rf _ _).tr Ka (by decide)).up (by decide)).up (by decide)).up (by decide))
  have e62 : ψa 62 = ψ 62 := Ka 62 (by decide)
  have sD : sg (ψc 71) 0 D := by rw [ec]; exact (show sg (ψa 62) 512 D by rw [e62]; exact s1).cp (ψa 71) 0 rfl
  have sN : sg (ψc 73) 0 N := by rw [ec]; exact (show sg (ψa 62) 1024 N by rw [e62]; exact s2).cp (ψa 73) 0 rfl
  have sA : sg (ψc 74) 0 A := by rw [ec]; exact (show sg (ψa 62) 1536 A by rw [e62]; exact s3).cp (ψa 74) 0 rfl
  have K0 : Kh ψc 0 F G := HK0 ψc Kc (by rw [ec]; exact Ea)
  refine R_iconst (pc := 56) (v := 0) dX12_use_56 (by decide) ?_
  refine R_istore_n (pc := 57) (lv' := [(3, .int 0), (0, .ref 61), (1, .int 12), (2, .int 1)]) dX12_use_57 rfl (by decide) rfl ?_
  refine R_iload_n (pc := 58) 2 dX12_use_58 rfl rfl ?_
  refine R_tableIn (pc := 59) (tgt := 327) dX12_use_59 (by decide) (by decide) rfl (by decide) ?_
  refine R_aload_n (pc := 327) 1 dX12_use_327 rfl rfl ?_
  refine R_iload_n (pc := 328) 2 dX12_use_328 rfl rfl ?_
  refine R_iload_n (pc := 329) 3 dX12_use_329 rfl rfl ?_
  refine R_callVh (pc := 330) (μ' := mX12_tagged) (As := [.int 12, .int 1]) (st := []) dX12_use_330 zX12_tagged lX12_293 ⟨by decide, by decide⟩ rfl rfl ⟨by decide, by decide⟩ Sc.obj (by omega) rfl (Nat.le_of_ble_eq_true rfl) (oX12_tagged_12o Sc hn A N D mm hA hN hD hmm hmm16 hi1 rfl rfl rfl sA sN sD K0 hP.2) (fun h_12 r_ q_13 => ?_)
  obtain ⟨ψd, id, rfl, Sd, Id, zd, Kd, Yd, Fd⟩ := q_13
  refine R_istore_n (pc := 333) (lv' := [(3, .int (if smI (kf (gTag F A (sl D 0 (D.length - mm)) (sl D 0 (D.length - mm)) N) (nI mm)) (rd D (D.length - mm)) = 0 then -6 else 0)), (0, .ref 61), (1, .int 12), (2, .int 1)]) dX12_use_333 rfl (by decide) rfl ?_
  refine R_iload_n (pc := 334) 0 dX12_use_334 rfl rfl ?_
  refine R_if_ge (pc := 335) (tgt := 342) dX12_use_335 (by decide) (fun c_14 => ?_) (fun c_14 => ?_)
  · skip
    have hc := ifge1 c_14
    have yF : sg (ψd 72) 0 (gcO F (sl D 0 (D.length - mm)) (gJ (F (0, 0)) N)) := Yd
    have lF : (gcO F (sl D 0 (D.length - mm)) (gJ (F (0, 0)) N)).length = D.length - mm := (show (gcO F (sl D 0 (D.length - mm)) (gJ (F (0, 0)) N)).length = (sl D 0 (D.length - mm)).length from by unfold gcO; rw [stN_lenM (sl D 0 (D.length - mm)) (fun j_ y_ => gcS_len F _ j_ y_)]; have := nbk_b (sl D 0 (D.length - mm)); omega).trans (sl_len _ _ _)
    have hl7 : (gcO F (sl D 0 (D.length - mm)) (gJ (F (0, 0)) N)).length ≤ 700 := by rw [lF]; omega
    refine R_aload_n (pc := 342) 1 dX12_use_342 rfl rfl ?_
    refine R_aload_n (pc := 343) 1 dX12_use_343 rfl rfl ?_
    refine R_get (pc := 344) dX12_use_344 fX12_44 Sd.obj (by omega) rfl ?_
    refine R_aload_n (pc := 347) 1 dX12_use_347 rfl rfl ?_
    refine R_get (pc := 348) dX12_use_348 fX12_153 Sd.obj (by omega) rfl ?_
    refine R_eqi (y := id 4) rfl ?_
    refine R_eqi (y := nI (gcO F (sl D 0 (D.length - mm)) (gJ (F (0, 0)) N)).length) (zd.trans (by rw [lF])) ?_
    refine R_callVh (pc := 351) (μ' := mX12_come) (As := [.ref 72, .int (nI (gcO F (sl D 0 (D.length - mm)) (gJ (F (0, 0)) N)).length)]) (st := []) dX12_use_351 zX12_come lX12_297 ⟨by decide, by decide⟩ rfl rfl ⟨by decide, by decide⟩ Sd.obj (by omega) rfl (Nat.le_of_ble_eq_true rfl) (oX12_come Sd hn (p := 72) rfl (by decide) (gcO F (sl D 0 (D.length - mm)) (gJ (F (0, 0)) N)).length hl7 hl7) (fun h_15 r_ q_16 => ?_)
    obtain ⟨rfl, Se, Fe⟩ := q_16
    have KF : FR [67, 68, 71, 72, 73, 74, 75, 76, 77, 78, 79, 80, 81, 82, 83, 84, 85, 86, 87, 88, 89, 90] ψ ψd := (Kc.tr Kd (by decide))
    rw [if_neg hc, if_neg hc, if_neg hc]
    exact R_ireturn (pc := 354) dX12_use_354 rfl (by decide) (by decide) ⟨rfl, _, _, rfl, Se, ⟨KF 62 (by decide), KF 65 (by decide), KF 66 (by decide)⟩, ⟨(Id 0 (by decide)), (Id 1 (by decide))⟩, ⟨sg.cp yF _ 0 rfl, ui_s _ _ _⟩, ((((Fa.tr Fb).tr Fc).tr Fd).tr Fe)⟩
  · skip
    refine R_iload_n (pc := 338) 0 dX12_use_338 rfl rfl ?_
    refine R_goto (pc := 339) (tgt := 354) dX12_use_339 (by decide) ?_
    have KF : FR [67, 68, 71, 72, 73, 74, 75, 76, 77, 78, 79, 80, 81, 82, 83, 84, 85, 86, 87, 88, 89, 90] ψ ψd := (Kc.tr Kd (by decide))
    have hc : smI (kf (gTag F A (sl D 0 (D.length - mm)) (sl D 0 (D.length - mm)) N) (nI mm)) (rd D (D.length - mm)) = 0 := Decidable.not_not.mp (fun q_ => c_14 (by rw [if_neg q_]; decide))
    rw [if_pos hc, if_pos hc, if_pos hc]
    exact R_ireturn (pc := 354) dX12_use_354 rfl (by decide) (by decide) ⟨rfl, _, _, rfl, Sd, ⟨KF 62 (by decide), KF 65 (by decide), KF 66 (by decide)⟩, ⟨(Id 0 (by decide)), (Id 1 (by decide))⟩, ⟨KF 64 (by decide), (Id 2 (by decide))⟩, (((Fa.tr Fb).tr Fc).tr Fd)⟩
set_option maxHeartbeats 1000000 in
set_option maxRecDepth 100000 in
theorem oX12_use_13s {l : Launch} {w : am_W} {h : am_H} {n : Nat} {ψ : Nat → oA} {z : fA} {i : mI} (S : MO h ψ z i) (hn : 90 ≤ n) (A N D : List (BitVec 8)) (mm m : Nat) (hA : A.length ≤ 256) (hN : N.length ≤ 64) (hD : D.length ≤ 512) (hmm : 4 ≤ mm) (hmm16 : mm ≤ 16) (hi1 : i 1 = nI mm) (hz0 : z 0 = nI (4 * m)) (hm : m = 4 ∨ m = 6 ∨ m = 8) (hz1 : z 1 = nI D.length) (hz2 : z 2 = nI N.length) (hz3 : z 3 = nI A.length) (s1 : sg (ψ 62) 512 D) (s2 : sg (ψ 62) 1024 N) (s3 : sg (ψ 62) 1536 A) (B : BitVec 8 → BitVec 8) (hB : ∀ v : BitVec 8, ψ 65 v.toNat = B v) {F G : bP → bP} (HK0 : ∀ ψ2, FR [67, 68, 71, 72, 73, 74, 75, 76, 77, 78, 79, 80, 81, 82, 83, 84, 85, 86, 87, 88, 89, 90] ψ ψ2 → exK ψ2 B 0 0 m → Kh ψ2 0 F G) (hP : ftP 13 0 D.length N.length mm) : RH l w mX12_use h n [.ref 61, .int 13, .int 0] (uQ h ψ z i (nI ((ctO F D (one1 (cnB N (15 - N.length)))) ++ bt (cnT F A N D (15 - N.length) mm) mm).length) (some ((ctO F D (one1 (cnB N (15 - N.length)))) ++ bt (cnT F A N D (15 - N.length) mm) mm))) := by
  refine RC.of [(0, .ref 61), (1, .int 13), (2, .int 0)] (by decide +kernel) rfl (Nat.le_of_ble_eq_true rfl) ?_
  have hm8 : 4 ≤ m ∧ m ≤ 8 := by omega
  refine R_iload_n (pc := 0) 1 dX12_use_0 rfl rfl ?_
  refine R_iconst (pc := 1) (v := 1) dX12_use_1 (by decide) ?_
  refine R_bipush (pc := 2) (v := 16) dX12_use_2 (by decide) ?_
  refine R_callSp (pc := 4) (μ' := mX12_in) (As := [.int 13, .int 1, .int 16]) (st := []) dX12_use_4 zX12_in lX12_108 ⟨by decide, by decide⟩ rfl rfl ⟨by decide, by decide⟩ rfl (Nat.le_of_ble_eq_true rfl) (qX12_in l w _ _ _ _ _) ?_
  refine R_eqi (y := 1) (by decide) ?_
  refine R_if_ne (pc := 7) (tgt := 13) dX12_use_7 (by decide) (fun c_1 => ?_) (fun c_1 => absurd c_1 (by decide))
  refine R_aload_n (pc := 13) 0 dX12_use_13 rfl rfl ?_
  refine R_iload_n (pc := 14) 1 dX12_use_14 rfl rfl ?_
  refine R_bipush (pc := 15) (v := 9) dX12_use_15 (by decide) ?_
  refine R_icmp_eq (pc := 17) (tgt := 26) dX12_use_17 (by decide) (fun c_2 => absurd c_2 (by decide)) (fun c_2 => ?_)
  refine R_iload_n (pc := 20) 1 dX12_use_20 rfl rfl ?_
  refine R_bipush (pc := 21) (v := 15) dX12_use_21 (by decide) ?_
  refine R_icmp_ne (pc := 23) (tgt := 30) dX12_use_23 (by decide) (fun c_3 => ?_) (fun c_3 => absurd c_3 (by decide))
  refine R_iconst (pc := 30) (v := 0) dX12_use_30 (by decide) ?_
  refine R_callVh (pc := 31) (μ' := mX12_hasKeys) (As := [.int 0]) (st := []) dX12_use_31 zX12_hasKeys lX12_250 ⟨by decide, by decide⟩ rfl rfl ⟨by decide, by decide⟩ S.obj (by omega) rfl (Nat.le_of_ble_eq_true rfl) (oX12_hasKeys_0 S hn m hz0 hm B hB) (fun h_4 r_ q_5 => ?_)
  obtain ⟨ψa, rfl, Sa, Ka, Ea, Fa⟩ := q_5
  refine R_if_ne (pc := 34) (tgt := 40) dX12_use_34 (by decide) (fun c_6 => ?_) (fun c_6 => absurd c_6 (by decide))
  refine R_aload_n (pc := 40) 0 dX12_use_40 rfl rfl ?_
  refine R_iload_n (pc := 41) 1 dX12_use_41 rfl rfl ?_
  refine R_iload_n (pc := 42) 2 dX12_use_42 rfl rfl ?_
  refine R_callVh (pc := 43) (μ' := mX12_fits) (As := [.int 13, .int 0]) (st := []) dX12_use_43 zX12_fits lX12_254 ⟨by decide, by decide⟩ rfl rfl ⟨by decide, by decide⟩ Sa.obj (by omega) rfl (Nat.le_of_ble_eq_true rfl) (oX12_fits_13s Sa hn D.length N.length mm hD hN (by omega) hz1 hz2 hi1 hP) (fun h_7 r_ q_8 => ?_)
  obtain ⟨rfl, Sb, Fb⟩ := q_8
  refine R_if_ne (pc := 46) (tgt := 52) dX12_use_46 (by decide) (fun c_9 => ?_) (fun c_9 => absurd c_9 (by decide))
  refine R_aload_n (pc := 52) 0 dX12_use_52 rfl rfl ?_
  refine R_callVh (pc := 53) (μ' := mX12_load) (As := []) (st := []) dX12_use_53 zX12_load lX12_258 ⟨by decide, by decide⟩ rfl rfl ⟨by decide, by decide⟩ Sb.obj (by omega) rfl (Nat.le_of_ble_eq_true rfl) (oX12_load Sb hn D.length N.length A.length hz1 hz2 hz3 hD hN hA) (fun h_10 r_ q_11 => ?_)
  obtain ⟨rfl, Sc, Fc⟩ := q_11
  obtain ⟨ψc, ec⟩ : ∃ x, x = (uo (uo (uo ψa 71 (cpB (ψa 62) 512 (ψa 71) 0 D.length)) 73 (cpB (ψa 62) 1024 (ψa 73) 0 N.length)) 74 (cpB (ψa 62) 1536 (ψa 74) 0 A.length)) := ⟨_, rfl⟩
  rw [← ec] at Sc
  have Kc : FR [67, 68, 71, 72, 73, 74, 75, 76, 77, 78, 79, 80, 81, 82, 83, 84, 85, 86, 87, 88, 89, 90] ψ ψc := by rw [ec]; exact (((((FR.rf _ _).tr Ka (by decide)).up (by decide)).up (by decide)).up (by decide))
  have e62 : ψa 62 = ψ 62 := Ka 62 (by decide)
  have sD : sg (ψc 71) 0 D := by rw [ec]; exact (show sg (ψa 62) 512 D by rw [e62]; exact s1).cp (ψa 71) 0 rfl
  have sN : sg (ψc 73) 0 N := by rw [ec]; exact (show sg (ψa 62) 1024 N by rw [e62]; exact s2).cp (ψa 73) 0 rfl
  have sA : sg (ψc 74) 0 A := by rw [ec]; exact (show sg (ψa 62) 1536 A by rw [e62]; exact s3).cp (ψa 74) 0 rfl
  have K0 : Kh ψc 0 F G := HK0 ψc Kc (by rw [ec]; exact Ea)
  refine R_iconst (pc := 56) (v := 0) dX12_use_56 (by decide) ?_
  refine R_istore_n (pc := 57) (lv' := [(3, .int 0), (0, .ref 61), (1, .int 13), (2, .int 0)]) dX12_use_57 rfl (by decide) rfl ?_
  refine R_iload_n (pc := 58) 2 dX12_use_58 rfl rfl ?_
  refine R_tableIn (pc := 59) (tgt := 327) dX12_use_59 (by decide) (by decide) rfl (by decide) ?_
  refine R_aload_n (pc := 327) 1 dX12_use_327 rfl rfl ?_
  refine R_iload_n (pc := 328) 2 dX12_use_328 rfl rfl ?_
  refine R_iload_n (pc := 329) 3 dX12_use_329 rfl rfl ?_
  refine R_callVh (pc := 330) (μ' := mX12_tagged) (As := [.int 13, .int 0]) (st := []) dX12_use_330 zX12_tagged lX12_293 ⟨by decide, by decide⟩ rfl rfl ⟨by decide, by decide⟩ Sc.obj (by omega) rfl (Nat.le_of_ble_eq_true rfl) (oX12_tagged_13s Sc hn A N D mm hA hN hD hmm hmm16 hi1 rfl rfl rfl sA sN sD K0 (by have := hP.1; omega) (by have := hP.1; omega)) (fun h_12 r_ q_13 => ?_)
  obtain ⟨ψd, id, rfl, Sd, Id, zd, Kd, Yd, Fd⟩ := q_13
  refine R_istore_n (pc := 333) (lv' := [(3, .int 0), (0, .ref 61), (1, .int 13), (2, .int 0)]) dX12_use_333 rfl (by decide) rfl ?_
  refine R_iload_n (pc := 334) 0 dX12_use_334 rfl rfl ?_
  refine R_if_ge (pc := 335) (tgt := 342) dX12_use_335 (by decide) (fun c_14 => ?_) (fun c_14 => absurd (by decide) c_14)
  have yF : sg (ψd 72) 0 ((ctO F D (one1 (cnB N (15 - N.length)))) ++ bt (cnT F A N D (15 - N.length) mm) mm) := Yd
  have lF : ((ctO F D (one1 (cnB N (15 - N.length)))) ++ bt (cnT F A N D (15 - N.length) mm) mm).length = D.length + mm := by rw [List.length_append, bt_len, show (ctO F D (one1 (cnB N (15 - N.length)))).length = D.length from by unfold ctO; rw [stN_lenM D (fun j_ y_ => ctS_len F _ j_ y_)]; have := nbk_b D; omega]
  have hl7 : ((ctO F D (one1 (cnB N (15 - N.length)))) ++ bt (cnT F A N D (15 - N.length) mm) mm).length ≤ 700 := by rw [lF]; omega
  refine R_aload_n (pc := 342) 1 dX12_use_342 rfl rfl ?_
  refine R_aload_n (pc := 343) 1 dX12_use_343 rfl rfl ?_
  refine R_get (pc := 344) dX12_use_344 fX12_44 Sd.obj (by omega) rfl ?_
  refine R_aload_n (pc := 347) 1 dX12_use_347 rfl rfl ?_
  refine R_get (pc := 348) dX12_use_348 fX12_153 Sd.obj (by omega) rfl ?_
  refine R_eqi (y := id 4) rfl ?_
  refine R_eqi (y := nI ((ctO F D (one1 (cnB N (15 - N.length)))) ++ bt (cnT F A N D (15 - N.length) mm) mm).length) (zd.trans (by rw [lF])) ?_
  refine R_callVh (pc := 351) (μ' := mX12_come) (As := [.ref 72, .int (nI ((ctO F D (one1 (cnB N (15 - N.length)))) ++ bt (cnT F A N D (15 - N.length) mm) mm).length)]) (st := []) dX12_use_351 zX12_come lX12_297 ⟨by decide, by decide⟩ rfl rfl ⟨by decide, by decide⟩ Sd.obj (by omega) rfl (Nat.le_of_ble_eq_true rfl) (oX12_come Sd hn (p := 72) rfl (by decide) ((ctO F D (one1 (cnB N (15 - N.length)))) ++ bt (cnT F A N D (15 - N.length) mm) mm).length hl7 hl7) (fun h_15 r_ q_16 => ?_)
  obtain ⟨rfl, Se, Fe⟩ := q_16
  have KF : FR [67, 68, 71, 72, 73, 74, 75, 76, 77, 78, 79, 80, 81, 82, 83, 84, 85, 86, 87, 88, 89, 90] ψ ψd := (Kc.tr Kd (by decide))
  exact R_ireturn (pc := 354) dX12_use_354 rfl (by decide) (by decide) ⟨rfl, _, _, rfl, Se, ⟨KF 62 (by decide), KF 65 (by decide), KF 66 (by decide)⟩, ⟨(Id 0 (by decide)), (Id 1 (by decide))⟩, ⟨sg.cp yF _ 0 rfl, ui_s _ _ _⟩, ((((Fa.tr Fb).tr Fc).tr Fd).tr Fe)⟩
set_option maxHeartbeats 1000000 in
set_option maxRecDepth 100000 in
theorem oX12_use_13o {l : Launch} {w : am_W} {h : am_H} {n : Nat} {ψ : Nat → oA} {z : fA} {i : mI} (S : MO h ψ z i) (hn : 90 ≤ n) (A N D : List (BitVec 8)) (mm m : Nat) (hA : A.length ≤ 256) (hN : N.length ≤ 64) (hD : D.length ≤ 512) (hmm : 4 ≤ mm) (hmm16 : mm ≤ 16) (hi1 : i 1 = nI mm) (hz0 : z 0 = nI (4 * m)) (hm : m = 4 ∨ m = 6 ∨ m = 8) (hz1 : z 1 = nI D.length) (hz2 : z 2 = nI N.length) (hz3 : z 3 = nI A.length) (s1 : sg (ψ 62) 512 D) (s2 : sg (ψ 62) 1024 N) (s3 : sg (ψ 62) 1536 A) (B : BitVec 8 → BitVec 8) (hB : ∀ v : BitVec 8, ψ 65 v.toNat = B v) {F G : bP → bP} (HK0 : ∀ ψ2, FR [67, 68, 71, 72, 73, 74, 75, 76, 77, 78, 79, 80, 81, 82, 83, 84, 85, 86, 87, 88, 89, 90] ψ ψ2 → exK ψ2 B 0 0 m → Kh ψ2 0 F G) (hP : ftP 13 1 D.length N.length mm) : RH l w mX12_use h n [.ref 61, .int 13, .int 1] (uQ h ψ z i (if smI (kf (cnT F A N (ctO F (sl D 0 (D.length - mm)) (one1 (cnB N (15 - N.length)))) (15 - N.length) mm) (nI mm)) (rd D (D.length - mm)) = 0 then -6 else nI (ctO F (sl D 0 (D.length - mm)) (one1 (cnB N (15 - N.length)))).length) (if smI (kf (cnT F A N (ctO F (sl D 0 (D.length - mm)) (one1 (cnB N (15 - N.length)))) (15 - N.length) mm) (nI mm)) (rd D (D.length - mm)) = 0 then none else some (ctO F (sl D 0 (D.length - mm)) (one1 (cnB N (15 - N.length)))))) := by
  refine RC.of [(0, .ref 61), (1, .int 13), (2, .int 1)] (by decide +kernel) rfl (Nat.le_of_ble_eq_true rfl) ?_
  have hm8 : 4 ≤ m ∧ m ≤ 8 := by omega
  refine R_iload_n (pc := 0) 1 dX12_use_0 rfl rfl ?_
  refine R_iconst (pc := 1) (v := 1) dX12_use_1 (by decide) ?_
  refine R_bipush (pc := 2) (v := 16) dX12_use_2 (by decide) ?_
  refine R_callSp (pc := 4) (μ' := mX12_in) (As := [.int 13, .int 1, .int 16]) (st := []) dX12_use_4 zX12_in lX12_108 ⟨by decide, by decide⟩ rfl rfl ⟨by decide, by decide⟩ rfl (Nat.le_of_ble_eq_true rfl) (qX12_in l w _ _ _ _ _) ?_
  refine R_eqi (y := 1) (by decide) ?_
  refine R_if_ne (pc := 7) (tgt := 13) dX12_use_7 (by decide) (fun c_1 => ?_) (fun c_1 => absurd c_1 (by decide))
  refine R_aload_n (pc := 13) 0 dX12_use_13 rfl rfl ?_
  refine R_iload_n (pc := 14) 1 dX12_use_14 rfl rfl ?_
  refine R_bipush (pc := 15) (v := 9) dX12_use_15 (by decide) ?_
  refine R_icmp_eq (pc := 17) (tgt := 26) dX12_use_17 (by decide) (fun c_2 => absurd c_2 (by decide)) (fun c_2 => ?_)
  refine R_iload_n (pc := 20) 1 dX12_use_20 rfl rfl ?_
  refine R_bipush (pc := 21) (v := 15) dX12_use_21 (by decide) ?_
  refine R_icmp_ne (pc := 23) (tgt := 30) dX12_use_23 (by decide) (fun c_3 => ?_) (fun c_3 => absurd c_3 (by decide))
  refine R_iconst (pc := 30) (v := 0) dX12_use_30 (by decide) ?_
  refine R_callVh (pc := 31) (μ' := mX12_hasKeys) (As := [.int 0]) (st := []) dX12_use_31 zX12_hasKeys lX12_250 ⟨by decide, by decide⟩ rfl rfl ⟨by decide, by decide⟩ S.obj (by omega) rfl (Nat.le_of_ble_eq_true rfl) (oX12_hasKeys_0 S hn m hz0 hm B hB) (fun h_4 r_ q_5 => ?_)
  obtain ⟨ψa, rfl, Sa, Ka, Ea, Fa⟩ := q_5
  refine R_if_ne (pc := 34) (tgt := 40) dX12_use_34 (by decide) (fun c_6 => ?_) (fun c_6 => absurd c_6 (by decide))
  refine R_aload_n (pc := 40) 0 dX12_use_40 rfl rfl ?_
  refine R_iload_n (pc := 41) 1 dX12_use_41 rfl rfl ?_
  refine R_iload_n (pc := 42) 2 dX12_use_42 rfl rfl ?_
  refine R_callVh (pc := 43) (μ' := mX12_fits) (As := [.int 13, .int 1]) (st := []) dX12_use_43 zX12_fits lX12_254 ⟨by decide, by decide⟩ rfl rfl ⟨by decide, by decide⟩ Sa.obj (by omega) rfl (Nat.le_of_ble_eq_true rfl) (oX12_fits_13o Sa hn D.length N.length mm hD hN (by omega) hz1 hz2 hi1 hP) (fun h_7 r_ q_8 => ?_)
  obtain ⟨rfl, Sb, Fb⟩ := q_8
  refine R_if_ne (pc := 46) (tgt := 52) dX12_use_46 (by decide) (fun c_9 => ?_) (fun c_9 => absurd c_9 (by decide))
  refine R_aload_n (pc := 52) 0 dX12_use_52 rfl rfl ?_
  refine R_callVh (pc := 53) (μ' := mX12_load) (As := []) (st := []) dX12_use_53 zX12_load lX12_258 ⟨by decide, by decide⟩ rfl rfl ⟨by decide, by decide⟩ Sb.obj (by omega) rfl (Nat.le_of_ble_eq_true rfl) (oX12_load Sb hn D.length N.length A.length hz1 hz2 hz3 hD hN hA) (fun h_10 r_ q_11 => ?_)
  obtain ⟨rfl, Sc, Fc⟩ := q_11
  obtain ⟨ψc, ec⟩ : ∃ x, x = (uo (uo (uo ψa 71 (cpB (ψa 62) 512 (ψa 71) 0 D.length)) 73 (cpB (ψa 62) 1024 (ψa 73) 0 N.length)) 74 (cpB (ψa 62) 1536 (ψa 74) 0 A.length)) := ⟨_, rfl⟩
  rw [← ec] at Sc
  have Kc : FR [67, 68, 71, 72, 73, 74, 75, 76, 77, 78, 79, 80, 81, 82, 83, 84, 85, 86, 87, 88, 89, 90] ψ ψc := by rw [ec]; exact (((((FR.rf _ _).tr Ka (by decide)).up (by decide)).up (by decide)).up (by decide))
  have e62 : ψa 62 = ψ 62 := Ka 62 (by decide)
  have sD : sg (ψc 71) 0 D := by rw [ec]; exact (show sg (ψa 62) 512 D by rw [e62]; exact s1).cp (ψa 71) 0 rfl
  have sN : sg (ψc 73) 0 N := by rw [ec]; exact (show sg (ψa 62) 1024 N by rw [e62]; exact s2).cp (ψa 73) 0 rfl
  have sA : sg (ψc 74) 0 A := by rw [ec]; exact (show sg (ψa 62) 1536 A by rw [e62]; exact s3).cp (ψa 74) 0 rfl
  have K0 : Kh ψc 0 F G := HK0 ψc Kc (by rw [ec]; exact Ea)
  refine R_iconst (pc := 56) (v := 0) dX12_use_56 (by decide) ?_
  refine R_istore_n (pc := 57) (lv' := [(3, .int 0), (0, .ref 61), (1, .int 13), (2, .int 1)]) dX12_use_57 rfl (by decide) rfl ?_
  refine R_iload_n (pc := 58) 2 dX12_use_58 rfl rfl ?_
  refine R_tableIn (pc := 59) (tgt := 327) dX12_use_59 (by decide) (by decide) rfl (by decide) ?_
  refine R_aload_n (pc := 327) 1 dX12_use_327 rfl rfl ?_
  refine R_iload_n (pc := 328) 2 dX12_use_328 rfl rfl ?_
  refine R_iload_n (pc := 329) 3 dX12_use_329 rfl rfl ?_
  refine R_callVh (pc := 330) (μ' := mX12_tagged) (As := [.int 13, .int 1]) (st := []) dX12_use_330 zX12_tagged lX12_293 ⟨by decide, by decide⟩ rfl rfl ⟨by decide, by decide⟩ Sc.obj (by omega) rfl (Nat.le_of_ble_eq_true rfl) (oX12_tagged_13o Sc hn A N D mm hA hN hD hmm hmm16 hi1 rfl rfl rfl sA sN sD K0 (by have := hP.1; omega) (by have := hP.1; omega) hP.2.2) (fun h_12 r_ q_13 => ?_)
  obtain ⟨ψd, id, rfl, Sd, Id, zd, Kd, Yd, Fd⟩ := q_13
  refine R_istore_n (pc := 333) (lv' := [(3, .int (if smI (kf (cnT F A N (ctO F (sl D 0 (D.length - mm)) (one1 (cnB N (15 - N.length)))) (15 - N.length) mm) (nI mm)) (rd D (D.length - mm)) = 0 then -6 else 0)), (0, .ref 61), (1, .int 13), (2, .int 1)]) dX12_use_333 rfl (by decide) rfl ?_
  refine R_iload_n (pc := 334) 0 dX12_use_334 rfl rfl ?_
  refine R_if_ge (pc := 335) (tgt := 342) dX12_use_335 (by decide) (fun c_14 => ?_) (fun c_14 => ?_)
  · skip
    have hc := ifge1 c_14
    have yF : sg (ψd 72) 0 (ctO F (sl D 0 (D.length - mm)) (one1 (cnB N (15 - N.length)))) := Yd
    have lF : (ctO F (sl D 0 (D.length - mm)) (one1 (cnB N (15 - N.length)))).length = D.length - mm := (show (ctO F (sl D 0 (D.length - mm)) (one1 (cnB N (15 - N.length)))).length = (sl D 0 (D.length - mm)).length from by unfold ctO; rw [stN_lenM (sl D 0 (D.length - mm)) (fun j_ y_ => ctS_len F _ j_ y_)]; have := nbk_b (sl D 0 (D.length - mm)); omega).trans (sl_len _ _ _)
    have hl7 : (ctO F (sl D 0 (D.length - mm)) (one1 (cnB N (15 - N.length)))).length ≤ 700 := by rw [lF]; omega
    refine R_aload_n (pc := 342) 1 dX12_use_342 rfl rfl ?_
    refine R_aload_n (pc := 343) 1 dX12_use_343 rfl rfl ?_
    refine R_get (pc := 344) dX12_use_344 fX12_44 Sd.obj (by omega) rfl ?_
    refine R_aload_n (pc := 347) 1 dX12_use_347 rfl rfl ?_
    refine R_get (pc := 348) dX12_use_348 fX12_153 Sd.obj (by omega) rfl ?_
    refine R_eqi (y := id 4) rfl ?_
    refine R_eqi (y := nI (ctO F (sl D 0 (D.length - mm)) (one1 (cnB N (15 - N.length)))).length) (zd.trans (by rw [lF])) ?_
    refine R_callVh (pc := 351) (μ' := mX12_come) (As := [.ref 72, .int (nI (ctO F (sl D 0 (D.length - mm)) (one1 (cnB N (15 - N.length)))).length)]) (st := []) dX12_use_351 zX12_come lX12_297 ⟨by decide, by decide⟩ rfl rfl ⟨by decide, by decide⟩ Sd.obj (by omega) rfl (Nat.le_of_ble_eq_true rfl) (oX12_come Sd hn (p := 72) rfl (by decide) (ctO F (sl D 0 (D.length - mm)) (one1 (cnB N (15 - N.length)))).length hl7 hl7) (fun h_15 r_ q_16 => ?_)
    obtain ⟨rfl, Se, Fe⟩ := q_16
    have KF : FR [67, 68, 71, 72, 73, 74, 75, 76, 77, 78, 79, 80, 81, 82, 83, 84, 85, 86, 87, 88, 89, 90] ψ ψd := (Kc.tr Kd (by decide))
    rw [if_neg hc, if_neg hc, if_neg hc]
    exact R_ireturn (pc := 354) dX12_use_354 rfl (by decide) (by decide) ⟨rfl, _, _, rfl, Se, ⟨KF 62 (by decide), KF 65 (by decide), KF 66 (by decide)⟩, ⟨(Id 0 (by decide)), (Id 1 (by decide))⟩, ⟨sg.cp yF _ 0 rfl, ui_s _ _ _⟩, ((((Fa.tr Fb).tr Fc).tr Fd).tr Fe)⟩
  · skip
    refine R_iload_n (pc := 338) 0 dX12_use_338 rfl rfl ?_
    refine R_goto (pc := 339) (tgt := 354) dX12_use_339 (by decide) ?_
    have KF : FR [67, 68, 71, 72, 73, 74, 75, 76, 77, 78, 79, 80, 81, 82, 83, 84, 85, 86, 87, 88, 89, 90] ψ ψd := (Kc.tr Kd (by decide))
    have hc : smI (kf (cnT F A N (ctO F (sl D 0 (D.length - mm)) (one1 (cnB N (15 - N.length)))) (15 - N.length) mm) (nI mm)) (rd D (D.length - mm)) = 0 := Decidable.not_not.mp (fun q_ => c_14 (by rw [if_neg q_]; decide))
    rw [if_pos hc, if_pos hc, if_pos hc]
    exact R_ireturn (pc := 354) dX12_use_354 rfl (by decide) (by decide) ⟨rfl, _, _, rfl, Sd, ⟨KF 62 (by decide), KF 65 (by decide), KF 66 (by decide)⟩, ⟨(Id 0 (by decide)), (Id 1 (by decide))⟩, ⟨KF 64 (by decide), (Id 2 (by decide))⟩, (((Fa.tr Fb).tr Fc).tr Fd)⟩
set_option maxHeartbeats 1000000 in
set_option maxRecDepth 100000 in
theorem oX12_use_14s {l : Launch} {w : am_W} {h : am_H} {n : Nat} {ψ : Nat → oA} {z : fA} {i : mI} (S : MO h ψ z i) (hn : 90 ≤ n) (A N D : List (BitVec 8)) (mm m : Nat) (hA : A.length ≤ 256) (hN : N.length ≤ 64) (hD : D.length ≤ 512) (hmm : 4 ≤ mm) (hmm16 : mm ≤ 16) (hi1 : i 1 = nI mm) (hz0 : z 0 = nI (4 * m)) (hm : m = 4 ∨ m = 6 ∨ m = 8) (hz1 : z 1 = nI D.length) (hz2 : z 2 = nI N.length) (hz3 : z 3 = nI A.length) (s1 : sg (ψ 62) 512 D) (s2 : sg (ψ 62) 1024 N) (s3 : sg (ψ 62) 1536 A) (B : BitVec 8 → BitVec 8) (hB : ∀ v : BitVec 8, ψ 65 v.toNat = B v) {F G : bP → bP} (HK0 : ∀ ψ2, FR [67, 68, 71, 72, 73, 74, 75, 76, 77, 78, 79, 80, 81, 82, 83, 84, 85, 86, 87, 88, 89, 90] ψ ψ2 → exK ψ2 B 0 0 m → Kh ψ2 0 F G) (hP : ftP 14 0 D.length N.length mm) : RH l w mX12_use h n [.ref 61, .int 14, .int 0] (uQ h ψ z i (nI ((ctO F D (macV F (layN 0 N))) ++ bt (twT F A N (ctO F D (macV F (layN 0 N)))) mm).length) (some ((ctO F D (macV F (layN 0 N))) ++ bt (twT F A N (ctO F D (macV F (layN 0 N)))) mm))) := by
  refine RC.of [(0, .ref 61), (1, .int 14), (2, .int 0)] (by decide +kernel) rfl (Nat.le_of_ble_eq_true rfl) ?_
  have hm8 : 4 ≤ m ∧ m ≤ 8 := by omega
  refine R_iload_n (pc := 0) 1 dX12_use_0 rfl rfl ?_
  refine R_iconst (pc := 1) (v := 1) dX12_use_1 (by decide) ?_
  refine R_bipush (pc := 2) (v := 16) dX12_use_2 (by decide) ?_
  refine R_callSp (pc := 4) (μ' := mX12_in) (As := [.int 14, .int 1, .int 16]) (st := []) dX12_use_4 zX12_in lX12_108 ⟨by decide, by decide⟩ rfl rfl ⟨by decide, by decide⟩ rfl (Nat.le_of_ble_eq_true rfl) (qX12_in l w _ _ _ _ _) ?_
  refine R_eqi (y := 1) (by decide) ?_
  refine R_if_ne (pc := 7) (tgt := 13) dX12_use_7 (by decide) (fun c_1 => ?_) (fun c_1 => absurd c_1 (by decide))
  refine R_aload_n (pc := 13) 0 dX12_use_13 rfl rfl ?_
  refine R_iload_n (pc := 14) 1 dX12_use_14 rfl rfl ?_
  refine R_bipush (pc := 15) (v := 9) dX12_use_15 (by decide) ?_
  refine R_icmp_eq (pc := 17) (tgt := 26) dX12_use_17 (by decide) (fun c_2 => absurd c_2 (by decide)) (fun c_2 => ?_)
  refine R_iload_n (pc := 20) 1 dX12_use_20 rfl rfl ?_
  refine R_bipush (pc := 21) (v := 15) dX12_use_21 (by decide) ?_
  refine R_icmp_ne (pc := 23) (tgt := 30) dX12_use_23 (by decide) (fun c_3 => ?_) (fun c_3 => absurd c_3 (by decide))
  refine R_iconst (pc := 30) (v := 0) dX12_use_30 (by decide) ?_
  refine R_callVh (pc := 31) (μ' := mX12_hasKeys) (As := [.int 0]) (st := []) dX12_use_31 zX12_hasKeys lX12_250 ⟨by decide, by decide⟩ rfl rfl ⟨by decide, by decide⟩ S.obj (by omega) rfl (Nat.le_of_ble_eq_true rfl) (oX12_hasKeys_0 S hn m hz0 hm B hB) (fun h_4 r_ q_5 => ?_)
  obtain ⟨ψa, rfl, Sa, Ka, Ea, Fa⟩ := q_5
  refine R_if_ne (pc := 34) (tgt := 40) dX12_use_34 (by decide) (fun c_6 => ?_) (fun c_6 => absurd c_6 (by decide))
  refine R_aload_n (pc := 40) 0 dX12_use_40 rfl rfl ?_
  refine R_iload_n (pc := 41) 1 dX12_use_41 rfl rfl ?_
  refine R_iload_n (pc := 42) 2 dX12_use_42 rfl rfl ?_
  refine R_callVh (pc := 43) (μ' := mX12_fits) (As := [.int 14, .int 0]) (st := []) dX12_use_43 zX12_fits lX12_254 ⟨by decide, by decide⟩ rfl rfl ⟨by decide, by decide⟩ Sa.obj (by omega) rfl (Nat.le_of_ble_eq_true rfl) (oX12_fits_14s Sa hn D.length N.length mm hD hN (by omega) hz1 hz2 hi1 hP) (fun h_7 r_ q_8 => ?_)
  obtain ⟨rfl, Sb, Fb⟩ := q_8
  refine R_if_ne (pc := 46) (tgt := 52) dX12_use_46 (by decide) (fun c_9 => ?_) (fun c_9 => absurd c_9 (by decide))
  refine R_aload_n (pc := 52) 0 dX12_use_52 rfl rfl ?_
  refine R_callVh (pc := 53) (μ' := mX12_load) (As := []) (st := []) dX12_use_53 zX12_load lX12_258 ⟨by decide, by decide⟩ rfl rfl ⟨by decide, by decide⟩ Sb.obj (by omega) rfl (Nat.le_of_ble_eq_true rfl) (oX12_load Sb hn D.length N.length A.length hz1 hz2 hz3 hD hN hA) (fun h_10 r_ q_11 => ?_)
  obtain ⟨rfl, Sc, Fc⟩ := q_11
  obtain ⟨ψc, ec⟩ : ∃ x, x = (uo (uo (uo ψa 71 (cpB (ψa 62) 512 (ψa 71) 0 D.length)) 73 (cpB (ψa 62) 1024 (ψa 73) 0 N.length)) 74 (cpB (ψa 62) 1536 (ψa 74) 0 A.length)) := ⟨_, rfl⟩
  rw [← ec] at Sc
  have Kc : FR [67, 68, 71, 72, 73, 74, 75, 76, 77, 78, 79, 80, 81, 82, 83, 84, 85, 86, 87, 88, 89, 90] ψ ψc := by rw [ec]; exact (((((FR.rf _ _).tr Ka (by decide)).up (by decide)).up (by decide)).up (by decide))
  have e62 : ψa 62 = ψ 62 := Ka 62 (by decide)
  have sD : sg (ψc 71) 0 D := by rw [ec]; exact (show sg (ψa 62) 512 D by rw [e62]; exact s1).cp (ψa 71) 0 rfl
  have sN : sg (ψc 73) 0 N := by rw [ec]; exact (show sg (ψa 62) 1024 N by rw [e62]; exact s2).cp (ψa 73) 0 rfl
  have sA : sg (ψc 74) 0 A := by rw [ec]; exact (show sg (ψa 62) 1536 A by rw [e62]; exact s3).cp (ψa 74) 0 rfl
  have K0 : Kh ψc 0 F G := HK0 ψc Kc (by rw [ec]; exact Ea)
  refine R_iconst (pc := 56) (v := 0) dX12_use_56 (by decide) ?_
  refine R_istore_n (pc := 57) (lv' := [(3, .int 0), (0, .ref 61), (1, .int 14), (2, .int 0)]) dX12_use_57 rfl (by decide) rfl ?_
  refine R_iload_n (pc := 58) 2 dX12_use_58 rfl rfl ?_
  refine R_tableIn (pc := 59) (tgt := 327) dX12_use_59 (by decide) (by decide) rfl (by decide) ?_
  refine R_aload_n (pc := 327) 1 dX12_use_327 rfl rfl ?_
  refine R_iload_n (pc := 328) 2 dX12_use_328 rfl rfl ?_
  refine R_iload_n (pc := 329) 3 dX12_use_329 rfl rfl ?_
  refine R_callVh (pc := 330) (μ' := mX12_tagged) (As := [.int 14, .int 0]) (st := []) dX12_use_330 zX12_tagged lX12_293 ⟨by decide, by decide⟩ rfl rfl ⟨by decide, by decide⟩ Sc.obj (by omega) rfl (Nat.le_of_ble_eq_true rfl) (oX12_tagged_14s Sc hn A N D mm hA hN hD hmm hmm16 hi1 rfl rfl rfl sA sN sD K0) (fun h_12 r_ q_13 => ?_)
  obtain ⟨ψd, id, rfl, Sd, Id, zd, Kd, Yd, Fd⟩ := q_13
  refine R_istore_n (pc := 333) (lv' := [(3, .int 0), (0, .ref 61), (1, .int 14), (2, .int 0)]) dX12_use_333 rfl (by decide) rfl ?_
  refine R_iload_n (pc := 334) 0 dX12_use_334 rfl rfl ?_
  refine R_if_ge (pc := 335) (tgt := 342) dX12_use_335 (by decide) (fun c_14 => ?_) (fun c_14 => absurd (by decide) c_14)
  have yF : sg (ψd 72) 0 ((ctO F D (macV F (layN 0 N))) ++ bt (twT F A N (ctO F D (macV F (layN 0 N)))) mm) := Yd
  have lF : ((ctO F D (macV F (layN 0 N))) ++ bt (twT F A N (ctO F D (macV F (layN 0 N)))) mm).length = D.length + mm := by rw [List.length_append, bt_len, show (ctO F D (macV F (layN 0 N))).length = D.length from by unfold ctO; rw [stN_lenM D (fun j_ y_ => ctS_len F _ j_ y_)]; have := nbk_b D; omega]
  have hl7 : ((ctO F D (macV F (layN 0 N))) ++ bt (twT F A N (ctO F D (macV F (layN 0 N)))) mm).length ≤ 700 := by rw [lF]; omega
  refine R_aload_n (pc := 342) 1 dX12_use_342 rfl rfl ?_
  refine R_aload_n (pc := 343) 1 dX12_use_343 rfl rfl ?_
  refine R_get (pc := 344) dX12_use_344 fX12_44 Sd.obj (by omega) rfl ?_
  refine R_aload_n (pc := 347) 1 dX12_use_347 rfl rfl ?_
  refine R_get (pc := 348) dX12_use_348 fX12_153 Sd.obj (by omega) rfl ?_
  refine R_eqi (y := id 4) rfl ?_
  refine R_eqi (y := nI ((ctO F D (macV F (layN 0 N))) ++ bt (twT F A N (ctO F D (macV F (layN 0 N)))) mm).length) (zd.trans (by rw [lF])) ?_
  refine R_callVh (pc := 351) (μ' := mX12_come) (As := [.ref 72, .int (nI ((ctO F D (macV F (layN 0 N))) ++ bt (twT F A N (ctO F D (macV F (layN 0 N)))) mm).length)]) (st := []) dX12_use_351 zX12_come lX12_297 ⟨by decide, by decide⟩ rfl rfl ⟨by decide, by decide⟩ Sd.obj (by omega) rfl (Nat.le_of_ble_eq_true rfl) (oX12_come Sd hn (p := 72) rfl (by decide) ((ctO F D (macV F (layN 0 N))) ++ bt (twT F A N (ctO F D (macV F (layN 0 N)))) mm).length hl7 hl7) (fun h_15 r_ q_16 => ?_)
  obtain ⟨rfl, Se, Fe⟩ := q_16
  have KF : FR [67, 68, 71, 72, 73, 74, 75, 76, 77, 78, 79, 80, 81, 82, 83, 84, 85, 86, 87, 88, 89, 90] ψ ψd := (Kc.tr Kd (by decide))
  exact R_ireturn (pc := 354) dX12_use_354 rfl (by decide) (by decide) ⟨rfl, _, _, rfl, Se, ⟨KF 62 (by decide), KF 65 (by decide), KF 66 (by decide)⟩, ⟨(Id 0 (by decide)), (Id 1 (by decide))⟩, ⟨sg.cp yF _ 0 rfl, ui_s _ _ _⟩, ((((Fa.tr Fb).tr Fc).tr Fd).tr Fe)⟩
set_option maxHeartbeats 1000000 in
set_option maxRecDepth 100000 in
theorem oX12_use_14o {l : Launch} {w : am_W} {h : am_H} {n : Nat} {ψ : Nat → oA} {z : fA} {i : mI} (S : MO h ψ z i) (hn : 90 ≤ n) (A N D : List (BitVec 8)) (mm m : Nat) (hA : A.length ≤ 256) (hN : N.length ≤ 64) (hD : D.length ≤ 512) (hmm : 4 ≤ mm) (hmm16 : mm ≤ 16) (hi1 : i 1 = nI mm) (hz0 : z 0 = nI (4 * m)) (hm : m = 4 ∨ m = 6 ∨ m = 8) (hz1 : z 1 = nI D.length) (hz2 : z 2 = nI N.length) (hz3 : z 3 = nI A.length) (s1 : sg (ψ 62) 512 D) (s2 : sg (ψ 62) 1024 N) (s3 : sg (ψ 62) 1536 A) (B : BitVec 8 → BitVec 8) (hB : ∀ v : BitVec 8, ψ 65 v.toNat = B v) {F G : bP → bP} (HK0 : ∀ ψ2, FR [67, 68, 71, 72, 73, 74, 75, 76, 77, 78, 79, 80, 81, 82, 83, 84, 85, 86, 87, 88, 89, 90] ψ ψ2 → exK ψ2 B 0 0 m → Kh ψ2 0 F G) (hP : ftP 14 1 D.length N.length mm) : RH l w mX12_use h n [.ref 61, .int 14, .int 1] (uQ h ψ z i (if smI (kf (twT F A N (sl D 0 (D.length - mm))) (nI mm)) (rd D (D.length - mm)) = 0 then -6 else nI (ctO F (sl D 0 (D.length - mm)) (macV F (layN 0 N))).length) (if smI (kf (twT F A N (sl D 0 (D.length - mm))) (nI mm)) (rd D (D.length - mm)) = 0 then none else some (ctO F (sl D 0 (D.length - mm)) (macV F (layN 0 N))))) := by
  refine RC.of [(0, .ref 61), (1, .int 14), (2, .int 1)] (by decide +kernel) rfl (Nat.le_of_ble_eq_true rfl) ?_
  have hm8 : 4 ≤ m ∧ m ≤ 8 := by omega
  refine R_iload_n (pc := 0) 1 dX12_use_0 rfl rfl ?_
  refine R_iconst (pc := 1) (v := 1) dX12_use_1 (by decide) ?_
  refine R_bipush (pc := 2) (v := 16) dX12_use_2 (by decide) ?_
  refine R_callSp (pc := 4) (μ' := mX12_in) (As := [.int 14, .int 1, .int 16]) (st := []) dX12_use_4 zX12_in lX12_108 ⟨by decide, by decide⟩ rfl rfl ⟨by decide, by decide⟩ rfl (Nat.le_of_ble_eq_true rfl) (qX12_in l w _ _ _ _ _) ?_
  refine R_eqi (y := 1) (by decide) ?_
  refine R_if_ne (pc := 7) (tgt := 13) dX12_use_7 (by decide) (fun c_1 => ?_) (fun c_1 => absurd c_1 (by decide))
  refine R_aload_n (pc := 13) 0 dX12_use_13 rfl rfl ?_
  refine R_iload_n (pc := 14) 1 dX12_use_14 rfl rfl ?_
  refine R_bipush (pc := 15) (v := 9) dX12_use_15 (by decide) ?_
  refine R_icmp_eq (pc := 17) (tgt := 26) dX12_use_17 (by decide) (fun c_2 => absurd c_2 (by decide)) (fun c_2 => ?_)
  refine R_iload_n (pc := 20) 1 dX12_use_20 rfl rfl ?_
  refine R_bipush (pc := 21) (v := 15) dX12_use_21 (by decide) ?_
  refine R_icmp_ne (pc := 23) (tgt := 30) dX12_use_23 (by decide) (fun c_3 => ?_) (fun c_3 => absurd c_3 (by decide))
  refine R_iconst (pc := 30) (v := 0) dX12_use_30 (by decide) ?_
  refine R_callVh (pc := 31) (μ' := mX12_hasKeys) (As := [.int 0]) (st := []) dX12_use_31 zX12_hasKeys lX12_250 ⟨by decide, by decide⟩ rfl rfl ⟨by decide, by decide⟩ S.obj (by omega) rfl (Nat.le_of_ble_eq_true rfl) (oX12_hasKeys_0 S hn m hz0 hm B hB) (fun h_4 r_ q_5 => ?_)
  obtain ⟨ψa, rfl, Sa, Ka, Ea, Fa⟩ := q_5
  refine R_if_ne (pc := 34) (tgt := 40) dX12_use_34 (by decide) (fun c_6 => ?_) (fun c_6 => absurd c_6 (by decide))
  refine R_aload_n (pc := 40) 0 dX12_use_40 rfl rfl ?_
  refine R_iload_n (pc := 41) 1 dX12_use_41 rfl rfl ?_
  refine R_iload_n (pc := 42) 2 dX12_use_42 rfl rfl ?_
  refine R_callVh (pc := 43) (μ' := mX12_fits) (As := [.int 14, .int 1]) (st := []) dX12_use_43 zX12_fits lX12_254 ⟨by decide, by decide⟩ rfl rfl ⟨by decide, by decide⟩ Sa.obj (by omega) rfl (Nat.le_of_ble_eq_true rfl) (oX12_fits_14o Sa hn D.length N.length mm hD hN (by omega) hz1 hz2 hi1 hP) (fun h_7 r_ q_8 => ?_)
  obtain ⟨rfl, Sb, Fb⟩ := q_8
  refine R_if_ne (pc := 46) (tgt := 52) dX12_use_46 (by decide) (fun c_9 => ?_) (fun c_9 => absurd c_9 (by decide))
  refine R_aload_n (pc := 52) 0 dX12_use_52 rfl rfl ?_
  refine R_callVh (pc := 53) (μ' := mX12_load) (As := []) (st := []) dX12_use_53 zX12_load lX12_258 ⟨by decide, by decide⟩ rfl rfl ⟨by decide, by decide⟩ Sb.obj (by omega) rfl (Nat.le_of_ble_eq_true rfl) (oX12_load Sb hn D.length N.length A.length hz1 hz2 hz3 hD hN hA) (fun h_10 r_ q_11 => ?_)
  obtain ⟨rfl, Sc, Fc⟩ := q_11
  obtain ⟨ψc, ec⟩ : ∃ x, x = (uo (uo (uo ψa 71 (cpB (ψa 62) 512 (ψa 71) 0 D.length)) 73 (cpB (ψa 62) 1024 (ψa 73) 0 N.length)) 74 (cpB (ψa 62) 1536 (ψa 74) 0 A.length)) := ⟨_, rfl⟩
  rw [← ec] at Sc
  have Kc : FR [67, 68, 71, 72, 73, 74, 75, 76, 77, 78, 79, 80, 81, 82, 83, 84, 85, 86, 87, 88, 89, 90] ψ ψc := by rw [ec]; exact (((((FR.rf _ _).tr Ka (by decide)).up (by decide)).up (by decide)).up (by decide))
  have e62 : ψa 62 = ψ 62 := Ka 62 (by decide)
  have sD : sg (ψc 71) 0 D := by rw [ec]; exact (show sg (ψa 62) 512 D by rw [e62]; exact s1).cp (ψa 71) 0 rfl
  have sN : sg (ψc 73) 0 N := by rw [ec]; exact (show sg (ψa 62) 1024 N by rw [e62]; exact s2).cp (ψa 73) 0 rfl
  have sA : sg (ψc 74) 0 A := by rw [ec]; exact (show sg (ψa 62) 1536 A by rw [e62]; exact s3).cp (ψa 74) 0 rfl
  have K0 : Kh ψc 0 F G := HK0 ψc Kc (by rw [ec]; exact Ea)
  refine R_iconst (pc := 56) (v := 0) dX12_use_56 (by decide) ?_
  refine R_istore_n (pc := 57) (lv' := [(3, .int 0), (0, .ref 61), (1, .int 14), (2, .int 1)]) dX12_use_57 rfl (by decide) rfl ?_
  refine R_iload_n (pc := 58) 2 dX12_use_58 rfl rfl ?_
  refine R_tableIn (pc := 59) (tgt := 327) dX12_use_59 (by decide) (by decide) rfl (by decide) ?_
  refine R_aload_n (pc := 327) 1 dX12_use_327 rfl rfl ?_
  refine R_iload_n (pc := 328) 2 dX12_use_328 rfl rfl ?_
  refine R_iload_n (pc := 329) 3 dX12_use_329 rfl rfl ?_
  refine R_callVh (pc := 330) (μ' := mX12_tagged) (As := [.int 14, .int 1]) (st := []) dX12_use_330 zX12_tagged lX12_293 ⟨by decide, by decide⟩ rfl rfl ⟨by decide, by decide⟩ Sc.obj (by omega) rfl (Nat.le_of_ble_eq_true rfl) (oX12_tagged_14o Sc hn A N D mm hA hN hD hmm hmm16 hi1 rfl rfl rfl sA sN sD K0 hP) (fun h_12 r_ q_13 => ?_)
  obtain ⟨ψd, id, rfl, Sd, Id, zd, Kd, Yd, Fd⟩ := q_13
  refine R_istore_n (pc := 333) (lv' := [(3, .int (if smI (kf (twT F A N (sl D 0 (D.length - mm))) (nI mm)) (rd D (D.length - mm)) = 0 then -6 else 0)), (0, .ref 61), (1, .int 14), (2, .int 1)]) dX12_use_333 rfl (by decide) rfl ?_
  refine R_iload_n (pc := 334) 0 dX12_use_334 rfl rfl ?_
  refine R_if_ge (pc := 335) (tgt := 342) dX12_use_335 (by decide) (fun c_14 => ?_) (fun c_14 => ?_)
  · skip
    have hc := ifge1 c_14
    have yF : sg (ψd 72) 0 (ctO F (sl D 0 (D.length - mm)) (macV F (layN 0 N))) := Yd
    have lF : (ctO F (sl D 0 (D.length - mm)) (macV F (layN 0 N))).length = D.length - mm := (show (ctO F (sl D 0 (D.length - mm)) (macV F (layN 0 N))).length = (sl D 0 (D.length - mm)).length from by unfold ctO; rw [stN_lenM (sl D 0 (D.length - mm)) (fun j_ y_ => ctS_len F _ j_ y_)]; have := nbk_b (sl D 0 (D.length - mm)); omega).trans (sl_len _ _ _)
    have hl7 : (ctO F (sl D 0 (D.length - mm)) (macV F (layN 0 N))).length ≤ 700 := by rw [lF]; omega
    refine R_aload_n (pc := 342) 1 dX12_use_342 rfl rfl ?_
    refine R_aload_n (pc := 343) 1 dX12_use_343 rfl rfl ?_
    refine R_get (pc := 344) dX12_use_344 fX12_44 Sd.obj (by omega) rfl ?_
    refine R_aload_n (pc := 347) 1 dX12_use_347 rfl rfl ?_
    refine R_get (pc := 348) dX12_use_348 fX12_153 Sd.obj (by omega) rfl ?_
    refine R_eqi (y := id 4) rfl ?_
    refine R_eqi (y := nI (ctO F (sl D 0 (D.length - mm)) (macV F (layN 0 N))).length) (zd.trans (by rw [lF])) ?_
    refine R_callVh (pc := 351) (μ' := mX12_come) (As := [.ref 72, .int (nI (ctO F (sl D 0 (D.length - mm)) (macV F (layN 0 N))).length)]) (st := []) dX12_use_351 zX12_come lX12_297 ⟨by decide, by decide⟩ rfl rfl ⟨by decide, by decide⟩ Sd.obj (by omega) rfl (Nat.le_of_ble_eq_true rfl) (oX12_come Sd hn (p := 72) rfl (by decide) (ctO F (sl D 0 (D.length - mm)) (macV F (layN 0 N))).length hl7 hl7) (fun h_15 r_ q_16 => ?_)
    obtain ⟨rfl, Se, Fe⟩ := q_16
    have KF : FR [67, 68, 71, 72, 73, 74, 75, 76, 77, 78, 79, 80, 81, 82, 83, 84, 85, 86, 87, 88, 89, 90] ψ ψd := (Kc.tr Kd (by decide))
    rw [if_neg hc, if_neg hc, if_neg hc]
    exact R_ireturn (pc := 354) dX12_use_354 rfl (by decide) (by decide) ⟨rfl, _, _, rfl, Se, ⟨KF 62 (by decide), KF 65 (by decide), KF 66 (by decide)⟩, ⟨(Id 0 (by decide)), (Id 1 (by decide))⟩, ⟨sg.cp yF _ 0 rfl, ui_s _ _ _⟩, ((((Fa.tr Fb).tr Fc).tr Fd).tr Fe)⟩
  · skip
    refine R_iload_n (pc := 338) 0 dX12_use_338 rfl rfl ?_
    refine R_goto (pc := 339) (tgt := 354) dX12_use_339 (by decide) ?_
    have KF : FR [67, 68, 71, 72, 73, 74, 75, 76, 77, 78, 79, 80, 81, 82, 83, 84, 85, 86, 87, 88, 89, 90] ψ ψd := (Kc.tr Kd (by decide))
    have hc : smI (kf (twT F A N (sl D 0 (D.length - mm))) (nI mm)) (rd D (D.length - mm)) = 0 := Decidable.not_not.mp (fun q_ => c_14 (by rw [if_neg q_]; decide))
    rw [if_pos hc, if_pos hc, if_pos hc]
    exact R_ireturn (pc := 354) dX12_use_354 rfl (by decide) (by decide) ⟨rfl, _, _, rfl, Sd, ⟨KF 62 (by decide), KF 65 (by decide), KF 66 (by decide)⟩, ⟨(Id 0 (by decide)), (Id 1 (by decide))⟩, ⟨KF 64 (by decide), (Id 2 (by decide))⟩, (((Fa.tr Fb).tr Fc).tr Fd)⟩
set_option maxHeartbeats 1000000 in
set_option maxRecDepth 100000 in
theorem oX12_use_16s {l : Launch} {w : am_W} {h : am_H} {n : Nat} {ψ : Nat → oA} {z : fA} {i : mI} (S : MO h ψ z i) (hn : 90 ≤ n) (A N D : List (BitVec 8)) (mm m : Nat) (hA : A.length ≤ 256) (hN : N.length ≤ 64) (hD : D.length ≤ 512) (hmm : 4 ≤ mm) (hmm16 : mm ≤ 16) (hi1 : i 1 = nI mm) (hz0 : z 0 = nI (4 * m)) (hm : m = 4 ∨ m = 6 ∨ m = 8) (hz1 : z 1 = nI D.length) (hz2 : z 2 = nI N.length) (hz3 : z 3 = nI A.length) (s1 : sg (ψ 62) 512 D) (s2 : sg (ψ 62) 1024 N) (s3 : sg (ψ 62) 1536 A) (B : BitVec 8 → BitVec 8) (hB : ∀ v : BitVec 8, ψ 65 v.toNat = B v) {F G : bP → bP} (HK0 : ∀ ψ2, FR [67, 68, 71, 72, 73, 74, 75, 76, 77, 78, 79, 80, 81, 82, 83, 84, 85, 86, 87, 88, 89, 90] ψ ψ2 → exK ψ2 B 0 0 m → Kh ψ2 0 F G) (hP : ftP 16 0 D.length N.length mm) : RH l w mX12_use h n [.ref 61, .int 16, .int 0] (uQ h ψ z i (nI ((osF F G false D (bgO F N (nI mm))).2.2 ++ bt (osTag F G false D A (bgO F N (nI mm))) mm).length) (some ((osF F G false D (bgO F N (nI mm))).2.2 ++ bt (osTag F G false D A (bgO F N (nI mm))) mm))) := by
  refine RC.of [(0, .ref 61), (1, .int 16), (2, .int 0)] (by decide +kernel) rfl (Nat.le_of_ble_eq_true rfl) ?_
  have hm8 : 4 ≤ m ∧ m ≤ 8 := by omega
  refine R_iload_n (pc := 0) 1 dX12_use_0 rfl rfl ?_
  refine R_iconst (pc := 1) (v := 1) dX12_use_1 (by decide) ?_
  refine R_bipush (pc := 2) (v := 16) dX12_use_2 (by decide) ?_
  refine R_callSp (pc := 4) (μ' := mX12_in) (As := [.int 16, .int 1, .int 16]) (st := []) dX12_use_4 zX12_in lX12_108 ⟨by decide, by decide⟩ rfl rfl ⟨by decide, by decide⟩ rfl (Nat.le_of_ble_eq_true rfl) (qX12_in l w _ _ _ _ _) ?_
  refine R_eqi (y := 1) (by decide) ?_
  refine R_if_ne (pc := 7) (tgt := 13) dX12_use_7 (by decide) (fun c_1 => ?_) (fun c_1 => absurd c_1 (by decide))
  refine R_aload_n (pc := 13) 0 dX12_use_13 rfl rfl ?_
  refine R_iload_n (pc := 14) 1 dX12_use_14 rfl rfl ?_
  refine R_bipush (pc := 15) (v := 9) dX12_use_15 (by decide) ?_
  refine R_icmp_eq (pc := 17) (tgt := 26) dX12_use_17 (by decide) (fun c_2 => absurd c_2 (by decide)) (fun c_2 => ?_)
  refine R_iload_n (pc := 20) 1 dX12_use_20 rfl rfl ?_
  refine R_bipush (pc := 21) (v := 15) dX12_use_21 (by decide) ?_
  refine R_icmp_ne (pc := 23) (tgt := 30) dX12_use_23 (by decide) (fun c_3 => ?_) (fun c_3 => absurd c_3 (by decide))
  refine R_iconst (pc := 30) (v := 0) dX12_use_30 (by decide) ?_
  refine R_callVh (pc := 31) (μ' := mX12_hasKeys) (As := [.int 0]) (st := []) dX12_use_31 zX12_hasKeys lX12_250 ⟨by decide, by decide⟩ rfl rfl ⟨by decide, by decide⟩ S.obj (by omega) rfl (Nat.le_of_ble_eq_true rfl) (oX12_hasKeys_0 S hn m hz0 hm B hB) (fun h_4 r_ q_5 => ?_)
  obtain ⟨ψa, rfl, Sa, Ka, Ea, Fa⟩ := q_5
  refine R_if_ne (pc := 34) (tgt := 40) dX12_use_34 (by decide) (fun c_6 => ?_) (fun c_6 => absurd c_6 (by decide))
  refine R_aload_n (pc := 40) 0 dX12_use_40 rfl rfl ?_
  refine R_iload_n (pc := 41) 1 dX12_use_41 rfl rfl ?_
  refine R_iload_n (pc := 42) 2 dX12_use_42 rfl rfl ?_
  refine R_callVh (pc := 43) (μ' := mX12_fits) (As := [.int 16, .int 0]) (st := []) dX12_use_43 zX12_fits lX12_254 ⟨by decide, by decide⟩ rfl rfl ⟨by decide, by decide⟩ Sa.obj (by omega) rfl (Nat.le_of_ble_eq_true rfl) (oX12_fits_16s Sa hn D.length N.length mm hD hN (by omega) hz1 hz2 hi1 hP) (fun h_7 r_ q_8 => ?_)
  obtain ⟨rfl, Sb, Fb⟩ := q_8
  refine R_if_ne (pc := 46) (tgt := 52) dX12_use_46 (by decide) (fun c_9 => ?_) (fun c_9 => absurd c_9 (by decide))
  refine R_aload_n (pc := 52) 0 dX12_use_52 rfl rfl ?_
  refine R_callVh (pc := 53) (μ' := mX12_load) (As := []) (st := []) dX12_use_53 zX12_load lX12_258 ⟨by decide, by decide⟩ rfl rfl ⟨by decide, by decide⟩ Sb.obj (by omega) rfl (Nat.le_of_ble_eq_true rfl) (oX12_load Sb hn D.length N.length A.length hz1 hz2 hz3 hD hN hA) (fun h_10 r_ q_11 => ?_)
  obtain ⟨rfl, Sc, Fc⟩ := q_11
  obtain ⟨ψc, ec⟩ : ∃ x, x = (uo (uo (uo ψa 71 (cpB (ψa 62) 512 (ψa 71) 0 D.length)) 73 (cpB (ψa 62) 1024 (ψa 73) 0 N.length)) 74 (cpB (ψa 62) 1536 (ψa 74) 0 A.length)) := ⟨_, rfl⟩
  rw [← ec] at Sc
  have Kc : FR [67, 68, 71, 72, 73, 74, 75, 76, 77, 78, 79, 80, 81, 82, 83, 84, 85, 86, 87, 88, 89, 90] ψ ψc := by rw [ec]; exact (((((FR.rf _ _).tr Ka (by decide)).up (by decide)).up (by decide)).up (by decide))
  have e62 : ψa 62 = ψ 62 := Ka 62 (by decide)
  have sD : sg (ψc 71) 0 D := by rw [ec]; exact (show sg (ψa 62) 512 D by rw [e62]; exact s1).cp (ψa 71) 0 rfl
  have sN : sg (ψc 73) 0 N := by rw [ec]; exact (show sg (ψa 62) 1024 N by rw [e62]; exact s2).cp (ψa 73) 0 rfl
  have sA : sg (ψc 74) 0 A := by rw [ec]; exact (show sg (ψa 62) 1536 A by rw [e62]; exact s3).cp (ψa 74) 0 rfl
  have K0 : Kh ψc 0 F G := HK0 ψc Kc (by rw [ec]; exact Ea)
  refine R_iconst (pc := 56) (v := 0) dX12_use_56 (by decide) ?_
  refine R_istore_n (pc := 57) (lv' := [(3, .int 0), (0, .ref 61), (1, .int 16), (2, .int 0)]) dX12_use_57 rfl (by decide) rfl ?_
  refine R_iload_n (pc := 58) 2 dX12_use_58 rfl rfl ?_
  refine R_tableOut (pc := 59) (tgt := 327) dX12_use_59 (by decide) (by decide) ?_
  refine R_aload_n (pc := 327) 1 dX12_use_327 rfl rfl ?_
  refine R_iload_n (pc := 328) 2 dX12_use_328 rfl rfl ?_
  refine R_iload_n (pc := 329) 3 dX12_use_329 rfl rfl ?_
  refine R_callVh (pc := 330) (μ' := mX12_tagged) (As := [.int 16, .int 0]) (st := []) dX12_use_330 zX12_tagged lX12_293 ⟨by decide, by decide⟩ rfl rfl ⟨by decide, by decide⟩ Sc.obj (by omega) rfl (Nat.le_of_ble_eq_true rfl) (oX12_tagged_16s Sc hn A N D mm hA hN hD hmm hmm16 hi1 rfl rfl rfl sA sN sD K0 (by have := hP.1; omega) (by have := hP.2; omega)) (fun h_12 r_ q_13 => ?_)
  obtain ⟨ψd, id, rfl, Sd, Id, zd, Kd, Yd, Fd⟩ := q_13
  refine R_istore_n (pc := 333) (lv' := [(3, .int 0), (0, .ref 61), (1, .int 16), (2, .int 0)]) dX12_use_333 rfl (by decide) rfl ?_
  refine R_iload_n (pc := 334) 0 dX12_use_334 rfl rfl ?_
  refine R_if_ge (pc := 335) (tgt := 342) dX12_use_335 (by decide) (fun c_14 => ?_) (fun c_14 => absurd (by decide) c_14)
  have yF : sg (ψd 72) 0 ((osF F G false D (bgO F N (nI mm))).2.2 ++ bt (osTag F G false D A (bgO F N (nI mm))) mm) := Yd
  have lF : ((osF F G false D (bgO F N (nI mm))).2.2 ++ bt (osTag F G false D A (bgO F N (nI mm))) mm).length = D.length + mm := by rw [List.length_append, bt_len, show (osF F G false D (bgO F N (nI mm))).2.2.length = D.length from osF_len _ _ _ _ _ (by omega)]
  have hl7 : ((osF F G false D (bgO F N (nI mm))).2.2 ++ bt (osTag F G false D A (bgO F N (nI mm))) mm).length ≤ 700 := by rw [lF]; omega
  refine R_aload_n (pc := 342) 1 dX12_use_342 rfl rfl ?_
  refine R_aload_n (pc := 343) 1 dX12_use_343 rfl rfl ?_
  refine R_get (pc := 344) dX12_use_344 fX12_44 Sd.obj (by omega) rfl ?_
  refine R_aload_n (pc := 347) 1 dX12_use_347 rfl rfl ?_
  refine R_get (pc := 348) dX12_use_348 fX12_153 Sd.obj (by omega) rfl ?_
  refine R_eqi (y := id 4) rfl ?_
  refine R_eqi (y := nI ((osF F G false D (bgO F N (nI mm))).2.2 ++ bt (osTag F G false D A (bgO F N (nI mm))) mm).length) (zd.trans (by rw [lF])) ?_
  refine R_callVh (pc := 351) (μ' := mX12_come) (As := [.ref 72, .int (nI ((osF F G false D (bgO F N (nI mm))).2.2 ++ bt (osTag F G false D A (bgO F N (nI mm))) mm).length)]) (st := []) dX12_use_351 zX12_come lX12_297 ⟨by decide, by decide⟩ rfl rfl ⟨by decide, by decide⟩ Sd.obj (by omega) rfl (Nat.le_of_ble_eq_true rfl) (oX12_come Sd hn (p := 72) rfl (by decide) ((osF F G false D (bgO F N (nI mm))).2.2 ++ bt (osTag F G false D A (bgO F N (nI mm))) mm).length hl7 hl7) (fun h_15 r_ q_16 => ?_)
  obtain ⟨rfl, Se, Fe⟩ := q_16
  have KF : FR [67, 68, 71, 72, 73, 74, 75, 76, 77, 78, 79, 80, 81, 82, 83, 84, 85, 86, 87, 88, 89, 90] ψ ψd := (Kc.tr Kd (by decide))
  exact R_ireturn (pc := 354) dX12_use_354 rfl (by decide) (by decide) ⟨rfl, _, _, rfl, Se, ⟨KF 62 (by decide), KF 65 (by decide), KF 66 (by decide)⟩, ⟨(Id 0 (by decide)), (Id 1 (by decide))⟩, ⟨sg.cp yF _ 0 rfl, ui_s _ _ _⟩, ((((Fa.tr Fb).tr Fc).tr Fd).tr Fe)⟩
set_option maxHeartbeats 1000000 in
set_option maxRecDepth 100000 in
theorem oX12_use_16o {l : Launch} {w : am_W} {h : am_H} {n : Nat} {ψ : Nat → oA} {z : fA} {i : mI} (S : MO h ψ z i) (hn : 90 ≤ n) (A N D : List (BitVec 8)) (mm m : Nat) (hA : A.length ≤ 256) (hN : N.length ≤ 64) (hD : D.length ≤ 512) (hmm : 4 ≤ mm) (hmm16 : mm ≤ 16) (hi1 : i 1 = nI mm) (hz0 : z 0 = nI (4 * m)) (hm : m = 4 ∨ m = 6 ∨ m = 8) (hz1 : z 1 = nI D.length) (hz2 : z 2 = nI N.length) (hz3 : z 3 = nI A.length) (s1 : sg (ψ 62) 512 D) (s2 : sg (ψ 62) 1024 N) (s3 : sg (ψ 62) 1536 A) (B : BitVec 8 → BitVec 8) (hB : ∀ v : BitVec 8, ψ 65 v.toNat = B v) {F G : bP → bP} (HK0 : ∀ ψ2, FR [67, 68, 71, 72, 73, 74, 75, 76, 77, 78, 79, 80, 81, 82, 83, 84, 85, 86, 87, 88, 89, 90] ψ ψ2 → exK ψ2 B 0 0 m → Kh ψ2 0 F G) (hP : ftP 16 1 D.length N.length mm) : RH l w mX12_use h n [.ref 61, .int 16, .int 1] (uQ h ψ z i (if smI (kf (osTag F G true (sl D 0 (D.length - mm)) A (bgO F N (nI mm))) (nI mm)) (rd D (D.length - mm)) = 0 then -6 else nI (osF F G true (sl D 0 (D.length - mm)) (bgO F N (nI mm))).2.2.length) (if smI (kf (osTag F G true (sl D 0 (D.length - mm)) A (bgO F N (nI mm))) (nI mm)) (rd D (D.length - mm)) = 0 then none else some (osF F G true (sl D 0 (D.length - mm)) (bgO F N (nI mm))).2.2)) := by
  refine RC.of [(0, .ref 61), (1, .int 16), (2, .int 1)] (by decide +kernel) rfl (Nat.le_of_ble_eq_true rfl) ?_
  have hm8 : 4 ≤ m ∧ m ≤ 8 := by omega
  refine R_iload_n (pc := 0) 1 dX12_use_0 rfl rfl ?_
  refine R_iconst (pc := 1) (v := 1) dX12_use_1 (by decide) ?_
  refine R_bipush (pc := 2) (v := 16) dX12_use_2 (by decide) ?_
  refine R_callSp (pc := 4) (μ' := mX12_in) (As := [.int 16, .int 1, .int 16]) (st := []) dX12_use_4 zX12_in lX12_108 ⟨by decide, by decide⟩ rfl rfl ⟨by decide, by decide⟩ rfl (Nat.le_of_ble_eq_true rfl) (qX12_in l w _ _ _ _ _) ?_
  refine R_eqi (y := 1) (by decide) ?_
  refine R_if_ne (pc := 7) (tgt := 13) dX12_use_7 (by decide) (fun c_1 => ?_) (fun c_1 => absurd c_1 (by decide))
  refine R_aload_n (pc := 13) 0 dX12_use_13 rfl rfl ?_
  refine R_iload_n (pc := 14) 1 dX12_use_14 rfl rfl ?_
  refine R_bipush (pc := 15) (v := 9) dX12_use_15 (by decide) ?_
  refine R_icmp_eq (pc := 17) (tgt := 26) dX12_use_17 (by decide) (fun c_2 => absurd c_2 (by decide)) (fun c_2 => ?_)
  refine R_iload_n (pc := 20) 1 dX12_use_20 rfl rfl ?_
  refine R_bipush (pc := 21) (v := 15) dX12_use_21 (by decide) ?_
  refine R_icmp_ne (pc := 23) (tgt := 30) dX12_use_23 (by decide) (fun c_3 => ?_) (fun c_3 => absurd c_3 (by decide))
  refine R_iconst (pc := 30) (v := 0) dX12_use_30 (by decide) ?_
  refine R_callVh (pc := 31) (μ' := mX12_hasKeys) (As := [.int 0]) (st := []) dX12_use_31 zX12_hasKeys lX12_250 ⟨by decide, by decide⟩ rfl rfl ⟨by decide, by decide⟩ S.obj (by omega) rfl (Nat.le_of_ble_eq_true rfl) (oX12_hasKeys_0 S hn m hz0 hm B hB) (fun h_4 r_ q_5 => ?_)
  obtain ⟨ψa, rfl, Sa, Ka, Ea, Fa⟩ := q_5
  refine R_if_ne (pc := 34) (tgt := 40) dX12_use_34 (by decide) (fun c_6 => ?_) (fun c_6 => absurd c_6 (by decide))
  refine R_aload_n (pc := 40) 0 dX12_use_40 rfl rfl ?_
  refine R_iload_n (pc := 41) 1 dX12_use_41 rfl rfl ?_
  refine R_iload_n (pc := 42) 2 dX12_use_42 rfl rfl ?_
  refine R_callVh (pc := 43) (μ' := mX12_fits) (As := [.int 16, .int 1]) (st := []) dX12_use_43 zX12_fits lX12_254 ⟨by decide, by decide⟩ rfl rfl ⟨by decide, by decide⟩ Sa.obj (by omega) rfl (Nat.le_of_ble_eq_true rfl) (oX12_fits_16o Sa hn D.length N.length mm hD hN (by omega) hz1 hz2 hi1 hP) (fun h_7 r_ q_8 => ?_)
  obtain ⟨rfl, Sb, Fb⟩ := q_8
  refine R_if_ne (pc := 46) (tgt := 52) dX12_use_46 (by decide) (fun c_9 => ?_) (fun c_9 => absurd c_9 (by decide))
  refine R_aload_n (pc := 52) 0 dX12_use_52 rfl rfl ?_
  refine R_callVh (pc := 53) (μ' := mX12_load) (As := []) (st := []) dX12_use_53 zX12_load lX12_258 ⟨by decide, by decide⟩ rfl rfl ⟨by decide, by decide⟩ Sb.obj (by omega) rfl (Nat.le_of_ble_eq_true rfl) (oX12_load Sb hn D.length N.length A.length hz1 hz2 hz3 hD hN hA) (fun h_10 r_ q_11 => ?_)
  obtain ⟨rfl, Sc, Fc⟩ := q_11
  obtain ⟨ψc, ec⟩ : ∃ x, x = (uo (uo (uo ψa 71 (cpB (ψa 62) 512 (ψa 71) 0 D.length)) 73 (cpB (ψa 62) 1024 (ψa 73) 0 N.length)) 74 (cpB (ψa 62) 1536 (ψa 74) 0 A.length)) := ⟨_, rfl⟩
  rw [← ec] at Sc
  have Kc : FR [67, 68, 71, 72, 73, 74, 75, 76, 77, 78, 79, 80, 81, 82, 83, 84, 85, 86, 87, 88, 89, 90] ψ ψc := by rw [ec]; exact (((((FR.rf _ _).tr Ka (by decide)).up (by decide)).up (by decide)).up (by decide))
  have e62 : ψa 62 = ψ 62 := Ka 62 (by decide)
  have sD : sg (ψc 71) 0 D := by rw [ec]; exact (show sg (ψa 62) 512 D by rw [e62]; exact s1).cp (ψa 71) 0 rfl
  have sN : sg (ψc 73) 0 N := by rw [ec]; exact (show sg (ψa 62) 1024 N by rw [e62]; exact s2).cp (ψa 73) 0 rfl
  have sA : sg (ψc 74) 0 A := by rw [ec]; exact (show sg (ψa 62) 1536 A by rw [e62]; exact s3).cp (ψa 74) 0 rfl
  have K0 : Kh ψc 0 F G := HK0 ψc Kc (by rw [ec]; exact Ea)
  refine R_iconst (pc := 56) (v := 0) dX12_use_56 (by decide) ?_
  refine R_istore_n (pc := 57) (lv' := [(3, .int 0), (0, .ref 61), (1, .int 16), (2, .int 1)]) dX12_use_57 rfl (by decide) rfl ?_
  refine R_iload_n (pc := 58) 2 dX12_use_58 rfl rfl ?_
  refine R_tableOut (pc := 59) (tgt := 327) dX12_use_59 (by decide) (by decide) ?_
  refine R_aload_n (pc := 327) 1 dX12_use_327 rfl rfl ?_
  refine R_iload_n (pc := 328) 2 dX12_use_328 rfl rfl ?_
  refine R_iload_n (pc := 329) 3 dX12_use_329 rfl rfl ?_
  refine R_callVh (pc := 330) (μ' := mX12_tagged) (As := [.int 16, .int 1]) (st := []) dX12_use_330 zX12_tagged lX12_293 ⟨by decide, by decide⟩ rfl rfl ⟨by decide, by decide⟩ Sc.obj (by omega) rfl (Nat.le_of_ble_eq_true rfl) (oX12_tagged_16o Sc hn A N D mm hA hN hD hmm hmm16 hi1 rfl rfl rfl sA sN sD K0 (by have := hP.1; omega) (by have := hP.1; omega) hP.2) (fun h_12 r_ q_13 => ?_)
  obtain ⟨ψd, id, rfl, Sd, Id, zd, Kd, Yd, Fd⟩ := q_13
  refine R_istore_n (pc := 333) (lv' := [(3, .int (if smI (kf (osTag F G true (sl D 0 (D.length - mm)) A (bgO F N (nI mm))) (nI mm)) (rd D (D.length - mm)) = 0 then -6 else 0)), (0, .ref 61), (1, .int 16), (2, .int 1)]) dX12_use_333 rfl (by decide) rfl ?_
  refine R_iload_n (pc := 334) 0 dX12_use_334 rfl rfl ?_
  refine R_if_ge (pc := 335) (tgt := 342) dX12_use_335 (by decide) (fun c_14 => ?_) (fun c_14 => ?_)
  · skip
    have hc := ifge1 c_14
    have yF : sg (ψd 72) 0 (osF F G true (sl D 0 (D.length - mm)) (bgO F N (nI mm))).2.2 := Yd
    have lF : (osF F G true (sl D 0 (D.length - mm)) (bgO F N (nI mm))).2.2.length = D.length - mm := (show (osF F G true (sl D 0 (D.length - mm)) (bgO F N (nI mm))).2.2.length = (sl D 0 (D.length - mm)).length from osF_len _ _ _ _ _ (by rw [sl_len]; omega)).trans (sl_len _ _ _)
    have hl7 : (osF F G true (sl D 0 (D.length - mm)) (bgO F N (nI mm))).2.2.length ≤ 700 := by rw [lF]; omega
    refine R_aload_n (pc := 342) 1 dX12_use_342 rfl rfl ?_
    refine R_aload_n (pc := 343) 1 dX12_use_343 rfl rfl ?_
    refine R_get (pc := 344) dX12_use_344 fX12_44 Sd.obj (by omega) rfl ?_
    refine R_aload_n (pc := 347) 1 dX12_use_347 rfl rfl ?_
    refine R_get (pc := 348) dX12_use_348 fX12_153 Sd.obj (by omega) rfl ?_
    refine R_eqi (y := id 4) rfl ?_
    refine R_eqi (y := nI (osF F G true (sl D 0 (D.length - mm)) (bgO F N (nI mm))).2.2.length) (zd.trans (by rw [lF])) ?_
    refine R_callVh (pc := 351) (μ' := mX12_come) (As := [.ref 72, .int (nI (osF F G true (sl D 0 (D.length - mm)) (bgO F N (nI mm))).2.2.length)]) (st := []) dX12_use_351 zX12_come lX12_297 ⟨by decide, by decide⟩ rfl rfl ⟨by decide, by decide⟩ Sd.obj (by omega) rfl (Nat.le_of_ble_eq_true rfl) (oX12_come Sd hn (p := 72) rfl (by decide) (osF F G true (sl D 0 (D.length - mm)) (bgO F N (nI mm))).2.2.length hl7 hl7) (fun h_15 r_ q_16 => ?_)
    obtain ⟨rfl, Se, Fe⟩ := q_16
    have KF : FR [67, 68, 71, 72, 73, 74, 75, 76, 77, 78, 79, 80, 81, 82, 83, 84, 85, 86, 87, 88, 89, 90] ψ ψd := (Kc.tr Kd (by decide))
    rw [if_neg hc, if_neg hc, if_neg hc]
    exact R_ireturn (pc := 354) dX12_use_354 rfl (by decide) (by decide) ⟨rfl, _, _, rfl, Se, ⟨KF 62 (by decide), KF 65 (by decide), KF 66 (by decide)⟩, ⟨(Id 0 (by decide)), (Id 1 (by decide))⟩, ⟨sg.cp yF _ 0 rfl, ui_s _ _ _⟩, ((((Fa.tr Fb).tr Fc).tr Fd).tr Fe)⟩
  · skip
    refine R_iload_n (pc := 338) 0 dX12_use_338 rfl rfl ?_
    refine R_goto (pc := 339) (tgt := 354) dX12_use_339 (by decide) ?_
    have KF : FR [67, 68, 71, 72, 73, 74, 75, 76, 77, 78, 79, 80, 81, 82, 83, 84, 85, 86, 87, 88, 89, 90] ψ ψd := (Kc.tr Kd (by decide))
    have hc : smI (kf (osTag F G true (sl D 0 (D.length - mm)) A (bgO F N (nI mm))) (nI mm)) (rd D (D.length - mm)) = 0 := Decidable.not_not.mp (fun q_ => c_14 (by rw [if_neg q_]; decide))
    rw [if_pos hc, if_pos hc, if_pos hc]
    exact R_ireturn (pc := 354) dX12_use_354 rfl (by decide) (by decide) ⟨rfl, _, _, rfl, Sd, ⟨KF 62 (by decide), KF 65 (by decide), KF 66 (by decide)⟩, ⟨(Id 0 (by decide)), (Id 1 (by decide))⟩, ⟨KF 64 (by decide), (Id 2 (by decide))⟩, (((Fa.tr Fb).tr Fc).tr Fd)⟩
set_option maxHeartbeats 1000000 in
set_option maxRecDepth 100000 in
theorem oX12_use_9s0 {l : Launch} {w : am_W} {h : am_H} {n : Nat} {ψ : Nat → oA} {z : fA} {i : mI} (S : MO h ψ z i) (hn : 90 ≤ n) (A N D : List (BitVec 8)) (mm m : Nat) (hA : A.length ≤ 256) (hN : N.length ≤ 64) (hD : D.length ≤ 512) (hmm : 4 ≤ mm) (hmm16 : mm ≤ 16) (hi1 : i 1 = nI mm) (hz0 : z 0 = nI (8 * m)) (hm : m = 4 ∨ m = 6 ∨ m = 8) (hz1 : z 1 = nI D.length) (hz2 : z 2 = nI N.length) (hz3 : z 3 = nI A.length) (s1 : sg (ψ 62) 512 D) (s2 : sg (ψ 62) 1024 N) (s3 : sg (ψ 62) 1536 A) (B : BitVec 8 → BitVec 8) (hB : ∀ v : BitVec 8, ψ 65 v.toNat = B v) {F G : bP → bP} (HK0 : ∀ ψ2, FR [67, 68, 71, 72, 73, 74, 75, 76, 77, 78, 79, 80, 81, 82, 83, 84, 85, 86, 87, 88, 89, 90] ψ ψ2 → exK ψ2 B 0 0 m → Kh ψ2 0 F G) {F1 G1 : bP → bP} (HK1 : ∀ ψ2, FR [67, 68, 71, 72, 73, 74, 75, 76, 77, 78, 79, 80, 81, 82, 83, 84, 85, 86, 87, 88, 89, 90] ψ ψ2 → exK ψ2 B 1 (4 * m) m → Kh ψ2 1 F1 G1) (hP : ftP 9 0 D.length N.length mm) (y0 : bP) (hr0 : D.length % 16 = 0) : RH l w mX12_use h n [.ref 61, .int 9, .int 0] (uQ h ψ z i (nI (scE F D (F1 (rd N 0)) y0).length) (some (scE F D (F1 (rd N 0)) y0))) := by
  refine RC.of [(0, .ref 61), (1, .int 9), (2, .int 0)] (by decide +kernel) rfl (Nat.le_of_ble_eq_true rfl) ?_
  have hm8 : 4 ≤ m ∧ m ≤ 8 := by omega
  refine R_iload_n (pc := 0) 1 dX12_use_0 rfl rfl ?_
  refine R_iconst (pc := 1) (v := 1) dX12_use_1 (by decide) ?_
  refine R_bipush (pc := 2) (v := 16) dX12_use_2 (by decide) ?_
  refine R_callSp (pc := 4) (μ' := mX12_in) (As := [.int 9, .int 1, .int 16]) (st := []) dX12_use_4 zX12_in lX12_108 ⟨by decide, by decide⟩ rfl rfl ⟨by decide, by decide⟩ rfl (Nat.le_of_ble_eq_true rfl) (qX12_in l w _ _ _ _ _) ?_
  refine R_eqi (y := 1) (by decide) ?_
  refine R_if_ne (pc := 7) (tgt := 13) dX12_use_7 (by decide) (fun c_1 => ?_) (fun c_1 => absurd c_1 (by decide))
  refine R_aload_n (pc := 13) 0 dX12_use_13 rfl rfl ?_
  refine R_iload_n (pc := 14) 1 dX12_use_14 rfl rfl ?_
  refine R_bipush (pc := 15) (v := 9) dX12_use_15 (by decide) ?_
  refine R_icmp_eq (pc := 17) (tgt := 26) dX12_use_17 (by decide) (fun c_2 => ?_) (fun c_2 => absurd (rfl) c_2)
  refine R_iconst (pc := 26) (v := 1) dX12_use_26 (by decide) ?_
  refine R_goto (pc := 27) (tgt := 31) dX12_use_27 (by decide) ?_
  refine R_callVh (pc := 31) (μ' := mX12_hasKeys) (As := [.int 1]) (st := []) dX12_use_31 zX12_hasKeys lX12_250 ⟨by decide, by decide⟩ rfl rfl ⟨by decide, by decide⟩ S.obj (by omega) rfl (Nat.le_of_ble_eq_true rfl) (oX12_hasKeys_1 S hn m hz0 hm B hB) (fun h_3 r_ q_4 => ?_)
  obtain ⟨ψa, rfl, Sa, Ka, Ea, Fa⟩ := q_4
  refine R_if_ne (pc := 34) (tgt := 40) dX12_use_34 (by decide) (fun c_5 => ?_) (fun c_5 => absurd c_5 (by decide))
  refine R_aload_n (pc := 40) 0 dX12_use_40 rfl rfl ?_
  refine R_iload_n (pc := 41) 1 dX12_use_41 rfl rfl ?_
  refine R_iload_n (pc := 42) 2 dX12_use_42 rfl rfl ?_
  refine R_callVh (pc := 43) (μ' := mX12_fits) (As := [.int 9, .int 0]) (st := []) dX12_use_43 zX12_fits lX12_254 ⟨by decide, by decide⟩ rfl rfl ⟨by decide, by decide⟩ Sa.obj (by omega) rfl (Nat.le_of_ble_eq_true rfl) (oX12_fits_9s Sa hn D.length N.length mm hD hN (by omega) hz1 hz2 hi1 hP) (fun h_6 r_ q_7 => ?_)
  obtain ⟨rfl, Sb, Fb⟩ := q_7
  refine R_if_ne (pc := 46) (tgt := 52) dX12_use_46 (by decide) (fun c_8 => ?_) (fun c_8 => absurd c_8 (by decide))
  refine R_aload_n (pc := 52) 0 dX12_use_52 rfl rfl ?_
  refine R_callVh (pc := 53) (μ' := mX12_load) (As := []) (st := []) dX12_use_53 zX12_load lX12_258 ⟨by decide, by decide⟩ rfl rfl ⟨by decide, by decide⟩ Sb.obj (by omega) rfl (Nat.le_of_ble_eq_true rfl) (oX12_load Sb hn D.length N.length A.length hz1 hz2 hz3 hD hN hA) (fun h_9 r_ q_10 => ?_)
  obtain ⟨rfl, Sc, Fc⟩ := q_10
  obtain ⟨ψc, ec⟩ : ∃ x, x = (uo (uo (uo ψa 71 (cpB (ψa 62) 512 (ψa 71) 0 D.length)) 73 (cpB (ψa 62) 1024 (ψa 73) 0 N.length)) 74 (cpB (ψa 62) 1536 (ψa 74) 0 A.length)) := ⟨_, rfl⟩
  rw [← ec] at Sc
  have Kc : FR [67, 68, 71, 72, 73, 74, 75, 76, 77, 78, 79, 80, 81, 82, 83, 84, 85, 86, 87, 88, 89, 90] ψ ψc := by rw [ec]; exact (((((FR.rf _ _).tr Ka (by decide)).up (by decide)).up (by decide)).up (by decide))
  have e62 : ψa 62 = ψ 62 := Ka 62 (by decide)
  have sD : sg (ψc 71) 0 D := by rw [ec]; exact (show sg (ψa 62) 512 D by rw [e62]; exact s1).cp (ψa 71) 0 rfl
  have sN : sg (ψc 73) 0 N := by rw [ec]; exact (show sg (ψa 62) 1024 N by rw [e62]; exact s2).cp (ψa 73) 0 rfl
  have sA : sg (ψc 74) 0 A := by rw [ec]; exact (show sg (ψa 62) 1536 A by rw [e62]; exact s3).cp (ψa 74) 0 rfl
  have K0 : Kh ψc 0 F G := HK0 ψc Kc (by rw [ec]; exact Ea.1)
  have K1 : Kh ψc 1 F1 G1 := HK1 ψc Kc (by rw [ec]; exact Ea.2)
  have eN : gt (ψc 73) 0 = rd N 0 := sg_rd0 sN (by have h_ : N.length = 16 := hP.1; omega)
  refine R_iconst (pc := 56) (v := 0) dX12_use_56 (by decide) ?_
  refine R_istore_n (pc := 57) (lv' := [(3, .int 0), (0, .ref 61), (1, .int 9), (2, .int 0)]) dX12_use_57 rfl (by decide) rfl ?_
  refine R_iload_n (pc := 58) 2 dX12_use_58 rfl rfl ?_
  refine R_tableIn (pc := 59) (tgt := 292) dX12_use_59 (by decide) (by decide) rfl (by decide) ?_
  refine R_aload_n (pc := 292) 1 dX12_use_292 rfl rfl ?_
  refine R_iload_n (pc := 293) 3 dX12_use_293 rfl rfl ?_
  refine R_callVh (pc := 294) (μ' := mX12_sector) (As := [.int 0]) (st := []) dX12_use_294 zX12_sector lX12_281 ⟨by decide, by decide⟩ rfl rfl ⟨by decide, by decide⟩ Sc.obj (by omega) rfl (Nat.le_of_ble_eq_true rfl) (oX12_sector_s0 Sc hn D (D.length / 16) (D.length % 16) (by have := hP.2; omega) (by omega) (by omega) hD rfl K0 K1 sD (by omega) y0) (fun h_11 r_ q_12 => ?_)
  obtain ⟨ψd, rfl, Sd, Kd, Yd, Fd⟩ := q_12
  rw [eN] at Yd
  refine R_goto (pc := 297) (tgt := 334) dX12_use_297 (by decide) ?_
  refine R_iload_n (pc := 334) 0 dX12_use_334 rfl rfl ?_
  refine R_if_ge (pc := 335) (tgt := 342) dX12_use_335 (by decide) (fun c_13 => ?_) (fun c_13 => absurd (by decide) c_13)
  have yF : sg (ψd 72) 0 (scE F D (F1 (rd N 0)) y0) := Yd
  have lF : (scE F D (F1 (rd N 0)) y0).length = D.length := scE_l F D _ _ (by have := hP.2; omega)
  have hl7 : (scE F D (F1 (rd N 0)) y0).length ≤ 700 := by rw [lF]; omega
  refine R_aload_n (pc := 342) 1 dX12_use_342 rfl rfl ?_
  refine R_aload_n (pc := 343) 1 dX12_use_343 rfl rfl ?_
  refine R_get (pc := 344) dX12_use_344 fX12_44 Sd.obj (by omega) rfl ?_
  refine R_aload_n (pc := 347) 1 dX12_use_347 rfl rfl ?_
  refine R_get (pc := 348) dX12_use_348 fX12_153 Sd.obj (by omega) rfl ?_
  refine R_eqi (y := nI (D.length)) rfl ?_
  refine R_eqi (y := nI (scE F D (F1 (rd N 0)) y0).length) (by rw [lF]) ?_
  refine R_callVh (pc := 351) (μ' := mX12_come) (As := [.ref 72, .int (nI (scE F D (F1 (rd N 0)) y0).length)]) (st := []) dX12_use_351 zX12_come lX12_297 ⟨by decide, by decide⟩ rfl rfl ⟨by decide, by decide⟩ Sd.obj (by omega) rfl (Nat.le_of_ble_eq_true rfl) (oX12_come Sd hn (p := 72) rfl (by decide) (scE F D (F1 (rd N 0)) y0).length hl7 hl7) (fun h_14 r_ q_15 => ?_)
  obtain ⟨rfl, Se, Fe⟩ := q_15
  have KF : FR [67, 68, 71, 72, 73, 74, 75, 76, 77, 78, 79, 80, 81, 82, 83, 84, 85, 86, 87, 88, 89, 90] ψ ψd := (Kc.tr Kd (by decide))
  exact R_ireturn (pc := 354) dX12_use_354 rfl (by decide) (by decide) ⟨rfl, _, _, rfl, Se, ⟨KF 62 (by decide), KF 65 (by decide), KF 66 (by decide)⟩, ⟨rfl, rfl⟩, ⟨sg.cp yF _ 0 rfl, ui_s _ _ _⟩, ((((Fa.tr Fb).tr Fc).tr Fd).tr Fe)⟩
set_option maxHeartbeats 1000000 in
set_option maxRecDepth 100000 in
theorem oX12_use_9sr {l : Launch} {w : am_W} {h : am_H} {n : Nat} {ψ : Nat → oA} {z : fA} {i : mI} (S : MO h ψ z i) (hn : 90 ≤ n) (A N D : List (BitVec 8)) (mm m : Nat) (hA : A.length ≤ 256) (hN : N.length ≤ 64) (hD : D.length ≤ 512) (hmm : 4 ≤ mm) (hmm16 : mm ≤ 16) (hi1 : i 1 = nI mm) (hz0 : z 0 = nI (8 * m)) (hm : m = 4 ∨ m = 6 ∨ m = 8) (hz1 : z 1 = nI D.length) (hz2 : z 2 = nI N.length) (hz3 : z 3 = nI A.length) (s1 : sg (ψ 62) 512 D) (s2 : sg (ψ 62) 1024 N) (s3 : sg (ψ 62) 1536 A) (B : BitVec 8 → BitVec 8) (hB : ∀ v : BitVec 8, ψ 65 v.toNat = B v) {F G : bP → bP} (HK0 : ∀ ψ2, FR [67, 68, 71, 72, 73, 74, 75, 76, 77, 78, 79, 80, 81, 82, 83, 84, 85, 86, 87, 88, 89, 90] ψ ψ2 → exK ψ2 B 0 0 m → Kh ψ2 0 F G) {F1 G1 : bP → bP} (HK1 : ∀ ψ2, FR [67, 68, 71, 72, 73, 74, 75, 76, 77, 78, 79, 80, 81, 82, 83, 84, 85, 86, 87, 88, 89, 90] ψ ψ2 → exK ψ2 B 1 (4 * m) m → Kh ψ2 1 F1 G1) (hP : ftP 9 0 D.length N.length mm) (y0 : bP) (hr0 : ¬ D.length % 16 = 0) : RH l w mX12_use h n [.ref 61, .int 9, .int 0] (uQ h ψ z i (nI (scE F D (F1 (rd N 0)) y0).length) (some (scE F D (F1 (rd N 0)) y0))) := by
  refine RC.of [(0, .ref 61), (1, .int 9), (2, .int 0)] (by decide +kernel) rfl (Nat.le_of_ble_eq_true rfl) ?_
  have hm8 : 4 ≤ m ∧ m ≤ 8 := by omega
  refine R_iload_n (pc := 0) 1 dX12_use_0 rfl rfl ?_
  refine R_iconst (pc := 1) (v := 1) dX12_use_1 (by decide) ?_
  refine R_bipush (pc := 2) (v := 16) dX12_use_2 (by decide) ?_
  refine R_callSp (pc := 4) (μ' := mX12_in) (As := [.int 9, .int 1, .int 16]) (st := []) dX12_use_4 zX12_in lX12_108 ⟨by decide, by decide⟩ rfl rfl ⟨by decide, by decide⟩ rfl (Nat.le_of_ble_eq_true rfl) (qX12_in l w _ _ _ _ _) ?_
  refine R_eqi (y := 1) (by decide) ?_
  refine R_if_ne (pc := 7) (tgt := 13) dX12_use_7 (by decide) (fun c_1 => ?_) (fun c_1 => absurd c_1 (by decide))
  refine R_aload_n (pc := 13) 0 dX12_use_13 rfl rfl ?_
  refine R_iload_n (pc := 14) 1 dX12_use_14 rfl rfl ?_
  refine R_bipush (pc := 15) (v := 9) dX12_use_15 (by decide) ?_
  refine R_icmp_eq (pc := 17) (tgt := 26) dX12_use_17 (by decide) (fun c_2 => ?_) (fun c_2 => absurd (rfl) c_2)
  refine R_iconst (pc := 26) (v := 1) dX12_use_26 (by decide) ?_
  refine R_goto (pc := 27) (tgt := 31) dX12_use_27 (by decide) ?_
  refine R_callVh (pc := 31) (μ' := mX12_hasKeys) (As := [.int 1]) (st := []) dX12_use_31 zX12_hasKeys lX12_250 ⟨by decide, by decide⟩ rfl rfl ⟨by decide, by decide⟩ S.obj (by omega) rfl (Nat.le_of_ble_eq_true rfl) (oX12_hasKeys_1 S hn m hz0 hm B hB) (fun h_3 r_ q_4 => ?_)
  obtain ⟨ψa, rfl, Sa, Ka, Ea, Fa⟩ := q_4
  refine R_if_ne (pc := 34) (tgt := 40) dX12_use_34 (by decide) (fun c_5 => ?_) (fun c_5 => absurd c_5 (by decide))
  refine R_aload_n (pc := 40) 0 dX12_use_40 rfl rfl ?_
  refine R_iload_n (pc := 41) 1 dX12_use_41 rfl rfl ?_
  refine R_iload_n (pc := 42) 2 dX12_use_42 rfl rfl ?_
  refine R_callVh (pc := 43) (μ' := mX12_fits) (As := [.int 9, .int 0]) (st := []) dX12_use_43 zX12_fits lX12_254 ⟨by decide, by decide⟩ rfl rfl ⟨by decide, by decide⟩ Sa.obj (by omega) rfl (Nat.le_of_ble_eq_true rfl) (oX12_fits_9s Sa hn D.length N.length mm hD hN (by omega) hz1 hz2 hi1 hP) (fun h_6 r_ q_7 => ?_)
  obtain ⟨rfl, Sb, Fb⟩ := q_7
  refine R_if_ne (pc := 46) (tgt := 52) dX12_use_46 (by decide) (fun c_8 => ?_) (fun c_8 => absurd c_8 (by decide))
  refine R_aload_n (pc := 52) 0 dX12_use_52 rfl rfl ?_
  refine R_callVh (pc := 53) (μ' := mX12_load) (As := []) (st := []) dX12_use_53 zX12_load lX12_258 ⟨by decide, by decide⟩ rfl rfl ⟨by decide, by decide⟩ Sb.obj (by omega) rfl (Nat.le_of_ble_eq_true rfl) (oX12_load Sb hn D.length N.length A.length hz1 hz2 hz3 hD hN hA) (fun h_9 r_ q_10 => ?_)
  obtain ⟨rfl, Sc, Fc⟩ := q_10
  obtain ⟨ψc, ec⟩ : ∃ x, x = (uo (uo (uo ψa 71 (cpB (ψa 62) 512 (ψa 71) 0 D.length)) 73 (cpB (ψa 62) 1024 (ψa 73) 0 N.length)) 74 (cpB (ψa 62) 1536 (ψa 74) 0 A.length)) := ⟨_, rfl⟩
  rw [← ec] at Sc
  have Kc : FR [67, 68, 71, 72, 73, 74, 75, 76, 77, 78, 79, 80, 81, 82, 83, 84, 85, 86, 87, 88, 89, 90] ψ ψc := by rw [ec]; exact (((((FR.rf _ _).tr Ka (by decide)).up (by decide)).up (by decide)).up (by decide))
  have e62 : ψa 62 = ψ 62 := Ka 62 (by decide)
  have sD : sg (ψc 71) 0 D := by rw [ec]; exact (show sg (ψa 62) 512 D by rw [e62]; exact s1).cp (ψa 71) 0 rfl
  have sN : sg (ψc 73) 0 N := by rw [ec]; exact (show sg (ψa 62) 1024 N by rw [e62]; exact s2).cp (ψa 73) 0 rfl
  have sA : sg (ψc 74) 0 A := by rw [ec]; exact (show sg (ψa 62) 1536 A by rw [e62]; exact s3).cp (ψa 74) 0 rfl
  have K0 : Kh ψc 0 F G := HK0 ψc Kc (by rw [ec]; exact Ea.1)
  have K1 : Kh ψc 1 F1 G1 := HK1 ψc Kc (by rw [ec]; exact Ea.2)
  have eN : gt (ψc 73) 0 = rd N 0 := sg_rd0 sN (by have h_ : N.length = 16 := hP.1; omega)
  refine R_iconst (pc := 56) (v := 0) dX12_use_56 (by decide) ?_
  refine R_istore_n (pc := 57) (lv' := [(3, .int 0), (0, .ref 61), (1, .int 9), (2, .int 0)]) dX12_use_57 rfl (by decide) rfl ?_
  refine R_iload_n (pc := 58) 2 dX12_use_58 rfl rfl ?_
  refine R_tableIn (pc := 59) (tgt := 292) dX12_use_59 (by decide) (by decide) rfl (by decide) ?_
  refine R_aload_n (pc := 292) 1 dX12_use_292 rfl rfl ?_
  refine R_iload_n (pc := 293) 3 dX12_use_293 rfl rfl ?_
  refine R_callVh (pc := 294) (μ' := mX12_sector) (As := [.int 0]) (st := []) dX12_use_294 zX12_sector lX12_281 ⟨by decide, by decide⟩ rfl rfl ⟨by decide, by decide⟩ Sc.obj (by omega) rfl (Nat.le_of_ble_eq_true rfl) (oX12_sector_sr Sc hn D (D.length / 16) (D.length % 16) (by have := hP.2; omega) (by omega) (by omega) hD rfl K0 K1 sD (by omega) y0) (fun h_11 r_ q_12 => ?_)
  obtain ⟨ψd, rfl, Sd, Kd, Yd, Fd⟩ := q_12
  rw [eN] at Yd
  refine R_goto (pc := 297) (tgt := 334) dX12_use_297 (by decide) ?_
  refine R_iload_n (pc := 334) 0 dX12_use_334 rfl rfl ?_
  refine R_if_ge (pc := 335) (tgt := 342) dX12_use_335 (by decide) (fun c_13 => ?_) (fun c_13 => absurd (by decide) c_13)
  have yF : sg (ψd 72) 0 (scE F D (F1 (rd N 0)) y0) := Yd
  have lF : (scE F D (F1 (rd N 0)) y0).length = D.length := scE_l F D _ _ (by have := hP.2; omega)
  have hl7 : (scE F D (F1 (rd N 0)) y0).length ≤ 700 := by rw [lF]; omega
  refine R_aload_n (pc := 342) 1 dX12_use_342 rfl rfl ?_
  refine R_aload_n (pc := 343) 1 dX12_use_343 rfl rfl ?_
  refine R_get (pc := 344) dX12_use_344 fX12_44 Sd.obj (by omega) rfl ?_
  refine R_aload_n (pc := 347) 1 dX12_use_347 rfl rfl ?_
  refine R_get (pc := 348) dX12_use_348 fX12_153 Sd.obj (by omega) rfl ?_
  refine R_eqi (y := nI (D.length)) rfl ?_
  refine R_eqi (y := nI (scE F D (F1 (rd N 0)) y0).length) (by rw [lF]) ?_
  refine R_callVh (pc := 351) (μ' := mX12_come) (As := [.ref 72, .int (nI (scE F D (F1 (rd N 0)) y0).length)]) (st := []) dX12_use_351 zX12_come lX12_297 ⟨by decide, by decide⟩ rfl rfl ⟨by decide, by decide⟩ Sd.obj (by omega) rfl (Nat.le_of_ble_eq_true rfl) (oX12_come Sd hn (p := 72) rfl (by decide) (scE F D (F1 (rd N 0)) y0).length hl7 hl7) (fun h_14 r_ q_15 => ?_)
  obtain ⟨rfl, Se, Fe⟩ := q_15
  have KF : FR [67, 68, 71, 72, 73, 74, 75, 76, 77, 78, 79, 80, 81, 82, 83, 84, 85, 86, 87, 88, 89, 90] ψ ψd := (Kc.tr Kd (by decide))
  exact R_ireturn (pc := 354) dX12_use_354 rfl (by decide) (by decide) ⟨rfl, _, _, rfl, Se, ⟨KF 62 (by decide), KF 65 (by decide), KF 66 (by decide)⟩, ⟨rfl, rfl⟩, ⟨sg.cp yF _ 0 rfl, ui_s _ _ _⟩, ((((Fa.tr Fb).tr Fc).tr Fd).tr Fe)⟩
set_option maxHeartbeats 1000000 in
set_option maxRecDepth 100000 in
theorem oX12_use_9o0 {l : Launch} {w : am_W} {h : am_H} {n : Nat} {ψ : Nat → oA} {z : fA} {i : mI} (S : MO h ψ z i) (hn : 90 ≤ n) (A N D : List (BitVec 8)) (mm m : Nat) (hA : A.length ≤ 256) (hN : N.length ≤ 64) (hD : D.length ≤ 512) (hmm : 4 ≤ mm) (hmm16 : mm ≤ 16) (hi1 : i 1 = nI mm) (hz0 : z 0 = nI (8 * m)) (hm : m = 4 ∨ m = 6 ∨ m = 8) (hz1 : z 1 = nI D.length) (hz2 : z 2 = nI N.length) (hz3 : z 3 = nI A.length) (s1 : sg (ψ 62) 512 D) (s2 : sg (ψ 62) 1024 N) (s3 : sg (ψ 62) 1536 A) (B : BitVec 8 → BitVec 8) (hB : ∀ v : BitVec 8, ψ 65 v.toNat = B v) {F G : bP → bP} (HK0 : ∀ ψ2, FR [67, 68, 71, 72, 73, 74, 75, 76, 77, 78, 79, 80, 81, 82, 83, 84, 85, 86, 87, 88, 89, 90] ψ ψ2 → exK ψ2 B 0 0 m → Kh ψ2 0 F G) {F1 G1 : bP → bP} (HK1 : ∀ ψ2, FR [67, 68, 71, 72, 73, 74, 75, 76, 77, 78, 79, 80, 81, 82, 83, 84, 85, 86, 87, 88, 89, 90] ψ ψ2 → exK ψ2 B 1 (4 * m) m → Kh ψ2 1 F1 G1) (hP : ftP 9 1 D.length N.length mm) (hr0 : D.length % 16 = 0) : RH l w mX12_use h n [.ref 61, .int 9, .int 1] (uQ h ψ z i (nI (scD G D (F1 (rd N 0))).length) (some (scD G D (F1 (rd N 0))))) := by
  refine RC.of [(0, .ref 61), (1, .int 9), (2, .int 1)] (by decide +kernel) rfl (Nat.le_of_ble_eq_true rfl) ?_
  have hm8 : 4 ≤ m ∧ m ≤ 8 := by omega
  refine R_iload_n (pc := 0) 1 dX12_use_0 rfl rfl ?_
  refine R_iconst (pc := 1) (v := 1) dX12_use_1 (by decide) ?_
  refine R_bipush (pc := 2) (v := 16) dX12_use_2 (by decide) ?_
  refine R_callSp (pc := 4) (μ' := mX12_in) (As := [.int 9, .int 1, .int 16]) (st := []) dX12_use_4 zX12_in lX12_108 ⟨by decide, by decide⟩ rfl rfl ⟨by decide, by decide⟩ rfl (Nat.le_of_ble_eq_true rfl) (qX12_in l w _ _ _ _ _) ?_
  refine R_eqi (y := 1) (by decide) ?_
  refine R_if_ne (pc := 7) (tgt := 13) dX12_use_7 (by decide) (fun c_1 => ?_) (fun c_1 => absurd c_1 (by decide))
  refine R_aload_n (pc := 13) 0 dX12_use_13 rfl rfl ?_
  refine R_iload_n (pc := 14) 1 dX12_use_14 rfl rfl ?_
  refine R_bipush (pc := 15) (v := 9) dX12_use_15 (by decide) ?_
  refine R_icmp_eq (pc := 17) (tgt := 26) dX12_use_17 (by decide) (fun c_2 => ?_) (fun c_2 => absurd (rfl) c_2)
  refine R_iconst (pc := 26) (v := 1) dX12_use_26 (by decide) ?_
  refine R_goto (pc := 27) (tgt := 31) dX12_use_27 (by decide) ?_
  refine R_callVh (pc := 31) (μ' := mX12_hasKeys) (As := [.int 1]) (st := []) dX12_use_31 zX12_hasKeys lX12_250 ⟨by decide, by decide⟩ rfl rfl ⟨by decide, by decide⟩ S.obj (by omega) rfl (Nat.le_of_ble_eq_true rfl) (oX12_hasKeys_1 S hn m hz0 hm B hB) (fun h_3 r_ q_4 => ?_)
  obtain ⟨ψa, rfl, Sa, Ka, Ea, Fa⟩ := q_4
  refine R_if_ne (pc := 34) (tgt := 40) dX12_use_34 (by decide) (fun c_5 => ?_) (fun c_5 => absurd c_5 (by decide))
  refine R_aload_n (pc := 40) 0 dX12_use_40 rfl rfl ?_
  refine R_iload_n (pc := 41) 1 dX12_use_41 rfl rfl ?_
  refine R_iload_n (pc := 42) 2 dX12_use_42 rfl rfl ?_
  refine R_callVh (pc := 43) (μ' := mX12_fits) (As := [.int 9, .int 1]) (st := []) dX12_use_43 zX12_fits lX12_254 ⟨by decide, by decide⟩ rfl rfl ⟨by decide, by decide⟩ Sa.obj (by omega) rfl (Nat.le_of_ble_eq_true rfl) (oX12_fits_9o Sa hn D.length N.length mm hD hN (by omega) hz1 hz2 hi1 hP) (fun h_6 r_ q_7 => ?_)
  obtain ⟨rfl, Sb, Fb⟩ := q_7
  refine R_if_ne (pc := 46) (tgt := 52) dX12_use_46 (by decide) (fun c_8 => ?_) (fun c_8 => absurd c_8 (by decide))
  refine R_aload_n (pc := 52) 0 dX12_use_52 rfl rfl ?_
  refine R_callVh (pc := 53) (μ' := mX12_load) (As := []) (st := []) dX12_use_53 zX12_load lX12_258 ⟨by decide, by decide⟩ rfl rfl ⟨by decide, by decide⟩ Sb.obj (by omega) rfl (Nat.le_of_ble_eq_true rfl) (oX12_load Sb hn D.length N.length A.length hz1 hz2 hz3 hD hN hA) (fun h_9 r_ q_10 => ?_)
  obtain ⟨rfl, Sc, Fc⟩ := q_10
  obtain ⟨ψc, ec⟩ : ∃ x, x = (uo (uo (uo ψa 71 (cpB (ψa 62) 512 (ψa 71) 0 D.length)) 73 (cpB (ψa 62) 1024 (ψa 73) 0 N.length)) 74 (cpB (ψa 62) 1536 (ψa 74) 0 A.length)) := ⟨_, rfl⟩
  rw [← ec] at Sc
  have Kc : FR [67, 68, 71, 72, 73, 74, 75, 76, 77, 78, 79, 80, 81, 82, 83, 84, 85, 86, 87, 88, 89, 90] ψ ψc := by rw [ec]; exact (((((FR.rf _ _).tr Ka (by decide)).up (by decide)).up (by decide)).up (by decide))
  have e62 : ψa 62 = ψ 62 := Ka 62 (by decide)
  have sD : sg (ψc 71) 0 D := by rw [ec]; exact (show sg (ψa 62) 512 D by rw [e62]; exact s1).cp (ψa 71) 0 rfl
  have sN : sg (ψc 73) 0 N := by rw [ec]; exact (show sg (ψa 62) 1024 N by rw [e62]; exact s2).cp (ψa 73) 0 rfl
  have sA : sg (ψc 74) 0 A := by rw [ec]; exact (show sg (ψa 62) 1536 A by rw [e62]; exact s3).cp (ψa 74) 0 rfl
  have K0 : Kh ψc 0 F G := HK0 ψc Kc (by rw [ec]; exact Ea.1)
  have K1 : Kh ψc 1 F1 G1 := HK1 ψc Kc (by rw [ec]; exact Ea.2)
  have eN : gt (ψc 73) 0 = rd N 0 := sg_rd0 sN (by have h_ : N.length = 16 := hP.1; omega)
  refine R_iconst (pc := 56) (v := 0) dX12_use_56 (by decide) ?_
  refine R_istore_n (pc := 57) (lv' := [(3, .int 0), (0, .ref 61), (1, .int 9), (2, .int 1)]) dX12_use_57 rfl (by decide) rfl ?_
  refine R_iload_n (pc := 58) 2 dX12_use_58 rfl rfl ?_
  refine R_tableIn (pc := 59) (tgt := 292) dX12_use_59 (by decide) (by decide) rfl (by decide) ?_
  refine R_aload_n (pc := 292) 1 dX12_use_292 rfl rfl ?_
  refine R_iload_n (pc := 293) 3 dX12_use_293 rfl rfl ?_
  refine R_callVh (pc := 294) (μ' := mX12_sector) (As := [.int 1]) (st := []) dX12_use_294 zX12_sector lX12_281 ⟨by decide, by decide⟩ rfl rfl ⟨by decide, by decide⟩ Sc.obj (by omega) rfl (Nat.le_of_ble_eq_true rfl) (oX12_sector_o0 Sc hn D (D.length / 16) (D.length % 16) (by have := hP.2; omega) (by omega) (by omega) hD rfl K0 K1 sD (by omega)) (fun h_11 r_ q_12 => ?_)
  obtain ⟨ψd, rfl, Sd, Kd, Yd, Fd⟩ := q_12
  rw [eN] at Yd
  refine R_goto (pc := 297) (tgt := 334) dX12_use_297 (by decide) ?_
  refine R_iload_n (pc := 334) 0 dX12_use_334 rfl rfl ?_
  refine R_if_ge (pc := 335) (tgt := 342) dX12_use_335 (by decide) (fun c_13 => ?_) (fun c_13 => absurd (by decide) c_13)
  have yF : sg (ψd 72) 0 (scD G D (F1 (rd N 0))) := Yd
  have lF : (scD G D (F1 (rd N 0))).length = D.length := scD_l G D _ (by have := hP.2; omega)
  have hl7 : (scD G D (F1 (rd N 0))).length ≤ 700 := by rw [lF]; omega
  refine R_aload_n (pc := 342) 1 dX12_use_342 rfl rfl ?_
  refine R_aload_n (pc := 343) 1 dX12_use_343 rfl rfl ?_
  refine R_get (pc := 344) dX12_use_344 fX12_44 Sd.obj (by omega) rfl ?_
  refine R_aload_n (pc := 347) 1 dX12_use_347 rfl rfl ?_
  refine R_get (pc := 348) dX12_use_348 fX12_153 Sd.obj (by omega) rfl ?_
  refine R_eqi (y := nI (D.length)) rfl ?_
  refine R_eqi (y := nI (scD G D (F1 (rd N 0))).length) (by rw [lF]) ?_
  refine R_callVh (pc := 351) (μ' := mX12_come) (As := [.ref 72, .int (nI (scD G D (F1 (rd N 0))).length)]) (st := []) dX12_use_351 zX12_come lX12_297 ⟨by decide, by decide⟩ rfl rfl ⟨by decide, by decide⟩ Sd.obj (by omega) rfl (Nat.le_of_ble_eq_true rfl) (oX12_come Sd hn (p := 72) rfl (by decide) (scD G D (F1 (rd N 0))).length hl7 hl7) (fun h_14 r_ q_15 => ?_)
  obtain ⟨rfl, Se, Fe⟩ := q_15
  have KF : FR [67, 68, 71, 72, 73, 74, 75, 76, 77, 78, 79, 80, 81, 82, 83, 84, 85, 86, 87, 88, 89, 90] ψ ψd := (Kc.tr Kd (by decide))
  exact R_ireturn (pc := 354) dX12_use_354 rfl (by decide) (by decide) ⟨rfl, _, _, rfl, Se, ⟨KF 62 (by decide), KF 65 (by decide), KF 66 (by decide)⟩, ⟨rfl, rfl⟩, ⟨sg.cp yF _ 0 rfl, ui_s _ _ _⟩, ((((Fa.tr Fb).tr Fc).tr Fd).tr Fe)⟩
set_option maxHeartbeats 1000000 in
set_option maxRecDepth 100000 in
theorem oX12_use_9or {l : Launch} {w : am_W} {h : am_H} {n : Nat} {ψ : Nat → oA} {z : fA} {i : mI} (S : MO h ψ z i) (hn : 90 ≤ n) (A N D : List (BitVec 8)) (mm m : Nat) (hA : A.length ≤ 256) (hN : N.length ≤ 64) (hD : D.length ≤ 512) (hmm : 4 ≤ mm) (hmm16 : mm ≤ 16) (hi1 : i 1 = nI mm) (hz0 : z 0 = nI (8 * m)) (hm : m = 4 ∨ m = 6 ∨ m = 8) (hz1 : z 1 = nI D.length) (hz2 : z 2 = nI N.length) (hz3 : z 3 = nI A.length) (s1 : sg (ψ 62) 512 D) (s2 : sg (ψ 62) 1024 N) (s3 : sg (ψ 62) 1536 A) (B : BitVec 8 → BitVec 8) (hB : ∀ v : BitVec 8, ψ 65 v.toNat = B v) {F G : bP → bP} (HK0 : ∀ ψ2, FR [67, 68, 71, 72, 73, 74, 75, 76, 77, 78, 79, 80, 81, 82, 83, 84, 85, 86, 87, 88, 89, 90] ψ ψ2 → exK ψ2 B 0 0 m → Kh ψ2 0 F G) {F1 G1 : bP → bP} (HK1 : ∀ ψ2, FR [67, 68, 71, 72, 73, 74, 75, 76, 77, 78, 79, 80, 81, 82, 83, 84, 85, 86, 87, 88, 89, 90] ψ ψ2 → exK ψ2 B 1 (4 * m) m → Kh ψ2 1 F1 G1) (hP : ftP 9 1 D.length N.length mm) (hr0 : ¬ D.length % 16 = 0) : RH l w mX12_use h n [.ref 61, .int 9, .int 1] (uQ h ψ z i (nI (scD G D (F1 (rd N 0))).length) (some (scD G D (F1 (rd N 0))))) := by
  refine RC.of [(0, .ref 61), (1, .int 9), (2, .int 1)] (by decide +kernel) rfl (Nat.le_of_ble_eq_true rfl) ?_
  have hm8 : 4 ≤ m ∧ m ≤ 8 := by omega
  refine R_iload_n (pc := 0) 1 dX12_use_0 rfl rfl ?_
  refine R_iconst (pc := 1) (v := 1) dX12_use_1 (by decide) ?_
  refine R_bipush (pc := 2) (v := 16) dX12_use_2 (by decide) ?_
  refine R_callSp (pc := 4) (μ' := mX12_in) (As := [.int 9, .int 1, .int 16]) (st := []) dX12_use_4 zX12_in lX12_108 ⟨by decide, by decide⟩ rfl rfl ⟨by decide, by decide⟩ rfl (Nat.le_of_ble_eq_true rfl) (qX12_in l w _ _ _ _ _) ?_
  refine R_eqi (y := 1) (by decide) ?_
  refine R_if_ne (pc := 7) (tgt := 13) dX12_use_7 (by decide) (fun c_1 => ?_) (fun c_1 => absurd c_1 (by decide))
  refine R_aload_n (pc := 13) 0 dX12_use_13 rfl rfl ?_
  refine R_iload_n (pc := 14) 1 dX12_use_14 rfl rfl ?_
  refine R_bipush (pc := 15) (v := 9) dX12_use_15 (by decide) ?_
  refine R_icmp_eq (pc := 17) (tgt := 26) dX12_use_17 (by decide) (fun c_2 => ?_) (fun c_2 => absurd (rfl) c_2)
  refine R_iconst (pc := 26) (v := 1) dX12_use_26 (by decide) ?_
  refine R_goto (pc := 27) (tgt := 31) dX12_use_27 (by decide) ?_
  refine R_callVh (pc := 31) (μ' := mX12_hasKeys) (As := [.int 1]) (st := []) dX12_use_31 zX12_hasKeys lX12_250 ⟨by decide, by decide⟩ rfl rfl ⟨by decide, by decide⟩ S.obj (by omega) rfl (Nat.le_of_ble_eq_true rfl) (oX12_hasKeys_1 S hn m hz0 hm B hB) (fun h_3 r_ q_4 => ?_)
  obtain ⟨ψa, rfl, Sa, Ka, Ea, Fa⟩ := q_4
  refine R_if_ne (pc := 34) (tgt := 40) dX12_use_34 (by decide) (fun c_5 => ?_) (fun c_5 => absurd c_5 (by decide))
  refine R_aload_n (pc := 40) 0 dX12_use_40 rfl rfl ?_
  refine R_iload_n (pc := 41) 1 dX12_use_41 rfl rfl ?_
  refine R_iload_n (pc := 42) 2 dX12_use_42 rfl rfl ?_
  refine R_callVh (pc := 43) (μ' := mX12_fits) (As := [.int 9, .int 1]) (st := []) dX12_use_43 zX12_fits lX12_254 ⟨by decide, by decide⟩ rfl rfl ⟨by decide, by decide⟩ Sa.obj (by omega) rfl (Nat.le_of_ble_eq_true rfl) (oX12_fits_9o Sa hn D.length N.length mm hD hN (by omega) hz1 hz2 hi1 hP) (fun h_6 r_ q_7 => ?_)
  obtain ⟨rfl, Sb, Fb⟩ := q_7
  refine R_if_ne (pc := 46) (tgt := 52) dX12_use_46 (by decide) (fun c_8 => ?_) (fun c_8 => absurd c_8 (by decide))
  refine R_aload_n (pc := 52) 0 dX12_use_52 rfl rfl ?_
  refine R_callVh (pc := 53) (μ' := mX12_load) (As := []) (st := []) dX12_use_53 zX12_load lX12_258 ⟨by decide, by decide⟩ rfl rfl ⟨by decide, by decide⟩ Sb.obj (by omega) rfl (Nat.le_of_ble_eq_true rfl) (oX12_load Sb hn D.length N.length A.length hz1 hz2 hz3 hD hN hA) (fun h_9 r_ q_10 => ?_)
  obtain ⟨rfl, Sc, Fc⟩ := q_10
  obtain ⟨ψc, ec⟩ : ∃ x, x = (uo (uo (uo ψa 71 (cpB (ψa 62) 512 (ψa 71) 0 D.length)) 73 (cpB (ψa 62) 1024 (ψa 73) 0 N.length)) 74 (cpB (ψa 62) 1536 (ψa 74) 0 A.length)) := ⟨_, rfl⟩
  rw [← ec] at Sc
  have Kc : FR [67, 68, 71, 72, 73, 74, 75, 76, 77, 78, 79, 80, 81, 82, 83, 84, 85, 86, 87, 88, 89, 90] ψ ψc := by rw [ec]; exact (((((FR.rf _ _).tr Ka (by decide)).up (by decide)).up (by decide)).up (by decide))
  have e62 : ψa 62 = ψ 62 := Ka 62 (by decide)
  have sD : sg (ψc 71) 0 D := by rw [ec]; exact (show sg (ψa 62) 512 D by rw [e62]; exact s1).cp (ψa 71) 0 rfl
  have sN : sg (ψc 73) 0 N := by rw [ec]; exact (show sg (ψa 62) 1024 N by rw [e62]; exact s2).cp (ψa 73) 0 rfl
  have sA : sg (ψc 74) 0 A := by rw [ec]; exact (show sg (ψa 62) 1536 A by rw [e62]; exact s3).cp (ψa 74) 0 rfl
  have K0 : Kh ψc 0 F G := HK0 ψc Kc (by rw [ec]; exact Ea.1)
  have K1 : Kh ψc 1 F1 G1 := HK1 ψc Kc (by rw [ec]; exact Ea.2)
  have eN : gt (ψc 73) 0 = rd N 0 := sg_rd0 sN (by have h_ : N.length = 16 := hP.1; omega)
  refine R_iconst (pc := 56) (v := 0) dX12_use_56 (by decide) ?_
  refine R_istore_n (pc := 57) (lv' := [(3, .int 0), (0, .ref 61), (1, .int 9), (2, .int 1)]) dX12_use_57 rfl (by decide) rfl ?_
  refine R_iload_n (pc := 58) 2 dX12_use_58 rfl rfl ?_
  refine R_tableIn (pc := 59) (tgt := 292) dX12_use_59 (by decide) (by decide) rfl (by decide) ?_
  refine R_aload_n (pc := 292) 1 dX12_use_292 rfl rfl ?_
  refine R_iload_n (pc := 293) 3 dX12_use_293 rfl rfl ?_
  refine R_callVh (pc := 294) (μ' := mX12_sector) (As := [.int 1]) (st := []) dX12_use_294 zX12_sector lX12_281 ⟨by decide, by decide⟩ rfl rfl ⟨by decide, by decide⟩ Sc.obj (by omega) rfl (Nat.le_of_ble_eq_true rfl) (oX12_sector_or Sc hn D (D.length / 16) (D.length % 16) (by have := hP.2; omega) (by omega) (by omega) hD rfl K0 K1 sD (by omega)) (fun h_11 r_ q_12 => ?_)
  obtain ⟨ψd, rfl, Sd, Kd, Yd, Fd⟩ := q_12
  rw [eN] at Yd
  refine R_goto (pc := 297) (tgt := 334) dX12_use_297 (by decide) ?_
  refine R_iload_n (pc := 334) 0 dX12_use_334 rfl rfl ?_
  refine R_if_ge (pc := 335) (tgt := 342) dX12_use_335 (by decide) (fun c_13 => ?_) (fun c_13 => absurd (by decide) c_13)
  have yF : sg (ψd 72) 0 (scD G D (F1 (rd N 0))) := Yd
  have lF : (scD G D (F1 (rd N 0))).length = D.length := scD_l G D _ (by have := hP.2; omega)
  have hl7 : (scD G D (F1 (rd N 0))).length ≤ 700 := by rw [lF]; omega
  refine R_aload_n (pc := 342) 1 dX12_use_342 rfl rfl ?_
  refine R_aload_n (pc := 343) 1 dX12_use_343 rfl rfl ?_
  refine R_get (pc := 344) dX12_use_344 fX12_44 Sd.obj (by omega) rfl ?_
  refine R_aload_n (pc := 347) 1 dX12_use_347 rfl rfl ?_
  refine R_get (pc := 348) dX12_use_348 fX12_153 Sd.obj (by omega) rfl ?_
  refine R_eqi (y := nI (D.length)) rfl ?_
  refine R_eqi (y := nI (scD G D (F1 (rd N 0))).length) (by rw [lF]) ?_
  refine R_callVh (pc := 351) (μ' := mX12_come) (As := [.ref 72, .int (nI (scD G D (F1 (rd N 0))).length)]) (st := []) dX12_use_351 zX12_come lX12_297 ⟨by decide, by decide⟩ rfl rfl ⟨by decide, by decide⟩ Sd.obj (by omega) rfl (Nat.le_of_ble_eq_true rfl) (oX12_come Sd hn (p := 72) rfl (by decide) (scD G D (F1 (rd N 0))).length hl7 hl7) (fun h_14 r_ q_15 => ?_)
  obtain ⟨rfl, Se, Fe⟩ := q_15
  have KF : FR [67, 68, 71, 72, 73, 74, 75, 76, 77, 78, 79, 80, 81, 82, 83, 84, 85, 86, 87, 88, 89, 90] ψ ψd := (Kc.tr Kd (by decide))
  exact R_ireturn (pc := 354) dX12_use_354 rfl (by decide) (by decide) ⟨rfl, _, _, rfl, Se, ⟨KF 62 (by decide), KF 65 (by decide), KF 66 (by decide)⟩, ⟨rfl, rfl⟩, ⟨sg.cp yF _ 0 rfl, ui_s _ _ _⟩, ((((Fa.tr Fb).tr Fc).tr Fd).tr Fe)⟩
