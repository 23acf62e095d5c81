set_option maxHeartbeats 1000000 in
set_option maxRecDepth 100000 in
theorem oX12_use_N {l : Launch} {w : am_W} {h : am_H} {n : Nat} {ψ : Nat → oA} {z : fA} {i : mI} (S : MO h ψ z i) (hn : 90 ≤ n) (v u : Int32) (hv : inI v 1 16 = 0) : RH l w mX12_use h n [.ref 61, .int v, .int u] (oQ h (some (.int (-2))) ψ z i) := by
  refine RC.of [(0, .ref 61), (1, .int v), (2, .int u)] (by decide +kernel) rfl (Nat.le_of_ble_eq_true rfl) ?_
  refine R_iload_n (pc := 0) 1 dX12_use_0 rfl rfl ?_
  refine R_iconst (pc := 1) (v := 1) dX12_use_1 (by decide) ?_
  refine R_bipush (pc := 2) (v := 16) dX12_use_2 (by decide) ?_
  refine R_callSp (pc := 4) (μ' := mX12_in) (As := [.int v, .int 1, .int 16]) (st := []) dX12_use_4 zX12_in lX12_108 ⟨by decide, by decide⟩ rfl rfl ⟨by decide, by decide⟩ rfl (Nat.le_of_ble_eq_true rfl) (qX12_in l w _ _ _ _ _) ?_
  refine R_if_ne (pc := 7) (tgt := 13) dX12_use_7 (by decide) (fun c_1 => absurd (hv) c_1) (fun c_1 => ?_)
  refine R_bipush (pc := 10) (v := (-2)) dX12_use_10 (by decide) ?_
  exact R_ireturn (pc := 12) dX12_use_12 rfl (by decide) (by decide) ⟨rfl, rfl, S, FM.rf h⟩
set_option maxHeartbeats 1000000 in
set_option maxRecDepth 100000 in
theorem oX12_use_K {l : Launch} {w : am_W} {h : am_H} {n : Nat} {ψ : Nat → oA} {z : fA} {i : mI} (S : MO h ψ z i) (hn : 90 ≤ n) (k L : Nat) (u : Int32) (hk : 1 ≤ k ∧ k ≤ 16) (hz0 : z 0 = nI L) (hL : L ≤ 64) (hno0 : k ≠ 9 ∧ k ≠ 15 → L ≠ 16 ∧ L ≠ 24 ∧ L ≠ 32) (hno1 : k = 9 ∨ k = 15 → ¬ (L % 2 = 0 ∧ (L / 2 = 16 ∨ L / 2 = 24 ∨ L / 2 = 32))) : RH l w mX12_use h n [.ref 61, .int (nI k), .int u] (oQ h (some (.int (-3))) ψ z i) := by
  refine RC.of [(0, .ref 61), (1, .int (nI k)), (2, .int u)] (by decide +kernel) rfl (Nat.le_of_ble_eq_true rfl) ?_
  refine R_iload_n (pc := 0) 1 dX12_use_0 rfl rfl ?_
  refine R_iconst (pc := 1) (v := 1) dX12_use_1 (by decide) ?_
  refine R_bipush (pc := 2) (v := 16) dX12_use_2 (by decide) ?_
  refine R_callSp (pc := 4) (μ' := mX12_in) (As := [.int (nI k), .int 1, .int 16]) (st := []) dX12_use_4 zX12_in lX12_108 ⟨by decide, by decide⟩ rfl rfl ⟨by decide, by decide⟩ rfl (Nat.le_of_ble_eq_true rfl) (qX12_in l w _ _ _ _ _) ?_
  refine R_if_ne (pc := 7) (tgt := 13) dX12_use_7 (by decide) (fun c_1 => ?_) (fun c_1 => absurd c_1 ((fun q_ => (in_nat (s := k) (a := 1) (b := 16) (by omega) (by omega) (by omega)).mp q_ hk)))
  refine R_aload_n (pc := 13) 0 dX12_use_13 rfl rfl ?_
  refine R_iload_n (pc := 14) 1 dX12_use_14 rfl rfl ?_
  refine R_bipush (pc := 15) (v := 9) dX12_use_15 (by decide) ?_
  refine R_icmp_eq (pc := 17) (tgt := 26) dX12_use_17 (by decide) (fun c_2 => ?_) (fun c_2 => ?_)
  · skip
    have nc_2 : k = 9 := (nI_eq (a := k) (b := 9) (by omega) (by omega)).mp c_2
    refine R_iconst (pc := 26) (v := 1) dX12_use_26 (by decide) ?_
    refine R_goto (pc := 27) (tgt := 31) dX12_use_27 (by decide) ?_
    refine R_callVh (pc := 31) (μ' := mX12_hasKeys) (As := [.int 1]) (st := []) dX12_use_31 zX12_hasKeys lX12_250 ⟨by decide, by decide⟩ rfl rfl ⟨by decide, by decide⟩ S.obj (by omega) rfl (Nat.le_of_ble_eq_true rfl) (oX12_hasKeys_1N S hn L hz0 hL (hno1 (by omega))) (fun h_3 r_ q_4 => ?_)
    obtain ⟨rfl, Sa, Fa⟩ := q_4
    refine R_if_ne (pc := 34) (tgt := 40) dX12_use_34 (by decide) (fun c_5 => absurd (rfl) c_5) (fun c_5 => ?_)
    refine R_bipush (pc := 37) (v := (-3)) dX12_use_37 (by decide) ?_
    exact R_ireturn (pc := 39) dX12_use_39 rfl (by decide) (by decide) ⟨rfl, rfl, Sa, Fa⟩
  · skip
    have nc_2 : ¬ (k = 9) := fun q_ => c_2 ((nI_eq (a := k) (b := 9) (by omega) (by omega)).mpr q_)
    refine R_iload_n (pc := 20) 1 dX12_use_20 rfl rfl ?_
    refine R_bipush (pc := 21) (v := 15) dX12_use_21 (by decide) ?_
    refine R_icmp_ne (pc := 23) (tgt := 30) dX12_use_23 (by decide) (fun c_6 => ?_) (fun c_6 => ?_)
    · skip
      have nc_6 : ¬ (k = 15) := fun q_ => c_6 ((nI_eq (a := k) (b := 15) (by omega) (by omega)).mpr q_)
      refine R_iconst (pc := 30) (v := 0) dX12_use_30 (by decide) ?_
      refine R_callVh (pc := 31) (μ' := mX12_hasKeys) (As := [.int 0]) (st := []) dX12_use_31 zX12_hasKeys lX12_250 ⟨by decide, by decide⟩ rfl rfl ⟨by decide, by decide⟩ S.obj (by omega) rfl (Nat.le_of_ble_eq_true rfl) (oX12_hasKeys_0N S hn L hz0 hL (hno0 (by omega))) (fun h_7 r_ q_8 => ?_)
      obtain ⟨rfl, Sa, Fa⟩ := q_8
      refine R_if_ne (pc := 34) (tgt := 40) dX12_use_34 (by decide) (fun c_9 => absurd (rfl) c_9) (fun c_9 => ?_)
      refine R_bipush (pc := 37) (v := (-3)) dX12_use_37 (by decide) ?_
      exact R_ireturn (pc := 39) dX12_use_39 rfl (by decide) (by decide) ⟨rfl, rfl, Sa, Fa⟩
    · skip
      have nc_6 : k = 15 := (nI_eq (a := k) (b := 15) (by omega) (by omega)).mp c_6
      refine R_iconst (pc := 26) (v := 1) dX12_use_26 (by decide) ?_
      refine R_goto (pc := 27) (tgt := 31) dX12_use_27 (by decide) ?_
      refine R_callVh (pc := 31) (μ' := mX12_hasKeys) (As := [.int 1]) (st := []) dX12_use_31 zX12_hasKeys lX12_250 ⟨by decide, by decide⟩ rfl rfl ⟨by decide, by decide⟩ S.obj (by omega) rfl (Nat.le_of_ble_eq_true rfl) (oX12_hasKeys_1N S hn L hz0 hL (hno1 (by omega))) (fun h_10 r_ q_11 => ?_)
      obtain ⟨rfl, Sa, Fa⟩ := q_11
      refine R_if_ne (pc := 34) (tgt := 40) dX12_use_34 (by decide) (fun c_12 => absurd (rfl) c_12) (fun c_12 => ?_)
      refine R_bipush (pc := 37) (v := (-3)) dX12_use_37 (by decide) ?_
      exact R_ireturn (pc := 39) dX12_use_39 rfl (by decide) (by decide) ⟨rfl, rfl, Sa, Fa⟩
set_option maxHeartbeats 1000000 in
set_option maxRecDepth 100000 in
theorem oX12_use_1sF {l : Launch} {w : am_W} {h : am_H} {n : Nat} {ψ : Nat → oA} {z : fA} {i : mI} (S : MO h ψ z i) (hn : 90 ≤ n) (d s mm m : Nat) (hd : d ≤ 512) (hs : s ≤ 64) (hmm16 : mm ≤ 16) (hi1 : i 1 = nI mm) (hz0 : z 0 = nI (4 * m)) (hm : m = 4 ∨ m = 6 ∨ m = 8) (hz1 : z 1 = nI d) (hz2 : z 2 = nI s) (B : BitVec 8 → BitVec 8) (hB : ∀ v : BitVec 8, ψ 65 v.toNat = B v) (hP : ¬ (ftP 1 0 d s mm)) : RH l w mX12_use h n [.ref 61, .int 1, .int 0] (uQ h ψ z i (-2) none) := by
  refine RC.of [(0, .ref 61), (1, .int 1), (2, .int 0)] (by decide +kernel) rfl (Nat.le_of_ble_eq_true rfl) ?_
  refine R_iload_n (pc := 0) 1 dX12_use_0 rfl rfl ?_
  refine R_iconst (pc := 1) (v := 1) dX12_use_1 (by decide) ?_
  refine R_bipush (pc := 2) (v := 16) dX12_use_2 (by decide) ?_
  refine R_callSp (pc := 4) (μ' := mX12_in) (As := [.int 1, .int 1, .int 16]) (st := []) dX12_use_4 zX12_in lX12_108 ⟨by decide, by decide⟩ rfl rfl ⟨by decide, by decide⟩ rfl (Nat.le_of_ble_eq_true rfl) (qX12_in l w _ _ _ _ _) ?_
  refine R_eqi (y := 1) (by decide) ?_
  refine R_if_ne (pc := 7) (tgt := 13) dX12_use_7 (by decide) (fun c_1 => ?_) (fun c_1 => absurd c_1 (by decide))
  refine R_aload_n (pc := 13) 0 dX12_use_13 rfl rfl ?_
  refine R_iload_n (pc := 14) 1 dX12_use_14 rfl rfl ?_
  refine R_bipush (pc := 15) (v := 9) dX12_use_15 (by decide) ?_
  refine R_icmp_eq (pc := 17) (tgt := 26) dX12_use_17 (by decide) (fun c_2 => absurd c_2 (by decide)) (fun c_2 => ?_)
  refine R_iload_n (pc := 20) 1 dX12_use_20 rfl rfl ?_
  refine R_bipush (pc := 21) (v := 15) dX12_use_21 (by decide) ?_
  refine R_icmp_ne (pc := 23) (tgt := 30) dX12_use_23 (by decide) (fun c_3 => ?_) (fun c_3 => absurd c_3 (by decide))
  refine R_iconst (pc := 30) (v := 0) dX12_use_30 (by decide) ?_
  refine R_callVh (pc := 31) (μ' := mX12_hasKeys) (As := [.int 0]) (st := []) dX12_use_31 zX12_hasKeys lX12_250 ⟨by decide, by decide⟩ rfl rfl ⟨by decide, by decide⟩ S.obj (by omega) rfl (Nat.le_of_ble_eq_true rfl) (oX12_hasKeys_0 S hn m hz0 hm B hB) (fun h_4 r_ q_5 => ?_)
  obtain ⟨ψa, rfl, Sa, Ka, Ea, Fa⟩ := q_5
  refine R_if_ne (pc := 34) (tgt := 40) dX12_use_34 (by decide) (fun c_6 => ?_) (fun c_6 => absurd c_6 (by decide))
  refine R_aload_n (pc := 40) 0 dX12_use_40 rfl rfl ?_
  refine R_iload_n (pc := 41) 1 dX12_use_41 rfl rfl ?_
  refine R_iload_n (pc := 42) 2 dX12_use_42 rfl rfl ?_
  refine R_callVh (pc := 43) (μ' := mX12_fits) (As := [.int 1, .int 0]) (st := []) dX12_use_43 zX12_fits lX12_254 ⟨by decide, by decide⟩ rfl rfl ⟨by decide, by decide⟩ Sa.obj (by omega) rfl (Nat.le_of_ble_eq_true rfl) (oX12_fits_1sN Sa hn d s mm hd hs (by omega) hz1 hz2 hi1 hP) (fun h_7 r_ q_8 => ?_)
  obtain ⟨rfl, Sb, Fb⟩ := q_8
  refine R_if_ne (pc := 46) (tgt := 52) dX12_use_46 (by decide) (fun c_9 => absurd (rfl) c_9) (fun c_9 => ?_)
  refine R_bipush (pc := 49) (v := (-2)) dX12_use_49 (by decide) ?_
  exact R_ireturn (pc := 51) dX12_use_51 rfl (by decide) (by decide) ⟨rfl, ψa, i, rfl, Sb, ⟨Ka 62 (by decide), Ka 65 (by decide), Ka 66 (by decide)⟩, ⟨rfl, rfl⟩, ⟨Ka 64 (by decide), rfl⟩, (Fa.tr Fb)⟩
set_option maxHeartbeats 1000000 in
set_option maxRecDepth 100000 in
theorem oX12_use_1oF {l : Launch} {w : am_W} {h : am_H} {n : Nat} {ψ : Nat → oA} {z : fA} {i : mI} (S : MO h ψ z i) (hn : 90 ≤ n) (d s mm m : Nat) (hd : d ≤ 512) (hs : s ≤ 64) (hmm16 : mm ≤ 16) (hi1 : i 1 = nI mm) (hz0 : z 0 = nI (4 * m)) (hm : m = 4 ∨ m = 6 ∨ m = 8) (hz1 : z 1 = nI d) (hz2 : z 2 = nI s) (B : BitVec 8 → BitVec 8) (hB : ∀ v : BitVec 8, ψ 65 v.toNat = B v) (hP : ¬ (ftP 1 1 d s mm)) : RH l w mX12_use h n [.ref 61, .int 1, .int 1] (uQ h ψ z i (-2) none) := by
  refine RC.of [(0, .ref 61), (1, .int 1), (2, .int 1)] (by decide +kernel) rfl (Nat.le_of_ble_eq_true rfl) ?_
  refine R_iload_n (pc := 0) 1 dX12_use_0 rfl rfl ?_
  refine R_iconst (pc := 1) (v := 1) dX12_use_1 (by decide) ?_
  refine R_bipush (pc := 2) (v := 16) dX12_use_2 (by decide) ?_
  refine R_callSp (pc := 4) (μ' := mX12_in) (As := [.int 1, .int 1, .int 16]) (st := []) dX12_use_4 zX12_in lX12_108 ⟨by decide, by decide⟩ rfl rfl ⟨by decide, by decide⟩ rfl (Nat.le_of_ble_eq_true rfl) (qX12_in l w _ _ _ _ _) ?_
  refine R_eqi (y := 1) (by decide) ?_
  refine R_if_ne (pc := 7) (tgt := 13) dX12_use_7 (by decide) (fun c_1 => ?_) (fun c_1 => absurd c_1 (by decide))
  refine R_aload_n (pc := 13) 0 dX12_use_13 rfl rfl ?_
  refine R_iload_n (pc := 14) 1 dX12_use_14 rfl rfl ?_
  refine R_bipush (pc := 15) (v := 9) dX12_use_15 (by decide) ?_
  refine R_icmp_eq (pc := 17) (tgt := 26) dX12_use_17 (by decide) (fun c_2 => absurd c_2 (by decide)) (fun c_2 => ?_)
  refine R_iload_n (pc := 20) 1 dX12_use_20 rfl rfl ?_
  refine R_bipush (pc := 21) (v := 15) dX12_use_21 (by decide) ?_
  refine R_icmp_ne (pc := 23) (tgt := 30) dX12_use_23 (by decide) (fun c_3 => ?_) (fun c_3 => absurd c_3 (by decide))
  refine R_iconst (pc := 30) (v := 0) dX12_use_30 (by decide) ?_
  refine R_callVh (pc := 31) (μ' := mX12_hasKeys) (As := [.int 0]) (st := []) dX12_use_31 zX12_hasKeys lX12_250 ⟨by decide, by decide⟩ rfl rfl ⟨by decide, by decide⟩ S.obj (by omega) rfl (Nat.le_of_ble_eq_true rfl) (oX12_hasKeys_0 S hn m hz0 hm B hB) (fun h_4 r_ q_5 => ?_)
  obtain ⟨ψa, rfl, Sa, Ka, Ea, Fa⟩ := q_5
  refine R_if_ne (pc := 34) (tgt := 40) dX12_use_34 (by decide) (fun c_6 => ?_) (fun c_6 => absurd c_6 (by decide))
  refine R_aload_n (pc := 40) 0 dX12_use_40 rfl rfl ?_
  refine R_iload_n (pc := 41) 1 dX12_use_41 rfl rfl ?_
  refine R_iload_n (pc := 42) 2 dX12_use_42 rfl rfl ?_
  refine R_callVh (pc := 43) (μ' := mX12_fits) (As := [.int 1, .int 1]) (st := []) dX12_use_43 zX12_fits lX12_254 ⟨by decide, by decide⟩ rfl rfl ⟨by decide, by decide⟩ Sa.obj (by omega) rfl (Nat.le_of_ble_eq_true rfl) (oX12_fits_1oN Sa hn d s mm hd hs (by omega) hz1 hz2 hi1 hP) (fun h_7 r_ q_8 => ?_)
  obtain ⟨rfl, Sb, Fb⟩ := q_8
  refine R_if_ne (pc := 46) (tgt := 52) dX12_use_46 (by decide) (fun c_9 => absurd (rfl) c_9) (fun c_9 => ?_)
  refine R_bipush (pc := 49) (v := (-2)) dX12_use_49 (by decide) ?_
  exact R_ireturn (pc := 51) dX12_use_51 rfl (by decide) (by decide) ⟨rfl, ψa, i, rfl, Sb, ⟨Ka 62 (by decide), Ka 65 (by decide), Ka 66 (by decide)⟩, ⟨rfl, rfl⟩, ⟨Ka 64 (by decide), rfl⟩, (Fa.tr Fb)⟩
set_option maxHeartbeats 1000000 in
set_option maxRecDepth 100000 in
theorem oX12_use_2sF {l : Launch} {w : am_W} {h : am_H} {n : Nat} {ψ : Nat → oA} {z : fA} {i : mI} (S : MO h ψ z i) (hn : 90 ≤ n) (d s mm m : Nat) (hd : d ≤ 512) (hs : s ≤ 64) (hmm16 : mm ≤ 16) (hi1 : i 1 = nI mm) (hz0 : z 0 = nI (4 * m)) (hm : m = 4 ∨ m = 6 ∨ m = 8) (hz1 : z 1 = nI d) (hz2 : z 2 = nI s) (B : BitVec 8 → BitVec 8) (hB : ∀ v : BitVec 8, ψ 65 v.toNat = B v) (hP : ¬ (ftP 2 0 d s mm)) : RH l w mX12_use h n [.ref 61, .int 2, .int 0] (uQ h ψ z i (-2) none) := by
  refine RC.of [(0, .ref 61), (1, .int 2), (2, .int 0)] (by decide +kernel) rfl (Nat.le_of_ble_eq_true rfl) ?_
  refine R_iload_n (pc := 0) 1 dX12_use_0 rfl rfl ?_
  refine R_iconst (pc := 1) (v := 1) dX12_use_1 (by decide) ?_
  refine R_bipush (pc := 2) (v := 16) dX12_use_2 (by decide) ?_
  refine R_callSp (pc := 4) (μ' := mX12_in) (As := [.int 2, .int 1, .int 16]) (st := []) dX12_use_4 zX12_in lX12_108 ⟨by decide, by decide⟩ rfl rfl ⟨by decide, by decide⟩ rfl (Nat.le_of_ble_eq_true rfl) (qX12_in l w _ _ _ _ _) ?_
  refine R_eqi (y := 1) (by decide) ?_
  refine R_if_ne (pc := 7) (tgt := 13) dX12_use_7 (by decide) (fun c_1 => ?_) (fun c_1 => absurd c_1 (by decide))
  refine R_aload_n (pc := 13) 0 dX12_use_13 rfl rfl ?_
  refine R_iload_n (pc := 14) 1 dX12_use_14 rfl rfl ?_
  refine R_bipush (pc := 15) (v := 9) dX12_use_15 (by decide) ?_
  refine R_icmp_eq (pc := 17) (tgt := 26) dX12_use_17 (by decide) (fun c_2 => absurd c_2 (by decide)) (fun c_2 => ?_)
  refine R_iload_n (pc := 20) 1 dX12_use_20 rfl rfl ?_
  refine R_bipush (pc := 21) (v := 15) dX12_use_21 (by decide) ?_
  refine R_icmp_ne (pc := 23) (tgt := 30) dX12_use_23 (by decide) (fun c_3 => ?_) (fun c_3 => absurd c_3 (by decide))
  refine R_iconst (pc := 30) (v := 0) dX12_use_30 (by decide) ?_
  refine R_callVh (pc := 31) (μ' := mX12_hasKeys) (As := [.int 0]) (st := []) dX12_use_31 zX12_hasKeys lX12_250 ⟨by decide, by decide⟩ rfl rfl ⟨by decide, by decide⟩ S.obj (by omega) rfl (Nat.le_of_ble_eq_true rfl) (oX12_hasKeys_0 S hn m hz0 hm B hB) (fun h_4 r_ q_5 => ?_)
  obtain ⟨ψa, rfl, Sa, Ka, Ea, Fa⟩ := q_5
  refine R_if_ne (pc := 34) (tgt := 40) dX12_use_34 (by decide) (fun c_6 => ?_) (fun c_6 => absurd c_6 (by decide))
  refine R_aload_n (pc := 40) 0 dX12_use_40 rfl rfl ?_
  refine R_iload_n (pc := 41) 1 dX12_use_41 rfl rfl ?_
  refine R_iload_n (pc := 42) 2 dX12_use_42 rfl rfl ?_
  refine R_callVh (pc := 43) (μ' := mX12_fits) (As := [.int 2, .int 0]) (st := []) dX12_use_43 zX12_fits lX12_254 ⟨by decide, by decide⟩ rfl rfl ⟨by decide, by decide⟩ Sa.obj (by omega) rfl (Nat.le_of_ble_eq_true rfl) (oX12_fits_2sN Sa hn d s mm hd hs (by omega) hz1 hz2 hi1 hP) (fun h_7 r_ q_8 => ?_)
  obtain ⟨rfl, Sb, Fb⟩ := q_8
  refine R_if_ne (pc := 46) (tgt := 52) dX12_use_46 (by decide) (fun c_9 => absurd (rfl) c_9) (fun c_9 => ?_)
  refine R_bipush (pc := 49) (v := (-2)) dX12_use_49 (by decide) ?_
  exact R_ireturn (pc := 51) dX12_use_51 rfl (by decide) (by decide) ⟨rfl, ψa, i, rfl, Sb, ⟨Ka 62 (by decide), Ka 65 (by decide), Ka 66 (by decide)⟩, ⟨rfl, rfl⟩, ⟨Ka 64 (by decide), rfl⟩, (Fa.tr Fb)⟩
set_option maxHeartbeats 1000000 in
set_option maxRecDepth 100000 in
theorem oX12_use_2oF {l : Launch} {w : am_W} {h : am_H} {n : Nat} {ψ : Nat → oA} {z : fA} {i : mI} (S : MO h ψ z i) (hn : 90 ≤ n) (d s mm m : Nat) (hd : d ≤ 512) (hs : s ≤ 64) (hmm16 : mm ≤ 16) (hi1 : i 1 = nI mm) (hz0 : z 0 = nI (4 * m)) (hm : m = 4 ∨ m = 6 ∨ m = 8) (hz1 : z 1 = nI d) (hz2 : z 2 = nI s) (B : BitVec 8 → BitVec 8) (hB : ∀ v : BitVec 8, ψ 65 v.toNat = B v) (hP : ¬ (ftP 2 1 d s mm)) : RH l w mX12_use h n [.ref 61, .int 2, .int 1] (uQ h ψ z i (-2) none) := by
  refine RC.of [(0, .ref 61), (1, .int 2), (2, .int 1)] (by decide +kernel) rfl (Nat.le_of_ble_eq_true rfl) ?_
  refine R_iload_n (pc := 0) 1 dX12_use_0 rfl rfl ?_
  refine R_iconst (pc := 1) (v := 1) dX12_use_1 (by decide) ?_
  refine R_bipush (pc := 2) (v := 16) dX12_use_2 (by decide) ?_
  refine R_callSp (pc := 4) (μ' := mX12_in) (As := [.int 2, .int 1, .int 16]) (st := []) dX12_use_4 zX12_in lX12_108 ⟨by decide, by decide⟩ rfl rfl ⟨by decide, by decide⟩ rfl (Nat.le_of_ble_eq_true rfl) (qX12_in l w _ _ _ _ _) ?_
  refine R_eqi (y := 1) (by decide) ?_
  refine R_if_ne (pc := 7) (tgt := 13) dX12_use_7 (by decide) (fun c_1 => ?_) (fun c_1 => absurd c_1 (by decide))
  refine R_aload_n (pc := 13) 0 dX12_use_13 rfl rfl ?_
  refine R_iload_n (pc := 14) 1 dX12_use_14 rfl rfl ?_
  refine R_bipush (pc := 15) (v := 9) dX12_use_15 (by decide) ?_
  refine R_icmp_eq (pc := 17) (tgt := 26) dX12_use_17 (by decide) (fun c_2 => absurd c_2 (by decide)) (fun c_2 => ?_)
  refine R_iload_n (pc := 20) 1 dX12_use_20 rfl rfl ?_
  refine R_bipush (pc := 21) (v := 15) dX12_use_21 (by decide) ?_
  refine R_icmp_ne (pc := 23) (tgt := 30) dX12_use_23 (by decide) (fun c_3 => ?_) (fun c_3 => absurd c_3 (by decide))
  refine R_iconst (pc := 30) (v := 0) dX12_use_30 (by decide) ?_
  refine R_callVh (pc := 31) (μ' := mX12_hasKeys) (As := [.int 0]) (st := []) dX12_use_31 zX12_hasKeys lX12_250 ⟨by decide, by decide⟩ rfl rfl ⟨by decide, by decide⟩ S.obj (by omega) rfl (Nat.le_of_ble_eq_true rfl) (oX12_hasKeys_0 S hn m hz0 hm B hB) (fun h_4 r_ q_5 => ?_)
  obtain ⟨ψa, rfl, Sa, Ka, Ea, Fa⟩ := q_5
  refine R_if_ne (pc := 34) (tgt := 40) dX12_use_34 (by decide) (fun c_6 => ?_) (fun c_6 => absurd c_6 (by decide))
  refine R_aload_n (pc := 40) 0 dX12_use_40 rfl rfl ?_
  refine R_iload_n (pc := 41) 1 dX12_use_41 rfl rfl ?_
  refine R_iload_n (pc := 42) 2 dX12_use_42 rfl rfl ?_
  refine R_callVh (pc := 43) (μ' := mX12_fits) (As := [.int 2, .int 1]) (st := []) dX12_use_43 zX12_fits lX12_254 ⟨by decide, by decide⟩ rfl rfl ⟨by decide, by decide⟩ Sa.obj (by omega) rfl (Nat.le_of_ble_eq_true rfl) (oX12_fits_2oN Sa hn d s mm hd hs (by omega) hz1 hz2 hi1 hP) (fun h_7 r_ q_8 => ?_)
  obtain ⟨rfl, Sb, Fb⟩ := q_8
  refine R_if_ne (pc := 46) (tgt := 52) dX12_use_46 (by decide) (fun c_9 => absurd (rfl) c_9) (fun c_9 => ?_)
  refine R_bipush (pc := 49) (v := (-2)) dX12_use_49 (by decide) ?_
  exact R_ireturn (pc := 51) dX12_use_51 rfl (by decide) (by decide) ⟨rfl, ψa, i, rfl, Sb, ⟨Ka 62 (by decide), Ka 65 (by decide), Ka 66 (by decide)⟩, ⟨rfl, rfl⟩, ⟨Ka 64 (by decide), rfl⟩, (Fa.tr Fb)⟩
set_option maxHeartbeats 1000000 in
set_option maxRecDepth 100000 in
theorem oX12_use_3sF {l : Launch} {w : am_W} {h : am_H} {n : Nat} {ψ : Nat → oA} {z : fA} {i : mI} (S : MO h ψ z i) (hn : 90 ≤ n) (d s mm m : Nat) (hd : d ≤ 512) (hs : s ≤ 64) (hmm16 : mm ≤ 16) (hi1 : i 1 = nI mm) (hz0 : z 0 = nI (4 * m)) (hm : m = 4 ∨ m = 6 ∨ m = 8) (hz1 : z 1 = nI d) (hz2 : z 2 = nI s) (B : BitVec 8 → BitVec 8) (hB : ∀ v : BitVec 8, ψ 65 v.toNat = B v) (hP : ¬ (ftP 3 0 d s mm)) : RH l w mX12_use h n [.ref 61, .int 3, .int 0] (uQ h ψ z i (-2) none) := by
  refine RC.of [(0, .ref 61), (1, .int 3), (2, .int 0)] (by decide +kernel) rfl (Nat.le_of_ble_eq_true rfl) ?_
  refine R_iload_n (pc := 0) 1 dX12_use_0 rfl rfl ?_
  refine R_iconst (pc := 1) (v := 1) dX12_use_1 (by decide) ?_
  refine R_bipush (pc := 2) (v := 16) dX12_use_2 (by decide) ?_
  refine R_callSp (pc := 4) (μ' := mX12_in) (As := [.int 3, .int 1, .int 16]) (st := []) dX12_use_4 zX12_in lX12_108 ⟨by decide, by decide⟩ rfl rfl ⟨by decide, by decide⟩ rfl (Nat.le_of_ble_eq_true rfl) (qX12_in l w _ _ _ _ _) ?_
  refine R_eqi (y := 1) (by decide) ?_
  refine R_if_ne (pc := 7) (tgt := 13) dX12_use_7 (by decide) (fun c_1 => ?_) (fun c_1 => absurd c_1 (by decide))
  refine R_aload_n (pc := 13) 0 dX12_use_13 rfl rfl ?_
  refine R_iload_n (pc := 14) 1 dX12_use_14 rfl rfl ?_
  refine R_bipush (pc := 15) (v := 9) dX12_use_15 (by decide) ?_
  refine R_icmp_eq (pc := 17) (tgt := 26) dX12_use_17 (by decide) (fun c_2 => absurd c_2 (by decide)) (fun c_2 => ?_)
  refine R_iload_n (pc := 20) 1 dX12_use_20 rfl rfl ?_
  refine R_bipush (pc := 21) (v := 15) dX12_use_21 (by decide) ?_
  refine R_icmp_ne (pc := 23) (tgt := 30) dX12_use_23 (by decide) (fun c_3 => ?_) (fun c_3 => absurd c_3 (by decide))
  refine R_iconst (pc := 30) (v := 0) dX12_use_30 (by decide) ?_
  refine R_callVh (pc := 31) (μ' := mX12_hasKeys) (As := [.int 0]) (st := []) dX12_use_31 zX12_hasKeys lX12_250 ⟨by decide, by decide⟩ rfl rfl ⟨by decide, by decide⟩ S.obj (by omega) rfl (Nat.le_of_ble_eq_true rfl) (oX12_hasKeys_0 S hn m hz0 hm B hB) (fun h_4 r_ q_5 => ?_)
  obtain ⟨ψa, rfl, Sa, Ka, Ea, Fa⟩ := q_5
  refine R_if_ne (pc := 34) (tgt := 40) dX12_use_34 (by decide) (fun c_6 => ?_) (fun c_6 => absurd c_6 (by decide))
  refine R_aload_n (pc := 40) 0 dX12_use_40 rfl rfl ?_
  refine R_iload_n (pc := 41) 1 dX12_use_41 rfl rfl ?_
  refine R_iload_n (pc := 42) 2 dX12_use_42 rfl rfl ?_
  refine R_callVh (pc := 43) (μ' := mX12_fits) (As := [.int 3, .int 0]) (st := []) dX12_use_43 zX12_fits lX12_254 ⟨by decide, by decide⟩ rfl rfl ⟨by decide, by decide⟩ Sa.obj (by omega) rfl (Nat.le_of_ble_eq_true rfl) (oX12_fits_3sN Sa hn d s mm hd hs (by omega) hz1 hz2 hi1 hP) (fun h_7 r_ q_8 => ?_)
  obtain ⟨rfl, Sb, Fb⟩ := q_8
  refine R_if_ne (pc := 46) (tgt := 52) dX12_use_46 (by decide) (fun c_9 => absurd (rfl) c_9) (fun c_9 => ?_)
  refine R_bipush (pc := 49) (v := (-2)) dX12_use_49 (by decide) ?_
  exact R_ireturn (pc := 51) dX12_use_51 rfl (by decide) (by decide) ⟨rfl, ψa, i, rfl, Sb, ⟨Ka 62 (by decide), Ka 65 (by decide), Ka 66 (by decide)⟩, ⟨rfl, rfl⟩, ⟨Ka 64 (by decide), rfl⟩, (Fa.tr Fb)⟩
set_option maxHeartbeats 1000000 in
set_option maxRecDepth 100000 in
theorem oX12_use_3oF {l : Launch} {w : am_W} {h : am_H} {n : Nat} {ψ : Nat → oA} {z : fA} {i : mI} (S : MO h ψ z i) (hn : 90 ≤ n) (d s mm m : Nat) (hd : d ≤ 512) (hs : s ≤ 64) (hmm16 : mm ≤ 16) (hi1 : i 1 = nI mm) (hz0 : z 0 = nI (4 * m)) (hm : m = 4 ∨ m = 6 ∨ m = 8) (hz1 : z 1 = nI d) (hz2 : z 2 = nI s) (B : BitVec 8 → BitVec 8) (hB : ∀ v : BitVec 8, ψ 65 v.toNat = B v) (hP : ¬ (ftP 3 1 d s mm)) : RH l w mX12_use h n [.ref 61, .int 3, .int 1] (uQ h ψ z i (-2) none) := by
  refine RC.of [(0, .ref 61), (1, .int 3), (2, .int 1)] (by decide +kernel) rfl (Nat.le_of_ble_eq_true rfl) ?_
  refine R_iload_n (pc := 0) 1 dX12_use_0 rfl rfl ?_
  refine R_iconst (pc := 1) (v := 1) dX12_use_1 (by decide) ?_
  refine R_bipush (pc := 2) (v := 16) dX12_use_2 (by decide) ?_
  refine R_callSp (pc := 4) (μ' := mX12_in) (As := [.int 3, .int 1, .int 16]) (st := []) dX12_use_4 zX12_in lX12_108 ⟨by decide, by decide⟩ rfl rfl ⟨by decide, by decide⟩ rfl (Nat.le_of_ble_eq_true rfl) (qX12_in l w _ _ _ _ _) ?_
  refine R_eqi (y := 1) (by decide) ?_
  refine R_if_ne (pc := 7) (tgt := 13) dX12_use_7 (by decide) (fun c_1 => ?_) (fun c_1 => absurd c_1 (by decide))
  refine R_aload_n (pc := 13) 0 dX12_use_13 rfl rfl ?_
  refine R_iload_n (pc := 14) 1 dX12_use_14 rfl rfl ?_
  refine R_bipush (pc := 15) (v := 9) dX12_use_15 (by decide) ?_
  refine R_icmp_eq (pc := 17) (tgt := 26) dX12_use_17 (by decide) (fun c_2 => absurd c_2 (by decide)) (fun c_2 => ?_)
  refine R_iload_n (pc := 20) 1 dX12_use_20 rfl rfl ?_
  refine R_bipush (pc := 21) (v := 15) dX12_use_21 (by decide) ?_
  refine R_icmp_ne (pc := 23) (tgt := 30) dX12_use_23 (by decide) (fun c_3 => ?_) (fun c_3 => absurd c_3 (by decide))
  refine R_iconst (pc := 30) (v := 0) dX12_use_30 (by decide) ?_
  refine R_callVh (pc := 31) (μ' := mX12_hasKeys) (As := [.int 0]) (st := []) dX12_use_31 zX12_hasKeys lX12_250 ⟨by decide, by decide⟩ rfl rfl ⟨by decide, by decide⟩ S.obj (by omega) rfl (Nat.le_of_ble_eq_true rfl) (oX12_hasKeys_0 S hn m hz0 hm B hB) (fun h_4 r_ q_5 => ?_)
  obtain ⟨ψa, rfl, Sa, Ka, Ea, Fa⟩ := q_5
  refine R_if_ne (pc := 34) (tgt := 40) dX12_use_34 (by decide) (fun c_6 => ?_) (fun c_6 => absurd c_6 (by decide))
  refine R_aload_n (pc := 40) 0 dX12_use_40 rfl rfl ?_
  refine R_iload_n (pc := 41) 1 dX12_use_41 rfl rfl ?_
  refine R_iload_n (pc := 42) 2 dX12_use_42 rfl rfl ?_
  refine R_callVh (pc := 43) (μ' := mX12_fits) (As := [.int 3, .int 1]) (st := []) dX12_use_43 zX12_fits lX12_254 ⟨by decide, by decide⟩ rfl rfl ⟨by decide, by decide⟩ Sa.obj (by omega) rfl (Nat.le_of_ble_eq_true rfl) (oX12_fits_3oN Sa hn d s mm hd hs (by omega) hz1 hz2 hi1 hP) (fun h_7 r_ q_8 => ?_)
  obtain ⟨rfl, Sb, Fb⟩ := q_8
  refine R_if_ne (pc := 46) (tgt := 52) dX12_use_46 (by decide) (fun c_9 => absurd (rfl) c_9) (fun c_9 => ?_)
  refine R_bipush (pc := 49) (v := (-2)) dX12_use_49 (by decide) ?_
  exact R_ireturn (pc := 51) dX12_use_51 rfl (by decide) (by decide) ⟨rfl, ψa, i, rfl, Sb, ⟨Ka 62 (by decide), Ka 65 (by decide), Ka 66 (by decide)⟩, ⟨rfl, rfl⟩, ⟨Ka 64 (by decide), rfl⟩, (Fa.tr Fb)⟩
set_option maxHeartbeats 1000000 in
set_option maxRecDepth 100000 in
theorem oX12_use_4sF {l : Launch} {w : am_W} {h : am_H} {n : Nat} {ψ : Nat → oA} {z : fA} {i : mI} (S : MO h ψ z i) (hn : 90 ≤ n) (d s mm m : Nat) (hd : d ≤ 512) (hs : s ≤ 64) (hmm16 : mm ≤ 16) (hi1 : i 1 = nI mm) (hz0 : z 0 = nI (4 * m)) (hm : m = 4 ∨ m = 6 ∨ m = 8) (hz1 : z 1 = nI d) (hz2 : z 2 = nI s) (B : BitVec 8 → BitVec 8) (hB : ∀ v : BitVec 8, ψ 65 v.toNat = B v) (hP : ¬ (ftP 4 0 d s mm)) : RH l w mX12_use h n [.ref 61, .int 4, .int 0] (uQ h ψ z i (-2) none) := by
  refine RC.of [(0, .ref 61), (1, .int 4), (2, .int 0)] (by decide +kernel) rfl (Nat.le_of_ble_eq_true rfl) ?_
  refine R_iload_n (pc := 0) 1 dX12_use_0 rfl rfl ?_
  refine R_iconst (pc := 1) (v := 1) dX12_use_1 (by decide) ?_
  refine R_bipush (pc := 2) (v := 16) dX12_use_2 (by decide) ?_
  refine R_callSp (pc := 4) (μ' := mX12_in) (As := [.int 4, .int 1, .int 16]) (st := []) dX12_use_4 zX12_in lX12_108 ⟨by decide, by decide⟩ rfl rfl ⟨by decide, by decide⟩ rfl (Nat.le_of_ble_eq_true rfl) (qX12_in l w _ _ _ _ _) ?_
  refine R_eqi (y := 1) (by decide) ?_
  refine R_if_ne (pc := 7) (tgt := 13) dX12_use_7 (by decide) (fun c_1 => ?_) (fun c_1 => absurd c_1 (by decide))
  refine R_aload_n (pc := 13) 0 dX12_use_13 rfl rfl ?_
  refine R_iload_n (pc := 14) 1 dX12_use_14 rfl rfl ?_
  refine R_bipush (pc := 15) (v := 9) dX12_use_15 (by decide) ?_
  refine R_icmp_eq (pc := 17) (tgt := 26) dX12_use_17 (by decide) (fun c_2 => absurd c_2 (by decide)) (fun c_2 => ?_)
  refine R_iload_n (pc := 20) 1 dX12_use_20 rfl rfl ?_
  refine R_bipush (pc := 21) (v := 15) dX12_use_21 (by decide) ?_
  refine R_icmp_ne (pc := 23) (tgt := 30) dX12_use_23 (by decide) (fun c_3 => ?_) (fun c_3 => absurd c_3 (by decide))
  refine R_iconst (pc := 30) (v := 0) dX12_use_30 (by decide) ?_
  refine R_callVh (pc := 31) (μ' := mX12_hasKeys) (As := [.int 0]) (st := []) dX12_use_31 zX12_hasKeys lX12_250 ⟨by decide, by decide⟩ rfl rfl ⟨by decide, by decide⟩ S.obj (by omega) rfl (Nat.le_of_ble_eq_true rfl) (oX12_hasKeys_0 S hn m hz0 hm B hB) (fun h_4 r_ q_5 => ?_)
  obtain ⟨ψa, rfl, Sa, Ka, Ea, Fa⟩ := q_5
  refine R_if_ne (pc := 34) (tgt := 40) dX12_use_34 (by decide) (fun c_6 => ?_) (fun c_6 => absurd c_6 (by decide))
  refine R_aload_n (pc := 40) 0 dX12_use_40 rfl rfl ?_
  refine R_iload_n (pc := 41) 1 dX12_use_41 rfl rfl ?_
  refine R_iload_n (pc := 42) 2 dX12_use_42 rfl rfl ?_
  refine R_callVh (pc := 43) (μ' := mX12_fits) (As := [.int 4, .int 0]) (st := []) dX12_use_43 zX12_fits lX12_254 ⟨by decide, by decide⟩ rfl rfl ⟨by decide, by decide⟩ Sa.obj (by omega) rfl (Nat.le_of_ble_eq_true rfl) (oX12_fits_4sN Sa hn d s mm hd hs (by omega) hz1 hz2 hi1 hP) (fun h_7 r_ q_8 => ?_)
  obtain ⟨rfl, Sb, Fb⟩ := q_8
  refine R_if_ne (pc := 46) (tgt := 52) dX12_use_46 (by decide) (fun c_9 => absurd (rfl) c_9) (fun c_9 => ?_)
  refine R_bipush (pc := 49) (v := (-2)) dX12_use_49 (by decide) ?_
  exact R_ireturn (pc := 51) dX12_use_51 rfl (by decide) (by decide) ⟨rfl, ψa, i, rfl, Sb, ⟨Ka 62 (by decide), Ka 65 (by decide), Ka 66 (by decide)⟩, ⟨rfl, rfl⟩, ⟨Ka 64 (by decide), rfl⟩, (Fa.tr Fb)⟩
set_option maxHeartbeats 1000000 in
set_option maxRecDepth 100000 in
theorem oX12_use_4oF {l : Launch} {w : am_W} {h : am_H} {n : Nat} {ψ : Nat → oA} {z : fA} {i : mI} (S : MO h ψ z i) (hn : 90 ≤ n) (d s mm m : Nat) (hd : d ≤ 512) (hs : s ≤ 64) (hmm16 : mm ≤ 16) (hi1 : i 1 = nI mm) (hz0 : z 0 = nI (4 * m)) (hm : m = 4 ∨ m = 6 ∨ m = 8) (hz1 : z 1 = nI d) (hz2 : z 2 = nI s) (B : BitVec 8 → BitVec 8) (hB : ∀ v : BitVec 8, ψ 65 v.toNat = B v) (hP : ¬ (ftP 4 1 d s mm)) : RH l w mX12_use h n [.ref 61, .int 4, .int 1] (uQ h ψ z i (-2) none) := by
  refine RC.of [(0, .ref 61), (1, .int 4), (2, .int 1)] (by decide +kernel) rfl (Nat.le_of_ble_eq_true rfl) ?_
  refine R_iload_n (pc := 0) 1 dX12_use_0 rfl rfl ?_
  refine R_iconst (pc := 1) (v := 1) dX12_use_1 (by decide) ?_
  refine R_bipush (pc := 2) (v := 16) dX12_use_2 (by decide) ?_
  refine R_callSp (pc := 4) (μ' := mX12_in) (As := [.int 4, .int 1, .int 16]) (st := []) dX12_use_4 zX12_in lX12_108 ⟨by decide, by decide⟩ rfl rfl ⟨by decide, by decide⟩ rfl (Nat.le_of_ble_eq_true rfl) (qX12_in l w _ _ _ _ _) ?_
  refine R_eqi (y := 1) (by decide) ?_
  refine R_if_ne (pc := 7) (tgt := 13) dX12_use_7 (by decide) (fun c_1 => ?_) (fun c_1 => absurd c_1 (by decide))
  refine R_aload_n (pc := 13) 0 dX12_use_13 rfl rfl ?_
  refine R_iload_n (pc := 14) 1 dX12_use_14 rfl rfl ?_
  refine R_bipush (pc := 15) (v := 9) dX12_use_15 (by decide) ?_
  refine R_icmp_eq (pc := 17) (tgt := 26) dX12_use_17 (by decide) (fun c_2 => absurd c_2 (by decide)) (fun c_2 => ?_)
  refine R_iload_n (pc := 20) 1 dX12_use_20 rfl rfl ?_
  refine R_bipush (pc := 21) (v := 15) dX12_use_21 (by decide) ?_
  refine R_icmp_ne (pc := 23) (tgt := 30) dX12_use_23 (by decide) (fun c_3 => ?_) (fun c_3 => absurd c_3 (by decide))
  refine R_iconst (pc := 30) (v := 0) dX12_use_30 (by decide) ?_
  refine R_callVh (pc := 31) (μ' := mX12_hasKeys) (As := [.int 0]) (st := []) dX12_use_31 zX12_hasKeys lX12_250 ⟨by decide, by decide⟩ rfl rfl ⟨by decide, by decide⟩ S.obj (by omega) rfl (Nat.le_of_ble_eq_true rfl) (oX12_hasKeys_0 S hn m hz0 hm B hB) (fun h_4 r_ q_5 => ?_)
  obtain ⟨ψa, rfl, Sa, Ka, Ea, Fa⟩ := q_5
  refine R_if_ne (pc := 34) (tgt := 40) dX12_use_34 (by decide) (fun c_6 => ?_) (fun c_6 => absurd c_6 (by decide))
  refine R_aload_n (pc := 40) 0 dX12_use_40 rfl rfl ?_
  refine R_iload_n (pc := 41) 1 dX12_use_41 rfl rfl ?_
  refine R_iload_n (pc := 42) 2 dX12_use_42 rfl rfl ?_
  refine R_callVh (pc := 43) (μ' := mX12_fits) (As := [.int 4, .int 1]) (st := []) dX12_use_43 zX12_fits lX12_254 ⟨by decide, by decide⟩ rfl rfl ⟨by decide, by decide⟩ Sa.obj (by omega) rfl (Nat.le_of_ble_eq_true rfl) (oX12_fits_4oN Sa hn d s mm hd hs (by omega) hz1 hz2 hi1 hP) (fun h_7 r_ q_8 => ?_)
  obtain ⟨rfl, Sb, Fb⟩ := q_8
  refine R_if_ne (pc := 46) (tgt := 52) dX12_use_46 (by decide) (fun c_9 => absurd (rfl) c_9) (fun c_9 => ?_)
  refine R_bipush (pc := 49) (v := (-2)) dX12_use_49 (by decide) ?_
  exact R_ireturn (pc := 51) dX12_use_51 rfl (by decide) (by decide) ⟨rfl, ψa, i, rfl, Sb, ⟨Ka 62 (by decide), Ka 65 (by decide), Ka 66 (by decide)⟩, ⟨rfl, rfl⟩, ⟨Ka 64 (by decide), rfl⟩, (Fa.tr Fb)⟩
set_option maxHeartbeats 1000000 in
set_option maxRecDepth 100000 in
theorem oX12_use_5sF {l : Launch} {w : am_W} {h : am_H} {n : Nat} {ψ : Nat → oA} {z : fA} {i : mI} (S : MO h ψ z i) (hn : 90 ≤ n) (d s mm m : Nat) (hd : d ≤ 512) (hs : s ≤ 64) (hmm16 : mm ≤ 16) (hi1 : i 1 = nI mm) (hz0 : z 0 = nI (4 * m)) (hm : m = 4 ∨ m = 6 ∨ m = 8) (hz1 : z 1 = nI d) (hz2 : z 2 = nI s) (B : BitVec 8 → BitVec 8) (hB : ∀ v : BitVec 8, ψ 65 v.toNat = B v) (hP : ¬ (ftP 5 0 d s mm)) : RH l w mX12_use h n [.ref 61, .int 5, .int 0] (uQ h ψ z i (-2) none) := by
  refine RC.of [(0, .ref 61), (1, .int 5), (2, .int 0)] (by decide +kernel) rfl (Nat.le_of_ble_eq_true rfl) ?_
  refine R_iload_n (pc := 0) 1 dX12_use_0 rfl rfl ?_
  refine R_iconst (pc := 1) (v := 1) dX12_use_1 (by decide) ?_
  refine R_bipush (pc := 2) (v := 16) dX12_use_2 (by decide) ?_
  refine R_callSp (pc := 4) (μ' := mX12_in) (As := [.int 5, .int 1, .int 16]) (st := []) dX12_use_4 zX12_in lX12_108 ⟨by decide, by decide⟩ rfl rfl ⟨by decide, by decide⟩ rfl (Nat.le_of_ble_eq_true rfl) (qX12_in l w _ _ _ _ _) ?_
  refine R_eqi (y := 1) (by decide) ?_
  refine R_if_ne (pc := 7) (tgt := 13) dX12_use_7 (by decide) (fun c_1 => ?_) (fun c_1 => absurd c_1 (by decide))
  refine R_aload_n (pc := 13) 0 dX12_use_13 rfl rfl ?_
  refine R_iload_n (pc := 14) 1 dX12_use_14 rfl rfl ?_
  refine R_bipush (pc := 15) (v := 9) dX12_use_15 (by decide) ?_
  refine R_icmp_eq (pc := 17) (tgt := 26) dX12_use_17 (by decide) (fun c_2 => absurd c_2 (by decide)) (fun c_2 => ?_)
  refine R_iload_n (pc := 20) 1 dX12_use_20 rfl rfl ?_
  refine R_bipush (pc := 21) (v := 15) dX12_use_21 (by decide) ?_
  refine R_icmp_ne (pc := 23) (tgt := 30) dX12_use_23 (by decide) (fun c_3 => ?_) (fun c_3 => absurd c_3 (by decide))
  refine R_iconst (pc := 30) (v := 0) dX12_use_30 (by decide) ?_
  refine R_callVh (pc := 31) (μ' := mX12_hasKeys) (As := [.int 0]) (st := []) dX12_use_31 zX12_hasKeys lX12_250 ⟨by decide, by decide⟩ rfl rfl ⟨by decide, by decide⟩ S.obj (by omega) rfl (Nat.le_of_ble_eq_true rfl) (oX12_hasKeys_0 S hn m hz0 hm B hB) (fun h_4 r_ q_5 => ?_)
  obtain ⟨ψa, rfl, Sa, Ka, Ea, Fa⟩ := q_5
  refine R_if_ne (pc := 34) (tgt := 40) dX12_use_34 (by decide) (fun c_6 => ?_) (fun c_6 => absurd c_6 (by decide))
  refine R_aload_n (pc := 40) 0 dX12_use_40 rfl rfl ?_
  refine R_iload_n (pc := 41) 1 dX12_use_41 rfl rfl ?_
  refine R_iload_n (pc := 42) 2 dX12_use_42 rfl rfl ?_
  refine R_callVh (pc := 43) (μ' := mX12_fits) (As := [.int 5, .int 0]) (st := []) dX12_use_43 zX12_fits lX12_254 ⟨by decide, by decide⟩ rfl rfl ⟨by decide, by decide⟩ Sa.obj (by omega) rfl (Nat.le_of_ble_eq_true rfl) (oX12_fits_5sN Sa hn d s mm hd hs (by omega) hz1 hz2 hi1 hP) (fun h_7 r_ q_8 => ?_)
  obtain ⟨rfl, Sb, Fb⟩ := q_8
  refine R_if_ne (pc := 46) (tgt := 52) dX12_use_46 (by decide) (fun c_9 => absurd (rfl) c_9) (fun c_9 => ?_)
  refine R_bipush (pc := 49) (v := (-2)) dX12_use_49 (by decide) ?_
  exact R_ireturn (pc := 51) dX12_use_51 rfl (by decide) (by decide) ⟨rfl, ψa, i, rfl, Sb, ⟨Ka 62 (by decide), Ka 65 (by decide), Ka 66 (by decide)⟩, ⟨rfl, rfl⟩, ⟨Ka 64 (by decide), rfl⟩, (Fa.tr Fb)⟩
set_option maxHeartbeats 1000000 in
set_option maxRecDepth 100000 in
theorem oX12_use_5oF {l : Launch} {w : am_W} {h : am_H} {n : Nat} {ψ : Nat → oA} {z : fA} {i : mI} (S : MO h ψ z i) (hn : 90 ≤ n) (d s mm m : Nat) (hd : d ≤ 512) (hs : s ≤ 64) (hmm16 : mm ≤ 16) (hi1 : i 1 = nI mm) (hz0 : z 0 = nI (4 * m)) (hm : m = 4 ∨ m = 6 ∨ m = 8) (hz1 : z 1 = nI d) (hz2 : z 2 = nI s) (B : BitVec 8 → BitVec 8) (hB : ∀ v : BitVec 8, ψ 65 v.toNat = B v) (hP : ¬ (ftP 5 1 d s mm)) : RH l w mX12_use h n [.ref 61, .int 5, .int 1] (uQ h ψ z i (-2) none) := by
  refine RC.of [(0, .ref 61), (1, .int 5), (2, .int 1)] (by decide +kernel) rfl (Nat.le_of_ble_eq_true rfl) ?_
  refine R_iload_n (pc := 0) 1 dX12_use_0 rfl rfl ?_
  refine R_iconst (pc := 1) (v := 1) dX12_use_1 (by decide) ?_
  refine R_bipush (pc := 2) (v := 16) dX12_use_2 (by decide) ?_
  refine R_callSp (pc := 4) (μ' := mX12_in) (As := [.int 5, .int 1, .int 16]) (st := []) dX12_use_4 zX12_in lX12_108 ⟨by decide, by decide⟩ rfl rfl ⟨by decide, by decide⟩ rfl (Nat.le_of_ble_eq_true rfl) (qX12_in l w _ _ _ _ _) ?_
  refine R_eqi (y := 1) (by decide) ?_
  refine R_if_ne (pc := 7) (tgt := 13) dX12_use_7 (by decide) (fun c_1 => ?_) (fun c_1 => absurd c_1 (by decide))
  refine R_aload_n (pc := 13) 0 dX12_use_13 rfl rfl ?_
  refine R_iload_n (pc := 14) 1 dX12_use_14 rfl rfl ?_
  refine R_bipush (pc := 15) (v := 9) dX12_use_15 (by decide) ?_
  refine R_icmp_eq (pc := 17) (tgt := 26) dX12_use_17 (by decide) (fun c_2 => absurd c_2 (by decide)) (fun c_2 => ?_)
  refine R_iload_n (pc := 20) 1 dX12_use_20 rfl rfl ?_
  refine R_bipush (pc := 21) (v := 15) dX12_use_21 (by decide) ?_
  refine R_icmp_ne (pc := 23) (tgt := 30) dX12_use_23 (by decide) (fun c_3 => ?_) (fun c_3 => absurd c_3 (by decide))
  refine R_iconst (pc := 30) (v := 0) dX12_use_30 (by decide) ?_
  refine R_callVh (pc := 31) (μ' := mX12_hasKeys) (As := [.int 0]) (st := []) dX12_use_31 zX12_hasKeys lX12_250 ⟨by decide, by decide⟩ rfl rfl ⟨by decide, by decide⟩ S.obj (by omega) rfl (Nat.le_of_ble_eq_true rfl) (oX12_hasKeys_0 S hn m hz0 hm B hB) (fun h_4 r_ q_5 => ?_)
  obtain ⟨ψa, rfl, Sa, Ka, Ea, Fa⟩ := q_5
  refine R_if_ne (pc := 34) (tgt := 40) dX12_use_34 (by decide) (fun c_6 => ?_) (fun c_6 => absurd c_6 (by decide))
  refine R_aload_n (pc := 40) 0 dX12_use_40 rfl rfl ?_
  refine R_iload_n (pc := 41) 1 dX12_use_41 rfl rfl ?_
  refine R_iload_n (pc := 42) 2 dX12_use_42 rfl rfl ?_
  refine R_callVh (pc := 43) (μ' := mX12_fits) (As := [.int 5, .int 1]) (st := []) dX12_use_43 zX12_fits lX12_254 ⟨by decide, by decide⟩ rfl rfl ⟨by decide, by decide⟩ Sa.obj (by omega) rfl (Nat.le_of_ble_eq_true rfl) (oX12_fits_5oN Sa hn d s mm hd hs (by omega) hz1 hz2 hi1 hP) (fun h_7 r_ q_8 => ?_)
  obtain ⟨rfl, Sb, Fb⟩ := q_8
  refine R_if_ne (pc := 46) (tgt := 52) dX12_use_46 (by decide) (fun c_9 => absurd (rfl) c_9) (fun c_9 => ?_)
  refine R_bipush (pc := 49) (v := (-2)) dX12_use_49 (by decide) ?_
  exact R_ireturn (pc := 51) dX12_use_51 rfl (by decide) (by decide) ⟨rfl, ψa, i, rfl, Sb, ⟨Ka 62 (by decide), Ka 65 (by decide), Ka 66 (by decide)⟩, ⟨rfl, rfl⟩, ⟨Ka 64 (by decide), rfl⟩, (Fa.tr Fb)⟩
set_option maxHeartbeats 1000000 in
set_option maxRecDepth 100000 in
theorem oX12_use_6sF {l : Launch} {w : am_W} {h : am_H} {n : Nat} {ψ : Nat → oA} {z : fA} {i : mI} (S : MO h ψ z i) (hn : 90 ≤ n) (d s mm m : Nat) (hd : d ≤ 512) (hs : s ≤ 64) (hmm16 : mm ≤ 16) (hi1 : i 1 = nI mm) (hz0 : z 0 = nI (4 * m)) (hm : m = 4 ∨ m = 6 ∨ m = 8) (hz1 : z 1 = nI d) (hz2 : z 2 = nI s) (B : BitVec 8 → BitVec 8) (hB : ∀ v : BitVec 8, ψ 65 v.toNat = B v) (hP : ¬ (ftP 6 0 d s mm)) : RH l w mX12_use h n [.ref 61, .int 6, .int 0] (uQ h ψ z i (-2) none) := by
  refine RC.of [(0, .ref 61), (1, .int 6), (2, .int 0)] (by decide +kernel) rfl (Nat.le_of_ble_eq_true rfl) ?_
  refine R_iload_n (pc := 0) 1 dX12_use_0 rfl rfl ?_
  refine R_iconst (pc := 1) (v := 1) dX12_use_1 (by decide) ?_
  refine R_bipush (pc := 2) (v := 16) dX12_use_2 (by decide) ?_
  refine R_callSp (pc := 4) (μ' := mX12_in) (As := [.int 6, .int 1, .int 16]) (st := []) dX12_use_4 zX12_in lX12_108 ⟨by decide, by decide⟩ rfl rfl ⟨by decide, by decide⟩ rfl (Nat.le_of_ble_eq_true rfl) (qX12_in l w _ _ _ _ _) ?_
  refine R_eqi (y := 1) (by decide) ?_
  refine R_if_ne (pc := 7) (tgt := 13) dX12_use_7 (by decide) (fun c_1 => ?_) (fun c_1 => absurd c_1 (by decide))
  refine R_aload_n (pc := 13) 0 dX12_use_13 rfl rfl ?_
  refine R_iload_n (pc := 14) 1 dX12_use_14 rfl rfl ?_
  refine R_bipush (pc := 15) (v := 9) dX12_use_15 (by decide) ?_
  refine R_icmp_eq (pc := 17) (tgt := 26) dX12_use_17 (by decide) (fun c_2 => absurd c_2 (by decide)) (fun c_2 => ?_)
  refine R_iload_n (pc := 20) 1 dX12_use_20 rfl rfl ?_
  refine R_bipush (pc := 21) (v := 15) dX12_use_21 (by decide) ?_
  refine R_icmp_ne (pc := 23) (tgt := 30) dX12_use_23 (by decide) (fun c_3 => ?_) (fun c_3 => absurd c_3 (by decide))
  refine R_iconst (pc := 30) (v := 0) dX12_use_30 (by decide) ?_
  refine R_callVh (pc := 31) (μ' := mX12_hasKeys) (As := [.int 0]) (st := []) dX12_use_31 zX12_hasKeys lX12_250 ⟨by decide, by decide⟩ rfl rfl ⟨by decide, by decide⟩ S.obj (by omega) rfl (Nat.le_of_ble_eq_true rfl) (oX12_hasKeys_0 S hn m hz0 hm B hB) (fun h_4 r_ q_5 => ?_)
  obtain ⟨ψa, rfl, Sa, Ka, Ea, Fa⟩ := q_5
  refine R_if_ne (pc := 34) (tgt := 40) dX12_use_34 (by decide) (fun c_6 => ?_) (fun c_6 => absurd c_6 (by decide))
  refine R_aload_n (pc := 40) 0 dX12_use_40 rfl rfl ?_
  refine R_iload_n (pc := 41) 1 dX12_use_41 rfl rfl ?_
  refine R_iload_n (pc := 42) 2 dX12_use_42 rfl rfl ?_
  refine R_callVh (pc := 43) (μ' := mX12_fits) (As := [.int 6, .int 0]) (st := []) dX12_use_43 zX12_fits lX12_254 ⟨by decide, by decide⟩ rfl rfl ⟨by decide, by decide⟩ Sa.obj (by omega) rfl (Nat.le_of_ble_eq_true rfl) (oX12_fits_6sN Sa hn d s mm hd hs (by omega) hz1 hz2 hi1 hP) (fun h_7 r_ q_8 => ?_)
  obtain ⟨rfl, Sb, Fb⟩ := q_8
  refine R_if_ne (pc := 46) (tgt := 52) dX12_use_46 (by decide) (fun c_9 => absurd (rfl) c_9) (fun c_9 => ?_)
  refine R_bipush (pc := 49) (v := (-2)) dX12_use_49 (by decide) ?_
  exact R_ireturn (pc := 51) dX12_use_51 rfl (by decide) (by decide) ⟨rfl, ψa, i, rfl, Sb, ⟨Ka 62 (by decide), Ka 65 (by decide), Ka 66 (by decide)⟩, ⟨rfl, rfl⟩, ⟨Ka 64 (by decide), rfl⟩, (Fa.tr Fb)⟩
set_option maxHeartbeats 1000000 in
set_option maxRecDepth 100000 in
theorem oX12_use_6oF {l : Launch} {w : am_W} {h : am_H} {n : Nat} {ψ : Nat → oA} {z : fA} {i : mI} (S : MO h ψ z i) (hn : 90 ≤ n) (d s mm m : Nat) (hd : d ≤ 512) (hs : s ≤ 64) (hmm16 : mm ≤ 16) (hi1 : i 1 = nI mm) (hz0 : z 0 = nI (4 * m)) (hm : m = 4 ∨ m = 6 ∨ m = 8) (hz1 : z 1 = nI d) (hz2 : z 2 = nI s) (B : BitVec 8 → BitVec 8) (hB : ∀ v : BitVec 8, ψ 65 v.toNat = B v) (hP : ¬ (ftP 6 1 d s mm)) : RH l w mX12_use h n [.ref 61, .int 6, .int 1] (uQ h ψ z i (-2) none) := by
  refine RC.of [(0, .ref 61), (1, .int 6), (2, .int 1)] (by decide +kernel) rfl (Nat.le_of_ble_eq_true rfl) ?_
  refine R_iload_n (pc := 0) 1 dX12_use_0 rfl rfl ?_
  refine R_iconst (pc := 1) (v := 1) dX12_use_1 (by decide) ?_
  refine R_bipush (pc := 2) (v := 16) dX12_use_2 (by decide) ?_
  refine R_callSp (pc := 4) (μ' := mX12_in) (As := [.int 6, .int 1, .int 16]) (st := []) dX12_use_4 zX12_in lX12_108 ⟨by decide, by decide⟩ rfl rfl ⟨by decide, by decide⟩ rfl (Nat.le_of_ble_eq_true rfl) (qX12_in l w _ _ _ _ _) ?_
  refine R_eqi (y := 1) (by decide) ?_
  refine R_if_ne (pc := 7) (tgt := 13) dX12_use_7 (by decide) (fun c_1 => ?_) (fun c_1 => absurd c_1 (by decide))
  refine R_aload_n (pc := 13) 0 dX12_use_13 rfl rfl ?_
  refine R_iload_n (pc := 14) 1 dX12_use_14 rfl rfl ?_
  refine R_bipush (pc := 15) (v := 9) dX12_use_15 (by decide) ?_
  refine R_icmp_eq (pc := 17) (tgt := 26) dX12_use_17 (by decide) (fun c_2 => absurd c_2 (by decide)) (fun c_2 => ?_)
  refine R_iload_n (pc := 20) 1 dX12_use_20 rfl rfl ?_
  refine R_bipush (pc := 21) (v := 15) dX12_use_21 (by decide) ?_
  refine R_icmp_ne (pc := 23) (tgt := 30) dX12_use_23 (by decide) (fun c_3 => ?_) (fun c_3 => absurd c_3 (by decide))
  refine R_iconst (pc := 30) (v := 0) dX12_use_30 (by decide) ?_
  refine R_callVh (pc := 31) (μ' := mX12_hasKeys) (As := [.int 0]) (st := []) dX12_use_31 zX12_hasKeys lX12_250 ⟨by decide, by decide⟩ rfl rfl ⟨by decide, by decide⟩ S.obj (by omega) rfl (Nat.le_of_ble_eq_true rfl) (oX12_hasKeys_0 S hn m hz0 hm B hB) (fun h_4 r_ q_5 => ?_)
  obtain ⟨ψa, rfl, Sa, Ka, Ea, Fa⟩ := q_5
  refine R_if_ne (pc := 34) (tgt := 40) dX12_use_34 (by decide) (fun c_6 => ?_) (fun c_6 => absurd c_6 (by decide))
  refine R_aload_n (pc := 40) 0 dX12_use_40 rfl rfl ?_
  refine R_iload_n (pc := 41) 1 dX12_use_41 rfl rfl ?_
  refine R_iload_n (pc := 42) 2 dX12_use_42 rfl rfl ?_
  refine R_callVh (pc := 43) (μ' := mX12_fits) (As := [.int 6, .int 1]) (st := []) dX12_use_43 zX12_fits lX12_254 ⟨by decide, by decide⟩ rfl rfl ⟨by decide, by decide⟩ Sa.obj (by omega) rfl (Nat.le_of_ble_eq_true rfl) (oX12_fits_6oN Sa hn d s mm hd hs (by omega) hz1 hz2 hi1 hP) (fun h_7 r_ q_8 => ?_)
  obtain ⟨rfl, Sb, Fb⟩ := q_8
  refine R_if_ne (pc := 46) (tgt := 52) dX12_use_46 (by decide) (fun c_9 => absurd (rfl) c_9) (fun c_9 => ?_)
  refine R_bipush (pc := 49) (v := (-2)) dX12_use_49 (by decide) ?_
  exact R_ireturn (pc := 51) dX12_use_51 rfl (by decide) (by decide) ⟨rfl, ψa, i, rfl, Sb, ⟨Ka 62 (by decide), Ka 65 (by decide), Ka 66 (by decide)⟩, ⟨rfl, rfl⟩, ⟨Ka 64 (by decide), rfl⟩, (Fa.tr Fb)⟩
set_option maxHeartbeats 1000000 in
set_option maxRecDepth 100000 in
theorem oX12_use_7sF {l : Launch} {w : am_W} {h : am_H} {n : Nat} {ψ : Nat → oA} {z : fA} {i : mI} (S : MO h ψ z i) (hn : 90 ≤ n) (d s mm m : Nat) (hd : d ≤ 512) (hs : s ≤ 64) (hmm16 : mm ≤ 16) (hi1 : i 1 = nI mm) (hz0 : z 0 = nI (4 * m)) (hm : m = 4 ∨ m = 6 ∨ m = 8) (hz1 : z 1 = nI d) (hz2 : z 2 = nI s) (B : BitVec 8 → BitVec 8) (hB : ∀ v : BitVec 8, ψ 65 v.toNat = B v) (hP : ¬ (ftP 7 0 d s mm)) : RH l w mX12_use h n [.ref 61, .int 7, .int 0] (uQ h ψ z i (-2) none) := by
  refine RC.of [(0, .ref 61), (1, .int 7), (2, .int 0)] (by decide +kernel) rfl (Nat.le_of_ble_eq_true rfl) ?_
  refine R_iload_n (pc := 0) 1 dX12_use_0 rfl rfl ?_
  refine R_iconst (pc := 1) (v := 1) dX12_use_1 (by decide) ?_
  refine R_bipush (pc := 2) (v := 16) dX12_use_2 (by decide) ?_
  refine R_callSp (pc := 4) (μ' := mX12_in) (As := [.int 7, .int 1, .int 16]) (st := []) dX12_use_4 zX12_in lX12_108 ⟨by decide, by decide⟩ rfl rfl ⟨by decide, by decide⟩ rfl (Nat.le_of_ble_eq_true rfl) (qX12_in l w _ _ _ _ _) ?_
  refine R_eqi (y := 1) (by decide) ?_
  refine R_if_ne (pc := 7) (tgt := 13) dX12_use_7 (by decide) (fun c_1 => ?_) (fun c_1 => absurd c_1 (by decide))
  refine R_aload_n (pc := 13) 0 dX12_use_13 rfl rfl ?_
  refine R_iload_n (pc := 14) 1 dX12_use_14 rfl rfl ?_
  refine R_bipush (pc := 15) (v := 9) dX12_use_15 (by decide) ?_
  refine R_icmp_eq (pc := 17) (tgt := 26) dX12_use_17 (by decide) (fun c_2 => absurd c_2 (by decide)) (fun c_2 => ?_)
  refine R_iload_n (pc := 20) 1 dX12_use_20 rfl rfl ?_
  refine R_bipush (pc := 21) (v := 15) dX12_use_21 (by decide) ?_
  refine R_icmp_ne (pc := 23) (tgt := 30) dX12_use_23 (by decide) (fun c_3 => ?_) (fun c_3 => absurd c_3 (by decide))
  refine R_iconst (pc := 30) (v := 0) dX12_use_30 (by decide) ?_
  refine R_callVh (pc := 31) (μ' := mX12_hasKeys) (As := [.int 0]) (st := []) dX12_use_31 zX12_hasKeys lX12_250 ⟨by decide, by decide⟩ rfl rfl ⟨by decide, by decide⟩ S.obj (by omega) rfl (Nat.le_of_ble_eq_true rfl) (oX12_hasKeys_0 S hn m hz0 hm B hB) (fun h_4 r_ q_5 => ?_)
  obtain ⟨ψa, rfl, Sa, Ka, Ea, Fa⟩ := q_5
  refine R_if_ne (pc := 34) (tgt := 40) dX12_use_34 (by decide) (fun c_6 => ?_) (fun c_6 => absurd c_6 (by decide))
  refine R_aload_n (pc := 40) 0 dX12_use_40 rfl rfl ?_
  refine R_iload_n (pc := 41) 1 dX12_use_41 rfl rfl ?_
  refine R_iload_n (pc := 42) 2 dX12_use_42 rfl rfl ?_
  refine R_callVh (pc := 43) (μ' := mX12_fits) (As := [.int 7, .int 0]) (st := []) dX12_use_43 zX12_fits lX12_254 ⟨by decide, by decide⟩ rfl rfl ⟨by decide, by decide⟩ Sa.obj (by omega) rfl (Nat.le_of_ble_eq_true rfl) (oX12_fits_7sN Sa hn d s mm hd hs (by omega) hz1 hz2 hi1 hP) (fun h_7 r_ q_8 => ?_)
  obtain ⟨rfl, Sb, Fb⟩ := q_8
  refine R_if_ne (pc := 46) (tgt := 52) dX12_use_46 (by decide) (fun c_9 => absurd (rfl) c_9) (fun c_9 => ?_)
  refine R_bipush (pc := 49) (v := (-2)) dX12_use_49 (by decide) ?_
  exact R_ireturn (pc := 51) dX12_use_51 rfl (by decide) (by decide) ⟨rfl, ψa, i, rfl, Sb, ⟨Ka 62 (by decide), Ka 65 (by decide), Ka 66 (by decide)⟩, ⟨rfl, rfl⟩, ⟨Ka 64 (by decide), rfl⟩, (Fa.tr Fb)⟩
set_option maxHeartbeats 1000000 in
set_option maxRecDepth 100000 in
theorem oX12_use_7oF {l : Launch} {w : am_W} {h : am_H} {n : Nat} {ψ : Nat → oA} {z : fA} {i : mI} (S : MO h ψ z i) (hn : 90 ≤ n) (d s mm m : Nat) (hd : d ≤ 512) (hs : s ≤ 64) (hmm16 : mm ≤ 16) (hi1 : i 1 = nI mm) (hz0 : z 0 = nI (4 * m)) (hm : m = 4 ∨ m = 6 ∨ m = 8) (hz1 : z 1 = nI d) (hz2 : z 2 = nI s) (B : BitVec 8 → BitVec 8) (hB : ∀ v : BitVec 8, ψ 65 v.toNat = B v) (hP : ¬ (ftP 7 1 d s mm)) : RH l w mX12_use h n [.ref 61, .int 7, .int 1] (uQ h ψ z i (-2) none) := by
  refine RC.of [(0, .ref 61), (1, .int 7), (2, .int 1)] (by decide +kernel) rfl (Nat.le_of_ble_eq_true rfl) ?_
  refine R_iload_n (pc := 0) 1 dX12_use_0 rfl rfl ?_
  refine R_iconst (pc := 1) (v := 1) dX12_use_1 (by decide) ?_
  refine R_bipush (pc := 2) (v := 16) dX12_use_2 (by decide) ?_
  refine R_callSp (pc := 4) (μ' := mX12_in) (As := [.int 7, .int 1, .int 16]) (st := []) dX12_use_4 zX12_in lX12_108 ⟨by decide, by decide⟩ rfl rfl ⟨by decide, by decide⟩ rfl (Nat.le_of_ble_eq_true rfl) (qX12_in l w _ _ _ _ _) ?_
  refine R_eqi (y := 1) (by decide) ?_
  refine R_if_ne (pc := 7) (tgt := 13) dX12_use_7 (by decide) (fun c_1 => ?_) (fun c_1 => absurd c_1 (by decide))
  refine R_aload_n (pc := 13) 0 dX12_use_13 rfl rfl ?_
  refine R_iload_n (pc := 14) 1 dX12_use_14 rfl rfl ?_
  refine R_bipush (pc := 15) (v := 9) dX12_use_15 (by decide) ?_
  refine R_icmp_eq (pc := 17) (tgt := 26) dX12_use_17 (by decide) (fun c_2 => absurd c_2 (by decide)) (fun c_2 => ?_)
  refine R_iload_n (pc := 20) 1 dX12_use_20 rfl rfl ?_
  refine R_bipush (pc := 21) (v := 15) dX12_use_21 (by decide) ?_
  refine R_icmp_ne (pc := 23) (tgt := 30) dX12_use_23 (by decide) (fun c_3 => ?_) (fun c_3 => absurd c_3 (by decide))
  refine R_iconst (pc := 30) (v := 0) dX12_use_30 (by decide) ?_
  refine R_callVh (pc := 31) (μ' := mX12_hasKeys) (As := [.int 0]) (st := []) dX12_use_31 zX12_hasKeys lX12_250 ⟨by decide, by decide⟩ rfl rfl ⟨by decide, by decide⟩ S.obj (by omega) rfl (Nat.le_of_ble_eq_true rfl) (oX12_hasKeys_0 S hn m hz0 hm B hB) (fun h_4 r_ q_5 => ?_)
  obtain ⟨ψa, rfl, Sa, Ka, Ea, Fa⟩ := q_5
  refine R_if_ne (pc := 34) (tgt := 40) dX12_use_34 (by decide) (fun c_6 => ?_) (fun c_6 => absurd c_6 (by decide))
  refine R_aload_n (pc := 40) 0 dX12_use_40 rfl rfl ?_
  refine R_iload_n (pc := 41) 1 dX12_use_41 rfl rfl ?_
  refine R_iload_n (pc := 42) 2 dX12_use_42 rfl rfl ?_
  refine R_callVh (pc := 43) (μ' := mX12_fits) (As := [.int 7, .int 1]) (st := []) dX12_use_43 zX12_fits lX12_254 ⟨by decide, by decide⟩ rfl rfl ⟨by decide, by decide⟩ Sa.obj (by omega) rfl (Nat.le_of_ble_eq_true rfl) (oX12_fits_7oN Sa hn d s mm hd hs (by omega) hz1 hz2 hi1 hP) (fun h_7 r_ q_8 => ?_)
  obtain ⟨rfl, Sb, Fb⟩ := q_8
  refine R_if_ne (pc := 46) (tgt := 52) dX12_use_46 (by decide) (fun c_9 => absurd (rfl) c_9) (fun c_9 => ?_)
  refine R_bipush (pc := 49) (v := (-2)) dX12_use_49 (by decide) ?_
  exact R_ireturn (pc := 51) dX12_use_51 rfl (by decide) (by decide) ⟨rfl, ψa, i, rfl, Sb, ⟨Ka 62 (by decide), Ka 65 (by decide), Ka 66 (by decide)⟩, ⟨rfl, rfl⟩, ⟨Ka 64 (by decide), rfl⟩, (Fa.tr Fb)⟩
set_option maxHeartbeats 1000000 in
set_option maxRecDepth 100000 in
theorem oX12_use_8sF {l : Launch} {w : am_W} {h : am_H} {n : Nat} {ψ : Nat → oA} {z : fA} {i : mI} (S : MO h ψ z i) (hn : 90 ≤ n) (d s mm m : Nat) (hd : d ≤ 512) (hs : s ≤ 64) (hmm16 : mm ≤ 16) (hi1 : i 1 = nI mm) (hz0 : z 0 = nI (4 * m)) (hm : m = 4 ∨ m = 6 ∨ m = 8) (hz1 : z 1 = nI d) (hz2 : z 2 = nI s) (B : BitVec 8 → BitVec 8) (hB : ∀ v : BitVec 8, ψ 65 v.toNat = B v) (hP : ¬ (ftP 8 0 d s mm)) : RH l w mX12_use h n [.ref 61, .int 8, .int 0] (uQ h ψ z i (-2) none) := by
  refine RC.of [(0, .ref 61), (1, .int 8), (2, .int 0)] (by decide +kernel) rfl (Nat.le_of_ble_eq_true rfl) ?_
  refine R_iload_n (pc := 0) 1 dX12_use_0 rfl rfl ?_
  refine R_iconst (pc := 1) (v := 1) dX12_use_1 (by decide) ?_
  refine R_bipush (pc := 2) (v := 16) dX12_use_2 (by decide) ?_
  refine R_callSp (pc := 4) (μ' := mX12_in) (As := [.int 8, .int 1, .int 16]) (st := []) dX12_use_4 zX12_in lX12_108 ⟨by decide, by decide⟩ rfl rfl ⟨by decide, by decide⟩ rfl (Nat.le_of_ble_eq_true rfl) (qX12_in l w _ _ _ _ _) ?_
  refine R_eqi (y := 1) (by decide) ?_
  refine R_if_ne (pc := 7) (tgt := 13) dX12_use_7 (by decide) (fun c_1 => ?_) (fun c_1 => absurd c_1 (by decide))
  refine R_aload_n (pc := 13) 0 dX12_use_13 rfl rfl ?_
  refine R_iload_n (pc := 14) 1 dX12_use_14 rfl rfl ?_
  refine R_bipush (pc := 15) (v := 9) dX12_use_15 (by decide) ?_
  refine R_icmp_eq (pc := 17) (tgt := 26) dX12_use_17 (by decide) (fun c_2 => absurd c_2 (by decide)) (fun c_2 => ?_)
  refine R_iload_n (pc := 20) 1 dX12_use_20 rfl rfl ?_
  refine R_bipush (pc := 21) (v := 15) dX12_use_21 (by decide) ?_
  refine R_icmp_ne (pc := 23) (tgt := 30) dX12_use_23 (by decide) (fun c_3 => ?_) (fun c_3 => absurd c_3 (by decide))
  refine R_iconst (pc := 30) (v := 0) dX12_use_30 (by decide) ?_
  refine R_callVh (pc := 31) (μ' := mX12_hasKeys) (As := [.int 0]) (st := []) dX12_use_31 zX12_hasKeys lX12_250 ⟨by decide, by decide⟩ rfl rfl ⟨by decide, by decide⟩ S.obj (by omega) rfl (Nat.le_of_ble_eq_true rfl) (oX12_hasKeys_0 S hn m hz0 hm B hB) (fun h_4 r_ q_5 => ?_)
  obtain ⟨ψa, rfl, Sa, Ka, Ea, Fa⟩ := q_5
  refine R_if_ne (pc := 34) (tgt := 40) dX12_use_34 (by decide) (fun c_6 => ?_) (fun c_6 => absurd c_6 (by decide))
  refine R_aload_n (pc := 40) 0 dX12_use_40 rfl rfl ?_
  refine R_iload_n (pc := 41) 1 dX12_use_41 rfl rfl ?_
  refine R_iload_n (pc := 42) 2 dX12_use_42 rfl rfl ?_
  refine R_callVh (pc := 43) (μ' := mX12_fits) (As := [.int 8, .int 0]) (st := []) dX12_use_43 zX12_fits lX12_254 ⟨by decide, by decide⟩ rfl rfl ⟨by decide, by decide⟩ Sa.obj (by omega) rfl (Nat.le_of_ble_eq_true rfl) (oX12_fits_8sN Sa hn d s mm hd hs (by omega) hz1 hz2 hi1 hP) (fun h_7 r_ q_8 => ?_)
  obtain ⟨rfl, Sb, Fb⟩ := q_8
  refine R_if_ne (pc := 46) (tgt := 52) dX12_use_46 (by decide) (fun c_9 => absurd (rfl) c_9) (fun c_9 => ?_)
  refine R_bipush (pc := 49) (v := (-2)) dX12_use_49 (by decide) ?_
  exact R_ireturn (pc := 51) dX12_use_51 rfl (by decide) (by decide) ⟨rfl, ψa, i, rfl, Sb, ⟨Ka 62 (by decide), Ka 65 (by decide), Ka 66 (by decide)⟩, ⟨rfl, rfl⟩, ⟨Ka 64 (by decide), rfl⟩, (Fa.tr Fb)⟩
set_option maxHeartbeats 1000000 in
set_option maxRecDepth 100000 in
theorem oX12_use_8oF {l : Launch} {w : am_W} {h : am_H} {n : Nat} {ψ : Nat → oA} {z : fA} {i : mI} (S : MO h ψ z i) (hn : 90 ≤ n) (d s mm m : Nat) (hd : d ≤ 512) (hs : s ≤ 64) (hmm16 : mm ≤ 16) (hi1 : i 1 = nI mm) (hz0 : z 0 = nI (4 * m)) (hm : m = 4 ∨ m = 6 ∨ m = 8) (hz1 : z 1 = nI d) (hz2 : z 2 = nI s) (B : BitVec 8 → BitVec 8) (hB : ∀ v : BitVec 8, ψ 65 v.toNat = B v) (hP : ¬ (ftP 8 1 d s mm)) : RH l w mX12_use h n [.ref 61, .int 8, .int 1] (uQ h ψ z i (-2) none) := by
  refine RC.of [(0, .ref 61), (1, .int 8), (2, .int 1)] (by decide +kernel) rfl (Nat.le_of_ble_eq_true rfl) ?_
  refine R_iload_n (pc := 0) 1 dX12_use_0 rfl rfl ?_
  refine R_iconst (pc := 1) (v := 1) dX12_use_1 (by decide) ?_
  refine R_bipush (pc := 2) (v := 16) dX12_use_2 (by decide) ?_
  refine R_callSp (pc := 4) (μ' := mX12_in) (As := [.int 8, .int 1, .int 16]) (st := []) dX12_use_4 zX12_in lX12_108 ⟨by decide, by decide⟩ rfl rfl ⟨by decide, by decide⟩ rfl (Nat.le_of_ble_eq_true rfl) (qX12_in l w _ _ _ _ _) ?_
  refine R_eqi (y := 1) (by decide) ?_
  refine R_if_ne (pc := 7) (tgt := 13) dX12_use_7 (by decide) (fun c_1 => ?_) (fun c_1 => absurd c_1 (by decide))
  refine R_aload_n (pc := 13) 0 dX12_use_13 rfl rfl ?_
  refine R_iload_n (pc := 14) 1 dX12_use_14 rfl rfl ?_
  refine R_bipush (pc := 15) (v := 9) dX12_use_15 (by decide) ?_
  refine R_icmp_eq (pc := 17) (tgt := 26) dX12_use_17 (by decide) (fun c_2 => absurd c_2 (by decide)) (fun c_2 => ?_)
  refine R_iload_n (pc := 20) 1 dX12_use_20 rfl rfl ?_
  refine R_bipush (pc := 21) (v := 15) dX12_use_21 (by decide) ?_
  refine R_icmp_ne (pc := 23) (tgt := 30) dX12_use_23 (by decide) (fun c_3 => ?_) (fun c_3 => absurd c_3 (by decide))
  refine R_iconst (pc := 30) (v := 0) dX12_use_30 (by decide) ?_
  refine R_callVh (pc := 31) (μ' := mX12_hasKeys) (As := [.int 0]) (st := []) dX12_use_31 zX12_hasKeys lX12_250 ⟨by decide, by decide⟩ rfl rfl ⟨by decide, by decide⟩ S.obj (by omega) rfl (Nat.le_of_ble_eq_true rfl) (oX12_hasKeys_0 S hn m hz0 hm B hB) (fun h_4 r_ q_5 => ?_)
  obtain ⟨ψa, rfl, Sa, Ka, Ea, Fa⟩ := q_5
  refine R_if_ne (pc := 34) (tgt := 40) dX12_use_34 (by decide) (fun c_6 => ?_) (fun c_6 => absurd c_6 (by decide))
  refine R_aload_n (pc := 40) 0 dX12_use_40 rfl rfl ?_
  refine R_iload_n (pc := 41) 1 dX12_use_41 rfl rfl ?_
  refine R_iload_n (pc := 42) 2 dX12_use_42 rfl rfl ?_
  refine R_callVh (pc := 43) (μ' := mX12_fits) (As := [.int 8, .int 1]) (st := []) dX12_use_43 zX12_fits lX12_254 ⟨by decide, by decide⟩ rfl rfl ⟨by decide, by decide⟩ Sa.obj (by omega) rfl (Nat.le_of_ble_eq_true rfl) (oX12_fits_8oN Sa hn d s mm hd hs (by omega) hz1 hz2 hi1 hP) (fun h_7 r_ q_8 => ?_)
  obtain ⟨rfl, Sb, Fb⟩ := q_8
  refine R_if_ne (pc := 46) (tgt := 52) dX12_use_46 (by decide) (fun c_9 => absurd (rfl) c_9) (fun c_9 => ?_)
  refine R_bipush (pc := 49) (v := (-2)) dX12_use_49 (by decide) ?_
  exact R_ireturn (pc := 51) dX12_use_51 rfl (by decide) (by decide) ⟨rfl, ψa, i, rfl, Sb, ⟨Ka 62 (by decide), Ka 65 (by decide), Ka 66 (by decide)⟩, ⟨rfl, rfl⟩, ⟨Ka 64 (by decide), rfl⟩, (Fa.tr Fb)⟩
set_option maxHeartbeats 1000000 in
set_option maxRecDepth 100000 in
theorem oX12_use_9sF {l : Launch} {w : am_W} {h : am_H} {n : Nat} {ψ : Nat → oA} {z : fA} {i : mI} (S : MO h ψ z i) (hn : 90 ≤ n) (d s mm m : Nat) (hd : d ≤ 512) (hs : s ≤ 64) (hmm16 : mm ≤ 16) (hi1 : i 1 = nI mm) (hz0 : z 0 = nI (8 * m)) (hm : m = 4 ∨ m = 6 ∨ m = 8) (hz1 : z 1 = nI d) (hz2 : z 2 = nI s) (B : BitVec 8 → BitVec 8) (hB : ∀ v : BitVec 8, ψ 65 v.toNat = B v) (hP : ¬ (ftP 9 0 d s mm)) : RH l w mX12_use h n [.ref 61, .int 9, .int 0] (uQ h ψ z i (-2) none) := by
  refine RC.of [(0, .ref 61), (1, .int 9), (2, .int 0)] (by decide +kernel) rfl (Nat.le_of_ble_eq_true rfl) ?_
  refine R_iload_n (pc := 0) 1 dX12_use_0 rfl rfl ?_
  refine R_iconst (pc := 1) (v := 1) dX12_use_1 (by decide) ?_
  refine R_bipush (pc := 2) (v := 16) dX12_use_2 (by decide) ?_
  refine R_callSp (pc := 4) (μ' := mX12_in) (As := [.int 9, .int 1, .int 16]) (st := []) dX12_use_4 zX12_in lX12_108 ⟨by decide, by decide⟩ rfl rfl ⟨by decide, by decide⟩ rfl (Nat.le_of_ble_eq_true rfl) (qX12_in l w _ _ _ _ _) ?_
  refine R_eqi (y := 1) (by decide) ?_
  refine R_if_ne (pc := 7) (tgt := 13) dX12_use_7 (by decide) (fun c_1 => ?_) (fun c_1 => absurd c_1 (by decide))
  refine R_aload_n (pc := 13) 0 dX12_use_13 rfl rfl ?_
  refine R_iload_n (pc := 14) 1 dX12_use_14 rfl rfl ?_
  refine R_bipush (pc := 15) (v := 9) dX12_use_15 (by decide) ?_
  refine R_icmp_eq (pc := 17) (tgt := 26) dX12_use_17 (by decide) (fun c_2 => ?_) (fun c_2 => absurd (rfl) c_2)
  refine R_iconst (pc := 26) (v := 1) dX12_use_26 (by decide) ?_
  refine R_goto (pc := 27) (tgt := 31) dX12_use_27 (by decide) ?_
  refine R_callVh (pc := 31) (μ' := mX12_hasKeys) (As := [.int 1]) (st := []) dX12_use_31 zX12_hasKeys lX12_250 ⟨by decide, by decide⟩ rfl rfl ⟨by decide, by decide⟩ S.obj (by omega) rfl (Nat.le_of_ble_eq_true rfl) (oX12_hasKeys_1 S hn m hz0 hm B hB) (fun h_3 r_ q_4 => ?_)
  obtain ⟨ψa, rfl, Sa, Ka, Ea, Fa⟩ := q_4
  refine R_if_ne (pc := 34) (tgt := 40) dX12_use_34 (by decide) (fun c_5 => ?_) (fun c_5 => absurd c_5 (by decide))
  refine R_aload_n (pc := 40) 0 dX12_use_40 rfl rfl ?_
  refine R_iload_n (pc := 41) 1 dX12_use_41 rfl rfl ?_
  refine R_iload_n (pc := 42) 2 dX12_use_42 rfl rfl ?_
  refine R_callVh (pc := 43) (μ' := mX12_fits) (As := [.int 9, .int 0]) (st := []) dX12_use_43 zX12_fits lX12_254 ⟨by decide, by decide⟩ rfl rfl ⟨by decide, by decide⟩ Sa.obj (by omega) rfl (Nat.le_of_ble_eq_true rfl) (oX12_fits_9sN Sa hn d s mm hd hs (by omega) hz1 hz2 hi1 hP) (fun h_6 r_ q_7 => ?_)
  obtain ⟨rfl, Sb, Fb⟩ := q_7
  refine R_if_ne (pc := 46) (tgt := 52) dX12_use_46 (by decide) (fun c_8 => absurd (rfl) c_8) (fun c_8 => ?_)
  refine R_bipush (pc := 49) (v := (-2)) dX12_use_49 (by decide) ?_
  exact R_ireturn (pc := 51) dX12_use_51 rfl (by decide) (by decide) ⟨rfl, ψa, i, rfl, Sb, ⟨Ka 62 (by decide), Ka 65 (by decide), Ka 66 (by decide)⟩, ⟨rfl, rfl⟩, ⟨Ka 64 (by decide), rfl⟩, (Fa.tr Fb)⟩
set_option maxHeartbeats 1000000 in
set_option maxRecDepth 100000 in
theorem oX12_use_9oF {l : Launch} {w : am_W} {h : am_H} {n : Nat} {ψ : Nat → oA} {z : fA} {i : mI} (S : MO h ψ z i) (hn : 90 ≤ n) (d s mm m : Nat) (hd : d ≤ 512) (hs : s ≤ 64) (hmm16 : mm ≤ 16) (hi1 : i 1 = nI mm) (hz0 : z 0 = nI (8 * m)) (hm : m = 4 ∨ m = 6 ∨ m = 8) (hz1 : z 1 = nI d) (hz2 : z 2 = nI s) (B : BitVec 8 → BitVec 8) (hB : ∀ v : BitVec 8, ψ 65 v.toNat = B v) (hP : ¬ (ftP 9 1 d s mm)) : RH l w mX12_use h n [.ref 61, .int 9, .int 1] (uQ h ψ z i (-2) none) := by
  refine RC.of [(0, .ref 61), (1, .int 9), (2, .int 1)] (by decide +kernel) rfl (Nat.le_of_ble_eq_true rfl) ?_
  refine R_iload_n (pc := 0) 1 dX12_use_0 rfl rfl ?_
  refine R_iconst (pc := 1) (v := 1) dX12_use_1 (by decide) ?_
  refine R_bipush (pc := 2) (v := 16) dX12_use_2 (by decide) ?_
  refine R_callSp (pc := 4) (μ' := mX12_in) (As := [.int 9, .int 1, .int 16]) (st := []) dX12_use_4 zX12_in lX12_108 ⟨by decide, by decide⟩ rfl rfl ⟨by decide, by decide⟩ rfl (Nat.le_of_ble_eq_true rfl) (qX12_in l w _ _ _ _ _) ?_
  refine R_eqi (y := 1) (by decide) ?_
  refine R_if_ne (pc := 7) (tgt := 13) dX12_use_7 (by decide) (fun c_1 => ?_) (fun c_1 => absurd c_1 (by decide))
  refine R_aload_n (pc := 13) 0 dX12_use_13 rfl rfl ?_
  refine R_iload_n (pc := 14) 1 dX12_use_14 rfl rfl ?_
  refine R_bipush (pc := 15) (v := 9) dX12_use_15 (by decide) ?_
  refine R_icmp_eq (pc := 17) (tgt := 26) dX12_use_17 (by decide) (fun c_2 => ?_) (fun c_2 => absurd (rfl) c_2)
  refine R_iconst (pc := 26) (v := 1) dX12_use_26 (by decide) ?_
  refine R_goto (pc := 27) (tgt := 31) dX12_use_27 (by decide) ?_
  refine R_callVh (pc := 31) (μ' := mX12_hasKeys) (As := [.int 1]) (st := []) dX12_use_31 zX12_hasKeys lX12_250 ⟨by decide, by decide⟩ rfl rfl ⟨by decide, by decide⟩ S.obj (by omega) rfl (Nat.le_of_ble_eq_true rfl) (oX12_hasKeys_1 S hn m hz0 hm B hB) (fun h_3 r_ q_4 => ?_)
  obtain ⟨ψa, rfl, Sa, Ka, Ea, Fa⟩ := q_4
  refine R_if_ne (pc := 34) (tgt := 40) dX12_use_34 (by decide) (fun c_5 => ?_) (fun c_5 => absurd c_5 (by decide))
  refine R_aload_n (pc := 40) 0 dX12_use_40 rfl rfl ?_
  refine R_iload_n (pc := 41) 1 dX12_use_41 rfl rfl ?_
  refine R_iload_n (pc := 42) 2 dX12_use_42 rfl rfl ?_
  refine R_callVh (pc := 43) (μ' := mX12_fits) (As := [.int 9, .int 1]) (st := []) dX12_use_43 zX12_fits lX12_254 ⟨by decide, by decide⟩ rfl rfl ⟨by decide, by decide⟩ Sa.obj (by omega) rfl (Nat.le_of_ble_eq_true rfl) (oX12_fits_9oN Sa hn d s mm hd hs (by omega) hz1 hz2 hi1 hP) (fun h_6 r_ q_7 => ?_)
  obtain ⟨rfl, Sb, Fb⟩ := q_7
  refine R_if_ne (pc := 46) (tgt := 52) dX12_use_46 (by decide) (fun c_8 => absurd (rfl) c_8) (fun c_8 => ?_)
  refine R_bipush (pc := 49) (v := (-2)) dX12_use_49 (by decide) ?_
  exact R_ireturn (pc := 51) dX12_use_51 rfl (by decide) (by decide) ⟨rfl, ψa, i, rfl, Sb, ⟨Ka 62 (by decide), Ka 65 (by decide), Ka 66 (by decide)⟩, ⟨rfl, rfl⟩, ⟨Ka 64 (by decide), rfl⟩, (Fa.tr Fb)⟩
set_option maxHeartbeats 1000000 in
set_option maxRecDepth 100000 in
theorem oX12_use_10sF {l : Launch} {w : am_W} {h : am_H} {n : Nat} {ψ : Nat → oA} {z : fA} {i : mI} (S : MO h ψ z i) (hn : 90 ≤ n) (d s mm m : Nat) (hd : d ≤ 512) (hs : s ≤ 64) (hmm16 : mm ≤ 16) (hi1 : i 1 = nI mm) (hz0 : z 0 = nI (4 * m)) (hm : m = 4 ∨ m = 6 ∨ m = 8) (hz1 : z 1 = nI d) (hz2 : z 2 = nI s) (B : BitVec 8 → BitVec 8) (hB : ∀ v : BitVec 8, ψ 65 v.toNat = B v) (hP : ¬ (ftP 10 0 d s mm)) : RH l w mX12_use h n [.ref 61, .int 10, .int 0] (uQ h ψ z i (-2) none) := by
  refine RC.of [(0, .ref 61), (1, .int 10), (2, .int 0)] (by decide +kernel) rfl (Nat.le_of_ble_eq_true rfl) ?_
  refine R_iload_n (pc := 0) 1 dX12_use_0 rfl rfl ?_
  refine R_iconst (pc := 1) (v := 1) dX12_use_1 (by decide) ?_
  refine R_bipush (pc := 2) (v := 16) dX12_use_2 (by decide) ?_
  refine R_callSp (pc := 4) (μ' := mX12_in) (As := [.int 10, .int 1, .int 16]) (st := []) dX12_use_4 zX12_in lX12_108 ⟨by decide, by decide⟩ rfl rfl ⟨by decide, by decide⟩ rfl (Nat.le_of_ble_eq_true rfl) (qX12_in l w _ _ _ _ _) ?_
  refine R_eqi (y := 1) (by decide) ?_
  refine R_if_ne (pc := 7) (tgt := 13) dX12_use_7 (by decide) (fun c_1 => ?_) (fun c_1 => absurd c_1 (by decide))
  refine R_aload_n (pc := 13) 0 dX12_use_13 rfl rfl ?_
  refine R_iload_n (pc := 14) 1 dX12_use_14 rfl rfl ?_
  refine R_bipush (pc := 15) (v := 9) dX12_use_15 (by decide) ?_
  refine R_icmp_eq (pc := 17) (tgt := 26) dX12_use_17 (by decide) (fun c_2 => absurd c_2 (by decide)) (fun c_2 => ?_)
  refine R_iload_n (pc := 20) 1 dX12_use_20 rfl rfl ?_
  refine R_bipush (pc := 21) (v := 15) dX12_use_21 (by decide) ?_
  refine R_icmp_ne (pc := 23) (tgt := 30) dX12_use_23 (by decide) (fun c_3 => ?_) (fun c_3 => absurd c_3 (by decide))
  refine R_iconst (pc := 30) (v := 0) dX12_use_30 (by decide) ?_
  refine R_callVh (pc := 31) (μ' := mX12_hasKeys) (As := [.int 0]) (st := []) dX12_use_31 zX12_hasKeys lX12_250 ⟨by decide, by decide⟩ rfl rfl ⟨by decide, by decide⟩ S.obj (by omega) rfl (Nat.le_of_ble_eq_true rfl) (oX12_hasKeys_0 S hn m hz0 hm B hB) (fun h_4 r_ q_5 => ?_)
  obtain ⟨ψa, rfl, Sa, Ka, Ea, Fa⟩ := q_5
  refine R_if_ne (pc := 34) (tgt := 40) dX12_use_34 (by decide) (fun c_6 => ?_) (fun c_6 => absurd c_6 (by decide))
  refine R_aload_n (pc := 40) 0 dX12_use_40 rfl rfl ?_
  refine R_iload_n (pc := 41) 1 dX12_use_41 rfl rfl ?_
  refine R_iload_n (pc := 42) 2 dX12_use_42 rfl rfl ?_
  refine R_callVh (pc := 43) (μ' := mX12_fits) (As := [.int 10, .int 0]) (st := []) dX12_use_43 zX12_fits lX12_254 ⟨by decide, by decide⟩ rfl rfl ⟨by decide, by decide⟩ Sa.obj (by omega) rfl (Nat.le_of_ble_eq_true rfl) (oX12_fits_10sN Sa hn d s mm hd hs (by omega) hz1 hz2 hi1 hP) (fun h_7 r_ q_8 => ?_)
  obtain ⟨rfl, Sb, Fb⟩ := q_8
  refine R_if_ne (pc := 46) (tgt := 52) dX12_use_46 (by decide) (fun c_9 => absurd (rfl) c_9) (fun c_9 => ?_)
  refine R_bipush (pc := 49) (v := (-2)) dX12_use_49 (by decide) ?_
  exact R_ireturn (pc := 51) dX12_use_51 rfl (by decide) (by decide) ⟨rfl, ψa, i, rfl, Sb, ⟨Ka 62 (by decide), Ka 65 (by decide), Ka 66 (by decide)⟩, ⟨rfl, rfl⟩, ⟨Ka 64 (by decide), rfl⟩, (Fa.tr Fb)⟩
set_option maxHeartbeats 1000000 in
set_option maxRecDepth 100000 in
theorem oX12_use_10oF {l : Launch} {w : am_W} {h : am_H} {n : Nat} {ψ : Nat → oA} {z : fA} {i : mI} (S : MO h ψ z i) (hn : 90 ≤ n) (d s mm m : Nat) (hd : d ≤ 512) (hs : s ≤ 64) (hmm16 : mm ≤ 16) (hi1 : i 1 = nI mm) (hz0 : z 0 = nI (4 * m)) (hm : m = 4 ∨ m = 6 ∨ m = 8) (hz1 : z 1 = nI d) (hz2 : z 2 = nI s) (B : BitVec 8 → BitVec 8) (hB : ∀ v : BitVec 8, ψ 65 v.toNat = B v) (hP : ¬ (ftP 10 1 d s mm)) : RH l w mX12_use h n [.ref 61, .int 10, .int 1] (uQ h ψ z i (-2) none) := by
  refine RC.of [(0, .ref 61), (1, .int 10), (2, .int 1)] (by decide +kernel) rfl (Nat.le_of_ble_eq_true rfl) ?_
  refine R_iload_n (pc := 0) 1 dX12_use_0 rfl rfl ?_
  refine R_iconst (pc := 1) (v := 1) dX12_use_1 (by decide) ?_
  refine R_bipush (pc := 2) (v := 16) dX12_use_2 (by decide) ?_
  refine R_callSp (pc := 4) (μ' := mX12_in) (As := [.int 10, .int 1, .int 16]) (st := []) dX12_use_4 zX12_in lX12_108 ⟨by decide, by decide⟩ rfl rfl ⟨by decide, by decide⟩ rfl (Nat.le_of_ble_eq_true rfl) (qX12_in l w _ _ _ _ _) ?_
  refine R_eqi (y := 1) (by decide) ?_
  refine R_if_ne (pc := 7) (tgt := 13) dX12_use_7 (by decide) (fun c_1 => ?_) (fun c_1 => absurd c_1 (by decide))
  refine R_aload_n (pc := 13) 0 dX12_use_13 rfl rfl ?_
  refine R_iload_n (pc := 14) 1 dX12_use_14 rfl rfl ?_
  refine R_bipush (pc := 15) (v := 9) dX12_use_15 (by decide) ?_
  refine R_icmp_eq (pc := 17) (tgt := 26) dX12_use_17 (by decide) (fun c_2 => absurd c_2 (by decide)) (fun c_2 => ?_)
  refine R_iload_n (pc := 20) 1 dX12_use_20 rfl rfl ?_
  refine R_bipush (pc := 21) (v := 15) dX12_use_21 (by decide) ?_
  refine R_icmp_ne (pc := 23) (tgt := 30) dX12_use_23 (by decide) (fun c_3 => ?_) (fun c_3 => absurd c_3 (by decide))
  refine R_iconst (pc := 30) (v := 0) dX12_use_30 (by decide) ?_
  refine R_callVh (pc := 31) (μ' := mX12_hasKeys) (As := [.int 0]) (st := []) dX12_use_31 zX12_hasKeys lX12_250 ⟨by decide, by decide⟩ rfl rfl ⟨by decide, by decide⟩ S.obj (by omega) rfl (Nat.le_of_ble_eq_true rfl) (oX12_hasKeys_0 S hn m hz0 hm B hB) (fun h_4 r_ q_5 => ?_)
  obtain ⟨ψa, rfl, Sa, Ka, Ea, Fa⟩ := q_5
  refine R_if_ne (pc := 34) (tgt := 40) dX12_use_34 (by decide) (fun c_6 => ?_) (fun c_6 => absurd c_6 (by decide))
  refine R_aload_n (pc := 40) 0 dX12_use_40 rfl rfl ?_
  refine R_iload_n (pc := 41) 1 dX12_use_41 rfl rfl ?_
  refine R_iload_n (pc := 42) 2 dX12_use_42 rfl rfl ?_
  refine R_callVh (pc := 43) (μ' := mX12_fits) (As := [.int 10, .int 1]) (st := []) dX12_use_43 zX12_fits lX12_254 ⟨by decide, by decide⟩ rfl rfl ⟨by decide, by decide⟩ Sa.obj (by omega) rfl (Nat.le_of_ble_eq_true rfl) (oX12_fits_10oN Sa hn d s mm hd hs (by omega) hz1 hz2 hi1 hP) (fun h_7 r_ q_8 => ?_)
  obtain ⟨rfl, Sb, Fb⟩ := q_8
  refine R_if_ne (pc := 46) (tgt := 52) dX12_use_46 (by decide) (fun c_9 => absurd (rfl) c_9) (fun c_9 => ?_)
  refine R_bipush (pc := 49) (v := (-2)) dX12_use_49 (by decide) ?_
  exact R_ireturn (pc := 51) dX12_use_51 rfl (by decide) (by decide) ⟨rfl, ψa, i, rfl, Sb, ⟨Ka 62 (by decide), Ka 65 (by decide), Ka 66 (by decide)⟩, ⟨rfl, rfl⟩, ⟨Ka 64 (by decide), rfl⟩, (Fa.tr Fb)⟩
set_option maxHeartbeats 1000000 in
set_option maxRecDepth 100000 in
theorem oX12_use_11sF {l : Launch} {w : am_W} {h : am_H} {n : Nat} {ψ : Nat → oA} {z : fA} {i : mI} (S : MO h ψ z i) (hn : 90 ≤ n) (d s mm m : Nat) (hd : d ≤ 512) (hs : s ≤ 64) (hmm16 : mm ≤ 16) (hi1 : i 1 = nI mm) (hz0 : z 0 = nI (4 * m)) (hm : m = 4 ∨ m = 6 ∨ m = 8) (hz1 : z 1 = nI d) (hz2 : z 2 = nI s) (B : BitVec 8 → BitVec 8) (hB : ∀ v : BitVec 8, ψ 65 v.toNat = B v) (hP : ¬ (ftP 11 0 d s mm)) : RH l w mX12_use h n [.ref 61, .int 11, .int 0] (uQ h ψ z i (-2) none) := by
  refine RC.of [(0, .ref 61), (1, .int 11), (2, .int 0)] (by decide +kernel) rfl (Nat.le_of_ble_eq_true rfl) ?_
  refine R_iload_n (pc := 0) 1 dX12_use_0 rfl rfl ?_
  refine R_iconst (pc := 1) (v := 1) dX12_use_1 (by decide) ?_
  refine R_bipush (pc := 2) (v := 16) dX12_use_2 (by decide) ?_
  refine R_callSp (pc := 4) (μ' := mX12_in) (As := [.int 11, .int 1, .int 16]) (st := []) dX12_use_4 zX12_in lX12_108 ⟨by decide, by decide⟩ rfl rfl ⟨by decide, by decide⟩ rfl (Nat.le_of_ble_eq_true rfl) (qX12_in l w _ _ _ _ _) ?_
  refine R_eqi (y := 1) (by decide) ?_
  refine R_if_ne (pc := 7) (tgt := 13) dX12_use_7 (by decide) (fun c_1 => ?_) (fun c_1 => absurd c_1 (by decide))
  refine R_aload_n (pc := 13) 0 dX12_use_13 rfl rfl ?_
  refine R_iload_n (pc := 14) 1 dX12_use_14 rfl rfl ?_
  refine R_bipush (pc := 15) (v := 9) dX12_use_15 (by decide) ?_
  refine R_icmp_eq (pc := 17) (tgt := 26) dX12_use_17 (by decide) (fun c_2 => absurd c_2 (by decide)) (fun c_2 => ?_)
  refine R_iload_n (pc := 20) 1 dX12_use_20 rfl rfl ?_
  refine R_bipush (pc := 21) (v := 15) dX12_use_21 (by decide) ?_
  refine R_icmp_ne (pc := 23) (tgt := 30) dX12_use_23 (by decide) (fun c_3 => ?_) (fun c_3 => absurd c_3 (by decide))
  refine R_iconst (pc := 30) (v := 0) dX12_use_30 (by decide) ?_
  refine R_callVh (pc := 31) (μ' := mX12_hasKeys) (As := [.int 0]) (st := []) dX12_use_31 zX12_hasKeys lX12_250 ⟨by decide, by decide⟩ rfl rfl ⟨by decide, by decide⟩ S.obj (by omega) rfl (Nat.le_of_ble_eq_true rfl) (oX12_hasKeys_0 S hn m hz0 hm B hB) (fun h_4 r_ q_5 => ?_)
  obtain ⟨ψa, rfl, Sa, Ka, Ea, Fa⟩ := q_5
  refine R_if_ne (pc := 34) (tgt := 40) dX12_use_34 (by decide) (fun c_6 => ?_) (fun c_6 => absurd c_6 (by decide))
  refine R_aload_n (pc := 40) 0 dX12_use_40 rfl rfl ?_
  refine R_iload_n (pc := 41) 1 dX12_use_41 rfl rfl ?_
  refine R_iload_n (pc := 42) 2 dX12_use_42 rfl rfl ?_
  refine R_callVh (pc := 43) (μ' := mX12_fits) (As := [.int 11, .int 0]) (st := []) dX12_use_43 zX12_fits lX12_254 ⟨by decide, by decide⟩ rfl rfl ⟨by decide, by decide⟩ Sa.obj (by omega) rfl (Nat.le_of_ble_eq_true rfl) (oX12_fits_11sN Sa hn d s mm hd hs (by omega) hz1 hz2 hi1 hP) (fun h_7 r_ q_8 => ?_)
  obtain ⟨rfl, Sb, Fb⟩ := q_8
  refine R_if_ne (pc := 46) (tgt := 52) dX12_use_46 (by decide) (fun c_9 => absurd (rfl) c_9) (fun c_9 => ?_)
  refine R_bipush (pc := 49) (v := (-2)) dX12_use_49 (by decide) ?_
  exact R_ireturn (pc := 51) dX12_use_51 rfl (by decide) (by decide) ⟨rfl, ψa, i, rfl, Sb, ⟨Ka 62 (by decide), Ka 65 (by decide), Ka 66 (by decide)⟩, ⟨rfl, rfl⟩, ⟨Ka 64 (by decide), rfl⟩, (Fa.tr Fb)⟩
set_option maxHeartbeats 1000000 in
set_option maxRecDepth 100000 in
theorem oX12_use_11oF {l : Launch} {w : am_W} {h : am_H} {n : Nat} {ψ : Nat → oA} {z : fA} {i : mI} (S : MO h ψ z i) (hn : 90 ≤ n) (d s mm m : Nat) (hd : d ≤ 512) (hs : s ≤ 64) (hmm16 : mm ≤ 16) (hi1 : i 1 = nI mm) (hz0 : z 0 = nI (4 * m)) (hm : m = 4 ∨ m = 6 ∨ m = 8) (hz1 : z 1 = nI d) (hz2 : z 2 = nI s) (B : BitVec 8 → BitVec 8) (hB : ∀ v : BitVec 8, ψ 65 v.toNat = B v) (hP : ¬ (ftP 11 1 d s mm)) : RH l w mX12_use h n [.ref 61, .int 11, .int 1] (uQ h ψ z i (-2) none) := by
  refine RC.of [(0, .ref 61), (1, .int 11), (2, .int 1)] (by decide +kernel) rfl (Nat.le_of_ble_eq_true rfl) ?_
  refine R_iload_n (pc := 0) 1 dX12_use_0 rfl rfl ?_
  refine R_iconst (pc := 1) (v := 1) dX12_use_1 (by decide) ?_
  refine R_bipush (pc := 2) (v := 16) dX12_use_2 (by decide) ?_
  refine R_callSp (pc := 4) (μ' := mX12_in) (As := [.int 11, .int 1, .int 16]) (st := []) dX12_use_4 zX12_in lX12_108 ⟨by decide, by decide⟩ rfl rfl ⟨by decide, by decide⟩ rfl (Nat.le_of_ble_eq_true rfl) (qX12_in l w _ _ _ _ _) ?_
  refine R_eqi (y := 1) (by decide) ?_
  refine R_if_ne (pc := 7) (tgt := 13) dX12_use_7 (by decide) (fun c_1 => ?_) (fun c_1 => absurd c_1 (by decide))
  refine R_aload_n (pc := 13) 0 dX12_use_13 rfl rfl ?_
  refine R_iload_n (pc := 14) 1 dX12_use_14 rfl rfl ?_
  refine R_bipush (pc := 15) (v := 9) dX12_use_15 (by decide) ?_
  refine R_icmp_eq (pc := 17) (tgt := 26) dX12_use_17 (by decide) (fun c_2 => absurd c_2 (by decide)) (fun c_2 => ?_)
  refine R_iload_n (pc := 20) 1 dX12_use_20 rfl rfl ?_
  refine R_bipush (pc := 21) (v := 15) dX12_use_21 (by decide) ?_
  refine R_icmp_ne (pc := 23) (tgt := 30) dX12_use_23 (by decide) (fun c_3 => ?_) (fun c_3 => absurd c_3 (by decide))
  refine R_iconst (pc := 30) (v := 0) dX12_use_30 (by decide) ?_
  refine R_callVh (pc := 31) (μ' := mX12_hasKeys) (As := [.int 0]) (st := []) dX12_use_31 zX12_hasKeys lX12_250 ⟨by decide, by decide⟩ rfl rfl ⟨by decide, by decide⟩ S.obj (by omega) rfl (Nat.le_of_ble_eq_true rfl) (oX12_hasKeys_0 S hn m hz0 hm B hB) (fun h_4 r_ q_5 => ?_)
  obtain ⟨ψa, rfl, Sa, Ka, Ea, Fa⟩ := q_5
  refine R_if_ne (pc := 34) (tgt := 40) dX12_use_34 (by decide) (fun c_6 => ?_) (fun c_6 => absurd c_6 (by decide))
  refine R_aload_n (pc := 40) 0 dX12_use_40 rfl rfl ?_
  refine R_iload_n (pc := 41) 1 dX12_use_41 rfl rfl ?_
  refine R_iload_n (pc := 42) 2 dX12_use_42 rfl rfl ?_
  refine R_callVh (pc := 43) (μ' := mX12_fits) (As := [.int 11, .int 1]) (st := []) dX12_use_43 zX12_fits lX12_254 ⟨by decide, by decide⟩ rfl rfl ⟨by decide, by decide⟩ Sa.obj (by omega) rfl (Nat.le_of_ble_eq_true rfl) (oX12_fits_11oN Sa hn d s mm hd hs (by omega) hz1 hz2 hi1 hP) (fun h_7 r_ q_8 => ?_)
  obtain ⟨rfl, Sb, Fb⟩ := q_8
  refine R_if_ne (pc := 46) (tgt := 52) dX12_use_46 (by decide) (fun c_9 => absurd (rfl) c_9) (fun c_9 => ?_)
  refine R_bipush (pc := 49) (v := (-2)) dX12_use_49 (by decide) ?_
  exact R_ireturn (pc := 51) dX12_use_51 rfl (by decide) (by decide) ⟨rfl, ψa, i, rfl, Sb, ⟨Ka 62 (by decide), Ka 65 (by decide), Ka 66 (by decide)⟩, ⟨rfl, rfl⟩, ⟨Ka 64 (by decide), rfl⟩, (Fa.tr Fb)⟩
set_option maxHeartbeats 1000000 in
set_option maxRecDepth 100000 in
theorem oX12_use_12sF {l : Launch} {w : am_W} {h : am_H} {n : Nat} {ψ : Nat → oA} {z : fA} {i : mI} (S : MO h ψ z i) (hn : 90 ≤ n) (d s mm m : Nat) (hd : d ≤ 512) (hs : s ≤ 64) (hmm16 : mm ≤ 16) (hi1 : i 1 = nI mm) (hz0 : z 0 = nI (4 * m)) (hm : m = 4 ∨ m = 6 ∨ m = 8) (hz1 : z 1 = nI d) (hz2 : z 2 = nI s) (B : BitVec 8 → BitVec 8) (hB : ∀ v : BitVec 8, ψ 65 v.toNat = B v) (hP : ¬ (ftP 12 0 d s mm)) : RH l w mX12_use h n [.ref 61, .int 12, .int 0] (uQ h ψ z i (-2) none) := by
  refine RC.of [(0, .ref 61), (1, .int 12), (2, .int 0)] (by decide +kernel) rfl (Nat.le_of_ble_eq_true rfl) ?_
  refine R_iload_n (pc := 0) 1 dX12_use_0 rfl rfl ?_
  refine R_iconst (pc := 1) (v := 1) dX12_use_1 (by decide) ?_
  refine R_bipush (pc := 2) (v := 16) dX12_use_2 (by decide) ?_
  refine R_callSp (pc := 4) (μ' := mX12_in) (As := [.int 12, .int 1, .int 16]) (st := []) dX12_use_4 zX12_in lX12_108 ⟨by decide, by decide⟩ rfl rfl ⟨by decide, by decide⟩ rfl (Nat.le_of_ble_eq_true rfl) (qX12_in l w _ _ _ _ _) ?_
  refine R_eqi (y := 1) (by decide) ?_
  refine R_if_ne (pc := 7) (tgt := 13) dX12_use_7 (by decide) (fun c_1 => ?_) (fun c_1 => absurd c_1 (by decide))
  refine R_aload_n (pc := 13) 0 dX12_use_13 rfl rfl ?_
  refine R_iload_n (pc := 14) 1 dX12_use_14 rfl rfl ?_
  refine R_bipush (pc := 15) (v := 9) dX12_use_15 (by decide) ?_
  refine R_icmp_eq (pc := 17) (tgt := 26) dX12_use_17 (by decide) (fun c_2 => absurd c_2 (by decide)) (fun c_2 => ?_)
  refine R_iload_n (pc := 20) 1 dX12_use_20 rfl rfl ?_
  refine R_bipush (pc := 21) (v := 15) dX12_use_21 (by decide) ?_
  refine R_icmp_ne (pc := 23) (tgt := 30) dX12_use_23 (by decide) (fun c_3 => ?_) (fun c_3 => absurd c_3 (by decide))
  refine R_iconst (pc := 30) (v := 0) dX12_use_30 (by decide) ?_
  refine R_callVh (pc := 31) (μ' := mX12_hasKeys) (As := [.int 0]) (st := []) dX12_use_31 zX12_hasKeys lX12_250 ⟨by decide, by decide⟩ rfl rfl ⟨by decide, by decide⟩ S.obj (by omega) rfl (Nat.le_of_ble_eq_true rfl) (oX12_hasKeys_0 S hn m hz0 hm B hB) (fun h_4 r_ q_5 => ?_)
  obtain ⟨ψa, rfl, Sa, Ka, Ea, Fa⟩ := q_5
  refine R_if_ne (pc := 34) (tgt := 40) dX12_use_34 (by decide) (fun c_6 => ?_) (fun c_6 => absurd c_6 (by decide))
  refine R_aload_n (pc := 40) 0 dX12_use_40 rfl rfl ?_
  refine R_iload_n (pc := 41) 1 dX12_use_41 rfl rfl ?_
  refine R_iload_n (pc := 42) 2 dX12_use_42 rfl rfl ?_
  refine R_callVh (pc := 43) (μ' := mX12_fits) (As := [.int 12, .int 0]) (st := []) dX12_use_43 zX12_fits lX12_254 ⟨by decide, by decide⟩ rfl rfl ⟨by decide, by decide⟩ Sa.obj (by omega) rfl (Nat.le_of_ble_eq_true rfl) (oX12_fits_12sN Sa hn d s mm hd hs (by omega) hz1 hz2 hi1 hP) (fun h_7 r_ q_8 => ?_)
  obtain ⟨rfl, Sb, Fb⟩ := q_8
  refine R_if_ne (pc := 46) (tgt := 52) dX12_use_46 (by decide) (fun c_9 => absurd (rfl) c_9) (fun c_9 => ?_)
  refine R_bipush (pc := 49) (v := (-2)) dX12_use_49 (by decide) ?_
  exact R_ireturn (pc := 51) dX12_use_51 rfl (by decide) (by decide) ⟨rfl, ψa, i, rfl, Sb, ⟨Ka 62 (by decide), Ka 65 (by decide), Ka 66 (by decide)⟩, ⟨rfl, rfl⟩, ⟨Ka 64 (by decide), rfl⟩, (Fa.tr Fb)⟩
set_option maxHeartbeats 1000000 in
set_option maxRecDepth 100000 in
theorem oX12_use_12oF {l : Launch} {w : am_W} {h : am_H} {n : Nat} {ψ : Nat → oA} {z : fA} {i : mI} (S : MO h ψ z i) (hn : 90 ≤ n) (d s mm m : Nat) (hd : d ≤ 512) (hs : s ≤ 64) (hmm16 : mm ≤ 16) (hi1 : i 1 = nI mm) (hz0 : z 0 = nI (4 * m)) (hm : m = 4 ∨ m = 6 ∨ m = 8) (hz1 : z 1 = nI d) (hz2 : z 2 = nI s) (B : BitVec 8 → BitVec 8) (hB : ∀ v : BitVec 8, ψ 65 v.toNat = B v) (hP : ¬ (ftP 12 1 d s mm)) : RH l w mX12_use h n [.ref 61, .int 12, .int 1] (uQ h ψ z i (-2) none) := by
  refine RC.of [(0, .ref 61), (1, .int 12), (2, .int 1)] (by decide +kernel) rfl (Nat.le_of_ble_eq_true rfl) ?_
  refine R_iload_n (pc := 0) 1 dX12_use_0 rfl rfl ?_
  refine R_iconst (pc := 1) (v := 1) dX12_use_1 (by decide) ?_
  refine R_bipush (pc := 2) (v := 16) dX12_use_2 (by decide) ?_
  refine R_callSp (pc := 4) (μ' := mX12_in) (As := [.int 12, .int 1, .int 16]) (st := []) dX12_use_4 zX12_in lX12_108 ⟨by decide, by decide⟩ rfl rfl ⟨by decide, by decide⟩ rfl (Nat.le_of_ble_eq_true rfl) (qX12_in l w _ _ _ _ _) ?_
  refine R_eqi (y := 1) (by decide) ?_
  refine R_if_ne (pc := 7) (tgt := 13) dX12_use_7 (by decide) (fun c_1 => ?_) (fun c_1 => absurd c_1 (by decide))
  refine R_aload_n (pc := 13) 0 dX12_use_13 rfl rfl ?_
  refine R_iload_n (pc := 14) 1 dX12_use_14 rfl rfl ?_
  refine R_bipush (pc := 15) (v := 9) dX12_use_15 (by decide) ?_
  refine R_icmp_eq (pc := 17) (tgt := 26) dX12_use_17 (by decide) (fun c_2 => absurd c_2 (by decide)) (fun c_2 => ?_)
  refine R_iload_n (pc := 20) 1 dX12_use_20 rfl rfl ?_
  refine R_bipush (pc := 21) (v := 15) dX12_use_21 (by decide) ?_
  refine R_icmp_ne (pc := 23) (tgt := 30) dX12_use_23 (by decide) (fun c_3 => ?_) (fun c_3 => absurd c_3 (by decide))
  refine R_iconst (pc := 30) (v := 0) dX12_use_30 (by decide) ?_
  refine R_callVh (pc := 31) (μ' := mX12_hasKeys) (As := [.int 0]) (st := []) dX12_use_31 zX12_hasKeys lX12_250 ⟨by decide, by decide⟩ rfl rfl ⟨by decide, by decide⟩ S.obj (by omega) rfl (Nat.le_of_ble_eq_true rfl) (oX12_hasKeys_0 S hn m hz0 hm B hB) (fun h_4 r_ q_5 => ?_)
  obtain ⟨ψa, rfl, Sa, Ka, Ea, Fa⟩ := q_5
  refine R_if_ne (pc := 34) (tgt := 40) dX12_use_34 (by decide) (fun c_6 => ?_) (fun c_6 => absurd c_6 (by decide))
  refine R_aload_n (pc := 40) 0 dX12_use_40 rfl rfl ?_
  refine R_iload_n (pc := 41) 1 dX12_use_41 rfl rfl ?_
  refine R_iload_n (pc := 42) 2 dX12_use_42 rfl rfl ?_
  refine R_callVh (pc := 43) (μ' := mX12_fits) (As := [.int 12, .int 1]) (st := []) dX12_use_43 zX12_fits lX12_254 ⟨by decide, by decide⟩ rfl rfl ⟨by decide, by decide⟩ Sa.obj (by omega) rfl (Nat.le_of_ble_eq_true rfl) (oX12_fits_12oN Sa hn d s mm hd hs (by omega) hz1 hz2 hi1 hP) (fun h_7 r_ q_8 => ?_)
  obtain ⟨rfl, Sb, Fb⟩ := q_8
  refine R_if_ne (pc := 46) (tgt := 52) dX12_use_46 (by decide) (fun c_9 => absurd (rfl) c_9) (fun c_9 => ?_)
  refine R_bipush (pc := 49) (v := (-2)) dX12_use_49 (by decide) ?_
  exact R_ireturn (pc := 51) dX12_use_51 rfl (by decide) (by decide) ⟨rfl, ψa, i, rfl, Sb, ⟨Ka 62 (by decide), Ka 65 (by decide), Ka 66 (by decide)⟩, ⟨rfl, rfl⟩, ⟨Ka 64 (by decide), rfl⟩, (Fa.tr Fb)⟩
set_option maxHeartbeats 1000000 in
set_option maxRecDepth 100000 in
theorem oX12_use_13sF {l : Launch} {w : am_W} {h : am_H} {n : Nat} {ψ : Nat → oA} {z : fA} {i : mI} (S : MO h ψ z i) (hn : 90 ≤ n) (d s mm m : Nat) (hd : d ≤ 512) (hs : s ≤ 64) (hmm16 : mm ≤ 16) (hi1 : i 1 = nI mm) (hz0 : z 0 = nI (4 * m)) (hm : m = 4 ∨ m = 6 ∨ m = 8) (hz1 : z 1 = nI d) (hz2 : z 2 = nI s) (B : BitVec 8 → BitVec 8) (hB : ∀ v : BitVec 8, ψ 65 v.toNat = B v) (hP : ¬ (ftP 13 0 d s mm)) : RH l w mX12_use h n [.ref 61, .int 13, .int 0] (uQ h ψ z i (-2) none) := by
  refine RC.of [(0, .ref 61), (1, .int 13), (2, .int 0)] (by decide +kernel) rfl (Nat.le_of_ble_eq_true rfl) ?_
  refine R_iload_n (pc := 0) 1 dX12_use_0 rfl rfl ?_
  refine R_iconst (pc := 1) (v := 1) dX12_use_1 (by decide) ?_
  refine R_bipush (pc := 2) (v := 16) dX12_use_2 (by decide) ?_
  refine R_callSp (pc := 4) (μ' := mX12_in) (As := [.int 13, .int 1, .int 16]) (st := []) dX12_use_4 zX12_in lX12_108 ⟨by decide, by decide⟩ rfl rfl ⟨by decide, by decide⟩ rfl (Nat.le_of_ble_eq_true rfl) (qX12_in l w _ _ _ _ _) ?_
  refine R_eqi (y := 1) (by decide) ?_
  refine R_if_ne (pc := 7) (tgt := 13) dX12_use_7 (by decide) (fun c_1 => ?_) (fun c_1 => absurd c_1 (by decide))
  refine R_aload_n (pc := 13) 0 dX12_use_13 rfl rfl ?_
  refine R_iload_n (pc := 14) 1 dX12_use_14 rfl rfl ?_
  refine R_bipush (pc := 15) (v := 9) dX12_use_15 (by decide) ?_
  refine R_icmp_eq (pc := 17) (tgt := 26) dX12_use_17 (by decide) (fun c_2 => absurd c_2 (by decide)) (fun c_2 => ?_)
  refine R_iload_n (pc := 20) 1 dX12_use_20 rfl rfl ?_
  refine R_bipush (pc := 21) (v := 15) dX12_use_21 (by decide) ?_
  refine R_icmp_ne (pc := 23) (tgt := 30) dX12_use_23 (by decide) (fun c_3 => ?_) (fun c_3 => absurd c_3 (by decide))
  refine R_iconst (pc := 30) (v := 0) dX12_use_30 (by decide) ?_
  refine R_callVh (pc := 31) (μ' := mX12_hasKeys) (As := [.int 0]) (st := []) dX12_use_31 zX12_hasKeys lX12_250 ⟨by decide, by decide⟩ rfl rfl ⟨by decide, by decide⟩ S.obj (by omega) rfl (Nat.le_of_ble_eq_true rfl) (oX12_hasKeys_0 S hn m hz0 hm B hB) (fun h_4 r_ q_5 => ?_)
  obtain ⟨ψa, rfl, Sa, Ka, Ea, Fa⟩ := q_5
  refine R_if_ne (pc := 34) (tgt := 40) dX12_use_34 (by decide) (fun c_6 => ?_) (fun c_6 => absurd c_6 (by decide))
  refine R_aload_n (pc := 40) 0 dX12_use_40 rfl rfl ?_
  refine R_iload_n (pc := 41) 1 dX12_use_41 rfl rfl ?_
  refine R_iload_n (pc := 42) 2 dX12_use_42 rfl rfl ?_
  refine R_callVh (pc := 43) (μ' := mX12_fits) (As := [.int 13, .int 0]) (st := []) dX12_use_43 zX12_fits lX12_254 ⟨by decide, by decide⟩ rfl rfl ⟨by decide, by decide⟩ Sa.obj (by omega) rfl (Nat.le_of_ble_eq_true rfl) (oX12_fits_13sN Sa hn d s mm hd hs (by omega) hz1 hz2 hi1 hP) (fun h_7 r_ q_8 => ?_)
  obtain ⟨rfl, Sb, Fb⟩ := q_8
  refine R_if_ne (pc := 46) (tgt := 52) dX12_use_46 (by decide) (fun c_9 => absurd (rfl) c_9) (fun c_9 => ?_)
  refine R_bipush (pc := 49) (v := (-2)) dX12_use_49 (by decide) ?_
  exact R_ireturn (pc := 51) dX12_use_51 rfl (by decide) (by decide) ⟨rfl, ψa, i, rfl, Sb, ⟨Ka 62 (by decide), Ka 65 (by decide), Ka 66 (by decide)⟩, ⟨rfl, rfl⟩, ⟨Ka 64 (by decide), rfl⟩, (Fa.tr Fb)⟩
set_option maxHeartbeats 1000000 in
set_option maxRecDepth 100000 in
theorem oX12_use_13oF {l : Launch} {w : am_W} {h : am_H} {n : Nat} {ψ : Nat → oA} {z : fA} {i : mI} (S : MO h ψ z i) (hn : 90 ≤ n) (d s mm m : Nat) (hd : d ≤ 512) (hs : s ≤ 64) (hmm16 : mm ≤ 16) (hi1 : i 1 = nI mm) (hz0 : z 0 = nI (4 * m)) (hm : m = 4 ∨ m = 6 ∨ m = 8) (hz1 : z 1 = nI d) (hz2 : z 2 = nI s) (B : BitVec 8 → BitVec 8) (hB : ∀ v : BitVec 8, ψ 65 v.toNat = B v) (hP : ¬ (ftP 13 1 d s mm)) : RH l w mX12_use h n [.ref 61, .int 13, .int 1] (uQ h ψ z i (-2) none) := by
  refine RC.of [(0, .ref 61), (1, .int 13), (2, .int 1)] (by decide +kernel) rfl (Nat.le_of_ble_eq_true rfl) ?_
  refine R_iload_n (pc := 0) 1 dX12_use_0 rfl rfl ?_
  refine R_iconst (pc := 1) (v := 1) dX12_use_1 (by decide) ?_
  refine R_bipush (pc := 2) (v := 16) dX12_use_2 (by decide) ?_
  refine R_callSp (pc := 4) (μ' := mX12_in) (As := [.int 13, .int 1, .int 16]) (st := []) dX12_use_4 zX12_in lX12_108 ⟨by decide, by decide⟩ rfl rfl ⟨by decide, by decide⟩ rfl (Nat.le_of_ble_eq_true rfl) (qX12_in l w _ _ _ _ _) ?_
  refine R_eqi (y := 1) (by decide) ?_
  refine R_if_ne (pc := 7) (tgt := 13) dX12_use_7 (by decide) (fun c_1 => ?_) (fun c_1 => absurd c_1 (by decide))
  refine R_aload_n (pc := 13) 0 dX12_use_13 rfl rfl ?_
  refine R_iload_n (pc := 14) 1 dX12_use_14 rfl rfl ?_
  refine R_bipush (pc := 15) (v := 9) dX12_use_15 (by decide) ?_
  refine R_icmp_eq (pc := 17) (tgt := 26) dX12_use_17 (by decide) (fun c_2 => absurd c_2 (by decide)) (fun c_2 => ?_)
  refine R_iload_n (pc := 20) 1 dX12_use_20 rfl rfl ?_
  refine R_bipush (pc := 21) (v := 15) dX12_use_21 (by decide) ?_
  refine R_icmp_ne (pc := 23) (tgt := 30) dX12_use_23 (by decide) (fun c_3 => ?_) (fun c_3 => absurd c_3 (by decide))
  refine R_iconst (pc := 30) (v := 0) dX12_use_30 (by decide) ?_
  refine R_callVh (pc := 31) (μ' := mX12_hasKeys) (As := [.int 0]) (st := []) dX12_use_31 zX12_hasKeys lX12_250 ⟨by decide, by decide⟩ rfl rfl ⟨by decide, by decide⟩ S.obj (by omega) rfl (Nat.le_of_ble_eq_true rfl) (oX12_hasKeys_0 S hn m hz0 hm B hB) (fun h_4 r_ q_5 => ?_)
  obtain ⟨ψa, rfl, Sa, Ka, Ea, Fa⟩ := q_5
  refine R_if_ne (pc := 34) (tgt := 40) dX12_use_34 (by decide) (fun c_6 => ?_) (fun c_6 => absurd c_6 (by decide))
  refine R_aload_n (pc := 40) 0 dX12_use_40 rfl rfl ?_
  refine R_iload_n (pc := 41) 1 dX12_use_41 rfl rfl ?_
  refine R_iload_n (pc := 42) 2 dX12_use_42 rfl rfl ?_
  refine R_callVh (pc := 43) (μ' := mX12_fits) (As := [.int 13, .int 1]) (st := []) dX12_use_43 zX12_fits lX12_254 ⟨by decide, by decide⟩ rfl rfl ⟨by decide, by decide⟩ Sa.obj (by omega) rfl (Nat.le_of_ble_eq_true rfl) (oX12_fits_13oN Sa hn d s mm hd hs (by omega) hz1 hz2 hi1 hP) (fun h_7 r_ q_8 => ?_)
  obtain ⟨rfl, Sb, Fb⟩ := q_8
  refine R_if_ne (pc := 46) (tgt := 52) dX12_use_46 (by decide) (fun c_9 => absurd (rfl) c_9) (fun c_9 => ?_)
  refine R_bipush (pc := 49) (v := (-2)) dX12_use_49 (by decide) ?_
  exact R_ireturn (pc := 51) dX12_use_51 rfl (by decide) (by decide) ⟨rfl, ψa, i, rfl, Sb, ⟨Ka 62 (by decide), Ka 65 (by decide), Ka 66 (by decide)⟩, ⟨rfl, rfl⟩, ⟨Ka 64 (by decide), rfl⟩, (Fa.tr Fb)⟩
set_option maxHeartbeats 1000000 in
set_option maxRecDepth 100000 in
theorem oX12_use_14oF {l : Launch} {w : am_W} {h : am_H} {n : Nat} {ψ : Nat → oA} {z : fA} {i : mI} (S : MO h ψ z i) (hn : 90 ≤ n) (d s mm m : Nat) (hd : d ≤ 512) (hs : s ≤ 64) (hmm16 : mm ≤ 16) (hi1 : i 1 = nI mm) (hz0 : z 0 = nI (4 * m)) (hm : m = 4 ∨ m = 6 ∨ m = 8) (hz1 : z 1 = nI d) (hz2 : z 2 = nI s) (B : BitVec 8 → BitVec 8) (hB : ∀ v : BitVec 8, ψ 65 v.toNat = B v) (hP : ¬ (ftP 14 1 d s mm)) : RH l w mX12_use h n [.ref 61, .int 14, .int 1] (uQ h ψ z i (-2) none) := by
  refine RC.of [(0, .ref 61), (1, .int 14), (2, .int 1)] (by decide +kernel) rfl (Nat.le_of_ble_eq_true rfl) ?_
  refine R_iload_n (pc := 0) 1 dX12_use_0 rfl rfl ?_
  refine R_iconst (pc := 1) (v := 1) dX12_use_1 (by decide) ?_
  refine R_bipush (pc := 2) (v := 16) dX12_use_2 (by decide) ?_
  refine R_callSp (pc := 4) (μ' := mX12_in) (As := [.int 14, .int 1, .int 16]) (st := []) dX12_use_4 zX12_in lX12_108 ⟨by decide, by decide⟩ rfl rfl ⟨by decide, by decide⟩ rfl (Nat.le_of_ble_eq_true rfl) (qX12_in l w _ _ _ _ _) ?_
  refine R_eqi (y := 1) (by decide) ?_
  refine R_if_ne (pc := 7) (tgt := 13) dX12_use_7 (by decide) (fun c_1 => ?_) (fun c_1 => absurd c_1 (by decide))
  refine R_aload_n (pc := 13) 0 dX12_use_13 rfl rfl ?_
  refine R_iload_n (pc := 14) 1 dX12_use_14 rfl rfl ?_
  refine R_bipush (pc := 15) (v := 9) dX12_use_15 (by decide) ?_
  refine R_icmp_eq (pc := 17) (tgt := 26) dX12_use_17 (by decide) (fun c_2 => absurd c_2 (by decide)) (fun c_2 => ?_)
  refine R_iload_n (pc := 20) 1 dX12_use_20 rfl rfl ?_
  refine R_bipush (pc := 21) (v := 15) dX12_use_21 (by decide) ?_
  refine R_icmp_ne (pc := 23) (tgt := 30) dX12_use_23 (by decide) (fun c_3 => ?_) (fun c_3 => absurd c_3 (by decide))
  refine R_iconst (pc := 30) (v := 0) dX12_use_30 (by decide) ?_
  refine R_callVh (pc := 31) (μ' := mX12_hasKeys) (As := [.int 0]) (st := []) dX12_use_31 zX12_hasKeys lX12_250 ⟨by decide, by decide⟩ rfl rfl ⟨by decide, by decide⟩ S.obj (by omega) rfl (Nat.le_of_ble_eq_true rfl) (oX12_hasKeys_0 S hn m hz0 hm B hB) (fun h_4 r_ q_5 => ?_)
  obtain ⟨ψa, rfl, Sa, Ka, Ea, Fa⟩ := q_5
  refine R_if_ne (pc := 34) (tgt := 40) dX12_use_34 (by decide) (fun c_6 => ?_) (fun c_6 => absurd c_6 (by decide))
  refine R_aload_n (pc := 40) 0 dX12_use_40 rfl rfl ?_
  refine R_iload_n (pc := 41) 1 dX12_use_41 rfl rfl ?_
  refine R_iload_n (pc := 42) 2 dX12_use_42 rfl rfl ?_
  refine R_callVh (pc := 43) (μ' := mX12_fits) (As := [.int 14, .int 1]) (st := []) dX12_use_43 zX12_fits lX12_254 ⟨by decide, by decide⟩ rfl rfl ⟨by decide, by decide⟩ Sa.obj (by omega) rfl (Nat.le_of_ble_eq_true rfl) (oX12_fits_14oN Sa hn d s mm hd hs (by omega) hz1 hz2 hi1 hP) (fun h_7 r_ q_8 => ?_)
  obtain ⟨rfl, Sb, Fb⟩ := q_8
  refine R_if_ne (pc := 46) (tgt := 52) dX12_use_46 (by decide) (fun c_9 => absurd (rfl) c_9) (fun c_9 => ?_)
  refine R_bipush (pc := 49) (v := (-2)) dX12_use_49 (by decide) ?_
  exact R_ireturn (pc := 51) dX12_use_51 rfl (by decide) (by decide) ⟨rfl, ψa, i, rfl, Sb, ⟨Ka 62 (by decide), Ka 65 (by decide), Ka 66 (by decide)⟩, ⟨rfl, rfl⟩, ⟨Ka 64 (by decide), rfl⟩, (Fa.tr Fb)⟩
set_option maxHeartbeats 1000000 in
set_option maxRecDepth 100000 in
theorem oX12_use_15oF {l : Launch} {w : am_W} {h : am_H} {n : Nat} {ψ : Nat → oA} {z : fA} {i : mI} (S : MO h ψ z i) (hn : 90 ≤ n) (d s mm m : Nat) (hd : d ≤ 512) (hs : s ≤ 64) (hmm16 : mm ≤ 16) (hi1 : i 1 = nI mm) (hz0 : z 0 = nI (8 * m)) (hm : m = 4 ∨ m = 6 ∨ m = 8) (hz1 : z 1 = nI d) (hz2 : z 2 = nI s) (B : BitVec 8 → BitVec 8) (hB : ∀ v : BitVec 8, ψ 65 v.toNat = B v) (hP : ¬ (ftP 15 1 d s mm)) : RH l w mX12_use h n [.ref 61, .int 15, .int 1] (uQ h ψ z i (-2) none) := by
  refine RC.of [(0, .ref 61), (1, .int 15), (2, .int 1)] (by decide +kernel) rfl (Nat.le_of_ble_eq_true rfl) ?_
  refine R_iload_n (pc := 0) 1 dX12_use_0 rfl rfl ?_
  refine R_iconst (pc := 1) (v := 1) dX12_use_1 (by decide) ?_
  refine R_bipush (pc := 2) (v := 16) dX12_use_2 (by decide) ?_
  refine R_callSp (pc := 4) (μ' := mX12_in) (As := [.int 15, .int 1, .int 16]) (st := []) dX12_use_4 zX12_in lX12_108 ⟨by decide, by decide⟩ rfl rfl ⟨by decide, by decide⟩ rfl (Nat.le_of_ble_eq_true rfl) (qX12_in l w _ _ _ _ _) ?_
  refine R_eqi (y := 1) (by decide) ?_
  refine R_if_ne (pc := 7) (tgt := 13) dX12_use_7 (by decide) (fun c_1 => ?_) (fun c_1 => absurd c_1 (by decide))
  refine R_aload_n (pc := 13) 0 dX12_use_13 rfl rfl ?_
  refine R_iload_n (pc := 14) 1 dX12_use_14 rfl rfl ?_
  refine R_bipush (pc := 15) (v := 9) dX12_use_15 (by decide) ?_
  refine R_icmp_eq (pc := 17) (tgt := 26) dX12_use_17 (by decide) (fun c_2 => absurd c_2 (by decide)) (fun c_2 => ?_)
  refine R_iload_n (pc := 20) 1 dX12_use_20 rfl rfl ?_
  refine R_bipush (pc := 21) (v := 15) dX12_use_21 (by decide) ?_
  refine R_icmp_ne (pc := 23) (tgt := 30) dX12_use_23 (by decide) (fun c_3 => absurd (rfl) c_3) (fun c_3 => ?_)
  refine R_iconst (pc := 26) (v := 1) dX12_use_26 (by decide) ?_
  refine R_goto (pc := 27) (tgt := 31) dX12_use_27 (by decide) ?_
  refine R_callVh (pc := 31) (μ' := mX12_hasKeys) (As := [.int 1]) (st := []) dX12_use_31 zX12_hasKeys lX12_250 ⟨by decide, by decide⟩ rfl rfl ⟨by decide, by decide⟩ S.obj (by omega) rfl (Nat.le_of_ble_eq_true rfl) (oX12_hasKeys_1 S hn m hz0 hm B hB) (fun h_4 r_ q_5 => ?_)
  obtain ⟨ψa, rfl, Sa, Ka, Ea, Fa⟩ := q_5
  refine R_if_ne (pc := 34) (tgt := 40) dX12_use_34 (by decide) (fun c_6 => ?_) (fun c_6 => absurd c_6 (by decide))
  refine R_aload_n (pc := 40) 0 dX12_use_40 rfl rfl ?_
  refine R_iload_n (pc := 41) 1 dX12_use_41 rfl rfl ?_
  refine R_iload_n (pc := 42) 2 dX12_use_42 rfl rfl ?_
  refine R_callVh (pc := 43) (μ' := mX12_fits) (As := [.int 15, .int 1]) (st := []) dX12_use_43 zX12_fits lX12_254 ⟨by decide, by decide⟩ rfl rfl ⟨by decide, by decide⟩ Sa.obj (by omega) rfl (Nat.le_of_ble_eq_true rfl) (oX12_fits_15oN Sa hn d s mm hd hs (by omega) hz1 hz2 hi1 hP) (fun h_7 r_ q_8 => ?_)
  obtain ⟨rfl, Sb, Fb⟩ := q_8
  refine R_if_ne (pc := 46) (tgt := 52) dX12_use_46 (by decide) (fun c_9 => absurd (rfl) c_9) (fun c_9 => ?_)
  refine R_bipush (pc := 49) (v := (-2)) dX12_use_49 (by decide) ?_
  exact R_ireturn (pc := 51) dX12_use_51 rfl (by decide) (by decide) ⟨rfl, ψa, i, rfl, Sb, ⟨Ka 62 (by decide), Ka 65 (by decide), Ka 66 (by decide)⟩, ⟨rfl, rfl⟩, ⟨Ka 64 (by decide), rfl⟩, (Fa.tr Fb)⟩
set_option maxHeartbeats 1000000 in
set_option maxRecDepth 100000 in
theorem oX12_use_16sF {l : Launch} {w : am_W} {h : am_H} {n : Nat} {ψ : Nat → oA} {z : fA} {i : mI} (S : MO h ψ z i) (hn : 90 ≤ n) (d s mm m : Nat) (hd : d ≤ 512) (hs : s ≤ 64) (hmm16 : mm ≤ 16) (hi1 : i 1 = nI mm) (hz0 : z 0 = nI (4 * m)) (hm : m = 4 ∨ m = 6 ∨ m = 8) (hz1 : z 1 = nI d) (hz2 : z 2 = nI s) (B : BitVec 8 → BitVec 8) (hB : ∀ v : BitVec 8, ψ 65 v.toNat = B v) (hP : ¬ (ftP 16 0 d s mm)) : RH l w mX12_use h n [.ref 61, .int 16, .int 0] (uQ h ψ z i (-2) none) := by
  refine RC.of [(0, .ref 61), (1, .int 16), (2, .int 0)] (by decide +kernel) rfl (Nat.le_of_ble_eq_true rfl) ?_
  refine R_iload_n (pc := 0) 1 dX12_use_0 rfl rfl ?_
  refine R_iconst (pc := 1) (v := 1) dX12_use_1 (by decide) ?_
  refine R_bipush (pc := 2) (v := 16) dX12_use_2 (by decide) ?_
  refine R_callSp (pc := 4) (μ' := mX12_in) (As := [.int 16, .int 1, .int 16]) (st := []) dX12_use_4 zX12_in lX12_108 ⟨by decide, by decide⟩ rfl rfl ⟨by decide, by decide⟩ rfl (Nat.le_of_ble_eq_true rfl) (qX12_in l w _ _ _ _ _) ?_
  refine R_eqi (y := 1) (by decide) ?_
  refine R_if_ne (pc := 7) (tgt := 13) dX12_use_7 (by decide) (fun c_1 => ?_) (fun c_1 => absurd c_1 (by decide))
  refine R_aload_n (pc := 13) 0 dX12_use_13 rfl rfl ?_
  refine R_iload_n (pc := 14) 1 dX12_use_14 rfl rfl ?_
  refine R_bipush (pc := 15) (v := 9) dX12_use_15 (by decide) ?_
  refine R_icmp_eq (pc := 17) (tgt := 26) dX12_use_17 (by decide) (fun c_2 => absurd c_2 (by decide)) (fun c_2 => ?_)
  refine R_iload_n (pc := 20) 1 dX12_use_20 rfl rfl ?_
  refine R_bipush (pc := 21) (v := 15) dX12_use_21 (by decide) ?_
  refine R_icmp_ne (pc := 23) (tgt := 30) dX12_use_23 (by decide) (fun c_3 => ?_) (fun c_3 => absurd c_3 (by decide))
  refine R_iconst (pc := 30) (v := 0) dX12_use_30 (by decide) ?_
  refine R_callVh (pc := 31) (μ' := mX12_hasKeys) (As := [.int 0]) (st := []) dX12_use_31 zX12_hasKeys lX12_250 ⟨by decide, by decide⟩ rfl rfl ⟨by decide, by decide⟩ S.obj (by omega) rfl (Nat.le_of_ble_eq_true rfl) (oX12_hasKeys_0 S hn m hz0 hm B hB) (fun h_4 r_ q_5 => ?_)
  obtain ⟨ψa, rfl, Sa, Ka, Ea, Fa⟩ := q_5
  refine R_if_ne (pc := 34) (tgt := 40) dX12_use_34 (by decide) (fun c_6 => ?_) (fun c_6 => absurd c_6 (by decide))
  refine R_aload_n (pc := 40) 0 dX12_use_40 rfl rfl ?_
  refine R_iload_n (pc := 41) 1 dX12_use_41 rfl rfl ?_
  refine R_iload_n (pc := 42) 2 dX12_use_42 rfl rfl ?_
  refine R_callVh (pc := 43) (μ' := mX12_fits) (As := [.int 16, .int 0]) (st := []) dX12_use_43 zX12_fits lX12_254 ⟨by decide, by decide⟩ rfl rfl ⟨by decide, by decide⟩ Sa.obj (by omega) rfl (Nat.le_of_ble_eq_true rfl) (oX12_fits_16sN Sa hn d s mm hd hs (by omega) hz1 hz2 hi1 hP) (fun h_7 r_ q_8 => ?_)
  obtain ⟨rfl, Sb, Fb⟩ := q_8
  refine R_if_ne (pc := 46) (tgt := 52) dX12_use_46 (by decide) (fun c_9 => absurd (rfl) c_9) (fun c_9 => ?_)
  refine R_bipush (pc := 49) (v := (-2)) dX12_use_49 (by decide) ?_
  exact R_ireturn (pc := 51) dX12_use_51 rfl (by decide) (by decide) ⟨rfl, ψa, i, rfl, Sb, ⟨Ka 62 (by decide), Ka 65 (by decide), Ka 66 (by decide)⟩, ⟨rfl, rfl⟩, ⟨Ka 64 (by decide), rfl⟩, (Fa.tr Fb)⟩
set_option maxHeartbeats 1000000 in
set_option maxRecDepth 100000 in
theorem oX12_use_16oF {l : Launch} {w : am_W} {h : am_H} {n : Nat} {ψ : Nat → oA} {z : fA} {i : mI} (S : MO h ψ z i) (hn : 90 ≤ n) (d s mm m : Nat) (hd : d ≤ 512) (hs : s ≤ 64) (hmm16 : mm ≤ 16) (hi1 : i 1 = nI mm) (hz0 : z 0 = nI (4 * m)) (hm : m = 4 ∨ m = 6 ∨ m = 8) (hz1 : z 1 = nI d) (hz2 : z 2 = nI s) (B : BitVec 8 → BitVec 8) (hB : ∀ v : BitVec 8, ψ 65 v.toNat = B v) (hP : ¬ (ftP 16 1 d s mm)) : RH l w mX12_use h n [.ref 61, .int 16, .int 1] (uQ h ψ z i (-2) none) := by
  refine RC.of [(0, .ref 61), (1, .int 16), (2, .int 1)] (by decide +kernel) rfl (Nat.le_of_ble_eq_true rfl) ?_
  refine R_iload_n (pc := 0) 1 dX12_use_0 rfl rfl ?_
  refine R_iconst (pc := 1) (v := 1) dX12_use_1 (by decide) ?_
  refine R_bipush (pc := 2) (v := 16) dX12_use_2 (by decide) ?_
  refine R_callSp (pc := 4) (μ' := mX12_in) (As := [.int 16, .int 1, .int 16]) (st := []) dX12_use_4 zX12_in lX12_108 ⟨by decide, by decide⟩ rfl rfl ⟨by decide, by decide⟩ rfl (Nat.le_of_ble_eq_true rfl) (qX12_in l w _ _ _ _ _) ?_
  refine R_eqi (y := 1) (by decide) ?_
  refine R_if_ne (pc := 7) (tgt := 13) dX12_use_7 (by decide) (fun c_1 => ?_) (fun c_1 => absurd c_1 (by decide))
  refine R_aload_n (pc := 13) 0 dX12_use_13 rfl rfl ?_
  refine R_iload_n (pc := 14) 1 dX12_use_14 rfl rfl ?_
  refine R_bipush (pc := 15) (v := 9) dX12_use_15 (by decide) ?_
  refine R_icmp_eq (pc := 17) (tgt := 26) dX12_use_17 (by decide) (fun c_2 => absurd c_2 (by decide)) (fun c_2 => ?_)
  refine R_iload_n (pc := 20) 1 dX12_use_20 rfl rfl ?_
  refine R_bipush (pc := 21) (v := 15) dX12_use_21 (by decide) ?_
  refine R_icmp_ne (pc := 23) (tgt := 30) dX12_use_23 (by decide) (fun c_3 => ?_) (fun c_3 => absurd c_3 (by decide))
  refine R_iconst (pc := 30) (v := 0) dX12_use_30 (by decide) ?_
  refine R_callVh (pc := 31) (μ' := mX12_hasKeys) (As := [.int 0]) (st := []) dX12_use_31 zX12_hasKeys lX12_250 ⟨by decide, by decide⟩ rfl rfl ⟨by decide, by decide⟩ S.obj (by omega) rfl (Nat.le_of_ble_eq_true rfl) (oX12_hasKeys_0 S hn m hz0 hm B hB) (fun h_4 r_ q_5 => ?_)
  obtain ⟨ψa, rfl, Sa, Ka, Ea, Fa⟩ := q_5
  refine R_if_ne (pc := 34) (tgt := 40) dX12_use_34 (by decide) (fun c_6 => ?_) (fun c_6 => absurd c_6 (by decide))
  refine R_aload_n (pc := 40) 0 dX12_use_40 rfl rfl ?_
  refine R_iload_n (pc := 41) 1 dX12_use_41 rfl rfl ?_
  refine R_iload_n (pc := 42) 2 dX12_use_42 rfl rfl ?_
  refine R_callVh (pc := 43) (μ' := mX12_fits) (As := [.int 16, .int 1]) (st := []) dX12_use_43 zX12_fits lX12_254 ⟨by decide, by decide⟩ rfl rfl ⟨by decide, by decide⟩ Sa.obj (by omega) rfl (Nat.le_of_ble_eq_true rfl) (oX12_fits_16oN Sa hn d s mm hd hs (by omega) hz1 hz2 hi1 hP) (fun h_7 r_ q_8 => ?_)
  obtain ⟨rfl, Sb, Fb⟩ := q_8
  refine R_if_ne (pc := 46) (tgt := 52) dX12_use_46 (by decide) (fun c_9 => absurd (rfl) c_9) (fun c_9 => ?_)
  refine R_bipush (pc := 49) (v := (-2)) dX12_use_49 (by decide) ?_
  exact R_ireturn (pc := 51) dX12_use_51 rfl (by decide) (by decide) ⟨rfl, ψa, i, rfl, Sb, ⟨Ka 62 (by decide), Ka 65 (by decide), Ka 66 (by decide)⟩, ⟨rfl, rfl⟩, ⟨Ka 64 (by decide), rfl⟩, (Fa.tr Fb)⟩
set_option maxHeartbeats 1000000 in
set_option maxRecDepth 100000 in
theorem oX12_seal {l : Launch} {w : am_W} {h : am_H} {n : Nat} {ψ : Nat → oA} {z : fA} {i : mI} (S : MO h ψ z i) (hn : 90 ≤ n) (v a : Int32) (R : Option (List (BitVec 8))) (H : ∀ h', MO h' ψ z (ui i 0 0) → RH l w mX12_use h' n [.ref 61, .int v, .int 0] (uQ h' ψ z (ui i 0 0) a R)) : RH l w mX12_seal h n [.ref 61, .int v] (uQ h ψ z (ui i 0 0) a R) := by
  refine RC.of [(0, .ref 61), (1, .int v)] (by decide +kernel) rfl (Nat.le_of_ble_eq_true rfl) ?_
  refine R_aload_n (pc := 0) 0 dX12_seal_0 rfl rfl ?_
  refine R_iconst (pc := 1) (v := 0) dX12_seal_1 (by decide) ?_
  refine R_put' (pc := 2) (fs' := [.int 0, .ref 62, .ref 63, .int (i 1), .ref 64, .int (i 2), .ref 65, .ref 66, .ref 67, .ref 68, .ref 69, .ref 70, .ref 71, .int (i 3), .ref 72, .int (i 4), .ref 73, .int (i 5), .ref 74, .int (i 6), .ref 75, .ref 76, .ref 77, .ref 78, .ref 79, .ref 80, .ref 81, .ref 82, .ref 83, .ref 84, .int (i 7), .ref 85, .ref 86, .ref 87, .ref 88, .ref 89, .ref 90]) dX12_seal_2 fX12_105 tX12_0 rfl rfl S.obj (by omega) (Nat.le_of_ble_eq_true rfl) rfl (fun h_1 f_2 g_3 => ?_)
  have S_4 : MO h_1 ψ z (ui i 0 0) := MO.setI (j := (ui i 0 0)) S f_2 g_3
  have F_5 := fmI g_3
  refine R_aload_n (pc := 5) 0 dX12_seal_5 rfl rfl ?_
  refine R_iload_n (pc := 6) 1 dX12_seal_6 rfl rfl ?_
  refine R_iconst (pc := 7) (v := 0) dX12_seal_7 (by decide) ?_
  refine R_callVh (pc := 8) (μ' := mX12_use) (As := [.int v, .int 0]) (st := []) dX12_seal_8 zX12_use lX12_304 ⟨by decide, by decide⟩ rfl rfl ⟨by decide, by decide⟩ S_4.obj (by omega) rfl (Nat.le_of_ble_eq_true rfl) (H h_1 S_4) (fun h_6 r_ q_7 => ?_)
  obtain ⟨ψ2, i2, rfl, S2, e1, e2, e3, F2⟩ := q_7
  exact R_ireturn (pc := 11) dX12_seal_11 rfl (by decide) (by decide) ⟨rfl, ψ2, i2, rfl, S2, e1, e2, e3, (F_5.tr F2)⟩
set_option maxHeartbeats 1000000 in
set_option maxRecDepth 100000 in
theorem oX12_open {l : Launch} {w : am_W} {h : am_H} {n : Nat} {ψ : Nat → oA} {z : fA} {i : mI} (S : MO h ψ z i) (hn : 90 ≤ n) (v a : Int32) (R : Option (List (BitVec 8))) (H : ∀ h', MO h' ψ z (ui i 0 0) → RH l w mX12_use h' n [.ref 61, .int v, .int 1] (uQ h' ψ z (ui i 0 0) a R)) : RH l w mX12_open h n [.ref 61, .int v] (uQ h ψ z (ui i 0 0) a R) := by
  refine RC.of [(0, .ref 61), (1, .int v)] (by decide +kernel) rfl (Nat.le_of_ble_eq_true rfl) ?_
  refine R_aload_n (pc := 0) 0 dX12_open_0 rfl rfl ?_
  refine R_iconst (pc := 1) (v := 0) dX12_open_1 (by decide) ?_
  refine R_put' (pc := 2) (fs' := [.int 0, .ref 62, .ref 63, .int (i 1), .ref 64, .int (i 2), .ref 65, .ref 66, .ref 67, .ref 68, .ref 69, .ref 70, .ref 71, .int (i 3), .ref 72, .int (i 4), .ref 73, .int (i 5), .ref 74, .int (i 6), .ref 75, .ref 76, .ref 77, .ref 78, .ref 79, .ref 80, .ref 81, .ref 82, .ref 83, .ref 84, .int (i 7), .ref 85, .ref 86, .ref 87, .ref 88, .ref 89, .ref 90]) dX12_open_2 fX12_105 tX12_0 rfl rfl S.obj (by omega) (Nat.le_of_ble_eq_true rfl) rfl (fun h_1 f_2 g_3 => ?_)
  have S_4 : MO h_1 ψ z (ui i 0 0) := MO.setI (j := (ui i 0 0)) S f_2 g_3
  have F_5 := fmI g_3
  refine R_aload_n (pc := 5) 0 dX12_open_5 rfl rfl ?_
  refine R_iload_n (pc := 6) 1 dX12_open_6 rfl rfl ?_
  refine R_iconst (pc := 7) (v := 1) dX12_open_7 (by decide) ?_
  refine R_callVh (pc := 8) (μ' := mX12_use) (As := [.int v, .int 1]) (st := []) dX12_open_8 zX12_use lX12_304 ⟨by decide, by decide⟩ rfl rfl ⟨by decide, by decide⟩ S_4.obj (by omega) rfl (Nat.le_of_ble_eq_true rfl) (H h_1 S_4) (fun h_6 r_ q_7 => ?_)
  obtain ⟨ψ2, i2, rfl, S2, e1, e2, e3, F2⟩ := q_7
  exact R_ireturn (pc := 11) dX12_open_11 rfl (by decide) (by decide) ⟨rfl, ψ2, i2, rfl, S2, e1, e2, e3, (F_5.tr F2)⟩
set_option maxHeartbeats 1000000 in
set_option maxRecDepth 100000 in
theorem oX12_sum_N {l : Launch} {w : am_W} {h : am_H} {n : Nat} {ψ : Nat → oA} {z : fA} {i : mI} (S : MO h ψ z i) (hn : 90 ≤ n) (v : Int32) (hv : inI v 1 3 = 0) : RH l w mX12_sum h n [.ref 61, .int v] (oQ h (some (.int (-2))) ψ z (ui i 0 0)) := by
  refine RC.of [(0, .ref 61), (1, .int v)] (by decide +kernel) rfl (Nat.le_of_ble_eq_true rfl) ?_
  refine R_aload_n (pc := 0) 0 dX12_sum_0 rfl rfl ?_
  refine R_iconst (pc := 1) (v := 0) dX12_sum_1 (by decide) ?_
  refine R_put' (pc := 2) (fs' := [.int 0, .ref 62, .ref 63, .int (i 1), .ref 64, .int (i 2), .ref 65, .ref 66, .ref 67, .ref 68, .ref 69, .ref 70, .ref 71, .int (i 3), .ref 72, .int (i 4), .ref 73, .int (i 5), .ref 74, .int (i 6), .ref 75, .ref 76, .ref 77, .ref 78, .ref 79, .ref 80, .ref 81, .ref 82, .ref 83, .ref 84, .int (i 7), .ref 85, .ref 86, .ref 87, .ref 88, .ref 89, .ref 90]) dX12_sum_2 fX12_105 tX12_0 rfl rfl S.obj (by omega) (Nat.le_of_ble_eq_true rfl) rfl (fun h_1 f_2 g_3 => ?_)
  have S_4 : MO h_1 ψ z (ui i 0 0) := MO.setI (j := (ui i 0 0)) S f_2 g_3
  have F_5 := fmI g_3
  refine R_iload_n (pc := 5) 1 dX12_sum_5 rfl rfl ?_
  refine R_iconst (pc := 6) (v := 1) dX12_sum_6 (by decide) ?_
  refine R_iconst (pc := 7) (v := 3) dX12_sum_7 (by decide) ?_
  refine R_callSp (pc := 8) (μ' := mX12_in) (As := [.int v, .int 1, .int 3]) (st := []) dX12_sum_8 zX12_in lX12_108 ⟨by decide, by decide⟩ rfl rfl ⟨by decide, by decide⟩ rfl (Nat.le_of_ble_eq_true rfl) (qX12_in l w _ _ _ _ _) ?_
  refine R_if_ne (pc := 11) (tgt := 17) dX12_sum_11 (by decide) (fun c_6 => absurd (hv) c_6) (fun c_6 => ?_)
  refine R_bipush (pc := 14) (v := (-2)) dX12_sum_14 (by decide) ?_
  exact R_ireturn (pc := 16) dX12_sum_16 rfl (by decide) (by decide) ⟨rfl, rfl, S_4, F_5⟩
set_option maxHeartbeats 1000000 in
set_option maxRecDepth 100000 in
theorem oX12_sum_K {l : Launch} {w : am_W} {h : am_H} {n : Nat} {ψ : Nat → oA} {z : fA} {i : mI} (S : MO h ψ z i) (hn : 90 ≤ n) (v : Int32) (hv : ¬ inI v 1 3 = 0) (L : Nat) (hz0 : z 0 = nI L) (hL : L ≤ 64) (hno : L ≠ 16 ∧ L ≠ 24 ∧ L ≠ 32) : RH l w mX12_sum h n [.ref 61, .int v] (oQ h (some (.int (-3))) ψ z (ui i 0 0)) := by
  refine RC.of [(0, .ref 61), (1, .int v)] (by decide +kernel) rfl (Nat.le_of_ble_eq_true rfl) ?_
  refine R_aload_n (pc := 0) 0 dX12_sum_0 rfl rfl ?_
  refine R_iconst (pc := 1) (v := 0) dX12_sum_1 (by decide) ?_
  refine R_put' (pc := 2) (fs' := [.int 0, .ref 62, .ref 63, .int (i 1), .ref 64, .int (i 2), .ref 65, .ref 66, .ref 67, .ref 68, .ref 69, .ref 70, .ref 71, .int (i 3), .ref 72, .int (i 4), .ref 73, .int (i 5), .ref 74, .int (i 6), .ref 75, .ref 76, .ref 77, .ref 78, .ref 79, .ref 80, .ref 81, .ref 82, .ref 83, .ref 84, .int (i 7), .ref 85, .ref 86, .ref 87, .ref 88, .ref 89, .ref 90]) dX12_sum_2 fX12_105 tX12_0 rfl rfl S.obj (by omega) (Nat.le_of_ble_eq_true rfl) rfl (fun h_1 f_2 g_3 => ?_)
  have S_4 : MO h_1 ψ z (ui i 0 0) := MO.setI (j := (ui i 0 0)) S f_2 g_3
  have F_5 := fmI g_3
  refine R_iload_n (pc := 5) 1 dX12_sum_5 rfl rfl ?_
  refine R_iconst (pc := 6) (v := 1) dX12_sum_6 (by decide) ?_
  refine R_iconst (pc := 7) (v := 3) dX12_sum_7 (by decide) ?_
  refine R_callSp (pc := 8) (μ' := mX12_in) (As := [.int v, .int 1, .int 3]) (st := []) dX12_sum_8 zX12_in lX12_108 ⟨by decide, by decide⟩ rfl rfl ⟨by decide, by decide⟩ rfl (Nat.le_of_ble_eq_true rfl) (qX12_in l w _ _ _ _ _) ?_
  refine R_if_ne (pc := 11) (tgt := 17) dX12_sum_11 (by decide) (fun c_6 => ?_) (fun c_6 => absurd c_6 (hv))
  refine R_aload_n (pc := 17) 0 dX12_sum_17 rfl rfl ?_
  refine R_iconst (pc := 18) (v := 0) dX12_sum_18 (by decide) ?_
  refine R_callVh (pc := 19) (μ' := mX12_hasKeys) (As := [.int 0]) (st := []) dX12_sum_19 zX12_hasKeys lX12_250 ⟨by decide, by decide⟩ rfl rfl ⟨by decide, by decide⟩ S_4.obj (by omega) rfl (Nat.le_of_ble_eq_true rfl) (oX12_hasKeys_0N S_4 hn L hz0 hL hno) (fun h_7 r_ q_8 => ?_)
  obtain ⟨rfl, Sa, Fa⟩ := q_8
  refine R_if_ne (pc := 22) (tgt := 28) dX12_sum_22 (by decide) (fun c_9 => absurd (rfl) c_9) (fun c_9 => ?_)
  refine R_bipush (pc := 25) (v := (-3)) dX12_sum_25 (by decide) ?_
  exact R_ireturn (pc := 27) dX12_sum_27 rfl (by decide) (by decide) ⟨rfl, rfl, Sa, (F_5.tr Fa)⟩
set_option maxHeartbeats 1000000 in
set_option maxRecDepth 100000 in
theorem oX12_sum_2F {l : Launch} {w : am_W} {h : am_H} {n : Nat} {ψ : Nat → oA} {z : fA} {i : mI} (S : MO h ψ z i) (hn : 90 ≤ n) (d m : Nat) (hd : d ≤ 512) (hz0 : z 0 = nI (4 * m)) (hm : m = 4 ∨ m = 6 ∨ m = 8) (hz1 : z 1 = nI d) (B : BitVec 8 → BitVec 8) (hB : ∀ v : BitVec 8, ψ 65 v.toNat = B v) (hno : ¬ (d % 16 = 0 ∧ d ≠ 0)) : RH l w mX12_sum h n [.ref 61, .int 2] (uQ h ψ z (ui i 0 0) (-2) none) := by
  refine RC.of [(0, .ref 61), (1, .int 2)] (by decide +kernel) rfl (Nat.le_of_ble_eq_true rfl) ?_
  refine R_aload_n (pc := 0) 0 dX12_sum_0 rfl rfl ?_
  refine R_iconst (pc := 1) (v := 0) dX12_sum_1 (by decide) ?_
  refine R_put' (pc := 2) (fs' := [.int 0, .ref 62, .ref 63, .int (i 1), .ref 64, .int (i 2), .ref 65, .ref 66, .ref 67, .ref 68, .ref 69, .ref 70, .ref 71, .int (i 3), .ref 72, .int (i 4), .ref 73, .int (i 5), .ref 74, .int (i 6), .ref 75, .ref 76, .ref 77, .ref 78, .ref 79, .ref 80, .ref 81, .ref 82, .ref 83, .ref 84, .int (i 7), .ref 85, .ref 86, .ref 87, .ref 88, .ref 89, .ref 90]) dX12_sum_2 fX12_105 tX12_0 rfl rfl S.obj (by omega) (Nat.le_of_ble_eq_true rfl) rfl (fun h_1 f_2 g_3 => ?_)
  have S_4 : MO h_1 ψ z (ui i 0 0) := MO.setI (j := (ui i 0 0)) S f_2 g_3
  have F_5 := fmI g_3
  refine R_iload_n (pc := 5) 1 dX12_sum_5 rfl rfl ?_
  refine R_iconst (pc := 6) (v := 1) dX12_sum_6 (by decide) ?_
  refine R_iconst (pc := 7) (v := 3) dX12_sum_7 (by decide) ?_
  refine R_callSp (pc := 8) (μ' := mX12_in) (As := [.int 2, .int 1, .int 3]) (st := []) dX12_sum_8 zX12_in lX12_108 ⟨by decide, by decide⟩ rfl rfl ⟨by decide, by decide⟩ rfl (Nat.le_of_ble_eq_true rfl) (qX12_in l w _ _ _ _ _) ?_
  refine R_eqi (y := 1) (by decide) ?_
  refine R_if_ne (pc := 11) (tgt := 17) dX12_sum_11 (by decide) (fun c_6 => ?_) (fun c_6 => absurd c_6 (by decide))
  refine R_aload_n (pc := 17) 0 dX12_sum_17 rfl rfl ?_
  refine R_iconst (pc := 18) (v := 0) dX12_sum_18 (by decide) ?_
  refine R_callVh (pc := 19) (μ' := mX12_hasKeys) (As := [.int 0]) (st := []) dX12_sum_19 zX12_hasKeys lX12_250 ⟨by decide, by decide⟩ rfl rfl ⟨by decide, by decide⟩ S_4.obj (by omega) rfl (Nat.le_of_ble_eq_true rfl) (oX12_hasKeys_0 S_4 hn m hz0 hm B hB) (fun h_7 r_ q_8 => ?_)
  obtain ⟨ψa, rfl, Sa, Ka, Ea, Fa⟩ := q_8
  refine R_if_ne (pc := 22) (tgt := 28) dX12_sum_22 (by decide) (fun c_9 => ?_) (fun c_9 => absurd c_9 (by decide))
  refine R_iload_n (pc := 28) 1 dX12_sum_28 rfl rfl ?_
  refine R_iconst (pc := 29) (v := 1) dX12_sum_29 (by decide) ?_
  refine R_icmp_le (pc := 30) (tgt := 57) dX12_sum_30 (by decide) (fun c_10 => absurd c_10 (by decide)) (fun c_10 => ?_)
  refine R_aload_n (pc := 33) 0 dX12_sum_33 rfl rfl ?_
  refine R_get (pc := 34) dX12_sum_34 fX12_13 Sa.obj (by omega) rfl ?_
  refine R_iconst (pc := 37) (v := 1) dX12_sum_37 (by decide) ?_
  refine R_iald' (pc := 38) (j := 1) dX12_sum_38 Sa.siz (by omega) ⟨rfl, by show 1 < 4; omega, by decide⟩ ?_
  refine R_eqi (y := nI d) (hz1) ?_
  refine R_bipush (pc := 39) (v := 16) dX12_sum_39 (by decide) ?_
  refine R_irem (pc := 41) dX12_sum_41 (by decide) ?_
  refine R_eqi (y := nI (d % 16)) (nI_rem (a := d) (b := 16) (by omega) (by omega)) ?_
  refine R_if_ne (pc := 42) (tgt := 54) dX12_sum_42 (by decide) (fun c_11 => ?_) (fun c_11 => ?_)
  · skip
    have nc_11 : ¬ (d % 16 = 0) := fun q_ => c_11 ((nI_eq (a := d % 16) (b := 0) (by omega) (by omega)).mpr q_)
    refine R_bipush (pc := 54) (v := (-2)) dX12_sum_54 (by decide) ?_
    exact R_ireturn (pc := 56) dX12_sum_56 rfl (by decide) (by decide) ⟨rfl, ψa, _, rfl, Sa, ⟨Ka 62 (by decide), Ka 65 (by decide), Ka 66 (by decide)⟩, ⟨rfl, rfl⟩, ⟨Ka 64 (by decide), rfl⟩, (F_5.tr Fa)⟩
  · skip
    have nc_11 : d % 16 = 0 := (nI_eq (a := d % 16) (b := 0) (by omega) (by omega)).mp c_11
    refine R_aload_n (pc := 45) 0 dX12_sum_45 rfl rfl ?_
    refine R_get (pc := 46) dX12_sum_46 fX12_13 Sa.obj (by omega) rfl ?_
    refine R_iconst (pc := 49) (v := 1) dX12_sum_49 (by decide) ?_
    refine R_iald' (pc := 50) (j := 1) dX12_sum_50 Sa.siz (by omega) ⟨rfl, by show 1 < 4; omega, by decide⟩ ?_
    refine R_eqi (y := nI d) (hz1) ?_
    refine R_if_ne (pc := 51) (tgt := 57) dX12_sum_51 (by decide) (fun c_12 => ?_) (fun c_12 => ?_)
    · skip
      have nc_12 : ¬ (d = 0) := fun q_ => c_12 ((nI_eq (a := d) (b := 0) (by omega) (by omega)).mpr q_)
      exact absurd hno (by omega)
    · skip
      have nc_12 : d = 0 := (nI_eq (a := d) (b := 0) (by omega) (by omega)).mp c_12
      refine R_bipush (pc := 54) (v := (-2)) dX12_sum_54 (by decide) ?_
      exact R_ireturn (pc := 56) dX12_sum_56 rfl (by decide) (by decide) ⟨rfl, ψa, _, rfl, Sa, ⟨Ka 62 (by decide), Ka 65 (by decide), Ka 66 (by decide)⟩, ⟨rfl, rfl⟩, ⟨Ka 64 (by decide), rfl⟩, (F_5.tr Fa)⟩
set_option maxHeartbeats 1000000 in
set_option maxRecDepth 100000 in
theorem oX12_sum_3F {l : Launch} {w : am_W} {h : am_H} {n : Nat} {ψ : Nat → oA} {z : fA} {i : mI} (S : MO h ψ z i) (hn : 90 ≤ n) (d m : Nat) (hd : d ≤ 512) (hz0 : z 0 = nI (4 * m)) (hm : m = 4 ∨ m = 6 ∨ m = 8) (hz1 : z 1 = nI d) (B : BitVec 8 → BitVec 8) (hB : ∀ v : BitVec 8, ψ 65 v.toNat = B v) (hno : ¬ (d % 16 = 0 ∧ d ≠ 0)) : RH l w mX12_sum h n [.ref 61, .int 3] (uQ h ψ z (ui i 0 0) (-2) none) := by
  refine RC.of [(0, .ref 61), (1, .int 3)] (by decide +kernel) rfl (Nat.le_of_ble_eq_true rfl) ?_
  refine R_aload_n (pc := 0) 0 dX12_sum_0 rfl rfl ?_
  refine R_iconst (pc := 1) (v := 0) dX12_sum_1 (by decide) ?_
  refine R_put' (pc := 2) (fs' := [.int 0, .ref 62, .ref 63, .int (i 1), .ref 64, .int (i 2), .ref 65, .ref 66, .ref 67, .ref 68, .ref 69, .ref 70, .ref 71, .int (i 3), .ref 72, .int (i 4), .ref 73, .int (i 5), .ref 74, .int (i 6), .ref 75, .ref 76, .ref 77, .ref 78, .ref 79, .ref 80, .ref 81, .ref 82, .ref 83, .ref 84, .int (i 7), .ref 85, .ref 86, .ref 87, .ref 88, .ref 89, .ref 90]) dX12_sum_2 fX12_105 tX12_0 rfl rfl S.obj (by omega) (Nat.le_of_ble_eq_true rfl) rfl (fun h_1 f_2 g_3 => ?_)
  have S_4 : MO h_1 ψ z (ui i 0 0) := MO.setI (j := (ui i 0 0)) S f_2 g_3
  have F_5 := fmI g_3
  refine R_iload_n (pc := 5) 1 dX12_sum_5 rfl rfl ?_
  refine R_iconst (pc := 6) (v := 1) dX12_sum_6 (by decide) ?_
  refine R_iconst (pc := 7) (v := 3) dX12_sum_7 (by decide) ?_
  refine R_callSp (pc := 8) (μ' := mX12_in) (As := [.int 3, .int 1, .int 3]) (st := []) dX12_sum_8 zX12_in lX12_108 ⟨by decide, by decide⟩ rfl rfl ⟨by decide, by decide⟩ rfl (Nat.le_of_ble_eq_true rfl) (qX12_in l w _ _ _ _ _) ?_
  refine R_eqi (y := 1) (by decide) ?_
  refine R_if_ne (pc := 11) (tgt := 17) dX12_sum_11 (by decide) (fun c_6 => ?_) (fun c_6 => absurd c_6 (by decide))
  refine R_aload_n (pc := 17) 0 dX12_sum_17 rfl rfl ?_
  refine R_iconst (pc := 18) (v := 0) dX12_sum_18 (by decide) ?_
  refine R_callVh (pc := 19) (μ' := mX12_hasKeys) (As := [.int 0]) (st := []) dX12_sum_19 zX12_hasKeys lX12_250 ⟨by decide, by decide⟩ rfl rfl ⟨by decide, by decide⟩ S_4.obj (by omega) rfl (Nat.le_of_ble_eq_true rfl) (oX12_hasKeys_0 S_4 hn m hz0 hm B hB) (fun h_7 r_ q_8 => ?_)
  obtain ⟨ψa, rfl, Sa, Ka, Ea, Fa⟩ := q_8
  refine R_if_ne (pc := 22) (tgt := 28) dX12_sum_22 (by decide) (fun c_9 => ?_) (fun c_9 => absurd c_9 (by decide))
  refine R_iload_n (pc := 28) 1 dX12_sum_28 rfl rfl ?_
  refine R_iconst (pc := 29) (v := 1) dX12_sum_29 (by decide) ?_
  refine R_icmp_le (pc := 30) (tgt := 57) dX12_sum_30 (by decide) (fun c_10 => absurd c_10 (by decide)) (fun c_10 => ?_)
  refine R_aload_n (pc := 33) 0 dX12_sum_33 rfl rfl ?_
  refine R_get (pc := 34) dX12_sum_34 fX12_13 Sa.obj (by omega) rfl ?_
  refine R_iconst (pc := 37) (v := 1) dX12_sum_37 (by decide) ?_
  refine R_iald' (pc := 38) (j := 1) dX12_sum_38 Sa.siz (by omega) ⟨rfl, by show 1 < 4; omega, by decide⟩ ?_
  refine R_eqi (y := nI d) (hz1) ?_
  refine R_bipush (pc := 39) (v := 16) dX12_sum_39 (by decide) ?_
  refine R_irem (pc := 41) dX12_sum_41 (by decide) ?_
  refine R_eqi (y := nI (d % 16)) (nI_rem (a := d) (b := 16) (by omega) (by omega)) ?_
  refine R_if_ne (pc := 42) (tgt := 54) dX12_sum_42 (by decide) (fun c_11 => ?_) (fun c_11 => ?_)
  · skip
    have nc_11 : ¬ (d % 16 = 0) := fun q_ => c_11 ((nI_eq (a := d % 16) (b := 0) (by omega) (by omega)).mpr q_)
    refine R_bipush (pc := 54) (v := (-2)) dX12_sum_54 (by decide) ?_
    exact R_ireturn (pc := 56) dX12_sum_56 rfl (by decide) (by decide) ⟨rfl, ψa, _, rfl, Sa, ⟨Ka 62 (by decide), Ka 65 (by decide), Ka 66 (by decide)⟩, ⟨rfl, rfl⟩, ⟨Ka 64 (by decide), rfl⟩, (F_5.tr Fa)⟩
  · skip
    have nc_11 : d % 16 = 0 := (nI_eq (a := d % 16) (b := 0) (by omega) (by omega)).mp c_11
    refine R_aload_n (pc := 45) 0 dX12_sum_45 rfl rfl ?_
    refine R_get (pc := 46) dX12_sum_46 fX12_13 Sa.obj (by omega) rfl ?_
    refine R_iconst (pc := 49) (v := 1) dX12_sum_49 (by decide) ?_
    refine R_iald' (pc := 50) (j := 1) dX12_sum_50 Sa.siz (by omega) ⟨rfl, by show 1 < 4; omega, by decide⟩ ?_
    refine R_eqi (y := nI d) (hz1) ?_
    refine R_if_ne (pc := 51) (tgt := 57) dX12_sum_51 (by decide) (fun c_12 => ?_) (fun c_12 => ?_)
    · skip
      have nc_12 : ¬ (d = 0) := fun q_ => c_12 ((nI_eq (a := d) (b := 0) (by omega) (by omega)).mpr q_)
      exact absurd hno (by omega)
    · skip
      have nc_12 : d = 0 := (nI_eq (a := d) (b := 0) (by omega) (by omega)).mp c_12
      refine R_bipush (pc := 54) (v := (-2)) dX12_sum_54 (by decide) ?_
      exact R_ireturn (pc := 56) dX12_sum_56 rfl (by decide) (by decide) ⟨rfl, ψa, _, rfl, Sa, ⟨Ka 62 (by decide), Ka 65 (by decide), Ka 66 (by decide)⟩, ⟨rfl, rfl⟩, ⟨Ka 64 (by decide), rfl⟩, (F_5.tr Fa)⟩
set_option maxHeartbeats 1000000 in
set_option maxRecDepth 100000 in
theorem oX12_sum_1 {l : Launch} {w : am_W} {h : am_H} {n : Nat} {ψ : Nat → oA} {z : fA} {i : mI} (S : MO h ψ z i) (hn : 90 ≤ n) (A N D : List (BitVec 8)) (m : Nat) (hA : A.length ≤ 256) (hN : N.length ≤ 64) (hD : D.length ≤ 512) (hz0 : z 0 = nI (4 * m)) (hm : m = 4 ∨ m = 6 ∨ m = 8) (hz1 : z 1 = nI D.length) (hz2 : z 2 = nI N.length) (hz3 : z 3 = nI A.length) (s1 : sg (ψ 62) 512 D) (s2 : sg (ψ 62) 1024 N) (s3 : sg (ψ 62) 1536 A) (B : BitVec 8 → BitVec 8) (hB : ∀ v : BitVec 8, ψ 65 v.toNat = B v) {F G : bP → bP} (HK0 : ∀ ψ2, FR [67, 68, 71, 72, 73, 74, 75, 76, 77, 78, 79, 80, 81, 82, 83, 84, 85, 86, 87, 88, 89, 90] ψ ψ2 → exK ψ2 B 0 0 m → Kh ψ2 0 F G) : RH l w mX12_sum h n [.ref 61, .int 1] (uQ h ψ z (ui i 0 0) (nI (bt (macV F D) 16).length) (some (bt (macV F D) 16))) := by
  refine RC.of [(0, .ref 61), (1, .int 1)] (by decide +kernel) rfl (Nat.le_of_ble_eq_true rfl) ?_
  refine R_aload_n (pc := 0) 0 dX12_sum_0 rfl rfl ?_
  refine R_iconst (pc := 1) (v := 0) dX12_sum_1 (by decide) ?_
  refine R_put' (pc := 2) (fs' := [.int 0, .ref 62, .ref 63, .int (i 1), .ref 64, .int (i 2), .ref 65, .ref 66, .ref 67, .ref 68, .ref 69, .ref 70, .ref 71, .int (i 3), .ref 72, .int (i 4), .ref 73, .int (i 5), .ref 74, .int (i 6), .ref 75, .ref 76, .ref 77, .ref 78, .ref 79, .ref 80, .ref 81, .ref 82, .ref 83, .ref 84, .int (i 7), .ref 85, .ref 86, .ref 87, .ref 88, .ref 89, .ref 90]) dX12_sum_2 fX12_105 tX12_0 rfl rfl S.obj (by omega) (Nat.le_of_ble_eq_true rfl) rfl (fun h_1 f_2 g_3 => ?_)
  have S_4 : MO h_1 ψ z (ui i 0 0) := MO.setI (j := (ui i 0 0)) S f_2 g_3
  have F_5 := fmI g_3
  refine R_iload_n (pc := 5) 1 dX12_sum_5 rfl rfl ?_
  refine R_iconst (pc := 6) (v := 1) dX12_sum_6 (by decide) ?_
  refine R_iconst (pc := 7) (v := 3) dX12_sum_7 (by decide) ?_
  refine R_callSp (pc := 8) (μ' := mX12_in) (As := [.int 1, .int 1, .int 3]) (st := []) dX12_sum_8 zX12_in lX12_108 ⟨by decide, by decide⟩ rfl rfl ⟨by decide, by decide⟩ rfl (Nat.le_of_ble_eq_true rfl) (qX12_in l w _ _ _ _ _) ?_
  refine R_eqi (y := 1) (by decide) ?_
  refine R_if_ne (pc := 11) (tgt := 17) dX12_sum_11 (by decide) (fun c_6 => ?_) (fun c_6 => absurd c_6 (by decide))
  refine R_aload_n (pc := 17) 0 dX12_sum_17 rfl rfl ?_
  refine R_iconst (pc := 18) (v := 0) dX12_sum_18 (by decide) ?_
  refine R_callVh (pc := 19) (μ' := mX12_hasKeys) (As := [.int 0]) (st := []) dX12_sum_19 zX12_hasKeys lX12_250 ⟨by decide, by decide⟩ rfl rfl ⟨by decide, by decide⟩ S_4.obj (by omega) rfl (Nat.le_of_ble_eq_true rfl) (oX12_hasKeys_0 S_4 hn m hz0 hm B hB) (fun h_7 r_ q_8 => ?_)
  obtain ⟨ψa, rfl, Sa, Ka, Ea, Fa⟩ := q_8
  refine R_if_ne (pc := 22) (tgt := 28) dX12_sum_22 (by decide) (fun c_9 => ?_) (fun c_9 => absurd c_9 (by decide))
  refine R_iload_n (pc := 28) 1 dX12_sum_28 rfl rfl ?_
  refine R_iconst (pc := 29) (v := 1) dX12_sum_29 (by decide) ?_
  refine R_icmp_le (pc := 30) (tgt := 57) dX12_sum_30 (by decide) (fun c_10 => ?_) (fun c_10 => absurd (by decide) c_10)
  refine R_aload_n (pc := 57) 0 dX12_sum_57 rfl rfl ?_
  refine R_callVh (pc := 58) (μ' := mX12_load) (As := []) (st := []) dX12_sum_58 zX12_load lX12_258 ⟨by decide, by decide⟩ rfl rfl ⟨by decide, by decide⟩ Sa.obj (by omega) rfl (Nat.le_of_ble_eq_true rfl) (oX12_load Sa hn D.length N.length A.length hz1 hz2 hz3 hD hN hA) (fun h_11 r_ q_12 => ?_)
  obtain ⟨rfl, Sc, Fc⟩ := q_12
  obtain ⟨ψc, ec⟩ : ∃ x, x = (uo (uo (uo ψa 71 (cpB (ψa 62) 512 (ψa 71) 0 D.length)) 73 (cpB (ψa 62) 1024 (ψa 73) 0 N.length)) 74 (cpB (ψa 62) 1536 (ψa 74) 0 A.length)) := ⟨_, rfl⟩
  rw [← ec] at Sc
  have Kc : FR [67, 68, 71, 72, 73, 74, 75, 76, 77, 78, 79, 80, 81, 82, 83, 84, 85, 86, 87, 88, 89, 90] ψ ψc := by rw [ec]; exact (((((FR.rf _ _).tr Ka (by decide)).up (by decide)).up (by decide)).up (by decide))
  have e62 : ψa 62 = ψ 62 := Ka 62 (by decide)
  have sD : sg (ψc 71) 0 D := by rw [ec]; exact (show sg (ψa 62) 512 D by rw [e62]; exact s1).cp (ψa 71) 0 rfl
  have K0 : Kh ψc 0 F G := HK0 ψc Kc (by rw [ec]; exact Ea)
  refine R_iload_n (pc := 61) 1 dX12_sum_61 rfl rfl ?_
  refine R_iconst (pc := 62) (v := 1) dX12_sum_62 (by decide) ?_
  refine R_icmp_ne (pc := 63) (tgt := 107) dX12_sum_63 (by decide) (fun c_13 => absurd (rfl) c_13) (fun c_13 => ?_)
  refine R_aload_n (pc := 66) 0 dX12_sum_66 rfl rfl ?_
  refine R_get (pc := 67) dX12_sum_67 fX12_41 Sc.obj (by omega) rfl ?_
  refine R_iconst (pc := 70) (v := 0) dX12_sum_70 (by decide) ?_
  refine R_aload_n (pc := 71) 0 dX12_sum_71 rfl rfl ?_
  refine R_get (pc := 72) dX12_sum_72 fX12_80 Sc.obj (by omega) rfl ?_
  refine R_iconst (pc := 75) (v := 0) dX12_sum_75 (by decide) ?_
  refine R_aload_n (pc := 76) 0 dX12_sum_76 rfl rfl ?_
  refine R_get (pc := 77) dX12_sum_77 fX12_130 Sc.obj (by omega) rfl ?_
  refine R_eqi (y := nI D.length) rfl ?_
  refine R_callSh (pc := 80) (μ' := mX12_copy) (As := [.ref 71, .int (nI 0), .ref 84, .int (nI 0), .int (nI D.length)]) (st := []) dX12_sum_80 zX12_copy lX12_133 ⟨by decide, by decide⟩ rfl rfl ⟨by decide, by decide⟩ rfl (Nat.le_of_ble_eq_true rfl) (oX12_copy Sc hn (p := 71) (q := 84) rfl rfl 0 0 D.length (by show 0 + D.length ≤ 700; omega) (by show 0 + D.length ≤ 700; omega) (by decide)) (fun h_14 r_ q_15 => ?_)
  obtain ⟨rfl, S_16, F_17⟩ := q_15
  have S_18 : MO h_14 (uo ψc 84 (cpB (ψc 71) 0 (ψc 84) 0 D.length)) z (ui (ui (ui (ui i 0 0) 3 (nI D.length)) 5 (nI N.length)) 6 (nI A.length)) := S_16
  refine R_aload_n (pc := 83) 0 dX12_sum_83 rfl rfl ?_
  refine R_aload_n (pc := 84) 0 dX12_sum_84 rfl rfl ?_
  refine R_get (pc := 85) dX12_sum_85 fX12_130 S_18.obj (by omega) rfl ?_
  refine R_eqi (y := nI D.length) rfl ?_
  refine R_put' (pc := 88) (fs' := [.int 0, .ref 62, .ref 63, .int (i 1), .ref 64, .int (i 2), .ref 65, .ref 66, .ref 67, .ref 68, .ref 69, .ref 70, .ref 71, .int (nI D.length), .ref 72, .int (i 4), .ref 73, .int (nI N.length), .ref 74, .int (nI A.length), .ref 75, .ref 76, .ref 77, .ref 78, .ref 79, .ref 80, .ref 81, .ref 82, .ref 83, .ref 84, .int (nI D.length), .ref 85, .ref 86, .ref 87, .ref 88, .ref 89, .ref 90]) dX12_sum_88 fX12_195 tX12_30 rfl rfl S_18.obj (by omega) (Nat.le_of_ble_eq_true rfl) rfl (fun h_19 f_20 g_21 => ?_)
  have S_22 : MO h_19 (uo ψc 84 (cpB (ψc 71) 0 (ψc 84) 0 D.length)) z (ui (ui (ui (ui (ui i 0 0) 3 (nI D.length)) 5 (nI N.length)) 6 (nI A.length)) 7 (nI D.length)) := MO.setI (j := (ui (ui (ui (ui (ui i 0 0) 3 (nI D.length)) 5 (nI N.length)) 6 (nI A.length)) 7 (nI D.length))) S_18 f_20 g_21
  have F_23 := fmI g_21
  refine R_aload_n (pc := 91) 0 dX12_sum_91 rfl rfl ?_
  refine R_iconst (pc := 92) (v := 0) dX12_sum_92 (by decide) ?_
  refine R_callVh (pc := 93) (μ' := mX12_macOf) (As := [.int (nI 0)]) (st := []) dX12_sum_93 zX12_macOf lX12_211 ⟨by decide, by decide⟩ rfl rfl ⟨by decide, by decide⟩ S_22.obj (by omega) rfl (Nat.le_of_ble_eq_true rfl) (oX12_macOf S_22 hn 0 D (by omega) rfl (K0.uo (by decide)) (sD.cp _ 0 rfl)) (fun h_24 r_ q_25 => ?_)
  obtain ⟨ψ_29, rfl, S_26, K_28, J_30, F_27⟩ := q_25
  have K_31 := (K0.uo (by decide)).fr K_28 (by decide) (by decide) (by decide) (by decide)
  have xF : gt (ψ_29 82) 0 = (macV F D) := J_30
  refine R_aload_n (pc := 96) 0 dX12_sum_96 rfl rfl ?_
  refine R_aload_n (pc := 97) 0 dX12_sum_97 rfl rfl ?_
  refine R_get (pc := 98) dX12_sum_98 fX12_74 S_26.obj (by omega) rfl ?_
  refine R_bipush (pc := 101) (v := 16) dX12_sum_101 (by decide) ?_
  refine R_callVh (pc := 103) (μ' := mX12_come) (As := [.ref 82, .int (nI 16)]) (st := []) dX12_sum_103 zX12_come lX12_297 ⟨by decide, by decide⟩ rfl rfl ⟨by decide, by decide⟩ S_26.obj (by omega) rfl (Nat.le_of_ble_eq_true rfl) (oX12_come S_26 hn (p := 82) rfl (by decide) 16 (by decide) (by omega)) (fun h_32 r_ q_33 => ?_)
  obtain ⟨rfl, Se, Fe⟩ := q_33
  have yF : sg (cpB (ψ_29 82) 0 (ψ_29 64) 0 16) 0 (bt (macV F D) 16) := by
    rw [cpB_16, show gt (ψ_29 82) 0 = (macV F D) from xF]
    exact (sg.nil _ 0).pt (macV F D) (u := 0) rfl rfl
  have KF : FR [67, 68, 71, 72, 73, 74, 75, 76, 77, 78, 79, 80, 81, 82, 83, 84, 85, 86, 87, 88, 89, 90] ψ ψ_29 := ((Kc.up (by decide)).tr K_28 (by decide))
  exact R_ireturn (pc := 106) dX12_sum_106 rfl (by decide) (by decide) ⟨rfl, _, _, by rw [bt_len], Se, ⟨KF 62 (by decide), KF 65 (by decide), KF 66 (by decide)⟩, ⟨rfl, rfl⟩, ⟨yF, by rw [bt_len]; exact ui_s _ _ _⟩, ((((((F_5.tr Fa).tr Fc).tr F_17).tr F_23).tr F_27).tr Fe)⟩
set_option maxHeartbeats 1000000 in
set_option maxRecDepth 100000 in
theorem oX12_sum_2 {l : Launch} {w : am_W} {h : am_H} {n : Nat} {ψ : Nat → oA} {z : fA} {i : mI} (S : MO h ψ z i) (hn : 90 ≤ n) (A N D : List (BitVec 8)) (m : Nat) (hA : A.length ≤ 256) (hN : N.length ≤ 64) (hD : D.length ≤ 512) (hz0 : z 0 = nI (4 * m)) (hm : m = 4 ∨ m = 6 ∨ m = 8) (hz1 : z 1 = nI D.length) (hz2 : z 2 = nI N.length) (hz3 : z 3 = nI A.length) (s1 : sg (ψ 62) 512 D) (s2 : sg (ψ 62) 1024 N) (s3 : sg (ψ 62) 1536 A) (B : BitVec 8 → BitVec 8) (hB : ∀ v : BitVec 8, ψ 65 v.toNat = B v) {F G : bP → bP} (HK0 : ∀ ψ2, FR [67, 68, 71, 72, 73, 74, 75, 76, 77, 78, 79, 80, 81, 82, 83, 84, 85, 86, 87, 88, 89, 90] ψ ψ2 → exK ψ2 B 0 0 m → Kh ψ2 0 F G) (hok : D.length % 16 = 0 ∧ D.length ≠ 0) : RH l w mX12_sum h n [.ref 61, .int 2] (uQ h ψ z (ui i 0 0) (nI (bt (csm F D) 16).length) (some (bt (csm F D) 16))) := by
  refine RC.of [(0, .ref 61), (1, .int 2)] (by decide +kernel) rfl (Nat.le_of_ble_eq_true rfl) ?_
  refine R_aload_n (pc := 0) 0 dX12_sum_0 rfl rfl ?_
  refine R_iconst (pc := 1) (v := 0) dX12_sum_1 (by decide) ?_
  refine R_put' (pc := 2) (fs' := [.int 0, .ref 62, .ref 63, .int (i 1), .ref 64, .int (i 2), .ref 65, .ref 66, .ref 67, .ref 68, .ref 69, .ref 70, .ref 71, .int (i 3), .ref 72, .int (i 4), .ref 73, .int (i 5), .ref 74, .int (i 6), .ref 75, .ref 76, .ref 77, .ref 78, .ref 79, .ref 80, .ref 81, .ref 82, .ref 83, .ref 84, .int (i 7), .ref 85, .ref 86, .ref 87, .ref 88, .ref 89, .ref 90]) dX12_sum_2 fX12_105 tX12_0 rfl rfl S.obj (by omega) (Nat.le_of_ble_eq_true rfl) rfl (fun h_1 f_2 g_3 => ?_)
  have S_4 : MO h_1 ψ z (ui i 0 0) := MO.setI (j := (ui i 0 0)) S f_2 g_3
  have F_5 := fmI g_3
  refine R_iload_n (pc := 5) 1 dX12_sum_5 rfl rfl ?_
  refine R_iconst (pc := 6) (v := 1) dX12_sum_6 (by decide) ?_
  refine R_iconst (pc := 7) (v := 3) dX12_sum_7 (by decide) ?_
  refine R_callSp (pc := 8) (μ' := mX12_in) (As := [.int 2, .int 1, .int 3]) (st := []) dX12_sum_8 zX12_in lX12_108 ⟨by decide, by decide⟩ rfl rfl ⟨by decide, by decide⟩ rfl (Nat.le_of_ble_eq_true rfl) (qX12_in l w _ _ _ _ _) ?_
  refine R_eqi (y := 1) (by decide) ?_
  refine R_if_ne (pc := 11) (tgt := 17) dX12_sum_11 (by decide) (fun c_6 => ?_) (fun c_6 => absurd c_6 (by decide))
  refine R_aload_n (pc := 17) 0 dX12_sum_17 rfl rfl ?_
  refine R_iconst (pc := 18) (v := 0) dX12_sum_18 (by decide) ?_
  refine R_callVh (pc := 19) (μ' := mX12_hasKeys) (As := [.int 0]) (st := []) dX12_sum_19 zX12_hasKeys lX12_250 ⟨by decide, by decide⟩ rfl rfl ⟨by decide, by decide⟩ S_4.obj (by omega) rfl (Nat.le_of_ble_eq_true rfl) (oX12_hasKeys_0 S_4 hn m hz0 hm B hB) (fun h_7 r_ q_8 => ?_)
  obtain ⟨ψa, rfl, Sa, Ka, Ea, Fa⟩ := q_8
  refine R_if_ne (pc := 22) (tgt := 28) dX12_sum_22 (by decide) (fun c_9 => ?_) (fun c_9 => absurd c_9 (by decide))
  refine R_iload_n (pc := 28) 1 dX12_sum_28 rfl rfl ?_
  refine R_iconst (pc := 29) (v := 1) dX12_sum_29 (by decide) ?_
  refine R_icmp_le (pc := 30) (tgt := 57) dX12_sum_30 (by decide) (fun c_10 => absurd c_10 (by decide)) (fun c_10 => ?_)
  refine R_aload_n (pc := 33) 0 dX12_sum_33 rfl rfl ?_
  refine R_get (pc := 34) dX12_sum_34 fX12_13 Sa.obj (by omega) rfl ?_
  refine R_iconst (pc := 37) (v := 1) dX12_sum_37 (by decide) ?_
  refine R_iald' (pc := 38) (j := 1) dX12_sum_38 Sa.siz (by omega) ⟨rfl, by show 1 < 4; omega, by decide⟩ ?_
  refine R_eqi (y := nI D.length) (hz1) ?_
  refine R_bipush (pc := 39) (v := 16) dX12_sum_39 (by decide) ?_
  refine R_irem (pc := 41) dX12_sum_41 (by decide) ?_
  refine R_eqi (y := nI (D.length % 16)) (nI_rem (a := D.length) (b := 16) (by omega) (by omega)) ?_
  refine R_if_ne (pc := 42) (tgt := 54) dX12_sum_42 (by decide) (fun c_11 => absurd (congrArg nI hok.1) c_11) (fun c_11 => ?_)
  refine R_aload_n (pc := 45) 0 dX12_sum_45 rfl rfl ?_
  refine R_get (pc := 46) dX12_sum_46 fX12_13 Sa.obj (by omega) rfl ?_
  refine R_iconst (pc := 49) (v := 1) dX12_sum_49 (by decide) ?_
  refine R_iald' (pc := 50) (j := 1) dX12_sum_50 Sa.siz (by omega) ⟨rfl, by show 1 < 4; omega, by decide⟩ ?_
  refine R_eqi (y := nI D.length) (hz1) ?_
  refine R_if_ne (pc := 51) (tgt := 57) dX12_sum_51 (by decide) (fun c_12 => ?_) (fun c_12 => absurd c_12 (fun q_ => hok.2 ((nI_eq (a := D.length) (b := 0) (by omega) (by omega)).mp q_)))
  refine R_aload_n (pc := 57) 0 dX12_sum_57 rfl rfl ?_
  refine R_callVh (pc := 58) (μ' := mX12_load) (As := []) (st := []) dX12_sum_58 zX12_load lX12_258 ⟨by decide, by decide⟩ rfl rfl ⟨by decide, by decide⟩ Sa.obj (by omega) rfl (Nat.le_of_ble_eq_true rfl) (oX12_load Sa hn D.length N.length A.length hz1 hz2 hz3 hD hN hA) (fun h_13 r_ q_14 => ?_)
  obtain ⟨rfl, Sc, Fc⟩ := q_14
  obtain ⟨ψc, ec⟩ : ∃ x, x = (uo (uo (uo ψa 71 (cpB (ψa 62) 512 (ψa 71) 0 D.length)) 73 (cpB (ψa 62) 1024 (ψa 73) 0 N.length)) 74 (cpB (ψa 62) 1536 (ψa 74) 0 A.length)) := ⟨_, rfl⟩
  rw [← ec] at Sc
  have Kc : FR [67, 68, 71, 72, 73, 74, 75, 76, 77, 78, 79, 80, 81, 82, 83, 84, 85, 86, 87, 88, 89, 90] ψ ψc := by rw [ec]; exact (((((FR.rf _ _).tr Ka (by decide)).up (by decide)).up (by decide)).up (by decide))
  have e62 : ψa 62 = ψ 62 := Ka 62 (by decide)
  have sD : sg (ψc 71) 0 D := by rw [ec]; exact (show sg (ψa 62) 512 D by rw [e62]; exact s1).cp (ψa 71) 0 rfl
  have K0 : Kh ψc 0 F G := HK0 ψc Kc (by rw [ec]; exact Ea)
  refine R_iload_n (pc := 61) 1 dX12_sum_61 rfl rfl ?_
  refine R_iconst (pc := 62) (v := 1) dX12_sum_62 (by decide) ?_
  refine R_icmp_ne (pc := 63) (tgt := 107) dX12_sum_63 (by decide) (fun c_15 => ?_) (fun c_15 => absurd c_15 (by decide))
  refine R_iload_n (pc := 107) 1 dX12_sum_107 rfl rfl ?_
  refine R_iconst (pc := 108) (v := 2) dX12_sum_108 (by decide) ?_
  refine R_icmp_ne (pc := 109) (tgt := 145) dX12_sum_109 (by decide) (fun c_16 => absurd (rfl) c_16) (fun c_16 => ?_)
  refine R_aload_n (pc := 112) 0 dX12_sum_112 rfl rfl ?_
  refine R_get (pc := 113) dX12_sum_113 fX12_74 Sc.obj (by omega) rfl ?_
  refine R_iconst (pc := 116) (v := 0) dX12_sum_116 (by decide) ?_
  refine R_bipush (pc := 117) (v := 16) dX12_sum_117 (by decide) ?_
  refine R_callSh (pc := 119) (μ' := mX12_clear) (As := [.ref 82, .int 0, .int 16]) (st := []) dX12_sum_119 zX12_clear lX12_164 ⟨by decide, by decide⟩ rfl rfl ⟨by decide, by decide⟩ rfl (Nat.le_of_ble_eq_true rfl) (oX12_clear16 Sc hn (q := 82) rfl (by decide)) (fun h_17 r_ q_18 => ?_)
  obtain ⟨rfl, S_19, F_20⟩ := q_18
  have S_21 : MO h_17 (uo ψc 82 (pt (ψc 82) 0 (0, 0))) z (ui (ui (ui (ui i 0 0) 3 (nI D.length)) 5 (nI N.length)) 6 (nI A.length)) := S_19
  refine R_aload_n (pc := 122) 0 dX12_sum_122 rfl rfl ?_
  refine R_aload_n (pc := 123) 0 dX12_sum_123 rfl rfl ?_
  refine R_get (pc := 124) dX12_sum_124 fX12_41 S_21.obj (by omega) rfl ?_
  refine R_aload_n (pc := 127) 0 dX12_sum_127 rfl rfl ?_
  refine R_get (pc := 128) dX12_sum_128 fX12_130 S_21.obj (by omega) rfl ?_
  refine R_eqi (y := nI D.length) rfl ?_
  refine R_callVh (pc := 131) (μ' := mX12_chained) (As := [.ref 71, .int (nI D.length)]) (st := []) dX12_sum_131 zX12_chained lX12_208 ⟨by decide, by decide⟩ rfl rfl ⟨by decide, by decide⟩ S_21.obj (by omega) rfl (Nat.le_of_ble_eq_true rfl) (oX12_chained S_21 hn (p := 71) rfl (by decide) D (by omega) (by show D.length ≤ 700; omega) sD (K0.uo (by decide))) (fun h_22 r_ q_23 => ?_)
  obtain ⟨ψ_27, rfl, S_24, K_26, J_28, F_25⟩ := q_23
  have K_29 := (K0.uo (by decide)).fr K_26 (by decide) (by decide) (by decide) (by decide)
  have xF : gt (ψ_27 82) 0 = (csm F D) := by have z_ : gt (ψ_27 82) 0 = cyN (csS F D) (gt (pt (ψc 82) 0 (0, 0)) 0) (nbk D) := J_28; rw [gt_pt] at z_; exact z_
  refine R_aload_n (pc := 134) 0 dX12_sum_134 rfl rfl ?_
  refine R_aload_n (pc := 135) 0 dX12_sum_135 rfl rfl ?_
  refine R_get (pc := 136) dX12_sum_136 fX12_74 S_24.obj (by omega) rfl ?_
  refine R_bipush (pc := 139) (v := 16) dX12_sum_139 (by decide) ?_
  refine R_callVh (pc := 141) (μ' := mX12_come) (As := [.ref 82, .int (nI 16)]) (st := []) dX12_sum_141 zX12_come lX12_297 ⟨by decide, by decide⟩ rfl rfl ⟨by decide, by decide⟩ S_24.obj (by omega) rfl (Nat.le_of_ble_eq_true rfl) (oX12_come S_24 hn (p := 82) rfl (by decide) 16 (by decide) (by omega)) (fun h_30 r_ q_31 => ?_)
  obtain ⟨rfl, Se, Fe⟩ := q_31
  have yF : sg (cpB (ψ_27 82) 0 (ψ_27 64) 0 16) 0 (bt (csm F D) 16) := by
    rw [cpB_16, show gt (ψ_27 82) 0 = (csm F D) from xF]
    exact (sg.nil _ 0).pt (csm F D) (u := 0) rfl rfl
  have KF : FR [67, 68, 71, 72, 73, 74, 75, 76, 77, 78, 79, 80, 81, 82, 83, 84, 85, 86, 87, 88, 89, 90] ψ ψ_27 := ((Kc.up (by decide)).tr K_26 (by decide))
  exact R_ireturn (pc := 144) dX12_sum_144 rfl (by decide) (by decide) ⟨rfl, _, _, by rw [bt_len], Se, ⟨KF 62 (by decide), KF 65 (by decide), KF 66 (by decide)⟩, ⟨rfl, rfl⟩, ⟨yF, by rw [bt_len]; exact ui_s _ _ _⟩, (((((F_5.tr Fa).tr Fc).tr F_20).tr F_25).tr Fe)⟩
set_option maxHeartbeats 1000000 in
set_option maxRecDepth 100000 in
theorem oX12_sum_3 {l : Launch} {w : am_W} {h : am_H} {n : Nat} {ψ : Nat → oA} {z : fA} {i : mI} (S : MO h ψ z i) (hn : 90 ≤ n) (A N D : List (BitVec 8)) (m : Nat) (hA : A.length ≤ 256) (hN : N.length ≤ 64) (hD : D.length ≤ 512) (hz0 : z 0 = nI (4 * m)) (hm : m = 4 ∨ m = 6 ∨ m = 8) (hz1 : z 1 = nI D.length) (hz2 : z 2 = nI N.length) (hz3 : z 3 = nI A.length) (s1 : sg (ψ 62) 512 D) (s2 : sg (ψ 62) 1024 N) (s3 : sg (ψ 62) 1536 A) (B : BitVec 8 → BitVec 8) (hB : ∀ v : BitVec 8, ψ 65 v.toNat = B v) {F G : bP → bP} (HK0 : ∀ ψ2, FR [67, 68, 71, 72, 73, 74, 75, 76, 77, 78, 79, 80, 81, 82, 83, 84, 85, 86, 87, 88, 89, 90] ψ ψ2 → exK ψ2 B 0 0 m → Kh ψ2 0 F G) (hok : D.length % 16 = 0 ∧ D.length ≠ 0) : RH l w mX12_sum h n [.ref 61, .int 3] (uQ h ψ z (ui i 0 0) (nI (bt (gab (F (0, 0)) D (0, 0)) 16).length) (some (bt (gab (F (0, 0)) D (0, 0)) 16))) := by
  refine RC.of [(0, .ref 61), (1, .int 3)] (by decide +kernel) rfl (Nat.le_of_ble_eq_true rfl) ?_
  refine R_aload_n (pc := 0) 0 dX12_sum_0 rfl rfl ?_
  refine R_iconst (pc := 1) (v := 0) dX12_sum_1 (by decide) ?_
  refine R_put' (pc := 2) (fs' := [.int 0, .ref 62, .ref 63, .int (i 1), .ref 64, .int (i 2), .ref 65, .ref 66, .ref 67, .ref 68, .ref 69, .ref 70, .ref 71, .int (i 3), .ref 72, .int (i 4), .ref 73, .int (i 5), .ref 74, .int (i 6), .ref 75, .ref 76, .ref 77, .ref 78, .ref 79, .ref 80, .ref 81, .ref 82, .ref 83, .ref 84, .int (i 7), .ref 85, .ref 86, .ref 87, .ref 88, .ref 89, .ref 90]) dX12_sum_2 fX12_105 tX12_0 rfl rfl S.obj (by omega) (Nat.le_of_ble_eq_true rfl) rfl (fun h_1 f_2 g_3 => ?_)
  have S_4 : MO h_1 ψ z (ui i 0 0) := MO.setI (j := (ui i 0 0)) S f_2 g_3
  have F_5 := fmI g_3
  refine R_iload_n (pc := 5) 1 dX12_sum_5 rfl rfl ?_
  refine R_iconst (pc := 6) (v := 1) dX12_sum_6 (by decide) ?_
  refine R_iconst (pc := 7) (v := 3) dX12_sum_7 (by decide) ?_
  refine R_callSp (pc := 8) (μ' := mX12_in) (As := [.int 3, .int 1, .int 3]) (st := []) dX12_sum_8 zX12_in lX12_108 ⟨by decide, by decide⟩ rfl rfl ⟨by decide, by decide⟩ rfl (Nat.le_of_ble_eq_true rfl) (qX12_in l w _ _ _ _ _) ?_
  refine R_eqi (y := 1) (by decide) ?_
  refine R_if_ne (pc := 11) (tgt := 17) dX12_sum_11 (by decide) (fun c_6 => ?_) (fun c_6 => absurd c_6 (by decide))
  refine R_aload_n (pc := 17) 0 dX12_sum_17 rfl rfl ?_
  refine R_iconst (pc := 18) (v := 0) dX12_sum_18 (by decide) ?_
  refine R_callVh (pc := 19) (μ' := mX12_hasKeys) (As := [.int 0]) (st := []) dX12_sum_19 zX12_hasKeys lX12_250 ⟨by decide, by decide⟩ rfl rfl ⟨by decide, by decide⟩ S_4.obj (by omega) rfl (Nat.le_of_ble_eq_true rfl) (oX12_hasKeys_0 S_4 hn m hz0 hm B hB) (fun h_7 r_ q_8 => ?_)
  obtain ⟨ψa, rfl, Sa, Ka, Ea, Fa⟩ := q_8
  refine R_if_ne (pc := 22) (tgt := 28) dX12_sum_22 (by decide) (fun c_9 => ?_) (fun c_9 => absurd c_9 (by decide))
  refine R_iload_n (pc := 28) 1 dX12_sum_28 rfl rfl ?_
  refine R_iconst (pc := 29) (v := 1) dX12_sum_29 (by decide) ?_
  refine R_icmp_le (pc := 30) (tgt := 57) dX12_sum_30 (by decide) (fun c_10 => absurd c_10 (by decide)) (fun c_10 => ?_)
  refine R_aload_n (pc := 33) 0 dX12_sum_33 rfl rfl ?_
  refine R_get (pc := 34) dX12_sum_34 fX12_13 Sa.obj (by omega) rfl ?_
  refine R_iconst (pc := 37) (v := 1) dX12_sum_37 (by decide) ?_
  refine R_iald' (pc := 38) (j := 1) dX12_sum_38 Sa.siz (by omega) ⟨rfl, by show 1 < 4; omega, by decide⟩ ?_
  refine R_eqi (y := nI D.length) (hz1) ?_
  refine R_bipush (pc := 39) (v := 16) dX12_sum_39 (by decide) ?_
  refine R_irem (pc := 41) dX12_sum_41 (by decide) ?_
  refine R_eqi (y := nI (D.length % 16)) (nI_rem (a := D.length) (b := 16) (by omega) (by omega)) ?_
  refine R_if_ne (pc := 42) (tgt := 54) dX12_sum_42 (by decide) (fun c_11 => absurd (congrArg nI hok.1) c_11) (fun c_11 => ?_)
  refine R_aload_n (pc := 45) 0 dX12_sum_45 rfl rfl ?_
  refine R_get (pc := 46) dX12_sum_46 fX12_13 Sa.obj (by omega) rfl ?_
  refine R_iconst (pc := 49) (v := 1) dX12_sum_49 (by decide) ?_
  refine R_iald' (pc := 50) (j := 1) dX12_sum_50 Sa.siz (by omega) ⟨rfl, by show 1 < 4; omega, by decide⟩ ?_
  refine R_eqi (y := nI D.length) (hz1) ?_
  refine R_if_ne (pc := 51) (tgt := 57) dX12_sum_51 (by decide) (fun c_12 => ?_) (fun c_12 => absurd c_12 (fun q_ => hok.2 ((nI_eq (a := D.length) (b := 0) (by omega) (by omega)).mp q_)))
  refine R_aload_n (pc := 57) 0 dX12_sum_57 rfl rfl ?_
  refine R_callVh (pc := 58) (μ' := mX12_load) (As := []) (st := []) dX12_sum_58 zX12_load lX12_258 ⟨by decide, by decide⟩ rfl rfl ⟨by decide, by decide⟩ Sa.obj (by omega) rfl (Nat.le_of_ble_eq_true rfl) (oX12_load Sa hn D.length N.length A.length hz1 hz2 hz3 hD hN hA) (fun h_13 r_ q_14 => ?_)
  obtain ⟨rfl, Sc, Fc⟩ := q_14
  obtain ⟨ψc, ec⟩ : ∃ x, x = (uo (uo (uo ψa 71 (cpB (ψa 62) 512 (ψa 71) 0 D.length)) 73 (cpB (ψa 62) 1024 (ψa 73) 0 N.length)) 74 (cpB (ψa 62) 1536 (ψa 74) 0 A.length)) := ⟨_, rfl⟩
  rw [← ec] at Sc
  have Kc : FR [67, 68, 71, 72, 73, 74, 75, 76, 77, 78, 79, 80, 81, 82, 83, 84, 85, 86, 87, 88, 89, 90] ψ ψc := by rw [ec]; exact (((((FR.rf _ _).tr Ka (by decide)).up (by decide)).up (by decide)).up (by decide))
  have e62 : ψa 62 = ψ 62 := Ka 62 (by decide)
  have sD : sg (ψc 71) 0 D := by rw [ec]; exact (show sg (ψa 62) 512 D by rw [e62]; exact s1).cp (ψa 71) 0 rfl
  have K0 : Kh ψc 0 F G := HK0 ψc Kc (by rw [ec]; exact Ea)
  refine R_iload_n (pc := 61) 1 dX12_sum_61 rfl rfl ?_
  refine R_iconst (pc := 62) (v := 1) dX12_sum_62 (by decide) ?_
  refine R_icmp_ne (pc := 63) (tgt := 107) dX12_sum_63 (by decide) (fun c_15 => ?_) (fun c_15 => absurd c_15 (by decide))
  refine R_iload_n (pc := 107) 1 dX12_sum_107 rfl rfl ?_
  refine R_iconst (pc := 108) (v := 2) dX12_sum_108 (by decide) ?_
  refine R_icmp_ne (pc := 109) (tgt := 145) dX12_sum_109 (by decide) (fun c_16 => ?_) (fun c_16 => absurd c_16 (by decide))
  refine R_aload_n (pc := 145) 0 dX12_sum_145 rfl rfl ?_
  refine R_get (pc := 146) dX12_sum_146 fX12_62 Sc.obj (by omega) rfl ?_
  refine R_iconst (pc := 149) (v := 0) dX12_sum_149 (by decide) ?_
  refine R_bipush (pc := 150) (v := 16) dX12_sum_150 (by decide) ?_
  refine R_callSh (pc := 152) (μ' := mX12_clear) (As := [.ref 78, .int 0, .int 16]) (st := []) dX12_sum_152 zX12_clear lX12_164 ⟨by decide, by decide⟩ rfl rfl ⟨by decide, by decide⟩ rfl (Nat.le_of_ble_eq_true rfl) (oX12_clear16 Sc hn (q := 78) rfl (by decide)) (fun h_17 r_ q_18 => ?_)
  obtain ⟨rfl, S_19, F_20⟩ := q_18
  have S_21 : MO h_17 (uo ψc 78 (pt (ψc 78) 0 (0, 0))) z (ui (ui (ui (ui i 0 0) 3 (nI D.length)) 5 (nI N.length)) 6 (nI A.length)) := S_19
  refine R_aload_n (pc := 155) 0 dX12_sum_155 rfl rfl ?_
  refine R_iconst (pc := 156) (v := 0) dX12_sum_156 (by decide) ?_
  refine R_aload_n (pc := 157) 0 dX12_sum_157 rfl rfl ?_
  refine R_get (pc := 158) dX12_sum_158 fX12_62 S_21.obj (by omega) rfl ?_
  refine R_iconst (pc := 161) (v := 0) dX12_sum_161 (by decide) ?_
  refine R_callVh (pc := 162) (μ' := mX12_sealBlock) (As := [.int (nI 0), .ref 78, .int (nI 0)]) (st := []) dX12_sum_162 zX12_sealBlock lX12_146 ⟨by decide, by decide⟩ rfl rfl ⟨by decide, by decide⟩ S_21.obj (by omega) rfl (Nat.le_of_ble_eq_true rfl) (oX12_sealBlock S_21 hn (K0.uo (by decide)) (p := 78) rfl 0 (by show 0 + 16 ≤ 16; omega)) (fun h_22 r_ q_23 => ?_)
  obtain ⟨rfl, S_24, F_25⟩ := q_23
  have S_26 : MO h_22 (uo ψc 78 (pt (pt (ψc 78) 0 (0, 0)) 0 (F (gt (pt (ψc 78) 0 (0, 0)) 0)))) z (ui (ui (ui (ui i 0 0) 3 (nI D.length)) 5 (nI N.length)) 6 (nI A.length)) := by have z_ := S_24; rw [uo_uo] at z_; exact z_
  refine R_aload_n (pc := 165) 0 dX12_sum_165 rfl rfl ?_
  refine R_get (pc := 166) dX12_sum_166 fX12_65 S_26.obj (by omega) rfl ?_
  refine R_iconst (pc := 169) (v := 0) dX12_sum_169 (by decide) ?_
  refine R_bipush (pc := 170) (v := 16) dX12_sum_170 (by decide) ?_
  refine R_callSh (pc := 172) (μ' := mX12_clear) (As := [.ref 79, .int 0, .int 16]) (st := []) dX12_sum_172 zX12_clear lX12_164 ⟨by decide, by decide⟩ rfl rfl ⟨by decide, by decide⟩ rfl (Nat.le_of_ble_eq_true rfl) (oX12_clear16 S_26 hn (q := 79) rfl (by decide)) (fun h_27 r_ q_28 => ?_)
  obtain ⟨rfl, S_29, F_30⟩ := q_28
  have S_31 : MO h_27 (uo (uo ψc 78 (pt (pt (ψc 78) 0 (0, 0)) 0 (F (gt (pt (ψc 78) 0 (0, 0)) 0)))) 79 (pt (ψc 79) 0 (0, 0))) z (ui (ui (ui (ui i 0 0) 3 (nI D.length)) 5 (nI N.length)) 6 (nI A.length)) := S_29
  refine R_aload_n (pc := 175) 0 dX12_sum_175 rfl rfl ?_
  refine R_aload_n (pc := 176) 0 dX12_sum_176 rfl rfl ?_
  refine R_get (pc := 177) dX12_sum_177 fX12_41 S_31.obj (by omega) rfl ?_
  refine R_iconst (pc := 180) (v := 0) dX12_sum_180 (by decide) ?_
  refine R_aload_n (pc := 181) 0 dX12_sum_181 rfl rfl ?_
  refine R_get (pc := 182) dX12_sum_182 fX12_130 S_31.obj (by omega) rfl ?_
  refine R_eqi (y := nI D.length) rfl ?_
  refine R_callVh (pc := 185) (μ' := mX12_sumRow) (As := [.ref 71, .int 0, .int (nI D.length)]) (st := []) dX12_sum_185 zX12_sumRow lX12_198 ⟨by decide, by decide⟩ rfl rfl ⟨by decide, by decide⟩ S_31.obj (by omega) rfl (Nat.le_of_ble_eq_true rfl) (oX12_sumRow S_31 hn (p := 71) rfl (by decide) D (by omega) (by show D.length ≤ 700; omega) sD (F (0, 0)) (show gt (pt (pt (ψc 78) 0 (0, 0)) 0 (F (gt (pt (ψc 78) 0 (0, 0)) 0))) 0 = _ by simp only [gt_pt, pt_pt])) (fun h_32 r_ q_33 => ?_)
  obtain ⟨ψ_37, rfl, S_34, K_36, J_38, F_35⟩ := q_33
  have K_39 := ((K0.uo (by decide)).uo (by decide)).fr K_36 (by decide) (by decide) (by decide) (by decide)
  have xF : gt (ψ_37 79) 0 = (gab (F (0, 0)) D (0, 0)) := by have z_ : gt (ψ_37 79) 0 = gab (F (0, 0)) D (gt (pt (ψc 79) 0 (0, 0)) 0) := J_38; rw [gt_pt] at z_; exact z_
  refine R_aload_n (pc := 188) 0 dX12_sum_188 rfl rfl ?_
  refine R_aload_n (pc := 189) 0 dX12_sum_189 rfl rfl ?_
  refine R_get (pc := 190) dX12_sum_190 fX12_65 S_34.obj (by omega) rfl ?_
  refine R_bipush (pc := 193) (v := 16) dX12_sum_193 (by decide) ?_
  refine R_callVh (pc := 195) (μ' := mX12_come) (As := [.ref 79, .int (nI 16)]) (st := []) dX12_sum_195 zX12_come lX12_297 ⟨by decide, by decide⟩ rfl rfl ⟨by decide, by decide⟩ S_34.obj (by omega) rfl (Nat.le_of_ble_eq_true rfl) (oX12_come S_34 hn (p := 79) rfl (by decide) 16 (by decide) (by omega)) (fun h_40 r_ q_41 => ?_)
  obtain ⟨rfl, Se, Fe⟩ := q_41
  have yF : sg (cpB (ψ_37 79) 0 (ψ_37 64) 0 16) 0 (bt (gab (F (0, 0)) D (0, 0)) 16) := by
    rw [cpB_16, show gt (ψ_37 79) 0 = (gab (F (0, 0)) D (0, 0)) from xF]
    exact (sg.nil _ 0).pt (gab (F (0, 0)) D (0, 0)) (u := 0) rfl rfl
  have KF : FR [67, 68, 71, 72, 73, 74, 75, 76, 77, 78, 79, 80, 81, 82, 83, 84, 85, 86, 87, 88, 89, 90] ψ ψ_37 := (((Kc.up (by decide)).up (by decide)).tr K_36 (by decide))
  exact R_ireturn (pc := 198) dX12_sum_198 rfl (by decide) (by decide) ⟨rfl, _, _, by rw [bt_len], Se, ⟨KF 62 (by decide), KF 65 (by decide), KF 66 (by decide)⟩, ⟨rfl, rfl⟩, ⟨yF, by rw [bt_len]; exact ui_s _ _ _⟩, (((((((F_5.tr Fa).tr Fc).tr F_20).tr F_25).tr F_30).tr F_35).tr Fe)⟩
set_option maxHeartbeats 1000000 in
set_option maxRecDepth 100000 in
theorem oX12_roundKey_K {l : Launch} {w : am_W} {h : am_H} {n : Nat} {ψ : Nat → oA} {z : fA} {i : mI} (S : MO h ψ z i) (hn : 90 ≤ n) (v : Int32) (L : Nat) (hz0 : z 0 = nI L) (hL : L ≤ 64) (hno : L ≠ 16 ∧ L ≠ 24 ∧ L ≠ 32) : RH l w mX12_roundKey h n [.ref 61, .int v] (oQ h (some (.int (-3))) ψ z (ui i 0 0)) := by
  refine RC.of [(0, .ref 61), (1, .int v)] (by decide +kernel) rfl (Nat.le_of_ble_eq_true rfl) ?_
  refine R_aload_n (pc := 0) 0 dX12_roundKey_0 rfl rfl ?_
  refine R_iconst (pc := 1) (v := 0) dX12_roundKey_1 (by decide) ?_
  refine R_put' (pc := 2) (fs' := [.int 0, .ref 62, .ref 63, .int (i 1), .ref 64, .int (i 2), .ref 65, .ref 66, .ref 67, .ref 68, .ref 69, .ref 70, .ref 71, .int (i 3), .ref 72, .int (i 4), .ref 73, .int (i 5), .ref 74, .int (i 6), .ref 75, .ref 76, .ref 77, .ref 78, .ref 79, .ref 80, .ref 81, .ref 82, .ref 83, .ref 84, .int (i 7), .ref 85, .ref 86, .ref 87, .ref 88, .ref 89, .ref 90]) dX12_roundKey_2 fX12_105 tX12_0 rfl rfl S.obj (by omega) (Nat.le_of_ble_eq_true rfl) rfl (fun h_1 f_2 g_3 => ?_)
  have S_4 : MO h_1 ψ z (ui i 0 0) := MO.setI (j := (ui i 0 0)) S f_2 g_3
  have F_5 := fmI g_3
  refine R_aload_n (pc := 5) 0 dX12_roundKey_5 rfl rfl ?_
  refine R_iconst (pc := 6) (v := 0) dX12_roundKey_6 (by decide) ?_
  refine R_callVh (pc := 7) (μ' := mX12_hasKeys) (As := [.int 0]) (st := []) dX12_roundKey_7 zX12_hasKeys lX12_250 ⟨by decide, by decide⟩ rfl rfl ⟨by decide, by decide⟩ S_4.obj (by omega) rfl (Nat.le_of_ble_eq_true rfl) (oX12_hasKeys_0N S_4 hn L hz0 hL hno) (fun h_6 r_ q_7 => ?_)
  obtain ⟨rfl, Sa, Fa⟩ := q_7
  refine R_if_ne (pc := 10) (tgt := 16) dX12_roundKey_10 (by decide) (fun c_8 => absurd (rfl) c_8) (fun c_8 => ?_)
  refine R_bipush (pc := 13) (v := (-3)) dX12_roundKey_13 (by decide) ?_
  exact R_ireturn (pc := 15) dX12_roundKey_15 rfl (by decide) (by decide) ⟨rfl, rfl, Sa, (F_5.tr Fa)⟩
def rkR (B : BitVec 8 → BitVec 8) (key : oA) (m : Nat) (v : Int32) : Int32 := if inI v 0 (nI (16 * (m + 6) + 15)) = 0 then -2 else oc (exN B key m (4 * (m + 7)) v.toNatClampNeg)
set_option maxHeartbeats 1000000 in
set_option maxRecDepth 100000 in
theorem oX12_roundKey {l : Launch} {w : am_W} {h : am_H} {n : Nat} {ψ : Nat → oA} {z : fA} {i : mI} (S : MO h ψ z i) (hn : 90 ≤ n) (v : Int32) (m : Nat) (hz0 : z 0 = nI (4 * m)) (hm : m = 4 ∨ m = 6 ∨ m = 8) (B : BitVec 8 → BitVec 8) (hB : ∀ v : BitVec 8, ψ 65 v.toNat = B v) : RH l w mX12_roundKey h n [.ref 61, .int v] (fun h2 q => ∃ ψ2, q = some (.int (rkR B (fun j => ψ 62 (0 + j)) m v)) ∧ MO h2 ψ2 z (ui i 0 0) ∧ (ψ2 62 = ψ 62 ∧ ψ2 64 = ψ 64 ∧ ψ2 65 = ψ 65 ∧ ψ2 66 = ψ 66) ∧ FM h h2) := by
  refine RC.of [(0, .ref 61), (1, .int v)] (by decide +kernel) rfl (Nat.le_of_ble_eq_true rfl) ?_
  have hm8 : 4 ≤ m ∧ m ≤ 8 := by omega
  refine R_aload_n (pc := 0) 0 dX12_roundKey_0 rfl rfl ?_
  refine R_iconst (pc := 1) (v := 0) dX12_roundKey_1 (by decide) ?_
  refine R_put' (pc := 2) (fs' := [.int 0, .ref 62, .ref 63, .int (i 1), .ref 64, .int (i 2), .ref 65, .ref 66, .ref 67, .ref 68, .ref 69, .ref 70, .ref 71, .int (i 3), .ref 72, .int (i 4), .ref 73, .int (i 5), .ref 74, .int (i 6), .ref 75, .ref 76, .ref 77, .ref 78, .ref 79, .ref 80, .ref 81, .ref 82, .ref 83, .ref 84, .int (i 7), .ref 85, .ref 86, .ref 87, .ref 88, .ref 89, .ref 90]) dX12_roundKey_2 fX12_105 tX12_0 rfl rfl S.obj (by omega) (Nat.le_of_ble_eq_true rfl) rfl (fun h_1 f_2 g_3 => ?_)
  have S_4 : MO h_1 ψ z (ui i 0 0) := MO.setI (j := (ui i 0 0)) S f_2 g_3
  have F_5 := fmI g_3
  refine R_aload_n (pc := 5) 0 dX12_roundKey_5 rfl rfl ?_
  refine R_iconst (pc := 6) (v := 0) dX12_roundKey_6 (by decide) ?_
  refine R_callVh (pc := 7) (μ' := mX12_hasKeys) (As := [.int 0]) (st := []) dX12_roundKey_7 zX12_hasKeys lX12_250 ⟨by decide, by decide⟩ rfl rfl ⟨by decide, by decide⟩ S_4.obj (by omega) rfl (Nat.le_of_ble_eq_true rfl) (oX12_hasKeys_0 S_4 hn m hz0 hm B hB) (fun h_6 r_ q_7 => ?_)
  obtain ⟨ψa, rfl, Sa, Ka, Ea, Fa⟩ := q_7
  refine R_if_ne (pc := 10) (tgt := 16) dX12_roundKey_10 (by decide) (fun c_8 => ?_) (fun c_8 => absurd c_8 (by decide))
  refine R_iload_n (pc := 16) 1 dX12_roundKey_16 rfl rfl ?_
  refine R_iconst (pc := 17) (v := 0) dX12_roundKey_17 (by decide) ?_
  refine R_bipush (pc := 18) (v := 16) dX12_roundKey_18 (by decide) ?_
  refine R_aload_n (pc := 20) 0 dX12_roundKey_20 rfl rfl ?_
  refine R_get (pc := 21) dX12_roundKey_21 fX12_32 Sa.obj (by omega) rfl ?_
  refine R_iconst (pc := 24) (v := 0) dX12_roundKey_24 (by decide) ?_
  refine R_iald' (pc := 25) (j := 0) dX12_roundKey_25 (Sa.arr (p := 68) rfl) (by omega) ⟨rfl, by show 0 < 2; omega, by decide⟩ ?_
  refine R_eqi (y := oc (ψa 68 0)) rfl ?_
  refine R_eqi (y := nI (m + 6)) (by rw [Ea.2]; exact (ocN (by omega)).symm) ?_
  refine R_imul (pc := 26) dX12_roundKey_26 ?_
  refine R_eqi (y := nI (16 * (m + 6))) (nI_mul 16 (m + 6)) ?_
  refine R_bipush (pc := 27) (v := 15) dX12_roundKey_27 (by decide) ?_
  refine R_iadd (pc := 29) dX12_roundKey_29 ?_
  refine R_eqi (y := nI (16 * (m + 6) + 15)) (nI_add (16 * (m + 6)) 15) ?_
  refine R_callSp (pc := 30) (μ' := mX12_in) (As := [.int v, .int 0, .int (nI (16 * (m + 6) + 15))]) (st := []) dX12_roundKey_30 zX12_in lX12_108 ⟨by decide, by decide⟩ rfl rfl ⟨by decide, by decide⟩ rfl (Nat.le_of_ble_eq_true rfl) (qX12_in l w _ _ _ _ _) ?_
  refine R_if_eq (pc := 33) (tgt := 45) dX12_roundKey_33 (by decide) (fun c_9 => ?_) (fun c_9 => ?_)
  · skip
    refine R_bipush (pc := 45) (v := (-2)) dX12_roundKey_45 (by decide) ?_
    exact R_ireturn (pc := 47) dX12_roundKey_47 rfl (by decide) (by decide) ⟨rfl, ψa, by unfold rkR; rw [if_pos c_9], Sa, ⟨Ka 62 (by decide), Ka 64 (by decide), Ka 65 (by decide), Ka 66 (by decide)⟩, (F_5.tr Fa)⟩
  · skip
    have hv0 : ¬ v < 0 := fun q_ => c_9 (if_pos q_)
    have hv1 : ¬ nI (16 * (m + 6) + 15) < v := fun q_ => c_9 (by unfold inI; rw [if_neg hv0, if_pos q_])
    obtain ⟨j, hj, rfl⟩ := nI_of hv0
    have hj2 : ¬ 16 * (m + 6) + 15 < j := fun q_ => hv1 ((nI_ltI (by omega) (by omega)).mpr q_)
    refine R_aload_n (pc := 36) 0 dX12_roundKey_36 rfl rfl ?_
    refine R_get (pc := 37) dX12_roundKey_37 fX12_29 Sa.obj (by omega) rfl ?_
    refine R_iload_n (pc := 40) 1 dX12_roundKey_40 rfl rfl ?_
    refine R_iald' (pc := 41) (j := j) dX12_roundKey_41 (Sa.arr (p := 67) rfl) (by omega) ⟨rfl, by show j < 480; omega, by decide⟩ ?_
    refine R_eqi (y := oc (ψa 67 j)) rfl ?_
    refine R_goto (pc := 42) (tgt := 47) dX12_roundKey_42 (by decide) ?_
    exact R_ireturn (pc := 47) dX12_roundKey_47 rfl (by decide) (by decide) ⟨rfl, ψa, by unfold rkR; rw [if_neg c_9, nI_clamp hj]; have z_ := Ea.1 j (by omega); rw [Nat.mul_zero, Nat.zero_add, Ka 62 (by decide)] at z_; rw [← z_], Sa, ⟨Ka 62 (by decide), Ka 64 (by decide), Ka 65 (by decide), Ka 66 (by decide)⟩, (F_5.tr Fa)⟩
