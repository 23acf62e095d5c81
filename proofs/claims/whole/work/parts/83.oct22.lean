/-- the round keys of key u, made of the key row from a on, m words -/
def exK (ψ : Nat → oA) (B : BitVec 8 → BitVec 8) (u a m : Nat) : Prop := (∀ j, j < 16 * (m + 7) → ψ 67 (240 * u + j) = exN B (fun j => ψ 62 (a + j)) m (4 * (m + 7)) j) ∧ ψ 68 u = t8 (nI (m + 6))
set_option maxHeartbeats 1000000 in
set_option maxRecDepth 100000 in
theorem oX12_hasKeys_0N {l : Launch} {w : am_W} {h : am_H} {n : Nat} {ψ : Nat → oA} {z : fA} {i : mI} (S : MO h ψ z i) (hn : 90 ≤ n) (L : Nat) (hz : z 0 = nI L) (hL : L ≤ 64) (hno : L ≠ 16 ∧ L ≠ 24 ∧ L ≠ 32) : RH l w mX12_hasKeys h n [.ref 61, .int 0] (oQ h (some (.int 0)) ψ z i) := by
  refine RC.of [(0, .ref 61), (1, .int 0)] (by decide +kernel) rfl (Nat.le_of_ble_eq_true rfl) ?_
  refine R_aload_n (pc := 0) 0 dX12_hasKeys_0 rfl rfl ?_
  refine R_get (pc := 1) dX12_hasKeys_1 fX12_13 S.obj (by omega) rfl ?_
  refine R_iconst (pc := 4) (v := 0) dX12_hasKeys_4 (by decide) ?_
  refine R_iald' (pc := 5) (j := 0) dX12_hasKeys_5 S.siz (by omega) ⟨rfl, by show 0 < 4; omega, by decide⟩ ?_
  refine R_eqi (y := nI L) (hz) ?_
  refine R_istore_n (pc := 6) (lv' := [(2, .int (nI L)), (0, .ref 61), (1, .int 0)]) dX12_hasKeys_6 rfl (by decide) rfl ?_
  refine R_iload_n (pc := 7) 2 dX12_hasKeys_7 rfl rfl ?_
  refine R_if_eq (pc := 8) (tgt := 17) dX12_hasKeys_8 (by decide) (fun c_1 => ?_) (fun c_1 => absurd (rfl) c_1)
  refine R_iload_n (pc := 17) 0 dX12_hasKeys_17 rfl rfl ?_
  refine R_istore_n (pc := 18) (lv' := [(3, .int (nI L)), (2, .int (nI L)), (0, .ref 61), (1, .int 0)]) dX12_hasKeys_18 rfl (by decide) rfl ?_
  refine R_iload_n (pc := 19) 0 dX12_hasKeys_19 rfl rfl ?_
  refine R_bipush (pc := 20) (v := 16) dX12_hasKeys_20 (by decide) ?_
  refine R_icmp_eq (pc := 22) (tgt := 37) dX12_hasKeys_22 (by decide) (fun c_2 => ?_) (fun c_2 => ?_)
  · skip
    have nc_2 : L = 16 := (nI_eq (a := L) (b := 16) (by omega) (by omega)).mp c_2
    refine R_iload_n (pc := 37) 3 dX12_hasKeys_37 rfl rfl ?_
    refine R_if_eq (pc := 38) (tgt := 50) dX12_hasKeys_38 (by decide) (fun c_3 => ?_) (fun c_3 => absurd (rfl) c_3)
    exact absurd hno (by omega)
  · skip
    have nc_2 : ¬ (L = 16) := fun q_ => c_2 ((nI_eq (a := L) (b := 16) (by omega) (by omega)).mpr q_)
    refine R_iload_n (pc := 25) 0 dX12_hasKeys_25 rfl rfl ?_
    refine R_bipush (pc := 26) (v := 24) dX12_hasKeys_26 (by decide) ?_
    refine R_icmp_eq (pc := 28) (tgt := 37) dX12_hasKeys_28 (by decide) (fun c_4 => ?_) (fun c_4 => ?_)
    · skip
      have nc_4 : L = 24 := (nI_eq (a := L) (b := 24) (by omega) (by omega)).mp c_4
      refine R_iload_n (pc := 37) 3 dX12_hasKeys_37 rfl rfl ?_
      refine R_if_eq (pc := 38) (tgt := 50) dX12_hasKeys_38 (by decide) (fun c_5 => ?_) (fun c_5 => absurd (rfl) c_5)
      exact absurd hno (by omega)
    · skip
      have nc_4 : ¬ (L = 24) := fun q_ => c_4 ((nI_eq (a := L) (b := 24) (by omega) (by omega)).mpr q_)
      refine R_iload_n (pc := 31) 0 dX12_hasKeys_31 rfl rfl ?_
      refine R_bipush (pc := 32) (v := 32) dX12_hasKeys_32 (by decide) ?_
      refine R_icmp_ne (pc := 34) (tgt := 48) dX12_hasKeys_34 (by decide) (fun c_6 => ?_) (fun c_6 => ?_)
      · skip
        have nc_6 : ¬ (L = 32) := fun q_ => c_6 ((nI_eq (a := L) (b := 32) (by omega) (by omega)).mpr q_)
        refine R_iconst (pc := 48) (v := 0) dX12_hasKeys_48 (by decide) ?_
        exact R_zreturn (pc := 49) dX12_hasKeys_49 rfl rfl (by decide) (by decide) ⟨rfl, rfl, S, FM.rf h⟩
      · skip
        have nc_6 : L = 32 := (nI_eq (a := L) (b := 32) (by omega) (by omega)).mp c_6
        refine R_iload_n (pc := 37) 3 dX12_hasKeys_37 rfl rfl ?_
        refine R_if_eq (pc := 38) (tgt := 50) dX12_hasKeys_38 (by decide) (fun c_7 => ?_) (fun c_7 => absurd (rfl) c_7)
        exact absurd hno (by omega)
set_option maxHeartbeats 1000000 in
set_option maxRecDepth 100000 in
theorem oX12_hasKeys_0 {l : Launch} {w : am_W} {h : am_H} {n : Nat} {ψ : Nat → oA} {z : fA} {i : mI} (S : MO h ψ z i) (hn : 90 ≤ n) (m : Nat) (hz : z 0 = nI (4 * m)) (hm : m = 4 ∨ m = 6 ∨ m = 8) (B : BitVec 8 → BitVec 8) (hB : ∀ v : BitVec 8, ψ 65 v.toNat = B v) : RH l w mX12_hasKeys h n [.ref 61, .int 0] (fun h2 q => ∃ ψ2, q = some (.int 1) ∧ MO h2 ψ2 z i ∧ FR [67, 68] ψ ψ2 ∧ exK ψ2 B 0 0 m ∧ FM h h2) := by
  refine RC.of [(0, .ref 61), (1, .int 0)] (by decide +kernel) rfl (Nat.le_of_ble_eq_true rfl) ?_
  have hm8 : 4 ≤ m ∧ m ≤ 8 := by omega
  refine R_aload_n (pc := 0) 0 dX12_hasKeys_0 rfl rfl ?_
  refine R_get (pc := 1) dX12_hasKeys_1 fX12_13 S.obj (by omega) rfl ?_
  refine R_iconst (pc := 4) (v := 0) dX12_hasKeys_4 (by decide) ?_
  refine R_iald' (pc := 5) (j := 0) dX12_hasKeys_5 S.siz (by omega) ⟨rfl, by show 0 < 4; omega, by decide⟩ ?_
  refine R_eqi (y := nI (4 * m)) (hz) ?_
  refine R_istore_n (pc := 6) (lv' := [(2, .int (nI (4 * m))), (0, .ref 61), (1, .int 0)]) dX12_hasKeys_6 rfl (by decide) rfl ?_
  refine R_iload_n (pc := 7) 2 dX12_hasKeys_7 rfl rfl ?_
  refine R_if_eq (pc := 8) (tgt := 17) dX12_hasKeys_8 (by decide) (fun c_1 => ?_) (fun c_1 => absurd (rfl) c_1)
  refine R_iload_n (pc := 17) 0 dX12_hasKeys_17 rfl rfl ?_
  refine R_istore_n (pc := 18) (lv' := [(3, .int (nI (4 * m))), (2, .int (nI (4 * m))), (0, .ref 61), (1, .int 0)]) dX12_hasKeys_18 rfl (by decide) rfl ?_
  refine R_iload_n (pc := 19) 0 dX12_hasKeys_19 rfl rfl ?_
  refine R_bipush (pc := 20) (v := 16) dX12_hasKeys_20 (by decide) ?_
  refine R_icmp_eq (pc := 22) (tgt := 37) dX12_hasKeys_22 (by decide) (fun c_2 => ?_) (fun c_2 => ?_)
  · skip
    have nc_2 : 4 * m = 16 := (nI_eq (a := 4 * m) (b := 16) (by omega) (by omega)).mp c_2
    refine R_iload_n (pc := 37) 3 dX12_hasKeys_37 rfl rfl ?_
    refine R_if_eq (pc := 38) (tgt := 50) dX12_hasKeys_38 (by decide) (fun c_3 => ?_) (fun c_3 => absurd (rfl) c_3)
    refine R_aload_n (pc := 50) 2 dX12_hasKeys_50 rfl rfl ?_
    refine R_iconst (pc := 51) (v := 0) dX12_hasKeys_51 (by decide) ?_
    refine R_iconst (pc := 52) (v := 0) dX12_hasKeys_52 (by decide) ?_
    refine R_iload_n (pc := 53) 0 dX12_hasKeys_53 rfl rfl ?_
    refine R_callVh (pc := 54) (μ' := mX12_expand) (As := [.int (nI 0), .int (nI 0), .int (nI (4 * m))]) (st := []) dX12_hasKeys_54 zX12_expand lX12_247 ⟨by decide, by decide⟩ rfl rfl ⟨by decide, by decide⟩ S.obj (by omega) rfl (Nat.le_of_ble_eq_true rfl) (oX12_expand S hn 0 0 m (by omega) (by omega) hm B hB) (fun h_4 r_ q_5 => ?_)
    obtain ⟨ψ_9, rfl, S_6, K_8, J_10, F_7⟩ := q_5
    have k0 : exK ψ_9 B 0 0 m := by
      refine ⟨fun j_ hj_ => ?_, ?_⟩
      · rw [J_10.1, pgB_in _ _ (by omega) (by omega), show 240 * 0 + j_ - 240 * 0 = j_ by omega, K_8 62 (by decide)]
      · rw [J_10.2, updB_s]
    refine R_iload_n (pc := 57) 3 dX12_hasKeys_57 rfl rfl ?_
    refine R_if_eq (pc := 58) (tgt := 68) dX12_hasKeys_58 (by decide) (fun c_11 => ?_) (fun c_11 => absurd (rfl) c_11)
    refine R_iconst (pc := 68) (v := 1) dX12_hasKeys_68 (by decide) ?_
    exact R_zreturn (pc := 69) dX12_hasKeys_69 rfl rfl (by decide) (by decide) ⟨rfl, _, rfl, S_6, ((FR.rf _ _).tr K_8 (by decide)), k0, F_7⟩
  · skip
    have nc_2 : ¬ (4 * m = 16) := fun q_ => c_2 ((nI_eq (a := 4 * m) (b := 16) (by omega) (by omega)).mpr q_)
    refine R_iload_n (pc := 25) 0 dX12_hasKeys_25 rfl rfl ?_
    refine R_bipush (pc := 26) (v := 24) dX12_hasKeys_26 (by decide) ?_
    refine R_icmp_eq (pc := 28) (tgt := 37) dX12_hasKeys_28 (by decide) (fun c_12 => ?_) (fun c_12 => ?_)
    · skip
      have nc_12 : 4 * m = 24 := (nI_eq (a := 4 * m) (b := 24) (by omega) (by omega)).mp c_12
      refine R_iload_n (pc := 37) 3 dX12_hasKeys_37 rfl rfl ?_
      refine R_if_eq (pc := 38) (tgt := 50) dX12_hasKeys_38 (by decide) (fun c_13 => ?_) (fun c_13 => absurd (rfl) c_13)
      refine R_aload_n (pc := 50) 2 dX12_hasKeys_50 rfl rfl ?_
      refine R_iconst (pc := 51) (v := 0) dX12_hasKeys_51 (by decide) ?_
      refine R_iconst (pc := 52) (v := 0) dX12_hasKeys_52 (by decide) ?_
      refine R_iload_n (pc := 53) 0 dX12_hasKeys_53 rfl rfl ?_
      refine R_callVh (pc := 54) (μ' := mX12_expand) (As := [.int (nI 0), .int (nI 0), .int (nI (4 * m))]) (st := []) dX12_hasKeys_54 zX12_expand lX12_247 ⟨by decide, by decide⟩ rfl rfl ⟨by decide, by decide⟩ S.obj (by omega) rfl (Nat.le_of_ble_eq_true rfl) (oX12_expand S hn 0 0 m (by omega) (by omega) hm B hB) (fun h_14 r_ q_15 => ?_)
      obtain ⟨ψ_19, rfl, S_16, K_18, J_20, F_17⟩ := q_15
      have k0 : exK ψ_19 B 0 0 m := by
        refine ⟨fun j_ hj_ => ?_, ?_⟩
        · rw [J_20.1, pgB_in _ _ (by omega) (by omega), show 240 * 0 + j_ - 240 * 0 = j_ by omega, K_18 62 (by decide)]
        · rw [J_20.2, updB_s]
      refine R_iload_n (pc := 57) 3 dX12_hasKeys_57 rfl rfl ?_
      refine R_if_eq (pc := 58) (tgt := 68) dX12_hasKeys_58 (by decide) (fun c_21 => ?_) (fun c_21 => absurd (rfl) c_21)
      refine R_iconst (pc := 68) (v := 1) dX12_hasKeys_68 (by decide) ?_
      exact R_zreturn (pc := 69) dX12_hasKeys_69 rfl rfl (by decide) (by decide) ⟨rfl, _, rfl, S_16, ((FR.rf _ _).tr K_18 (by decide)), k0, F_17⟩
    · skip
      have nc_12 : ¬ (4 * m = 24) := fun q_ => c_12 ((nI_eq (a := 4 * m) (b := 24) (by omega) (by omega)).mpr q_)
      refine R_iload_n (pc := 31) 0 dX12_hasKeys_31 rfl rfl ?_
      refine R_bipush (pc := 32) (v := 32) dX12_hasKeys_32 (by decide) ?_
      refine R_icmp_ne (pc := 34) (tgt := 48) dX12_hasKeys_34 (by decide) (fun c_22 => ?_) (fun c_22 => ?_)
      · skip
        have nc_22 : ¬ (4 * m = 32) := fun q_ => c_22 ((nI_eq (a := 4 * m) (b := 32) (by omega) (by omega)).mpr q_)
        refine R_iconst (pc := 48) (v := 0) dX12_hasKeys_48 (by decide) ?_
        exact absurd hm (by omega)
      · skip
        have nc_22 : 4 * m = 32 := (nI_eq (a := 4 * m) (b := 32) (by omega) (by omega)).mp c_22
        refine R_iload_n (pc := 37) 3 dX12_hasKeys_37 rfl rfl ?_
        refine R_if_eq (pc := 38) (tgt := 50) dX12_hasKeys_38 (by decide) (fun c_23 => ?_) (fun c_23 => absurd (rfl) c_23)
        refine R_aload_n (pc := 50) 2 dX12_hasKeys_50 rfl rfl ?_
        refine R_iconst (pc := 51) (v := 0) dX12_hasKeys_51 (by decide) ?_
        refine R_iconst (pc := 52) (v := 0) dX12_hasKeys_52 (by decide) ?_
        refine R_iload_n (pc := 53) 0 dX12_hasKeys_53 rfl rfl ?_
        refine R_callVh (pc := 54) (μ' := mX12_expand) (As := [.int (nI 0), .int (nI 0), .int (nI (4 * m))]) (st := []) dX12_hasKeys_54 zX12_expand lX12_247 ⟨by decide, by decide⟩ rfl rfl ⟨by decide, by decide⟩ S.obj (by omega) rfl (Nat.le_of_ble_eq_true rfl) (oX12_expand S hn 0 0 m (by omega) (by omega) hm B hB) (fun h_24 r_ q_25 => ?_)
        obtain ⟨ψ_29, rfl, S_26, K_28, J_30, F_27⟩ := q_25
        have k0 : exK ψ_29 B 0 0 m := by
          refine ⟨fun j_ hj_ => ?_, ?_⟩
          · rw [J_30.1, pgB_in _ _ (by omega) (by omega), show 240 * 0 + j_ - 240 * 0 = j_ by omega, K_28 62 (by decide)]
          · rw [J_30.2, updB_s]
        refine R_iload_n (pc := 57) 3 dX12_hasKeys_57 rfl rfl ?_
        refine R_if_eq (pc := 58) (tgt := 68) dX12_hasKeys_58 (by decide) (fun c_31 => ?_) (fun c_31 => absurd (rfl) c_31)
        refine R_iconst (pc := 68) (v := 1) dX12_hasKeys_68 (by decide) ?_
        exact R_zreturn (pc := 69) dX12_hasKeys_69 rfl rfl (by decide) (by decide) ⟨rfl, _, rfl, S_26, ((FR.rf _ _).tr K_28 (by decide)), k0, F_27⟩
set_option maxHeartbeats 1000000 in
set_option maxRecDepth 100000 in
theorem oX12_hasKeys_1N {l : Launch} {w : am_W} {h : am_H} {n : Nat} {ψ : Nat → oA} {z : fA} {i : mI} (S : MO h ψ z i) (hn : 90 ≤ n) (L : Nat) (hz : z 0 = nI L) (hL : L ≤ 64) (hno : ¬ (L % 2 = 0 ∧ (L / 2 = 16 ∨ L / 2 = 24 ∨ L / 2 = 32))) : RH l w mX12_hasKeys h n [.ref 61, .int 1] (oQ h (some (.int 0)) ψ z i) := by
  refine RC.of [(0, .ref 61), (1, .int 1)] (by decide +kernel) rfl (Nat.le_of_ble_eq_true rfl) ?_
  refine R_aload_n (pc := 0) 0 dX12_hasKeys_0 rfl rfl ?_
  refine R_get (pc := 1) dX12_hasKeys_1 fX12_13 S.obj (by omega) rfl ?_
  refine R_iconst (pc := 4) (v := 0) dX12_hasKeys_4 (by decide) ?_
  refine R_iald' (pc := 5) (j := 0) dX12_hasKeys_5 S.siz (by omega) ⟨rfl, by show 0 < 4; omega, by decide⟩ ?_
  refine R_eqi (y := nI L) (hz) ?_
  refine R_istore_n (pc := 6) (lv' := [(2, .int (nI L)), (0, .ref 61), (1, .int 1)]) dX12_hasKeys_6 rfl (by decide) rfl ?_
  refine R_iload_n (pc := 7) 2 dX12_hasKeys_7 rfl rfl ?_
  refine R_if_eq (pc := 8) (tgt := 17) dX12_hasKeys_8 (by decide) (fun c_1 => absurd c_1 (by decide)) (fun c_1 => ?_)
  refine R_iload_n (pc := 11) 0 dX12_hasKeys_11 rfl rfl ?_
  refine R_iconst (pc := 12) (v := 2) dX12_hasKeys_12 (by decide) ?_
  refine R_idiv (pc := 13) dX12_hasKeys_13 (by decide) ?_
  refine R_eqi (y := nI (L / 2)) (nI_div (a := L) (b := 2) (by omega) (by omega)) ?_
  refine R_goto (pc := 14) (tgt := 18) dX12_hasKeys_14 (by decide) ?_
  refine R_istore_n (pc := 18) (lv' := [(3, .int (nI (L / 2))), (2, .int (nI L)), (0, .ref 61), (1, .int 1)]) dX12_hasKeys_18 rfl (by decide) rfl ?_
  refine R_iload_n (pc := 19) 0 dX12_hasKeys_19 rfl rfl ?_
  refine R_bipush (pc := 20) (v := 16) dX12_hasKeys_20 (by decide) ?_
  refine R_icmp_eq (pc := 22) (tgt := 37) dX12_hasKeys_22 (by decide) (fun c_2 => ?_) (fun c_2 => ?_)
  · skip
    have nc_2 : L / 2 = 16 := (nI_eq (a := L / 2) (b := 16) (by omega) (by omega)).mp c_2
    refine R_iload_n (pc := 37) 3 dX12_hasKeys_37 rfl rfl ?_
    refine R_if_eq (pc := 38) (tgt := 50) dX12_hasKeys_38 (by decide) (fun c_3 => absurd c_3 (by decide)) (fun c_3 => ?_)
    refine R_iload_n (pc := 41) 1 dX12_hasKeys_41 rfl rfl ?_
    refine R_iconst (pc := 42) (v := 2) dX12_hasKeys_42 (by decide) ?_
    refine R_irem (pc := 43) dX12_hasKeys_43 (by decide) ?_
    refine R_eqi (y := nI (L % 2)) (nI_rem (a := L) (b := 2) (by omega) (by omega)) ?_
    refine R_iconst (pc := 44) (v := 1) dX12_hasKeys_44 (by decide) ?_
    refine R_icmp_ne (pc := 45) (tgt := 50) dX12_hasKeys_45 (by decide) (fun c_4 => ?_) (fun c_4 => ?_)
    · skip
      have nc_4 : ¬ (L % 2 = 1) := fun q_ => c_4 ((nI_eq (a := L % 2) (b := 1) (by omega) (by omega)).mpr q_)
      exact absurd hno (by omega)
    · skip
      have nc_4 : L % 2 = 1 := (nI_eq (a := L % 2) (b := 1) (by omega) (by omega)).mp c_4
      refine R_iconst (pc := 48) (v := 0) dX12_hasKeys_48 (by decide) ?_
      exact R_zreturn (pc := 49) dX12_hasKeys_49 rfl rfl (by decide) (by decide) ⟨rfl, rfl, S, FM.rf h⟩
  · skip
    have nc_2 : ¬ (L / 2 = 16) := fun q_ => c_2 ((nI_eq (a := L / 2) (b := 16) (by omega) (by omega)).mpr q_)
    refine R_iload_n (pc := 25) 0 dX12_hasKeys_25 rfl rfl ?_
    refine R_bipush (pc := 26) (v := 24) dX12_hasKeys_26 (by decide) ?_
    refine R_icmp_eq (pc := 28) (tgt := 37) dX12_hasKeys_28 (by decide) (fun c_5 => ?_) (fun c_5 => ?_)
    · skip
      have nc_5 : L / 2 = 24 := (nI_eq (a := L / 2) (b := 24) (by omega) (by omega)).mp c_5
      refine R_iload_n (pc := 37) 3 dX12_hasKeys_37 rfl rfl ?_
      refine R_if_eq (pc := 38) (tgt := 50) dX12_hasKeys_38 (by decide) (fun c_6 => absurd c_6 (by decide)) (fun c_6 => ?_)
      refine R_iload_n (pc := 41) 1 dX12_hasKeys_41 rfl rfl ?_
      refine R_iconst (pc := 42) (v := 2) dX12_hasKeys_42 (by decide) ?_
      refine R_irem (pc := 43) dX12_hasKeys_43 (by decide) ?_
      refine R_eqi (y := nI (L % 2)) (nI_rem (a := L) (b := 2) (by omega) (by omega)) ?_
      refine R_iconst (pc := 44) (v := 1) dX12_hasKeys_44 (by decide) ?_
      refine R_icmp_ne (pc := 45) (tgt := 50) dX12_hasKeys_45 (by decide) (fun c_7 => ?_) (fun c_7 => ?_)
      · skip
        have nc_7 : ¬ (L % 2 = 1) := fun q_ => c_7 ((nI_eq (a := L % 2) (b := 1) (by omega) (by omega)).mpr q_)
        exact absurd hno (by omega)
      · skip
        have nc_7 : L % 2 = 1 := (nI_eq (a := L % 2) (b := 1) (by omega) (by omega)).mp c_7
        refine R_iconst (pc := 48) (v := 0) dX12_hasKeys_48 (by decide) ?_
        exact R_zreturn (pc := 49) dX12_hasKeys_49 rfl rfl (by decide) (by decide) ⟨rfl, rfl, S, FM.rf h⟩
    · skip
      have nc_5 : ¬ (L / 2 = 24) := fun q_ => c_5 ((nI_eq (a := L / 2) (b := 24) (by omega) (by omega)).mpr q_)
      refine R_iload_n (pc := 31) 0 dX12_hasKeys_31 rfl rfl ?_
      refine R_bipush (pc := 32) (v := 32) dX12_hasKeys_32 (by decide) ?_
      refine R_icmp_ne (pc := 34) (tgt := 48) dX12_hasKeys_34 (by decide) (fun c_8 => ?_) (fun c_8 => ?_)
      · skip
        have nc_8 : ¬ (L / 2 = 32) := fun q_ => c_8 ((nI_eq (a := L / 2) (b := 32) (by omega) (by omega)).mpr q_)
        refine R_iconst (pc := 48) (v := 0) dX12_hasKeys_48 (by decide) ?_
        exact R_zreturn (pc := 49) dX12_hasKeys_49 rfl rfl (by decide) (by decide) ⟨rfl, rfl, S, FM.rf h⟩
      · skip
        have nc_8 : L / 2 = 32 := (nI_eq (a := L / 2) (b := 32) (by omega) (by omega)).mp c_8
        refine R_iload_n (pc := 37) 3 dX12_hasKeys_37 rfl rfl ?_
        refine R_if_eq (pc := 38) (tgt := 50) dX12_hasKeys_38 (by decide) (fun c_9 => absurd c_9 (by decide)) (fun c_9 => ?_)
        refine R_iload_n (pc := 41) 1 dX12_hasKeys_41 rfl rfl ?_
        refine R_iconst (pc := 42) (v := 2) dX12_hasKeys_42 (by decide) ?_
        refine R_irem (pc := 43) dX12_hasKeys_43 (by decide) ?_
        refine R_eqi (y := nI (L % 2)) (nI_rem (a := L) (b := 2) (by omega) (by omega)) ?_
        refine R_iconst (pc := 44) (v := 1) dX12_hasKeys_44 (by decide) ?_
        refine R_icmp_ne (pc := 45) (tgt := 50) dX12_hasKeys_45 (by decide) (fun c_10 => ?_) (fun c_10 => ?_)
        · skip
          have nc_10 : ¬ (L % 2 = 1) := fun q_ => c_10 ((nI_eq (a := L % 2) (b := 1) (by omega) (by omega)).mpr q_)
          exact absurd hno (by omega)
        · skip
          have nc_10 : L % 2 = 1 := (nI_eq (a := L % 2) (b := 1) (by omega) (by omega)).mp c_10
          refine R_iconst (pc := 48) (v := 0) dX12_hasKeys_48 (by decide) ?_
          exact R_zreturn (pc := 49) dX12_hasKeys_49 rfl rfl (by decide) (by decide) ⟨rfl, rfl, S, FM.rf h⟩
set_option maxHeartbeats 1000000 in
set_option maxRecDepth 100000 in
theorem oX12_hasKeys_1 {l : Launch} {w : am_W} {h : am_H} {n : Nat} {ψ : Nat → oA} {z : fA} {i : mI} (S : MO h ψ z i) (hn : 90 ≤ n) (m : Nat) (hz : z 0 = nI (8 * m)) (hm : m = 4 ∨ m = 6 ∨ m = 8) (B : BitVec 8 → BitVec 8) (hB : ∀ v : BitVec 8, ψ 65 v.toNat = B v) : RH l w mX12_hasKeys h n [.ref 61, .int 1] (fun h2 q => ∃ ψ2, q = some (.int 1) ∧ MO h2 ψ2 z i ∧ FR [67, 68] ψ ψ2 ∧ (exK ψ2 B 0 0 m ∧ exK ψ2 B 1 (4 * m) m) ∧ FM h h2) := by
  refine RC.of [(0, .ref 61), (1, .int 1)] (by decide +kernel) rfl (Nat.le_of_ble_eq_true rfl) ?_
  have hm8 : 4 ≤ m ∧ m ≤ 8 := by omega
  refine R_aload_n (pc := 0) 0 dX12_hasKeys_0 rfl rfl ?_
  refine R_get (pc := 1) dX12_hasKeys_1 fX12_13 S.obj (by omega) rfl ?_
  refine R_iconst (pc := 4) (v := 0) dX12_hasKeys_4 (by decide) ?_
  refine R_iald' (pc := 5) (j := 0) dX12_hasKeys_5 S.siz (by omega) ⟨rfl, by show 0 < 4; omega, by decide⟩ ?_
  refine R_eqi (y := nI (8 * m)) (hz) ?_
  refine R_istore_n (pc := 6) (lv' := [(2, .int (nI (8 * m))), (0, .ref 61), (1, .int 1)]) dX12_hasKeys_6 rfl (by decide) rfl ?_
  refine R_iload_n (pc := 7) 2 dX12_hasKeys_7 rfl rfl ?_
  refine R_if_eq (pc := 8) (tgt := 17) dX12_hasKeys_8 (by decide) (fun c_1 => absurd c_1 (by decide)) (fun c_1 => ?_)
  refine R_iload_n (pc := 11) 0 dX12_hasKeys_11 rfl rfl ?_
  refine R_iconst (pc := 12) (v := 2) dX12_hasKeys_12 (by decide) ?_
  refine R_idiv (pc := 13) dX12_hasKeys_13 (by decide) ?_
  refine R_eqi (y := nI (4 * m)) ((nI_div (a := 8 * m) (b := 2) (by omega) (by omega)).trans (congrArg nI (by omega))) ?_
  refine R_goto (pc := 14) (tgt := 18) dX12_hasKeys_14 (by decide) ?_
  refine R_istore_n (pc := 18) (lv' := [(3, .int (nI (4 * m))), (2, .int (nI (8 * m))), (0, .ref 61), (1, .int 1)]) dX12_hasKeys_18 rfl (by decide) rfl ?_
  refine R_iload_n (pc := 19) 0 dX12_hasKeys_19 rfl rfl ?_
  refine R_bipush (pc := 20) (v := 16) dX12_hasKeys_20 (by decide) ?_
  refine R_icmp_eq (pc := 22) (tgt := 37) dX12_hasKeys_22 (by decide) (fun c_2 => ?_) (fun c_2 => ?_)
  · skip
    have nc_2 : 4 * m = 16 := (nI_eq (a := 4 * m) (b := 16) (by omega) (by omega)).mp c_2
    refine R_iload_n (pc := 37) 3 dX12_hasKeys_37 rfl rfl ?_
    refine R_if_eq (pc := 38) (tgt := 50) dX12_hasKeys_38 (by decide) (fun c_3 => absurd c_3 (by decide)) (fun c_3 => ?_)
    refine R_iload_n (pc := 41) 1 dX12_hasKeys_41 rfl rfl ?_
    refine R_iconst (pc := 42) (v := 2) dX12_hasKeys_42 (by decide) ?_
    refine R_irem (pc := 43) dX12_hasKeys_43 (by decide) ?_
    refine R_eqi (y := nI ((8 * m) % 2)) (nI_rem (a := 8 * m) (b := 2) (by omega) (by omega)) ?_
    refine R_iconst (pc := 44) (v := 1) dX12_hasKeys_44 (by decide) ?_
    refine R_icmp_ne (pc := 45) (tgt := 50) dX12_hasKeys_45 (by decide) (fun c_4 => ?_) (fun c_4 => ?_)
    · skip
      have nc_4 : ¬ ((8 * m) % 2 = 1) := fun q_ => c_4 ((nI_eq (a := (8 * m) % 2) (b := 1) (by omega) (by omega)).mpr q_)
      refine R_aload_n (pc := 50) 2 dX12_hasKeys_50 rfl rfl ?_
      refine R_iconst (pc := 51) (v := 0) dX12_hasKeys_51 (by decide) ?_
      refine R_iconst (pc := 52) (v := 0) dX12_hasKeys_52 (by decide) ?_
      refine R_iload_n (pc := 53) 0 dX12_hasKeys_53 rfl rfl ?_
      refine R_callVh (pc := 54) (μ' := mX12_expand) (As := [.int (nI 0), .int (nI 0), .int (nI (4 * m))]) (st := []) dX12_hasKeys_54 zX12_expand lX12_247 ⟨by decide, by decide⟩ rfl rfl ⟨by decide, by decide⟩ S.obj (by omega) rfl (Nat.le_of_ble_eq_true rfl) (oX12_expand S hn 0 0 m (by omega) (by omega) hm B hB) (fun h_5 r_ q_6 => ?_)
      obtain ⟨ψ_10, rfl, S_7, K_9, J_11, F_8⟩ := q_6
      have k0 : exK ψ_10 B 0 0 m := by
        refine ⟨fun j_ hj_ => ?_, ?_⟩
        · rw [J_11.1, pgB_in _ _ (by omega) (by omega), show 240 * 0 + j_ - 240 * 0 = j_ by omega, K_9 62 (by decide)]
        · rw [J_11.2, updB_s]
      refine R_iload_n (pc := 57) 3 dX12_hasKeys_57 rfl rfl ?_
      refine R_if_eq (pc := 58) (tgt := 68) dX12_hasKeys_58 (by decide) (fun c_12 => absurd c_12 (by decide)) (fun c_12 => ?_)
      refine R_aload_n (pc := 61) 2 dX12_hasKeys_61 rfl rfl ?_
      refine R_iconst (pc := 62) (v := 1) dX12_hasKeys_62 (by decide) ?_
      refine R_iload_n (pc := 63) 0 dX12_hasKeys_63 rfl rfl ?_
      refine R_iload_n (pc := 64) 0 dX12_hasKeys_64 rfl rfl ?_
      refine R_callVh (pc := 65) (μ' := mX12_expand) (As := [.int (nI 1), .int (nI (4 * m)), .int (nI (4 * m))]) (st := []) dX12_hasKeys_65 zX12_expand lX12_247 ⟨by decide, by decide⟩ rfl rfl ⟨by decide, by decide⟩ S_7.obj (by omega) rfl (Nat.le_of_ble_eq_true rfl) (oX12_expand S_7 hn 1 (4 * m) m (by omega) (by omega) hm B (fun v_ => by rw [K_9 65 (by decide)]; exact hB v_)) (fun h_13 r_ q_14 => ?_)
      obtain ⟨ψ_18, rfl, S_15, K_17, J_19, F_16⟩ := q_14
      have k1 : exK ψ_18 B 1 (4 * m) m := by
        refine ⟨fun j_ hj_ => ?_, ?_⟩
        · rw [J_19.1, pgB_in _ _ (by omega) (by omega), show 240 * 1 + j_ - 240 * 1 = j_ by omega, K_17 62 (by decide)]
        · rw [J_19.2, updB_s]
      have k2 : exK ψ_18 B 0 0 m := by
        refine ⟨fun j_ hj_ => ?_, ?_⟩
        · rw [J_19.1, pgB_out _ _ (by omega), k0.1 j_ hj_, K_17 62 (by decide)]
        · rw [J_19.2, updB_n (by omega)]; exact k0.2
      refine R_iconst (pc := 68) (v := 1) dX12_hasKeys_68 (by decide) ?_
      exact R_zreturn (pc := 69) dX12_hasKeys_69 rfl rfl (by decide) (by decide) ⟨rfl, _, rfl, S_15, (((FR.rf _ _).tr K_9 (by decide)).tr K_17 (by decide)), ⟨k2, k1⟩, (F_8.tr F_16)⟩
    · skip
      have nc_4 : (8 * m) % 2 = 1 := (nI_eq (a := (8 * m) % 2) (b := 1) (by omega) (by omega)).mp c_4
      refine R_iconst (pc := 48) (v := 0) dX12_hasKeys_48 (by decide) ?_
      exact absurd hm (by omega)
  · skip
    have nc_2 : ¬ (4 * m = 16) := fun q_ => c_2 ((nI_eq (a := 4 * m) (b := 16) (by omega) (by omega)).mpr q_)
    refine R_iload_n (pc := 25) 0 dX12_hasKeys_25 rfl rfl ?_
    refine R_bipush (pc := 26) (v := 24) dX12_hasKeys_26 (by decide) ?_
    refine R_icmp_eq (pc := 28) (tgt := 37) dX12_hasKeys_28 (by decide) (fun c_20 => ?_) (fun c_20 => ?_)
    · skip
      have nc_20 : 4 * m = 24 := (nI_eq (a := 4 * m) (b := 24) (by omega) (by omega)).mp c_20
      refine R_iload_n (pc := 37) 3 dX12_hasKeys_37 rfl rfl ?_
      refine R_if_eq (pc := 38) (tgt := 50) dX12_hasKeys_38 (by decide) (fun c_21 => absurd c_21 (by decide)) (fun c_21 => ?_)
      refine R_iload_n (pc := 41) 1 dX12_hasKeys_41 rfl rfl ?_
      refine R_iconst (pc := 42) (v := 2) dX12_hasKeys_42 (by decide) ?_
      refine R_irem (pc := 43) dX12_hasKeys_43 (by decide) ?_
      refine R_eqi (y := nI ((8 * m) % 2)) (nI_rem (a := 8 * m) (b := 2) (by omega) (by omega)) ?_
      refine R_iconst (pc := 44) (v := 1) dX12_hasKeys_44 (by decide) ?_
      refine R_icmp_ne (pc := 45) (tgt := 50) dX12_hasKeys_45 (by decide) (fun c_22 => ?_) (fun c_22 => ?_)
      · skip
        have nc_22 : ¬ ((8 * m) % 2 = 1) := fun q_ => c_22 ((nI_eq (a := (8 * m) % 2) (b := 1) (by omega) (by omega)).mpr q_)
        refine R_aload_n (pc := 50) 2 dX12_hasKeys_50 rfl rfl ?_
        refine R_iconst (pc := 51) (v := 0) dX12_hasKeys_51 (by decide) ?_
        refine R_iconst (pc := 52) (v := 0) dX12_hasKeys_52 (by decide) ?_
        refine R_iload_n (pc := 53) 0 dX12_hasKeys_53 rfl rfl ?_
        refine R_callVh (pc := 54) (μ' := mX12_expand) (As := [.int (nI 0), .int (nI 0), .int (nI (4 * m))]) (st := []) dX12_hasKeys_54 zX12_expand lX12_247 ⟨by decide, by decide⟩ rfl rfl ⟨by decide, by decide⟩ S.obj (by omega) rfl (Nat.le_of_ble_eq_true rfl) (oX12_expand S hn 0 0 m (by omega) (by omega) hm B hB) (fun h_23 r_ q_24 => ?_)
        obtain ⟨ψ_28, rfl, S_25, K_27, J_29, F_26⟩ := q_24
        have k0 : exK ψ_28 B 0 0 m := by
          refine ⟨fun j_ hj_ => ?_, ?_⟩
          · rw [J_29.1, pgB_in _ _ (by omega) (by omega), show 240 * 0 + j_ - 240 * 0 = j_ by omega, K_27 62 (by decide)]
          · rw [J_29.2, updB_s]
        refine R_iload_n (pc := 57) 3 dX12_hasKeys_57 rfl rfl ?_
        refine R_if_eq (pc := 58) (tgt := 68) dX12_hasKeys_58 (by decide) (fun c_30 => absurd c_30 (by decide)) (fun c_30 => ?_)
        refine R_aload_n (pc := 61) 2 dX12_hasKeys_61 rfl rfl ?_
        refine R_iconst (pc := 62) (v := 1) dX12_hasKeys_62 (by decide) ?_
        refine R_iload_n (pc := 63) 0 dX12_hasKeys_63 rfl rfl ?_
        refine R_iload_n (pc := 64) 0 dX12_hasKeys_64 rfl rfl ?_
        refine R_callVh (pc := 65) (μ' := mX12_expand) (As := [.int (nI 1), .int (nI (4 * m)), .int (nI (4 * m))]) (st := []) dX12_hasKeys_65 zX12_expand lX12_247 ⟨by decide, by decide⟩ rfl rfl ⟨by decide, by decide⟩ S_25.obj (by omega) rfl (Nat.le_of_ble_eq_true rfl) (oX12_expand S_25 hn 1 (4 * m) m (by omega) (by omega) hm B (fun v_ => by rw [K_27 65 (by decide)]; exact hB v_)) (fun h_31 r_ q_32 => ?_)
        obtain ⟨ψ_36, rfl, S_33, K_35, J_37, F_34⟩ := q_32
        have k1 : exK ψ_36 B 1 (4 * m) m := by
          refine ⟨fun j_ hj_ => ?_, ?_⟩
          · rw [J_37.1, pgB_in _ _ (by omega) (by omega), show 240 * 1 + j_ - 240 * 1 = j_ by omega, K_35 62 (by decide)]
          · rw [J_37.2, updB_s]
        have k2 : exK ψ_36 B 0 0 m := by
          refine ⟨fun j_ hj_ => ?_, ?_⟩
          · rw [J_37.1, pgB_out _ _ (by omega), k0.1 j_ hj_, K_35 62 (by decide)]
          · rw [J_37.2, updB_n (by omega)]; exact k0.2
        refine R_iconst (pc := 68) (v := 1) dX12_hasKeys_68 (by decide) ?_
        exact R_zreturn (pc := 69) dX12_hasKeys_69 rfl rfl (by decide) (by decide) ⟨rfl, _, rfl, S_33, (((FR.rf _ _).tr K_27 (by decide)).tr K_35 (by decide)), ⟨k2, k1⟩, (F_26.tr F_34)⟩
      · skip
        have nc_22 : (8 * m) % 2 = 1 := (nI_eq (a := (8 * m) % 2) (b := 1) (by omega) (by omega)).mp c_22
        refine R_iconst (pc := 48) (v := 0) dX12_hasKeys_48 (by decide) ?_
        exact absurd hm (by omega)
    · skip
      have nc_20 : ¬ (4 * m = 24) := fun q_ => c_20 ((nI_eq (a := 4 * m) (b := 24) (by omega) (by omega)).mpr q_)
      refine R_iload_n (pc := 31) 0 dX12_hasKeys_31 rfl rfl ?_
      refine R_bipush (pc := 32) (v := 32) dX12_hasKeys_32 (by decide) ?_
      refine R_icmp_ne (pc := 34) (tgt := 48) dX12_hasKeys_34 (by decide) (fun c_38 => ?_) (fun c_38 => ?_)
      · skip
        have nc_38 : ¬ (4 * m = 32) := fun q_ => c_38 ((nI_eq (a := 4 * m) (b := 32) (by omega) (by omega)).mpr q_)
        refine R_iconst (pc := 48) (v := 0) dX12_hasKeys_48 (by decide) ?_
        exact absurd hm (by omega)
      · skip
        have nc_38 : 4 * m = 32 := (nI_eq (a := 4 * m) (b := 32) (by omega) (by omega)).mp c_38
        refine R_iload_n (pc := 37) 3 dX12_hasKeys_37 rfl rfl ?_
        refine R_if_eq (pc := 38) (tgt := 50) dX12_hasKeys_38 (by decide) (fun c_39 => absurd c_39 (by decide)) (fun c_39 => ?_)
        refine R_iload_n (pc := 41) 1 dX12_hasKeys_41 rfl rfl ?_
        refine R_iconst (pc := 42) (v := 2) dX12_hasKeys_42 (by decide) ?_
        refine R_irem (pc := 43) dX12_hasKeys_43 (by decide) ?_
        refine R_eqi (y := nI ((8 * m) % 2)) (nI_rem (a := 8 * m) (b := 2) (by omega) (by omega)) ?_
        refine R_iconst (pc := 44) (v := 1) dX12_hasKeys_44 (by decide) ?_
        refine R_icmp_ne (pc := 45) (tgt := 50) dX12_hasKeys_45 (by decide) (fun c_40 => ?_) (fun c_40 => ?_)
        · skip
          have nc_40 : ¬ ((8 * m) % 2 = 1) := fun q_ => c_40 ((nI_eq (a := (8 * m) % 2) (b := 1) (by omega) (by omega)).mpr q_)
          refine R_aload_n (pc := 50) 2 dX12_hasKeys_50 rfl rfl ?_
          refine R_iconst (pc := 51) (v := 0) dX12_hasKeys_51 (by decide) ?_
          refine R_iconst (pc := 52) (v := 0) dX12_hasKeys_52 (by decide) ?_
          refine R_iload_n (pc := 53) 0 dX12_hasKeys_53 rfl rfl ?_
          refine R_callVh (pc := 54) (μ' := mX12_expand) (As := [.int (nI 0), .int (nI 0), .int (nI (4 * m))]) (st := []) dX12_hasKeys_54 zX12_expand lX12_247 ⟨by decide, by decide⟩ rfl rfl ⟨by decide, by decide⟩ S.obj (by omega) rfl (Nat.le_of_ble_eq_true rfl) (oX12_expand S hn 0 0 m (by omega) (by omega) hm B hB) (fun h_41 r_ q_42 => ?_)
          obtain ⟨ψ_46, rfl, S_43, K_45, J_47, F_44⟩ := q_42
          have k0 : exK ψ_46 B 0 0 m := by
            refine ⟨fun j_ hj_ => ?_, ?_⟩
            · rw [J_47.1, pgB_in _ _ (by omega) (by omega), show 240 * 0 + j_ - 240 * 0 = j_ by omega, K_45 62 (by decide)]
            · rw [J_47.2, updB_s]
          refine R_iload_n (pc := 57) 3 dX12_hasKeys_57 rfl rfl ?_
          refine R_if_eq (pc := 58) (tgt := 68) dX12_hasKeys_58 (by decide) (fun c_48 => absurd c_48 (by decide)) (fun c_48 => ?_)
          refine R_aload_n (pc := 61) 2 dX12_hasKeys_61 rfl rfl ?_
          refine R_iconst (pc := 62) (v := 1) dX12_hasKeys_62 (by decide) ?_
          refine R_iload_n (pc := 63) 0 dX12_hasKeys_63 rfl rfl ?_
          refine R_iload_n (pc := 64) 0 dX12_hasKeys_64 rfl rfl ?_
          refine R_callVh (pc := 65) (μ' := mX12_expand) (As := [.int (nI 1), .int (nI (4 * m)), .int (nI (4 * m))]) (st := []) dX12_hasKeys_65 zX12_expand lX12_247 ⟨by decide, by decide⟩ rfl rfl ⟨by decide, by decide⟩ S_43.obj (by omega) rfl (Nat.le_of_ble_eq_true rfl) (oX12_expand S_43 hn 1 (4 * m) m (by omega) (by omega) hm B (fun v_ => by rw [K_45 65 (by decide)]; exact hB v_)) (fun h_49 r_ q_50 => ?_)
          obtain ⟨ψ_54, rfl, S_51, K_53, J_55, F_52⟩ := q_50
          have k1 : exK ψ_54 B 1 (4 * m) m := by
            refine ⟨fun j_ hj_ => ?_, ?_⟩
            · rw [J_55.1, pgB_in _ _ (by omega) (by omega), show 240 * 1 + j_ - 240 * 1 = j_ by omega, K_53 62 (by decide)]
            · rw [J_55.2, updB_s]
          have k2 : exK ψ_54 B 0 0 m := by
            refine ⟨fun j_ hj_ => ?_, ?_⟩
            · rw [J_55.1, pgB_out _ _ (by omega), k0.1 j_ hj_, K_53 62 (by decide)]
            · rw [J_55.2, updB_n (by omega)]; exact k0.2
          refine R_iconst (pc := 68) (v := 1) dX12_hasKeys_68 (by decide) ?_
          exact R_zreturn (pc := 69) dX12_hasKeys_69 rfl rfl (by decide) (by decide) ⟨rfl, _, rfl, S_51, (((FR.rf _ _).tr K_45 (by decide)).tr K_53 (by decide)), ⟨k2, k1⟩, (F_44.tr F_52)⟩
        · skip
          have nc_40 : (8 * m) % 2 = 1 := (nI_eq (a := (8 * m) % 2) (b := 1) (by omega) (by omega)).mp c_40
          refine R_iconst (pc := 48) (v := 0) dX12_hasKeys_48 (by decide) ?_
          exact absurd hm (by omega)
