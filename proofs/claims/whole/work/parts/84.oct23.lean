theorem in_nat {s a b : Nat} (hs : s < 2 ^ 31) (ha : a < 2 ^ 31) (hb : b < 2 ^ 31) : inI (nI s) (nI a) (nI b) = 0 ↔ ¬ (a ≤ s ∧ s ≤ b) := by
  unfold inI
  by_cases h : nI s < nI a
  · rw [if_pos h]
    have := (nI_ltI hs ha).mp h
    exact ⟨fun _ => by omega, fun _ => rfl⟩
  · rw [if_neg h]
    have h1 : ¬ s < a := fun q => h ((nI_ltI hs ha).mpr q)
    by_cases h2 : nI b < nI s
    · rw [if_pos h2]
      have := (nI_ltI hb hs).mp h2
      exact ⟨fun _ => by omega, fun _ => rfl⟩
    · rw [if_neg h2]
      have h3 : ¬ b < s := fun q => h2 ((nI_ltI hb hs).mpr q)
      exact ⟨fun q => absurd q (by decide), fun q => absurd q (by omega)⟩
/-- kind, opens, octets of data and of start, the tag's size -/
def ftP : Nat → Nat → Nat → Nat → Nat → Prop
  | 1, _, m, _, _ => m % 16 = 0
  | 2, _, m, s, _ => m % 16 = 0 ∧ s = 16
  | 3, 0, _, s, _ => s = 16
  | 3, _, m, s, _ => s = 16 ∧ m % 16 = 0 ∧ 16 ≤ m
  | 4, _, m, s, _ => s = 16 ∧ 17 ≤ m
  | 9, _, m, s, _ => s = 16 ∧ 16 ≤ m
  | 10, 0, m, _, _ => m % 8 = 0 ∧ 16 ≤ m
  | 10, _, m, _, _ => m % 8 = 0 ∧ 24 ≤ m
  | 11, 0, m, _, _ => 1 ≤ m
  | 11, _, m, _, _ => m % 8 = 0 ∧ 16 ≤ m
  | 12, 0, _, s, _ => 1 ≤ s
  | 12, _, m, s, t => 1 ≤ s ∧ t ≤ m
  | 13, 0, _, s, t => (7 ≤ s ∧ s ≤ 13) ∧ t % 2 = 0
  | 13, _, m, s, t => (7 ≤ s ∧ s ≤ 13) ∧ t % 2 = 0 ∧ t ≤ m
  | 14, 0, _, _, _ => True
  | 14, _, m, _, t => t ≤ m
  | 15, 0, _, _, _ => True
  | 15, _, m, _, _ => 16 ≤ m
  | 16, 0, _, s, _ => 1 ≤ s ∧ s ≤ 15
  | 16, _, m, s, t => (1 ≤ s ∧ s ≤ 15) ∧ t ≤ m
  | _, _, _, s, _ => s = 16
set_option maxHeartbeats 1000000 in
set_option maxRecDepth 100000 in
theorem oX12_fits_1s {l : Launch} {w : am_W} {h : am_H} {n : Nat} {ψ : Nat → oA} {z : fA} {i : mI} (S : MO h ψ z i) (hn : 90 ≤ n) (m s t : Nat) (hm : m ≤ 512) (hs : s ≤ 64) (ht : t ≤ 16) (hz1 : z 1 = nI m) (hz2 : z 2 = nI s) (hi1 : i 1 = nI t) (hP : ftP 1 0 m s t) : RH l w mX12_fits h n [.ref 61, .int 1, .int 0] (oQ h (some (.int 1)) ψ z i) := by
  refine RC.of [(0, .ref 61), (1, .int 1), (2, .int 0)] (by decide +kernel) rfl (Nat.le_of_ble_eq_true rfl) ?_
  refine R_aload_n (pc := 0) 0 dX12_fits_0 rfl rfl ?_
  refine R_get (pc := 1) dX12_fits_1 fX12_13 S.obj (by omega) rfl ?_
  refine R_iconst (pc := 4) (v := 1) dX12_fits_4 (by decide) ?_
  refine R_iald' (pc := 5) (j := 1) dX12_fits_5 S.siz (by omega) ⟨rfl, by show 1 < 4; omega, by decide⟩ ?_
  refine R_eqi (y := nI m) (hz1) ?_
  refine R_istore_n (pc := 6) (lv' := [(3, .int (nI m)), (0, .ref 61), (1, .int 1), (2, .int 0)]) dX12_fits_6 rfl (by decide) rfl ?_
  refine R_aload_n (pc := 7) 1 dX12_fits_7 rfl rfl ?_
  refine R_get (pc := 8) dX12_fits_8 fX12_13 S.obj (by omega) rfl ?_
  refine R_iconst (pc := 11) (v := 2) dX12_fits_11 (by decide) ?_
  refine R_iald' (pc := 12) (j := 2) dX12_fits_12 S.siz (by omega) ⟨rfl, by show 2 < 4; omega, by decide⟩ ?_
  refine R_eqi (y := nI s) (hz2) ?_
  refine R_istore (pc := 13) (lv' := [(4, .int (nI s)), (3, .int (nI m)), (0, .ref 61), (1, .int 1), (2, .int 0)]) dX12_fits_13 (by decide) rfl ?_
  refine R_iload_n (pc := 15) 3 dX12_fits_15 rfl rfl ?_
  refine R_tableIn (pc := 16) (tgt := 92) dX12_fits_16 (by decide) (by decide) rfl (by decide) ?_
  refine R_iload_n (pc := 92) 1 dX12_fits_92 rfl rfl ?_
  refine R_bipush (pc := 93) (v := 16) dX12_fits_93 (by decide) ?_
  refine R_irem (pc := 95) dX12_fits_95 (by decide) ?_
  refine R_eqi (y := nI (m % 16)) (nI_rem (a := m) (b := 16) (by omega) (by omega)) ?_
  refine R_if_ne (pc := 96) (tgt := 103) dX12_fits_96 (by decide) (fun c_1 => ?_) (fun c_1 => ?_)
  · skip
    have nc_1 : ¬ (m % 16 = 0) := fun q_ => c_1 ((nI_eq (a := m % 16) (b := 0) (by omega) (by omega)).mpr q_)
    refine R_iconst (pc := 103) (v := 0) dX12_fits_103 (by decide) ?_
    exact absurd hP (show ¬ (m % 16 = 0) by omega)
  · skip
    have nc_1 : m % 16 = 0 := (nI_eq (a := m % 16) (b := 0) (by omega) (by omega)).mp c_1
    refine R_iconst (pc := 99) (v := 1) dX12_fits_99 (by decide) ?_
    refine R_goto (pc := 100) (tgt := 104) dX12_fits_100 (by decide) ?_
    exact R_zreturn (pc := 104) dX12_fits_104 rfl rfl (by decide) (by decide) ⟨rfl, rfl, S, FM.rf h⟩
set_option maxHeartbeats 1000000 in
set_option maxRecDepth 100000 in
theorem oX12_fits_1sN {l : Launch} {w : am_W} {h : am_H} {n : Nat} {ψ : Nat → oA} {z : fA} {i : mI} (S : MO h ψ z i) (hn : 90 ≤ n) (m s t : Nat) (hm : m ≤ 512) (hs : s ≤ 64) (ht : t ≤ 16) (hz1 : z 1 = nI m) (hz2 : z 2 = nI s) (hi1 : i 1 = nI t) (hP : ¬ (ftP 1 0 m s t)) : RH l w mX12_fits h n [.ref 61, .int 1, .int 0] (oQ h (some (.int 0)) ψ z i) := by
  refine RC.of [(0, .ref 61), (1, .int 1), (2, .int 0)] (by decide +kernel) rfl (Nat.le_of_ble_eq_true rfl) ?_
  refine R_aload_n (pc := 0) 0 dX12_fits_0 rfl rfl ?_
  refine R_get (pc := 1) dX12_fits_1 fX12_13 S.obj (by omega) rfl ?_
  refine R_iconst (pc := 4) (v := 1) dX12_fits_4 (by decide) ?_
  refine R_iald' (pc := 5) (j := 1) dX12_fits_5 S.siz (by omega) ⟨rfl, by show 1 < 4; omega, by decide⟩ ?_
  refine R_eqi (y := nI m) (hz1) ?_
  refine R_istore_n (pc := 6) (lv' := [(3, .int (nI m)), (0, .ref 61), (1, .int 1), (2, .int 0)]) dX12_fits_6 rfl (by decide) rfl ?_
  refine R_aload_n (pc := 7) 1 dX12_fits_7 rfl rfl ?_
  refine R_get (pc := 8) dX12_fits_8 fX12_13 S.obj (by omega) rfl ?_
  refine R_iconst (pc := 11) (v := 2) dX12_fits_11 (by decide) ?_
  refine R_iald' (pc := 12) (j := 2) dX12_fits_12 S.siz (by omega) ⟨rfl, by show 2 < 4; omega, by decide⟩ ?_
  refine R_eqi (y := nI s) (hz2) ?_
  refine R_istore (pc := 13) (lv' := [(4, .int (nI s)), (3, .int (nI m)), (0, .ref 61), (1, .int 1), (2, .int 0)]) dX12_fits_13 (by decide) rfl ?_
  refine R_iload_n (pc := 15) 3 dX12_fits_15 rfl rfl ?_
  refine R_tableIn (pc := 16) (tgt := 92) dX12_fits_16 (by decide) (by decide) rfl (by decide) ?_
  refine R_iload_n (pc := 92) 1 dX12_fits_92 rfl rfl ?_
  refine R_bipush (pc := 93) (v := 16) dX12_fits_93 (by decide) ?_
  refine R_irem (pc := 95) dX12_fits_95 (by decide) ?_
  refine R_eqi (y := nI (m % 16)) (nI_rem (a := m) (b := 16) (by omega) (by omega)) ?_
  refine R_if_ne (pc := 96) (tgt := 103) dX12_fits_96 (by decide) (fun c_1 => ?_) (fun c_1 => ?_)
  · skip
    have nc_1 : ¬ (m % 16 = 0) := fun q_ => c_1 ((nI_eq (a := m % 16) (b := 0) (by omega) (by omega)).mpr q_)
    refine R_iconst (pc := 103) (v := 0) dX12_fits_103 (by decide) ?_
    exact R_zreturn (pc := 104) dX12_fits_104 rfl rfl (by decide) (by decide) ⟨rfl, rfl, S, FM.rf h⟩
  · skip
    have nc_1 : m % 16 = 0 := (nI_eq (a := m % 16) (b := 0) (by omega) (by omega)).mp c_1
    refine R_iconst (pc := 99) (v := 1) dX12_fits_99 (by decide) ?_
    refine R_goto (pc := 100) (tgt := 104) dX12_fits_100 (by decide) ?_
    exact absurd hP (show ¬ (¬ (m % 16 = 0)) by omega)
set_option maxHeartbeats 1000000 in
set_option maxRecDepth 100000 in
theorem oX12_fits_1o {l : Launch} {w : am_W} {h : am_H} {n : Nat} {ψ : Nat → oA} {z : fA} {i : mI} (S : MO h ψ z i) (hn : 90 ≤ n) (m s t : Nat) (hm : m ≤ 512) (hs : s ≤ 64) (ht : t ≤ 16) (hz1 : z 1 = nI m) (hz2 : z 2 = nI s) (hi1 : i 1 = nI t) (hP : ftP 1 1 m s t) : RH l w mX12_fits h n [.ref 61, .int 1, .int 1] (oQ h (some (.int 1)) ψ z i) := by
  refine RC.of [(0, .ref 61), (1, .int 1), (2, .int 1)] (by decide +kernel) rfl (Nat.le_of_ble_eq_true rfl) ?_
  refine R_aload_n (pc := 0) 0 dX12_fits_0 rfl rfl ?_
  refine R_get (pc := 1) dX12_fits_1 fX12_13 S.obj (by omega) rfl ?_
  refine R_iconst (pc := 4) (v := 1) dX12_fits_4 (by decide) ?_
  refine R_iald' (pc := 5) (j := 1) dX12_fits_5 S.siz (by omega) ⟨rfl, by show 1 < 4; omega, by decide⟩ ?_
  refine R_eqi (y := nI m) (hz1) ?_
  refine R_istore_n (pc := 6) (lv' := [(3, .int (nI m)), (0, .ref 61), (1, .int 1), (2, .int 1)]) dX12_fits_6 rfl (by decide) rfl ?_
  refine R_aload_n (pc := 7) 1 dX12_fits_7 rfl rfl ?_
  refine R_get (pc := 8) dX12_fits_8 fX12_13 S.obj (by omega) rfl ?_
  refine R_iconst (pc := 11) (v := 2) dX12_fits_11 (by decide) ?_
  refine R_iald' (pc := 12) (j := 2) dX12_fits_12 S.siz (by omega) ⟨rfl, by show 2 < 4; omega, by decide⟩ ?_
  refine R_eqi (y := nI s) (hz2) ?_
  refine R_istore (pc := 13) (lv' := [(4, .int (nI s)), (3, .int (nI m)), (0, .ref 61), (1, .int 1), (2, .int 1)]) dX12_fits_13 (by decide) rfl ?_
  refine R_iload_n (pc := 15) 3 dX12_fits_15 rfl rfl ?_
  refine R_tableIn (pc := 16) (tgt := 92) dX12_fits_16 (by decide) (by decide) rfl (by decide) ?_
  refine R_iload_n (pc := 92) 1 dX12_fits_92 rfl rfl ?_
  refine R_bipush (pc := 93) (v := 16) dX12_fits_93 (by decide) ?_
  refine R_irem (pc := 95) dX12_fits_95 (by decide) ?_
  refine R_eqi (y := nI (m % 16)) (nI_rem (a := m) (b := 16) (by omega) (by omega)) ?_
  refine R_if_ne (pc := 96) (tgt := 103) dX12_fits_96 (by decide) (fun c_1 => ?_) (fun c_1 => ?_)
  · skip
    have nc_1 : ¬ (m % 16 = 0) := fun q_ => c_1 ((nI_eq (a := m % 16) (b := 0) (by omega) (by omega)).mpr q_)
    refine R_iconst (pc := 103) (v := 0) dX12_fits_103 (by decide) ?_
    exact absurd hP (show ¬ (m % 16 = 0) by omega)
  · skip
    have nc_1 : m % 16 = 0 := (nI_eq (a := m % 16) (b := 0) (by omega) (by omega)).mp c_1
    refine R_iconst (pc := 99) (v := 1) dX12_fits_99 (by decide) ?_
    refine R_goto (pc := 100) (tgt := 104) dX12_fits_100 (by decide) ?_
    exact R_zreturn (pc := 104) dX12_fits_104 rfl rfl (by decide) (by decide) ⟨rfl, rfl, S, FM.rf h⟩
set_option maxHeartbeats 1000000 in
set_option maxRecDepth 100000 in
theorem oX12_fits_1oN {l : Launch} {w : am_W} {h : am_H} {n : Nat} {ψ : Nat → oA} {z : fA} {i : mI} (S : MO h ψ z i) (hn : 90 ≤ n) (m s t : Nat) (hm : m ≤ 512) (hs : s ≤ 64) (ht : t ≤ 16) (hz1 : z 1 = nI m) (hz2 : z 2 = nI s) (hi1 : i 1 = nI t) (hP : ¬ (ftP 1 1 m s t)) : RH l w mX12_fits h n [.ref 61, .int 1, .int 1] (oQ h (some (.int 0)) ψ z i) := by
  refine RC.of [(0, .ref 61), (1, .int 1), (2, .int 1)] (by decide +kernel) rfl (Nat.le_of_ble_eq_true rfl) ?_
  refine R_aload_n (pc := 0) 0 dX12_fits_0 rfl rfl ?_
  refine R_get (pc := 1) dX12_fits_1 fX12_13 S.obj (by omega) rfl ?_
  refine R_iconst (pc := 4) (v := 1) dX12_fits_4 (by decide) ?_
  refine R_iald' (pc := 5) (j := 1) dX12_fits_5 S.siz (by omega) ⟨rfl, by show 1 < 4; omega, by decide⟩ ?_
  refine R_eqi (y := nI m) (hz1) ?_
  refine R_istore_n (pc := 6) (lv' := [(3, .int (nI m)), (0, .ref 61), (1, .int 1), (2, .int 1)]) dX12_fits_6 rfl (by decide) rfl ?_
  refine R_aload_n (pc := 7) 1 dX12_fits_7 rfl rfl ?_
  refine R_get (pc := 8) dX12_fits_8 fX12_13 S.obj (by omega) rfl ?_
  refine R_iconst (pc := 11) (v := 2) dX12_fits_11 (by decide) ?_
  refine R_iald' (pc := 12) (j := 2) dX12_fits_12 S.siz (by omega) ⟨rfl, by show 2 < 4; omega, by decide⟩ ?_
  refine R_eqi (y := nI s) (hz2) ?_
  refine R_istore (pc := 13) (lv' := [(4, .int (nI s)), (3, .int (nI m)), (0, .ref 61), (1, .int 1), (2, .int 1)]) dX12_fits_13 (by decide) rfl ?_
  refine R_iload_n (pc := 15) 3 dX12_fits_15 rfl rfl ?_
  refine R_tableIn (pc := 16) (tgt := 92) dX12_fits_16 (by decide) (by decide) rfl (by decide) ?_
  refine R_iload_n (pc := 92) 1 dX12_fits_92 rfl rfl ?_
  refine R_bipush (pc := 93) (v := 16) dX12_fits_93 (by decide) ?_
  refine R_irem (pc := 95) dX12_fits_95 (by decide) ?_
  refine R_eqi (y := nI (m % 16)) (nI_rem (a := m) (b := 16) (by omega) (by omega)) ?_
  refine R_if_ne (pc := 96) (tgt := 103) dX12_fits_96 (by decide) (fun c_1 => ?_) (fun c_1 => ?_)
  · skip
    have nc_1 : ¬ (m % 16 = 0) := fun q_ => c_1 ((nI_eq (a := m % 16) (b := 0) (by omega) (by omega)).mpr q_)
    refine R_iconst (pc := 103) (v := 0) dX12_fits_103 (by decide) ?_
    exact R_zreturn (pc := 104) dX12_fits_104 rfl rfl (by decide) (by decide) ⟨rfl, rfl, S, FM.rf h⟩
  · skip
    have nc_1 : m % 16 = 0 := (nI_eq (a := m % 16) (b := 0) (by omega) (by omega)).mp c_1
    refine R_iconst (pc := 99) (v := 1) dX12_fits_99 (by decide) ?_
    refine R_goto (pc := 100) (tgt := 104) dX12_fits_100 (by decide) ?_
    exact absurd hP (show ¬ (¬ (m % 16 = 0)) by omega)
set_option maxHeartbeats 1000000 in
set_option maxRecDepth 100000 in
theorem oX12_fits_2s {l : Launch} {w : am_W} {h : am_H} {n : Nat} {ψ : Nat → oA} {z : fA} {i : mI} (S : MO h ψ z i) (hn : 90 ≤ n) (m s t : Nat) (hm : m ≤ 512) (hs : s ≤ 64) (ht : t ≤ 16) (hz1 : z 1 = nI m) (hz2 : z 2 = nI s) (hi1 : i 1 = nI t) (hP : ftP 2 0 m s t) : RH l w mX12_fits h n [.ref 61, .int 2, .int 0] (oQ h (some (.int 1)) ψ z i) := by
  refine RC.of [(0, .ref 61), (1, .int 2), (2, .int 0)] (by decide +kernel) rfl (Nat.le_of_ble_eq_true rfl) ?_
  refine R_aload_n (pc := 0) 0 dX12_fits_0 rfl rfl ?_
  refine R_get (pc := 1) dX12_fits_1 fX12_13 S.obj (by omega) rfl ?_
  refine R_iconst (pc := 4) (v := 1) dX12_fits_4 (by decide) ?_
  refine R_iald' (pc := 5) (j := 1) dX12_fits_5 S.siz (by omega) ⟨rfl, by show 1 < 4; omega, by decide⟩ ?_
  refine R_eqi (y := nI m) (hz1) ?_
  refine R_istore_n (pc := 6) (lv' := [(3, .int (nI m)), (0, .ref 61), (1, .int 2), (2, .int 0)]) dX12_fits_6 rfl (by decide) rfl ?_
  refine R_aload_n (pc := 7) 1 dX12_fits_7 rfl rfl ?_
  refine R_get (pc := 8) dX12_fits_8 fX12_13 S.obj (by omega) rfl ?_
  refine R_iconst (pc := 11) (v := 2) dX12_fits_11 (by decide) ?_
  refine R_iald' (pc := 12) (j := 2) dX12_fits_12 S.siz (by omega) ⟨rfl, by show 2 < 4; omega, by decide⟩ ?_
  refine R_eqi (y := nI s) (hz2) ?_
  refine R_istore (pc := 13) (lv' := [(4, .int (nI s)), (3, .int (nI m)), (0, .ref 61), (1, .int 2), (2, .int 0)]) dX12_fits_13 (by decide) rfl ?_
  refine R_iload_n (pc := 15) 3 dX12_fits_15 rfl rfl ?_
  refine R_tableIn (pc := 16) (tgt := 105) dX12_fits_16 (by decide) (by decide) rfl (by decide) ?_
  refine R_iload_n (pc := 105) 1 dX12_fits_105 rfl rfl ?_
  refine R_bipush (pc := 106) (v := 16) dX12_fits_106 (by decide) ?_
  refine R_irem (pc := 108) dX12_fits_108 (by decide) ?_
  refine R_eqi (y := nI (m % 16)) (nI_rem (a := m) (b := 16) (by omega) (by omega)) ?_
  refine R_if_ne (pc := 109) (tgt := 123) dX12_fits_109 (by decide) (fun c_1 => ?_) (fun c_1 => ?_)
  · skip
    have nc_1 : ¬ (m % 16 = 0) := fun q_ => c_1 ((nI_eq (a := m % 16) (b := 0) (by omega) (by omega)).mpr q_)
    refine R_iconst (pc := 123) (v := 0) dX12_fits_123 (by decide) ?_
    exact absurd hP (show ¬ (m % 16 = 0 ∧ s = 16) by omega)
  · skip
    have nc_1 : m % 16 = 0 := (nI_eq (a := m % 16) (b := 0) (by omega) (by omega)).mp c_1
    refine R_iload (pc := 112) 0 dX12_fits_112 rfl ?_
    refine R_bipush (pc := 114) (v := 16) dX12_fits_114 (by decide) ?_
    refine R_icmp_ne (pc := 116) (tgt := 123) dX12_fits_116 (by decide) (fun c_2 => ?_) (fun c_2 => ?_)
    · skip
      have nc_2 : ¬ (s = 16) := fun q_ => c_2 ((nI_eq (a := s) (b := 16) (by omega) (by omega)).mpr q_)
      refine R_iconst (pc := 123) (v := 0) dX12_fits_123 (by decide) ?_
      exact absurd hP (show ¬ (m % 16 = 0 ∧ s = 16) by omega)
    · skip
      have nc_2 : s = 16 := (nI_eq (a := s) (b := 16) (by omega) (by omega)).mp c_2
      refine R_iconst (pc := 119) (v := 1) dX12_fits_119 (by decide) ?_
      refine R_goto (pc := 120) (tgt := 124) dX12_fits_120 (by decide) ?_
      exact R_zreturn (pc := 124) dX12_fits_124 rfl rfl (by decide) (by decide) ⟨rfl, rfl, S, FM.rf h⟩
set_option maxHeartbeats 1000000 in
set_option maxRecDepth 100000 in
theorem oX12_fits_2sN {l : Launch} {w : am_W} {h : am_H} {n : Nat} {ψ : Nat → oA} {z : fA} {i : mI} (S : MO h ψ z i) (hn : 90 ≤ n) (m s t : Nat) (hm : m ≤ 512) (hs : s ≤ 64) (ht : t ≤ 16) (hz1 : z 1 = nI m) (hz2 : z 2 = nI s) (hi1 : i 1 = nI t) (hP : ¬ (ftP 2 0 m s t)) : RH l w mX12_fits h n [.ref 61, .int 2, .int 0] (oQ h (some (.int 0)) ψ z i) := by
  refine RC.of [(0, .ref 61), (1, .int 2), (2, .int 0)] (by decide +kernel) rfl (Nat.le_of_ble_eq_true rfl) ?_
  refine R_aload_n (pc := 0) 0 dX12_fits_0 rfl rfl ?_
  refine R_get (pc := 1) dX12_fits_1 fX12_13 S.obj (by omega) rfl ?_
  refine R_iconst (pc := 4) (v := 1) dX12_fits_4 (by decide) ?_
  refine R_iald' (pc := 5) (j := 1) dX12_fits_5 S.siz (by omega) ⟨rfl, by show 1 < 4; omega, by decide⟩ ?_
  refine R_eqi (y := nI m) (hz1) ?_
  refine R_istore_n (pc := 6) (lv' := [(3, .int (nI m)), (0, .ref 61), (1, .int 2), (2, .int 0)]) dX12_fits_6 rfl (by decide) rfl ?_
  refine R_aload_n (pc := 7) 1 dX12_fits_7 rfl rfl ?_
  refine R_get (pc := 8) dX12_fits_8 fX12_13 S.obj (by omega) rfl ?_
  refine R_iconst (pc := 11) (v := 2) dX12_fits_11 (by decide) ?_
  refine R_iald' (pc := 12) (j := 2) dX12_fits_12 S.siz (by omega) ⟨rfl, by show 2 < 4; omega, by decide⟩ ?_
  refine R_eqi (y := nI s) (hz2) ?_
  refine R_istore (pc := 13) (lv' := [(4, .int (nI s)), (3, .int (nI m)), (0, .ref 61), (1, .int 2), (2, .int 0)]) dX12_fits_13 (by decide) rfl ?_
  refine R_iload_n (pc := 15) 3 dX12_fits_15 rfl rfl ?_
  refine R_tableIn (pc := 16) (tgt := 105) dX12_fits_16 (by decide) (by decide) rfl (by decide) ?_
  refine R_iload_n (pc := 105) 1 dX12_fits_105 rfl rfl ?_
  refine R_bipush (pc := 106) (v := 16) dX12_fits_106 (by decide) ?_
  refine R_irem (pc := 108) dX12_fits_108 (by decide) ?_
  refine R_eqi (y := nI (m % 16)) (nI_rem (a := m) (b := 16) (by omega) (by omega)) ?_
  refine R_if_ne (pc := 109) (tgt := 123) dX12_fits_109 (by decide) (fun c_1 => ?_) (fun c_1 => ?_)
  · skip
    have nc_1 : ¬ (m % 16 = 0) := fun q_ => c_1 ((nI_eq (a := m % 16) (b := 0) (by omega) (by omega)).mpr q_)
    refine R_iconst (pc := 123) (v := 0) dX12_fits_123 (by decide) ?_
    exact R_zreturn (pc := 124) dX12_fits_124 rfl rfl (by decide) (by decide) ⟨rfl, rfl, S, FM.rf h⟩
  · skip
    have nc_1 : m % 16 = 0 := (nI_eq (a := m % 16) (b := 0) (by omega) (by omega)).mp c_1
    refine R_iload (pc := 112) 0 dX12_fits_112 rfl ?_
    refine R_bipush (pc := 114) (v := 16) dX12_fits_114 (by decide) ?_
    refine R_icmp_ne (pc := 116) (tgt := 123) dX12_fits_116 (by decide) (fun c_2 => ?_) (fun c_2 => ?_)
    · skip
      have nc_2 : ¬ (s = 16) := fun q_ => c_2 ((nI_eq (a := s) (b := 16) (by omega) (by omega)).mpr q_)
      refine R_iconst (pc := 123) (v := 0) dX12_fits_123 (by decide) ?_
      exact R_zreturn (pc := 124) dX12_fits_124 rfl rfl (by decide) (by decide) ⟨rfl, rfl, S, FM.rf h⟩
    · skip
      have nc_2 : s = 16 := (nI_eq (a := s) (b := 16) (by omega) (by omega)).mp c_2
      refine R_iconst (pc := 119) (v := 1) dX12_fits_119 (by decide) ?_
      refine R_goto (pc := 120) (tgt := 124) dX12_fits_120 (by decide) ?_
      exact absurd hP (show ¬ (¬ (m % 16 = 0 ∧ s = 16)) by omega)
set_option maxHeartbeats 1000000 in
set_option maxRecDepth 100000 in
theorem oX12_fits_2o {l : Launch} {w : am_W} {h : am_H} {n : Nat} {ψ : Nat → oA} {z : fA} {i : mI} (S : MO h ψ z i) (hn : 90 ≤ n) (m s t : Nat) (hm : m ≤ 512) (hs : s ≤ 64) (ht : t ≤ 16) (hz1 : z 1 = nI m) (hz2 : z 2 = nI s) (hi1 : i 1 = nI t) (hP : ftP 2 1 m s t) : RH l w mX12_fits h n [.ref 61, .int 2, .int 1] (oQ h (some (.int 1)) ψ z i) := by
  refine RC.of [(0, .ref 61), (1, .int 2), (2, .int 1)] (by decide +kernel) rfl (Nat.le_of_ble_eq_true rfl) ?_
  refine R_aload_n (pc := 0) 0 dX12_fits_0 rfl rfl ?_
  refine R_get (pc := 1) dX12_fits_1 fX12_13 S.obj (by omega) rfl ?_
  refine R_iconst (pc := 4) (v := 1) dX12_fits_4 (by decide) ?_
  refine R_iald' (pc := 5) (j := 1) dX12_fits_5 S.siz (by omega) ⟨rfl, by show 1 < 4; omega, by decide⟩ ?_
  refine R_eqi (y := nI m) (hz1) ?_
  refine R_istore_n (pc := 6) (lv' := [(3, .int (nI m)), (0, .ref 61), (1, .int 2), (2, .int 1)]) dX12_fits_6 rfl (by decide) rfl ?_
  refine R_aload_n (pc := 7) 1 dX12_fits_7 rfl rfl ?_
  refine R_get (pc := 8) dX12_fits_8 fX12_13 S.obj (by omega) rfl ?_
  refine R_iconst (pc := 11) (v := 2) dX12_fits_11 (by decide) ?_
  refine R_iald' (pc := 12) (j := 2) dX12_fits_12 S.siz (by omega) ⟨rfl, by show 2 < 4; omega, by decide⟩ ?_
  refine R_eqi (y := nI s) (hz2) ?_
  refine R_istore (pc := 13) (lv' := [(4, .int (nI s)), (3, .int (nI m)), (0, .ref 61), (1, .int 2), (2, .int 1)]) dX12_fits_13 (by decide) rfl ?_
  refine R_iload_n (pc := 15) 3 dX12_fits_15 rfl rfl ?_
  refine R_tableIn (pc := 16) (tgt := 105) dX12_fits_16 (by decide) (by decide) rfl (by decide) ?_
  refine R_iload_n (pc := 105) 1 dX12_fits_105 rfl rfl ?_
  refine R_bipush (pc := 106) (v := 16) dX12_fits_106 (by decide) ?_
  refine R_irem (pc := 108) dX12_fits_108 (by decide) ?_
  refine R_eqi (y := nI (m % 16)) (nI_rem (a := m) (b := 16) (by omega) (by omega)) ?_
  refine R_if_ne (pc := 109) (tgt := 123) dX12_fits_109 (by decide) (fun c_1 => ?_) (fun c_1 => ?_)
  · skip
    have nc_1 : ¬ (m % 16 = 0) := fun q_ => c_1 ((nI_eq (a := m % 16) (b := 0) (by omega) (by omega)).mpr q_)
    refine R_iconst (pc := 123) (v := 0) dX12_fits_123 (by decide) ?_
    exact absurd hP (show ¬ (m % 16 = 0 ∧ s = 16) by omega)
  · skip
    have nc_1 : m % 16 = 0 := (nI_eq (a := m % 16) (b := 0) (by omega) (by omega)).mp c_1
    refine R_iload (pc := 112) 0 dX12_fits_112 rfl ?_
    refine R_bipush (pc := 114) (v := 16) dX12_fits_114 (by decide) ?_
    refine R_icmp_ne (pc := 116) (tgt := 123) dX12_fits_116 (by decide) (fun c_2 => ?_) (fun c_2 => ?_)
    · skip
      have nc_2 : ¬ (s = 16) := fun q_ => c_2 ((nI_eq (a := s) (b := 16) (by omega) (by omega)).mpr q_)
      refine R_iconst (pc := 123) (v := 0) dX12_fits_123 (by decide) ?_
      exact absurd hP (show ¬ (m % 16 = 0 ∧ s = 16) by omega)
    · skip
      have nc_2 : s = 16 := (nI_eq (a := s) (b := 16) (by omega) (by omega)).mp c_2
      refine R_iconst (pc := 119) (v := 1) dX12_fits_119 (by decide) ?_
      refine R_goto (pc := 120) (tgt := 124) dX12_fits_120 (by decide) ?_
      exact R_zreturn (pc := 124) dX12_fits_124 rfl rfl (by decide) (by decide) ⟨rfl, rfl, S, FM.rf h⟩
set_option maxHeartbeats 1000000 in
set_option maxRecDepth 100000 in
theorem oX12_fits_2oN {l : Launch} {w : am_W} {h : am_H} {n : Nat} {ψ : Nat → oA} {z : fA} {i : mI} (S : MO h ψ z i) (hn : 90 ≤ n) (m s t : Nat) (hm : m ≤ 512) (hs : s ≤ 64) (ht : t ≤ 16) (hz1 : z 1 = nI m) (hz2 : z 2 = nI s) (hi1 : i 1 = nI t) (hP : ¬ (ftP 2 1 m s t)) : RH l w mX12_fits h n [.ref 61, .int 2, .int 1] (oQ h (some (.int 0)) ψ z i) := by
  refine RC.of [(0, .ref 61), (1, .int 2), (2, .int 1)] (by decide +kernel) rfl (Nat.le_of_ble_eq_true rfl) ?_
  refine R_aload_n (pc := 0) 0 dX12_fits_0 rfl rfl ?_
  refine R_get (pc := 1) dX12_fits_1 fX12_13 S.obj (by omega) rfl ?_
  refine R_iconst (pc := 4) (v := 1) dX12_fits_4 (by decide) ?_
  refine R_iald' (pc := 5) (j := 1) dX12_fits_5 S.siz (by omega) ⟨rfl, by show 1 < 4; omega, by decide⟩ ?_
  refine R_eqi (y := nI m) (hz1) ?_
  refine R_istore_n (pc := 6) (lv' := [(3, .int (nI m)), (0, .ref 61), (1, .int 2), (2, .int 1)]) dX12_fits_6 rfl (by decide) rfl ?_
  refine R_aload_n (pc := 7) 1 dX12_fits_7 rfl rfl ?_
  refine R_get (pc := 8) dX12_fits_8 fX12_13 S.obj (by omega) rfl ?_
  refine R_iconst (pc := 11) (v := 2) dX12_fits_11 (by decide) ?_
  refine R_iald' (pc := 12) (j := 2) dX12_fits_12 S.siz (by omega) ⟨rfl, by show 2 < 4; omega, by decide⟩ ?_
  refine R_eqi (y := nI s) (hz2) ?_
  refine R_istore (pc := 13) (lv' := [(4, .int (nI s)), (3, .int (nI m)), (0, .ref 61), (1, .int 2), (2, .int 1)]) dX12_fits_13 (by decide) rfl ?_
  refine R_iload_n (pc := 15) 3 dX12_fits_15 rfl rfl ?_
  refine R_tableIn (pc := 16) (tgt := 105) dX12_fits_16 (by decide) (by decide) rfl (by decide) ?_
  refine R_iload_n (pc := 105) 1 dX12_fits_105 rfl rfl ?_
  refine R_bipush (pc := 106) (v := 16) dX12_fits_106 (by decide) ?_
  refine R_irem (pc := 108) dX12_fits_108 (by decide) ?_
  refine R_eqi (y := nI (m % 16)) (nI_rem (a := m) (b := 16) (by omega) (by omega)) ?_
  refine R_if_ne (pc := 109) (tgt := 123) dX12_fits_109 (by decide) (fun c_1 => ?_) (fun c_1 => ?_)
  · skip
    have nc_1 : ¬ (m % 16 = 0) := fun q_ => c_1 ((nI_eq (a := m % 16) (b := 0) (by omega) (by omega)).mpr q_)
    refine R_iconst (pc := 123) (v := 0) dX12_fits_123 (by decide) ?_
    exact R_zreturn (pc := 124) dX12_fits_124 rfl rfl (by decide) (by decide) ⟨rfl, rfl, S, FM.rf h⟩
  · skip
    have nc_1 : m % 16 = 0 := (nI_eq (a := m % 16) (b := 0) (by omega) (by omega)).mp c_1
    refine R_iload (pc := 112) 0 dX12_fits_112 rfl ?_
    refine R_bipush (pc := 114) (v := 16) dX12_fits_114 (by decide) ?_
    refine R_icmp_ne (pc := 116) (tgt := 123) dX12_fits_116 (by decide) (fun c_2 => ?_) (fun c_2 => ?_)
    · skip
      have nc_2 : ¬ (s = 16) := fun q_ => c_2 ((nI_eq (a := s) (b := 16) (by omega) (by omega)).mpr q_)
      refine R_iconst (pc := 123) (v := 0) dX12_fits_123 (by decide) ?_
      exact R_zreturn (pc := 124) dX12_fits_124 rfl rfl (by decide) (by decide) ⟨rfl, rfl, S, FM.rf h⟩
    · skip
      have nc_2 : s = 16 := (nI_eq (a := s) (b := 16) (by omega) (by omega)).mp c_2
      refine R_iconst (pc := 119) (v := 1) dX12_fits_119 (by decide) ?_
      refine R_goto (pc := 120) (tgt := 124) dX12_fits_120 (by decide) ?_
      exact absurd hP (show ¬ (¬ (m % 16 = 0 ∧ s = 16)) by omega)
set_option maxHeartbeats 1000000 in
set_option maxRecDepth 100000 in
theorem oX12_fits_3s {l : Launch} {w : am_W} {h : am_H} {n : Nat} {ψ : Nat → oA} {z : fA} {i : mI} (S : MO h ψ z i) (hn : 90 ≤ n) (m s t : Nat) (hm : m ≤ 512) (hs : s ≤ 64) (ht : t ≤ 16) (hz1 : z 1 = nI m) (hz2 : z 2 = nI s) (hi1 : i 1 = nI t) (hP : ftP 3 0 m s t) : RH l w mX12_fits h n [.ref 61, .int 3, .int 0] (oQ h (some (.int 1)) ψ z i) := by
  refine RC.of [(0, .ref 61), (1, .int 3), (2, .int 0)] (by decide +kernel) rfl (Nat.le_of_ble_eq_true rfl) ?_
  refine R_aload_n (pc := 0) 0 dX12_fits_0 rfl rfl ?_
  refine R_get (pc := 1) dX12_fits_1 fX12_13 S.obj (by omega) rfl ?_
  refine R_iconst (pc := 4) (v := 1) dX12_fits_4 (by decide) ?_
  refine R_iald' (pc := 5) (j := 1) dX12_fits_5 S.siz (by omega) ⟨rfl, by show 1 < 4; omega, by decide⟩ ?_
  refine R_eqi (y := nI m) (hz1) ?_
  refine R_istore_n (pc := 6) (lv' := [(3, .int (nI m)), (0, .ref 61), (1, .int 3), (2, .int 0)]) dX12_fits_6 rfl (by decide) rfl ?_
  refine R_aload_n (pc := 7) 1 dX12_fits_7 rfl rfl ?_
  refine R_get (pc := 8) dX12_fits_8 fX12_13 S.obj (by omega) rfl ?_
  refine R_iconst (pc := 11) (v := 2) dX12_fits_11 (by decide) ?_
  refine R_iald' (pc := 12) (j := 2) dX12_fits_12 S.siz (by omega) ⟨rfl, by show 2 < 4; omega, by decide⟩ ?_
  refine R_eqi (y := nI s) (hz2) ?_
  refine R_istore (pc := 13) (lv' := [(4, .int (nI s)), (3, .int (nI m)), (0, .ref 61), (1, .int 3), (2, .int 0)]) dX12_fits_13 (by decide) rfl ?_
  refine R_iload_n (pc := 15) 3 dX12_fits_15 rfl rfl ?_
  refine R_tableIn (pc := 16) (tgt := 125) dX12_fits_16 (by decide) (by decide) rfl (by decide) ?_
  refine R_iload (pc := 125) 0 dX12_fits_125 rfl ?_
  refine R_bipush (pc := 127) (v := 16) dX12_fits_127 (by decide) ?_
  refine R_icmp_ne (pc := 129) (tgt := 153) dX12_fits_129 (by decide) (fun c_1 => ?_) (fun c_1 => ?_)
  · skip
    have nc_1 : ¬ (s = 16) := fun q_ => c_1 ((nI_eq (a := s) (b := 16) (by omega) (by omega)).mpr q_)
    refine R_iconst (pc := 153) (v := 0) dX12_fits_153 (by decide) ?_
    exact absurd hP (show ¬ (s = 16) by omega)
  · skip
    have nc_1 : s = 16 := (nI_eq (a := s) (b := 16) (by omega) (by omega)).mp c_1
    refine R_iload_n (pc := 132) 4 dX12_fits_132 rfl rfl ?_
    refine R_if_eq (pc := 133) (tgt := 149) dX12_fits_133 (by decide) (fun c_2 => ?_) (fun c_2 => absurd (rfl) c_2)
    refine R_iconst (pc := 149) (v := 1) dX12_fits_149 (by decide) ?_
    refine R_goto (pc := 150) (tgt := 154) dX12_fits_150 (by decide) ?_
    exact R_zreturn (pc := 154) dX12_fits_154 rfl rfl (by decide) (by decide) ⟨rfl, rfl, S, FM.rf h⟩
set_option maxHeartbeats 1000000 in
set_option maxRecDepth 100000 in
theorem oX12_fits_3sN {l : Launch} {w : am_W} {h : am_H} {n : Nat} {ψ : Nat → oA} {z : fA} {i : mI} (S : MO h ψ z i) (hn : 90 ≤ n) (m s t : Nat) (hm : m ≤ 512) (hs : s ≤ 64) (ht : t ≤ 16) (hz1 : z 1 = nI m) (hz2 : z 2 = nI s) (hi1 : i 1 = nI t) (hP : ¬ (ftP 3 0 m s t)) : RH l w mX12_fits h n [.ref 61, .int 3, .int 0] (oQ h (some (.int 0)) ψ z i) := by
  refine RC.of [(0, .ref 61), (1, .int 3), (2, .int 0)] (by decide +kernel) rfl (Nat.le_of_ble_eq_true rfl) ?_
  refine R_aload_n (pc := 0) 0 dX12_fits_0 rfl rfl ?_
  refine R_get (pc := 1) dX12_fits_1 fX12_13 S.obj (by omega) rfl ?_
  refine R_iconst (pc := 4) (v := 1) dX12_fits_4 (by decide) ?_
  refine R_iald' (pc := 5) (j := 1) dX12_fits_5 S.siz (by omega) ⟨rfl, by show 1 < 4; omega, by decide⟩ ?_
  refine R_eqi (y := nI m) (hz1) ?_
  refine R_istore_n (pc := 6) (lv' := [(3, .int (nI m)), (0, .ref 61), (1, .int 3), (2, .int 0)]) dX12_fits_6 rfl (by decide) rfl ?_
  refine R_aload_n (pc := 7) 1 dX12_fits_7 rfl rfl ?_
  refine R_get (pc := 8) dX12_fits_8 fX12_13 S.obj (by omega) rfl ?_
  refine R_iconst (pc := 11) (v := 2) dX12_fits_11 (by decide) ?_
  refine R_iald' (pc := 12) (j := 2) dX12_fits_12 S.siz (by omega) ⟨rfl, by show 2 < 4; omega, by decide⟩ ?_
  refine R_eqi (y := nI s) (hz2) ?_
  refine R_istore (pc := 13) (lv' := [(4, .int (nI s)), (3, .int (nI m)), (0, .ref 61), (1, .int 3), (2, .int 0)]) dX12_fits_13 (by decide) rfl ?_
  refine R_iload_n (pc := 15) 3 dX12_fits_15 rfl rfl ?_
  refine R_tableIn (pc := 16) (tgt := 125) dX12_fits_16 (by decide) (by decide) rfl (by decide) ?_
  refine R_iload (pc := 125) 0 dX12_fits_125 rfl ?_
  refine R_bipush (pc := 127) (v := 16) dX12_fits_127 (by decide) ?_
  refine R_icmp_ne (pc := 129) (tgt := 153) dX12_fits_129 (by decide) (fun c_1 => ?_) (fun c_1 => ?_)
  · skip
    have nc_1 : ¬ (s = 16) := fun q_ => c_1 ((nI_eq (a := s) (b := 16) (by omega) (by omega)).mpr q_)
    refine R_iconst (pc := 153) (v := 0) dX12_fits_153 (by decide) ?_
    exact R_zreturn (pc := 154) dX12_fits_154 rfl rfl (by decide) (by decide) ⟨rfl, rfl, S, FM.rf h⟩
  · skip
    have nc_1 : s = 16 := (nI_eq (a := s) (b := 16) (by omega) (by omega)).mp c_1
    refine R_iload_n (pc := 132) 4 dX12_fits_132 rfl rfl ?_
    refine R_if_eq (pc := 133) (tgt := 149) dX12_fits_133 (by decide) (fun c_2 => ?_) (fun c_2 => absurd (rfl) c_2)
    refine R_iconst (pc := 149) (v := 1) dX12_fits_149 (by decide) ?_
    refine R_goto (pc := 150) (tgt := 154) dX12_fits_150 (by decide) ?_
    exact absurd hP (show ¬ (¬ (s = 16)) by omega)
set_option maxHeartbeats 1000000 in
set_option maxRecDepth 100000 in
theorem oX12_fits_3o {l : Launch} {w : am_W} {h : am_H} {n : Nat} {ψ : Nat → oA} {z : fA} {i : mI} (S : MO h ψ z i) (hn : 90 ≤ n) (m s t : Nat) (hm : m ≤ 512) (hs : s ≤ 64) (ht : t ≤ 16) (hz1 : z 1 = nI m) (hz2 : z 2 = nI s) (hi1 : i 1 = nI t) (hP : ftP 3 1 m s t) : RH l w mX12_fits h n [.ref 61, .int 3, .int 1] (oQ h (some (.int 1)) ψ z i) := by
  refine RC.of [(0, .ref 61), (1, .int 3), (2, .int 1)] (by decide +kernel) rfl (Nat.le_of_ble_eq_true rfl) ?_
  refine R_aload_n (pc := 0) 0 dX12_fits_0 rfl rfl ?_
  refine R_get (pc := 1) dX12_fits_1 fX12_13 S.obj (by omega) rfl ?_
  refine R_iconst (pc := 4) (v := 1) dX12_fits_4 (by decide) ?_
  refine R_iald' (pc := 5) (j := 1) dX12_fits_5 S.siz (by omega) ⟨rfl, by show 1 < 4; omega, by decide⟩ ?_
  refine R_eqi (y := nI m) (hz1) ?_
  refine R_istore_n (pc := 6) (lv' := [(3, .int (nI m)), (0, .ref 61), (1, .int 3), (2, .int 1)]) dX12_fits_6 rfl (by decide) rfl ?_
  refine R_aload_n (pc := 7) 1 dX12_fits_7 rfl rfl ?_
  refine R_get (pc := 8) dX12_fits_8 fX12_13 S.obj (by omega) rfl ?_
  refine R_iconst (pc := 11) (v := 2) dX12_fits_11 (by decide) ?_
  refine R_iald' (pc := 12) (j := 2) dX12_fits_12 S.siz (by omega) ⟨rfl, by show 2 < 4; omega, by decide⟩ ?_
  refine R_eqi (y := nI s) (hz2) ?_
  refine R_istore (pc := 13) (lv' := [(4, .int (nI s)), (3, .int (nI m)), (0, .ref 61), (1, .int 3), (2, .int 1)]) dX12_fits_13 (by decide) rfl ?_
  refine R_iload_n (pc := 15) 3 dX12_fits_15 rfl rfl ?_
  refine R_tableIn (pc := 16) (tgt := 125) dX12_fits_16 (by decide) (by decide) rfl (by decide) ?_
  refine R_iload (pc := 125) 0 dX12_fits_125 rfl ?_
  refine R_bipush (pc := 127) (v := 16) dX12_fits_127 (by decide) ?_
  refine R_icmp_ne (pc := 129) (tgt := 153) dX12_fits_129 (by decide) (fun c_1 => ?_) (fun c_1 => ?_)
  · skip
    have nc_1 : ¬ (s = 16) := fun q_ => c_1 ((nI_eq (a := s) (b := 16) (by omega) (by omega)).mpr q_)
    refine R_iconst (pc := 153) (v := 0) dX12_fits_153 (by decide) ?_
    exact absurd hP (show ¬ (s = 16 ∧ m % 16 = 0 ∧ 16 ≤ m) by omega)
  · skip
    have nc_1 : s = 16 := (nI_eq (a := s) (b := 16) (by omega) (by omega)).mp c_1
    refine R_iload_n (pc := 132) 4 dX12_fits_132 rfl rfl ?_
    refine R_if_eq (pc := 133) (tgt := 149) dX12_fits_133 (by decide) (fun c_2 => absurd c_2 (by decide)) (fun c_2 => ?_)
    refine R_iload_n (pc := 136) 1 dX12_fits_136 rfl rfl ?_
    refine R_bipush (pc := 137) (v := 16) dX12_fits_137 (by decide) ?_
    refine R_irem (pc := 139) dX12_fits_139 (by decide) ?_
    refine R_eqi (y := nI (m % 16)) (nI_rem (a := m) (b := 16) (by omega) (by omega)) ?_
    refine R_if_ne (pc := 140) (tgt := 153) dX12_fits_140 (by decide) (fun c_3 => ?_) (fun c_3 => ?_)
    · skip
      have nc_3 : ¬ (m % 16 = 0) := fun q_ => c_3 ((nI_eq (a := m % 16) (b := 0) (by omega) (by omega)).mpr q_)
      refine R_iconst (pc := 153) (v := 0) dX12_fits_153 (by decide) ?_
      exact absurd hP (show ¬ (s = 16 ∧ m % 16 = 0 ∧ 16 ≤ m) by omega)
    · skip
      have nc_3 : m % 16 = 0 := (nI_eq (a := m % 16) (b := 0) (by omega) (by omega)).mp c_3
      refine R_iload_n (pc := 143) 1 dX12_fits_143 rfl rfl ?_
      refine R_bipush (pc := 144) (v := 16) dX12_fits_144 (by decide) ?_
      refine R_icmp_lt (pc := 146) (tgt := 153) dX12_fits_146 (by decide) (fun c_4 => ?_) (fun c_4 => ?_)
      · skip
        have nc_4 : m < 16 := (nI_ltI (a := m) (b := 16) (by omega) (by omega)).mp c_4
        refine R_iconst (pc := 153) (v := 0) dX12_fits_153 (by decide) ?_
        exact absurd hP (show ¬ (s = 16 ∧ m % 16 = 0 ∧ 16 ≤ m) by omega)
      · skip
        have nc_4 : ¬ (m < 16) := fun q_ => c_4 ((nI_ltI (a := m) (b := 16) (by omega) (by omega)).mpr q_)
        refine R_iconst (pc := 149) (v := 1) dX12_fits_149 (by decide) ?_
        refine R_goto (pc := 150) (tgt := 154) dX12_fits_150 (by decide) ?_
        exact R_zreturn (pc := 154) dX12_fits_154 rfl rfl (by decide) (by decide) ⟨rfl, rfl, S, FM.rf h⟩
set_option maxHeartbeats 1000000 in
set_option maxRecDepth 100000 in
theorem oX12_fits_3oN {l : Launch} {w : am_W} {h : am_H} {n : Nat} {ψ : Nat → oA} {z : fA} {i : mI} (S : MO h ψ z i) (hn : 90 ≤ n) (m s t : Nat) (hm : m ≤ 512) (hs : s ≤ 64) (ht : t ≤ 16) (hz1 : z 1 = nI m) (hz2 : z 2 = nI s) (hi1 : i 1 = nI t) (hP : ¬ (ftP 3 1 m s t)) : RH l w mX12_fits h n [.ref 61, .int 3, .int 1] (oQ h (some (.int 0)) ψ z i) := by
  refine RC.of [(0, .ref 61), (1, .int 3), (2, .int 1)] (by decide +kernel) rfl (Nat.le_of_ble_eq_true rfl) ?_
  refine R_aload_n (pc := 0) 0 dX12_fits_0 rfl rfl ?_
  refine R_get (pc := 1) dX12_fits_1 fX12_13 S.obj (by omega) rfl ?_
  refine R_iconst (pc := 4) (v := 1) dX12_fits_4 (by decide) ?_
  refine R_iald' (pc := 5) (j := 1) dX12_fits_5 S.siz (by omega) ⟨rfl, by show 1 < 4; omega, by decide⟩ ?_
  refine R_eqi (y := nI m) (hz1) ?_
  refine R_istore_n (pc := 6) (lv' := [(3, .int (nI m)), (0, .ref 61), (1, .int 3), (2, .int 1)]) dX12_fits_6 rfl (by decide) rfl ?_
  refine R_aload_n (pc := 7) 1 dX12_fits_7 rfl rfl ?_
  refine R_get (pc := 8) dX12_fits_8 fX12_13 S.obj (by omega) rfl ?_
  refine R_iconst (pc := 11) (v := 2) dX12_fits_11 (by decide) ?_
  refine R_iald' (pc := 12) (j := 2) dX12_fits_12 S.siz (by omega) ⟨rfl, by show 2 < 4; omega, by decide⟩ ?_
  refine R_eqi (y := nI s) (hz2) ?_
  refine R_istore (pc := 13) (lv' := [(4, .int (nI s)), (3, .int (nI m)), (0, .ref 61), (1, .int 3), (2, .int 1)]) dX12_fits_13 (by decide) rfl ?_
  refine R_iload_n (pc := 15) 3 dX12_fits_15 rfl rfl ?_
  refine R_tableIn (pc := 16) (tgt := 125) dX12_fits_16 (by decide) (by decide) rfl (by decide) ?_
  refine R_iload (pc := 125) 0 dX12_fits_125 rfl ?_
  refine R_bipush (pc := 127) (v := 16) dX12_fits_127 (by decide) ?_
  refine R_icmp_ne (pc := 129) (tgt := 153) dX12_fits_129 (by decide) (fun c_1 => ?_) (fun c_1 => ?_)
  · skip
    have nc_1 : ¬ (s = 16) := fun q_ => c_1 ((nI_eq (a := s) (b := 16) (by omega) (by omega)).mpr q_)
    refine R_iconst (pc := 153) (v := 0) dX12_fits_153 (by decide) ?_
    exact R_zreturn (pc := 154) dX12_fits_154 rfl rfl (by decide) (by decide) ⟨rfl, rfl, S, FM.rf h⟩
  · skip
    have nc_1 : s = 16 := (nI_eq (a := s) (b := 16) (by omega) (by omega)).mp c_1
    refine R_iload_n (pc := 132) 4 dX12_fits_132 rfl rfl ?_
    refine R_if_eq (pc := 133) (tgt := 149) dX12_fits_133 (by decide) (fun c_2 => absurd c_2 (by decide)) (fun c_2 => ?_)
    refine R_iload_n (pc := 136) 1 dX12_fits_136 rfl rfl ?_
    refine R_bipush (pc := 137) (v := 16) dX12_fits_137 (by decide) ?_
    refine R_irem (pc := 139) dX12_fits_139 (by decide) ?_
    refine R_eqi (y := nI (m % 16)) (nI_rem (a := m) (b := 16) (by omega) (by omega)) ?_
    refine R_if_ne (pc := 140) (tgt := 153) dX12_fits_140 (by decide) (fun c_3 => ?_) (fun c_3 => ?_)
    · skip
      have nc_3 : ¬ (m % 16 = 0) := fun q_ => c_3 ((nI_eq (a := m % 16) (b := 0) (by omega) (by omega)).mpr q_)
      refine R_iconst (pc := 153) (v := 0) dX12_fits_153 (by decide) ?_
      exact R_zreturn (pc := 154) dX12_fits_154 rfl rfl (by decide) (by decide) ⟨rfl, rfl, S, FM.rf h⟩
    · skip
      have nc_3 : m % 16 = 0 := (nI_eq (a := m % 16) (b := 0) (by omega) (by omega)).mp c_3
      refine R_iload_n (pc := 143) 1 dX12_fits_143 rfl rfl ?_
      refine R_bipush (pc := 144) (v := 16) dX12_fits_144 (by decide) ?_
      refine R_icmp_lt (pc := 146) (tgt := 153) dX12_fits_146 (by decide) (fun c_4 => ?_) (fun c_4 => ?_)
      · skip
        have nc_4 : m < 16 := (nI_ltI (a := m) (b := 16) (by omega) (by omega)).mp c_4
        refine R_iconst (pc := 153) (v := 0) dX12_fits_153 (by decide) ?_
        exact R_zreturn (pc := 154) dX12_fits_154 rfl rfl (by decide) (by decide) ⟨rfl, rfl, S, FM.rf h⟩
      · skip
        have nc_4 : ¬ (m < 16) := fun q_ => c_4 ((nI_ltI (a := m) (b := 16) (by omega) (by omega)).mpr q_)
        refine R_iconst (pc := 149) (v := 1) dX12_fits_149 (by decide) ?_
        refine R_goto (pc := 150) (tgt := 154) dX12_fits_150 (by decide) ?_
        exact absurd hP (show ¬ (¬ (s = 16 ∧ m % 16 = 0 ∧ 16 ≤ m)) by omega)
set_option maxHeartbeats 1000000 in
set_option maxRecDepth 100000 in
theorem oX12_fits_4s {l : Launch} {w : am_W} {h : am_H} {n : Nat} {ψ : Nat → oA} {z : fA} {i : mI} (S : MO h ψ z i) (hn : 90 ≤ n) (m s t : Nat) (hm : m ≤ 512) (hs : s ≤ 64) (ht : t ≤ 16) (hz1 : z 1 = nI m) (hz2 : z 2 = nI s) (hi1 : i 1 = nI t) (hP : ftP 4 0 m s t) : RH l w mX12_fits h n [.ref 61, .int 4, .int 0] (oQ h (some (.int 1)) ψ z i) := by
  refine RC.of [(0, .ref 61), (1, .int 4), (2, .int 0)] (by decide +kernel) rfl (Nat.le_of_ble_eq_true rfl) ?_
  refine R_aload_n (pc := 0) 0 dX12_fits_0 rfl rfl ?_
  refine R_get (pc := 1) dX12_fits_1 fX12_13 S.obj (by omega) rfl ?_
  refine R_iconst (pc := 4) (v := 1) dX12_fits_4 (by decide) ?_
  refine R_iald' (pc := 5) (j := 1) dX12_fits_5 S.siz (by omega) ⟨rfl, by show 1 < 4; omega, by decide⟩ ?_
  refine R_eqi (y := nI m) (hz1) ?_
  refine R_istore_n (pc := 6) (lv' := [(3, .int (nI m)), (0, .ref 61), (1, .int 4), (2, .int 0)]) dX12_fits_6 rfl (by decide) rfl ?_
  refine R_aload_n (pc := 7) 1 dX12_fits_7 rfl rfl ?_
  refine R_get (pc := 8) dX12_fits_8 fX12_13 S.obj (by omega) rfl ?_
  refine R_iconst (pc := 11) (v := 2) dX12_fits_11 (by decide) ?_
  refine R_iald' (pc := 12) (j := 2) dX12_fits_12 S.siz (by omega) ⟨rfl, by show 2 < 4; omega, by decide⟩ ?_
  refine R_eqi (y := nI s) (hz2) ?_
  refine R_istore (pc := 13) (lv' := [(4, .int (nI s)), (3, .int (nI m)), (0, .ref 61), (1, .int 4), (2, .int 0)]) dX12_fits_13 (by decide) rfl ?_
  refine R_iload_n (pc := 15) 3 dX12_fits_15 rfl rfl ?_
  refine R_tableIn (pc := 16) (tgt := 155) dX12_fits_16 (by decide) (by decide) rfl (by decide) ?_
  refine R_iload (pc := 155) 0 dX12_fits_155 rfl ?_
  refine R_bipush (pc := 157) (v := 16) dX12_fits_157 (by decide) ?_
  refine R_icmp_ne (pc := 159) (tgt := 172) dX12_fits_159 (by decide) (fun c_1 => ?_) (fun c_1 => ?_)
  · skip
    have nc_1 : ¬ (s = 16) := fun q_ => c_1 ((nI_eq (a := s) (b := 16) (by omega) (by omega)).mpr q_)
    refine R_iconst (pc := 172) (v := 0) dX12_fits_172 (by decide) ?_
    exact absurd hP (show ¬ (s = 16 ∧ 17 ≤ m) by omega)
  · skip
    have nc_1 : s = 16 := (nI_eq (a := s) (b := 16) (by omega) (by omega)).mp c_1
    refine R_iload_n (pc := 162) 1 dX12_fits_162 rfl rfl ?_
    refine R_bipush (pc := 163) (v := 17) dX12_fits_163 (by decide) ?_
    refine R_icmp_lt (pc := 165) (tgt := 172) dX12_fits_165 (by decide) (fun c_2 => ?_) (fun c_2 => ?_)
    · skip
      have nc_2 : m < 17 := (nI_ltI (a := m) (b := 17) (by omega) (by omega)).mp c_2
      refine R_iconst (pc := 172) (v := 0) dX12_fits_172 (by decide) ?_
      exact absurd hP (show ¬ (s = 16 ∧ 17 ≤ m) by omega)
    · skip
      have nc_2 : ¬ (m < 17) := fun q_ => c_2 ((nI_ltI (a := m) (b := 17) (by omega) (by omega)).mpr q_)
      refine R_iconst (pc := 168) (v := 1) dX12_fits_168 (by decide) ?_
      refine R_goto (pc := 169) (tgt := 173) dX12_fits_169 (by decide) ?_
      exact R_zreturn (pc := 173) dX12_fits_173 rfl rfl (by decide) (by decide) ⟨rfl, rfl, S, FM.rf h⟩
set_option maxHeartbeats 1000000 in
set_option maxRecDepth 100000 in
theorem oX12_fits_4sN {l : Launch} {w : am_W} {h : am_H} {n : Nat} {ψ : Nat → oA} {z : fA} {i : mI} (S : MO h ψ z i) (hn : 90 ≤ n) (m s t : Nat) (hm : m ≤ 512) (hs : s ≤ 64) (ht : t ≤ 16) (hz1 : z 1 = nI m) (hz2 : z 2 = nI s) (hi1 : i 1 = nI t) (hP : ¬ (ftP 4 0 m s t)) : RH l w mX12_fits h n [.ref 61, .int 4, .int 0] (oQ h (some (.int 0)) ψ z i) := by
  refine RC.of [(0, .ref 61), (1, .int 4), (2, .int 0)] (by decide +kernel) rfl (Nat.le_of_ble_eq_true rfl) ?_
  refine R_aload_n (pc := 0) 0 dX12_fits_0 rfl rfl ?_
  refine R_get (pc := 1) dX12_fits_1 fX12_13 S.obj (by omega) rfl ?_
  refine R_iconst (pc := 4) (v := 1) dX12_fits_4 (by decide) ?_
  refine R_iald' (pc := 5) (j := 1) dX12_fits_5 S.siz (by omega) ⟨rfl, by show 1 < 4; omega, by decide⟩ ?_
  refine R_eqi (y := nI m) (hz1) ?_
  refine R_istore_n (pc := 6) (lv' := [(3, .int (nI m)), (0, .ref 61), (1, .int 4), (2, .int 0)]) dX12_fits_6 rfl (by decide) rfl ?_
  refine R_aload_n (pc := 7) 1 dX12_fits_7 rfl rfl ?_
  refine R_get (pc := 8) dX12_fits_8 fX12_13 S.obj (by omega) rfl ?_
  refine R_iconst (pc := 11) (v := 2) dX12_fits_11 (by decide) ?_
  refine R_iald' (pc := 12) (j := 2) dX12_fits_12 S.siz (by omega) ⟨rfl, by show 2 < 4; omega, by decide⟩ ?_
  refine R_eqi (y := nI s) (hz2) ?_
  refine R_istore (pc := 13) (lv' := [(4, .int (nI s)), (3, .int (nI m)), (0, .ref 61), (1, .int 4), (2, .int 0)]) dX12_fits_13 (by decide) rfl ?_
  refine R_iload_n (pc := 15) 3 dX12_fits_15 rfl rfl ?_
  refine R_tableIn (pc := 16) (tgt := 155) dX12_fits_16 (by decide) (by decide) rfl (by decide) ?_
  refine R_iload (pc := 155) 0 dX12_fits_155 rfl ?_
  refine R_bipush (pc := 157) (v := 16) dX12_fits_157 (by decide) ?_
  refine R_icmp_ne (pc := 159) (tgt := 172) dX12_fits_159 (by decide) (fun c_1 => ?_) (fun c_1 => ?_)
  · skip
    have nc_1 : ¬ (s = 16) := fun q_ => c_1 ((nI_eq (a := s) (b := 16) (by omega) (by omega)).mpr q_)
    refine R_iconst (pc := 172) (v := 0) dX12_fits_172 (by decide) ?_
    exact R_zreturn (pc := 173) dX12_fits_173 rfl rfl (by decide) (by decide) ⟨rfl, rfl, S, FM.rf h⟩
  · skip
    have nc_1 : s = 16 := (nI_eq (a := s) (b := 16) (by omega) (by omega)).mp c_1
    refine R_iload_n (pc := 162) 1 dX12_fits_162 rfl rfl ?_
    refine R_bipush (pc := 163) (v := 17) dX12_fits_163 (by decide) ?_
    refine R_icmp_lt (pc := 165) (tgt := 172) dX12_fits_165 (by decide) (fun c_2 => ?_) (fun c_2 => ?_)
    · skip
      have nc_2 : m < 17 := (nI_ltI (a := m) (b := 17) (by omega) (by omega)).mp c_2
      refine R_iconst (pc := 172) (v := 0) dX12_fits_172 (by decide) ?_
      exact R_zreturn (pc := 173) dX12_fits_173 rfl rfl (by decide) (by decide) ⟨rfl, rfl, S, FM.rf h⟩
    · skip
      have nc_2 : ¬ (m < 17) := fun q_ => c_2 ((nI_ltI (a := m) (b := 17) (by omega) (by omega)).mpr q_)
      refine R_iconst (pc := 168) (v := 1) dX12_fits_168 (by decide) ?_
      refine R_goto (pc := 169) (tgt := 173) dX12_fits_169 (by decide) ?_
      exact absurd hP (show ¬ (¬ (s = 16 ∧ 17 ≤ m)) by omega)
set_option maxHeartbeats 1000000 in
set_option maxRecDepth 100000 in
theorem oX12_fits_4o {l : Launch} {w : am_W} {h : am_H} {n : Nat} {ψ : Nat → oA} {z : fA} {i : mI} (S : MO h ψ z i) (hn : 90 ≤ n) (m s t : Nat) (hm : m ≤ 512) (hs : s ≤ 64) (ht : t ≤ 16) (hz1 : z 1 = nI m) (hz2 : z 2 = nI s) (hi1 : i 1 = nI t) (hP : ftP 4 1 m s t) : RH l w mX12_fits h n [.ref 61, .int 4, .int 1] (oQ h (some (.int 1)) ψ z i) := by
  refine RC.of [(0, .ref 61), (1, .int 4), (2, .int 1)] (by decide +kernel) rfl (Nat.le_of_ble_eq_true rfl) ?_
  refine R_aload_n (pc := 0) 0 dX12_fits_0 rfl rfl ?_
  refine R_get (pc := 1) dX12_fits_1 fX12_13 S.obj (by omega) rfl ?_
  refine R_iconst (pc := 4) (v := 1) dX12_fits_4 (by decide) ?_
  refine R_iald' (pc := 5) (j := 1) dX12_fits_5 S.siz (by omega) ⟨rfl, by show 1 < 4; omega, by decide⟩ ?_
  refine R_eqi (y := nI m) (hz1) ?_
  refine R_istore_n (pc := 6) (lv' := [(3, .int (nI m)), (0, .ref 61), (1, .int 4), (2, .int 1)]) dX12_fits_6 rfl (by decide) rfl ?_
  refine R_aload_n (pc := 7) 1 dX12_fits_7 rfl rfl ?_
  refine R_get (pc := 8) dX12_fits_8 fX12_13 S.obj (by omega) rfl ?_
  refine R_iconst (pc := 11) (v := 2) dX12_fits_11 (by decide) ?_
  refine R_iald' (pc := 12) (j := 2) dX12_fits_12 S.siz (by omega) ⟨rfl, by show 2 < 4; omega, by decide⟩ ?_
  refine R_eqi (y := nI s) (hz2) ?_
  refine R_istore (pc := 13) (lv' := [(4, .int (nI s)), (3, .int (nI m)), (0, .ref 61), (1, .int 4), (2, .int 1)]) dX12_fits_13 (by decide) rfl ?_
  refine R_iload_n (pc := 15) 3 dX12_fits_15 rfl rfl ?_
  refine R_tableIn (pc := 16) (tgt := 155) dX12_fits_16 (by decide) (by decide) rfl (by decide) ?_
  refine R_iload (pc := 155) 0 dX12_fits_155 rfl ?_
  refine R_bipush (pc := 157) (v := 16) dX12_fits_157 (by decide) ?_
  refine R_icmp_ne (pc := 159) (tgt := 172) dX12_fits_159 (by decide) (fun c_1 => ?_) (fun c_1 => ?_)
  · skip
    have nc_1 : ¬ (s = 16) := fun q_ => c_1 ((nI_eq (a := s) (b := 16) (by omega) (by omega)).mpr q_)
    refine R_iconst (pc := 172) (v := 0) dX12_fits_172 (by decide) ?_
    exact absurd hP (show ¬ (s = 16 ∧ 17 ≤ m) by omega)
  · skip
    have nc_1 : s = 16 := (nI_eq (a := s) (b := 16) (by omega) (by omega)).mp c_1
    refine R_iload_n (pc := 162) 1 dX12_fits_162 rfl rfl ?_
    refine R_bipush (pc := 163) (v := 17) dX12_fits_163 (by decide) ?_
    refine R_icmp_lt (pc := 165) (tgt := 172) dX12_fits_165 (by decide) (fun c_2 => ?_) (fun c_2 => ?_)
    · skip
      have nc_2 : m < 17 := (nI_ltI (a := m) (b := 17) (by omega) (by omega)).mp c_2
      refine R_iconst (pc := 172) (v := 0) dX12_fits_172 (by decide) ?_
      exact absurd hP (show ¬ (s = 16 ∧ 17 ≤ m) by omega)
    · skip
      have nc_2 : ¬ (m < 17) := fun q_ => c_2 ((nI_ltI (a := m) (b := 17) (by omega) (by omega)).mpr q_)
      refine R_iconst (pc := 168) (v := 1) dX12_fits_168 (by decide) ?_
      refine R_goto (pc := 169) (tgt := 173) dX12_fits_169 (by decide) ?_
      exact R_zreturn (pc := 173) dX12_fits_173 rfl rfl (by decide) (by decide) ⟨rfl, rfl, S, FM.rf h⟩
set_option maxHeartbeats 1000000 in
set_option maxRecDepth 100000 in
theorem oX12_fits_4oN {l : Launch} {w : am_W} {h : am_H} {n : Nat} {ψ : Nat → oA} {z : fA} {i : mI} (S : MO h ψ z i) (hn : 90 ≤ n) (m s t : Nat) (hm : m ≤ 512) (hs : s ≤ 64) (ht : t ≤ 16) (hz1 : z 1 = nI m) (hz2 : z 2 = nI s) (hi1 : i 1 = nI t) (hP : ¬ (ftP 4 1 m s t)) : RH l w mX12_fits h n [.ref 61, .int 4, .int 1] (oQ h (some (.int 0)) ψ z i) := by
  refine RC.of [(0, .ref 61), (1, .int 4), (2, .int 1)] (by decide +kernel) rfl (Nat.le_of_ble_eq_true rfl) ?_
  refine R_aload_n (pc := 0) 0 dX12_fits_0 rfl rfl ?_
  refine R_get (pc := 1) dX12_fits_1 fX12_13 S.obj (by omega) rfl ?_
  refine R_iconst (pc := 4) (v := 1) dX12_fits_4 (by decide) ?_
  refine R_iald' (pc := 5) (j := 1) dX12_fits_5 S.siz (by omega) ⟨rfl, by show 1 < 4; omega, by decide⟩ ?_
  refine R_eqi (y := nI m) (hz1) ?_
  refine R_istore_n (pc := 6) (lv' := [(3, .int (nI m)), (0, .ref 61), (1, .int 4), (2, .int 1)]) dX12_fits_6 rfl (by decide) rfl ?_
  refine R_aload_n (pc := 7) 1 dX12_fits_7 rfl rfl ?_
  refine R_get (pc := 8) dX12_fits_8 fX12_13 S.obj (by omega) rfl ?_
  refine R_iconst (pc := 11) (v := 2) dX12_fits_11 (by decide) ?_
  refine R_iald' (pc := 12) (j := 2) dX12_fits_12 S.siz (by omega) ⟨rfl, by show 2 < 4; omega, by decide⟩ ?_
  refine R_eqi (y := nI s) (hz2) ?_
  refine R_istore (pc := 13) (lv' := [(4, .int (nI s)), (3, .int (nI m)), (0, .ref 61), (1, .int 4), (2, .int 1)]) dX12_fits_13 (by decide) rfl ?_
  refine R_iload_n (pc := 15) 3 dX12_fits_15 rfl rfl ?_
  refine R_tableIn (pc := 16) (tgt := 155) dX12_fits_16 (by decide) (by decide) rfl (by decide) ?_
  refine R_iload (pc := 155) 0 dX12_fits_155 rfl ?_
  refine R_bipush (pc := 157) (v := 16) dX12_fits_157 (by decide) ?_
  refine R_icmp_ne (pc := 159) (tgt := 172) dX12_fits_159 (by decide) (fun c_1 => ?_) (fun c_1 => ?_)
  · skip
    have nc_1 : ¬ (s = 16) := fun q_ => c_1 ((nI_eq (a := s) (b := 16) (by omega) (by omega)).mpr q_)
    refine R_iconst (pc := 172) (v := 0) dX12_fits_172 (by decide) ?_
    exact R_zreturn (pc := 173) dX12_fits_173 rfl rfl (by decide) (by decide) ⟨rfl, rfl, S, FM.rf h⟩
  · skip
    have nc_1 : s = 16 := (nI_eq (a := s) (b := 16) (by omega) (by omega)).mp c_1
    refine R_iload_n (pc := 162) 1 dX12_fits_162 rfl rfl ?_
    refine R_bipush (pc := 163) (v := 17) dX12_fits_163 (by decide) ?_
    refine R_icmp_lt (pc := 165) (tgt := 172) dX12_fits_165 (by decide) (fun c_2 => ?_) (fun c_2 => ?_)
    · skip
      have nc_2 : m < 17 := (nI_ltI (a := m) (b := 17) (by omega) (by omega)).mp c_2
      refine R_iconst (pc := 172) (v := 0) dX12_fits_172 (by decide) ?_
      exact R_zreturn (pc := 173) dX12_fits_173 rfl rfl (by decide) (by decide) ⟨rfl, rfl, S, FM.rf h⟩
    · skip
      have nc_2 : ¬ (m < 17) := fun q_ => c_2 ((nI_ltI (a := m) (b := 17) (by omega) (by omega)).mpr q_)
      refine R_iconst (pc := 168) (v := 1) dX12_fits_168 (by decide) ?_
      refine R_goto (pc := 169) (tgt := 173) dX12_fits_169 (by decide) ?_
      exact absurd hP (show ¬ (¬ (s = 16 ∧ 17 ≤ m)) by omega)
set_option maxHeartbeats 1000000 in
set_option maxRecDepth 100000 in
theorem oX12_fits_5s {l : Launch} {w : am_W} {h : am_H} {n : Nat} {ψ : Nat → oA} {z : fA} {i : mI} (S : MO h ψ z i) (hn : 90 ≤ n) (m s t : Nat) (hm : m ≤ 512) (hs : s ≤ 64) (ht : t ≤ 16) (hz1 : z 1 = nI m) (hz2 : z 2 = nI s) (hi1 : i 1 = nI t) (hP : ftP 5 0 m s t) : RH l w mX12_fits h n [.ref 61, .int 5, .int 0] (oQ h (some (.int 1)) ψ z i) := by
  refine RC.of [(0, .ref 61), (1, .int 5), (2, .int 0)] (by decide +kernel) rfl (Nat.le_of_ble_eq_true rfl) ?_
  refine R_aload_n (pc := 0) 0 dX12_fits_0 rfl rfl ?_
  refine R_get (pc := 1) dX12_fits_1 fX12_13 S.obj (by omega) rfl ?_
  refine R_iconst (pc := 4) (v := 1) dX12_fits_4 (by decide) ?_
  refine R_iald' (pc := 5) (j := 1) dX12_fits_5 S.siz (by omega) ⟨rfl, by show 1 < 4; omega, by decide⟩ ?_
  refine R_eqi (y := nI m) (hz1) ?_
  refine R_istore_n (pc := 6) (lv' := [(3, .int (nI m)), (0, .ref 61), (1, .int 5), (2, .int 0)]) dX12_fits_6 rfl (by decide) rfl ?_
  refine R_aload_n (pc := 7) 1 dX12_fits_7 rfl rfl ?_
  refine R_get (pc := 8) dX12_fits_8 fX12_13 S.obj (by omega) rfl ?_
  refine R_iconst (pc := 11) (v := 2) dX12_fits_11 (by decide) ?_
  refine R_iald' (pc := 12) (j := 2) dX12_fits_12 S.siz (by omega) ⟨rfl, by show 2 < 4; omega, by decide⟩ ?_
  refine R_eqi (y := nI s) (hz2) ?_
  refine R_istore (pc := 13) (lv' := [(4, .int (nI s)), (3, .int (nI m)), (0, .ref 61), (1, .int 5), (2, .int 0)]) dX12_fits_13 (by decide) rfl ?_
  refine R_iload_n (pc := 15) 3 dX12_fits_15 rfl rfl ?_
  refine R_tableIn (pc := 16) (tgt := 174) dX12_fits_16 (by decide) (by decide) rfl (by decide) ?_
  refine R_iload (pc := 174) 0 dX12_fits_174 rfl ?_
  refine R_bipush (pc := 176) (v := 16) dX12_fits_176 (by decide) ?_
  refine R_icmp_ne (pc := 178) (tgt := 185) dX12_fits_178 (by decide) (fun c_1 => ?_) (fun c_1 => ?_)
  · skip
    have nc_1 : ¬ (s = 16) := fun q_ => c_1 ((nI_eq (a := s) (b := 16) (by omega) (by omega)).mpr q_)
    refine R_iconst (pc := 185) (v := 0) dX12_fits_185 (by decide) ?_
    exact absurd hP (show ¬ (s = 16) by omega)
  · skip
    have nc_1 : s = 16 := (nI_eq (a := s) (b := 16) (by omega) (by omega)).mp c_1
    refine R_iconst (pc := 181) (v := 1) dX12_fits_181 (by decide) ?_
    refine R_goto (pc := 182) (tgt := 186) dX12_fits_182 (by decide) ?_
    exact R_zreturn (pc := 186) dX12_fits_186 rfl rfl (by decide) (by decide) ⟨rfl, rfl, S, FM.rf h⟩
set_option maxHeartbeats 1000000 in
set_option maxRecDepth 100000 in
theorem oX12_fits_5sN {l : Launch} {w : am_W} {h : am_H} {n : Nat} {ψ : Nat → oA} {z : fA} {i : mI} (S : MO h ψ z i) (hn : 90 ≤ n) (m s t : Nat) (hm : m ≤ 512) (hs : s ≤ 64) (ht : t ≤ 16) (hz1 : z 1 = nI m) (hz2 : z 2 = nI s) (hi1 : i 1 = nI t) (hP : ¬ (ftP 5 0 m s t)) : RH l w mX12_fits h n [.ref 61, .int 5, .int 0] (oQ h (some (.int 0)) ψ z i) := by
  refine RC.of [(0, .ref 61), (1, .int 5), (2, .int 0)] (by decide +kernel) rfl (Nat.le_of_ble_eq_true rfl) ?_
  refine R_aload_n (pc := 0) 0 dX12_fits_0 rfl rfl ?_
  refine R_get (pc := 1) dX12_fits_1 fX12_13 S.obj (by omega) rfl ?_
  refine R_iconst (pc := 4) (v := 1) dX12_fits_4 (by decide) ?_
  refine R_iald' (pc := 5) (j := 1) dX12_fits_5 S.siz (by omega) ⟨rfl, by show 1 < 4; omega, by decide⟩ ?_
  refine R_eqi (y := nI m) (hz1) ?_
  refine R_istore_n (pc := 6) (lv' := [(3, .int (nI m)), (0, .ref 61), (1, .int 5), (2, .int 0)]) dX12_fits_6 rfl (by decide) rfl ?_
  refine R_aload_n (pc := 7) 1 dX12_fits_7 rfl rfl ?_
  refine R_get (pc := 8) dX12_fits_8 fX12_13 S.obj (by omega) rfl ?_
  refine R_iconst (pc := 11) (v := 2) dX12_fits_11 (by decide) ?_
  refine R_iald' (pc := 12) (j := 2) dX12_fits_12 S.siz (by omega) ⟨rfl, by show 2 < 4; omega, by decide⟩ ?_
  refine R_eqi (y := nI s) (hz2) ?_
  refine R_istore (pc := 13) (lv' := [(4, .int (nI s)), (3, .int (nI m)), (0, .ref 61), (1, .int 5), (2, .int 0)]) dX12_fits_13 (by decide) rfl ?_
  refine R_iload_n (pc := 15) 3 dX12_fits_15 rfl rfl ?_
  refine R_tableIn (pc := 16) (tgt := 174) dX12_fits_16 (by decide) (by decide) rfl (by decide) ?_
  refine R_iload (pc := 174) 0 dX12_fits_174 rfl ?_
  refine R_bipush (pc := 176) (v := 16) dX12_fits_176 (by decide) ?_
  refine R_icmp_ne (pc := 178) (tgt := 185) dX12_fits_178 (by decide) (fun c_1 => ?_) (fun c_1 => ?_)
  · skip
    have nc_1 : ¬ (s = 16) := fun q_ => c_1 ((nI_eq (a := s) (b := 16) (by omega) (by omega)).mpr q_)
    refine R_iconst (pc := 185) (v := 0) dX12_fits_185 (by decide) ?_
    exact R_zreturn (pc := 186) dX12_fits_186 rfl rfl (by decide) (by decide) ⟨rfl, rfl, S, FM.rf h⟩
  · skip
    have nc_1 : s = 16 := (nI_eq (a := s) (b := 16) (by omega) (by omega)).mp c_1
    refine R_iconst (pc := 181) (v := 1) dX12_fits_181 (by decide) ?_
    refine R_goto (pc := 182) (tgt := 186) dX12_fits_182 (by decide) ?_
    exact absurd hP (show ¬ (¬ (s = 16)) by omega)
set_option maxHeartbeats 1000000 in
set_option maxRecDepth 100000 in
theorem oX12_fits_5o {l : Launch} {w : am_W} {h : am_H} {n : Nat} {ψ : Nat → oA} {z : fA} {i : mI} (S : MO h ψ z i) (hn : 90 ≤ n) (m s t : Nat) (hm : m ≤ 512) (hs : s ≤ 64) (ht : t ≤ 16) (hz1 : z 1 = nI m) (hz2 : z 2 = nI s) (hi1 : i 1 = nI t) (hP : ftP 5 1 m s t) : RH l w mX12_fits h n [.ref 61, .int 5, .int 1] (oQ h (some (.int 1)) ψ z i) := by
  refine RC.of [(0, .ref 61), (1, .int 5), (2, .int 1)] (by decide +kernel) rfl (Nat.le_of_ble_eq_true rfl) ?_
  refine R_aload_n (pc := 0) 0 dX12_fits_0 rfl rfl ?_
  refine R_get (pc := 1) dX12_fits_1 fX12_13 S.obj (by omega) rfl ?_
  refine R_iconst (pc := 4) (v := 1) dX12_fits_4 (by decide) ?_
  refine R_iald' (pc := 5) (j := 1) dX12_fits_5 S.siz (by omega) ⟨rfl, by show 1 < 4; omega, by decide⟩ ?_
  refine R_eqi (y := nI m) (hz1) ?_
  refine R_istore_n (pc := 6) (lv' := [(3, .int (nI m)), (0, .ref 61), (1, .int 5), (2, .int 1)]) dX12_fits_6 rfl (by decide) rfl ?_
  refine R_aload_n (pc := 7) 1 dX12_fits_7 rfl rfl ?_
  refine R_get (pc := 8) dX12_fits_8 fX12_13 S.obj (by omega) rfl ?_
  refine R_iconst (pc := 11) (v := 2) dX12_fits_11 (by decide) ?_
  refine R_iald' (pc := 12) (j := 2) dX12_fits_12 S.siz (by omega) ⟨rfl, by show 2 < 4; omega, by decide⟩ ?_
  refine R_eqi (y := nI s) (hz2) ?_
  refine R_istore (pc := 13) (lv' := [(4, .int (nI s)), (3, .int (nI m)), (0, .ref 61), (1, .int 5), (2, .int 1)]) dX12_fits_13 (by decide) rfl ?_
  refine R_iload_n (pc := 15) 3 dX12_fits_15 rfl rfl ?_
  refine R_tableIn (pc := 16) (tgt := 174) dX12_fits_16 (by decide) (by decide) rfl (by decide) ?_
  refine R_iload (pc := 174) 0 dX12_fits_174 rfl ?_
  refine R_bipush (pc := 176) (v := 16) dX12_fits_176 (by decide) ?_
  refine R_icmp_ne (pc := 178) (tgt := 185) dX12_fits_178 (by decide) (fun c_1 => ?_) (fun c_1 => ?_)
  · skip
    have nc_1 : ¬ (s = 16) := fun q_ => c_1 ((nI_eq (a := s) (b := 16) (by omega) (by omega)).mpr q_)
    refine R_iconst (pc := 185) (v := 0) dX12_fits_185 (by decide) ?_
    exact absurd hP (show ¬ (s = 16) by omega)
  · skip
    have nc_1 : s = 16 := (nI_eq (a := s) (b := 16) (by omega) (by omega)).mp c_1
    refine R_iconst (pc := 181) (v := 1) dX12_fits_181 (by decide) ?_
    refine R_goto (pc := 182) (tgt := 186) dX12_fits_182 (by decide) ?_
    exact R_zreturn (pc := 186) dX12_fits_186 rfl rfl (by decide) (by decide) ⟨rfl, rfl, S, FM.rf h⟩
set_option maxHeartbeats 1000000 in
set_option maxRecDepth 100000 in
theorem oX12_fits_5oN {l : Launch} {w : am_W} {h : am_H} {n : Nat} {ψ : Nat → oA} {z : fA} {i : mI} (S : MO h ψ z i) (hn : 90 ≤ n) (m s t : Nat) (hm : m ≤ 512) (hs : s ≤ 64) (ht : t ≤ 16) (hz1 : z 1 = nI m) (hz2 : z 2 = nI s) (hi1 : i 1 = nI t) (hP : ¬ (ftP 5 1 m s t)) : RH l w mX12_fits h n [.ref 61, .int 5, .int 1] (oQ h (some (.int 0)) ψ z i) := by
  refine RC.of [(0, .ref 61), (1, .int 5), (2, .int 1)] (by decide +kernel) rfl (Nat.le_of_ble_eq_true rfl) ?_
  refine R_aload_n (pc := 0) 0 dX12_fits_0 rfl rfl ?_
  refine R_get (pc := 1) dX12_fits_1 fX12_13 S.obj (by omega) rfl ?_
  refine R_iconst (pc := 4) (v := 1) dX12_fits_4 (by decide) ?_
  refine R_iald' (pc := 5) (j := 1) dX12_fits_5 S.siz (by omega) ⟨rfl, by show 1 < 4; omega, by decide⟩ ?_
  refine R_eqi (y := nI m) (hz1) ?_
  refine R_istore_n (pc := 6) (lv' := [(3, .int (nI m)), (0, .ref 61), (1, .int 5), (2, .int 1)]) dX12_fits_6 rfl (by decide) rfl ?_
  refine R_aload_n (pc := 7) 1 dX12_fits_7 rfl rfl ?_
  refine R_get (pc := 8) dX12_fits_8 fX12_13 S.obj (by omega) rfl ?_
  refine R_iconst (pc := 11) (v := 2) dX12_fits_11 (by decide) ?_
  refine R_iald' (pc := 12) (j := 2) dX12_fits_12 S.siz (by omega) ⟨rfl, by show 2 < 4; omega, by decide⟩ ?_
  refine R_eqi (y := nI s) (hz2) ?_
  refine R_istore (pc := 13) (lv' := [(4, .int (nI s)), (3, .int (nI m)), (0, .ref 61), (1, .int 5), (2, .int 1)]) dX12_fits_13 (by decide) rfl ?_
  refine R_iload_n (pc := 15) 3 dX12_fits_15 rfl rfl ?_
  refine R_tableIn (pc := 16) (tgt := 174) dX12_fits_16 (by decide) (by decide) rfl (by decide) ?_
  refine R_iload (pc := 174) 0 dX12_fits_174 rfl ?_
  refine R_bipush (pc := 176) (v := 16) dX12_fits_176 (by decide) ?_
  refine R_icmp_ne (pc := 178) (tgt := 185) dX12_fits_178 (by decide) (fun c_1 => ?_) (fun c_1 => ?_)
  · skip
    have nc_1 : ¬ (s = 16) := fun q_ => c_1 ((nI_eq (a := s) (b := 16) (by omega) (by omega)).mpr q_)
    refine R_iconst (pc := 185) (v := 0) dX12_fits_185 (by decide) ?_
    exact R_zreturn (pc := 186) dX12_fits_186 rfl rfl (by decide) (by decide) ⟨rfl, rfl, S, FM.rf h⟩
  · skip
    have nc_1 : s = 16 := (nI_eq (a := s) (b := 16) (by omega) (by omega)).mp c_1
    refine R_iconst (pc := 181) (v := 1) dX12_fits_181 (by decide) ?_
    refine R_goto (pc := 182) (tgt := 186) dX12_fits_182 (by decide) ?_
    exact absurd hP (show ¬ (¬ (s = 16)) by omega)
set_option maxHeartbeats 1000000 in
set_option maxRecDepth 100000 in
theorem oX12_fits_6s {l : Launch} {w : am_W} {h : am_H} {n : Nat} {ψ : Nat → oA} {z : fA} {i : mI} (S : MO h ψ z i) (hn : 90 ≤ n) (m s t : Nat) (hm : m ≤ 512) (hs : s ≤ 64) (ht : t ≤ 16) (hz1 : z 1 = nI m) (hz2 : z 2 = nI s) (hi1 : i 1 = nI t) (hP : ftP 6 0 m s t) : RH l w mX12_fits h n [.ref 61, .int 6, .int 0] (oQ h (some (.int 1)) ψ z i) := by
  refine RC.of [(0, .ref 61), (1, .int 6), (2, .int 0)] (by decide +kernel) rfl (Nat.le_of_ble_eq_true rfl) ?_
  refine R_aload_n (pc := 0) 0 dX12_fits_0 rfl rfl ?_
  refine R_get (pc := 1) dX12_fits_1 fX12_13 S.obj (by omega) rfl ?_
  refine R_iconst (pc := 4) (v := 1) dX12_fits_4 (by decide) ?_
  refine R_iald' (pc := 5) (j := 1) dX12_fits_5 S.siz (by omega) ⟨rfl, by show 1 < 4; omega, by decide⟩ ?_
  refine R_eqi (y := nI m) (hz1) ?_
  refine R_istore_n (pc := 6) (lv' := [(3, .int (nI m)), (0, .ref 61), (1, .int 6), (2, .int 0)]) dX12_fits_6 rfl (by decide) rfl ?_
  refine R_aload_n (pc := 7) 1 dX12_fits_7 rfl rfl ?_
  refine R_get (pc := 8) dX12_fits_8 fX12_13 S.obj (by omega) rfl ?_
  refine R_iconst (pc := 11) (v := 2) dX12_fits_11 (by decide) ?_
  refine R_iald' (pc := 12) (j := 2) dX12_fits_12 S.siz (by omega) ⟨rfl, by show 2 < 4; omega, by decide⟩ ?_
  refine R_eqi (y := nI s) (hz2) ?_
  refine R_istore (pc := 13) (lv' := [(4, .int (nI s)), (3, .int (nI m)), (0, .ref 61), (1, .int 6), (2, .int 0)]) dX12_fits_13 (by decide) rfl ?_
  refine R_iload_n (pc := 15) 3 dX12_fits_15 rfl rfl ?_
  refine R_tableIn (pc := 16) (tgt := 174) dX12_fits_16 (by decide) (by decide) rfl (by decide) ?_
  refine R_iload (pc := 174) 0 dX12_fits_174 rfl ?_
  refine R_bipush (pc := 176) (v := 16) dX12_fits_176 (by decide) ?_
  refine R_icmp_ne (pc := 178) (tgt := 185) dX12_fits_178 (by decide) (fun c_1 => ?_) (fun c_1 => ?_)
  · skip
    have nc_1 : ¬ (s = 16) := fun q_ => c_1 ((nI_eq (a := s) (b := 16) (by omega) (by omega)).mpr q_)
    refine R_iconst (pc := 185) (v := 0) dX12_fits_185 (by decide) ?_
    exact absurd hP (show ¬ (s = 16) by omega)
  · skip
    have nc_1 : s = 16 := (nI_eq (a := s) (b := 16) (by omega) (by omega)).mp c_1
    refine R_iconst (pc := 181) (v := 1) dX12_fits_181 (by decide) ?_
    refine R_goto (pc := 182) (tgt := 186) dX12_fits_182 (by decide) ?_
    exact R_zreturn (pc := 186) dX12_fits_186 rfl rfl (by decide) (by decide) ⟨rfl, rfl, S, FM.rf h⟩
set_option maxHeartbeats 1000000 in
set_option maxRecDepth 100000 in
theorem oX12_fits_6sN {l : Launch} {w : am_W} {h : am_H} {n : Nat} {ψ : Nat → oA} {z : fA} {i : mI} (S : MO h ψ z i) (hn : 90 ≤ n) (m s t : Nat) (hm : m ≤ 512) (hs : s ≤ 64) (ht : t ≤ 16) (hz1 : z 1 = nI m) (hz2 : z 2 = nI s) (hi1 : i 1 = nI t) (hP : ¬ (ftP 6 0 m s t)) : RH l w mX12_fits h n [.ref 61, .int 6, .int 0] (oQ h (some (.int 0)) ψ z i) := by
  refine RC.of [(0, .ref 61), (1, .int 6), (2, .int 0)] (by decide +kernel) rfl (Nat.le_of_ble_eq_true rfl) ?_
  refine R_aload_n (pc := 0) 0 dX12_fits_0 rfl rfl ?_
  refine R_get (pc := 1) dX12_fits_1 fX12_13 S.obj (by omega) rfl ?_
  refine R_iconst (pc := 4) (v := 1) dX12_fits_4 (by decide) ?_
  refine R_iald' (pc := 5) (j := 1) dX12_fits_5 S.siz (by omega) ⟨rfl, by show 1 < 4; omega, by decide⟩ ?_
  refine R_eqi (y := nI m) (hz1) ?_
  refine R_istore_n (pc := 6) (lv' := [(3, .int (nI m)), (0, .ref 61), (1, .int 6), (2, .int 0)]) dX12_fits_6 rfl (by decide) rfl ?_
  refine R_aload_n (pc := 7) 1 dX12_fits_7 rfl rfl ?_
  refine R_get (pc := 8) dX12_fits_8 fX12_13 S.obj (by omega) rfl ?_
  refine R_iconst (pc := 11) (v := 2) dX12_fits_11 (by decide) ?_
  refine R_iald' (pc := 12) (j := 2) dX12_fits_12 S.siz (by omega) ⟨rfl, by show 2 < 4; omega, by decide⟩ ?_
  refine R_eqi (y := nI s) (hz2) ?_
  refine R_istore (pc := 13) (lv' := [(4, .int (nI s)), (3, .int (nI m)), (0, .ref 61), (1, .int 6), (2, .int 0)]) dX12_fits_13 (by decide) rfl ?_
  refine R_iload_n (pc := 15) 3 dX12_fits_15 rfl rfl ?_
  refine R_tableIn (pc := 16) (tgt := 174) dX12_fits_16 (by decide) (by decide) rfl (by decide) ?_
  refine R_iload (pc := 174) 0 dX12_fits_174 rfl ?_
  refine R_bipush (pc := 176) (v := 16) dX12_fits_176 (by decide) ?_
  refine R_icmp_ne (pc := 178) (tgt := 185) dX12_fits_178 (by decide) (fun c_1 => ?_) (fun c_1 => ?_)
  · skip
    have nc_1 : ¬ (s = 16) := fun q_ => c_1 ((nI_eq (a := s) (b := 16) (by omega) (by omega)).mpr q_)
    refine R_iconst (pc := 185) (v := 0) dX12_fits_185 (by decide) ?_
    exact R_zreturn (pc := 186) dX12_fits_186 rfl rfl (by decide) (by decide) ⟨rfl, rfl, S, FM.rf h⟩
  · skip
    have nc_1 : s = 16 := (nI_eq (a := s) (b := 16) (by omega) (by omega)).mp c_1
    refine R_iconst (pc := 181) (v := 1) dX12_fits_181 (by decide) ?_
    refine R_goto (pc := 182) (tgt := 186) dX12_fits_182 (by decide) ?_
    exact absurd hP (show ¬ (¬ (s = 16)) by omega)
set_option maxHeartbeats 1000000 in
set_option maxRecDepth 100000 in
theorem oX12_fits_6o {l : Launch} {w : am_W} {h : am_H} {n : Nat} {ψ : Nat → oA} {z : fA} {i : mI} (S : MO h ψ z i) (hn : 90 ≤ n) (m s t : Nat) (hm : m ≤ 512) (hs : s ≤ 64) (ht : t ≤ 16) (hz1 : z 1 = nI m) (hz2 : z 2 = nI s) (hi1 : i 1 = nI t) (hP : ftP 6 1 m s t) : RH l w mX12_fits h n [.ref 61, .int 6, .int 1] (oQ h (some (.int 1)) ψ z i) := by
  refine RC.of [(0, .ref 61), (1, .int 6), (2, .int 1)] (by decide +kernel) rfl (Nat.le_of_ble_eq_true rfl) ?_
  refine R_aload_n (pc := 0) 0 dX12_fits_0 rfl rfl ?_
  refine R_get (pc := 1) dX12_fits_1 fX12_13 S.obj (by omega) rfl ?_
  refine R_iconst (pc := 4) (v := 1) dX12_fits_4 (by decide) ?_
  refine R_iald' (pc := 5) (j := 1) dX12_fits_5 S.siz (by omega) ⟨rfl, by show 1 < 4; omega, by decide⟩ ?_
  refine R_eqi (y := nI m) (hz1) ?_
  refine R_istore_n (pc := 6) (lv' := [(3, .int (nI m)), (0, .ref 61), (1, .int 6), (2, .int 1)]) dX12_fits_6 rfl (by decide) rfl ?_
  refine R_aload_n (pc := 7) 1 dX12_fits_7 rfl rfl ?_
  refine R_get (pc := 8) dX12_fits_8 fX12_13 S.obj (by omega) rfl ?_
  refine R_iconst (pc := 11) (v := 2) dX12_fits_11 (by decide) ?_
  refine R_iald' (pc := 12) (j := 2) dX12_fits_12 S.siz (by omega) ⟨rfl, by show 2 < 4; omega, by decide⟩ ?_
  refine R_eqi (y := nI s) (hz2) ?_
  refine R_istore (pc := 13) (lv' := [(4, .int (nI s)), (3, .int (nI m)), (0, .ref 61), (1, .int 6), (2, .int 1)]) dX12_fits_13 (by decide) rfl ?_
  refine R_iload_n (pc := 15) 3 dX12_fits_15 rfl rfl ?_
  refine R_tableIn (pc := 16) (tgt := 174) dX12_fits_16 (by decide) (by decide) rfl (by decide) ?_
  refine R_iload (pc := 174) 0 dX12_fits_174 rfl ?_
  refine R_bipush (pc := 176) (v := 16) dX12_fits_176 (by decide) ?_
  refine R_icmp_ne (pc := 178) (tgt := 185) dX12_fits_178 (by decide) (fun c_1 => ?_) (fun c_1 => ?_)
  · skip
    have nc_1 : ¬ (s = 16) := fun q_ => c_1 ((nI_eq (a := s) (b := 16) (by omega) (by omega)).mpr q_)
    refine R_iconst (pc := 185) (v := 0) dX12_fits_185 (by decide) ?_
    exact absurd hP (show ¬ (s = 16) by omega)
  · skip
    have nc_1 : s = 16 := (nI_eq (a := s) (b := 16) (by omega) (by omega)).mp c_1
    refine R_iconst (pc := 181) (v := 1) dX12_fits_181 (by decide) ?_
    refine R_goto (pc := 182) (tgt := 186) dX12_fits_182 (by decide) ?_
    exact R_zreturn (pc := 186) dX12_fits_186 rfl rfl (by decide) (by decide) ⟨rfl, rfl, S, FM.rf h⟩
set_option maxHeartbeats 1000000 in
set_option maxRecDepth 100000 in
theorem oX12_fits_6oN {l : Launch} {w : am_W} {h : am_H} {n : Nat} {ψ : Nat → oA} {z : fA} {i : mI} (S : MO h ψ z i) (hn : 90 ≤ n) (m s t : Nat) (hm : m ≤ 512) (hs : s ≤ 64) (ht : t ≤ 16) (hz1 : z 1 = nI m) (hz2 : z 2 = nI s) (hi1 : i 1 = nI t) (hP : ¬ (ftP 6 1 m s t)) : RH l w mX12_fits h n [.ref 61, .int 6, .int 1] (oQ h (some (.int 0)) ψ z i) := by
  refine RC.of [(0, .ref 61), (1, .int 6), (2, .int 1)] (by decide +kernel) rfl (Nat.le_of_ble_eq_true rfl) ?_
  refine R_aload_n (pc := 0) 0 dX12_fits_0 rfl rfl ?_
  refine R_get (pc := 1) dX12_fits_1 fX12_13 S.obj (by omega) rfl ?_
  refine R_iconst (pc := 4) (v := 1) dX12_fits_4 (by decide) ?_
  refine R_iald' (pc := 5) (j := 1) dX12_fits_5 S.siz (by omega) ⟨rfl, by show 1 < 4; omega, by decide⟩ ?_
  refine R_eqi (y := nI m) (hz1) ?_
  refine R_istore_n (pc := 6) (lv' := [(3, .int (nI m)), (0, .ref 61), (1, .int 6), (2, .int 1)]) dX12_fits_6 rfl (by decide) rfl ?_
  refine R_aload_n (pc := 7) 1 dX12_fits_7 rfl rfl ?_
  refine R_get (pc := 8) dX12_fits_8 fX12_13 S.obj (by omega) rfl ?_
  refine R_iconst (pc := 11) (v := 2) dX12_fits_11 (by decide) ?_
  refine R_iald' (pc := 12) (j := 2) dX12_fits_12 S.siz (by omega) ⟨rfl, by show 2 < 4; omega, by decide⟩ ?_
  refine R_eqi (y := nI s) (hz2) ?_
  refine R_istore (pc := 13) (lv' := [(4, .int (nI s)), (3, .int (nI m)), (0, .ref 61), (1, .int 6), (2, .int 1)]) dX12_fits_13 (by decide) rfl ?_
  refine R_iload_n (pc := 15) 3 dX12_fits_15 rfl rfl ?_
  refine R_tableIn (pc := 16) (tgt := 174) dX12_fits_16 (by decide) (by decide) rfl (by decide) ?_
  refine R_iload (pc := 174) 0 dX12_fits_174 rfl ?_
  refine R_bipush (pc := 176) (v := 16) dX12_fits_176 (by decide) ?_
  refine R_icmp_ne (pc := 178) (tgt := 185) dX12_fits_178 (by decide) (fun c_1 => ?_) (fun c_1 => ?_)
  · skip
    have nc_1 : ¬ (s = 16) := fun q_ => c_1 ((nI_eq (a := s) (b := 16) (by omega) (by omega)).mpr q_)
    refine R_iconst (pc := 185) (v := 0) dX12_fits_185 (by decide) ?_
    exact R_zreturn (pc := 186) dX12_fits_186 rfl rfl (by decide) (by decide) ⟨rfl, rfl, S, FM.rf h⟩
  · skip
    have nc_1 : s = 16 := (nI_eq (a := s) (b := 16) (by omega) (by omega)).mp c_1
    refine R_iconst (pc := 181) (v := 1) dX12_fits_181 (by decide) ?_
    refine R_goto (pc := 182) (tgt := 186) dX12_fits_182 (by decide) ?_
    exact absurd hP (show ¬ (¬ (s = 16)) by omega)
set_option maxHeartbeats 1000000 in
set_option maxRecDepth 100000 in
theorem oX12_fits_7s {l : Launch} {w : am_W} {h : am_H} {n : Nat} {ψ : Nat → oA} {z : fA} {i : mI} (S : MO h ψ z i) (hn : 90 ≤ n) (m s t : Nat) (hm : m ≤ 512) (hs : s ≤ 64) (ht : t ≤ 16) (hz1 : z 1 = nI m) (hz2 : z 2 = nI s) (hi1 : i 1 = nI t) (hP : ftP 7 0 m s t) : RH l w mX12_fits h n [.ref 61, .int 7, .int 0] (oQ h (some (.int 1)) ψ z i) := by
  refine RC.of [(0, .ref 61), (1, .int 7), (2, .int 0)] (by decide +kernel) rfl (Nat.le_of_ble_eq_true rfl) ?_
  refine R_aload_n (pc := 0) 0 dX12_fits_0 rfl rfl ?_
  refine R_get (pc := 1) dX12_fits_1 fX12_13 S.obj (by omega) rfl ?_
  refine R_iconst (pc := 4) (v := 1) dX12_fits_4 (by decide) ?_
  refine R_iald' (pc := 5) (j := 1) dX12_fits_5 S.siz (by omega) ⟨rfl, by show 1 < 4; omega, by decide⟩ ?_
  refine R_eqi (y := nI m) (hz1) ?_
  refine R_istore_n (pc := 6) (lv' := [(3, .int (nI m)), (0, .ref 61), (1, .int 7), (2, .int 0)]) dX12_fits_6 rfl (by decide) rfl ?_
  refine R_aload_n (pc := 7) 1 dX12_fits_7 rfl rfl ?_
  refine R_get (pc := 8) dX12_fits_8 fX12_13 S.obj (by omega) rfl ?_
  refine R_iconst (pc := 11) (v := 2) dX12_fits_11 (by decide) ?_
  refine R_iald' (pc := 12) (j := 2) dX12_fits_12 S.siz (by omega) ⟨rfl, by show 2 < 4; omega, by decide⟩ ?_
  refine R_eqi (y := nI s) (hz2) ?_
  refine R_istore (pc := 13) (lv' := [(4, .int (nI s)), (3, .int (nI m)), (0, .ref 61), (1, .int 7), (2, .int 0)]) dX12_fits_13 (by decide) rfl ?_
  refine R_iload_n (pc := 15) 3 dX12_fits_15 rfl rfl ?_
  refine R_tableIn (pc := 16) (tgt := 174) dX12_fits_16 (by decide) (by decide) rfl (by decide) ?_
  refine R_iload (pc := 174) 0 dX12_fits_174 rfl ?_
  refine R_bipush (pc := 176) (v := 16) dX12_fits_176 (by decide) ?_
  refine R_icmp_ne (pc := 178) (tgt := 185) dX12_fits_178 (by decide) (fun c_1 => ?_) (fun c_1 => ?_)
  · skip
    have nc_1 : ¬ (s = 16) := fun q_ => c_1 ((nI_eq (a := s) (b := 16) (by omega) (by omega)).mpr q_)
    refine R_iconst (pc := 185) (v := 0) dX12_fits_185 (by decide) ?_
    exact absurd hP (show ¬ (s = 16) by omega)
  · skip
    have nc_1 : s = 16 := (nI_eq (a := s) (b := 16) (by omega) (by omega)).mp c_1
    refine R_iconst (pc := 181) (v := 1) dX12_fits_181 (by decide) ?_
    refine R_goto (pc := 182) (tgt := 186) dX12_fits_182 (by decide) ?_
    exact R_zreturn (pc := 186) dX12_fits_186 rfl rfl (by decide) (by decide) ⟨rfl, rfl, S, FM.rf h⟩
set_option maxHeartbeats 1000000 in
set_option maxRecDepth 100000 in
theorem oX12_fits_7sN {l : Launch} {w : am_W} {h : am_H} {n : Nat} {ψ : Nat → oA} {z : fA} {i : mI} (S : MO h ψ z i) (hn : 90 ≤ n) (m s t : Nat) (hm : m ≤ 512) (hs : s ≤ 64) (ht : t ≤ 16) (hz1 : z 1 = nI m) (hz2 : z 2 = nI s) (hi1 : i 1 = nI t) (hP : ¬ (ftP 7 0 m s t)) : RH l w mX12_fits h n [.ref 61, .int 7, .int 0] (oQ h (some (.int 0)) ψ z i) := by
  refine RC.of [(0, .ref 61), (1, .int 7), (2, .int 0)] (by decide +kernel) rfl (Nat.le_of_ble_eq_true rfl) ?_
  refine R_aload_n (pc := 0) 0 dX12_fits_0 rfl rfl ?_
  refine R_get (pc := 1) dX12_fits_1 fX12_13 S.obj (by omega) rfl ?_
  refine R_iconst (pc := 4) (v := 1) dX12_fits_4 (by decide) ?_
  refine R_iald' (pc := 5) (j := 1) dX12_fits_5 S.siz (by omega) ⟨rfl, by show 1 < 4; omega, by decide⟩ ?_
  refine R_eqi (y := nI m) (hz1) ?_
  refine R_istore_n (pc := 6) (lv' := [(3, .int (nI m)), (0, .ref 61), (1, .int 7), (2, .int 0)]) dX12_fits_6 rfl (by decide) rfl ?_
  refine R_aload_n (pc := 7) 1 dX12_fits_7 rfl rfl ?_
  refine R_get (pc := 8) dX12_fits_8 fX12_13 S.obj (by omega) rfl ?_
  refine R_iconst (pc := 11) (v := 2) dX12_fits_11 (by decide) ?_
  refine R_iald' (pc := 12) (j := 2) dX12_fits_12 S.siz (by omega) ⟨rfl, by show 2 < 4; omega, by decide⟩ ?_
  refine R_eqi (y := nI s) (hz2) ?_
  refine R_istore (pc := 13) (lv' := [(4, .int (nI s)), (3, .int (nI m)), (0, .ref 61), (1, .int 7), (2, .int 0)]) dX12_fits_13 (by decide) rfl ?_
  refine R_iload_n (pc := 15) 3 dX12_fits_15 rfl rfl ?_
  refine R_tableIn (pc := 16) (tgt := 174) dX12_fits_16 (by decide) (by decide) rfl (by decide) ?_
  refine R_iload (pc := 174) 0 dX12_fits_174 rfl ?_
  refine R_bipush (pc := 176) (v := 16) dX12_fits_176 (by decide) ?_
  refine R_icmp_ne (pc := 178) (tgt := 185) dX12_fits_178 (by decide) (fun c_1 => ?_) (fun c_1 => ?_)
  · skip
    have nc_1 : ¬ (s = 16) := fun q_ => c_1 ((nI_eq (a := s) (b := 16) (by omega) (by omega)).mpr q_)
    refine R_iconst (pc := 185) (v := 0) dX12_fits_185 (by decide) ?_
    exact R_zreturn (pc := 186) dX12_fits_186 rfl rfl (by decide) (by decide) ⟨rfl, rfl, S, FM.rf h⟩
  · skip
    have nc_1 : s = 16 := (nI_eq (a := s) (b := 16) (by omega) (by omega)).mp c_1
    refine R_iconst (pc := 181) (v := 1) dX12_fits_181 (by decide) ?_
    refine R_goto (pc := 182) (tgt := 186) dX12_fits_182 (by decide) ?_
    exact absurd hP (show ¬ (¬ (s = 16)) by omega)
set_option maxHeartbeats 1000000 in
set_option maxRecDepth 100000 in
theorem oX12_fits_7o {l : Launch} {w : am_W} {h : am_H} {n : Nat} {ψ : Nat → oA} {z : fA} {i : mI} (S : MO h ψ z i) (hn : 90 ≤ n) (m s t : Nat) (hm : m ≤ 512) (hs : s ≤ 64) (ht : t ≤ 16) (hz1 : z 1 = nI m) (hz2 : z 2 = nI s) (hi1 : i 1 = nI t) (hP : ftP 7 1 m s t) : RH l w mX12_fits h n [.ref 61, .int 7, .int 1] (oQ h (some (.int 1)) ψ z i) := by
  refine RC.of [(0, .ref 61), (1, .int 7), (2, .int 1)] (by decide +kernel) rfl (Nat.le_of_ble_eq_true rfl) ?_
  refine R_aload_n (pc := 0) 0 dX12_fits_0 rfl rfl ?_
  refine R_get (pc := 1) dX12_fits_1 fX12_13 S.obj (by omega) rfl ?_
  refine R_iconst (pc := 4) (v := 1) dX12_fits_4 (by decide) ?_
  refine R_iald' (pc := 5) (j := 1) dX12_fits_5 S.siz (by omega) ⟨rfl, by show 1 < 4; omega, by decide⟩ ?_
  refine R_eqi (y := nI m) (hz1) ?_
  refine R_istore_n (pc := 6) (lv' := [(3, .int (nI m)), (0, .ref 61), (1, .int 7), (2, .int 1)]) dX12_fits_6 rfl (by decide) rfl ?_
  refine R_aload_n (pc := 7) 1 dX12_fits_7 rfl rfl ?_
  refine R_get (pc := 8) dX12_fits_8 fX12_13 S.obj (by omega) rfl ?_
  refine R_iconst (pc := 11) (v := 2) dX12_fits_11 (by decide) ?_
  refine R_iald' (pc := 12) (j := 2) dX12_fits_12 S.siz (by omega) ⟨rfl, by show 2 < 4; omega, by decide⟩ ?_
  refine R_eqi (y := nI s) (hz2) ?_
  refine R_istore (pc := 13) (lv' := [(4, .int (nI s)), (3, .int (nI m)), (0, .ref 61), (1, .int 7), (2, .int 1)]) dX12_fits_13 (by decide) rfl ?_
  refine R_iload_n (pc := 15) 3 dX12_fits_15 rfl rfl ?_
  refine R_tableIn (pc := 16) (tgt := 174) dX12_fits_16 (by decide) (by decide) rfl (by decide) ?_
  refine R_iload (pc := 174) 0 dX12_fits_174 rfl ?_
  refine R_bipush (pc := 176) (v := 16) dX12_fits_176 (by decide) ?_
  refine R_icmp_ne (pc := 178) (tgt := 185) dX12_fits_178 (by decide) (fun c_1 => ?_) (fun c_1 => ?_)
  · skip
    have nc_1 : ¬ (s = 16) := fun q_ => c_1 ((nI_eq (a := s) (b := 16) (by omega) (by omega)).mpr q_)
    refine R_iconst (pc := 185) (v := 0) dX12_fits_185 (by decide) ?_
    exact absurd hP (show ¬ (s = 16) by omega)
  · skip
    have nc_1 : s = 16 := (nI_eq (a := s) (b := 16) (by omega) (by omega)).mp c_1
    refine R_iconst (pc := 181) (v := 1) dX12_fits_181 (by decide) ?_
    refine R_goto (pc := 182) (tgt := 186) dX12_fits_182 (by decide) ?_
    exact R_zreturn (pc := 186) dX12_fits_186 rfl rfl (by decide) (by decide) ⟨rfl, rfl, S, FM.rf h⟩
set_option maxHeartbeats 1000000 in
set_option maxRecDepth 100000 in
theorem oX12_fits_7oN {l : Launch} {w : am_W} {h : am_H} {n : Nat} {ψ : Nat → oA} {z : fA} {i : mI} (S : MO h ψ z i) (hn : 90 ≤ n) (m s t : Nat) (hm : m ≤ 512) (hs : s ≤ 64) (ht : t ≤ 16) (hz1 : z 1 = nI m) (hz2 : z 2 = nI s) (hi1 : i 1 = nI t) (hP : ¬ (ftP 7 1 m s t)) : RH l w mX12_fits h n [.ref 61, .int 7, .int 1] (oQ h (some (.int 0)) ψ z i) := by
  refine RC.of [(0, .ref 61), (1, .int 7), (2, .int 1)] (by decide +kernel) rfl (Nat.le_of_ble_eq_true rfl) ?_
  refine R_aload_n (pc := 0) 0 dX12_fits_0 rfl rfl ?_
  refine R_get (pc := 1) dX12_fits_1 fX12_13 S.obj (by omega) rfl ?_
  refine R_iconst (pc := 4) (v := 1) dX12_fits_4 (by decide) ?_
  refine R_iald' (pc := 5) (j := 1) dX12_fits_5 S.siz (by omega) ⟨rfl, by show 1 < 4; omega, by decide⟩ ?_
  refine R_eqi (y := nI m) (hz1) ?_
  refine R_istore_n (pc := 6) (lv' := [(3, .int (nI m)), (0, .ref 61), (1, .int 7), (2, .int 1)]) dX12_fits_6 rfl (by decide) rfl ?_
  refine R_aload_n (pc := 7) 1 dX12_fits_7 rfl rfl ?_
  refine R_get (pc := 8) dX12_fits_8 fX12_13 S.obj (by omega) rfl ?_
  refine R_iconst (pc := 11) (v := 2) dX12_fits_11 (by decide) ?_
  refine R_iald' (pc := 12) (j := 2) dX12_fits_12 S.siz (by omega) ⟨rfl, by show 2 < 4; omega, by decide⟩ ?_
  refine R_eqi (y := nI s) (hz2) ?_
  refine R_istore (pc := 13) (lv' := [(4, .int (nI s)), (3, .int (nI m)), (0, .ref 61), (1, .int 7), (2, .int 1)]) dX12_fits_13 (by decide) rfl ?_
  refine R_iload_n (pc := 15) 3 dX12_fits_15 rfl rfl ?_
  refine R_tableIn (pc := 16) (tgt := 174) dX12_fits_16 (by decide) (by decide) rfl (by decide) ?_
  refine R_iload (pc := 174) 0 dX12_fits_174 rfl ?_
  refine R_bipush (pc := 176) (v := 16) dX12_fits_176 (by decide) ?_
  refine R_icmp_ne (pc := 178) (tgt := 185) dX12_fits_178 (by decide) (fun c_1 => ?_) (fun c_1 => ?_)
  · skip
    have nc_1 : ¬ (s = 16) := fun q_ => c_1 ((nI_eq (a := s) (b := 16) (by omega) (by omega)).mpr q_)
    refine R_iconst (pc := 185) (v := 0) dX12_fits_185 (by decide) ?_
    exact R_zreturn (pc := 186) dX12_fits_186 rfl rfl (by decide) (by decide) ⟨rfl, rfl, S, FM.rf h⟩
  · skip
    have nc_1 : s = 16 := (nI_eq (a := s) (b := 16) (by omega) (by omega)).mp c_1
    refine R_iconst (pc := 181) (v := 1) dX12_fits_181 (by decide) ?_
    refine R_goto (pc := 182) (tgt := 186) dX12_fits_182 (by decide) ?_
    exact absurd hP (show ¬ (¬ (s = 16)) by omega)
set_option maxHeartbeats 1000000 in
set_option maxRecDepth 100000 in
theorem oX12_fits_8s {l : Launch} {w : am_W} {h : am_H} {n : Nat} {ψ : Nat → oA} {z : fA} {i : mI} (S : MO h ψ z i) (hn : 90 ≤ n) (m s t : Nat) (hm : m ≤ 512) (hs : s ≤ 64) (ht : t ≤ 16) (hz1 : z 1 = nI m) (hz2 : z 2 = nI s) (hi1 : i 1 = nI t) (hP : ftP 8 0 m s t) : RH l w mX12_fits h n [.ref 61, .int 8, .int 0] (oQ h (some (.int 1)) ψ z i) := by
  refine RC.of [(0, .ref 61), (1, .int 8), (2, .int 0)] (by decide +kernel) rfl (Nat.le_of_ble_eq_true rfl) ?_
  refine R_aload_n (pc := 0) 0 dX12_fits_0 rfl rfl ?_
  refine R_get (pc := 1) dX12_fits_1 fX12_13 S.obj (by omega) rfl ?_
  refine R_iconst (pc := 4) (v := 1) dX12_fits_4 (by decide) ?_
  refine R_iald' (pc := 5) (j := 1) dX12_fits_5 S.siz (by omega) ⟨rfl, by show 1 < 4; omega, by decide⟩ ?_
  refine R_eqi (y := nI m) (hz1) ?_
  refine R_istore_n (pc := 6) (lv' := [(3, .int (nI m)), (0, .ref 61), (1, .int 8), (2, .int 0)]) dX12_fits_6 rfl (by decide) rfl ?_
  refine R_aload_n (pc := 7) 1 dX12_fits_7 rfl rfl ?_
  refine R_get (pc := 8) dX12_fits_8 fX12_13 S.obj (by omega) rfl ?_
  refine R_iconst (pc := 11) (v := 2) dX12_fits_11 (by decide) ?_
  refine R_iald' (pc := 12) (j := 2) dX12_fits_12 S.siz (by omega) ⟨rfl, by show 2 < 4; omega, by decide⟩ ?_
  refine R_eqi (y := nI s) (hz2) ?_
  refine R_istore (pc := 13) (lv' := [(4, .int (nI s)), (3, .int (nI m)), (0, .ref 61), (1, .int 8), (2, .int 0)]) dX12_fits_13 (by decide) rfl ?_
  refine R_iload_n (pc := 15) 3 dX12_fits_15 rfl rfl ?_
  refine R_tableIn (pc := 16) (tgt := 174) dX12_fits_16 (by decide) (by decide) rfl (by decide) ?_
  refine R_iload (pc := 174) 0 dX12_fits_174 rfl ?_
  refine R_bipush (pc := 176) (v := 16) dX12_fits_176 (by decide) ?_
  refine R_icmp_ne (pc := 178) (tgt := 185) dX12_fits_178 (by decide) (fun c_1 => ?_) (fun c_1 => ?_)
  · skip
    have nc_1 : ¬ (s = 16) := fun q_ => c_1 ((nI_eq (a := s) (b := 16) (by omega) (by omega)).mpr q_)
    refine R_iconst (pc := 185) (v := 0) dX12_fits_185 (by decide) ?_
    exact absurd hP (show ¬ (s = 16) by omega)
  · skip
    have nc_1 : s = 16 := (nI_eq (a := s) (b := 16) (by omega) (by omega)).mp c_1
    refine R_iconst (pc := 181) (v := 1) dX12_fits_181 (by decide) ?_
    refine R_goto (pc := 182) (tgt := 186) dX12_fits_182 (by decide) ?_
    exact R_zreturn (pc := 186) dX12_fits_186 rfl rfl (by decide) (by decide) ⟨rfl, rfl, S, FM.rf h⟩
set_option maxHeartbeats 1000000 in
set_option maxRecDepth 100000 in
theorem oX12_fits_8sN {l : Launch} {w : am_W} {h : am_H} {n : Nat} {ψ : Nat → oA} {z : fA} {i : mI} (S : MO h ψ z i) (hn : 90 ≤ n) (m s t : Nat) (hm : m ≤ 512) (hs : s ≤ 64) (ht : t ≤ 16) (hz1 : z 1 = nI m) (hz2 : z 2 = nI s) (hi1 : i 1 = nI t) (hP : ¬ (ftP 8 0 m s t)) : RH l w mX12_fits h n [.ref 61, .int 8, .int 0] (oQ h (some (.int 0)) ψ z i) := by
  refine RC.of [(0, .ref 61), (1, .int 8), (2, .int 0)] (by decide +kernel) rfl (Nat.le_of_ble_eq_true rfl) ?_
  refine R_aload_n (pc := 0) 0 dX12_fits_0 rfl rfl ?_
  refine R_get (pc := 1) dX12_fits_1 fX12_13 S.obj (by omega) rfl ?_
  refine R_iconst (pc := 4) (v := 1) dX12_fits_4 (by decide) ?_
  refine R_iald' (pc := 5) (j := 1) dX12_fits_5 S.siz (by omega) ⟨rfl, by show 1 < 4; omega, by decide⟩ ?_
  refine R_eqi (y := nI m) (hz1) ?_
  refine R_istore_n (pc := 6) (lv' := [(3, .int (nI m)), (0, .ref 61), (1, .int 8), (2, .int 0)]) dX12_fits_6 rfl (by decide) rfl ?_
  refine R_aload_n (pc := 7) 1 dX12_fits_7 rfl rfl ?_
  refine R_get (pc := 8) dX12_fits_8 fX12_13 S.obj (by omega) rfl ?_
  refine R_iconst (pc := 11) (v := 2) dX12_fits_11 (by decide) ?_
  refine R_iald' (pc := 12) (j := 2) dX12_fits_12 S.siz (by omega) ⟨rfl, by show 2 < 4; omega, by decide⟩ ?_
  refine R_eqi (y := nI s) (hz2) ?_
  refine R_istore (pc := 13) (lv' := [(4, .int (nI s)), (3, .int (nI m)), (0, .ref 61), (1, .int 8), (2, .int 0)]) dX12_fits_13 (by decide) rfl ?_
  refine R_iload_n (pc := 15) 3 dX12_fits_15 rfl rfl ?_
  refine R_tableIn (pc := 16) (tgt := 174) dX12_fits_16 (by decide) (by decide) rfl (by decide) ?_
  refine R_iload (pc := 174) 0 dX12_fits_174 rfl ?_
  refine R_bipush (pc := 176) (v := 16) dX12_fits_176 (by decide) ?_
  refine R_icmp_ne (pc := 178) (tgt := 185) dX12_fits_178 (by decide) (fun c_1 => ?_) (fun c_1 => ?_)
  · skip
    have nc_1 : ¬ (s = 16) := fun q_ => c_1 ((nI_eq (a := s) (b := 16) (by omega) (by omega)).mpr q_)
    refine R_iconst (pc := 185) (v := 0) dX12_fits_185 (by decide) ?_
    exact R_zreturn (pc := 186) dX12_fits_186 rfl rfl (by decide) (by decide) ⟨rfl, rfl, S, FM.rf h⟩
  · skip
    have nc_1 : s = 16 := (nI_eq (a := s) (b := 16) (by omega) (by omega)).mp c_1
    refine R_iconst (pc := 181) (v := 1) dX12_fits_181 (by decide) ?_
    refine R_goto (pc := 182) (tgt := 186) dX12_fits_182 (by decide) ?_
    exact absurd hP (show ¬ (¬ (s = 16)) by omega)
set_option maxHeartbeats 1000000 in
set_option maxRecDepth 100000 in
theorem oX12_fits_8o {l : Launch} {w : am_W} {h : am_H} {n : Nat} {ψ : Nat → oA} {z : fA} {i : mI} (S : MO h ψ z i) (hn : 90 ≤ n) (m s t : Nat) (hm : m ≤ 512) (hs : s ≤ 64) (ht : t ≤ 16) (hz1 : z 1 = nI m) (hz2 : z 2 = nI s) (hi1 : i 1 = nI t) (hP : ftP 8 1 m s t) : RH l w mX12_fits h n [.ref 61, .int 8, .int 1] (oQ h (some (.int 1)) ψ z i) := by
  refine RC.of [(0, .ref 61), (1, .int 8), (2, .int 1)] (by decide +kernel) rfl (Nat.le_of_ble_eq_true rfl) ?_
  refine R_aload_n (pc := 0) 0 dX12_fits_0 rfl rfl ?_
  refine R_get (pc := 1) dX12_fits_1 fX12_13 S.obj (by omega) rfl ?_
  refine R_iconst (pc := 4) (v := 1) dX12_fits_4 (by decide) ?_
  refine R_iald' (pc := 5) (j := 1) dX12_fits_5 S.siz (by omega) ⟨rfl, by show 1 < 4; omega, by decide⟩ ?_
  refine R_eqi (y := nI m) (hz1) ?_
  refine R_istore_n (pc := 6) (lv' := [(3, .int (nI m)), (0, .ref 61), (1, .int 8), (2, .int 1)]) dX12_fits_6 rfl (by decide) rfl ?_
  refine R_aload_n (pc := 7) 1 dX12_fits_7 rfl rfl ?_
  refine R_get (pc := 8) dX12_fits_8 fX12_13 S.obj (by omega) rfl ?_
  refine R_iconst (pc := 11) (v := 2) dX12_fits_11 (by decide) ?_
  refine R_iald' (pc := 12) (j := 2) dX12_fits_12 S.siz (by omega) ⟨rfl, by show 2 < 4; omega, by decide⟩ ?_
  refine R_eqi (y := nI s) (hz2) ?_
  refine R_istore (pc := 13) (lv' := [(4, .int (nI s)), (3, .int (nI m)), (0, .ref 61), (1, .int 8), (2, .int 1)]) dX12_fits_13 (by decide) rfl ?_
  refine R_iload_n (pc := 15) 3 dX12_fits_15 rfl rfl ?_
  refine R_tableIn (pc := 16) (tgt := 174) dX12_fits_16 (by decide) (by decide) rfl (by decide) ?_
  refine R_iload (pc := 174) 0 dX12_fits_174 rfl ?_
  refine R_bipush (pc := 176) (v := 16) dX12_fits_176 (by decide) ?_
  refine R_icmp_ne (pc := 178) (tgt := 185) dX12_fits_178 (by decide) (fun c_1 => ?_) (fun c_1 => ?_)
  · skip
    have nc_1 : ¬ (s = 16) := fun q_ => c_1 ((nI_eq (a := s) (b := 16) (by omega) (by omega)).mpr q_)
    refine R_iconst (pc := 185) (v := 0) dX12_fits_185 (by decide) ?_
    exact absurd hP (show ¬ (s = 16) by omega)
  · skip
    have nc_1 : s = 16 := (nI_eq (a := s) (b := 16) (by omega) (by omega)).mp c_1
    refine R_iconst (pc := 181) (v := 1) dX12_fits_181 (by decide) ?_
    refine R_goto (pc := 182) (tgt := 186) dX12_fits_182 (by decide) ?_
    exact R_zreturn (pc := 186) dX12_fits_186 rfl rfl (by decide) (by decide) ⟨rfl, rfl, S, FM.rf h⟩
set_option maxHeartbeats 1000000 in
set_option maxRecDepth 100000 in
theorem oX12_fits_8oN {l : Launch} {w : am_W} {h : am_H} {n : Nat} {ψ : Nat → oA} {z : fA} {i : mI} (S : MO h ψ z i) (hn : 90 ≤ n) (m s t : Nat) (hm : m ≤ 512) (hs : s ≤ 64) (ht : t ≤ 16) (hz1 : z 1 = nI m) (hz2 : z 2 = nI s) (hi1 : i 1 = nI t) (hP : ¬ (ftP 8 1 m s t)) : RH l w mX12_fits h n [.ref 61, .int 8, .int 1] (oQ h (some (.int 0)) ψ z i) := by
  refine RC.of [(0, .ref 61), (1, .int 8), (2, .int 1)] (by decide +kernel) rfl (Nat.le_of_ble_eq_true rfl) ?_
  refine R_aload_n (pc := 0) 0 dX12_fits_0 rfl rfl ?_
  refine R_get (pc := 1) dX12_fits_1 fX12_13 S.obj (by omega) rfl ?_
  refine R_iconst (pc := 4) (v := 1) dX12_fits_4 (by decide) ?_
  refine R_iald' (pc := 5) (j := 1) dX12_fits_5 S.siz (by omega) ⟨rfl, by show 1 < 4; omega, by decide⟩ ?_
  refine R_eqi (y := nI m) (hz1) ?_
  refine R_istore_n (pc := 6) (lv' := [(3, .int (nI m)), (0, .ref 61), (1, .int 8), (2, .int 1)]) dX12_fits_6 rfl (by decide) rfl ?_
  refine R_aload_n (pc := 7) 1 dX12_fits_7 rfl rfl ?_
  refine R_get (pc := 8) dX12_fits_8 fX12_13 S.obj (by omega) rfl ?_
  refine R_iconst (pc := 11) (v := 2) dX12_fits_11 (by decide) ?_
  refine R_iald' (pc := 12) (j := 2) dX12_fits_12 S.siz (by omega) ⟨rfl, by show 2 < 4; omega, by decide⟩ ?_
  refine R_eqi (y := nI s) (hz2) ?_
  refine R_istore (pc := 13) (lv' := [(4, .int (nI s)), (3, .int (nI m)), (0, .ref 61), (1, .int 8), (2, .int 1)]) dX12_fits_13 (by decide) rfl ?_
  refine R_iload_n (pc := 15) 3 dX12_fits_15 rfl rfl ?_
  refine R_tableIn (pc := 16) (tgt := 174) dX12_fits_16 (by decide) (by decide) rfl (by decide) ?_
  refine R_iload (pc := 174) 0 dX12_fits_174 rfl ?_
  refine R_bipush (pc := 176) (v := 16) dX12_fits_176 (by decide) ?_
  refine R_icmp_ne (pc := 178) (tgt := 185) dX12_fits_178 (by decide) (fun c_1 => ?_) (fun c_1 => ?_)
  · skip
    have nc_1 : ¬ (s = 16) := fun q_ => c_1 ((nI_eq (a := s) (b := 16) (by omega) (by omega)).mpr q_)
    refine R_iconst (pc := 185) (v := 0) dX12_fits_185 (by decide) ?_
    exact R_zreturn (pc := 186) dX12_fits_186 rfl rfl (by decide) (by decide) ⟨rfl, rfl, S, FM.rf h⟩
  · skip
    have nc_1 : s = 16 := (nI_eq (a := s) (b := 16) (by omega) (by omega)).mp c_1
    refine R_iconst (pc := 181) (v := 1) dX12_fits_181 (by decide) ?_
    refine R_goto (pc := 182) (tgt := 186) dX12_fits_182 (by decide) ?_
    exact absurd hP (show ¬ (¬ (s = 16)) by omega)
set_option maxHeartbeats 1000000 in
set_option maxRecDepth 100000 in
theorem oX12_fits_9s {l : Launch} {w : am_W} {h : am_H} {n : Nat} {ψ : Nat → oA} {z : fA} {i : mI} (S : MO h ψ z i) (hn : 90 ≤ n) (m s t : Nat) (hm : m ≤ 512) (hs : s ≤ 64) (ht : t ≤ 16) (hz1 : z 1 = nI m) (hz2 : z 2 = nI s) (hi1 : i 1 = nI t) (hP : ftP 9 0 m s t) : RH l w mX12_fits h n [.ref 61, .int 9, .int 0] (oQ h (some (.int 1)) ψ z i) := by
  refine RC.of [(0, .ref 61), (1, .int 9), (2, .int 0)] (by decide +kernel) rfl (Nat.le_of_ble_eq_true rfl) ?_
  refine R_aload_n (pc := 0) 0 dX12_fits_0 rfl rfl ?_
  refine R_get (pc := 1) dX12_fits_1 fX12_13 S.obj (by omega) rfl ?_
  refine R_iconst (pc := 4) (v := 1) dX12_fits_4 (by decide) ?_
  refine R_iald' (pc := 5) (j := 1) dX12_fits_5 S.siz (by omega) ⟨rfl, by show 1 < 4; omega, by decide⟩ ?_
  refine R_eqi (y := nI m) (hz1) ?_
  refine R_istore_n (pc := 6) (lv' := [(3, .int (nI m)), (0, .ref 61), (1, .int 9), (2, .int 0)]) dX12_fits_6 rfl (by decide) rfl ?_
  refine R_aload_n (pc := 7) 1 dX12_fits_7 rfl rfl ?_
  refine R_get (pc := 8) dX12_fits_8 fX12_13 S.obj (by omega) rfl ?_
  refine R_iconst (pc := 11) (v := 2) dX12_fits_11 (by decide) ?_
  refine R_iald' (pc := 12) (j := 2) dX12_fits_12 S.siz (by omega) ⟨rfl, by show 2 < 4; omega, by decide⟩ ?_
  refine R_eqi (y := nI s) (hz2) ?_
  refine R_istore (pc := 13) (lv' := [(4, .int (nI s)), (3, .int (nI m)), (0, .ref 61), (1, .int 9), (2, .int 0)]) dX12_fits_13 (by decide) rfl ?_
  refine R_iload_n (pc := 15) 3 dX12_fits_15 rfl rfl ?_
  refine R_tableIn (pc := 16) (tgt := 187) dX12_fits_16 (by decide) (by decide) rfl (by decide) ?_
  refine R_iload (pc := 187) 0 dX12_fits_187 rfl ?_
  refine R_bipush (pc := 189) (v := 16) dX12_fits_189 (by decide) ?_
  refine R_icmp_ne (pc := 191) (tgt := 204) dX12_fits_191 (by decide) (fun c_1 => ?_) (fun c_1 => ?_)
  · skip
    have nc_1 : ¬ (s = 16) := fun q_ => c_1 ((nI_eq (a := s) (b := 16) (by omega) (by omega)).mpr q_)
    refine R_iconst (pc := 204) (v := 0) dX12_fits_204 (by decide) ?_
    exact absurd hP (show ¬ (s = 16 ∧ 16 ≤ m) by omega)
  · skip
    have nc_1 : s = 16 := (nI_eq (a := s) (b := 16) (by omega) (by omega)).mp c_1
    refine R_iload_n (pc := 194) 1 dX12_fits_194 rfl rfl ?_
    refine R_bipush (pc := 195) (v := 16) dX12_fits_195 (by decide) ?_
    refine R_icmp_lt (pc := 197) (tgt := 204) dX12_fits_197 (by decide) (fun c_2 => ?_) (fun c_2 => ?_)
    · skip
      have nc_2 : m < 16 := (nI_ltI (a := m) (b := 16) (by omega) (by omega)).mp c_2
      refine R_iconst (pc := 204) (v := 0) dX12_fits_204 (by decide) ?_
      exact absurd hP (show ¬ (s = 16 ∧ 16 ≤ m) by omega)
    · skip
      have nc_2 : ¬ (m < 16) := fun q_ => c_2 ((nI_ltI (a := m) (b := 16) (by omega) (by omega)).mpr q_)
      refine R_iconst (pc := 200) (v := 1) dX12_fits_200 (by decide) ?_
      refine R_goto (pc := 201) (tgt := 205) dX12_fits_201 (by decide) ?_
      exact R_zreturn (pc := 205) dX12_fits_205 rfl rfl (by decide) (by decide) ⟨rfl, rfl, S, FM.rf h⟩
set_option maxHeartbeats 1000000 in
set_option maxRecDepth 100000 in
theorem oX12_fits_9sN {l : Launch} {w : am_W} {h : am_H} {n : Nat} {ψ : Nat → oA} {z : fA} {i : mI} (S : MO h ψ z i) (hn : 90 ≤ n) (m s t : Nat) (hm : m ≤ 512) (hs : s ≤ 64) (ht : t ≤ 16) (hz1 : z 1 = nI m) (hz2 : z 2 = nI s) (hi1 : i 1 = nI t) (hP : ¬ (ftP 9 0 m s t)) : RH l w mX12_fits h n [.ref 61, .int 9, .int 0] (oQ h (some (.int 0)) ψ z i) := by
  refine RC.of [(0, .ref 61), (1, .int 9), (2, .int 0)] (by decide +kernel) rfl (Nat.le_of_ble_eq_true rfl) ?_
  refine R_aload_n (pc := 0) 0 dX12_fits_0 rfl rfl ?_
  refine R_get (pc := 1) dX12_fits_1 fX12_13 S.obj (by omega) rfl ?_
  refine R_iconst (pc := 4) (v := 1) dX12_fits_4 (by decide) ?_
  refine R_iald' (pc := 5) (j := 1) dX12_fits_5 S.siz (by omega) ⟨rfl, by show 1 < 4; omega, by decide⟩ ?_
  refine R_eqi (y := nI m) (hz1) ?_
  refine R_istore_n (pc := 6) (lv' := [(3, .int (nI m)), (0, .ref 61), (1, .int 9), (2, .int 0)]) dX12_fits_6 rfl (by decide) rfl ?_
  refine R_aload_n (pc := 7) 1 dX12_fits_7 rfl rfl ?_
  refine R_get (pc := 8) dX12_fits_8 fX12_13 S.obj (by omega) rfl ?_
  refine R_iconst (pc := 11) (v := 2) dX12_fits_11 (by decide) ?_
  refine R_iald' (pc := 12) (j := 2) dX12_fits_12 S.siz (by omega) ⟨rfl, by show 2 < 4; omega, by decide⟩ ?_
  refine R_eqi (y := nI s) (hz2) ?_
  refine R_istore (pc := 13) (lv' := [(4, .int (nI s)), (3, .int (nI m)), (0, .ref 61), (1, .int 9), (2, .int 0)]) dX12_fits_13 (by decide) rfl ?_
  refine R_iload_n (pc := 15) 3 dX12_fits_15 rfl rfl ?_
  refine R_tableIn (pc := 16) (tgt := 187) dX12_fits_16 (by decide) (by decide) rfl (by decide) ?_
  refine R_iload (pc := 187) 0 dX12_fits_187 rfl ?_
  refine R_bipush (pc := 189) (v := 16) dX12_fits_189 (by decide) ?_
  refine R_icmp_ne (pc := 191) (tgt := 204) dX12_fits_191 (by decide) (fun c_1 => ?_) (fun c_1 => ?_)
  · skip
    have nc_1 : ¬ (s = 16) := fun q_ => c_1 ((nI_eq (a := s) (b := 16) (by omega) (by omega)).mpr q_)
    refine R_iconst (pc := 204) (v := 0) dX12_fits_204 (by decide) ?_
    exact R_zreturn (pc := 205) dX12_fits_205 rfl rfl (by decide) (by decide) ⟨rfl, rfl, S, FM.rf h⟩
  · skip
    have nc_1 : s = 16 := (nI_eq (a := s) (b := 16) (by omega) (by omega)).mp c_1
    refine R_iload_n (pc := 194) 1 dX12_fits_194 rfl rfl ?_
    refine R_bipush (pc := 195) (v := 16) dX12_fits_195 (by decide) ?_
    refine R_icmp_lt (pc := 197) (tgt := 204) dX12_fits_197 (by decide) (fun c_2 => ?_) (fun c_2 => ?_)
    · skip
      have nc_2 : m < 16 := (nI_ltI (a := m) (b := 16) (by omega) (by omega)).mp c_2
      refine R_iconst (pc := 204) (v := 0) dX12_fits_204 (by decide) ?_
      exact R_zreturn (pc := 205) dX12_fits_205 rfl rfl (by decide) (by decide) ⟨rfl, rfl, S, FM.rf h⟩
    · skip
      have nc_2 : ¬ (m < 16) := fun q_ => c_2 ((nI_ltI (a := m) (b := 16) (by omega) (by omega)).mpr q_)
      refine R_iconst (pc := 200) (v := 1) dX12_fits_200 (by decide) ?_
      refine R_goto (pc := 201) (tgt := 205) dX12_fits_201 (by decide) ?_
      exact absurd hP (show ¬ (¬ (s = 16 ∧ 16 ≤ m)) by omega)
set_option maxHeartbeats 1000000 in
set_option maxRecDepth 100000 in
theorem oX12_fits_9o {l : Launch} {w : am_W} {h : am_H} {n : Nat} {ψ : Nat → oA} {z : fA} {i : mI} (S : MO h ψ z i) (hn : 90 ≤ n) (m s t : Nat) (hm : m ≤ 512) (hs : s ≤ 64) (ht : t ≤ 16) (hz1 : z 1 = nI m) (hz2 : z 2 = nI s) (hi1 : i 1 = nI t) (hP : ftP 9 1 m s t) : RH l w mX12_fits h n [.ref 61, .int 9, .int 1] (oQ h (some (.int 1)) ψ z i) := by
  refine RC.of [(0, .ref 61), (1, .int 9), (2, .int 1)] (by decide +kernel) rfl (Nat.le_of_ble_eq_true rfl) ?_
  refine R_aload_n (pc := 0) 0 dX12_fits_0 rfl rfl ?_
  refine R_get (pc := 1) dX12_fits_1 fX12_13 S.obj (by omega) rfl ?_
  refine R_iconst (pc := 4) (v := 1) dX12_fits_4 (by decide) ?_
  refine R_iald' (pc := 5) (j := 1) dX12_fits_5 S.siz (by omega) ⟨rfl, by show 1 < 4; omega, by decide⟩ ?_
  refine R_eqi (y := nI m) (hz1) ?_
  refine R_istore_n (pc := 6) (lv' := [(3, .int (nI m)), (0, .ref 61), (1, .int 9), (2, .int 1)]) dX12_fits_6 rfl (by decide) rfl ?_
  refine R_aload_n (pc := 7) 1 dX12_fits_7 rfl rfl ?_
  refine R_get (pc := 8) dX12_fits_8 fX12_13 S.obj (by omega) rfl ?_
  refine R_iconst (pc := 11) (v := 2) dX12_fits_11 (by decide) ?_
  refine R_iald' (pc := 12) (j := 2) dX12_fits_12 S.siz (by omega) ⟨rfl, by show 2 < 4; omega, by decide⟩ ?_
  refine R_eqi (y := nI s) (hz2) ?_
  refine R_istore (pc := 13) (lv' := [(4, .int (nI s)), (3, .int (nI m)), (0, .ref 61), (1, .int 9), (2, .int 1)]) dX12_fits_13 (by decide) rfl ?_
  refine R_iload_n (pc := 15) 3 dX12_fits_15 rfl rfl ?_
  refine R_tableIn (pc := 16) (tgt := 187) dX12_fits_16 (by decide) (by decide) rfl (by decide) ?_
  refine R_iload (pc := 187) 0 dX12_fits_187 rfl ?_
  refine R_bipush (pc := 189) (v := 16) dX12_fits_189 (by decide) ?_
  refine R_icmp_ne (pc := 191) (tgt := 204) dX12_fits_191 (by decide) (fun c_1 => ?_) (fun c_1 => ?_)
  · skip
    have nc_1 : ¬ (s = 16) := fun q_ => c_1 ((nI_eq (a := s) (b := 16) (by omega) (by omega)).mpr q_)
    refine R_iconst (pc := 204) (v := 0) dX12_fits_204 (by decide) ?_
    exact absurd hP (show ¬ (s = 16 ∧ 16 ≤ m) by omega)
  · skip
    have nc_1 : s = 16 := (nI_eq (a := s) (b := 16) (by omega) (by omega)).mp c_1
    refine R_iload_n (pc := 194) 1 dX12_fits_194 rfl rfl ?_
    refine R_bipush (pc := 195) (v := 16) dX12_fits_195 (by decide) ?_
    refine R_icmp_lt (pc := 197) (tgt := 204) dX12_fits_197 (by decide) (fun c_2 => ?_) (fun c_2 => ?_)
    · skip
      have nc_2 : m < 16 := (nI_ltI (a := m) (b := 16) (by omega) (by omega)).mp c_2
      refine R_iconst (pc := 204) (v := 0) dX12_fits_204 (by decide) ?_
      exact absurd hP (show ¬ (s = 16 ∧ 16 ≤ m) by omega)
    · skip
      have nc_2 : ¬ (m < 16) := fun q_ => c_2 ((nI_ltI (a := m) (b := 16) (by omega) (by omega)).mpr q_)
      refine R_iconst (pc := 200) (v := 1) dX12_fits_200 (by decide) ?_
      refine R_goto (pc := 201) (tgt := 205) dX12_fits_201 (by decide) ?_
      exact R_zreturn (pc := 205) dX12_fits_205 rfl rfl (by decide) (by decide) ⟨rfl, rfl, S, FM.rf h⟩
set_option maxHeartbeats 1000000 in
set_option maxRecDepth 100000 in
theorem oX12_fits_9oN {l : Launch} {w : am_W} {h : am_H} {n : Nat} {ψ : Nat → oA} {z : fA} {i : mI} (S : MO h ψ z i) (hn : 90 ≤ n) (m s t : Nat) (hm : m ≤ 512) (hs : s ≤ 64) (ht : t ≤ 16) (hz1 : z 1 = nI m) (hz2 : z 2 = nI s) (hi1 : i 1 = nI t) (hP : ¬ (ftP 9 1 m s t)) : RH l w mX12_fits h n [.ref 61, .int 9, .int 1] (oQ h (some (.int 0)) ψ z i) := by
  refine RC.of [(0, .ref 61), (1, .int 9), (2, .int 1)] (by decide +kernel) rfl (Nat.le_of_ble_eq_true rfl) ?_
  refine R_aload_n (pc := 0) 0 dX12_fits_0 rfl rfl ?_
  refine R_get (pc := 1) dX12_fits_1 fX12_13 S.obj (by omega) rfl ?_
  refine R_iconst (pc := 4) (v := 1) dX12_fits_4 (by decide) ?_
  refine R_iald' (pc := 5) (j := 1) dX12_fits_5 S.siz (by omega) ⟨rfl, by show 1 < 4; omega, by decide⟩ ?_
  refine R_eqi (y := nI m) (hz1) ?_
  refine R_istore_n (pc := 6) (lv' := [(3, .int (nI m)), (0, .ref 61), (1, .int 9), (2, .int 1)]) dX12_fits_6 rfl (by decide) rfl ?_
  refine R_aload_n (pc := 7) 1 dX12_fits_7 rfl rfl ?_
  refine R_get (pc := 8) dX12_fits_8 fX12_13 S.obj (by omega) rfl ?_
  refine R_iconst (pc := 11) (v := 2) dX12_fits_11 (by decide) ?_
  refine R_iald' (pc := 12) (j := 2) dX12_fits_12 S.siz (by omega) ⟨rfl, by show 2 < 4; omega, by decide⟩ ?_
  refine R_eqi (y := nI s) (hz2) ?_
  refine R_istore (pc := 13) (lv' := [(4, .int (nI s)), (3, .int (nI m)), (0, .ref 61), (1, .int 9), (2, .int 1)]) dX12_fits_13 (by decide) rfl ?_
  refine R_iload_n (pc := 15) 3 dX12_fits_15 rfl rfl ?_
  refine R_tableIn (pc := 16) (tgt := 187) dX12_fits_16 (by decide) (by decide) rfl (by decide) ?_
  refine R_iload (pc := 187) 0 dX12_fits_187 rfl ?_
  refine R_bipush (pc := 189) (v := 16) dX12_fits_189 (by decide) ?_
  refine R_icmp_ne (pc := 191) (tgt := 204) dX12_fits_191 (by decide) (fun c_1 => ?_) (fun c_1 => ?_)
  · skip
    have nc_1 : ¬ (s = 16) := fun q_ => c_1 ((nI_eq (a := s) (b := 16) (by omega) (by omega)).mpr q_)
    refine R_iconst (pc := 204) (v := 0) dX12_fits_204 (by decide) ?_
    exact R_zreturn (pc := 205) dX12_fits_205 rfl rfl (by decide) (by decide) ⟨rfl, rfl, S, FM.rf h⟩
  · skip
    have nc_1 : s = 16 := (nI_eq (a := s) (b := 16) (by omega) (by omega)).mp c_1
    refine R_iload_n (pc := 194) 1 dX12_fits_194 rfl rfl ?_
    refine R_bipush (pc := 195) (v := 16) dX12_fits_195 (by decide) ?_
    refine R_icmp_lt (pc := 197) (tgt := 204) dX12_fits_197 (by decide) (fun c_2 => ?_) (fun c_2 => ?_)
    · skip
      have nc_2 : m < 16 := (nI_ltI (a := m) (b := 16) (by omega) (by omega)).mp c_2
      refine R_iconst (pc := 204) (v := 0) dX12_fits_204 (by decide) ?_
      exact R_zreturn (pc := 205) dX12_fits_205 rfl rfl (by decide) (by decide) ⟨rfl, rfl, S, FM.rf h⟩
    · skip
      have nc_2 : ¬ (m < 16) := fun q_ => c_2 ((nI_ltI (a := m) (b := 16) (by omega) (by omega)).mpr q_)
      refine R_iconst (pc := 200) (v := 1) dX12_fits_200 (by decide) ?_
      refine R_goto (pc := 201) (tgt := 205) dX12_fits_201 (by decide) ?_
      exact absurd hP (show ¬ (¬ (s = 16 ∧ 16 ≤ m)) by omega)
set_option maxHeartbeats 1000000 in
set_option maxRecDepth 100000 in
theorem oX12_fits_10s {l : Launch} {w : am_W} {h : am_H} {n : Nat} {ψ : Nat → oA} {z : fA} {i : mI} (S : MO h ψ z i) (hn : 90 ≤ n) (m s t : Nat) (hm : m ≤ 512) (hs : s ≤ 64) (ht : t ≤ 16) (hz1 : z 1 = nI m) (hz2 : z 2 = nI s) (hi1 : i 1 = nI t) (hP : ftP 10 0 m s t) : RH l w mX12_fits h n [.ref 61, .int 10, .int 0] (oQ h (some (.int 1)) ψ z i) := by
  refine RC.of [(0, .ref 61), (1, .int 10), (2, .int 0)] (by decide +kernel) rfl (Nat.le_of_ble_eq_true rfl) ?_
  refine R_aload_n (pc := 0) 0 dX12_fits_0 rfl rfl ?_
  refine R_get (pc := 1) dX12_fits_1 fX12_13 S.obj (by omega) rfl ?_
  refine R_iconst (pc := 4) (v := 1) dX12_fits_4 (by decide) ?_
  refine R_iald' (pc := 5) (j := 1) dX12_fits_5 S.siz (by omega) ⟨rfl, by show 1 < 4; omega, by decide⟩ ?_
  refine R_eqi (y := nI m) (hz1) ?_
  refine R_istore_n (pc := 6) (lv' := [(3, .int (nI m)), (0, .ref 61), (1, .int 10), (2, .int 0)]) dX12_fits_6 rfl (by decide) rfl ?_
  refine R_aload_n (pc := 7) 1 dX12_fits_7 rfl rfl ?_
  refine R_get (pc := 8) dX12_fits_8 fX12_13 S.obj (by omega) rfl ?_
  refine R_iconst (pc := 11) (v := 2) dX12_fits_11 (by decide) ?_
  refine R_iald' (pc := 12) (j := 2) dX12_fits_12 S.siz (by omega) ⟨rfl, by show 2 < 4; omega, by decide⟩ ?_
  refine R_eqi (y := nI s) (hz2) ?_
  refine R_istore (pc := 13) (lv' := [(4, .int (nI s)), (3, .int (nI m)), (0, .ref 61), (1, .int 10), (2, .int 0)]) dX12_fits_13 (by decide) rfl ?_
  refine R_iload_n (pc := 15) 3 dX12_fits_15 rfl rfl ?_
  refine R_tableIn (pc := 16) (tgt := 206) dX12_fits_16 (by decide) (by decide) rfl (by decide) ?_
  refine R_iload_n (pc := 206) 1 dX12_fits_206 rfl rfl ?_
  refine R_bipush (pc := 207) (v := 8) dX12_fits_207 (by decide) ?_
  refine R_irem (pc := 209) dX12_fits_209 (by decide) ?_
  refine R_eqi (y := nI (m % 8)) (nI_rem (a := m) (b := 8) (by omega) (by omega)) ?_
  refine R_if_ne (pc := 210) (tgt := 232) dX12_fits_210 (by decide) (fun c_1 => ?_) (fun c_1 => ?_)
  · skip
    have nc_1 : ¬ (m % 8 = 0) := fun q_ => c_1 ((nI_eq (a := m % 8) (b := 0) (by omega) (by omega)).mpr q_)
    refine R_iconst (pc := 232) (v := 0) dX12_fits_232 (by decide) ?_
    exact absurd hP (show ¬ (m % 8 = 0 ∧ 16 ≤ m) by omega)
  · skip
    have nc_1 : m % 8 = 0 := (nI_eq (a := m % 8) (b := 0) (by omega) (by omega)).mp c_1
    refine R_iload_n (pc := 213) 1 dX12_fits_213 rfl rfl ?_
    refine R_iload_n (pc := 214) 4 dX12_fits_214 rfl rfl ?_
    refine R_if_eq (pc := 215) (tgt := 223) dX12_fits_215 (by decide) (fun c_2 => ?_) (fun c_2 => absurd (rfl) c_2)
    refine R_bipush (pc := 223) (v := 16) dX12_fits_223 (by decide) ?_
    refine R_icmp_lt (pc := 225) (tgt := 232) dX12_fits_225 (by decide) (fun c_3 => ?_) (fun c_3 => ?_)
    · skip
      have nc_3 : m < 16 := (nI_ltI (a := m) (b := 16) (by omega) (by omega)).mp c_3
      refine R_iconst (pc := 232) (v := 0) dX12_fits_232 (by decide) ?_
      exact absurd hP (show ¬ (m % 8 = 0 ∧ 16 ≤ m) by omega)
    · skip
      have nc_3 : ¬ (m < 16) := fun q_ => c_3 ((nI_ltI (a := m) (b := 16) (by omega) (by omega)).mpr q_)
      refine R_iconst (pc := 228) (v := 1) dX12_fits_228 (by decide) ?_
      refine R_goto (pc := 229) (tgt := 233) dX12_fits_229 (by decide) ?_
      exact R_zreturn (pc := 233) dX12_fits_233 rfl rfl (by decide) (by decide) ⟨rfl, rfl, S, FM.rf h⟩
set_option maxHeartbeats 1000000 in
set_option maxRecDepth 100000 in
theorem oX12_fits_10sN {l : Launch} {w : am_W} {h : am_H} {n : Nat} {ψ : Nat → oA} {z : fA} {i : mI} (S : MO h ψ z i) (hn : 90 ≤ n) (m s t : Nat) (hm : m ≤ 512) (hs : s ≤ 64) (ht : t ≤ 16) (hz1 : z 1 = nI m) (hz2 : z 2 = nI s) (hi1 : i 1 = nI t) (hP : ¬ (ftP 10 0 m s t)) : RH l w mX12_fits h n [.ref 61, .int 10, .int 0] (oQ h (some (.int 0)) ψ z i) := by
  refine RC.of [(0, .ref 61), (1, .int 10), (2, .int 0)] (by decide +kernel) rfl (Nat.le_of_ble_eq_true rfl) ?_
  refine R_aload_n (pc := 0) 0 dX12_fits_0 rfl rfl ?_
  refine R_get (pc := 1) dX12_fits_1 fX12_13 S.obj (by omega) rfl ?_
  refine R_iconst (pc := 4) (v := 1) dX12_fits_4 (by decide) ?_
  refine R_iald' (pc := 5) (j := 1) dX12_fits_5 S.siz (by omega) ⟨rfl, by show 1 < 4; omega, by decide⟩ ?_
  refine R_eqi (y := nI m) (hz1) ?_
  refine R_istore_n (pc := 6) (lv' := [(3, .int (nI m)), (0, .ref 61), (1, .int 10), (2, .int 0)]) dX12_fits_6 rfl (by decide) rfl ?_
  refine R_aload_n (pc := 7) 1 dX12_fits_7 rfl rfl ?_
  refine R_get (pc := 8) dX12_fits_8 fX12_13 S.obj (by omega) rfl ?_
  refine R_iconst (pc := 11) (v := 2) dX12_fits_11 (by decide) ?_
  refine R_iald' (pc := 12) (j := 2) dX12_fits_12 S.siz (by omega) ⟨rfl, by show 2 < 4; omega, by decide⟩ ?_
  refine R_eqi (y := nI s) (hz2) ?_
  refine R_istore (pc := 13) (lv' := [(4, .int (nI s)), (3, .int (nI m)), (0, .ref 61), (1, .int 10), (2, .int 0)]) dX12_fits_13 (by decide) rfl ?_
  refine R_iload_n (pc := 15) 3 dX12_fits_15 rfl rfl ?_
  refine R_tableIn (pc := 16) (tgt := 206) dX12_fits_16 (by decide) (by decide) rfl (by decide) ?_
  refine R_iload_n (pc := 206) 1 dX12_fits_206 rfl rfl ?_
  refine R_bipush (pc := 207) (v := 8) dX12_fits_207 (by decide) ?_
  refine R_irem (pc := 209) dX12_fits_209 (by decide) ?_
  refine R_eqi (y := nI (m % 8)) (nI_rem (a := m) (b := 8) (by omega) (by omega)) ?_
  refine R_if_ne (pc := 210) (tgt := 232) dX12_fits_210 (by decide) (fun c_1 => ?_) (fun c_1 => ?_)
  · skip
    have nc_1 : ¬ (m % 8 = 0) := fun q_ => c_1 ((nI_eq (a := m % 8) (b := 0) (by omega) (by omega)).mpr q_)
    refine R_iconst (pc := 232) (v := 0) dX12_fits_232 (by decide) ?_
    exact R_zreturn (pc := 233) dX12_fits_233 rfl rfl (by decide) (by decide) ⟨rfl, rfl, S, FM.rf h⟩
  · skip
    have nc_1 : m % 8 = 0 := (nI_eq (a := m % 8) (b := 0) (by omega) (by omega)).mp c_1
    refine R_iload_n (pc := 213) 1 dX12_fits_213 rfl rfl ?_
    refine R_iload_n (pc := 214) 4 dX12_fits_214 rfl rfl ?_
    refine R_if_eq (pc := 215) (tgt := 223) dX12_fits_215 (by decide) (fun c_2 => ?_) (fun c_2 => absurd (rfl) c_2)
    refine R_bipush (pc := 223) (v := 16) dX12_fits_223 (by decide) ?_
    refine R_icmp_lt (pc := 225) (tgt := 232) dX12_fits_225 (by decide) (fun c_3 => ?_) (fun c_3 => ?_)
    · skip
      have nc_3 : m < 16 := (nI_ltI (a := m) (b := 16) (by omega) (by omega)).mp c_3
      refine R_iconst (pc := 232) (v := 0) dX12_fits_232 (by decide) ?_
      exact R_zreturn (pc := 233) dX12_fits_233 rfl rfl (by decide) (by decide) ⟨rfl, rfl, S, FM.rf h⟩
    · skip
      have nc_3 : ¬ (m < 16) := fun q_ => c_3 ((nI_ltI (a := m) (b := 16) (by omega) (by omega)).mpr q_)
      refine R_iconst (pc := 228) (v := 1) dX12_fits_228 (by decide) ?_
      refine R_goto (pc := 229) (tgt := 233) dX12_fits_229 (by decide) ?_
      exact absurd hP (show ¬ (¬ (m % 8 = 0 ∧ 16 ≤ m)) by omega)
set_option maxHeartbeats 1000000 in
set_option maxRecDepth 100000 in
theorem oX12_fits_10o {l : Launch} {w : am_W} {h : am_H} {n : Nat} {ψ : Nat → oA} {z : fA} {i : mI} (S : MO h ψ z i) (hn : 90 ≤ n) (m s t : Nat) (hm : m ≤ 512) (hs : s ≤ 64) (ht : t ≤ 16) (hz1 : z 1 = nI m) (hz2 : z 2 = nI s) (hi1 : i 1 = nI t) (hP : ftP 10 1 m s t) : RH l w mX12_fits h n [.ref 61, .int 10, .int 1] (oQ h (some (.int 1)) ψ z i) := by
  refine RC.of [(0, .ref 61), (1, .int 10), (2, .int 1)] (by decide +kernel) rfl (Nat.le_of_ble_eq_true rfl) ?_
  refine R_aload_n (pc := 0) 0 dX12_fits_0 rfl rfl ?_
  refine R_get (pc := 1) dX12_fits_1 fX12_13 S.obj (by omega) rfl ?_
  refine R_iconst (pc := 4) (v := 1) dX12_fits_4 (by decide) ?_
  refine R_iald' (pc := 5) (j := 1) dX12_fits_5 S.siz (by omega) ⟨rfl, by show 1 < 4; omega, by decide⟩ ?_
  refine R_eqi (y := nI m) (hz1) ?_
  refine R_istore_n (pc := 6) (lv' := [(3, .int (nI m)), (0, .ref 61), (1, .int 10), (2, .int 1)]) dX12_fits_6 rfl (by decide) rfl ?_
  refine R_aload_n (pc := 7) 1 dX12_fits_7 rfl rfl ?_
  refine R_get (pc := 8) dX12_fits_8 fX12_13 S.obj (by omega) rfl ?_
  refine R_iconst (pc := 11) (v := 2) dX12_fits_11 (by decide) ?_
  refine R_iald' (pc := 12) (j := 2) dX12_fits_12 S.siz (by omega) ⟨rfl, by show 2 < 4; omega, by decide⟩ ?_
  refine R_eqi (y := nI s) (hz2) ?_
  refine R_istore (pc := 13) (lv' := [(4, .int (nI s)), (3, .int (nI m)), (0, .ref 61), (1, .int 10), (2, .int 1)]) dX12_fits_13 (by decide) rfl ?_
  refine R_iload_n (pc := 15) 3 dX12_fits_15 rfl rfl ?_
  refine R_tableIn (pc := 16) (tgt := 206) dX12_fits_16 (by decide) (by decide) rfl (by decide) ?_
  refine R_iload_n (pc := 206) 1 dX12_fits_206 rfl rfl ?_
  refine R_bipush (pc := 207) (v := 8) dX12_fits_207 (by decide) ?_
  refine R_irem (pc := 209) dX12_fits_209 (by decide) ?_
  refine R_eqi (y := nI (m % 8)) (nI_rem (a := m) (b := 8) (by omega) (by omega)) ?_
  refine R_if_ne (pc := 210) (tgt := 232) dX12_fits_210 (by decide) (fun c_1 => ?_) (fun c_1 => ?_)
  · skip
    have nc_1 : ¬ (m % 8 = 0) := fun q_ => c_1 ((nI_eq (a := m % 8) (b := 0) (by omega) (by omega)).mpr q_)
    refine R_iconst (pc := 232) (v := 0) dX12_fits_232 (by decide) ?_
    exact absurd hP (show ¬ (m % 8 = 0 ∧ 24 ≤ m) by omega)
  · skip
    have nc_1 : m % 8 = 0 := (nI_eq (a := m % 8) (b := 0) (by omega) (by omega)).mp c_1
    refine R_iload_n (pc := 213) 1 dX12_fits_213 rfl rfl ?_
    refine R_iload_n (pc := 214) 4 dX12_fits_214 rfl rfl ?_
    refine R_if_eq (pc := 215) (tgt := 223) dX12_fits_215 (by decide) (fun c_2 => absurd c_2 (by decide)) (fun c_2 => ?_)
    refine R_bipush (pc := 218) (v := 24) dX12_fits_218 (by decide) ?_
    refine R_goto (pc := 220) (tgt := 225) dX12_fits_220 (by decide) ?_
    refine R_icmp_lt (pc := 225) (tgt := 232) dX12_fits_225 (by decide) (fun c_3 => ?_) (fun c_3 => ?_)
    · skip
      have nc_3 : m < 24 := (nI_ltI (a := m) (b := 24) (by omega) (by omega)).mp c_3
      refine R_iconst (pc := 232) (v := 0) dX12_fits_232 (by decide) ?_
      exact absurd hP (show ¬ (m % 8 = 0 ∧ 24 ≤ m) by omega)
    · skip
      have nc_3 : ¬ (m < 24) := fun q_ => c_3 ((nI_ltI (a := m) (b := 24) (by omega) (by omega)).mpr q_)
      refine R_iconst (pc := 228) (v := 1) dX12_fits_228 (by decide) ?_
      refine R_goto (pc := 229) (tgt := 233) dX12_fits_229 (by decide) ?_
      exact R_zreturn (pc := 233) dX12_fits_233 rfl rfl (by decide) (by decide) ⟨rfl, rfl, S, FM.rf h⟩
set_option maxHeartbeats 1000000 in
set_option maxRecDepth 100000 in
theorem oX12_fits_10oN {l : Launch} {w : am_W} {h : am_H} {n : Nat} {ψ : Nat → oA} {z : fA} {i : mI} (S : MO h ψ z i) (hn : 90 ≤ n) (m s t : Nat) (hm : m ≤ 512) (hs : s ≤ 64) (ht : t ≤ 16) (hz1 : z 1 = nI m) (hz2 : z 2 = nI s) (hi1 : i 1 = nI t) (hP : ¬ (ftP 10 1 m s t)) : RH l w mX12_fits h n [.ref 61, .int 10, .int 1] (oQ h (some (.int 0)) ψ z i) := by
  refine RC.of [(0, .ref 61), (1, .int 10), (2, .int 1)] (by decide +kernel) rfl (Nat.le_of_ble_eq_true rfl) ?_
  refine R_aload_n (pc := 0) 0 dX12_fits_0 rfl rfl ?_
  refine R_get (pc := 1) dX12_fits_1 fX12_13 S.obj (by omega) rfl ?_
  refine R_iconst (pc := 4) (v := 1) dX12_fits_4 (by decide) ?_
  refine R_iald' (pc := 5) (j := 1) dX12_fits_5 S.siz (by omega) ⟨rfl, by show 1 < 4; omega, by decide⟩ ?_
  refine R_eqi (y := nI m) (hz1) ?_
  refine R_istore_n (pc := 6) (lv' := [(3, .int (nI m)), (0, .ref 61), (1, .int 10), (2, .int 1)]) dX12_fits_6 rfl (by decide) rfl ?_
  refine R_aload_n (pc := 7) 1 dX12_fits_7 rfl rfl ?_
  refine R_get (pc := 8) dX12_fits_8 fX12_13 S.obj (by omega) rfl ?_
  refine R_iconst (pc := 11) (v := 2) dX12_fits_11 (by decide) ?_
  refine R_iald' (pc := 12) (j := 2) dX12_fits_12 S.siz (by omega) ⟨rfl, by show 2 < 4; omega, by decide⟩ ?_
  refine R_eqi (y := nI s) (hz2) ?_
  refine R_istore (pc := 13) (lv' := [(4, .int (nI s)), (3, .int (nI m)), (0, .ref 61), (1, .int 10), (2, .int 1)]) dX12_fits_13 (by decide) rfl ?_
  refine R_iload_n (pc := 15) 3 dX12_fits_15 rfl rfl ?_
  refine R_tableIn (pc := 16) (tgt := 206) dX12_fits_16 (by decide) (by decide) rfl (by decide) ?_
  refine R_iload_n (pc := 206) 1 dX12_fits_206 rfl rfl ?_
  refine R_bipush (pc := 207) (v := 8) dX12_fits_207 (by decide) ?_
  refine R_irem (pc := 209) dX12_fits_209 (by decide) ?_
  refine R_eqi (y := nI (m % 8)) (nI_rem (a := m) (b := 8) (by omega) (by omega)) ?_
  refine R_if_ne (pc := 210) (tgt := 232) dX12_fits_210 (by decide) (fun c_1 => ?_) (fun c_1 => ?_)
  · skip
    have nc_1 : ¬ (m % 8 = 0) := fun q_ => c_1 ((nI_eq (a := m % 8) (b := 0) (by omega) (by omega)).mpr q_)
    refine R_iconst (pc := 232) (v := 0) dX12_fits_232 (by decide) ?_
    exact R_zreturn (pc := 233) dX12_fits_233 rfl rfl (by decide) (by decide) ⟨rfl, rfl, S, FM.rf h⟩
  · skip
    have nc_1 : m % 8 = 0 := (nI_eq (a := m % 8) (b := 0) (by omega) (by omega)).mp c_1
    refine R_iload_n (pc := 213) 1 dX12_fits_213 rfl rfl ?_
    refine R_iload_n (pc := 214) 4 dX12_fits_214 rfl rfl ?_
    refine R_if_eq (pc := 215) (tgt := 223) dX12_fits_215 (by decide) (fun c_2 => absurd c_2 (by decide)) (fun c_2 => ?_)
    refine R_bipush (pc := 218) (v := 24) dX12_fits_218 (by decide) ?_
    refine R_goto (pc := 220) (tgt := 225) dX12_fits_220 (by decide) ?_
    refine R_icmp_lt (pc := 225) (tgt := 232) dX12_fits_225 (by decide) (fun c_3 => ?_) (fun c_3 => ?_)
    · skip
      have nc_3 : m < 24 := (nI_ltI (a := m) (b := 24) (by omega) (by omega)).mp c_3
      refine R_iconst (pc := 232) (v := 0) dX12_fits_232 (by decide) ?_
      exact R_zreturn (pc := 233) dX12_fits_233 rfl rfl (by decide) (by decide) ⟨rfl, rfl, S, FM.rf h⟩
    · skip
      have nc_3 : ¬ (m < 24) := fun q_ => c_3 ((nI_ltI (a := m) (b := 24) (by omega) (by omega)).mpr q_)
      refine R_iconst (pc := 228) (v := 1) dX12_fits_228 (by decide) ?_
      refine R_goto (pc := 229) (tgt := 233) dX12_fits_229 (by decide) ?_
      exact absurd hP (show ¬ (¬ (m % 8 = 0 ∧ 24 ≤ m)) by omega)
set_option maxHeartbeats 1000000 in
set_option maxRecDepth 100000 in
theorem oX12_fits_11s {l : Launch} {w : am_W} {h : am_H} {n : Nat} {ψ : Nat → oA} {z : fA} {i : mI} (S : MO h ψ z i) (hn : 90 ≤ n) (m s t : Nat) (hm : m ≤ 512) (hs : s ≤ 64) (ht : t ≤ 16) (hz1 : z 1 = nI m) (hz2 : z 2 = nI s) (hi1 : i 1 = nI t) (hP : ftP 11 0 m s t) : RH l w mX12_fits h n [.ref 61, .int 11, .int 0] (oQ h (some (.int 1)) ψ z i) := by
  refine RC.of [(0, .ref 61), (1, .int 11), (2, .int 0)] (by decide +kernel) rfl (Nat.le_of_ble_eq_true rfl) ?_
  refine R_aload_n (pc := 0) 0 dX12_fits_0 rfl rfl ?_
  refine R_get (pc := 1) dX12_fits_1 fX12_13 S.obj (by omega) rfl ?_
  refine R_iconst (pc := 4) (v := 1) dX12_fits_4 (by decide) ?_
  refine R_iald' (pc := 5) (j := 1) dX12_fits_5 S.siz (by omega) ⟨rfl, by show 1 < 4; omega, by decide⟩ ?_
  refine R_eqi (y := nI m) (hz1) ?_
  refine R_istore_n (pc := 6) (lv' := [(3, .int (nI m)), (0, .ref 61), (1, .int 11), (2, .int 0)]) dX12_fits_6 rfl (by decide) rfl ?_
  refine R_aload_n (pc := 7) 1 dX12_fits_7 rfl rfl ?_
  refine R_get (pc := 8) dX12_fits_8 fX12_13 S.obj (by omega) rfl ?_
  refine R_iconst (pc := 11) (v := 2) dX12_fits_11 (by decide) ?_
  refine R_iald' (pc := 12) (j := 2) dX12_fits_12 S.siz (by omega) ⟨rfl, by show 2 < 4; omega, by decide⟩ ?_
  refine R_eqi (y := nI s) (hz2) ?_
  refine R_istore (pc := 13) (lv' := [(4, .int (nI s)), (3, .int (nI m)), (0, .ref 61), (1, .int 11), (2, .int 0)]) dX12_fits_13 (by decide) rfl ?_
  refine R_iload_n (pc := 15) 3 dX12_fits_15 rfl rfl ?_
  refine R_tableIn (pc := 16) (tgt := 234) dX12_fits_16 (by decide) (by decide) rfl (by decide) ?_
  refine R_iload_n (pc := 234) 4 dX12_fits_234 rfl rfl ?_
  refine R_if_eq (pc := 235) (tgt := 259) dX12_fits_235 (by decide) (fun c_1 => ?_) (fun c_1 => absurd (rfl) c_1)
  refine R_iload_n (pc := 259) 1 dX12_fits_259 rfl rfl ?_
  refine R_iconst (pc := 260) (v := 1) dX12_fits_260 (by decide) ?_
  refine R_icmp_lt (pc := 261) (tgt := 268) dX12_fits_261 (by decide) (fun c_2 => ?_) (fun c_2 => ?_)
  · skip
    have nc_2 : m < 1 := (nI_ltI (a := m) (b := 1) (by omega) (by omega)).mp c_2
    refine R_iconst (pc := 268) (v := 0) dX12_fits_268 (by decide) ?_
    exact absurd hP (show ¬ (1 ≤ m) by omega)
  · skip
    have nc_2 : ¬ (m < 1) := fun q_ => c_2 ((nI_ltI (a := m) (b := 1) (by omega) (by omega)).mpr q_)
    refine R_iconst (pc := 264) (v := 1) dX12_fits_264 (by decide) ?_
    refine R_goto (pc := 265) (tgt := 269) dX12_fits_265 (by decide) ?_
    exact R_zreturn (pc := 269) dX12_fits_269 rfl rfl (by decide) (by decide) ⟨rfl, rfl, S, FM.rf h⟩
set_option maxHeartbeats 1000000 in
set_option maxRecDepth 100000 in
theorem oX12_fits_11sN {l : Launch} {w : am_W} {h : am_H} {n : Nat} {ψ : Nat → oA} {z : fA} {i : mI} (S : MO h ψ z i) (hn : 90 ≤ n) (m s t : Nat) (hm : m ≤ 512) (hs : s ≤ 64) (ht : t ≤ 16) (hz1 : z 1 = nI m) (hz2 : z 2 = nI s) (hi1 : i 1 = nI t) (hP : ¬ (ftP 11 0 m s t)) : RH l w mX12_fits h n [.ref 61, .int 11, .int 0] (oQ h (some (.int 0)) ψ z i) := by
  refine RC.of [(0, .ref 61), (1, .int 11), (2, .int 0)] (by decide +kernel) rfl (Nat.le_of_ble_eq_true rfl) ?_
  refine R_aload_n (pc := 0) 0 dX12_fits_0 rfl rfl ?_
  refine R_get (pc := 1) dX12_fits_1 fX12_13 S.obj (by omega) rfl ?_
  refine R_iconst (pc := 4) (v := 1) dX12_fits_4 (by decide) ?_
  refine R_iald' (pc := 5) (j := 1) dX12_fits_5 S.siz (by omega) ⟨rfl, by show 1 < 4; omega, by decide⟩ ?_
  refine R_eqi (y := nI m) (hz1) ?_
  refine R_istore_n (pc := 6) (lv' := [(3, .int (nI m)), (0, .ref 61), (1, .int 11), (2, .int 0)]) dX12_fits_6 rfl (by decide) rfl ?_
  refine R_aload_n (pc := 7) 1 dX12_fits_7 rfl rfl ?_
  refine R_get (pc := 8) dX12_fits_8 fX12_13 S.obj (by omega) rfl ?_
  refine R_iconst (pc := 11) (v := 2) dX12_fits_11 (by decide) ?_
  refine R_iald' (pc := 12) (j := 2) dX12_fits_12 S.siz (by omega) ⟨rfl, by show 2 < 4; omega, by decide⟩ ?_
  refine R_eqi (y := nI s) (hz2) ?_
  refine R_istore (pc := 13) (lv' := [(4, .int (nI s)), (3, .int (nI m)), (0, .ref 61), (1, .int 11), (2, .int 0)]) dX12_fits_13 (by decide) rfl ?_
  refine R_iload_n (pc := 15) 3 dX12_fits_15 rfl rfl ?_
  refine R_tableIn (pc := 16) (tgt := 234) dX12_fits_16 (by decide) (by decide) rfl (by decide) ?_
  refine R_iload_n (pc := 234) 4 dX12_fits_234 rfl rfl ?_
  refine R_if_eq (pc := 235) (tgt := 259) dX12_fits_235 (by decide) (fun c_1 => ?_) (fun c_1 => absurd (rfl) c_1)
  refine R_iload_n (pc := 259) 1 dX12_fits_259 rfl rfl ?_
  refine R_iconst (pc := 260) (v := 1) dX12_fits_260 (by decide) ?_
  refine R_icmp_lt (pc := 261) (tgt := 268) dX12_fits_261 (by decide) (fun c_2 => ?_) (fun c_2 => ?_)
  · skip
    have nc_2 : m < 1 := (nI_ltI (a := m) (b := 1) (by omega) (by omega)).mp c_2
    refine R_iconst (pc := 268) (v := 0) dX12_fits_268 (by decide) ?_
    exact R_zreturn (pc := 269) dX12_fits_269 rfl rfl (by decide) (by decide) ⟨rfl, rfl, S, FM.rf h⟩
  · skip
    have nc_2 : ¬ (m < 1) := fun q_ => c_2 ((nI_ltI (a := m) (b := 1) (by omega) (by omega)).mpr q_)
    refine R_iconst (pc := 264) (v := 1) dX12_fits_264 (by decide) ?_
    refine R_goto (pc := 265) (tgt := 269) dX12_fits_265 (by decide) ?_
    exact absurd hP (show ¬ (¬ (1 ≤ m)) by omega)
set_option maxHeartbeats 1000000 in
set_option maxRecDepth 100000 in
theorem oX12_fits_11o {l : Launch} {w : am_W} {h : am_H} {n : Nat} {ψ : Nat → oA} {z : fA} {i : mI} (S : MO h ψ z i) (hn : 90 ≤ n) (m s t : Nat) (hm : m ≤ 512) (hs : s ≤ 64) (ht : t ≤ 16) (hz1 : z 1 = nI m) (hz2 : z 2 = nI s) (hi1 : i 1 = nI t) (hP : ftP 11 1 m s t) : RH l w mX12_fits h n [.ref 61, .int 11, .int 1] (oQ h (some (.int 1)) ψ z i) := by
  refine RC.of [(0, .ref 61), (1, .int 11), (2, .int 1)] (by decide +kernel) rfl (Nat.le_of_ble_eq_true rfl) ?_
  refine R_aload_n (pc := 0) 0 dX12_fits_0 rfl rfl ?_
  refine R_get (pc := 1) dX12_fits_1 fX12_13 S.obj (by omega) rfl ?_
  refine R_iconst (pc := 4) (v := 1) dX12_fits_4 (by decide) ?_
  refine R_iald' (pc := 5) (j := 1) dX12_fits_5 S.siz (by omega) ⟨rfl, by show 1 < 4; omega, by decide⟩ ?_
  refine R_eqi (y := nI m) (hz1) ?_
  refine R_istore_n (pc := 6) (lv' := [(3, .int (nI m)), (0, .ref 61), (1, .int 11), (2, .int 1)]) dX12_fits_6 rfl (by decide) rfl ?_
  refine R_aload_n (pc := 7) 1 dX12_fits_7 rfl rfl ?_
  refine R_get (pc := 8) dX12_fits_8 fX12_13 S.obj (by omega) rfl ?_
  refine R_iconst (pc := 11) (v := 2) dX12_fits_11 (by decide) ?_
  refine R_iald' (pc := 12) (j := 2) dX12_fits_12 S.siz (by omega) ⟨rfl, by show 2 < 4; omega, by decide⟩ ?_
  refine R_eqi (y := nI s) (hz2) ?_
  refine R_istore (pc := 13) (lv' := [(4, .int (nI s)), (3, .int (nI m)), (0, .ref 61), (1, .int 11), (2, .int 1)]) dX12_fits_13 (by decide) rfl ?_
  refine R_iload_n (pc := 15) 3 dX12_fits_15 rfl rfl ?_
  refine R_tableIn (pc := 16) (tgt := 234) dX12_fits_16 (by decide) (by decide) rfl (by decide) ?_
  refine R_iload_n (pc := 234) 4 dX12_fits_234 rfl rfl ?_
  refine R_if_eq (pc := 235) (tgt := 259) dX12_fits_235 (by decide) (fun c_1 => absurd c_1 (by decide)) (fun c_1 => ?_)
  refine R_iload_n (pc := 238) 1 dX12_fits_238 rfl rfl ?_
  refine R_bipush (pc := 239) (v := 8) dX12_fits_239 (by decide) ?_
  refine R_irem (pc := 241) dX12_fits_241 (by decide) ?_
  refine R_eqi (y := nI (m % 8)) (nI_rem (a := m) (b := 8) (by omega) (by omega)) ?_
  refine R_if_ne (pc := 242) (tgt := 255) dX12_fits_242 (by decide) (fun c_2 => ?_) (fun c_2 => ?_)
  · skip
    have nc_2 : ¬ (m % 8 = 0) := fun q_ => c_2 ((nI_eq (a := m % 8) (b := 0) (by omega) (by omega)).mpr q_)
    refine R_iconst (pc := 255) (v := 0) dX12_fits_255 (by decide) ?_
    refine R_goto (pc := 256) (tgt := 269) dX12_fits_256 (by decide) ?_
    exact absurd hP (show ¬ (m % 8 = 0 ∧ 16 ≤ m) by omega)
  · skip
    have nc_2 : m % 8 = 0 := (nI_eq (a := m % 8) (b := 0) (by omega) (by omega)).mp c_2
    refine R_iload_n (pc := 245) 1 dX12_fits_245 rfl rfl ?_
    refine R_bipush (pc := 246) (v := 16) dX12_fits_246 (by decide) ?_
    refine R_icmp_lt (pc := 248) (tgt := 255) dX12_fits_248 (by decide) (fun c_3 => ?_) (fun c_3 => ?_)
    · skip
      have nc_3 : m < 16 := (nI_ltI (a := m) (b := 16) (by omega) (by omega)).mp c_3
      refine R_iconst (pc := 255) (v := 0) dX12_fits_255 (by decide) ?_
      refine R_goto (pc := 256) (tgt := 269) dX12_fits_256 (by decide) ?_
      exact absurd hP (show ¬ (m % 8 = 0 ∧ 16 ≤ m) by omega)
    · skip
      have nc_3 : ¬ (m < 16) := fun q_ => c_3 ((nI_ltI (a := m) (b := 16) (by omega) (by omega)).mpr q_)
      refine R_iconst (pc := 251) (v := 1) dX12_fits_251 (by decide) ?_
      refine R_goto (pc := 252) (tgt := 269) dX12_fits_252 (by decide) ?_
      exact R_zreturn (pc := 269) dX12_fits_269 rfl rfl (by decide) (by decide) ⟨rfl, rfl, S, FM.rf h⟩
set_option maxHeartbeats 1000000 in
set_option maxRecDepth 100000 in
theorem oX12_fits_11oN {l : Launch} {w : am_W} {h : am_H} {n : Nat} {ψ : Nat → oA} {z : fA} {i : mI} (S : MO h ψ z i) (hn : 90 ≤ n) (m s t : Nat) (hm : m ≤ 512) (hs : s ≤ 64) (ht : t ≤ 16) (hz1 : z 1 = nI m) (hz2 : z 2 = nI s) (hi1 : i 1 = nI t) (hP : ¬ (ftP 11 1 m s t)) : RH l w mX12_fits h n [.ref 61, .int 11, .int 1] (oQ h (some (.int 0)) ψ z i) := by
  refine RC.of [(0, .ref 61), (1, .int 11), (2, .int 1)] (by decide +kernel) rfl (Nat.le_of_ble_eq_true rfl) ?_
  refine R_aload_n (pc := 0) 0 dX12_fits_0 rfl rfl ?_
  refine R_get (pc := 1) dX12_fits_1 fX12_13 S.obj (by omega) rfl ?_
  refine R_iconst (pc := 4) (v := 1) dX12_fits_4 (by decide) ?_
  refine R_iald' (pc := 5) (j := 1) dX12_fits_5 S.siz (by omega) ⟨rfl, by show 1 < 4; omega, by decide⟩ ?_
  refine R_eqi (y := nI m) (hz1) ?_
  refine R_istore_n (pc := 6) (lv' := [(3, .int (nI m)), (0, .ref 61), (1, .int 11), (2, .int 1)]) dX12_fits_6 rfl (by decide) rfl ?_
  refine R_aload_n (pc := 7) 1 dX12_fits_7 rfl rfl ?_
  refine R_get (pc := 8) dX12_fits_8 fX12_13 S.obj (by omega) rfl ?_
  refine R_iconst (pc := 11) (v := 2) dX12_fits_11 (by decide) ?_
  refine R_iald' (pc := 12) (j := 2) dX12_fits_12 S.siz (by omega) ⟨rfl, by show 2 < 4; omega, by decide⟩ ?_
  refine R_eqi (y := nI s) (hz2) ?_
  refine R_istore (pc := 13) (lv' := [(4, .int (nI s)), (3, .int (nI m)), (0, .ref 61), (1, .int 11), (2, .int 1)]) dX12_fits_13 (by decide) rfl ?_
  refine R_iload_n (pc := 15) 3 dX12_fits_15 rfl rfl ?_
  refine R_tableIn (pc := 16) (tgt := 234) dX12_fits_16 (by decide) (by decide) rfl (by decide) ?_
  refine R_iload_n (pc := 234) 4 dX12_fits_234 rfl rfl ?_
  refine R_if_eq (pc := 235) (tgt := 259) dX12_fits_235 (by decide) (fun c_1 => absurd c_1 (by decide)) (fun c_1 => ?_)
  refine R_iload_n (pc := 238) 1 dX12_fits_238 rfl rfl ?_
  refine R_bipush (pc := 239) (v := 8) dX12_fits_239 (by decide) ?_
  refine R_irem (pc := 241) dX12_fits_241 (by decide) ?_
  refine R_eqi (y := nI (m % 8)) (nI_rem (a := m) (b := 8) (by omega) (by omega)) ?_
  refine R_if_ne (pc := 242) (tgt := 255) dX12_fits_242 (by decide) (fun c_2 => ?_) (fun c_2 => ?_)
  · skip
    have nc_2 : ¬ (m % 8 = 0) := fun q_ => c_2 ((nI_eq (a := m % 8) (b := 0) (by omega) (by omega)).mpr q_)
    refine R_iconst (pc := 255) (v := 0) dX12_fits_255 (by decide) ?_
    refine R_goto (pc := 256) (tgt := 269) dX12_fits_256 (by decide) ?_
    exact R_zreturn (pc := 269) dX12_fits_269 rfl rfl (by decide) (by decide) ⟨rfl, rfl, S, FM.rf h⟩
  · skip
    have nc_2 : m % 8 = 0 := (nI_eq (a := m % 8) (b := 0) (by omega) (by omega)).mp c_2
    refine R_iload_n (pc := 245) 1 dX12_fits_245 rfl rfl ?_
    refine R_bipush (pc := 246) (v := 16) dX12_fits_246 (by decide) ?_
    refine R_icmp_lt (pc := 248) (tgt := 255) dX12_fits_248 (by decide) (fun c_3 => ?_) (fun c_3 => ?_)
    · skip
      have nc_3 : m < 16 := (nI_ltI (a := m) (b := 16) (by omega) (by omega)).mp c_3
      refine R_iconst (pc := 255) (v := 0) dX12_fits_255 (by decide) ?_
      refine R_goto (pc := 256) (tgt := 269) dX12_fits_256 (by decide) ?_
      exact R_zreturn (pc := 269) dX12_fits_269 rfl rfl (by decide) (by decide) ⟨rfl, rfl, S, FM.rf h⟩
    · skip
      have nc_3 : ¬ (m < 16) := fun q_ => c_3 ((nI_ltI (a := m) (b := 16) (by omega) (by omega)).mpr q_)
      refine R_iconst (pc := 251) (v := 1) dX12_fits_251 (by decide) ?_
      refine R_goto (pc := 252) (tgt := 269) dX12_fits_252 (by decide) ?_
      exact absurd hP (show ¬ (¬ (m % 8 = 0 ∧ 16 ≤ m)) by omega)
set_option maxHeartbeats 1000000 in
set_option maxRecDepth 100000 in
theorem oX12_fits_12s {l : Launch} {w : am_W} {h : am_H} {n : Nat} {ψ : Nat → oA} {z : fA} {i : mI} (S : MO h ψ z i) (hn : 90 ≤ n) (m s t : Nat) (hm : m ≤ 512) (hs : s ≤ 64) (ht : t ≤ 16) (hz1 : z 1 = nI m) (hz2 : z 2 = nI s) (hi1 : i 1 = nI t) (hP : ftP 12 0 m s t) : RH l w mX12_fits h n [.ref 61, .int 12, .int 0] (oQ h (some (.int 1)) ψ z i) := by
  refine RC.of [(0, .ref 61), (1, .int 12), (2, .int 0)] (by decide +kernel) rfl (Nat.le_of_ble_eq_true rfl) ?_
  refine R_aload_n (pc := 0) 0 dX12_fits_0 rfl rfl ?_
  refine R_get (pc := 1) dX12_fits_1 fX12_13 S.obj (by omega) rfl ?_
  refine R_iconst (pc := 4) (v := 1) dX12_fits_4 (by decide) ?_
  refine R_iald' (pc := 5) (j := 1) dX12_fits_5 S.siz (by omega) ⟨rfl, by show 1 < 4; omega, by decide⟩ ?_
  refine R_eqi (y := nI m) (hz1) ?_
  refine R_istore_n (pc := 6) (lv' := [(3, .int (nI m)), (0, .ref 61), (1, .int 12), (2, .int 0)]) dX12_fits_6 rfl (by decide) rfl ?_
  refine R_aload_n (pc := 7) 1 dX12_fits_7 rfl rfl ?_
  refine R_get (pc := 8) dX12_fits_8 fX12_13 S.obj (by omega) rfl ?_
  refine R_iconst (pc := 11) (v := 2) dX12_fits_11 (by decide) ?_
  refine R_iald' (pc := 12) (j := 2) dX12_fits_12 S.siz (by omega) ⟨rfl, by show 2 < 4; omega, by decide⟩ ?_
  refine R_eqi (y := nI s) (hz2) ?_
  refine R_istore (pc := 13) (lv' := [(4, .int (nI s)), (3, .int (nI m)), (0, .ref 61), (1, .int 12), (2, .int 0)]) dX12_fits_13 (by decide) rfl ?_
  refine R_iload_n (pc := 15) 3 dX12_fits_15 rfl rfl ?_
  refine R_tableIn (pc := 16) (tgt := 270) dX12_fits_16 (by decide) (by decide) rfl (by decide) ?_
  refine R_iload (pc := 270) 0 dX12_fits_270 rfl ?_
  refine R_iconst (pc := 272) (v := 1) dX12_fits_272 (by decide) ?_
  refine R_icmp_lt (pc := 273) (tgt := 292) dX12_fits_273 (by decide) (fun c_1 => ?_) (fun c_1 => ?_)
  · skip
    have nc_1 : s < 1 := (nI_ltI (a := s) (b := 1) (by omega) (by omega)).mp c_1
    refine R_iconst (pc := 292) (v := 0) dX12_fits_292 (by decide) ?_
    exact absurd hP (show ¬ (1 ≤ s) by omega)
  · skip
    have nc_1 : ¬ (s < 1) := fun q_ => c_1 ((nI_ltI (a := s) (b := 1) (by omega) (by omega)).mpr q_)
    refine R_iload_n (pc := 276) 4 dX12_fits_276 rfl rfl ?_
    refine R_if_eq (pc := 277) (tgt := 288) dX12_fits_277 (by decide) (fun c_2 => ?_) (fun c_2 => absurd (rfl) c_2)
    refine R_iconst (pc := 288) (v := 1) dX12_fits_288 (by decide) ?_
    refine R_goto (pc := 289) (tgt := 293) dX12_fits_289 (by decide) ?_
    exact R_zreturn (pc := 293) dX12_fits_293 rfl rfl (by decide) (by decide) ⟨rfl, rfl, S, FM.rf h⟩
set_option maxHeartbeats 1000000 in
set_option maxRecDepth 100000 in
theorem oX12_fits_12sN {l : Launch} {w : am_W} {h : am_H} {n : Nat} {ψ : Nat → oA} {z : fA} {i : mI} (S : MO h ψ z i) (hn : 90 ≤ n) (m s t : Nat) (hm : m ≤ 512) (hs : s ≤ 64) (ht : t ≤ 16) (hz1 : z 1 = nI m) (hz2 : z 2 = nI s) (hi1 : i 1 = nI t) (hP : ¬ (ftP 12 0 m s t)) : RH l w mX12_fits h n [.ref 61, .int 12, .int 0] (oQ h (some (.int 0)) ψ z i) := by
  refine RC.of [(0, .ref 61), (1, .int 12), (2, .int 0)] (by decide +kernel) rfl (Nat.le_of_ble_eq_true rfl) ?_
  refine R_aload_n (pc := 0) 0 dX12_fits_0 rfl rfl ?_
  refine R_get (pc := 1) dX12_fits_1 fX12_13 S.obj (by omega) rfl ?_
  refine R_iconst (pc := 4) (v := 1) dX12_fits_4 (by decide) ?_
  refine R_iald' (pc := 5) (j := 1) dX12_fits_5 S.siz (by omega) ⟨rfl, by show 1 < 4; omega, by decide⟩ ?_
  refine R_eqi (y := nI m) (hz1) ?_
  refine R_istore_n (pc := 6) (lv' := [(3, .int (nI m)), (0, .ref 61), (1, .int 12), (2, .int 0)]) dX12_fits_6 rfl (by decide) rfl ?_
  refine R_aload_n (pc := 7) 1 dX12_fits_7 rfl rfl ?_
  refine R_get (pc := 8) dX12_fits_8 fX12_13 S.obj (by omega) rfl ?_
  refine R_iconst (pc := 11) (v := 2) dX12_fits_11 (by decide) ?_
  refine R_iald' (pc := 12) (j := 2) dX12_fits_12 S.siz (by omega) ⟨rfl, by show 2 < 4; omega, by decide⟩ ?_
  refine R_eqi (y := nI s) (hz2) ?_
  refine R_istore (pc := 13) (lv' := [(4, .int (nI s)), (3, .int (nI m)), (0, .ref 61), (1, .int 12), (2, .int 0)]) dX12_fits_13 (by decide) rfl ?_
  refine R_iload_n (pc := 15) 3 dX12_fits_15 rfl rfl ?_
  refine R_tableIn (pc := 16) (tgt := 270) dX12_fits_16 (by decide) (by decide) rfl (by decide) ?_
  refine R_iload (pc := 270) 0 dX12_fits_270 rfl ?_
  refine R_iconst (pc := 272) (v := 1) dX12_fits_272 (by decide) ?_
  refine R_icmp_lt (pc := 273) (tgt := 292) dX12_fits_273 (by decide) (fun c_1 => ?_) (fun c_1 => ?_)
  · skip
    have nc_1 : s < 1 := (nI_ltI (a := s) (b := 1) (by omega) (by omega)).mp c_1
    refine R_iconst (pc := 292) (v := 0) dX12_fits_292 (by decide) ?_
    exact R_zreturn (pc := 293) dX12_fits_293 rfl rfl (by decide) (by decide) ⟨rfl, rfl, S, FM.rf h⟩
  · skip
    have nc_1 : ¬ (s < 1) := fun q_ => c_1 ((nI_ltI (a := s) (b := 1) (by omega) (by omega)).mpr q_)
    refine R_iload_n (pc := 276) 4 dX12_fits_276 rfl rfl ?_
    refine R_if_eq (pc := 277) (tgt := 288) dX12_fits_277 (by decide) (fun c_2 => ?_) (fun c_2 => absurd (rfl) c_2)
    refine R_iconst (pc := 288) (v := 1) dX12_fits_288 (by decide) ?_
    refine R_goto (pc := 289) (tgt := 293) dX12_fits_289 (by decide) ?_
    exact absurd hP (show ¬ (¬ (1 ≤ s)) by omega)
set_option maxHeartbeats 1000000 in
set_option maxRecDepth 100000 in
theorem oX12_fits_12o {l : Launch} {w : am_W} {h : am_H} {n : Nat} {ψ : Nat → oA} {z : fA} {i : mI} (S : MO h ψ z i) (hn : 90 ≤ n) (m s t : Nat) (hm : m ≤ 512) (hs : s ≤ 64) (ht : t ≤ 16) (hz1 : z 1 = nI m) (hz2 : z 2 = nI s) (hi1 : i 1 = nI t) (hP : ftP 12 1 m s t) : RH l w mX12_fits h n [.ref 61, .int 12, .int 1] (oQ h (some (.int 1)) ψ z i) := by
  refine RC.of [(0, .ref 61), (1, .int 12), (2, .int 1)] (by decide +kernel) rfl (Nat.le_of_ble_eq_true rfl) ?_
  refine R_aload_n (pc := 0) 0 dX12_fits_0 rfl rfl ?_
  refine R_get (pc := 1) dX12_fits_1 fX12_13 S.obj (by omega) rfl ?_
  refine R_iconst (pc := 4) (v := 1) dX12_fits_4 (by decide) ?_
  refine R_iald' (pc := 5) (j := 1) dX12_fits_5 S.siz (by omega) ⟨rfl, by show 1 < 4; omega, by decide⟩ ?_
  refine R_eqi (y := nI m) (hz1) ?_
  refine R_istore_n (pc := 6) (lv' := [(3, .int (nI m)), (0, .ref 61), (1, .int 12), (2, .int 1)]) dX12_fits_6 rfl (by decide) rfl ?_
  refine R_aload_n (pc := 7) 1 dX12_fits_7 rfl rfl ?_
  refine R_get (pc := 8) dX12_fits_8 fX12_13 S.obj (by omega) rfl ?_
  refine R_iconst (pc := 11) (v := 2) dX12_fits_11 (by decide) ?_
  refine R_iald' (pc := 12) (j := 2) dX12_fits_12 S.siz (by omega) ⟨rfl, by show 2 < 4; omega, by decide⟩ ?_
  refine R_eqi (y := nI s) (hz2) ?_
  refine R_istore (pc := 13) (lv' := [(4, .int (nI s)), (3, .int (nI m)), (0, .ref 61), (1, .int 12), (2, .int 1)]) dX12_fits_13 (by decide) rfl ?_
  refine R_iload_n (pc := 15) 3 dX12_fits_15 rfl rfl ?_
  refine R_tableIn (pc := 16) (tgt := 270) dX12_fits_16 (by decide) (by decide) rfl (by decide) ?_
  refine R_iload (pc := 270) 0 dX12_fits_270 rfl ?_
  refine R_iconst (pc := 272) (v := 1) dX12_fits_272 (by decide) ?_
  refine R_icmp_lt (pc := 273) (tgt := 292) dX12_fits_273 (by decide) (fun c_1 => ?_) (fun c_1 => ?_)
  · skip
    have nc_1 : s < 1 := (nI_ltI (a := s) (b := 1) (by omega) (by omega)).mp c_1
    refine R_iconst (pc := 292) (v := 0) dX12_fits_292 (by decide) ?_
    exact absurd hP (show ¬ (1 ≤ s ∧ t ≤ m) by omega)
  · skip
    have nc_1 : ¬ (s < 1) := fun q_ => c_1 ((nI_ltI (a := s) (b := 1) (by omega) (by omega)).mpr q_)
    refine R_iload_n (pc := 276) 4 dX12_fits_276 rfl rfl ?_
    refine R_if_eq (pc := 277) (tgt := 288) dX12_fits_277 (by decide) (fun c_2 => absurd c_2 (by decide)) (fun c_2 => ?_)
    refine R_iload_n (pc := 280) 1 dX12_fits_280 rfl rfl ?_
    refine R_aload_n (pc := 281) 2 dX12_fits_281 rfl rfl ?_
    refine R_get (pc := 282) dX12_fits_282 fX12_16 S.obj (by omega) rfl ?_
    refine R_eqi (y := nI t) (hi1) ?_
    refine R_icmp_lt (pc := 285) (tgt := 292) dX12_fits_285 (by decide) (fun c_3 => ?_) (fun c_3 => ?_)
    · skip
      have nc_3 : m < t := (nI_ltI (a := m) (b := t) (by omega) (by omega)).mp c_3
      refine R_iconst (pc := 292) (v := 0) dX12_fits_292 (by decide) ?_
      exact absurd hP (show ¬ (1 ≤ s ∧ t ≤ m) by omega)
    · skip
      have nc_3 : ¬ (m < t) := fun q_ => c_3 ((nI_ltI (a := m) (b := t) (by omega) (by omega)).mpr q_)
      refine R_iconst (pc := 288) (v := 1) dX12_fits_288 (by decide) ?_
      refine R_goto (pc := 289) (tgt := 293) dX12_fits_289 (by decide) ?_
      exact R_zreturn (pc := 293) dX12_fits_293 rfl rfl (by decide) (by decide) ⟨rfl, rfl, S, FM.rf h⟩
set_option maxHeartbeats 1000000 in
set_option maxRecDepth 100000 in
theorem oX12_fits_12oN {l : Launch} {w : am_W} {h : am_H} {n : Nat} {ψ : Nat → oA} {z : fA} {i : mI} (S : MO h ψ z i) (hn : 90 ≤ n) (m s t : Nat) (hm : m ≤ 512) (hs : s ≤ 64) (ht : t ≤ 16) (hz1 : z 1 = nI m) (hz2 : z 2 = nI s) (hi1 : i 1 = nI t) (hP : ¬ (ftP 12 1 m s t)) : RH l w mX12_fits h n [.ref 61, .int 12, .int 1] (oQ h (some (.int 0)) ψ z i) := by
  refine RC.of [(0, .ref 61), (1, .int 12), (2, .int 1)] (by decide +kernel) rfl (Nat.le_of_ble_eq_true rfl) ?_
  refine R_aload_n (pc := 0) 0 dX12_fits_0 rfl rfl ?_
  refine R_get (pc := 1) dX12_fits_1 fX12_13 S.obj (by omega) rfl ?_
  refine R_iconst (pc := 4) (v := 1) dX12_fits_4 (by decide) ?_
  refine R_iald' (pc := 5) (j := 1) dX12_fits_5 S.siz (by omega) ⟨rfl, by show 1 < 4; omega, by decide⟩ ?_
  refine R_eqi (y := nI m) (hz1) ?_
  refine R_istore_n (pc := 6) (lv' := [(3, .int (nI m)), (0, .ref 61), (1, .int 12), (2, .int 1)]) dX12_fits_6 rfl (by decide) rfl ?_
  refine R_aload_n (pc := 7) 1 dX12_fits_7 rfl rfl ?_
  refine R_get (pc := 8) dX12_fits_8 fX12_13 S.obj (by omega) rfl ?_
  refine R_iconst (pc := 11) (v := 2) dX12_fits_11 (by decide) ?_
  refine R_iald' (pc := 12) (j := 2) dX12_fits_12 S.siz (by omega) ⟨rfl, by show 2 < 4; omega, by decide⟩ ?_
  refine R_eqi (y := nI s) (hz2) ?_
  refine R_istore (pc := 13) (lv' := [(4, .int (nI s)), (3, .int (nI m)), (0, .ref 61), (1, .int 12), (2, .int 1)]) dX12_fits_13 (by decide) rfl ?_
  refine R_iload_n (pc := 15) 3 dX12_fits_15 rfl rfl ?_
  refine R_tableIn (pc := 16) (tgt := 270) dX12_fits_16 (by decide) (by decide) rfl (by decide) ?_
  refine R_iload (pc := 270) 0 dX12_fits_270 rfl ?_
  refine R_iconst (pc := 272) (v := 1) dX12_fits_272 (by decide) ?_
  refine R_icmp_lt (pc := 273) (tgt := 292) dX12_fits_273 (by decide) (fun c_1 => ?_) (fun c_1 => ?_)
  · skip
    have nc_1 : s < 1 := (nI_ltI (a := s) (b := 1) (by omega) (by omega)).mp c_1
    refine R_iconst (pc := 292) (v := 0) dX12_fits_292 (by decide) ?_
    exact R_zreturn (pc := 293) dX12_fits_293 rfl rfl (by decide) (by decide) ⟨rfl, rfl, S, FM.rf h⟩
  · skip
    have nc_1 : ¬ (s < 1) := fun q_ => c_1 ((nI_ltI (a := s) (b := 1) (by omega) (by omega)).mpr q_)
    refine R_iload_n (pc := 276) 4 dX12_fits_276 rfl rfl ?_
    refine R_if_eq (pc := 277) (tgt := 288) dX12_fits_277 (by decide) (fun c_2 => absurd c_2 (by decide)) (fun c_2 => ?_)
    refine R_iload_n (pc := 280) 1 dX12_fits_280 rfl rfl ?_
    refine R_aload_n (pc := 281) 2 dX12_fits_281 rfl rfl ?_
    refine R_get (pc := 282) dX12_fits_282 fX12_16 S.obj (by omega) rfl ?_
    refine R_eqi (y := nI t) (hi1) ?_
    refine R_icmp_lt (pc := 285) (tgt := 292) dX12_fits_285 (by decide) (fun c_3 => ?_) (fun c_3 => ?_)
    · skip
      have nc_3 : m < t := (nI_ltI (a := m) (b := t) (by omega) (by omega)).mp c_3
      refine R_iconst (pc := 292) (v := 0) dX12_fits_292 (by decide) ?_
      exact R_zreturn (pc := 293) dX12_fits_293 rfl rfl (by decide) (by decide) ⟨rfl, rfl, S, FM.rf h⟩
    · skip
      have nc_3 : ¬ (m < t) := fun q_ => c_3 ((nI_ltI (a := m) (b := t) (by omega) (by omega)).mpr q_)
      refine R_iconst (pc := 288) (v := 1) dX12_fits_288 (by decide) ?_
      refine R_goto (pc := 289) (tgt := 293) dX12_fits_289 (by decide) ?_
      exact absurd hP (show ¬ (¬ (1 ≤ s ∧ t ≤ m)) by omega)
set_option maxHeartbeats 1000000 in
set_option maxRecDepth 100000 in
theorem oX12_fits_13s {l : Launch} {w : am_W} {h : am_H} {n : Nat} {ψ : Nat → oA} {z : fA} {i : mI} (S : MO h ψ z i) (hn : 90 ≤ n) (m s t : Nat) (hm : m ≤ 512) (hs : s ≤ 64) (ht : t ≤ 16) (hz1 : z 1 = nI m) (hz2 : z 2 = nI s) (hi1 : i 1 = nI t) (hP : ftP 13 0 m s t) : RH l w mX12_fits h n [.ref 61, .int 13, .int 0] (oQ h (some (.int 1)) ψ z i) := by
  refine RC.of [(0, .ref 61), (1, .int 13), (2, .int 0)] (by decide +kernel) rfl (Nat.le_of_ble_eq_true rfl) ?_
  refine R_aload_n (pc := 0) 0 dX12_fits_0 rfl rfl ?_
  refine R_get (pc := 1) dX12_fits_1 fX12_13 S.obj (by omega) rfl ?_
  refine R_iconst (pc := 4) (v := 1) dX12_fits_4 (by decide) ?_
  refine R_iald' (pc := 5) (j := 1) dX12_fits_5 S.siz (by omega) ⟨rfl, by show 1 < 4; omega, by decide⟩ ?_
  refine R_eqi (y := nI m) (hz1) ?_
  refine R_istore_n (pc := 6) (lv' := [(3, .int (nI m)), (0, .ref 61), (1, .int 13), (2, .int 0)]) dX12_fits_6 rfl (by decide) rfl ?_
  refine R_aload_n (pc := 7) 1 dX12_fits_7 rfl rfl ?_
  refine R_get (pc := 8) dX12_fits_8 fX12_13 S.obj (by omega) rfl ?_
  refine R_iconst (pc := 11) (v := 2) dX12_fits_11 (by decide) ?_
  refine R_iald' (pc := 12) (j := 2) dX12_fits_12 S.siz (by omega) ⟨rfl, by show 2 < 4; omega, by decide⟩ ?_
  refine R_eqi (y := nI s) (hz2) ?_
  refine R_istore (pc := 13) (lv' := [(4, .int (nI s)), (3, .int (nI m)), (0, .ref 61), (1, .int 13), (2, .int 0)]) dX12_fits_13 (by decide) rfl ?_
  refine R_iload_n (pc := 15) 3 dX12_fits_15 rfl rfl ?_
  refine R_tableIn (pc := 16) (tgt := 294) dX12_fits_16 (by decide) (by decide) rfl (by decide) ?_
  refine R_iload (pc := 294) 0 dX12_fits_294 rfl ?_
  refine R_bipush (pc := 296) (v := 7) dX12_fits_296 (by decide) ?_
  refine R_bipush (pc := 298) (v := 13) dX12_fits_298 (by decide) ?_
  refine R_callSp (pc := 300) (μ' := mX12_in) (As := [.int (nI s), .int 7, .int 13]) (st := []) dX12_fits_300 zX12_in lX12_108 ⟨by decide, by decide⟩ rfl rfl ⟨by decide, by decide⟩ rfl (Nat.le_of_ble_eq_true rfl) (qX12_in l w _ _ _ _ _) ?_
  refine R_if_eq (pc := 303) (tgt := 331) dX12_fits_303 (by decide) (fun c_1 => ?_) (fun c_1 => ?_)
  · skip
    have nc_1 : ¬ (7 ≤ s ∧ s ≤ 13) := (in_nat (s := s) (a := 7) (b := 13) (by omega) (by omega) (by omega)).mp c_1
    refine R_iconst (pc := 331) (v := 0) dX12_fits_331 (by decide) ?_
    exact absurd hP (show ¬ ((7 ≤ s ∧ s ≤ 13) ∧ t % 2 = 0) by omega)
  · skip
    have nc_1 : 7 ≤ s ∧ s ≤ 13 := Decidable.not_not.mp (fun q_ => c_1 ((in_nat (s := s) (a := 7) (b := 13) (by omega) (by omega) (by omega)).mpr q_))
    refine R_aload_n (pc := 306) 2 dX12_fits_306 rfl rfl ?_
    refine R_get (pc := 307) dX12_fits_307 fX12_16 S.obj (by omega) rfl ?_
    refine R_eqi (y := nI t) (hi1) ?_
    refine R_iconst (pc := 310) (v := 2) dX12_fits_310 (by decide) ?_
    refine R_irem (pc := 311) dX12_fits_311 (by decide) ?_
    refine R_eqi (y := nI (t % 2)) (nI_rem (a := t) (b := 2) (by omega) (by omega)) ?_
    refine R_if_ne (pc := 312) (tgt := 331) dX12_fits_312 (by decide) (fun c_2 => ?_) (fun c_2 => ?_)
    · skip
      have nc_2 : ¬ (t % 2 = 0) := fun q_ => c_2 ((nI_eq (a := t % 2) (b := 0) (by omega) (by omega)).mpr q_)
      refine R_iconst (pc := 331) (v := 0) dX12_fits_331 (by decide) ?_
      exact absurd hP (show ¬ ((7 ≤ s ∧ s ≤ 13) ∧ t % 2 = 0) by omega)
    · skip
      have nc_2 : t % 2 = 0 := (nI_eq (a := t % 2) (b := 0) (by omega) (by omega)).mp c_2
      refine R_iload_n (pc := 315) 4 dX12_fits_315 rfl rfl ?_
      refine R_if_eq (pc := 316) (tgt := 327) dX12_fits_316 (by decide) (fun c_3 => ?_) (fun c_3 => absurd (rfl) c_3)
      refine R_iconst (pc := 327) (v := 1) dX12_fits_327 (by decide) ?_
      refine R_goto (pc := 328) (tgt := 332) dX12_fits_328 (by decide) ?_
      exact R_zreturn (pc := 332) dX12_fits_332 rfl rfl (by decide) (by decide) ⟨rfl, rfl, S, FM.rf h⟩
set_option maxHeartbeats 1000000 in
set_option maxRecDepth 100000 in
theorem oX12_fits_13sN {l : Launch} {w : am_W} {h : am_H} {n : Nat} {ψ : Nat → oA} {z : fA} {i : mI} (S : MO h ψ z i) (hn : 90 ≤ n) (m s t : Nat) (hm : m ≤ 512) (hs : s ≤ 64) (ht : t ≤ 16) (hz1 : z 1 = nI m) (hz2 : z 2 = nI s) (hi1 : i 1 = nI t) (hP : ¬ (ftP 13 0 m s t)) : RH l w mX12_fits h n [.ref 61, .int 13, .int 0] (oQ h (some (.int 0)) ψ z i) := by
  refine RC.of [(0, .ref 61), (1, .int 13), (2, .int 0)] (by decide +kernel) rfl (Nat.le_of_ble_eq_true rfl) ?_
  refine R_aload_n (pc := 0) 0 dX12_fits_0 rfl rfl ?_
  refine R_get (pc := 1) dX12_fits_1 fX12_13 S.obj (by omega) rfl ?_
  refine R_iconst (pc := 4) (v := 1) dX12_fits_4 (by decide) ?_
  refine R_iald' (pc := 5) (j := 1) dX12_fits_5 S.siz (by omega) ⟨rfl, by show 1 < 4; omega, by decide⟩ ?_
  refine R_eqi (y := nI m) (hz1) ?_
  refine R_istore_n (pc := 6) (lv' := [(3, .int (nI m)), (0, .ref 61), (1, .int 13), (2, .int 0)]) dX12_fits_6 rfl (by decide) rfl ?_
  refine R_aload_n (pc := 7) 1 dX12_fits_7 rfl rfl ?_
  refine R_get (pc := 8) dX12_fits_8 fX12_13 S.obj (by omega) rfl ?_
  refine R_iconst (pc := 11) (v := 2) dX12_fits_11 (by decide) ?_
  refine R_iald' (pc := 12) (j := 2) dX12_fits_12 S.siz (by omega) ⟨rfl, by show 2 < 4; omega, by decide⟩ ?_
  refine R_eqi (y := nI s) (hz2) ?_
  refine R_istore (pc := 13) (lv' := [(4, .int (nI s)), (3, .int (nI m)), (0, .ref 61), (1, .int 13), (2, .int 0)]) dX12_fits_13 (by decide) rfl ?_
  refine R_iload_n (pc := 15) 3 dX12_fits_15 rfl rfl ?_
  refine R_tableIn (pc := 16) (tgt := 294) dX12_fits_16 (by decide) (by decide) rfl (by decide) ?_
  refine R_iload (pc := 294) 0 dX12_fits_294 rfl ?_
  refine R_bipush (pc := 296) (v := 7) dX12_fits_296 (by decide) ?_
  refine R_bipush (pc := 298) (v := 13) dX12_fits_298 (by decide) ?_
  refine R_callSp (pc := 300) (μ' := mX12_in) (As := [.int (nI s), .int 7, .int 13]) (st := []) dX12_fits_300 zX12_in lX12_108 ⟨by decide, by decide⟩ rfl rfl ⟨by decide, by decide⟩ rfl (Nat.le_of_ble_eq_true rfl) (qX12_in l w _ _ _ _ _) ?_
  refine R_if_eq (pc := 303) (tgt := 331) dX12_fits_303 (by decide) (fun c_1 => ?_) (fun c_1 => ?_)
  · skip
    have nc_1 : ¬ (7 ≤ s ∧ s ≤ 13) := (in_nat (s := s) (a := 7) (b := 13) (by omega) (by omega) (by omega)).mp c_1
    refine R_iconst (pc := 331) (v := 0) dX12_fits_331 (by decide) ?_
    exact R_zreturn (pc := 332) dX12_fits_332 rfl rfl (by decide) (by decide) ⟨rfl, rfl, S, FM.rf h⟩
  · skip
    have nc_1 : 7 ≤ s ∧ s ≤ 13 := Decidable.not_not.mp (fun q_ => c_1 ((in_nat (s := s) (a := 7) (b := 13) (by omega) (by omega) (by omega)).mpr q_))
    refine R_aload_n (pc := 306) 2 dX12_fits_306 rfl rfl ?_
    refine R_get (pc := 307) dX12_fits_307 fX12_16 S.obj (by omega) rfl ?_
    refine R_eqi (y := nI t) (hi1) ?_
    refine R_iconst (pc := 310) (v := 2) dX12_fits_310 (by decide) ?_
    refine R_irem (pc := 311) dX12_fits_311 (by decide) ?_
    refine R_eqi (y := nI (t % 2)) (nI_rem (a := t) (b := 2) (by omega) (by omega)) ?_
    refine R_if_ne (pc := 312) (tgt := 331) dX12_fits_312 (by decide) (fun c_2 => ?_) (fun c_2 => ?_)
    · skip
      have nc_2 : ¬ (t % 2 = 0) := fun q_ => c_2 ((nI_eq (a := t % 2) (b := 0) (by omega) (by omega)).mpr q_)
      refine R_iconst (pc := 331) (v := 0) dX12_fits_331 (by decide) ?_
      exact R_zreturn (pc := 332) dX12_fits_332 rfl rfl (by decide) (by decide) ⟨rfl, rfl, S, FM.rf h⟩
    · skip
      have nc_2 : t % 2 = 0 := (nI_eq (a := t % 2) (b := 0) (by omega) (by omega)).mp c_2
      refine R_iload_n (pc := 315) 4 dX12_fits_315 rfl rfl ?_
      refine R_if_eq (pc := 316) (tgt := 327) dX12_fits_316 (by decide) (fun c_3 => ?_) (fun c_3 => absurd (rfl) c_3)
      refine R_iconst (pc := 327) (v := 1) dX12_fits_327 (by decide) ?_
      refine R_goto (pc := 328) (tgt := 332) dX12_fits_328 (by decide) ?_
      exact absurd hP (show ¬ (¬ ((7 ≤ s ∧ s ≤ 13) ∧ t % 2 = 0)) by omega)
set_option maxHeartbeats 1000000 in
set_option maxRecDepth 100000 in
theorem oX12_fits_13o {l : Launch} {w : am_W} {h : am_H} {n : Nat} {ψ : Nat → oA} {z : fA} {i : mI} (S : MO h ψ z i) (hn : 90 ≤ n) (m s t : Nat) (hm : m ≤ 512) (hs : s ≤ 64) (ht : t ≤ 16) (hz1 : z 1 = nI m) (hz2 : z 2 = nI s) (hi1 : i 1 = nI t) (hP : ftP 13 1 m s t) : RH l w mX12_fits h n [.ref 61, .int 13, .int 1] (oQ h (some (.int 1)) ψ z i) := by
  refine RC.of [(0, .ref 61), (1, .int 13), (2, .int 1)] (by decide +kernel) rfl (Nat.le_of_ble_eq_true rfl) ?_
  refine R_aload_n (pc := 0) 0 dX12_fits_0 rfl rfl ?_
  refine R_get (pc := 1) dX12_fits_1 fX12_13 S.obj (by omega) rfl ?_
  refine R_iconst (pc := 4) (v := 1) dX12_fits_4 (by decide) ?_
  refine R_iald' (pc := 5) (j := 1) dX12_fits_5 S.siz (by omega) ⟨rfl, by show 1 < 4; omega, by decide⟩ ?_
  refine R_eqi (y := nI m) (hz1) ?_
  refine R_istore_n (pc := 6) (lv' := [(3, .int (nI m)), (0, .ref 61), (1, .int 13), (2, .int 1)]) dX12_fits_6 rfl (by decide) rfl ?_
  refine R_aload_n (pc := 7) 1 dX12_fits_7 rfl rfl ?_
  refine R_get (pc := 8) dX12_fits_8 fX12_13 S.obj (by omega) rfl ?_
  refine R_iconst (pc := 11) (v := 2) dX12_fits_11 (by decide) ?_
  refine R_iald' (pc := 12) (j := 2) dX12_fits_12 S.siz (by omega) ⟨rfl, by show 2 < 4; omega, by decide⟩ ?_
  refine R_eqi (y := nI s) (hz2) ?_
  refine R_istore (pc := 13) (lv' := [(4, .int (nI s)), (3, .int (nI m)), (0, .ref 61), (1, .int 13), (2, .int 1)]) dX12_fits_13 (by decide) rfl ?_
  refine R_iload_n (pc := 15) 3 dX12_fits_15 rfl rfl ?_
  refine R_tableIn (pc := 16) (tgt := 294) dX12_fits_16 (by decide) (by decide) rfl (by decide) ?_
  refine R_iload (pc := 294) 0 dX12_fits_294 rfl ?_
  refine R_bipush (pc := 296) (v := 7) dX12_fits_296 (by decide) ?_
  refine R_bipush (pc := 298) (v := 13) dX12_fits_298 (by decide) ?_
  refine R_callSp (pc := 300) (μ' := mX12_in) (As := [.int (nI s), .int 7, .int 13]) (st := []) dX12_fits_300 zX12_in lX12_108 ⟨by decide, by decide⟩ rfl rfl ⟨by decide, by decide⟩ rfl (Nat.le_of_ble_eq_true rfl) (qX12_in l w _ _ _ _ _) ?_
  refine R_if_eq (pc := 303) (tgt := 331) dX12_fits_303 (by decide) (fun c_1 => ?_) (fun c_1 => ?_)
  · skip
    have nc_1 : ¬ (7 ≤ s ∧ s ≤ 13) := (in_nat (s := s) (a := 7) (b := 13) (by omega) (by omega) (by omega)).mp c_1
    refine R_iconst (pc := 331) (v := 0) dX12_fits_331 (by decide) ?_
    exact absurd hP (show ¬ ((7 ≤ s ∧ s ≤ 13) ∧ t % 2 = 0 ∧ t ≤ m) by omega)
  · skip
    have nc_1 : 7 ≤ s ∧ s ≤ 13 := Decidable.not_not.mp (fun q_ => c_1 ((in_nat (s := s) (a := 7) (b := 13) (by omega) (by omega) (by omega)).mpr q_))
    refine R_aload_n (pc := 306) 2 dX12_fits_306 rfl rfl ?_
    refine R_get (pc := 307) dX12_fits_307 fX12_16 S.obj (by omega) rfl ?_
    refine R_eqi (y := nI t) (hi1) ?_
    refine R_iconst (pc := 310) (v := 2) dX12_fits_310 (by decide) ?_
    refine R_irem (pc := 311) dX12_fits_311 (by decide) ?_
    refine R_eqi (y := nI (t % 2)) (nI_rem (a := t) (b := 2) (by omega) (by omega)) ?_
    refine R_if_ne (pc := 312) (tgt := 331) dX12_fits_312 (by decide) (fun c_2 => ?_) (fun c_2 => ?_)
    · skip
      have nc_2 : ¬ (t % 2 = 0) := fun q_ => c_2 ((nI_eq (a := t % 2) (b := 0) (by omega) (by omega)).mpr q_)
      refine R_iconst (pc := 331) (v := 0) dX12_fits_331 (by decide) ?_
      exact absurd hP (show ¬ ((7 ≤ s ∧ s ≤ 13) ∧ t % 2 = 0 ∧ t ≤ m) by omega)
    · skip
      have nc_2 : t % 2 = 0 := (nI_eq (a := t % 2) (b := 0) (by omega) (by omega)).mp c_2
      refine R_iload_n (pc := 315) 4 dX12_fits_315 rfl rfl ?_
      refine R_if_eq (pc := 316) (tgt := 327) dX12_fits_316 (by decide) (fun c_3 => absurd c_3 (by decide)) (fun c_3 => ?_)
      refine R_iload_n (pc := 319) 1 dX12_fits_319 rfl rfl ?_
      refine R_aload_n (pc := 320) 2 dX12_fits_320 rfl rfl ?_
      refine R_get (pc := 321) dX12_fits_321 fX12_16 S.obj (by omega) rfl ?_
      refine R_eqi (y := nI t) (hi1) ?_
      refine R_icmp_lt (pc := 324) (tgt := 331) dX12_fits_324 (by decide) (fun c_4 => ?_) (fun c_4 => ?_)
      · skip
        have nc_4 : m < t := (nI_ltI (a := m) (b := t) (by omega) (by omega)).mp c_4
        refine R_iconst (pc := 331) (v := 0) dX12_fits_331 (by decide) ?_
        exact absurd hP (show ¬ ((7 ≤ s ∧ s ≤ 13) ∧ t % 2 = 0 ∧ t ≤ m) by omega)
      · skip
        have nc_4 : ¬ (m < t) := fun q_ => c_4 ((nI_ltI (a := m) (b := t) (by omega) (by omega)).mpr q_)
        refine R_iconst (pc := 327) (v := 1) dX12_fits_327 (by decide) ?_
        refine R_goto (pc := 328) (tgt := 332) dX12_fits_328 (by decide) ?_
        exact R_zreturn (pc := 332) dX12_fits_332 rfl rfl (by decide) (by decide) ⟨rfl, rfl, S, FM.rf h⟩
set_option maxHeartbeats 1000000 in
set_option maxRecDepth 100000 in
theorem oX12_fits_13oN {l : Launch} {w : am_W} {h : am_H} {n : Nat} {ψ : Nat → oA} {z : fA} {i : mI} (S : MO h ψ z i) (hn : 90 ≤ n) (m s t : Nat) (hm : m ≤ 512) (hs : s ≤ 64) (ht : t ≤ 16) (hz1 : z 1 = nI m) (hz2 : z 2 = nI s) (hi1 : i 1 = nI t) (hP : ¬ (ftP 13 1 m s t)) : RH l w mX12_fits h n [.ref 61, .int 13, .int 1] (oQ h (some (.int 0)) ψ z i) := by
  refine RC.of [(0, .ref 61), (1, .int 13), (2, .int 1)] (by decide +kernel) rfl (Nat.le_of_ble_eq_true rfl) ?_
  refine R_aload_n (pc := 0) 0 dX12_fits_0 rfl rfl ?_
  refine R_get (pc := 1) dX12_fits_1 fX12_13 S.obj (by omega) rfl ?_
  refine R_iconst (pc := 4) (v := 1) dX12_fits_4 (by decide) ?_
  refine R_iald' (pc := 5) (j := 1) dX12_fits_5 S.siz (by omega) ⟨rfl, by show 1 < 4; omega, by decide⟩ ?_
  refine R_eqi (y := nI m) (hz1) ?_
  refine R_istore_n (pc := 6) (lv' := [(3, .int (nI m)), (0, .ref 61), (1, .int 13), (2, .int 1)]) dX12_fits_6 rfl (by decide) rfl ?_
  refine R_aload_n (pc := 7) 1 dX12_fits_7 rfl rfl ?_
  refine R_get (pc := 8) dX12_fits_8 fX12_13 S.obj (by omega) rfl ?_
  refine R_iconst (pc := 11) (v := 2) dX12_fits_11 (by decide) ?_
  refine R_iald' (pc := 12) (j := 2) dX12_fits_12 S.siz (by omega) ⟨rfl, by show 2 < 4; omega, by decide⟩ ?_
  refine R_eqi (y := nI s) (hz2) ?_
  refine R_istore (pc := 13) (lv' := [(4, .int (nI s)), (3, .int (nI m)), (0, .ref 61), (1, .int 13), (2, .int 1)]) dX12_fits_13 (by decide) rfl ?_
  refine R_iload_n (pc := 15) 3 dX12_fits_15 rfl rfl ?_
  refine R_tableIn (pc := 16) (tgt := 294) dX12_fits_16 (by decide) (by decide) rfl (by decide) ?_
  refine R_iload (pc := 294) 0 dX12_fits_294 rfl ?_
  refine R_bipush (pc := 296) (v := 7) dX12_fits_296 (by decide) ?_
  refine R_bipush (pc := 298) (v := 13) dX12_fits_298 (by decide) ?_
  refine R_callSp (pc := 300) (μ' := mX12_in) (As := [.int (nI s), .int 7, .int 13]) (st := []) dX12_fits_300 zX12_in lX12_108 ⟨by decide, by decide⟩ rfl rfl ⟨by decide, by decide⟩ rfl (Nat.le_of_ble_eq_true rfl) (qX12_in l w _ _ _ _ _) ?_
  refine R_if_eq (pc := 303) (tgt := 331) dX12_fits_303 (by decide) (fun c_1 => ?_) (fun c_1 => ?_)
  · skip
    have nc_1 : ¬ (7 ≤ s ∧ s ≤ 13) := (in_nat (s := s) (a := 7) (b := 13) (by omega) (by omega) (by omega)).mp c_1
    refine R_iconst (pc := 331) (v := 0) dX12_fits_331 (by decide) ?_
    exact R_zreturn (pc := 332) dX12_fits_332 rfl rfl (by decide) (by decide) ⟨rfl, rfl, S, FM.rf h⟩
  · skip
    have nc_1 : 7 ≤ s ∧ s ≤ 13 := Decidable.not_not.mp (fun q_ => c_1 ((in_nat (s := s) (a := 7) (b := 13) (by omega) (by omega) (by omega)).mpr q_))
    refine R_aload_n (pc := 306) 2 dX12_fits_306 rfl rfl ?_
    refine R_get (pc := 307) dX12_fits_307 fX12_16 S.obj (by omega) rfl ?_
    refine R_eqi (y := nI t) (hi1) ?_
    refine R_iconst (pc := 310) (v := 2) dX12_fits_310 (by decide) ?_
    refine R_irem (pc := 311) dX12_fits_311 (by decide) ?_
    refine R_eqi (y := nI (t % 2)) (nI_rem (a := t) (b := 2) (by omega) (by omega)) ?_
    refine R_if_ne (pc := 312) (tgt := 331) dX12_fits_312 (by decide) (fun c_2 => ?_) (fun c_2 => ?_)
    · skip
      have nc_2 : ¬ (t % 2 = 0) := fun q_ => c_2 ((nI_eq (a := t % 2) (b := 0) (by omega) (by omega)).mpr q_)
      refine R_iconst (pc := 331) (v := 0) dX12_fits_331 (by decide) ?_
      exact R_zreturn (pc := 332) dX12_fits_332 rfl rfl (by decide) (by decide) ⟨rfl, rfl, S, FM.rf h⟩
    · skip
      have nc_2 : t % 2 = 0 := (nI_eq (a := t % 2) (b := 0) (by omega) (by omega)).mp c_2
      refine R_iload_n (pc := 315) 4 dX12_fits_315 rfl rfl ?_
      refine R_if_eq (pc := 316) (tgt := 327) dX12_fits_316 (by decide) (fun c_3 => absurd c_3 (by decide)) (fun c_3 => ?_)
      refine R_iload_n (pc := 319) 1 dX12_fits_319 rfl rfl ?_
      refine R_aload_n (pc := 320) 2 dX12_fits_320 rfl rfl ?_
      refine R_get (pc := 321) dX12_fits_321 fX12_16 S.obj (by omega) rfl ?_
      refine R_eqi (y := nI t) (hi1) ?_
      refine R_icmp_lt (pc := 324) (tgt := 331) dX12_fits_324 (by decide) (fun c_4 => ?_) (fun c_4 => ?_)
      · skip
        have nc_4 : m < t := (nI_ltI (a := m) (b := t) (by omega) (by omega)).mp c_4
        refine R_iconst (pc := 331) (v := 0) dX12_fits_331 (by decide) ?_
        exact R_zreturn (pc := 332) dX12_fits_332 rfl rfl (by decide) (by decide) ⟨rfl, rfl, S, FM.rf h⟩
      · skip
        have nc_4 : ¬ (m < t) := fun q_ => c_4 ((nI_ltI (a := m) (b := t) (by omega) (by omega)).mpr q_)
        refine R_iconst (pc := 327) (v := 1) dX12_fits_327 (by decide) ?_
        refine R_goto (pc := 328) (tgt := 332) dX12_fits_328 (by decide) ?_
        exact absurd hP (show ¬ (¬ ((7 ≤ s ∧ s ≤ 13) ∧ t % 2 = 0 ∧ t ≤ m)) by omega)
set_option maxHeartbeats 1000000 in
set_option maxRecDepth 100000 in
theorem oX12_fits_14s {l : Launch} {w : am_W} {h : am_H} {n : Nat} {ψ : Nat → oA} {z : fA} {i : mI} (S : MO h ψ z i) (hn : 90 ≤ n) (m s t : Nat) (hm : m ≤ 512) (hs : s ≤ 64) (ht : t ≤ 16) (hz1 : z 1 = nI m) (hz2 : z 2 = nI s) (hi1 : i 1 = nI t) (hP : ftP 14 0 m s t) : RH l w mX12_fits h n [.ref 61, .int 14, .int 0] (oQ h (some (.int 1)) ψ z i) := by
  refine RC.of [(0, .ref 61), (1, .int 14), (2, .int 0)] (by decide +kernel) rfl (Nat.le_of_ble_eq_true rfl) ?_
  refine R_aload_n (pc := 0) 0 dX12_fits_0 rfl rfl ?_
  refine R_get (pc := 1) dX12_fits_1 fX12_13 S.obj (by omega) rfl ?_
  refine R_iconst (pc := 4) (v := 1) dX12_fits_4 (by decide) ?_
  refine R_iald' (pc := 5) (j := 1) dX12_fits_5 S.siz (by omega) ⟨rfl, by show 1 < 4; omega, by decide⟩ ?_
  refine R_eqi (y := nI m) (hz1) ?_
  refine R_istore_n (pc := 6) (lv' := [(3, .int (nI m)), (0, .ref 61), (1, .int 14), (2, .int 0)]) dX12_fits_6 rfl (by decide) rfl ?_
  refine R_aload_n (pc := 7) 1 dX12_fits_7 rfl rfl ?_
  refine R_get (pc := 8) dX12_fits_8 fX12_13 S.obj (by omega) rfl ?_
  refine R_iconst (pc := 11) (v := 2) dX12_fits_11 (by decide) ?_
  refine R_iald' (pc := 12) (j := 2) dX12_fits_12 S.siz (by omega) ⟨rfl, by show 2 < 4; omega, by decide⟩ ?_
  refine R_eqi (y := nI s) (hz2) ?_
  refine R_istore (pc := 13) (lv' := [(4, .int (nI s)), (3, .int (nI m)), (0, .ref 61), (1, .int 14), (2, .int 0)]) dX12_fits_13 (by decide) rfl ?_
  refine R_iload_n (pc := 15) 3 dX12_fits_15 rfl rfl ?_
  refine R_tableIn (pc := 16) (tgt := 333) dX12_fits_16 (by decide) (by decide) rfl (by decide) ?_
  refine R_iload_n (pc := 333) 4 dX12_fits_333 rfl rfl ?_
  refine R_if_eq (pc := 334) (tgt := 345) dX12_fits_334 (by decide) (fun c_1 => ?_) (fun c_1 => absurd (rfl) c_1)
  refine R_iconst (pc := 345) (v := 1) dX12_fits_345 (by decide) ?_
  refine R_goto (pc := 346) (tgt := 350) dX12_fits_346 (by decide) ?_
  exact R_zreturn (pc := 350) dX12_fits_350 rfl rfl (by decide) (by decide) ⟨rfl, rfl, S, FM.rf h⟩
set_option maxHeartbeats 1000000 in
set_option maxRecDepth 100000 in
theorem oX12_fits_14o {l : Launch} {w : am_W} {h : am_H} {n : Nat} {ψ : Nat → oA} {z : fA} {i : mI} (S : MO h ψ z i) (hn : 90 ≤ n) (m s t : Nat) (hm : m ≤ 512) (hs : s ≤ 64) (ht : t ≤ 16) (hz1 : z 1 = nI m) (hz2 : z 2 = nI s) (hi1 : i 1 = nI t) (hP : ftP 14 1 m s t) : RH l w mX12_fits h n [.ref 61, .int 14, .int 1] (oQ h (some (.int 1)) ψ z i) := by
  refine RC.of [(0, .ref 61), (1, .int 14), (2, .int 1)] (by decide +kernel) rfl (Nat.le_of_ble_eq_true rfl) ?_
  refine R_aload_n (pc := 0) 0 dX12_fits_0 rfl rfl ?_
  refine R_get (pc := 1) dX12_fits_1 fX12_13 S.obj (by omega) rfl ?_
  refine R_iconst (pc := 4) (v := 1) dX12_fits_4 (by decide) ?_
  refine R_iald' (pc := 5) (j := 1) dX12_fits_5 S.siz (by omega) ⟨rfl, by show 1 < 4; omega, by decide⟩ ?_
  refine R_eqi (y := nI m) (hz1) ?_
  refine R_istore_n (pc := 6) (lv' := [(3, .int (nI m)), (0, .ref 61), (1, .int 14), (2, .int 1)]) dX12_fits_6 rfl (by decide) rfl ?_
  refine R_aload_n (pc := 7) 1 dX12_fits_7 rfl rfl ?_
  refine R_get (pc := 8) dX12_fits_8 fX12_13 S.obj (by omega) rfl ?_
  refine R_iconst (pc := 11) (v := 2) dX12_fits_11 (by decide) ?_
  refine R_iald' (pc := 12) (j := 2) dX12_fits_12 S.siz (by omega) ⟨rfl, by show 2 < 4; omega, by decide⟩ ?_
  refine R_eqi (y := nI s) (hz2) ?_
  refine R_istore (pc := 13) (lv' := [(4, .int (nI s)), (3, .int (nI m)), (0, .ref 61), (1, .int 14), (2, .int 1)]) dX12_fits_13 (by decide) rfl ?_
  refine R_iload_n (pc := 15) 3 dX12_fits_15 rfl rfl ?_
  refine R_tableIn (pc := 16) (tgt := 333) dX12_fits_16 (by decide) (by decide) rfl (by decide) ?_
  refine R_iload_n (pc := 333) 4 dX12_fits_333 rfl rfl ?_
  refine R_if_eq (pc := 334) (tgt := 345) dX12_fits_334 (by decide) (fun c_1 => absurd c_1 (by decide)) (fun c_1 => ?_)
  refine R_iload_n (pc := 337) 1 dX12_fits_337 rfl rfl ?_
  refine R_aload_n (pc := 338) 2 dX12_fits_338 rfl rfl ?_
  refine R_get (pc := 339) dX12_fits_339 fX12_16 S.obj (by omega) rfl ?_
  refine R_eqi (y := nI t) (hi1) ?_
  refine R_icmp_lt (pc := 342) (tgt := 349) dX12_fits_342 (by decide) (fun c_2 => ?_) (fun c_2 => ?_)
  · skip
    have nc_2 : m < t := (nI_ltI (a := m) (b := t) (by omega) (by omega)).mp c_2
    refine R_iconst (pc := 349) (v := 0) dX12_fits_349 (by decide) ?_
    exact absurd hP (show ¬ (t ≤ m) by omega)
  · skip
    have nc_2 : ¬ (m < t) := fun q_ => c_2 ((nI_ltI (a := m) (b := t) (by omega) (by omega)).mpr q_)
    refine R_iconst (pc := 345) (v := 1) dX12_fits_345 (by decide) ?_
    refine R_goto (pc := 346) (tgt := 350) dX12_fits_346 (by decide) ?_
    exact R_zreturn (pc := 350) dX12_fits_350 rfl rfl (by decide) (by decide) ⟨rfl, rfl, S, FM.rf h⟩
set_option maxHeartbeats 1000000 in
set_option maxRecDepth 100000 in
theorem oX12_fits_14oN {l : Launch} {w : am_W} {h : am_H} {n : Nat} {ψ : Nat → oA} {z : fA} {i : mI} (S : MO h ψ z i) (hn : 90 ≤ n) (m s t : Nat) (hm : m ≤ 512) (hs : s ≤ 64) (ht : t ≤ 16) (hz1 : z 1 = nI m) (hz2 : z 2 = nI s) (hi1 : i 1 = nI t) (hP : ¬ (ftP 14 1 m s t)) : RH l w mX12_fits h n [.ref 61, .int 14, .int 1] (oQ h (some (.int 0)) ψ z i) := by
  refine RC.of [(0, .ref 61), (1, .int 14), (2, .int 1)] (by decide +kernel) rfl (Nat.le_of_ble_eq_true rfl) ?_
  refine R_aload_n (pc := 0) 0 dX12_fits_0 rfl rfl ?_
  refine R_get (pc := 1) dX12_fits_1 fX12_13 S.obj (by omega) rfl ?_
  refine R_iconst (pc := 4) (v := 1) dX12_fits_4 (by decide) ?_
  refine R_iald' (pc := 5) (j := 1) dX12_fits_5 S.siz (by omega) ⟨rfl, by show 1 < 4; omega, by decide⟩ ?_
  refine R_eqi (y := nI m) (hz1) ?_
  refine R_istore_n (pc := 6) (lv' := [(3, .int (nI m)), (0, .ref 61), (1, .int 14), (2, .int 1)]) dX12_fits_6 rfl (by decide) rfl ?_
  refine R_aload_n (pc := 7) 1 dX12_fits_7 rfl rfl ?_
  refine R_get (pc := 8) dX12_fits_8 fX12_13 S.obj (by omega) rfl ?_
  refine R_iconst (pc := 11) (v := 2) dX12_fits_11 (by decide) ?_
  refine R_iald' (pc := 12) (j := 2) dX12_fits_12 S.siz (by omega) ⟨rfl, by show 2 < 4; omega, by decide⟩ ?_
  refine R_eqi (y := nI s) (hz2) ?_
  refine R_istore (pc := 13) (lv' := [(4, .int (nI s)), (3, .int (nI m)), (0, .ref 61), (1, .int 14), (2, .int 1)]) dX12_fits_13 (by decide) rfl ?_
  refine R_iload_n (pc := 15) 3 dX12_fits_15 rfl rfl ?_
  refine R_tableIn (pc := 16) (tgt := 333) dX12_fits_16 (by decide) (by decide) rfl (by decide) ?_
  refine R_iload_n (pc := 333) 4 dX12_fits_333 rfl rfl ?_
  refine R_if_eq (pc := 334) (tgt := 345) dX12_fits_334 (by decide) (fun c_1 => absurd c_1 (by decide)) (fun c_1 => ?_)
  refine R_iload_n (pc := 337) 1 dX12_fits_337 rfl rfl ?_
  refine R_aload_n (pc := 338) 2 dX12_fits_338 rfl rfl ?_
  refine R_get (pc := 339) dX12_fits_339 fX12_16 S.obj (by omega) rfl ?_
  refine R_eqi (y := nI t) (hi1) ?_
  refine R_icmp_lt (pc := 342) (tgt := 349) dX12_fits_342 (by decide) (fun c_2 => ?_) (fun c_2 => ?_)
  · skip
    have nc_2 : m < t := (nI_ltI (a := m) (b := t) (by omega) (by omega)).mp c_2
    refine R_iconst (pc := 349) (v := 0) dX12_fits_349 (by decide) ?_
    exact R_zreturn (pc := 350) dX12_fits_350 rfl rfl (by decide) (by decide) ⟨rfl, rfl, S, FM.rf h⟩
  · skip
    have nc_2 : ¬ (m < t) := fun q_ => c_2 ((nI_ltI (a := m) (b := t) (by omega) (by omega)).mpr q_)
    refine R_iconst (pc := 345) (v := 1) dX12_fits_345 (by decide) ?_
    refine R_goto (pc := 346) (tgt := 350) dX12_fits_346 (by decide) ?_
    exact absurd hP (show ¬ (¬ (t ≤ m)) by omega)
set_option maxHeartbeats 1000000 in
set_option maxRecDepth 100000 in
theorem oX12_fits_15s {l : Launch} {w : am_W} {h : am_H} {n : Nat} {ψ : Nat → oA} {z : fA} {i : mI} (S : MO h ψ z i) (hn : 90 ≤ n) (m s t : Nat) (hm : m ≤ 512) (hs : s ≤ 64) (ht : t ≤ 16) (hz1 : z 1 = nI m) (hz2 : z 2 = nI s) (hi1 : i 1 = nI t) (hP : ftP 15 0 m s t) : RH l w mX12_fits h n [.ref 61, .int 15, .int 0] (oQ h (some (.int 1)) ψ z i) := by
  refine RC.of [(0, .ref 61), (1, .int 15), (2, .int 0)] (by decide +kernel) rfl (Nat.le_of_ble_eq_true rfl) ?_
  refine R_aload_n (pc := 0) 0 dX12_fits_0 rfl rfl ?_
  refine R_get (pc := 1) dX12_fits_1 fX12_13 S.obj (by omega) rfl ?_
  refine R_iconst (pc := 4) (v := 1) dX12_fits_4 (by decide) ?_
  refine R_iald' (pc := 5) (j := 1) dX12_fits_5 S.siz (by omega) ⟨rfl, by show 1 < 4; omega, by decide⟩ ?_
  refine R_eqi (y := nI m) (hz1) ?_
  refine R_istore_n (pc := 6) (lv' := [(3, .int (nI m)), (0, .ref 61), (1, .int 15), (2, .int 0)]) dX12_fits_6 rfl (by decide) rfl ?_
  refine R_aload_n (pc := 7) 1 dX12_fits_7 rfl rfl ?_
  refine R_get (pc := 8) dX12_fits_8 fX12_13 S.obj (by omega) rfl ?_
  refine R_iconst (pc := 11) (v := 2) dX12_fits_11 (by decide) ?_
  refine R_iald' (pc := 12) (j := 2) dX12_fits_12 S.siz (by omega) ⟨rfl, by show 2 < 4; omega, by decide⟩ ?_
  refine R_eqi (y := nI s) (hz2) ?_
  refine R_istore (pc := 13) (lv' := [(4, .int (nI s)), (3, .int (nI m)), (0, .ref 61), (1, .int 15), (2, .int 0)]) dX12_fits_13 (by decide) rfl ?_
  refine R_iload_n (pc := 15) 3 dX12_fits_15 rfl rfl ?_
  refine R_tableIn (pc := 16) (tgt := 351) dX12_fits_16 (by decide) (by decide) rfl (by decide) ?_
  refine R_iload_n (pc := 351) 4 dX12_fits_351 rfl rfl ?_
  refine R_if_eq (pc := 352) (tgt := 361) dX12_fits_352 (by decide) (fun c_1 => ?_) (fun c_1 => absurd (rfl) c_1)
  refine R_iconst (pc := 361) (v := 1) dX12_fits_361 (by decide) ?_
  refine R_goto (pc := 362) (tgt := 366) dX12_fits_362 (by decide) ?_
  exact R_zreturn (pc := 366) dX12_fits_366 rfl rfl (by decide) (by decide) ⟨rfl, rfl, S, FM.rf h⟩
set_option maxHeartbeats 1000000 in
set_option maxRecDepth 100000 in
theorem oX12_fits_15o {l : Launch} {w : am_W} {h : am_H} {n : Nat} {ψ : Nat → oA} {z : fA} {i : mI} (S : MO h ψ z i) (hn : 90 ≤ n) (m s t : Nat) (hm : m ≤ 512) (hs : s ≤ 64) (ht : t ≤ 16) (hz1 : z 1 = nI m) (hz2 : z 2 = nI s) (hi1 : i 1 = nI t) (hP : ftP 15 1 m s t) : RH l w mX12_fits h n [.ref 61, .int 15, .int 1] (oQ h (some (.int 1)) ψ z i) := by
  refine RC.of [(0, .ref 61), (1, .int 15), (2, .int 1)] (by decide +kernel) rfl (Nat.le_of_ble_eq_true rfl) ?_
  refine R_aload_n (pc := 0) 0 dX12_fits_0 rfl rfl ?_
  refine R_get (pc := 1) dX12_fits_1 fX12_13 S.obj (by omega) rfl ?_
  refine R_iconst (pc := 4) (v := 1) dX12_fits_4 (by decide) ?_
  refine R_iald' (pc := 5) (j := 1) dX12_fits_5 S.siz (by omega) ⟨rfl, by show 1 < 4; omega, by decide⟩ ?_
  refine R_eqi (y := nI m) (hz1) ?_
  refine R_istore_n (pc := 6) (lv' := [(3, .int (nI m)), (0, .ref 61), (1, .int 15), (2, .int 1)]) dX12_fits_6 rfl (by decide) rfl ?_
  refine R_aload_n (pc := 7) 1 dX12_fits_7 rfl rfl ?_
  refine R_get (pc := 8) dX12_fits_8 fX12_13 S.obj (by omega) rfl ?_
  refine R_iconst (pc := 11) (v := 2) dX12_fits_11 (by decide) ?_
  refine R_iald' (pc := 12) (j := 2) dX12_fits_12 S.siz (by omega) ⟨rfl, by show 2 < 4; omega, by decide⟩ ?_
  refine R_eqi (y := nI s) (hz2) ?_
  refine R_istore (pc := 13) (lv' := [(4, .int (nI s)), (3, .int (nI m)), (0, .ref 61), (1, .int 15), (2, .int 1)]) dX12_fits_13 (by decide) rfl ?_
  refine R_iload_n (pc := 15) 3 dX12_fits_15 rfl rfl ?_
  refine R_tableIn (pc := 16) (tgt := 351) dX12_fits_16 (by decide) (by decide) rfl (by decide) ?_
  refine R_iload_n (pc := 351) 4 dX12_fits_351 rfl rfl ?_
  refine R_if_eq (pc := 352) (tgt := 361) dX12_fits_352 (by decide) (fun c_1 => absurd c_1 (by decide)) (fun c_1 => ?_)
  refine R_iload_n (pc := 355) 1 dX12_fits_355 rfl rfl ?_
  refine R_bipush (pc := 356) (v := 16) dX12_fits_356 (by decide) ?_
  refine R_icmp_lt (pc := 358) (tgt := 365) dX12_fits_358 (by decide) (fun c_2 => ?_) (fun c_2 => ?_)
  · skip
    have nc_2 : m < 16 := (nI_ltI (a := m) (b := 16) (by omega) (by omega)).mp c_2
    refine R_iconst (pc := 365) (v := 0) dX12_fits_365 (by decide) ?_
    exact absurd hP (show ¬ (16 ≤ m) by omega)
  · skip
    have nc_2 : ¬ (m < 16) := fun q_ => c_2 ((nI_ltI (a := m) (b := 16) (by omega) (by omega)).mpr q_)
    refine R_iconst (pc := 361) (v := 1) dX12_fits_361 (by decide) ?_
    refine R_goto (pc := 362) (tgt := 366) dX12_fits_362 (by decide) ?_
    exact R_zreturn (pc := 366) dX12_fits_366 rfl rfl (by decide) (by decide) ⟨rfl, rfl, S, FM.rf h⟩
set_option maxHeartbeats 1000000 in
set_option maxRecDepth 100000 in
theorem oX12_fits_15oN {l : Launch} {w : am_W} {h : am_H} {n : Nat} {ψ : Nat → oA} {z : fA} {i : mI} (S : MO h ψ z i) (hn : 90 ≤ n) (m s t : Nat) (hm : m ≤ 512) (hs : s ≤ 64) (ht : t ≤ 16) (hz1 : z 1 = nI m) (hz2 : z 2 = nI s) (hi1 : i 1 = nI t) (hP : ¬ (ftP 15 1 m s t)) : RH l w mX12_fits h n [.ref 61, .int 15, .int 1] (oQ h (some (.int 0)) ψ z i) := by
  refine RC.of [(0, .ref 61), (1, .int 15), (2, .int 1)] (by decide +kernel) rfl (Nat.le_of_ble_eq_true rfl) ?_
  refine R_aload_n (pc := 0) 0 dX12_fits_0 rfl rfl ?_
  refine R_get (pc := 1) dX12_fits_1 fX12_13 S.obj (by omega) rfl ?_
  refine R_iconst (pc := 4) (v := 1) dX12_fits_4 (by decide) ?_
  refine R_iald' (pc := 5) (j := 1) dX12_fits_5 S.siz (by omega) ⟨rfl, by show 1 < 4; omega, by decide⟩ ?_
  refine R_eqi (y := nI m) (hz1) ?_
  refine R_istore_n (pc := 6) (lv' := [(3, .int (nI m)), (0, .ref 61), (1, .int 15), (2, .int 1)]) dX12_fits_6 rfl (by decide) rfl ?_
  refine R_aload_n (pc := 7) 1 dX12_fits_7 rfl rfl ?_
  refine R_get (pc := 8) dX12_fits_8 fX12_13 S.obj (by omega) rfl ?_
  refine R_iconst (pc := 11) (v := 2) dX12_fits_11 (by decide) ?_
  refine R_iald' (pc := 12) (j := 2) dX12_fits_12 S.siz (by omega) ⟨rfl, by show 2 < 4; omega, by decide⟩ ?_
  refine R_eqi (y := nI s) (hz2) ?_
  refine R_istore (pc := 13) (lv' := [(4, .int (nI s)), (3, .int (nI m)), (0, .ref 61), (1, .int 15), (2, .int 1)]) dX12_fits_13 (by decide) rfl ?_
  refine R_iload_n (pc := 15) 3 dX12_fits_15 rfl rfl ?_
  refine R_tableIn (pc := 16) (tgt := 351) dX12_fits_16 (by decide) (by decide) rfl (by decide) ?_
  refine R_iload_n (pc := 351) 4 dX12_fits_351 rfl rfl ?_
  refine R_if_eq (pc := 352) (tgt := 361) dX12_fits_352 (by decide) (fun c_1 => absurd c_1 (by decide)) (fun c_1 => ?_)
  refine R_iload_n (pc := 355) 1 dX12_fits_355 rfl rfl ?_
  refine R_bipush (pc := 356) (v := 16) dX12_fits_356 (by decide) ?_
  refine R_icmp_lt (pc := 358) (tgt := 365) dX12_fits_358 (by decide) (fun c_2 => ?_) (fun c_2 => ?_)
  · skip
    have nc_2 : m < 16 := (nI_ltI (a := m) (b := 16) (by omega) (by omega)).mp c_2
    refine R_iconst (pc := 365) (v := 0) dX12_fits_365 (by decide) ?_
    exact R_zreturn (pc := 366) dX12_fits_366 rfl rfl (by decide) (by decide) ⟨rfl, rfl, S, FM.rf h⟩
  · skip
    have nc_2 : ¬ (m < 16) := fun q_ => c_2 ((nI_ltI (a := m) (b := 16) (by omega) (by omega)).mpr q_)
    refine R_iconst (pc := 361) (v := 1) dX12_fits_361 (by decide) ?_
    refine R_goto (pc := 362) (tgt := 366) dX12_fits_362 (by decide) ?_
    exact absurd hP (show ¬ (¬ (16 ≤ m)) by omega)
set_option maxHeartbeats 1000000 in
set_option maxRecDepth 100000 in
theorem oX12_fits_16s {l : Launch} {w : am_W} {h : am_H} {n : Nat} {ψ : Nat → oA} {z : fA} {i : mI} (S : MO h ψ z i) (hn : 90 ≤ n) (m s t : Nat) (hm : m ≤ 512) (hs : s ≤ 64) (ht : t ≤ 16) (hz1 : z 1 = nI m) (hz2 : z 2 = nI s) (hi1 : i 1 = nI t) (hP : ftP 16 0 m s t) : RH l w mX12_fits h n [.ref 61, .int 16, .int 0] (oQ h (some (.int 1)) ψ z i) := by
  refine RC.of [(0, .ref 61), (1, .int 16), (2, .int 0)] (by decide +kernel) rfl (Nat.le_of_ble_eq_true rfl) ?_
  refine R_aload_n (pc := 0) 0 dX12_fits_0 rfl rfl ?_
  refine R_get (pc := 1) dX12_fits_1 fX12_13 S.obj (by omega) rfl ?_
  refine R_iconst (pc := 4) (v := 1) dX12_fits_4 (by decide) ?_
  refine R_iald' (pc := 5) (j := 1) dX12_fits_5 S.siz (by omega) ⟨rfl, by show 1 < 4; omega, by decide⟩ ?_
  refine R_eqi (y := nI m) (hz1) ?_
  refine R_istore_n (pc := 6) (lv' := [(3, .int (nI m)), (0, .ref 61), (1, .int 16), (2, .int 0)]) dX12_fits_6 rfl (by decide) rfl ?_
  refine R_aload_n (pc := 7) 1 dX12_fits_7 rfl rfl ?_
  refine R_get (pc := 8) dX12_fits_8 fX12_13 S.obj (by omega) rfl ?_
  refine R_iconst (pc := 11) (v := 2) dX12_fits_11 (by decide) ?_
  refine R_iald' (pc := 12) (j := 2) dX12_fits_12 S.siz (by omega) ⟨rfl, by show 2 < 4; omega, by decide⟩ ?_
  refine R_eqi (y := nI s) (hz2) ?_
  refine R_istore (pc := 13) (lv' := [(4, .int (nI s)), (3, .int (nI m)), (0, .ref 61), (1, .int 16), (2, .int 0)]) dX12_fits_13 (by decide) rfl ?_
  refine R_iload_n (pc := 15) 3 dX12_fits_15 rfl rfl ?_
  refine R_tableOut (pc := 16) (tgt := 367) dX12_fits_16 (by decide) (by decide) ?_
  refine R_iload (pc := 367) 0 dX12_fits_367 rfl ?_
  refine R_iconst (pc := 369) (v := 1) dX12_fits_369 (by decide) ?_
  refine R_bipush (pc := 370) (v := 15) dX12_fits_370 (by decide) ?_
  refine R_callSp (pc := 372) (μ' := mX12_in) (As := [.int (nI s), .int 1, .int 15]) (st := []) dX12_fits_372 zX12_in lX12_108 ⟨by decide, by decide⟩ rfl rfl ⟨by decide, by decide⟩ rfl (Nat.le_of_ble_eq_true rfl) (qX12_in l w _ _ _ _ _) ?_
  refine R_if_eq (pc := 375) (tgt := 394) dX12_fits_375 (by decide) (fun c_1 => ?_) (fun c_1 => ?_)
  · skip
    have nc_1 : ¬ (1 ≤ s ∧ s ≤ 15) := (in_nat (s := s) (a := 1) (b := 15) (by omega) (by omega) (by omega)).mp c_1
    refine R_iconst (pc := 394) (v := 0) dX12_fits_394 (by decide) ?_
    exact absurd hP (show ¬ (1 ≤ s ∧ s ≤ 15) by omega)
  · skip
    have nc_1 : 1 ≤ s ∧ s ≤ 15 := Decidable.not_not.mp (fun q_ => c_1 ((in_nat (s := s) (a := 1) (b := 15) (by omega) (by omega) (by omega)).mpr q_))
    refine R_iload_n (pc := 378) 4 dX12_fits_378 rfl rfl ?_
    refine R_if_eq (pc := 379) (tgt := 390) dX12_fits_379 (by decide) (fun c_2 => ?_) (fun c_2 => absurd (rfl) c_2)
    refine R_iconst (pc := 390) (v := 1) dX12_fits_390 (by decide) ?_
    refine R_goto (pc := 391) (tgt := 395) dX12_fits_391 (by decide) ?_
    exact R_zreturn (pc := 395) dX12_fits_395 rfl rfl (by decide) (by decide) ⟨rfl, rfl, S, FM.rf h⟩
set_option maxHeartbeats 1000000 in
set_option maxRecDepth 100000 in
theorem oX12_fits_16sN {l : Launch} {w : am_W} {h : am_H} {n : Nat} {ψ : Nat → oA} {z : fA} {i : mI} (S : MO h ψ z i) (hn : 90 ≤ n) (m s t : Nat) (hm : m ≤ 512) (hs : s ≤ 64) (ht : t ≤ 16) (hz1 : z 1 = nI m) (hz2 : z 2 = nI s) (hi1 : i 1 = nI t) (hP : ¬ (ftP 16 0 m s t)) : RH l w mX12_fits h n [.ref 61, .int 16, .int 0] (oQ h (some (.int 0)) ψ z i) := by
  refine RC.of [(0, .ref 61), (1, .int 16), (2, .int 0)] (by decide +kernel) rfl (Nat.le_of_ble_eq_true rfl) ?_
  refine R_aload_n (pc := 0) 0 dX12_fits_0 rfl rfl ?_
  refine R_get (pc := 1) dX12_fits_1 fX12_13 S.obj (by omega) rfl ?_
  refine R_iconst (pc := 4) (v := 1) dX12_fits_4 (by decide) ?_
  refine R_iald' (pc := 5) (j := 1) dX12_fits_5 S.siz (by omega) ⟨rfl, by show 1 < 4; omega, by decide⟩ ?_
  refine R_eqi (y := nI m) (hz1) ?_
  refine R_istore_n (pc := 6) (lv' := [(3, .int (nI m)), (0, .ref 61), (1, .int 16), (2, .int 0)]) dX12_fits_6 rfl (by decide) rfl ?_
  refine R_aload_n (pc := 7) 1 dX12_fits_7 rfl rfl ?_
  refine R_get (pc := 8) dX12_fits_8 fX12_13 S.obj (by omega) rfl ?_
  refine R_iconst (pc := 11) (v := 2) dX12_fits_11 (by decide) ?_
  refine R_iald' (pc := 12) (j := 2) dX12_fits_12 S.siz (by omega) ⟨rfl, by show 2 < 4; omega, by decide⟩ ?_
  refine R_eqi (y := nI s) (hz2) ?_
  refine R_istore (pc := 13) (lv' := [(4, .int (nI s)), (3, .int (nI m)), (0, .ref 61), (1, .int 16), (2, .int 0)]) dX12_fits_13 (by decide) rfl ?_
  refine R_iload_n (pc := 15) 3 dX12_fits_15 rfl rfl ?_
  refine R_tableOut (pc := 16) (tgt := 367) dX12_fits_16 (by decide) (by decide) ?_
  refine R_iload (pc := 367) 0 dX12_fits_367 rfl ?_
  refine R_iconst (pc := 369) (v := 1) dX12_fits_369 (by decide) ?_
  refine R_bipush (pc := 370) (v := 15) dX12_fits_370 (by decide) ?_
  refine R_callSp (pc := 372) (μ' := mX12_in) (As := [.int (nI s), .int 1, .int 15]) (st := []) dX12_fits_372 zX12_in lX12_108 ⟨by decide, by decide⟩ rfl rfl ⟨by decide, by decide⟩ rfl (Nat.le_of_ble_eq_true rfl) (qX12_in l w _ _ _ _ _) ?_
  refine R_if_eq (pc := 375) (tgt := 394) dX12_fits_375 (by decide) (fun c_1 => ?_) (fun c_1 => ?_)
  · skip
    have nc_1 : ¬ (1 ≤ s ∧ s ≤ 15) := (in_nat (s := s) (a := 1) (b := 15) (by omega) (by omega) (by omega)).mp c_1
    refine R_iconst (pc := 394) (v := 0) dX12_fits_394 (by decide) ?_
    exact R_zreturn (pc := 395) dX12_fits_395 rfl rfl (by decide) (by decide) ⟨rfl, rfl, S, FM.rf h⟩
  · skip
    have nc_1 : 1 ≤ s ∧ s ≤ 15 := Decidable.not_not.mp (fun q_ => c_1 ((in_nat (s := s) (a := 1) (b := 15) (by omega) (by omega) (by omega)).mpr q_))
    refine R_iload_n (pc := 378) 4 dX12_fits_378 rfl rfl ?_
    refine R_if_eq (pc := 379) (tgt := 390) dX12_fits_379 (by decide) (fun c_2 => ?_) (fun c_2 => absurd (rfl) c_2)
    refine R_iconst (pc := 390) (v := 1) dX12_fits_390 (by decide) ?_
    refine R_goto (pc := 391) (tgt := 395) dX12_fits_391 (by decide) ?_
    exact absurd hP (show ¬ (¬ (1 ≤ s ∧ s ≤ 15)) by omega)
set_option maxHeartbeats 1000000 in
set_option maxRecDepth 100000 in
theorem oX12_fits_16o {l : Launch} {w : am_W} {h : am_H} {n : Nat} {ψ : Nat → oA} {z : fA} {i : mI} (S : MO h ψ z i) (hn : 90 ≤ n) (m s t : Nat) (hm : m ≤ 512) (hs : s ≤ 64) (ht : t ≤ 16) (hz1 : z 1 = nI m) (hz2 : z 2 = nI s) (hi1 : i 1 = nI t) (hP : ftP 16 1 m s t) : RH l w mX12_fits h n [.ref 61, .int 16, .int 1] (oQ h (some (.int 1)) ψ z i) := by
  refine RC.of [(0, .ref 61), (1, .int 16), (2, .int 1)] (by decide +kernel) rfl (Nat.le_of_ble_eq_true rfl) ?_
  refine R_aload_n (pc := 0) 0 dX12_fits_0 rfl rfl ?_
  refine R_get (pc := 1) dX12_fits_1 fX12_13 S.obj (by omega) rfl ?_
  refine R_iconst (pc := 4) (v := 1) dX12_fits_4 (by decide) ?_
  refine R_iald' (pc := 5) (j := 1) dX12_fits_5 S.siz (by omega) ⟨rfl, by show 1 < 4; omega, by decide⟩ ?_
  refine R_eqi (y := nI m) (hz1) ?_
  refine R_istore_n (pc := 6) (lv' := [(3, .int (nI m)), (0, .ref 61), (1, .int 16), (2, .int 1)]) dX12_fits_6 rfl (by decide) rfl ?_
  refine R_aload_n (pc := 7) 1 dX12_fits_7 rfl rfl ?_
  refine R_get (pc := 8) dX12_fits_8 fX12_13 S.obj (by omega) rfl ?_
  refine R_iconst (pc := 11) (v := 2) dX12_fits_11 (by decide) ?_
  refine R_iald' (pc := 12) (j := 2) dX12_fits_12 S.siz (by omega) ⟨rfl, by show 2 < 4; omega, by decide⟩ ?_
  refine R_eqi (y := nI s) (hz2) ?_
  refine R_istore (pc := 13) (lv' := [(4, .int (nI s)), (3, .int (nI m)), (0, .ref 61), (1, .int 16), (2, .int 1)]) dX12_fits_13 (by decide) rfl ?_
  refine R_iload_n (pc := 15) 3 dX12_fits_15 rfl rfl ?_
  refine R_tableOut (pc := 16) (tgt := 367) dX12_fits_16 (by decide) (by decide) ?_
  refine R_iload (pc := 367) 0 dX12_fits_367 rfl ?_
  refine R_iconst (pc := 369) (v := 1) dX12_fits_369 (by decide) ?_
  refine R_bipush (pc := 370) (v := 15) dX12_fits_370 (by decide) ?_
  refine R_callSp (pc := 372) (μ' := mX12_in) (As := [.int (nI s), .int 1, .int 15]) (st := []) dX12_fits_372 zX12_in lX12_108 ⟨by decide, by decide⟩ rfl rfl ⟨by decide, by decide⟩ rfl (Nat.le_of_ble_eq_true rfl) (qX12_in l w _ _ _ _ _) ?_
  refine R_if_eq (pc := 375) (tgt := 394) dX12_fits_375 (by decide) (fun c_1 => ?_) (fun c_1 => ?_)
  · skip
    have nc_1 : ¬ (1 ≤ s ∧ s ≤ 15) := (in_nat (s := s) (a := 1) (b := 15) (by omega) (by omega) (by omega)).mp c_1
    refine R_iconst (pc := 394) (v := 0) dX12_fits_394 (by decide) ?_
    exact absurd hP (show ¬ ((1 ≤ s ∧ s ≤ 15) ∧ t ≤ m) by omega)
  · skip
    have nc_1 : 1 ≤ s ∧ s ≤ 15 := Decidable.not_not.mp (fun q_ => c_1 ((in_nat (s := s) (a := 1) (b := 15) (by omega) (by omega) (by omega)).mpr q_))
    refine R_iload_n (pc := 378) 4 dX12_fits_378 rfl rfl ?_
    refine R_if_eq (pc := 379) (tgt := 390) dX12_fits_379 (by decide) (fun c_2 => absurd c_2 (by decide)) (fun c_2 => ?_)
    refine R_iload_n (pc := 382) 1 dX12_fits_382 rfl rfl ?_
    refine R_aload_n (pc := 383) 2 dX12_fits_383 rfl rfl ?_
    refine R_get (pc := 384) dX12_fits_384 fX12_16 S.obj (by omega) rfl ?_
    refine R_eqi (y := nI t) (hi1) ?_
    refine R_icmp_lt (pc := 387) (tgt := 394) dX12_fits_387 (by decide) (fun c_3 => ?_) (fun c_3 => ?_)
    · skip
      have nc_3 : m < t := (nI_ltI (a := m) (b := t) (by omega) (by omega)).mp c_3
      refine R_iconst (pc := 394) (v := 0) dX12_fits_394 (by decide) ?_
      exact absurd hP (show ¬ ((1 ≤ s ∧ s ≤ 15) ∧ t ≤ m) by omega)
    · skip
      have nc_3 : ¬ (m < t) := fun q_ => c_3 ((nI_ltI (a := m) (b := t) (by omega) (by omega)).mpr q_)
      refine R_iconst (pc := 390) (v := 1) dX12_fits_390 (by decide) ?_
      refine R_goto (pc := 391) (tgt := 395) dX12_fits_391 (by decide) ?_
      exact R_zreturn (pc := 395) dX12_fits_395 rfl rfl (by decide) (by decide) ⟨rfl, rfl, S, FM.rf h⟩
set_option maxHeartbeats 1000000 in
set_option maxRecDepth 100000 in
theorem oX12_fits_16oN {l : Launch} {w : am_W} {h : am_H} {n : Nat} {ψ : Nat → oA} {z : fA} {i : mI} (S : MO h ψ z i) (hn : 90 ≤ n) (m s t : Nat) (hm : m ≤ 512) (hs : s ≤ 64) (ht : t ≤ 16) (hz1 : z 1 = nI m) (hz2 : z 2 = nI s) (hi1 : i 1 = nI t) (hP : ¬ (ftP 16 1 m s t)) : RH l w mX12_fits h n [.ref 61, .int 16, .int 1] (oQ h (some (.int 0)) ψ z i) := by
  refine RC.of [(0, .ref 61), (1, .int 16), (2, .int 1)] (by decide +kernel) rfl (Nat.le_of_ble_eq_true rfl) ?_
  refine R_aload_n (pc := 0) 0 dX12_fits_0 rfl rfl ?_
  refine R_get (pc := 1) dX12_fits_1 fX12_13 S.obj (by omega) rfl ?_
  refine R_iconst (pc := 4) (v := 1) dX12_fits_4 (by decide) ?_
  refine R_iald' (pc := 5) (j := 1) dX12_fits_5 S.siz (by omega) ⟨rfl, by show 1 < 4; omega, by decide⟩ ?_
  refine R_eqi (y := nI m) (hz1) ?_
  refine R_istore_n (pc := 6) (lv' := [(3, .int (nI m)), (0, .ref 61), (1, .int 16), (2, .int 1)]) dX12_fits_6 rfl (by decide) rfl ?_
  refine R_aload_n (pc := 7) 1 dX12_fits_7 rfl rfl ?_
  refine R_get (pc := 8) dX12_fits_8 fX12_13 S.obj (by omega) rfl ?_
  refine R_iconst (pc := 11) (v := 2) dX12_fits_11 (by decide) ?_
  refine R_iald' (pc := 12) (j := 2) dX12_fits_12 S.siz (by omega) ⟨rfl, by show 2 < 4; omega, by decide⟩ ?_
  refine R_eqi (y := nI s) (hz2) ?_
  refine R_istore (pc := 13) (lv' := [(4, .int (nI s)), (3, .int (nI m)), (0, .ref 61), (1, .int 16), (2, .int 1)]) dX12_fits_13 (by decide) rfl ?_
  refine R_iload_n (pc := 15) 3 dX12_fits_15 rfl rfl ?_
  refine R_tableOut (pc := 16) (tgt := 367) dX12_fits_16 (by decide) (by decide) ?_
  refine R_iload (pc := 367) 0 dX12_fits_367 rfl ?_
  refine R_iconst (pc := 369) (v := 1) dX12_fits_369 (by decide) ?_
  refine R_bipush (pc := 370) (v := 15) dX12_fits_370 (by decide) ?_
  refine R_callSp (pc := 372) (μ' := mX12_in) (As := [.int (nI s), .int 1, .int 15]) (st := []) dX12_fits_372 zX12_in lX12_108 ⟨by decide, by decide⟩ rfl rfl ⟨by decide, by decide⟩ rfl (Nat.le_of_ble_eq_true rfl) (qX12_in l w _ _ _ _ _) ?_
  refine R_if_eq (pc := 375) (tgt := 394) dX12_fits_375 (by decide) (fun c_1 => ?_) (fun c_1 => ?_)
  · skip
    have nc_1 : ¬ (1 ≤ s ∧ s ≤ 15) := (in_nat (s := s) (a := 1) (b := 15) (by omega) (by omega) (by omega)).mp c_1
    refine R_iconst (pc := 394) (v := 0) dX12_fits_394 (by decide) ?_
    exact R_zreturn (pc := 395) dX12_fits_395 rfl rfl (by decide) (by decide) ⟨rfl, rfl, S, FM.rf h⟩
  · skip
    have nc_1 : 1 ≤ s ∧ s ≤ 15 := Decidable.not_not.mp (fun q_ => c_1 ((in_nat (s := s) (a := 1) (b := 15) (by omega) (by omega) (by omega)).mpr q_))
    refine R_iload_n (pc := 378) 4 dX12_fits_378 rfl rfl ?_
    refine R_if_eq (pc := 379) (tgt := 390) dX12_fits_379 (by decide) (fun c_2 => absurd c_2 (by decide)) (fun c_2 => ?_)
    refine R_iload_n (pc := 382) 1 dX12_fits_382 rfl rfl ?_
    refine R_aload_n (pc := 383) 2 dX12_fits_383 rfl rfl ?_
    refine R_get (pc := 384) dX12_fits_384 fX12_16 S.obj (by omega) rfl ?_
    refine R_eqi (y := nI t) (hi1) ?_
    refine R_icmp_lt (pc := 387) (tgt := 394) dX12_fits_387 (by decide) (fun c_3 => ?_) (fun c_3 => ?_)
    · skip
      have nc_3 : m < t := (nI_ltI (a := m) (b := t) (by omega) (by omega)).mp c_3
      refine R_iconst (pc := 394) (v := 0) dX12_fits_394 (by decide) ?_
      exact R_zreturn (pc := 395) dX12_fits_395 rfl rfl (by decide) (by decide) ⟨rfl, rfl, S, FM.rf h⟩
    · skip
      have nc_3 : ¬ (m < t) := fun q_ => c_3 ((nI_ltI (a := m) (b := t) (by omega) (by omega)).mpr q_)
      refine R_iconst (pc := 390) (v := 1) dX12_fits_390 (by decide) ?_
      refine R_goto (pc := 391) (tgt := 395) dX12_fits_391 (by decide) ?_
      exact absurd hP (show ¬ (¬ ((1 ≤ s ∧ s ≤ 15) ∧ t ≤ m)) by omega)
