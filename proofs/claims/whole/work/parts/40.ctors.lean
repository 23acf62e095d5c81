section RNW
variable {l : Launch} {w : am_W} {μ : am_M} {h : am_H} {n k z pc : Nat} {lv : List (Nat × Value)} {st : List Value} {Q : am_H → Nat → Option Value → Prop}
theorem R_newI' {N : Nat} (hd : decode (m_b μ) pc = .ok (.newarray .int, 2)) (hb : N ≤ 1000) (hk : k + 1 ≤ m_mc μ) (hz : z + N ≤ m_ms μ) (kk : ∀ h', h' (n + 1) = .inl (N, fun _ => 0) → (∀ x, x ≠ n + 1 → h' x = h x) → RW l w μ h' (n + 1) (k + 1) (z + N) (pc + 2) lv (.ref (n + 1) :: st) Q) : RW l w μ h n k z pc lv (.int (nI N) :: st) Q :=
  R_newI hd aC_int (nI_pos (by omega)) (nI_clamp (by omega)) (by omega) hk hz (kk _ (am_us _ _ _) (fun _ hx => am_un hx))
theorem R_newL' {N : Nat} (hd : decode (m_b μ) pc = .ok (.newarray .long, 2)) (hb : N ≤ 1000) (hk : k + 1 ≤ m_mc μ) (hz : z + N ≤ m_ms μ) (kk : ∀ h', h' (n + 1) = .inr (.inl (N, fun _ => 0)) → (∀ x, x ≠ n + 1 → h' x = h x) → RW l w μ h' (n + 1) (k + 1) (z + N) (pc + 2) lv (.ref (n + 1) :: st) Q) : RW l w μ h n k z pc lv (.int (nI N) :: st) Q :=
  R_newL hd aC_long (nI_pos (by omega)) (nI_clamp (by omega)) (by omega) hk hz (kk _ (am_us _ _ _) (fun _ hx => am_un hx))
end RNW
set_option maxHeartbeats 4000000 in
set_option maxRecDepth 100000 in
theorem qX0_init (l : Launch) (w : am_W) (h : am_H) (n a : Nat) : RC l w mX0_init h n [.ref a] (fun h' n' r => h' = h ∧ n' = n ∧ r = none) := by
  refine RC.of [(0, .ref a)] (by decide +kernel) rfl (Nat.le_of_ble_eq_true rfl) ?_
  refine R_aload_n (pc := 0) 0 dX0_init_0 rfl rfl ?_
  refine R_objInit (pc := 1) dX0_init_1 lX0_1 iO cO (by decide) (Nat.le_of_ble_eq_true rfl) ?_
  exact R_vreturn (pc := 4) dX0_init_4 rfl (by decide) (by decide) ⟨rfl, rfl, rfl⟩
set_option maxHeartbeats 4000000 in
set_option maxRecDepth 100000 in
theorem qX8_init (l : Launch) (w : am_W) (h : am_H) (n a : Nat) : RC l w mX8_init h n [.ref a] (fun h' n' r => h' = h ∧ n' = n ∧ r = none) := by
  refine RC.of [(0, .ref a)] (by decide +kernel) rfl (Nat.le_of_ble_eq_true rfl) ?_
  refine R_aload_n (pc := 0) 0 dX8_init_0 rfl rfl ?_
  refine R_objInit (pc := 1) dX8_init_1 lX8_1 iO cO (by decide) (Nat.le_of_ble_eq_true rfl) ?_
  exact R_vreturn (pc := 4) dX8_init_4 rfl (by decide) (by decide) ⟨rfl, rfl, rfl⟩
set_option maxHeartbeats 4000000 in
set_option maxRecDepth 100000 in
theorem qX6_init (l : Launch) (w : am_W) (h : am_H) (n r N : Nat) (hN : N ≤ 800) (hrn : 0 < r ∧ r ≤ n) (hr : h r = .inr (.inr (6, [.null, .int 0]))) : RC l w mX6_init h n [.ref r, .int (nI N)] (fun h' n' q => n' = n + 1 ∧ q = none ∧ h' r = .inr (.inr (6, [.ref (n + 1), .int 0])) ∧ h' (n + 1) = .inl (N, fun _ => 0) ∧ ∀ x, x ≠ r → x ≠ n + 1 → h' x = h x) := by
  refine RC.of [(0, .ref r), (1, .int (nI N))] (by decide +kernel) rfl (Nat.le_of_ble_eq_true rfl) ?_
  refine R_aload_n (pc := 0) 0 dX6_init_0 rfl rfl ?_
  refine R_objInit (pc := 1) dX6_init_1 lX6_1 iO cO (by decide) (Nat.le_of_ble_eq_true rfl) ?_
  refine R_aload_n (pc := 4) 0 dX6_init_4 rfl rfl ?_
  refine R_iload_n (pc := 5) 1 dX6_init_5 rfl rfl ?_
  refine R_iconst (pc := 6) (v := 0) dX6_init_6 (by decide) ?_
  refine R_max (pc := 7) dX6_init_7 lX6_7 sM_max nM cM_max (by decide) (Nat.le_of_ble_eq_true rfl) (by decide) (by decide) ?_
  refine R_eqi (y := nI N) (if_neg (nI_pos (by omega))) ?_
  refine R_newI' (pc := 10) (N := N) dX6_init_10 (by omega) (by decide) (by show 0 + N ≤ 800; omega) (fun h_1 f_2 g_3 => ?_)
  have f_4 := (g_3 r (by omega)).trans hr
  refine R_putF' (pc := 12) (T := TX6) (fs' := [.ref (n + 1), .int 0]) dX6_init_12 fX6_13 kFX6_13 rfl tX6_0 rfl rfl rfl rfl f_4 (by omega) (Nat.le_of_ble_eq_true rfl) rfl (fun h_5 f_6 g_7 => ?_)
  have f_8 := (g_7 (n + 1) (by omega)).trans f_2
  refine R_aload_n (pc := 15) 0 dX6_init_15 rfl rfl ?_
  refine R_iconst (pc := 16) (v := 0) dX6_init_16 (by decide) ?_
  refine R_put' (pc := 17) (fs' := [.ref (n + 1), .int 0]) dX6_init_17 fX6_19 tX6_1 rfl rfl f_6 (by omega) (Nat.le_of_ble_eq_true rfl) rfl (fun h_9 f_10 g_11 => ?_)
  have f_12 := (g_11 (n + 1) (by omega)).trans f_8
  exact R_vreturn (pc := 20) dX6_init_20 rfl (by decide) (by show 0 + N ≤ 800; omega) ⟨rfl, rfl, f_10, f_12, (fun x_ n0_ n1_ => (((g_11 x_ n0_).trans (g_7 x_ n0_)).trans (g_3 x_ n1_)))⟩
set_option maxHeartbeats 4000000 in
set_option maxRecDepth 100000 in
theorem qX2_init (l : Launch) (w : am_W) (h : am_H) (n a : Nat) (han : 0 < a ∧ a ≤ n) (ha : h a = .inr (.inr (2, [.null, .null, .null, .int 0]))) : RC l w mX2_init h n [.ref a] (fun h' n' q => n' = n + 3 ∧ q = none ∧ h' a = .inr (.inr (2, [.ref (n + 1), .ref (n + 2), .ref (n + 3), .int 10])) ∧ h' (n + 1) = .inl (60, fun _ => 0) ∧ h' (n + 2) = .inr (.inl (30, fun _ => 0)) ∧ h' (n + 3) = .inr (.inr (8, [.long 0, .long 0])) ∧ ∀ x, x ≠ a → x ≤ n → h' x = h x) := by
  refine RC.of [(0, .ref a)] (by decide +kernel) rfl (Nat.le_of_ble_eq_true rfl) ?_
  refine R_aload_n (pc := 0) 0 dX2_init_0 rfl rfl ?_
  refine R_objInit (pc := 1) dX2_init_1 lX2_1 iO cO (by decide) (Nat.le_of_ble_eq_true rfl) ?_
  refine R_aload_n (pc := 4) 0 dX2_init_4 rfl rfl ?_
  refine R_bipush (pc := 5) (v := 60) dX2_init_5 (by decide) ?_
  refine R_newI' (pc := 7) (N := 60) dX2_init_7 (by omega) (by decide) (by decide) (fun h_1 f_2 g_3 => ?_)
  have f_4 := (g_3 a (by omega)).trans ha
  refine R_putF' (pc := 9) (T := TX2) (fs' := [.ref (n + 1), .null, .null, .int 0]) dX2_init_9 fX2_7 kFX2_7 rfl tX2_0 rfl rfl rfl rfl f_4 (by omega) (Nat.le_of_ble_eq_true rfl) rfl (fun h_5 f_6 g_7 => ?_)
  have f_8 := (g_7 (n + 1) (by omega)).trans f_2
  refine R_aload_n (pc := 12) 0 dX2_init_12 rfl rfl ?_
  refine R_bipush (pc := 13) (v := 30) dX2_init_13 (by decide) ?_
  refine R_newL' (pc := 15) (N := 30) dX2_init_15 (by omega) (by decide) (by decide) (fun h_9 f_10 g_11 => ?_)
  have f_12 := (g_11 a (by omega)).trans f_6
  have f_13 := (g_11 (n + 1) (by omega)).trans f_8
  refine R_putF' (pc := 17) (T := TX2) (fs' := [.ref (n + 1), .ref (n + 1 + 1), .null, .int 0]) dX2_init_17 fX2_13 kFX2_13 rfl tX2_1 rfl rfl rfl rfl f_12 (by omega) (Nat.le_of_ble_eq_true rfl) rfl (fun h_14 f_15 g_16 => ?_)
  have f_17 := (g_16 (n + 1) (by omega)).trans f_13
  have f_18 := (g_16 (n + 1 + 1) (by omega)).trans f_10
  refine R_aload_n (pc := 20) 0 dX2_init_20 rfl rfl ?_
  refine R_new' (pc := 21) dX2_init_21 nX2_17 (by decide) (by decide) (fun h_19 f_20 g_21 => ?_)
  have f_22 := (g_21 a (by omega)).trans f_15
  have f_23 := (g_21 (n + 1) (by omega)).trans f_17
  have f_24 := (g_21 (n + 1 + 1) (by omega)).trans f_18
  refine R_dup (pc := 24) dX2_init_24 rfl ?_
  refine R_callI (pc := 25) (μ' := mX8_init) (As := []) (st := [.ref (n + 1 + 1 + 1), .ref a]) dX2_init_25 zX8_init rfl lX2_19 ⟨by decide, by decide⟩ ⟨by decide, by decide⟩ rfl (Nat.le_of_ble_eq_true rfl) (qX8_init l w _ _ _) (fun hh_ nn_ rr_ qq_ => ?_)
  obtain ⟨rfl, rfl, rfl⟩ := qq_
  refine R_putF' (pc := 28) (T := TX2) (fs' := [.ref (n + 1), .ref (n + 1 + 1), .ref (n + 1 + 1 + 1), .int 0]) dX2_init_28 fX2_20 kFX2_20 rfl tX2_2 rfl rfl rfl rfl f_22 (by omega) (Nat.le_of_ble_eq_true rfl) rfl (fun h_25 f_26 g_27 => ?_)
  have f_28 := (g_27 (n + 1) (by omega)).trans f_23
  have f_29 := (g_27 (n + 1 + 1) (by omega)).trans f_24
  have f_30 := (g_27 (n + 1 + 1 + 1) (by omega)).trans f_20
  refine R_aload_n (pc := 31) 0 dX2_init_31 rfl rfl ?_
  refine R_bipush (pc := 32) (v := 10) dX2_init_32 (by decide) ?_
  refine R_put' (pc := 34) (fs' := [.ref (n + 1), .ref (n + 1 + 1), .ref (n + 1 + 1 + 1), .int 10]) dX2_init_34 fX2_24 tX2_3 rfl rfl f_26 (by omega) (Nat.le_of_ble_eq_true rfl) rfl (fun h_31 f_32 g_33 => ?_)
  have f_34 := (g_33 (n + 1) (by omega)).trans f_28
  have f_35 := (g_33 (n + 1 + 1) (by omega)).trans f_29
  have f_36 := (g_33 (n + 1 + 1 + 1) (by omega)).trans f_30
  exact R_vreturn (pc := 37) dX2_init_37 rfl (by decide) (by decide) ⟨rfl, rfl, f_32, f_34, f_35, f_36, (fun x_ n0_ n1_ => (((((((g_33 x_ n0_).trans (g_27 x_ n0_)).trans (g_21 x_ (by omega))).trans (g_16 x_ n0_)).trans (g_11 x_ (by omega))).trans (g_7 x_ n0_)).trans (g_3 x_ (by omega))))⟩
set_option maxHeartbeats 4000000 in
set_option maxRecDepth 100000 in
theorem qX1_init (l : Launch) (w : am_W) (h : am_H) (n a c s v : Nat) (han : 0 < a ∧ a ≤ n) (ha : h a = .inr (.inr (1, [.null, .null, .null, .null, .null, .null]))) : RC l w mX1_init h n [.ref a, .ref c, .ref s, .ref v] (fun h' n' q => n' = n + 3 ∧ q = none ∧ h' a = .inr (.inr (1, [.ref c, .ref s, .ref v, .ref (n + 1), .ref (n + 2), .ref (n + 3)])) ∧ h' (n + 1) = .inr (.inr (0, [.long 0, .long 0])) ∧ h' (n + 2) = .inr (.inr (0, [.long 0, .long 0])) ∧ h' (n + 3) = .inr (.inr (0, [.long 0, .long 0])) ∧ ∀ x, x ≠ a → x ≤ n → h' x = h x) := by
  refine RC.of [(0, .ref a), (1, .ref c), (2, .ref s), (3, .ref v)] (by decide +kernel) rfl (Nat.le_of_ble_eq_true rfl) ?_
  refine R_aload_n (pc := 0) 0 dX1_init_0 rfl rfl ?_
  refine R_objInit (pc := 1) dX1_init_1 lX1_1 iO cO (by decide) (Nat.le_of_ble_eq_true rfl) ?_
  refine R_aload_n (pc := 4) 0 dX1_init_4 rfl rfl ?_
  refine R_aload_n (pc := 5) 1 dX1_init_5 rfl rfl ?_
  refine R_putF' (pc := 6) (T := TX1) (fs' := [.ref c, .null, .null, .null, .null, .null]) dX1_init_6 fX1_7 kFX1_7 rfl tX1_0 rfl rfl rfl rfl ha (by omega) (Nat.le_of_ble_eq_true rfl) rfl (fun h_1 f_2 g_3 => ?_)
  refine R_aload_n (pc := 9) 0 dX1_init_9 rfl rfl ?_
  refine R_aload_n (pc := 10) 2 dX1_init_10 rfl rfl ?_
  refine R_putF' (pc := 11) (T := TX1) (fs' := [.ref c, .ref s, .null, .null, .null, .null]) dX1_init_11 fX1_13 kFX1_13 rfl tX1_1 rfl rfl rfl rfl f_2 (by omega) (Nat.le_of_ble_eq_true rfl) rfl (fun h_4 f_5 g_6 => ?_)
  refine R_aload_n (pc := 14) 0 dX1_init_14 rfl rfl ?_
  refine R_aload_n (pc := 15) 3 dX1_init_15 rfl rfl ?_
  refine R_putF' (pc := 16) (T := TX1) (fs' := [.ref c, .ref s, .ref v, .null, .null, .null]) dX1_init_16 fX1_17 kFX1_17 rfl tX1_2 rfl rfl rfl rfl f_5 (by omega) (Nat.le_of_ble_eq_true rfl) rfl (fun h_7 f_8 g_9 => ?_)
  refine R_aload_n (pc := 19) 0 dX1_init_19 rfl rfl ?_
  refine R_new' (pc := 20) dX1_init_20 nX1_20 (by decide) (by decide) (fun h_10 f_11 g_12 => ?_)
  have f_13 := (g_12 a (by omega)).trans f_8
  refine R_dup (pc := 23) dX1_init_23 rfl ?_
  refine R_callI (pc := 24) (μ' := mX0_init) (As := []) (st := [.ref (n + 1), .ref a]) dX1_init_24 zX0_init rfl lX1_22 ⟨by decide, by decide⟩ ⟨by decide, by decide⟩ rfl (Nat.le_of_ble_eq_true rfl) (qX0_init l w _ _ _) (fun hh_ nn_ rr_ qq_ => ?_)
  obtain ⟨rfl, rfl, rfl⟩ := qq_
  refine R_putF' (pc := 27) (T := TX1) (fs' := [.ref c, .ref s, .ref v, .ref (n + 1), .null, .null]) dX1_init_27 fX1_23 kFX1_23 rfl tX1_3 rfl rfl rfl rfl f_13 (by omega) (Nat.le_of_ble_eq_true rfl) rfl (fun h_14 f_15 g_16 => ?_)
  have f_17 := (g_16 (n + 1) (by omega)).trans f_11
  refine R_aload_n (pc := 30) 0 dX1_init_30 rfl rfl ?_
  refine R_new' (pc := 31) dX1_init_31 nX1_20 (by decide) (by decide) (fun h_18 f_19 g_20 => ?_)
  have f_21 := (g_20 a (by omega)).trans f_15
  have f_22 := (g_20 (n + 1) (by omega)).trans f_17
  refine R_dup (pc := 34) dX1_init_34 rfl ?_
  refine R_callI (pc := 35) (μ' := mX0_init) (As := []) (st := [.ref (n + 1 + 1), .ref a]) dX1_init_35 zX0_init rfl lX1_22 ⟨by decide, by decide⟩ ⟨by decide, by decide⟩ rfl (Nat.le_of_ble_eq_true rfl) (qX0_init l w _ _ _) (fun hh_ nn_ rr_ qq_ => ?_)
  obtain ⟨rfl, rfl, rfl⟩ := qq_
  refine R_putF' (pc := 38) (T := TX1) (fs' := [.ref c, .ref s, .ref v, .ref (n + 1), .ref (n + 1 + 1), .null]) dX1_init_38 fX1_27 kFX1_27 rfl tX1_4 rfl rfl rfl rfl f_21 (by omega) (Nat.le_of_ble_eq_true rfl) rfl (fun h_23 f_24 g_25 => ?_)
  have f_26 := (g_25 (n + 1) (by omega)).trans f_22
  have f_27 := (g_25 (n + 1 + 1) (by omega)).trans f_19
  refine R_aload_n (pc := 41) 0 dX1_init_41 rfl rfl ?_
  refine R_new' (pc := 42) dX1_init_42 nX1_20 (by decide) (by decide) (fun h_28 f_29 g_30 => ?_)
  have f_31 := (g_30 a (by omega)).trans f_24
  have f_32 := (g_30 (n + 1) (by omega)).trans f_26
  have f_33 := (g_30 (n + 1 + 1) (by omega)).trans f_27
  refine R_dup (pc := 45) dX1_init_45 rfl ?_
  refine R_callI (pc := 46) (μ' := mX0_init) (As := []) (st := [.ref (n + 1 + 1 + 1), .ref a]) dX1_init_46 zX0_init rfl lX1_22 ⟨by decide, by decide⟩ ⟨by decide, by decide⟩ rfl (Nat.le_of_ble_eq_true rfl) (qX0_init l w _ _ _) (fun hh_ nn_ rr_ qq_ => ?_)
  obtain ⟨rfl, rfl, rfl⟩ := qq_
  refine R_putF' (pc := 49) (T := TX1) (fs' := [.ref c, .ref s, .ref v, .ref (n + 1), .ref (n + 1 + 1), .ref (n + 1 + 1 + 1)]) dX1_init_49 fX1_30 kFX1_30 rfl tX1_5 rfl rfl rfl rfl f_31 (by omega) (Nat.le_of_ble_eq_true rfl) rfl (fun h_34 f_35 g_36 => ?_)
  have f_37 := (g_36 (n + 1) (by omega)).trans f_32
  have f_38 := (g_36 (n + 1 + 1) (by omega)).trans f_33
  have f_39 := (g_36 (n + 1 + 1 + 1) (by omega)).trans f_29
  exact R_vreturn (pc := 52) dX1_init_52 rfl (by decide) (by decide) ⟨rfl, rfl, f_35, f_37, f_38, f_39, (fun x_ n0_ n1_ => (((((((((g_36 x_ n0_).trans (g_30 x_ (by omega))).trans (g_25 x_ n0_)).trans (g_20 x_ (by omega))).trans (g_16 x_ n0_)).trans (g_12 x_ (by omega))).trans (g_9 x_ n0_)).trans (g_6 x_ n0_)).trans (g_3 x_ n0_)))⟩
set_option maxHeartbeats 4000000 in
set_option maxRecDepth 100000 in
theorem qX9_init (l : Launch) (w : am_W) (h : am_H) (n a c s : Nat) (han : 0 < a ∧ a ≤ n) (ha : h a = .inr (.inr (9, [.null, .null, .null, .null, .null]))) : RC l w mX9_init h n [.ref a, .ref c, .ref s] (fun h' n' q => n' = n + 3 ∧ q = none ∧ h' a = .inr (.inr (9, [.ref c, .ref s, .ref (n + 1), .ref (n + 2), .ref (n + 3)])) ∧ h' (n + 1) = .inr (.inr (0, [.long 0, .long 0])) ∧ h' (n + 2) = .inr (.inr (0, [.long 0, .long 0])) ∧ h' (n + 3) = .inr (.inr (0, [.long 0, .long 0])) ∧ ∀ x, x ≠ a → x ≤ n → h' x = h x) := by
  refine RC.of [(0, .ref a), (1, .ref c), (2, .ref s)] (by decide +kernel) rfl (Nat.le_of_ble_eq_true rfl) ?_
  refine R_aload_n (pc := 0) 0 dX9_init_0 rfl rfl ?_
  refine R_objInit (pc := 1) dX9_init_1 lX9_1 iO cO (by decide) (Nat.le_of_ble_eq_true rfl) ?_
  refine R_aload_n (pc := 4) 0 dX9_init_4 rfl rfl ?_
  refine R_aload_n (pc := 5) 1 dX9_init_5 rfl rfl ?_
  refine R_putF' (pc := 6) (T := TX9) (fs' := [.ref c, .null, .null, .null, .null]) dX9_init_6 fX9_7 kFX9_7 rfl tX9_0 rfl rfl rfl rfl ha (by omega) (Nat.le_of_ble_eq_true rfl) rfl (fun h_1 f_2 g_3 => ?_)
  refine R_aload_n (pc := 9) 0 dX9_init_9 rfl rfl ?_
  refine R_aload_n (pc := 10) 2 dX9_init_10 rfl rfl ?_
  refine R_putF' (pc := 11) (T := TX9) (fs' := [.ref c, .ref s, .null, .null, .null]) dX9_init_11 fX9_13 kFX9_13 rfl tX9_1 rfl rfl rfl rfl f_2 (by omega) (Nat.le_of_ble_eq_true rfl) rfl (fun h_4 f_5 g_6 => ?_)
  refine R_aload_n (pc := 14) 0 dX9_init_14 rfl rfl ?_
  refine R_new' (pc := 15) dX9_init_15 nX9_17 (by decide) (by decide) (fun h_7 f_8 g_9 => ?_)
  have f_10 := (g_9 a (by omega)).trans f_5
  refine R_dup (pc := 18) dX9_init_18 rfl ?_
  refine R_callI (pc := 19) (μ' := mX0_init) (As := []) (st := [.ref (n + 1), .ref a]) dX9_init_19 zX0_init rfl lX9_19 ⟨by decide, by decide⟩ ⟨by decide, by decide⟩ rfl (Nat.le_of_ble_eq_true rfl) (qX0_init l w _ _ _) (fun hh_ nn_ rr_ qq_ => ?_)
  obtain ⟨rfl, rfl, rfl⟩ := qq_
  refine R_putF' (pc := 22) (T := TX9) (fs' := [.ref c, .ref s, .ref (n + 1), .null, .null]) dX9_init_22 fX9_20 kFX9_20 rfl tX9_2 rfl rfl rfl rfl f_10 (by omega) (Nat.le_of_ble_eq_true rfl) rfl (fun h_11 f_12 g_13 => ?_)
  have f_14 := (g_13 (n + 1) (by omega)).trans f_8
  refine R_aload_n (pc := 25) 0 dX9_init_25 rfl rfl ?_
  refine R_new' (pc := 26) dX9_init_26 nX9_17 (by decide) (by decide) (fun h_15 f_16 g_17 => ?_)
  have f_18 := (g_17 a (by omega)).trans f_12
  have f_19 := (g_17 (n + 1) (by omega)).trans f_14
  refine R_dup (pc := 29) dX9_init_29 rfl ?_
  refine R_callI (pc := 30) (μ' := mX0_init) (As := []) (st := [.ref (n + 1 + 1), .ref a]) dX9_init_30 zX0_init rfl lX9_19 ⟨by decide, by decide⟩ ⟨by decide, by decide⟩ rfl (Nat.le_of_ble_eq_true rfl) (qX0_init l w _ _ _) (fun hh_ nn_ rr_ qq_ => ?_)
  obtain ⟨rfl, rfl, rfl⟩ := qq_
  refine R_putF' (pc := 33) (T := TX9) (fs' := [.ref c, .ref s, .ref (n + 1), .ref (n + 1 + 1), .null]) dX9_init_33 fX9_24 kFX9_24 rfl tX9_3 rfl rfl rfl rfl f_18 (by omega) (Nat.le_of_ble_eq_true rfl) rfl (fun h_20 f_21 g_22 => ?_)
  have f_23 := (g_22 (n + 1) (by omega)).trans f_19
  have f_24 := (g_22 (n + 1 + 1) (by omega)).trans f_16
  refine R_aload_n (pc := 36) 0 dX9_init_36 rfl rfl ?_
  refine R_new' (pc := 37) dX9_init_37 nX9_17 (by decide) (by decide) (fun h_25 f_26 g_27 => ?_)
  have f_28 := (g_27 a (by omega)).trans f_21
  have f_29 := (g_27 (n + 1) (by omega)).trans f_23
  have f_30 := (g_27 (n + 1 + 1) (by omega)).trans f_24
  refine R_dup (pc := 40) dX9_init_40 rfl ?_
  refine R_callI (pc := 41) (μ' := mX0_init) (As := []) (st := [.ref (n + 1 + 1 + 1), .ref a]) dX9_init_41 zX0_init rfl lX9_19 ⟨by decide, by decide⟩ ⟨by decide, by decide⟩ rfl (Nat.le_of_ble_eq_true rfl) (qX0_init l w _ _ _) (fun hh_ nn_ rr_ qq_ => ?_)
  obtain ⟨rfl, rfl, rfl⟩ := qq_
  refine R_putF' (pc := 44) (T := TX9) (fs' := [.ref c, .ref s, .ref (n + 1), .ref (n + 1 + 1), .ref (n + 1 + 1 + 1)]) dX9_init_44 fX9_27 kFX9_27 rfl tX9_4 rfl rfl rfl rfl f_28 (by omega) (Nat.le_of_ble_eq_true rfl) rfl (fun h_31 f_32 g_33 => ?_)
  have f_34 := (g_33 (n + 1) (by omega)).trans f_29
  have f_35 := (g_33 (n + 1 + 1) (by omega)).trans f_30
  have f_36 := (g_33 (n + 1 + 1 + 1) (by omega)).trans f_26
  exact R_vreturn (pc := 47) dX9_init_47 rfl (by decide) (by decide) ⟨rfl, rfl, f_32, f_34, f_35, f_36, (fun x_ n0_ n1_ => ((((((((g_33 x_ n0_).trans (g_27 x_ (by omega))).trans (g_22 x_ n0_)).trans (g_17 x_ (by omega))).trans (g_13 x_ n0_)).trans (g_9 x_ (by omega))).trans (g_6 x_ n0_)).trans (g_3 x_ n0_)))⟩
set_option maxHeartbeats 4000000 in
set_option maxRecDepth 100000 in
theorem qX7_init (l : Launch) (w : am_W) (h : am_H) (n a c d s : Nat) (han : 0 < a ∧ a ≤ n) (ha : h a = .inr (.inr (7, [.null, .null, .null, .null, .null, .null, .null]))) : RC l w mX7_init h n [.ref a, .ref c, .ref d, .ref s] (fun h' n' q => n' = n + 4 ∧ q = none ∧ h' a = .inr (.inr (7, [.ref c, .ref d, .ref s, .ref (n + 1), .ref (n + 2), .ref (n + 3), .ref (n + 4)])) ∧ h' (n + 1) = .inr (.inr (0, [.long 0, .long 0])) ∧ h' (n + 2) = .inr (.inr (0, [.long 0, .long 0])) ∧ h' (n + 3) = .inr (.inr (0, [.long 0, .long 0])) ∧ h' (n + 4) = .inr (.inr (0, [.long 0, .long 0])) ∧ ∀ x, x ≠ a → x ≤ n → h' x = h x) := by
  refine RC.of [(0, .ref a), (1, .ref c), (2, .ref d), (3, .ref s)] (by decide +kernel) rfl (Nat.le_of_ble_eq_true rfl) ?_
  refine R_aload_n (pc := 0) 0 dX7_init_0 rfl rfl ?_
  refine R_objInit (pc := 1) dX7_init_1 lX7_1 iO cO (by decide) (Nat.le_of_ble_eq_true rfl) ?_
  refine R_aload_n (pc := 4) 0 dX7_init_4 rfl rfl ?_
  refine R_aload_n (pc := 5) 1 dX7_init_5 rfl rfl ?_
  refine R_putF' (pc := 6) (T := TX7) (fs' := [.ref c, .null, .null, .null, .null, .null, .null]) dX7_init_6 fX7_7 kFX7_7 rfl tX7_0 rfl rfl rfl rfl ha (by omega) (Nat.le_of_ble_eq_true rfl) rfl (fun h_1 f_2 g_3 => ?_)
  refine R_aload_n (pc := 9) 0 dX7_init_9 rfl rfl ?_
  refine R_aload_n (pc := 10) 2 dX7_init_10 rfl rfl ?_
  refine R_putF' (pc := 11) (T := TX7) (fs' := [.ref c, .ref d, .null, .null, .null, .null, .null]) dX7_init_11 fX7_13 kFX7_13 rfl tX7_1 rfl rfl rfl rfl f_2 (by omega) (Nat.le_of_ble_eq_true rfl) rfl (fun h_4 f_5 g_6 => ?_)
  refine R_aload_n (pc := 14) 0 dX7_init_14 rfl rfl ?_
  refine R_aload_n (pc := 15) 3 dX7_init_15 rfl rfl ?_
  refine R_putF' (pc := 16) (T := TX7) (fs' := [.ref c, .ref d, .ref s, .null, .null, .null, .null]) dX7_init_16 fX7_16 kFX7_16 rfl tX7_2 rfl rfl rfl rfl f_5 (by omega) (Nat.le_of_ble_eq_true rfl) rfl (fun h_7 f_8 g_9 => ?_)
  refine R_aload_n (pc := 19) 0 dX7_init_19 rfl rfl ?_
  refine R_new' (pc := 20) dX7_init_20 nX7_20 (by decide) (by decide) (fun h_10 f_11 g_12 => ?_)
  have f_13 := (g_12 a (by omega)).trans f_8
  refine R_dup (pc := 23) dX7_init_23 rfl ?_
  refine R_callI (pc := 24) (μ' := mX0_init) (As := []) (st := [.ref (n + 1), .ref a]) dX7_init_24 zX0_init rfl lX7_22 ⟨by decide, by decide⟩ ⟨by decide, by decide⟩ rfl (Nat.le_of_ble_eq_true rfl) (qX0_init l w _ _ _) (fun hh_ nn_ rr_ qq_ => ?_)
  obtain ⟨rfl, rfl, rfl⟩ := qq_
  refine R_putF' (pc := 27) (T := TX7) (fs' := [.ref c, .ref d, .ref s, .ref (n + 1), .null, .null, .null]) dX7_init_27 fX7_23 kFX7_23 rfl tX7_3 rfl rfl rfl rfl f_13 (by omega) (Nat.le_of_ble_eq_true rfl) rfl (fun h_14 f_15 g_16 => ?_)
  have f_17 := (g_16 (n + 1) (by omega)).trans f_11
  refine R_aload_n (pc := 30) 0 dX7_init_30 rfl rfl ?_
  refine R_new' (pc := 31) dX7_init_31 nX7_20 (by decide) (by decide) (fun h_18 f_19 g_20 => ?_)
  have f_21 := (g_20 a (by omega)).trans f_15
  have f_22 := (g_20 (n + 1) (by omega)).trans f_17
  refine R_dup (pc := 34) dX7_init_34 rfl ?_
  refine R_callI (pc := 35) (μ' := mX0_init) (As := []) (st := [.ref (n + 1 + 1), .ref a]) dX7_init_35 zX0_init rfl lX7_22 ⟨by decide, by decide⟩ ⟨by decide, by decide⟩ rfl (Nat.le_of_ble_eq_true rfl) (qX0_init l w _ _ _) (fun hh_ nn_ rr_ qq_ => ?_)
  obtain ⟨rfl, rfl, rfl⟩ := qq_
  refine R_putF' (pc := 38) (T := TX7) (fs' := [.ref c, .ref d, .ref s, .ref (n + 1), .ref (n + 1 + 1), .null, .null]) dX7_init_38 fX7_27 kFX7_27 rfl tX7_4 rfl rfl rfl rfl f_21 (by omega) (Nat.le_of_ble_eq_true rfl) rfl (fun h_23 f_24 g_25 => ?_)
  have f_26 := (g_25 (n + 1) (by omega)).trans f_22
  have f_27 := (g_25 (n + 1 + 1) (by omega)).trans f_19
  refine R_aload_n (pc := 41) 0 dX7_init_41 rfl rfl ?_
  refine R_new' (pc := 42) dX7_init_42 nX7_20 (by decide) (by decide) (fun h_28 f_29 g_30 => ?_)
  have f_31 := (g_30 a (by omega)).trans f_24
  have f_32 := (g_30 (n + 1) (by omega)).trans f_26
  have f_33 := (g_30 (n + 1 + 1) (by omega)).trans f_27
  refine R_dup (pc := 45) dX7_init_45 rfl ?_
  refine R_callI (pc := 46) (μ' := mX0_init) (As := []) (st := [.ref (n + 1 + 1 + 1), .ref a]) dX7_init_46 zX0_init rfl lX7_22 ⟨by decide, by decide⟩ ⟨by decide, by decide⟩ rfl (Nat.le_of_ble_eq_true rfl) (qX0_init l w _ _ _) (fun hh_ nn_ rr_ qq_ => ?_)
  obtain ⟨rfl, rfl, rfl⟩ := qq_
  refine R_putF' (pc := 49) (T := TX7) (fs' := [.ref c, .ref d, .ref s, .ref (n + 1), .ref (n + 1 + 1), .ref (n + 1 + 1 + 1), .null]) dX7_init_49 fX7_30 kFX7_30 rfl tX7_5 rfl rfl rfl rfl f_31 (by omega) (Nat.le_of_ble_eq_true rfl) rfl (fun h_34 f_35 g_36 => ?_)
  have f_37 := (g_36 (n + 1) (by omega)).trans f_32
  have f_38 := (g_36 (n + 1 + 1) (by omega)).trans f_33
  have f_39 := (g_36 (n + 1 + 1 + 1) (by omega)).trans f_29
  refine R_aload_n (pc := 52) 0 dX7_init_52 rfl rfl ?_
  refine R_new' (pc := 53) dX7_init_53 nX7_20 (by decide) (by decide) (fun h_40 f_41 g_42 => ?_)
  have f_43 := (g_42 a (by omega)).trans f_35
  have f_44 := (g_42 (n + 1) (by omega)).trans f_37
  have f_45 := (g_42 (n + 1 + 1) (by omega)).trans f_38
  have f_46 := (g_42 (n + 1 + 1 + 1) (by omega)).trans f_39
  refine R_dup (pc := 56) dX7_init_56 rfl ?_
  refine R_callI (pc := 57) (μ' := mX0_init) (As := []) (st := [.ref (n + 1 + 1 + 1 + 1), .ref a]) dX7_init_57 zX0_init rfl lX7_22 ⟨by decide, by decide⟩ ⟨by decide, by decide⟩ rfl (Nat.le_of_ble_eq_true rfl) (qX0_init l w _ _ _) (fun hh_ nn_ rr_ qq_ => ?_)
  obtain ⟨rfl, rfl, rfl⟩ := qq_
  refine R_putF' (pc := 60) (T := TX7) (fs' := [.ref c, .ref d, .ref s, .ref (n + 1), .ref (n + 1 + 1), .ref (n + 1 + 1 + 1), .ref (n + 1 + 1 + 1 + 1)]) dX7_init_60 fX7_33 kFX7_33 rfl tX7_6 rfl rfl rfl rfl f_43 (by omega) (Nat.le_of_ble_eq_true rfl) rfl (fun h_47 f_48 g_49 => ?_)
  have f_50 := (g_49 (n + 1) (by omega)).trans f_44
  have f_51 := (g_49 (n + 1 + 1) (by omega)).trans f_45
  have f_52 := (g_49 (n + 1 + 1 + 1) (by omega)).trans f_46
  have f_53 := (g_49 (n + 1 + 1 + 1 + 1) (by omega)).trans f_41
  exact R_vreturn (pc := 63) dX7_init_63 rfl (by decide) (by decide) ⟨rfl, rfl, f_48, f_50, f_51, f_52, f_53, (fun x_ n0_ n1_ => (((((((((((g_49 x_ n0_).trans (g_42 x_ (by omega))).trans (g_36 x_ n0_)).trans (g_30 x_ (by omega))).trans (g_25 x_ n0_)).trans (g_20 x_ (by omega))).trans (g_16 x_ n0_)).trans (g_12 x_ (by omega))).trans (g_9 x_ n0_)).trans (g_6 x_ n0_)).trans (g_3 x_ n0_)))⟩
set_option maxHeartbeats 4000000 in
set_option maxRecDepth 100000 in
theorem qX10_init (l : Launch) (w : am_W) (h : am_H) (n a c : Nat) (han : 0 < a ∧ a ≤ n) (ha : h a = .inr (.inr (10, [.null, .null]))) : RC l w mX10_init h n [.ref a, .ref c] (fun h' n' q => n' = n + 1 ∧ q = none ∧ h' a = .inr (.inr (10, [.ref c, .ref (n + 1)])) ∧ h' (n + 1) = .inr (.inr (0, [.long 0, .long 0])) ∧ ∀ x, x ≠ a → x ≤ n → h' x = h x) := by
  refine RC.of [(0, .ref a), (1, .ref c)] (by decide +kernel) rfl (Nat.le_of_ble_eq_true rfl) ?_
  refine R_aload_n (pc := 0) 0 dX10_init_0 rfl rfl ?_
  refine R_objInit (pc := 1) dX10_init_1 lX10_1 iO cO (by decide) (Nat.le_of_ble_eq_true rfl) ?_
  refine R_aload_n (pc := 4) 0 dX10_init_4 rfl rfl ?_
  refine R_aload_n (pc := 5) 1 dX10_init_5 rfl rfl ?_
  refine R_putF' (pc := 6) (T := TX10) (fs' := [.ref c, .null]) dX10_init_6 fX10_7 kFX10_7 rfl tX10_0 rfl rfl rfl rfl ha (by omega) (Nat.le_of_ble_eq_true rfl) rfl (fun h_1 f_2 g_3 => ?_)
  refine R_aload_n (pc := 9) 0 dX10_init_9 rfl rfl ?_
  refine R_new' (pc := 10) dX10_init_10 nX10_13 (by decide) (by decide) (fun h_4 f_5 g_6 => ?_)
  have f_7 := (g_6 a (by omega)).trans f_2
  refine R_dup (pc := 13) dX10_init_13 rfl ?_
  refine R_callI (pc := 14) (μ' := mX0_init) (As := []) (st := [.ref (n + 1), .ref a]) dX10_init_14 zX0_init rfl lX10_15 ⟨by decide, by decide⟩ ⟨by decide, by decide⟩ rfl (Nat.le_of_ble_eq_true rfl) (qX0_init l w _ _ _) (fun hh_ nn_ rr_ qq_ => ?_)
  obtain ⟨rfl, rfl, rfl⟩ := qq_
  refine R_putF' (pc := 17) (T := TX10) (fs' := [.ref c, .ref (n + 1)]) dX10_init_17 fX10_16 kFX10_16 rfl tX10_1 rfl rfl rfl rfl f_7 (by omega) (Nat.le_of_ble_eq_true rfl) rfl (fun h_8 f_9 g_10 => ?_)
  have f_11 := (g_10 (n + 1) (by omega)).trans f_5
  exact R_vreturn (pc := 20) dX10_init_20 rfl (by decide) (by decide) ⟨rfl, rfl, f_9, f_11, (fun x_ n0_ n1_ => (((g_10 x_ n0_).trans (g_6 x_ (by omega))).trans (g_3 x_ n0_)))⟩
set_option maxHeartbeats 4000000 in
set_option maxRecDepth 100000 in
theorem qX3_init (l : Launch) (w : am_W) (h : am_H) (n a c s v : Nat) (han : 0 < a ∧ a ≤ n) (ha : h a = .inr (.inr (3, [.null, .null, .null, .null, .null, .null, .null, .null]))) : RC l w mX3_init h n [.ref a, .ref c, .ref s, .ref v] (fun h' n' q => n' = n + 5 ∧ q = none ∧ h' a = .inr (.inr (3, [.ref c, .ref s, .ref v, .ref (n + 1), .ref (n + 2), .ref (n + 3), .ref (n + 4), .ref (n + 5)])) ∧ h' (n + 1) = .inr (.inr (0, [.long 0, .long 0])) ∧ h' (n + 2) = .inr (.inr (0, [.long 0, .long 0])) ∧ h' (n + 3) = .inr (.inr (0, [.long 0, .long 0])) ∧ h' (n + 4) = .inr (.inr (0, [.long 0, .long 0])) ∧ h' (n + 5) = .inr (.inr (0, [.long 0, .long 0])) ∧ ∀ x, x ≠ a → x ≤ n → h' x = h x) := by
  refine RC.of [(0, .ref a), (1, .ref c), (2, .ref s), (3, .ref v)] (by decide +kernel) rfl (Nat.le_of_ble_eq_true rfl) ?_
  refine R_aload_n (pc := 0) 0 dX3_init_0 rfl rfl ?_
  refine R_objInit (pc := 1) dX3_init_1 lX3_1 iO cO (by decide) (Nat.le_of_ble_eq_true rfl) ?_
  refine R_aload_n (pc := 4) 0 dX3_init_4 rfl rfl ?_
  refine R_aload_n (pc := 5) 1 dX3_init_5 rfl rfl ?_
  refine R_putF' (pc := 6) (T := TX3) (fs' := [.ref c, .null, .null, .null, .null, .null, .null, .null]) dX3_init_6 fX3_7 kFX3_7 rfl tX3_0 rfl rfl rfl rfl ha (by omega) (Nat.le_of_ble_eq_true rfl) rfl (fun h_1 f_2 g_3 => ?_)
  refine R_aload_n (pc := 9) 0 dX3_init_9 rfl rfl ?_
  refine R_aload_n (pc := 10) 2 dX3_init_10 rfl rfl ?_
  refine R_putF' (pc := 11) (T := TX3) (fs' := [.ref c, .ref s, .null, .null, .null, .null, .null, .null]) dX3_init_11 fX3_13 kFX3_13 rfl tX3_1 rfl rfl rfl rfl f_2 (by omega) (Nat.le_of_ble_eq_true rfl) rfl (fun h_4 f_5 g_6 => ?_)
  refine R_aload_n (pc := 14) 0 dX3_init_14 rfl rfl ?_
  refine R_aload_n (pc := 15) 3 dX3_init_15 rfl rfl ?_
  refine R_putF' (pc := 16) (T := TX3) (fs' := [.ref c, .ref s, .ref v, .null, .null, .null, .null, .null]) dX3_init_16 fX3_17 kFX3_17 rfl tX3_2 rfl rfl rfl rfl f_5 (by omega) (Nat.le_of_ble_eq_true rfl) rfl (fun h_7 f_8 g_9 => ?_)
  refine R_aload_n (pc := 19) 0 dX3_init_19 rfl rfl ?_
  refine R_new' (pc := 20) dX3_init_20 nX3_20 (by decide) (by decide) (fun h_10 f_11 g_12 => ?_)
  have f_13 := (g_12 a (by omega)).trans f_8
  refine R_dup (pc := 23) dX3_init_23 rfl ?_
  refine R_callI (pc := 24) (μ' := mX0_init) (As := []) (st := [.ref (n + 1), .ref a]) dX3_init_24 zX0_init rfl lX3_22 ⟨by decide, by decide⟩ ⟨by decide, by decide⟩ rfl (Nat.le_of_ble_eq_true rfl) (qX0_init l w _ _ _) (fun hh_ nn_ rr_ qq_ => ?_)
  obtain ⟨rfl, rfl, rfl⟩ := qq_
  refine R_putF' (pc := 27) (T := TX3) (fs' := [.ref c, .ref s, .ref v, .ref (n + 1), .null, .null, .null, .null]) dX3_init_27 fX3_23 kFX3_23 rfl tX3_3 rfl rfl rfl rfl f_13 (by omega) (Nat.le_of_ble_eq_true rfl) rfl (fun h_14 f_15 g_16 => ?_)
  have f_17 := (g_16 (n + 1) (by omega)).trans f_11
  refine R_aload_n (pc := 30) 0 dX3_init_30 rfl rfl ?_
  refine R_new' (pc := 31) dX3_init_31 nX3_20 (by decide) (by decide) (fun h_18 f_19 g_20 => ?_)
  have f_21 := (g_20 a (by omega)).trans f_15
  have f_22 := (g_20 (n + 1) (by omega)).trans f_17
  refine R_dup (pc := 34) dX3_init_34 rfl ?_
  refine R_callI (pc := 35) (μ' := mX0_init) (As := []) (st := [.ref (n + 1 + 1), .ref a]) dX3_init_35 zX0_init rfl lX3_22 ⟨by decide, by decide⟩ ⟨by decide, by decide⟩ rfl (Nat.le_of_ble_eq_true rfl) (qX0_init l w _ _ _) (fun hh_ nn_ rr_ qq_ => ?_)
  obtain ⟨rfl, rfl, rfl⟩ := qq_
  refine R_putF' (pc := 38) (T := TX3) (fs' := [.ref c, .ref s, .ref v, .ref (n + 1), .ref (n + 1 + 1), .null, .null, .null]) dX3_init_38 fX3_27 kFX3_27 rfl tX3_4 rfl rfl rfl rfl f_21 (by omega) (Nat.le_of_ble_eq_true rfl) rfl (fun h_23 f_24 g_25 => ?_)
  have f_26 := (g_25 (n + 1) (by omega)).trans f_22
  have f_27 := (g_25 (n + 1 + 1) (by omega)).trans f_19
  refine R_aload_n (pc := 41) 0 dX3_init_41 rfl rfl ?_
  refine R_new' (pc := 42) dX3_init_42 nX3_20 (by decide) (by decide) (fun h_28 f_29 g_30 => ?_)
  have f_31 := (g_30 a (by omega)).trans f_24
  have f_32 := (g_30 (n + 1) (by omega)).trans f_26
  have f_33 := (g_30 (n + 1 + 1) (by omega)).trans f_27
  refine R_dup (pc := 45) dX3_init_45 rfl ?_
  refine R_callI (pc := 46) (μ' := mX0_init) (As := []) (st := [.ref (n + 1 + 1 + 1), .ref a]) dX3_init_46 zX0_init rfl lX3_22 ⟨by decide, by decide⟩ ⟨by decide, by decide⟩ rfl (Nat.le_of_ble_eq_true rfl) (qX0_init l w _ _ _) (fun hh_ nn_ rr_ qq_ => ?_)
  obtain ⟨rfl, rfl, rfl⟩ := qq_
  refine R_putF' (pc := 49) (T := TX3) (fs' := [.ref c, .ref s, .ref v, .ref (n + 1), .ref (n + 1 + 1), .ref (n + 1 + 1 + 1), .null, .null]) dX3_init_49 fX3_30 kFX3_30 rfl tX3_5 rfl rfl rfl rfl f_31 (by omega) (Nat.le_of_ble_eq_true rfl) rfl (fun h_34 f_35 g_36 => ?_)
  have f_37 := (g_36 (n + 1) (by omega)).trans f_32
  have f_38 := (g_36 (n + 1 + 1) (by omega)).trans f_33
  have f_39 := (g_36 (n + 1 + 1 + 1) (by omega)).trans f_29
  refine R_aload_n (pc := 52) 0 dX3_init_52 rfl rfl ?_
  refine R_new' (pc := 53) dX3_init_53 nX3_20 (by decide) (by decide) (fun h_40 f_41 g_42 => ?_)
  have f_43 := (g_42 a (by omega)).trans f_35
  have f_44 := (g_42 (n + 1) (by omega)).trans f_37
  have f_45 := (g_42 (n + 1 + 1) (by omega)).trans f_38
  have f_46 := (g_42 (n + 1 + 1 + 1) (by omega)).trans f_39
  refine R_dup (pc := 56) dX3_init_56 rfl ?_
  refine R_callI (pc := 57) (μ' := mX0_init) (As := []) (st := [.ref (n + 1 + 1 + 1 + 1), .ref a]) dX3_init_57 zX0_init rfl lX3_22 ⟨by decide, by decide⟩ ⟨by decide, by decide⟩ rfl (Nat.le_of_ble_eq_true rfl) (qX0_init l w _ _ _) (fun hh_ nn_ rr_ qq_ => ?_)
  obtain ⟨rfl, rfl, rfl⟩ := qq_
  refine R_putF' (pc := 60) (T := TX3) (fs' := [.ref c, .ref s, .ref v, .ref (n + 1), .ref (n + 1 + 1), .ref (n + 1 + 1 + 1), .ref (n + 1 + 1 + 1 + 1), .null]) dX3_init_60 fX3_33 kFX3_33 rfl tX3_6 rfl rfl rfl rfl f_43 (by omega) (Nat.le_of_ble_eq_true rfl) rfl (fun h_47 f_48 g_49 => ?_)
  have f_50 := (g_49 (n + 1) (by omega)).trans f_44
  have f_51 := (g_49 (n + 1 + 1) (by omega)).trans f_45
  have f_52 := (g_49 (n + 1 + 1 + 1) (by omega)).trans f_46
  have f_53 := (g_49 (n + 1 + 1 + 1 + 1) (by omega)).trans f_41
  refine R_aload_n (pc := 63) 0 dX3_init_63 rfl rfl ?_
  refine R_new' (pc := 64) dX3_init_64 nX3_20 (by decide) (by decide) (fun h_54 f_55 g_56 => ?_)
  have f_57 := (g_56 a (by omega)).trans f_48
  have f_58 := (g_56 (n + 1) (by omega)).trans f_50
  have f_59 := (g_56 (n + 1 + 1) (by omega)).trans f_51
  have f_60 := (g_56 (n + 1 + 1 + 1) (by omega)).trans f_52
  have f_61 := (g_56 (n + 1 + 1 + 1 + 1) (by omega)).trans f_53
  refine R_dup (pc := 67) dX3_init_67 rfl ?_
  refine R_callI (pc := 68) (μ' := mX0_init) (As := []) (st := [.ref (n + 1 + 1 + 1 + 1 + 1), .ref a]) dX3_init_68 zX0_init rfl lX3_22 ⟨by decide, by decide⟩ ⟨by decide, by decide⟩ rfl (Nat.le_of_ble_eq_true rfl) (qX0_init l w _ _ _) (fun hh_ nn_ rr_ qq_ => ?_)
  obtain ⟨rfl, rfl, rfl⟩ := qq_
  refine R_putF' (pc := 71) (T := TX3) (fs' := [.ref c, .ref s, .ref v, .ref (n + 1), .ref (n + 1 + 1), .ref (n + 1 + 1 + 1), .ref (n + 1 + 1 + 1 + 1), .ref (n + 1 + 1 + 1 + 1 + 1)]) dX3_init_71 fX3_36 kFX3_36 rfl tX3_7 rfl rfl rfl rfl f_57 (by omega) (Nat.le_of_ble_eq_true rfl) rfl (fun h_62 f_63 g_64 => ?_)
  have f_65 := (g_64 (n + 1) (by omega)).trans f_58
  have f_66 := (g_64 (n + 1 + 1) (by omega)).trans f_59
  have f_67 := (g_64 (n + 1 + 1 + 1) (by omega)).trans f_60
  have f_68 := (g_64 (n + 1 + 1 + 1 + 1) (by omega)).trans f_61
  have f_69 := (g_64 (n + 1 + 1 + 1 + 1 + 1) (by omega)).trans f_55
  exact R_vreturn (pc := 74) dX3_init_74 rfl (by decide) (by decide) ⟨rfl, rfl, f_63, f_65, f_66, f_67, f_68, f_69, (fun x_ n0_ n1_ => (((((((((((((g_64 x_ n0_).trans (g_56 x_ (by omega))).trans (g_49 x_ n0_)).trans (g_42 x_ (by omega))).trans (g_36 x_ n0_)).trans (g_30 x_ (by omega))).trans (g_25 x_ n0_)).trans (g_20 x_ (by omega))).trans (g_16 x_ n0_)).trans (g_12 x_ (by omega))).trans (g_9 x_ n0_)).trans (g_6 x_ n0_)).trans (g_3 x_ n0_)))⟩
set_option maxHeartbeats 4000000 in
set_option maxRecDepth 100000 in
theorem qX4_init (l : Launch) (w : am_W) (h : am_H) (n a c d e s v y : Nat) (han : 0 < a ∧ a ≤ n) (ha : h a = .inr (.inr (4, [.null, .null, .null, .null, .null, .null, .null, .null, .null]))) : RC l w mX4_init h n [.ref a, .ref c, .ref d, .ref e, .ref s, .ref v, .ref y] (fun h' n' q => n' = n + 3 ∧ q = none ∧ h' a = .inr (.inr (4, [.ref c, .ref d, .ref e, .ref s, .ref v, .ref y, .ref (n + 1), .ref (n + 2), .ref (n + 3)])) ∧ h' (n + 1) = .inr (.inr (0, [.long 0, .long 0])) ∧ h' (n + 2) = .inr (.inr (0, [.long 0, .long 0])) ∧ h' (n + 3) = .inr (.inr (0, [.long 0, .long 0])) ∧ ∀ x, x ≠ a → x ≤ n → h' x = h x) := by
  refine RC.of [(0, .ref a), (1, .ref c), (2, .ref d), (3, .ref e), (4, .ref s), (5, .ref v), (6, .ref y)] (by decide +kernel) rfl (Nat.le_of_ble_eq_true rfl) ?_
  refine R_aload_n (pc := 0) 0 dX4_init_0 rfl rfl ?_
  refine R_objInit (pc := 1) dX4_init_1 lX4_1 iO cO (by decide) (Nat.le_of_ble_eq_true rfl) ?_
  refine R_aload_n (pc := 4) 0 dX4_init_4 rfl rfl ?_
  refine R_aload_n (pc := 5) 1 dX4_init_5 rfl rfl ?_
  refine R_putF' (pc := 6) (T := TX4) (fs' := [.ref c, .null, .null, .null, .null, .null, .null, .null, .null]) dX4_init_6 fX4_7 kFX4_7 rfl tX4_0 rfl rfl rfl rfl ha (by omega) (Nat.le_of_ble_eq_true rfl) rfl (fun h_1 f_2 g_3 => ?_)
  refine R_aload_n (pc := 9) 0 dX4_init_9 rfl rfl ?_
  refine R_aload_n (pc := 10) 2 dX4_init_10 rfl rfl ?_
  refine R_putF' (pc := 11) (T := TX4) (fs' := [.ref c, .ref d, .null, .null, .null, .null, .null, .null, .null]) dX4_init_11 fX4_13 kFX4_13 rfl tX4_1 rfl rfl rfl rfl f_2 (by omega) (Nat.le_of_ble_eq_true rfl) rfl (fun h_4 f_5 g_6 => ?_)
  refine R_aload_n (pc := 14) 0 dX4_init_14 rfl rfl ?_
  refine R_aload_n (pc := 15) 3 dX4_init_15 rfl rfl ?_
  refine R_putF' (pc := 16) (T := TX4) (fs' := [.ref c, .ref d, .ref e, .null, .null, .null, .null, .null, .null]) dX4_init_16 fX4_16 kFX4_16 rfl tX4_2 rfl rfl rfl rfl f_5 (by omega) (Nat.le_of_ble_eq_true rfl) rfl (fun h_7 f_8 g_9 => ?_)
  refine R_aload_n (pc := 19) 0 dX4_init_19 rfl rfl ?_
  refine R_aload (pc := 20) 4 dX4_init_20 rfl ?_
  refine R_putF' (pc := 22) (T := TX4) (fs' := [.ref c, .ref d, .ref e, .ref s, .null, .null, .null, .null, .null]) dX4_init_22 fX4_20 kFX4_20 rfl tX4_3 rfl rfl rfl rfl f_8 (by omega) (Nat.le_of_ble_eq_true rfl) rfl (fun h_10 f_11 g_12 => ?_)
  refine R_aload_n (pc := 25) 0 dX4_init_25 rfl rfl ?_
  refine R_aload (pc := 26) 5 dX4_init_26 rfl ?_
  refine R_putF' (pc := 28) (T := TX4) (fs' := [.ref c, .ref d, .ref e, .ref s, .ref v, .null, .null, .null, .null]) dX4_init_28 fX4_24 kFX4_24 rfl tX4_4 rfl rfl rfl rfl f_11 (by omega) (Nat.le_of_ble_eq_true rfl) rfl (fun h_13 f_14 g_15 => ?_)
  refine R_aload_n (pc := 31) 0 dX4_init_31 rfl rfl ?_
  refine R_aload (pc := 32) 6 dX4_init_32 rfl ?_
  refine R_putF' (pc := 34) (T := TX4) (fs' := [.ref c, .ref d, .ref e, .ref s, .ref v, .ref y, .null, .null, .null]) dX4_init_34 fX4_27 kFX4_27 rfl tX4_5 rfl rfl rfl rfl f_14 (by omega) (Nat.le_of_ble_eq_true rfl) rfl (fun h_16 f_17 g_18 => ?_)
  refine R_aload_n (pc := 37) 0 dX4_init_37 rfl rfl ?_
  refine R_new' (pc := 38) dX4_init_38 nX4_30 (by decide) (by decide) (fun h_19 f_20 g_21 => ?_)
  have f_22 := (g_21 a (by omega)).trans f_17
  refine R_dup (pc := 41) dX4_init_41 rfl ?_
  refine R_callI (pc := 42) (μ' := mX0_init) (As := []) (st := [.ref (n + 1), .ref a]) dX4_init_42 zX0_init rfl lX4_32 ⟨by decide, by decide⟩ ⟨by decide, by decide⟩ rfl (Nat.le_of_ble_eq_true rfl) (qX0_init l w _ _ _) (fun hh_ nn_ rr_ qq_ => ?_)
  obtain ⟨rfl, rfl, rfl⟩ := qq_
  refine R_putF' (pc := 45) (T := TX4) (fs' := [.ref c, .ref d, .ref e, .ref s, .ref v, .ref y, .ref (n + 1), .null, .null]) dX4_init_45 fX4_33 kFX4_33 rfl tX4_6 rfl rfl rfl rfl f_22 (by omega) (Nat.le_of_ble_eq_true rfl) rfl (fun h_23 f_24 g_25 => ?_)
  have f_26 := (g_25 (n + 1) (by omega)).trans f_20
  refine R_aload_n (pc := 48) 0 dX4_init_48 rfl rfl ?_
  refine R_new' (pc := 49) dX4_init_49 nX4_30 (by decide) (by decide) (fun h_27 f_28 g_29 => ?_)
  have f_30 := (g_29 a (by omega)).trans f_24
  have f_31 := (g_29 (n + 1) (by omega)).trans f_26
  refine R_dup (pc := 52) dX4_init_52 rfl ?_
  refine R_callI (pc := 53) (μ' := mX0_init) (As := []) (st := [.ref (n + 1 + 1), .ref a]) dX4_init_53 zX0_init rfl lX4_32 ⟨by decide, by decide⟩ ⟨by decide, by decide⟩ rfl (Nat.le_of_ble_eq_true rfl) (qX0_init l w _ _ _) (fun hh_ nn_ rr_ qq_ => ?_)
  obtain ⟨rfl, rfl, rfl⟩ := qq_
  refine R_putF' (pc := 56) (T := TX4) (fs' := [.ref c, .ref d, .ref e, .ref s, .ref v, .ref y, .ref (n + 1), .ref (n + 1 + 1), .null]) dX4_init_56 fX4_37 kFX4_37 rfl tX4_7 rfl rfl rfl rfl f_30 (by omega) (Nat.le_of_ble_eq_true rfl) rfl (fun h_32 f_33 g_34 => ?_)
  have f_35 := (g_34 (n + 1) (by omega)).trans f_31
  have f_36 := (g_34 (n + 1 + 1) (by omega)).trans f_28
  refine R_aload_n (pc := 59) 0 dX4_init_59 rfl rfl ?_
  refine R_new' (pc := 60) dX4_init_60 nX4_30 (by decide) (by decide) (fun h_37 f_38 g_39 => ?_)
  have f_40 := (g_39 a (by omega)).trans f_33
  have f_41 := (g_39 (n + 1) (by omega)).trans f_35
  have f_42 := (g_39 (n + 1 + 1) (by omega)).trans f_36
  refine R_dup (pc := 63) dX4_init_63 rfl ?_
  refine R_callI (pc := 64) (μ' := mX0_init) (As := []) (st := [.ref (n + 1 + 1 + 1), .ref a]) dX4_init_64 zX0_init rfl lX4_32 ⟨by decide, by decide⟩ ⟨by decide, by decide⟩ rfl (Nat.le_of_ble_eq_true rfl) (qX0_init l w _ _ _) (fun hh_ nn_ rr_ qq_ => ?_)
  obtain ⟨rfl, rfl, rfl⟩ := qq_
  refine R_putF' (pc := 67) (T := TX4) (fs' := [.ref c, .ref d, .ref e, .ref s, .ref v, .ref y, .ref (n + 1), .ref (n + 1 + 1), .ref (n + 1 + 1 + 1)]) dX4_init_67 fX4_40 kFX4_40 rfl tX4_8 rfl rfl rfl rfl f_40 (by omega) (Nat.le_of_ble_eq_true rfl) rfl (fun h_43 f_44 g_45 => ?_)
  have f_46 := (g_45 (n + 1) (by omega)).trans f_41
  have f_47 := (g_45 (n + 1 + 1) (by omega)).trans f_42
  have f_48 := (g_45 (n + 1 + 1 + 1) (by omega)).trans f_38
  exact R_vreturn (pc := 70) dX4_init_70 rfl (by decide) (by decide) ⟨rfl, rfl, f_44, f_46, f_47, f_48, (fun x_ n0_ n1_ => ((((((((((((g_45 x_ n0_).trans (g_39 x_ (by omega))).trans (g_34 x_ n0_)).trans (g_29 x_ (by omega))).trans (g_25 x_ n0_)).trans (g_21 x_ (by omega))).trans (g_18 x_ n0_)).trans (g_15 x_ n0_)).trans (g_12 x_ n0_)).trans (g_9 x_ n0_)).trans (g_6 x_ n0_)).trans (g_3 x_ n0_)))⟩
set_option maxHeartbeats 4000000 in
set_option maxRecDepth 100000 in
theorem qX5_init (l : Launch) (w : am_W) (h : am_H) (n a c s v : Nat) (han : 0 < a ∧ a ≤ n) (ha : h a = .inr (.inr (5, [.null, .null, .null, .null, .null, .null, .null, .null, .null, .null]))) : RC l w mX5_init h n [.ref a, .ref c, .ref s, .ref v] (fun h' n' q => n' = n + 7 ∧ q = none ∧ h' a = .inr (.inr (5, [.ref c, .ref s, .ref v, .ref (n + 1), .ref (n + 2), .ref (n + 3), .ref (n + 4), .ref (n + 5), .ref (n + 6), .ref (n + 7)])) ∧ h' (n + 1) = .inr (.inr (0, [.long 0, .long 0])) ∧ h' (n + 2) = .inr (.inr (0, [.long 0, .long 0])) ∧ h' (n + 3) = .inr (.inr (0, [.long 0, .long 0])) ∧ h' (n + 4) = .inr (.inr (0, [.long 0, .long 0])) ∧ h' (n + 5) = .inr (.inr (0, [.long 0, .long 0])) ∧ h' (n + 6) = .inr (.inr (0, [.long 0, .long 0])) ∧ h' (n + 7) = .inr (.inr (0, [.long 0, .long 0])) ∧ ∀ x, x ≠ a → x ≤ n → h' x = h x) := by
  refine RC.of [(0, .ref a), (1, .ref c), (2, .ref s), (3, .ref v)] (by decide +kernel) rfl (Nat.le_of_ble_eq_true rfl) ?_
  refine R_aload_n (pc := 0) 0 dX5_init_0 rfl rfl ?_
  refine R_objInit (pc := 1) dX5_init_1 lX5_1 iO cO (by decide) (Nat.le_of_ble_eq_true rfl) ?_
  refine R_aload_n (pc := 4) 0 dX5_init_4 rfl rfl ?_
  refine R_aload_n (pc := 5) 1 dX5_init_5 rfl rfl ?_
  refine R_putF' (pc := 6) (T := TX5) (fs' := [.ref c, .null, .null, .null, .null, .null, .null, .null, .null, .null]) dX5_init_6 fX5_7 kFX5_7 rfl tX5_0 rfl rfl rfl rfl ha (by omega) (Nat.le_of_ble_eq_true rfl) rfl (fun h_1 f_2 g_3 => ?_)
  refine R_aload_n (pc := 9) 0 dX5_init_9 rfl rfl ?_
  refine R_aload_n (pc := 10) 2 dX5_init_10 rfl rfl ?_
  refine R_putF' (pc := 11) (T := TX5) (fs' := [.ref c, .ref s, .null, .null, .null, .null, .null, .null, .null, .null]) dX5_init_11 fX5_13 kFX5_13 rfl tX5_1 rfl rfl rfl rfl f_2 (by omega) (Nat.le_of_ble_eq_true rfl) rfl (fun h_4 f_5 g_6 => ?_)
  refine R_aload_n (pc := 14) 0 dX5_init_14 rfl rfl ?_
  refine R_aload_n (pc := 15) 3 dX5_init_15 rfl rfl ?_
  refine R_putF' (pc := 16) (T := TX5) (fs' := [.ref c, .ref s, .ref v, .null, .null, .null, .null, .null, .null, .null]) dX5_init_16 fX5_17 kFX5_17 rfl tX5_2 rfl rfl rfl rfl f_5 (by omega) (Nat.le_of_ble_eq_true rfl) rfl (fun h_7 f_8 g_9 => ?_)
  refine R_aload_n (pc := 19) 0 dX5_init_19 rfl rfl ?_
  refine R_new' (pc := 20) dX5_init_20 nX5_20 (by decide) (by decide) (fun h_10 f_11 g_12 => ?_)
  have f_13 := (g_12 a (by omega)).trans f_8
  refine R_dup (pc := 23) dX5_init_23 rfl ?_
  refine R_callI (pc := 24) (μ' := mX0_init) (As := []) (st := [.ref (n + 1), .ref a]) dX5_init_24 zX0_init rfl lX5_22 ⟨by decide, by decide⟩ ⟨by decide, by decide⟩ rfl (Nat.le_of_ble_eq_true rfl) (qX0_init l w _ _ _) (fun hh_ nn_ rr_ qq_ => ?_)
  obtain ⟨rfl, rfl, rfl⟩ := qq_
  refine R_putF' (pc := 27) (T := TX5) (fs' := [.ref c, .ref s, .ref v, .ref (n + 1), .null, .null, .null, .null, .null, .null]) dX5_init_27 fX5_23 kFX5_23 rfl tX5_3 rfl rfl rfl rfl f_13 (by omega) (Nat.le_of_ble_eq_true rfl) rfl (fun h_14 f_15 g_16 => ?_)
  have f_17 := (g_16 (n + 1) (by omega)).trans f_11
  refine R_aload_n (pc := 30) 0 dX5_init_30 rfl rfl ?_
  refine R_new' (pc := 31) dX5_init_31 nX5_20 (by decide) (by decide) (fun h_18 f_19 g_20 => ?_)
  have f_21 := (g_20 a (by omega)).trans f_15
  have f_22 := (g_20 (n + 1) (by omega)).trans f_17
  refine R_dup (pc := 34) dX5_init_34 rfl ?_
  refine R_callI (pc := 35) (μ' := mX0_init) (As := []) (st := [.ref (n + 1 + 1), .ref a]) dX5_init_35 zX0_init rfl lX5_22 ⟨by decide, by decide⟩ ⟨by decide, by decide⟩ rfl (Nat.le_of_ble_eq_true rfl) (qX0_init l w _ _ _) (fun hh_ nn_ rr_ qq_ => ?_)
  obtain ⟨rfl, rfl, rfl⟩ := qq_
  refine R_putF' (pc := 38) (T := TX5) (fs' := [.ref c, .ref s, .ref v, .ref (n + 1), .ref (n + 1 + 1), .null, .null, .null, .null, .null]) dX5_init_38 fX5_27 kFX5_27 rfl tX5_4 rfl rfl rfl rfl f_21 (by omega) (Nat.le_of_ble_eq_true rfl) rfl (fun h_23 f_24 g_25 => ?_)
  have f_26 := (g_25 (n + 1) (by omega)).trans f_22
  have f_27 := (g_25 (n + 1 + 1) (by omega)).trans f_19
  refine R_aload_n (pc := 41) 0 dX5_init_41 rfl rfl ?_
  refine R_new' (pc := 42) dX5_init_42 nX5_20 (by decide) (by decide) (fun h_28 f_29 g_30 => ?_)
  have f_31 := (g_30 a (by omega)).trans f_24
  have f_32 := (g_30 (n + 1) (by omega)).trans f_26
  have f_33 := (g_30 (n + 1 + 1) (by omega)).trans f_27
  refine R_dup (pc := 45) dX5_init_45 rfl ?_
  refine R_callI (pc := 46) (μ' := mX0_init) (As := []) (st := [.ref (n + 1 + 1 + 1), .ref a]) dX5_init_46 zX0_init rfl lX5_22 ⟨by decide, by decide⟩ ⟨by decide, by decide⟩ rfl (Nat.le_of_ble_eq_true rfl) (qX0_init l w _ _ _) (fun hh_ nn_ rr_ qq_ => ?_)
  obtain ⟨rfl, rfl, rfl⟩ := qq_
  refine R_putF' (pc := 49) (T := TX5) (fs' := [.ref c, .ref s, .ref v, .ref (n + 1), .ref (n + 1 + 1), .ref (n + 1 + 1 + 1), .null, .null, .null, .null]) dX5_init_49 fX5_30 kFX5_30 rfl tX5_5 rfl rfl rfl rfl f_31 (by omega) (Nat.le_of_ble_eq_true rfl) rfl (fun h_34 f_35 g_36 => ?_)
  have f_37 := (g_36 (n + 1) (by omega)).trans f_32
  have f_38 := (g_36 (n + 1 + 1) (by omega)).trans f_33
  have f_39 := (g_36 (n + 1 + 1 + 1) (by omega)).trans f_29
  refine R_aload_n (pc := 52) 0 dX5_init_52 rfl rfl ?_
  refine R_new' (pc := 53) dX5_init_53 nX5_20 (by decide) (by decide) (fun h_40 f_41 g_42 => ?_)
  have f_43 := (g_42 a (by omega)).trans f_35
  have f_44 := (g_42 (n + 1) (by omega)).trans f_37
  have f_45 := (g_42 (n + 1 + 1) (by omega)).trans f_38
  have f_46 := (g_42 (n + 1 + 1 + 1) (by omega)).trans f_39
  refine R_dup (pc := 56) dX5_init_56 rfl ?_
  refine R_callI (pc := 57) (μ' := mX0_init) (As := []) (st := [.ref (n + 1 + 1 + 1 + 1), .ref a]) dX5_init_57 zX0_init rfl lX5_22 ⟨by decide, by decide⟩ ⟨by decide, by decide⟩ rfl (Nat.le_of_ble_eq_true rfl) (qX0_init l w _ _ _) (fun hh_ nn_ rr_ qq_ => ?_)
  obtain ⟨rfl, rfl, rfl⟩ := qq_
  refine R_putF' (pc := 60) (T := TX5) (fs' := [.ref c, .ref s, .ref v, .ref (n + 1), .ref (n + 1 + 1), .ref (n + 1 + 1 + 1), .ref (n + 1 + 1 + 1 + 1), .null, .null, .null]) dX5_init_60 fX5_33 kFX5_33 rfl tX5_6 rfl rfl rfl rfl f_43 (by omega) (Nat.le_of_ble_eq_true rfl) rfl (fun h_47 f_48 g_49 => ?_)
  have f_50 := (g_49 (n + 1) (by omega)).trans f_44
  have f_51 := (g_49 (n + 1 + 1) (by omega)).trans f_45
  have f_52 := (g_49 (n + 1 + 1 + 1) (by omega)).trans f_46
  have f_53 := (g_49 (n + 1 + 1 + 1 + 1) (by omega)).trans f_41
  refine R_aload_n (pc := 63) 0 dX5_init_63 rfl rfl ?_
  refine R_new' (pc := 64) dX5_init_64 nX5_20 (by decide) (by decide) (fun h_54 f_55 g_56 => ?_)
  have f_57 := (g_56 a (by omega)).trans f_48
  have f_58 := (g_56 (n + 1) (by omega)).trans f_50
  have f_59 := (g_56 (n + 1 + 1) (by omega)).trans f_51
  have f_60 := (g_56 (n + 1 + 1 + 1) (by omega)).trans f_52
  have f_61 := (g_56 (n + 1 + 1 + 1 + 1) (by omega)).trans f_53
  refine R_dup (pc := 67) dX5_init_67 rfl ?_
  refine R_callI (pc := 68) (μ' := mX0_init) (As := []) (st := [.ref (n + 1 + 1 + 1 + 1 + 1), .ref a]) dX5_init_68 zX0_init rfl lX5_22 ⟨by decide, by decide⟩ ⟨by decide, by decide⟩ rfl (Nat.le_of_ble_eq_true rfl) (qX0_init l w _ _ _) (fun hh_ nn_ rr_ qq_ => ?_)
  obtain ⟨rfl, rfl, rfl⟩ := qq_
  refine R_putF' (pc := 71) (T := TX5) (fs' := [.ref c, .ref s, .ref v, .ref (n + 1), .ref (n + 1 + 1), .ref (n + 1 + 1 + 1), .ref (n + 1 + 1 + 1 + 1), .ref (n + 1 + 1 + 1 + 1 + 1), .null, .null]) dX5_init_71 fX5_36 kFX5_36 rfl tX5_7 rfl rfl rfl rfl f_57 (by omega) (Nat.le_of_ble_eq_true rfl) rfl (fun h_62 f_63 g_64 => ?_)
  have f_65 := (g_64 (n + 1) (by omega)).trans f_58
  have f_66 := (g_64 (n + 1 + 1) (by omega)).trans f_59
  have f_67 := (g_64 (n + 1 + 1 + 1) (by omega)).trans f_60
  have f_68 := (g_64 (n + 1 + 1 + 1 + 1) (by omega)).trans f_61
  have f_69 := (g_64 (n + 1 + 1 + 1 + 1 + 1) (by omega)).trans f_55
  refine R_aload_n (pc := 74) 0 dX5_init_74 rfl rfl ?_
  refine R_new' (pc := 75) dX5_init_75 nX5_20 (by decide) (by decide) (fun h_70 f_71 g_72 => ?_)
  have f_73 := (g_72 a (by omega)).trans f_63
  have f_74 := (g_72 (n + 1) (by omega)).trans f_65
  have f_75 := (g_72 (n + 1 + 1) (by omega)).trans f_66
  have f_76 := (g_72 (n + 1 + 1 + 1) (by omega)).trans f_67
  have f_77 := (g_72 (n + 1 + 1 + 1 + 1) (by omega)).trans f_68
  have f_78 := (g_72 (n + 1 + 1 + 1 + 1 + 1) (by omega)).trans f_69
  refine R_dup (pc := 78) dX5_init_78 rfl ?_
  refine R_callI (pc := 79) (μ' := mX0_init) (As := []) (st := [.ref (n + 1 + 1 + 1 + 1 + 1 + 1), .ref a]) dX5_init_79 zX0_init rfl lX5_22 ⟨by decide, by decide⟩ ⟨by decide, by decide⟩ rfl (Nat.le_of_ble_eq_true rfl) (qX0_init l w _ _ _) (fun hh_ nn_ rr_ qq_ => ?_)
  obtain ⟨rfl, rfl, rfl⟩ := qq_
  refine R_putF' (pc := 82) (T := TX5) (fs' := [.ref c, .ref s, .ref v, .ref (n + 1), .ref (n + 1 + 1), .ref (n + 1 + 1 + 1), .ref (n + 1 + 1 + 1 + 1), .ref (n + 1 + 1 + 1 + 1 + 1), .ref (n + 1 + 1 + 1 + 1 + 1 + 1), .null]) dX5_init_82 fX5_39 kFX5_39 rfl tX5_8 rfl rfl rfl rfl f_73 (by omega) (Nat.le_of_ble_eq_true rfl) rfl (fun h_79 f_80 g_81 => ?_)
  have f_82 := (g_81 (n + 1) (by omega)).trans f_74
  have f_83 := (g_81 (n + 1 + 1) (by omega)).trans f_75
  have f_84 := (g_81 (n + 1 + 1 + 1) (by omega)).trans f_76
  have f_85 := (g_81 (n + 1 + 1 + 1 + 1) (by omega)).trans f_77
  have f_86 := (g_81 (n + 1 + 1 + 1 + 1 + 1) (by omega)).trans f_78
  have f_87 := (g_81 (n + 1 + 1 + 1 + 1 + 1 + 1) (by omega)).trans f_71
  refine R_aload_n (pc := 85) 0 dX5_init_85 rfl rfl ?_
  refine R_new' (pc := 86) dX5_init_86 nX5_20 (by decide) (by decide) (fun h_88 f_89 g_90 => ?_)
  have f_91 := (g_90 a (by omega)).trans f_80
  have f_92 := (g_90 (n + 1) (by omega)).trans f_82
  have f_93 := (g_90 (n + 1 + 1) (by omega)).trans f_83
  have f_94 := (g_90 (n + 1 + 1 + 1) (by omega)).trans f_84
  have f_95 := (g_90 (n + 1 + 1 + 1 + 1) (by omega)).trans f_85
  have f_96 := (g_90 (n + 1 + 1 + 1 + 1 + 1) (by omega)).trans f_86
  have f_97 := (g_90 (n + 1 + 1 + 1 + 1 + 1 + 1) (by omega)).trans f_87
  refine R_dup (pc := 89) dX5_init_89 rfl ?_
  refine R_callI (pc := 90) (μ' := mX0_init) (As := []) (st := [.ref (n + 1 + 1 + 1 + 1 + 1 + 1 + 1), .ref a]) dX5_init_90 zX0_init rfl lX5_22 ⟨by decide, by decide⟩ ⟨by decide, by decide⟩ rfl (Nat.le_of_ble_eq_true rfl) (qX0_init l w _ _ _) (fun hh_ nn_ rr_ qq_ => ?_)
  obtain ⟨rfl, rfl, rfl⟩ := qq_
  refine R_putF' (pc := 93) (T := TX5) (fs' := [.ref c, .ref s, .ref v, .ref (n + 1), .ref (n + 1 + 1), .ref (n + 1 + 1 + 1), .ref (n + 1 + 1 + 1 + 1), .ref (n + 1 + 1 + 1 + 1 + 1), .ref (n + 1 + 1 + 1 + 1 + 1 + 1), .ref (n + 1 + 1 + 1 + 1 + 1 + 1 + 1)]) dX5_init_93 fX5_42 kFX5_42 rfl tX5_9 rfl rfl rfl rfl f_91 (by omega) (Nat.le_of_ble_eq_true rfl) rfl (fun h_98 f_99 g_100 => ?_)
  have f_101 := (g_100 (n + 1) (by omega)).trans f_92
  have f_102 := (g_100 (n + 1 + 1) (by omega)).trans f_93
  have f_103 := (g_100 (n + 1 + 1 + 1) (by omega)).trans f_94
  have f_104 := (g_100 (n + 1 + 1 + 1 + 1) (by omega)).trans f_95
  have f_105 := (g_100 (n + 1 + 1 + 1 + 1 + 1) (by omega)).trans f_96
  have f_106 := (g_100 (n + 1 + 1 + 1 + 1 + 1 + 1) (by omega)).trans f_97
  have f_107 := (g_100 (n + 1 + 1 + 1 + 1 + 1 + 1 + 1) (by omega)).trans f_89
  exact R_vreturn (pc := 96) dX5_init_96 rfl (by decide) (by decide) ⟨rfl, rfl, f_99, f_101, f_102, f_103, f_104, f_105, f_106, f_107, (fun x_ n0_ n1_ => (((((((((((((((((g_100 x_ n0_).trans (g_90 x_ (by omega))).trans (g_81 x_ n0_)).trans (g_72 x_ (by omega))).trans (g_64 x_ n0_)).trans (g_56 x_ (by omega))).trans (g_49 x_ n0_)).trans (g_42 x_ (by omega))).trans (g_36 x_ n0_)).trans (g_30 x_ (by omega))).trans (g_25 x_ n0_)).trans (g_20 x_ (by omega))).trans (g_16 x_ n0_)).trans (g_12 x_ (by omega))).trans (g_9 x_ n0_)).trans (g_6 x_ n0_)).trans (g_3 x_ n0_)))⟩
