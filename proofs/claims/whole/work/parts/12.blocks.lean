def vX0_become (hi lo : Int64) (p : Int64) (q : Int64) : Int64 × Int64 := (p, q)
set_option maxHeartbeats 4000000 in
set_option maxRecDepth 100000 in
theorem qX0_become (l : Launch) (w : am_W) (h : am_H) (n : Nat) (a : Nat) (hi lo : Int64) (p : Int64) (q : Int64) (ha : h a = .inr (.inr (0, [.long hi, .long lo]))) (hn : 0 < a ∧ a ≤ n) : RH l w mX0_become h n [.ref a, .long p, .long q] (fun h' r => r = none ∧ h' a = .inr (.inr (0, [.long ((vX0_become hi lo p q).1), .long ((vX0_become hi lo p q).2)])) ∧ ∀ x, x ≠ a → h' x = h x) := by
  refine RC.of [(0, .ref a), (1, .long p), (3, .long q)] (by decide +kernel) rfl (Nat.le_of_ble_eq_true rfl) ?_
  refine R_aload_n (pc := 0) 0 dX0_become_0 rfl rfl ?_
  refine R_lload_n (pc := 1) 1 dX0_become_1 rfl rfl ?_
  refine R_put' (pc := 2) (fs' := [.long p, .long lo]) dX0_become_2 fX0_7 tX0_0 rfl rfl ha (by omega) (Nat.le_of_ble_eq_true rfl) rfl (fun h_1 f_2 g_3 => ?_)
  refine R_aload_n (pc := 5) 0 dX0_become_5 rfl rfl ?_
  refine R_lload_n (pc := 6) 2 dX0_become_6 rfl rfl ?_
  refine R_put' (pc := 7) (fs' := [.long p, .long q]) dX0_become_7 fX0_13 tX0_1 rfl rfl f_2 (by omega) (Nat.le_of_ble_eq_true rfl) rfl (fun h_4 f_5 g_6 => ?_)
  refine R_vreturn (pc := 10) dX0_become_10 rfl (by decide) (by decide) ⟨rfl, rfl, ?_, (fun x_ n0_ => ((g_6 x_ n0_).trans (g_3 x_ n0_)))⟩
  rw [f_5]
  rfl
def vX0_copy (hi lo : Int64) (hi2 : Int64) (lo2 : Int64) : Int64 × Int64 := (hi2, lo2)
set_option maxHeartbeats 4000000 in
set_option maxRecDepth 100000 in
theorem qX0_copy (l : Launch) (w : am_W) (h : am_H) (n : Nat) (a : Nat) (hi lo : Int64) (b : Nat) (hi2 lo2 : Int64) (ha : h a = .inr (.inr (0, [.long hi, .long lo]))) (hn : 0 < a ∧ a ≤ n) (hb : h b = .inr (.inr (0, [.long hi2, .long lo2]))) (hm : 0 < b ∧ b ≤ n) (hne : b ≠ a) : RH l w mX0_copy h n [.ref a, .ref b] (fun h' r => r = none ∧ h' a = .inr (.inr (0, [.long ((vX0_copy hi lo hi2 lo2).1), .long ((vX0_copy hi lo hi2 lo2).2)])) ∧ ∀ x, x ≠ a → h' x = h x) := by
  refine RC.of [(0, .ref a), (1, .ref b)] (by decide +kernel) rfl (Nat.le_of_ble_eq_true rfl) ?_
  refine R_aload_n (pc := 0) 0 dX0_copy_0 rfl rfl ?_
  refine R_aload_n (pc := 1) 1 dX0_copy_1 rfl rfl ?_
  refine R_get (pc := 2) dX0_copy_2 fX0_7 hb (by omega) rfl ?_
  refine R_put' (pc := 5) (fs' := [.long hi2, .long lo]) dX0_copy_5 fX0_7 tX0_0 rfl rfl ha (by omega) (Nat.le_of_ble_eq_true rfl) rfl (fun h_1 f_2 g_3 => ?_)
  have f_4 := (g_3 b hne).trans hb
  refine R_aload_n (pc := 8) 0 dX0_copy_8 rfl rfl ?_
  refine R_aload_n (pc := 9) 1 dX0_copy_9 rfl rfl ?_
  refine R_get (pc := 10) dX0_copy_10 fX0_13 f_4 (by omega) rfl ?_
  refine R_put' (pc := 13) (fs' := [.long hi2, .long lo2]) dX0_copy_13 fX0_13 tX0_1 rfl rfl f_2 (by omega) (Nat.le_of_ble_eq_true rfl) rfl (fun h_5 f_6 g_7 => ?_)
  have f_8 := (g_7 b hne).trans f_4
  refine R_vreturn (pc := 16) dX0_copy_16 rfl (by decide) (by decide) ⟨rfl, rfl, ?_, (fun x_ n0_ => ((g_7 x_ n0_).trans (g_3 x_ n0_)))⟩
  rw [f_6]
  rfl
def vX0_add (hi lo : Int64) (hi2 : Int64) (lo2 : Int64) : Int64 × Int64 := (hi ^^^ hi2, lo ^^^ lo2)
set_option maxHeartbeats 4000000 in
set_option maxRecDepth 100000 in
theorem qX0_add (l : Launch) (w : am_W) (h : am_H) (n : Nat) (a : Nat) (hi lo : Int64) (b : Nat) (hi2 lo2 : Int64) (ha : h a = .inr (.inr (0, [.long hi, .long lo]))) (hn : 0 < a ∧ a ≤ n) (hb : h b = .inr (.inr (0, [.long hi2, .long lo2]))) (hm : 0 < b ∧ b ≤ n) (hne : b ≠ a) : RH l w mX0_add h n [.ref a, .ref b] (fun h' r => r = none ∧ h' a = .inr (.inr (0, [.long ((vX0_add hi lo hi2 lo2).1), .long ((vX0_add hi lo hi2 lo2).2)])) ∧ ∀ x, x ≠ a → h' x = h x) := by
  refine RC.of [(0, .ref a), (1, .ref b)] (by decide +kernel) rfl (Nat.le_of_ble_eq_true rfl) ?_
  refine R_aload_n (pc := 0) 0 dX0_add_0 rfl rfl ?_
  refine R_dup (pc := 1) dX0_add_1 rfl ?_
  refine R_get (pc := 2) dX0_add_2 fX0_7 ha (by omega) rfl ?_
  refine R_aload_n (pc := 5) 1 dX0_add_5 rfl rfl ?_
  refine R_get (pc := 6) dX0_add_6 fX0_7 hb (by omega) rfl ?_
  refine R_lxor (pc := 9) dX0_add_9 ?_
  refine R_put' (pc := 10) (fs' := [.long (hi ^^^ hi2), .long lo]) dX0_add_10 fX0_7 tX0_0 rfl rfl ha (by omega) (Nat.le_of_ble_eq_true rfl) rfl (fun h_1 f_2 g_3 => ?_)
  have f_4 := (g_3 b hne).trans hb
  refine R_aload_n (pc := 13) 0 dX0_add_13 rfl rfl ?_
  refine R_dup (pc := 14) dX0_add_14 rfl ?_
  refine R_get (pc := 15) dX0_add_15 fX0_13 f_2 (by omega) rfl ?_
  refine R_aload_n (pc := 18) 1 dX0_add_18 rfl rfl ?_
  refine R_get (pc := 19) dX0_add_19 fX0_13 f_4 (by omega) rfl ?_
  refine R_lxor (pc := 22) dX0_add_22 ?_
  refine R_put' (pc := 23) (fs' := [.long (hi ^^^ hi2), .long (lo ^^^ lo2)]) dX0_add_23 fX0_13 tX0_1 rfl rfl f_2 (by omega) (Nat.le_of_ble_eq_true rfl) rfl (fun h_5 f_6 g_7 => ?_)
  have f_8 := (g_7 b hne).trans f_4
  refine R_vreturn (pc := 26) dX0_add_26 rfl (by decide) (by decide) ⟨rfl, rfl, ?_, (fun x_ n0_ => ((g_7 x_ n0_).trans (g_3 x_ n0_)))⟩
  rw [f_6]
  rfl
def vX0_comeIn (hi lo : Int64) (v : Int32) : Int64 × Int64 := ((jlshl hi 8) ||| (jlushr lo 56), (jlshl lo 8) ||| ((v &&& 255).toInt64))
set_option maxHeartbeats 4000000 in
set_option maxRecDepth 100000 in
theorem qX0_comeIn (l : Launch) (w : am_W) (h : am_H) (n : Nat) (a : Nat) (hi lo : Int64) (v : Int32) (ha : h a = .inr (.inr (0, [.long hi, .long lo]))) (hn : 0 < a ∧ a ≤ n) : RH l w mX0_comeIn h n [.ref a, .int v] (fun h' r => r = none ∧ h' a = .inr (.inr (0, [.long ((vX0_comeIn hi lo v).1), .long ((vX0_comeIn hi lo v).2)])) ∧ ∀ x, x ≠ a → h' x = h x) := by
  refine RC.of [(0, .ref a), (1, .int v)] (by decide +kernel) rfl (Nat.le_of_ble_eq_true rfl) ?_
  refine R_aload_n (pc := 0) 0 dX0_comeIn_0 rfl rfl ?_
  refine R_aload_n (pc := 1) 0 dX0_comeIn_1 rfl rfl ?_
  refine R_get (pc := 2) dX0_comeIn_2 fX0_7 ha (by omega) rfl ?_
  refine R_bipush (pc := 5) (v := 8) dX0_comeIn_5 (by decide) ?_
  refine R_lshl (pc := 7) (v := jlshl hi 8) dX0_comeIn_7 rfl ?_
  refine R_aload_n (pc := 8) 0 dX0_comeIn_8 rfl rfl ?_
  refine R_get (pc := 9) dX0_comeIn_9 fX0_13 ha (by omega) rfl ?_
  refine R_bipush (pc := 12) (v := 56) dX0_comeIn_12 (by decide) ?_
  refine R_lushr (pc := 14) (v := jlushr lo 56) dX0_comeIn_14 rfl ?_
  refine R_lor (pc := 15) dX0_comeIn_15 ?_
  refine R_put' (pc := 16) (fs' := [.long ((jlshl hi 8) ||| (jlushr lo 56)), .long lo]) dX0_comeIn_16 fX0_7 tX0_0 rfl rfl ha (by omega) (Nat.le_of_ble_eq_true rfl) rfl (fun h_1 f_2 g_3 => ?_)
  refine R_aload_n (pc := 19) 0 dX0_comeIn_19 rfl rfl ?_
  refine R_aload_n (pc := 20) 0 dX0_comeIn_20 rfl rfl ?_
  refine R_get (pc := 21) dX0_comeIn_21 fX0_13 f_2 (by omega) rfl ?_
  refine R_bipush (pc := 24) (v := 8) dX0_comeIn_24 (by decide) ?_
  refine R_lshl (pc := 26) (v := jlshl lo 8) dX0_comeIn_26 rfl ?_
  refine R_iload_n (pc := 27) 1 dX0_comeIn_27 rfl rfl ?_
  refine R_sipush (pc := 28) (v := 255) dX0_comeIn_28 (by decide) ?_
  refine R_iand (pc := 31) dX0_comeIn_31 ?_
  refine R_i2l (pc := 32) (v := (v &&& 255).toInt64) dX0_comeIn_32 rfl ?_
  refine R_lor (pc := 33) dX0_comeIn_33 ?_
  refine R_put' (pc := 34) (fs' := [.long ((jlshl hi 8) ||| (jlushr lo 56)), .long ((jlshl lo 8) ||| ((v &&& 255).toInt64))]) dX0_comeIn_34 fX0_13 tX0_1 rfl rfl f_2 (by omega) (Nat.le_of_ble_eq_true rfl) rfl (fun h_4 f_5 g_6 => ?_)
  refine R_vreturn (pc := 37) dX0_comeIn_37 rfl (by decide) (by decide) ⟨rfl, rfl, ?_, (fun x_ n0_ => ((g_6 x_ n0_).trans (g_3 x_ n0_)))⟩
  rw [f_5]
  rfl
def vX0_makeDouble (hi lo : Int64) : Int64 × Int64 := let v_1 := jlushr hi 63; ((jlshl hi 1) ||| (jlushr lo 63), (jlshl lo 1) ^^^ (v_1 * (135 : Int64)))
set_option maxHeartbeats 4000000 in
set_option maxRecDepth 100000 in
theorem qX0_makeDouble (l : Launch) (w : am_W) (h : am_H) (n : Nat) (a : Nat) (hi lo : Int64) (ha : h a = .inr (.inr (0, [.long hi, .long lo]))) (hn : 0 < a ∧ a ≤ n) : RH l w mX0_makeDouble h n [.ref a] (fun h' r => r = none ∧ h' a = .inr (.inr (0, [.long ((vX0_makeDouble hi lo).1), .long ((vX0_makeDouble hi lo).2)])) ∧ ∀ x, x ≠ a → h' x = h x) := by
  refine RC.of [(0, .ref a)] (by decide +kernel) rfl (Nat.le_of_ble_eq_true rfl) ?_
  refine R_aload_n (pc := 0) 0 dX0_makeDouble_0 rfl rfl ?_
  refine R_get (pc := 1) dX0_makeDouble_1 fX0_7 ha (by omega) rfl ?_
  refine R_bipush (pc := 4) (v := 63) dX0_makeDouble_4 (by decide) ?_
  refine R_lushr (pc := 6) (v := jlushr hi 63) dX0_makeDouble_6 rfl ?_
  refine R_topl (fun v_1 ev_1 => ?_)
  refine R_lstore_n (pc := 7) (lv' := [(1, .long v_1), (0, .ref a)]) dX0_makeDouble_7 rfl (by decide) rfl ?_
  refine R_aload_n (pc := 8) 1 dX0_makeDouble_8 rfl rfl ?_
  refine R_aload_n (pc := 9) 1 dX0_makeDouble_9 rfl rfl ?_
  refine R_get (pc := 10) dX0_makeDouble_10 fX0_7 ha (by omega) rfl ?_
  refine R_iconst (pc := 13) (v := 1) dX0_makeDouble_13 (by decide) ?_
  refine R_lshl (pc := 14) (v := jlshl hi 1) dX0_makeDouble_14 rfl ?_
  refine R_aload_n (pc := 15) 1 dX0_makeDouble_15 rfl rfl ?_
  refine R_get (pc := 16) dX0_makeDouble_16 fX0_13 ha (by omega) rfl ?_
  refine R_bipush (pc := 19) (v := 63) dX0_makeDouble_19 (by decide) ?_
  refine R_lushr (pc := 21) (v := jlushr lo 63) dX0_makeDouble_21 rfl ?_
  refine R_lor (pc := 22) dX0_makeDouble_22 ?_
  refine R_put' (pc := 23) (fs' := [.long ((jlshl hi 1) ||| (jlushr lo 63)), .long lo]) dX0_makeDouble_23 fX0_7 tX0_0 rfl rfl ha (by omega) (Nat.le_of_ble_eq_true rfl) rfl (fun h_2 f_3 g_4 => ?_)
  refine R_aload_n (pc := 26) 1 dX0_makeDouble_26 rfl rfl ?_
  refine R_aload_n (pc := 27) 1 dX0_makeDouble_27 rfl rfl ?_
  refine R_get (pc := 28) dX0_makeDouble_28 fX0_13 f_3 (by omega) rfl ?_
  refine R_iconst (pc := 31) (v := 1) dX0_makeDouble_31 (by decide) ?_
  refine R_lshl (pc := 32) (v := jlshl lo 1) dX0_makeDouble_32 rfl ?_
  refine R_lload_n (pc := 33) 0 dX0_makeDouble_33 rfl rfl ?_
  refine R_ldc2 (pc := 34) dX0_makeDouble_34 cX0_29 ?_
  refine R_lmul (pc := 37) dX0_makeDouble_37 ?_
  refine R_lxor (pc := 38) dX0_makeDouble_38 ?_
  refine R_put' (pc := 39) (fs' := [.long ((jlshl hi 1) ||| (jlushr lo 63)), .long ((jlshl lo 1) ^^^ (v_1 * (135 : Int64)))]) dX0_makeDouble_39 fX0_13 tX0_1 rfl rfl f_3 (by omega) (Nat.le_of_ble_eq_true rfl) rfl (fun h_5 f_6 g_7 => ?_)
  refine R_vreturn (pc := 42) dX0_makeDouble_42 rfl (by decide) (by decide) ⟨rfl, rfl, ?_, (fun x_ n0_ => ((g_7 x_ n0_).trans (g_4 x_ n0_)))⟩
  rw [f_6]
  subst ev_1; rfl
def vX0_makeDoubleLowFirst (hi lo : Int64) : Int64 × Int64 := let v_1 := ((jlushr lo 7) &&& 1) * (135 : Int64); let v_2 := (jlushr hi 7) &&& 1; let v_3 := jlshl (hi &&& (9187201950435737471 : Int64)) 1; let v_4 := jlushr (hi &&& (-9187201950435737472 : Int64)) 15; let v_8 := jlshl (lo &&& (9187201950435737471 : Int64)) 1; let v_9 := jlushr (lo &&& (-9187201950435737472 : Int64)) 15; ((v_3 ||| v_4) ^^^ (jlshl v_1 56), (v_8 ||| v_9) ^^^ (jlshl v_2 56))
set_option maxHeartbeats 4000000 in
set_option maxRecDepth 100000 in
theorem qX0_makeDoubleLowFirst (l : Launch) (w : am_W) (h : am_H) (n : Nat) (a : Nat) (hi lo : Int64) (ha : h a = .inr (.inr (0, [.long hi, .long lo]))) (hn : 0 < a ∧ a ≤ n) : RH l w mX0_makeDoubleLowFirst h n [.ref a] (fun h' r => r = none ∧ h' a = .inr (.inr (0, [.long ((vX0_makeDoubleLowFirst hi lo).1), .long ((vX0_makeDoubleLowFirst hi lo).2)])) ∧ ∀ x, x ≠ a → h' x = h x) := by
  refine RC.of [(0, .ref a)] (by decide +kernel) rfl (Nat.le_of_ble_eq_true rfl) ?_
  refine R_aload_n (pc := 0) 0 dX0_makeDoubleLowFirst_0 rfl rfl ?_
  refine R_get (pc := 1) dX0_makeDoubleLowFirst_1 fX0_13 ha (by omega) rfl ?_
  refine R_bipush (pc := 4) (v := 7) dX0_makeDoubleLowFirst_4 (by decide) ?_
  refine R_lushr (pc := 6) (v := jlushr lo 7) dX0_makeDoubleLowFirst_6 rfl ?_
  refine R_lconst (pc := 7) (v := 1) dX0_makeDoubleLowFirst_7 (by decide) ?_
  refine R_land (pc := 8) dX0_makeDoubleLowFirst_8 ?_
  refine R_ldc2 (pc := 9) dX0_makeDoubleLowFirst_9 cX0_29 ?_
  refine R_lmul (pc := 12) dX0_makeDoubleLowFirst_12 ?_
  refine R_topl (fun v_1 ev_1 => ?_)
  refine R_lstore_n (pc := 13) (lv' := [(1, .long v_1), (0, .ref a)]) dX0_makeDoubleLowFirst_13 rfl (by decide) rfl ?_
  refine R_aload_n (pc := 14) 1 dX0_makeDoubleLowFirst_14 rfl rfl ?_
  refine R_get (pc := 15) dX0_makeDoubleLowFirst_15 fX0_7 ha (by omega) rfl ?_
  refine R_bipush (pc := 18) (v := 7) dX0_makeDoubleLowFirst_18 (by decide) ?_
  refine R_lushr (pc := 20) (v := jlushr hi 7) dX0_makeDoubleLowFirst_20 rfl ?_
  refine R_lconst (pc := 21) (v := 1) dX0_makeDoubleLowFirst_21 (by decide) ?_
  refine R_land (pc := 22) dX0_makeDoubleLowFirst_22 ?_
  refine R_topl (fun v_2 ev_2 => ?_)
  refine R_lstore_n (pc := 23) (lv' := [(3, .long v_2), (1, .long v_1), (0, .ref a)]) dX0_makeDoubleLowFirst_23 rfl (by decide) rfl ?_
  refine R_aload_n (pc := 24) 2 dX0_makeDoubleLowFirst_24 rfl rfl ?_
  refine R_aload_n (pc := 25) 2 dX0_makeDoubleLowFirst_25 rfl rfl ?_
  refine R_get (pc := 26) dX0_makeDoubleLowFirst_26 fX0_7 ha (by omega) rfl ?_
  refine R_ldc2 (pc := 29) dX0_makeDoubleLowFirst_29 cX0_31 ?_
  refine R_land (pc := 32) dX0_makeDoubleLowFirst_32 ?_
  refine R_iconst (pc := 33) (v := 1) dX0_makeDoubleLowFirst_33 (by decide) ?_
  refine R_lshl (pc := 34) (v := jlshl (hi &&& (9187201950435737471 : Int64)) 1) dX0_makeDoubleLowFirst_34 rfl ?_
  refine R_topl (fun v_3 ev_3 => ?_)
  refine R_aload_n (pc := 35) 2 dX0_makeDoubleLowFirst_35 rfl rfl ?_
  refine R_get (pc := 36) dX0_makeDoubleLowFirst_36 fX0_7 ha (by omega) rfl ?_
  refine R_ldc2 (pc := 39) dX0_makeDoubleLowFirst_39 cX0_33 ?_
  refine R_land (pc := 42) dX0_makeDoubleLowFirst_42 ?_
  refine R_bipush (pc := 43) (v := 15) dX0_makeDoubleLowFirst_43 (by decide) ?_
  refine R_lushr (pc := 45) (v := jlushr (hi &&& (-9187201950435737472 : Int64)) 15) dX0_makeDoubleLowFirst_45 rfl ?_
  refine R_topl (fun v_4 ev_4 => ?_)
  refine R_lor (pc := 46) dX0_makeDoubleLowFirst_46 ?_
  refine R_put' (pc := 47) (fs' := [.long (v_3 ||| v_4), .long lo]) dX0_makeDoubleLowFirst_47 fX0_7 tX0_0 rfl rfl ha (by omega) (Nat.le_of_ble_eq_true rfl) rfl (fun h_5 f_6 g_7 => ?_)
  refine R_aload_n (pc := 50) 2 dX0_makeDoubleLowFirst_50 rfl rfl ?_
  refine R_aload_n (pc := 51) 2 dX0_makeDoubleLowFirst_51 rfl rfl ?_
  refine R_get (pc := 52) dX0_makeDoubleLowFirst_52 fX0_13 f_6 (by omega) rfl ?_
  refine R_ldc2 (pc := 55) dX0_makeDoubleLowFirst_55 cX0_31 ?_
  refine R_land (pc := 58) dX0_makeDoubleLowFirst_58 ?_
  refine R_iconst (pc := 59) (v := 1) dX0_makeDoubleLowFirst_59 (by decide) ?_
  refine R_lshl (pc := 60) (v := jlshl (lo &&& (9187201950435737471 : Int64)) 1) dX0_makeDoubleLowFirst_60 rfl ?_
  refine R_topl (fun v_8 ev_8 => ?_)
  refine R_aload_n (pc := 61) 2 dX0_makeDoubleLowFirst_61 rfl rfl ?_
  refine R_get (pc := 62) dX0_makeDoubleLowFirst_62 fX0_13 f_6 (by omega) rfl ?_
  refine R_ldc2 (pc := 65) dX0_makeDoubleLowFirst_65 cX0_33 ?_
  refine R_land (pc := 68) dX0_makeDoubleLowFirst_68 ?_
  refine R_bipush (pc := 69) (v := 15) dX0_makeDoubleLowFirst_69 (by decide) ?_
  refine R_lushr (pc := 71) (v := jlushr (lo &&& (-9187201950435737472 : Int64)) 15) dX0_makeDoubleLowFirst_71 rfl ?_
  refine R_topl (fun v_9 ev_9 => ?_)
  refine R_lor (pc := 72) dX0_makeDoubleLowFirst_72 ?_
  refine R_put' (pc := 73) (fs' := [.long (v_3 ||| v_4), .long (v_8 ||| v_9)]) dX0_makeDoubleLowFirst_73 fX0_13 tX0_1 rfl rfl f_6 (by omega) (Nat.le_of_ble_eq_true rfl) rfl (fun h_10 f_11 g_12 => ?_)
  refine R_aload_n (pc := 76) 2 dX0_makeDoubleLowFirst_76 rfl rfl ?_
  refine R_dup (pc := 77) dX0_makeDoubleLowFirst_77 rfl ?_
  refine R_get (pc := 78) dX0_makeDoubleLowFirst_78 fX0_7 f_11 (by omega) rfl ?_
  refine R_lload_n (pc := 81) 1 dX0_makeDoubleLowFirst_81 rfl rfl ?_
  refine R_bipush (pc := 82) (v := 56) dX0_makeDoubleLowFirst_82 (by decide) ?_
  refine R_lshl (pc := 84) (v := jlshl v_1 56) dX0_makeDoubleLowFirst_84 rfl ?_
  refine R_lxor (pc := 85) dX0_makeDoubleLowFirst_85 ?_
  refine R_put' (pc := 86) (fs' := [.long ((v_3 ||| v_4) ^^^ (jlshl v_1 56)), .long (v_8 ||| v_9)]) dX0_makeDoubleLowFirst_86 fX0_7 tX0_0 rfl rfl f_11 (by omega) (Nat.le_of_ble_eq_true rfl) rfl (fun h_13 f_14 g_15 => ?_)
  refine R_aload_n (pc := 89) 2 dX0_makeDoubleLowFirst_89 rfl rfl ?_
  refine R_dup (pc := 90) dX0_makeDoubleLowFirst_90 rfl ?_
  refine R_get (pc := 91) dX0_makeDoubleLowFirst_91 fX0_13 f_14 (by omega) rfl ?_
  refine R_lload_n (pc := 94) 0 dX0_makeDoubleLowFirst_94 rfl rfl ?_
  refine R_bipush (pc := 95) (v := 56) dX0_makeDoubleLowFirst_95 (by decide) ?_
  refine R_lshl (pc := 97) (v := jlshl v_2 56) dX0_makeDoubleLowFirst_97 rfl ?_
  refine R_lxor (pc := 98) dX0_makeDoubleLowFirst_98 ?_
  refine R_put' (pc := 99) (fs' := [.long ((v_3 ||| v_4) ^^^ (jlshl v_1 56)), .long ((v_8 ||| v_9) ^^^ (jlshl v_2 56))]) dX0_makeDoubleLowFirst_99 fX0_13 tX0_1 rfl rfl f_14 (by omega) (Nat.le_of_ble_eq_true rfl) rfl (fun h_16 f_17 g_18 => ?_)
  refine R_vreturn (pc := 102) dX0_makeDoubleLowFirst_102 rfl (by decide) (by decide) ⟨rfl, rfl, ?_, (fun x_ n0_ => ((((g_18 x_ n0_).trans (g_15 x_ n0_)).trans (g_12 x_ n0_)).trans (g_7 x_ n0_)))⟩
  rw [f_17]
  subst ev_9 ev_8 ev_4 ev_3 ev_2 ev_1; rfl
def vX0_addOne (hi lo : Int64) : Int64 × Int64 := let v_4 := (jlushr ((lo + 1) ||| (-(lo + 1))) 63) ^^^ 1; (hi + v_4, lo + 1)
set_option maxHeartbeats 4000000 in
set_option maxRecDepth 100000 in
theorem qX0_addOne (l : Launch) (w : am_W) (h : am_H) (n : Nat) (a : Nat) (hi lo : Int64) (ha : h a = .inr (.inr (0, [.long hi, .long lo]))) (hn : 0 < a ∧ a ≤ n) : RH l w mX0_addOne h n [.ref a] (fun h' r => r = none ∧ h' a = .inr (.inr (0, [.long ((vX0_addOne hi lo).1), .long ((vX0_addOne hi lo).2)])) ∧ ∀ x, x ≠ a → h' x = h x) := by
  refine RC.of [(0, .ref a)] (by decide +kernel) rfl (Nat.le_of_ble_eq_true rfl) ?_
  refine R_aload_n (pc := 0) 0 dX0_addOne_0 rfl rfl ?_
  refine R_dup (pc := 1) dX0_addOne_1 rfl ?_
  refine R_get (pc := 2) dX0_addOne_2 fX0_13 ha (by omega) rfl ?_
  refine R_lconst (pc := 5) (v := 1) dX0_addOne_5 (by decide) ?_
  refine R_ladd (pc := 6) dX0_addOne_6 ?_
  refine R_put' (pc := 7) (fs' := [.long hi, .long (lo + 1)]) dX0_addOne_7 fX0_13 tX0_1 rfl rfl ha (by omega) (Nat.le_of_ble_eq_true rfl) rfl (fun h_1 f_2 g_3 => ?_)
  refine R_aload_n (pc := 10) 0 dX0_addOne_10 rfl rfl ?_
  refine R_dup (pc := 11) dX0_addOne_11 rfl ?_
  refine R_get (pc := 12) dX0_addOne_12 fX0_7 f_2 (by omega) rfl ?_
  refine R_aload_n (pc := 15) 0 dX0_addOne_15 rfl rfl ?_
  refine R_get (pc := 16) dX0_addOne_16 fX0_13 f_2 (by omega) rfl ?_
  refine R_aload_n (pc := 19) 0 dX0_addOne_19 rfl rfl ?_
  refine R_get (pc := 20) dX0_addOne_20 fX0_13 f_2 (by omega) rfl ?_
  refine R_lneg (pc := 23) dX0_addOne_23 ?_
  refine R_lor (pc := 24) dX0_addOne_24 ?_
  refine R_bipush (pc := 25) (v := 63) dX0_addOne_25 (by decide) ?_
  refine R_lushr (pc := 27) (v := jlushr ((lo + 1) ||| (-(lo + 1))) 63) dX0_addOne_27 rfl ?_
  refine R_lconst (pc := 28) (v := 1) dX0_addOne_28 (by decide) ?_
  refine R_lxor (pc := 29) dX0_addOne_29 ?_
  refine R_topl (fun v_4 ev_4 => ?_)
  refine R_ladd (pc := 30) dX0_addOne_30 ?_
  refine R_put' (pc := 31) (fs' := [.long (hi + v_4), .long (lo + 1)]) dX0_addOne_31 fX0_7 tX0_0 rfl rfl f_2 (by omega) (Nat.le_of_ble_eq_true rfl) rfl (fun h_5 f_6 g_7 => ?_)
  refine R_vreturn (pc := 34) dX0_addOne_34 rfl (by decide) (by decide) ⟨rfl, rfl, ?_, (fun x_ n0_ => ((g_7 x_ n0_).trans (g_3 x_ n0_)))⟩
  rw [f_6]
  subst ev_4; rfl
def vX0_addOneToLastFour (hi lo : Int64) : Int64 × Int64 := let v_1 := (lo &&& (-4294967296 : Int64)) ||| ((lo + 1) &&& (4294967295 : Int64)); (hi, v_1)
set_option maxHeartbeats 4000000 in
set_option maxRecDepth 100000 in
theorem qX0_addOneToLastFour (l : Launch) (w : am_W) (h : am_H) (n : Nat) (a : Nat) (hi lo : Int64) (ha : h a = .inr (.inr (0, [.long hi, .long lo]))) (hn : 0 < a ∧ a ≤ n) : RH l w mX0_addOneToLastFour h n [.ref a] (fun h' r => r = none ∧ h' a = .inr (.inr (0, [.long ((vX0_addOneToLastFour hi lo).1), .long ((vX0_addOneToLastFour hi lo).2)])) ∧ ∀ x, x ≠ a → h' x = h x) := by
  refine RC.of [(0, .ref a)] (by decide +kernel) rfl (Nat.le_of_ble_eq_true rfl) ?_
  refine R_aload_n (pc := 0) 0 dX0_addOneToLastFour_0 rfl rfl ?_
  refine R_aload_n (pc := 1) 0 dX0_addOneToLastFour_1 rfl rfl ?_
  refine R_get (pc := 2) dX0_addOneToLastFour_2 fX0_13 ha (by omega) rfl ?_
  refine R_ldc2 (pc := 5) dX0_addOneToLastFour_5 cX0_35 ?_
  refine R_land (pc := 8) dX0_addOneToLastFour_8 ?_
  refine R_aload_n (pc := 9) 0 dX0_addOneToLastFour_9 rfl rfl ?_
  refine R_get (pc := 10) dX0_addOneToLastFour_10 fX0_13 ha (by omega) rfl ?_
  refine R_lconst (pc := 13) (v := 1) dX0_addOneToLastFour_13 (by decide) ?_
  refine R_ladd (pc := 14) dX0_addOneToLastFour_14 ?_
  refine R_ldc2 (pc := 15) dX0_addOneToLastFour_15 cX0_37 ?_
  refine R_land (pc := 18) dX0_addOneToLastFour_18 ?_
  refine R_lor (pc := 19) dX0_addOneToLastFour_19 ?_
  refine R_topl (fun v_1 ev_1 => ?_)
  refine R_put' (pc := 20) (fs' := [.long hi, .long v_1]) dX0_addOneToLastFour_20 fX0_13 tX0_1 rfl rfl ha (by omega) (Nat.le_of_ble_eq_true rfl) rfl (fun h_2 f_3 g_4 => ?_)
  refine R_vreturn (pc := 23) dX0_addOneToLastFour_23 rfl (by decide) (by decide) ⟨rfl, rfl, ?_, (fun x_ n0_ => (g_4 x_ n0_))⟩
  rw [f_3]
  subst ev_1; rfl
def vX0_firstOctets (v : Int32) : Int64 := if 0 < v then (if v < 8 then jlshl (-1) (64 - 8 * v) else -1) else 0
set_option maxHeartbeats 4000000 in
set_option maxRecDepth 100000 in
theorem qX0_firstOctets (l : Launch) (w : am_W) (h : am_H) (n : Nat) (v : Int32) : RP l w mX0_firstOctets h n [.int v] (.long (vX0_firstOctets v)) := by
  refine RC.of [(0, .int v)] (by decide +kernel) rfl (Nat.le_of_ble_eq_true rfl) ?_
  refine R_iload_n (pc := 0) 0 dX0_firstOctets_0 rfl rfl ?_
  refine R_if_gt (pc := 1) (tgt := 6) dX0_firstOctets_1 (by decide) (fun c_1 => ?_) (fun c_1 => ?_)
  · skip
    refine R_iload_n (pc := 6) 0 dX0_firstOctets_6 rfl rfl ?_
    refine R_bipush (pc := 7) (v := 8) dX0_firstOctets_7 (by decide) ?_
    refine R_icmp_lt (pc := 9) (tgt := 18) dX0_firstOctets_9 (by decide) (fun c_2 => ?_) (fun c_2 => ?_)
    · skip
      refine R_ldc2 (pc := 18) dX0_firstOctets_18 cX0_27 ?_
      refine R_bipush (pc := 21) (v := 64) dX0_firstOctets_21 (by decide) ?_
      refine R_bipush (pc := 23) (v := 8) dX0_firstOctets_23 (by decide) ?_
      refine R_iload_n (pc := 25) 0 dX0_firstOctets_25 rfl rfl ?_
      refine R_imul (pc := 26) dX0_firstOctets_26 ?_
      refine R_isub (pc := 27) dX0_firstOctets_27 ?_
      refine R_lshl (pc := 28) (v := jlshl (-1 : Int64) (64 - (8 * v))) dX0_firstOctets_28 rfl ?_
      exact R_lreturn (pc := 29) dX0_firstOctets_29 rfl (by decide) (by decide) ⟨rfl, rfl, by unfold vX0_firstOctets; rw [if_pos c_1, if_pos c_2]⟩
    · skip
      refine R_ldc2 (pc := 12) dX0_firstOctets_12 cX0_27 ?_
      refine R_goto (pc := 15) (tgt := 29) dX0_firstOctets_15 (by decide) ?_
      exact R_lreturn (pc := 29) dX0_firstOctets_29 rfl (by decide) (by decide) ⟨rfl, rfl, by unfold vX0_firstOctets; rw [if_pos c_1, if_neg c_2]⟩
  · skip
    refine R_lconst (pc := 4) (v := 0) dX0_firstOctets_4 (by decide) ?_
    exact R_lreturn (pc := 5) dX0_firstOctets_5 rfl (by decide) (by decide) ⟨rfl, rfl, by unfold vX0_firstOctets; rw [if_neg c_1]⟩
def vX0_keepFirst (hi lo : Int64) (v : Int32) : Int64 × Int64 := (hi &&& (vX0_firstOctets v), lo &&& (vX0_firstOctets (v - 8)))
set_option maxHeartbeats 4000000 in
set_option maxRecDepth 100000 in
theorem qX0_keepFirst (l : Launch) (w : am_W) (h : am_H) (n : Nat) (a : Nat) (hi lo : Int64) (v : Int32) (ha : h a = .inr (.inr (0, [.long hi, .long lo]))) (hn : 0 < a ∧ a ≤ n) : RH l w mX0_keepFirst h n [.ref a, .int v] (fun h' r => r = none ∧ h' a = .inr (.inr (0, [.long ((vX0_keepFirst hi lo v).1), .long ((vX0_keepFirst hi lo v).2)])) ∧ ∀ x, x ≠ a → h' x = h x) := by
  refine RC.of [(0, .ref a), (1, .int v)] (by decide +kernel) rfl (Nat.le_of_ble_eq_true rfl) ?_
  refine R_aload_n (pc := 0) 0 dX0_keepFirst_0 rfl rfl ?_
  refine R_dup (pc := 1) dX0_keepFirst_1 rfl ?_
  refine R_get (pc := 2) dX0_keepFirst_2 fX0_7 ha (by omega) rfl ?_
  refine R_iload_n (pc := 5) 1 dX0_keepFirst_5 rfl rfl ?_
  refine R_callSp (pc := 6) (μ' := mX0_firstOctets) (As := [.int v]) (st := [.long hi, .ref a]) dX0_keepFirst_6 zX0_firstOctets lX0_24 ⟨by decide, by decide⟩ rfl rfl ⟨by decide, by decide⟩ rfl (Nat.le_of_ble_eq_true rfl) (qX0_firstOctets l w _ _ _) ?_
  refine R_land (pc := 9) dX0_keepFirst_9 ?_
  refine R_put' (pc := 10) (fs' := [.long (hi &&& (vX0_firstOctets v)), .long lo]) dX0_keepFirst_10 fX0_7 tX0_0 rfl rfl ha (by omega) (Nat.le_of_ble_eq_true rfl) rfl (fun h_1 f_2 g_3 => ?_)
  refine R_aload_n (pc := 13) 0 dX0_keepFirst_13 rfl rfl ?_
  refine R_dup (pc := 14) dX0_keepFirst_14 rfl ?_
  refine R_get (pc := 15) dX0_keepFirst_15 fX0_13 f_2 (by omega) rfl ?_
  refine R_iload_n (pc := 18) 1 dX0_keepFirst_18 rfl rfl ?_
  refine R_bipush (pc := 19) (v := 8) dX0_keepFirst_19 (by decide) ?_
  refine R_isub (pc := 21) dX0_keepFirst_21 ?_
  refine R_callSp (pc := 22) (μ' := mX0_firstOctets) (As := [.int (v - 8)]) (st := [.long lo, .ref a]) dX0_keepFirst_22 zX0_firstOctets lX0_24 ⟨by decide, by decide⟩ rfl rfl ⟨by decide, by decide⟩ rfl (Nat.le_of_ble_eq_true rfl) (qX0_firstOctets l w _ _ _) ?_
  refine R_land (pc := 25) dX0_keepFirst_25 ?_
  refine R_put' (pc := 26) (fs' := [.long (hi &&& (vX0_firstOctets v)), .long (lo &&& (vX0_firstOctets (v - 8)))]) dX0_keepFirst_26 fX0_13 tX0_1 rfl rfl f_2 (by omega) (Nat.le_of_ble_eq_true rfl) rfl (fun h_4 f_5 g_6 => ?_)
  refine R_vreturn (pc := 29) dX0_keepFirst_29 rfl (by decide) (by decide) ⟨rfl, rfl, ?_, (fun x_ n0_ => ((g_6 x_ n0_).trans (g_3 x_ n0_)))⟩
  rw [f_5]
  rfl
def vX0_dropFirst (hi lo : Int64) (v : Int32) : Int64 × Int64 := let v_1 := hi &&& ((vX0_firstOctets v) ^^^ (-1 : Int64)); let v_5 := (vX0_firstOctets (v - 8)) ^^^ (-1 : Int64); (v_1, lo &&& v_5)
set_option maxHeartbeats 4000000 in
set_option maxRecDepth 100000 in
theorem qX0_dropFirst (l : Launch) (w : am_W) (h : am_H) (n : Nat) (a : Nat) (hi lo : Int64) (v : Int32) (ha : h a = .inr (.inr (0, [.long hi, .long lo]))) (hn : 0 < a ∧ a ≤ n) : RH l w mX0_dropFirst h n [.ref a, .int v] (fun h' r => r = none ∧ h' a = .inr (.inr (0, [.long ((vX0_dropFirst hi lo v).1), .long ((vX0_dropFirst hi lo v).2)])) ∧ ∀ x, x ≠ a → h' x = h x) := by
  refine RC.of [(0, .ref a), (1, .int v)] (by decide +kernel) rfl (Nat.le_of_ble_eq_true rfl) ?_
  refine R_aload_n (pc := 0) 0 dX0_dropFirst_0 rfl rfl ?_
  refine R_dup (pc := 1) dX0_dropFirst_1 rfl ?_
  refine R_get (pc := 2) dX0_dropFirst_2 fX0_7 ha (by omega) rfl ?_
  refine R_iload_n (pc := 5) 1 dX0_dropFirst_5 rfl rfl ?_
  refine R_callSp (pc := 6) (μ' := mX0_firstOctets) (As := [.int v]) (st := [.long hi, .ref a]) dX0_dropFirst_6 zX0_firstOctets lX0_24 ⟨by decide, by decide⟩ rfl rfl ⟨by decide, by decide⟩ rfl (Nat.le_of_ble_eq_true rfl) (qX0_firstOctets l w _ _ _) ?_
  refine R_ldc2 (pc := 9) dX0_dropFirst_9 cX0_27 ?_
  refine R_lxor (pc := 12) dX0_dropFirst_12 ?_
  refine R_land (pc := 13) dX0_dropFirst_13 ?_
  refine R_topl (fun v_1 ev_1 => ?_)
  refine R_put' (pc := 14) (fs' := [.long v_1, .long lo]) dX0_dropFirst_14 fX0_7 tX0_0 rfl rfl ha (by omega) (Nat.le_of_ble_eq_true rfl) rfl (fun h_2 f_3 g_4 => ?_)
  refine R_aload_n (pc := 17) 0 dX0_dropFirst_17 rfl rfl ?_
  refine R_dup (pc := 18) dX0_dropFirst_18 rfl ?_
  refine R_get (pc := 19) dX0_dropFirst_19 fX0_13 f_3 (by omega) rfl ?_
  refine R_iload_n (pc := 22) 1 dX0_dropFirst_22 rfl rfl ?_
  refine R_bipush (pc := 23) (v := 8) dX0_dropFirst_23 (by decide) ?_
  refine R_isub (pc := 25) dX0_dropFirst_25 ?_
  refine R_callSp (pc := 26) (μ' := mX0_firstOctets) (As := [.int (v - 8)]) (st := [.long lo, .ref a]) dX0_dropFirst_26 zX0_firstOctets lX0_24 ⟨by decide, by decide⟩ rfl rfl ⟨by decide, by decide⟩ rfl (Nat.le_of_ble_eq_true rfl) (qX0_firstOctets l w _ _ _) ?_
  refine R_ldc2 (pc := 29) dX0_dropFirst_29 cX0_27 ?_
  refine R_lxor (pc := 32) dX0_dropFirst_32 ?_
  refine R_topl (fun v_5 ev_5 => ?_)
  refine R_land (pc := 33) dX0_dropFirst_33 ?_
  refine R_put' (pc := 34) (fs' := [.long v_1, .long (lo &&& v_5)]) dX0_dropFirst_34 fX0_13 tX0_1 rfl rfl f_3 (by omega) (Nat.le_of_ble_eq_true rfl) rfl (fun h_6 f_7 g_8 => ?_)
  refine R_vreturn (pc := 37) dX0_dropFirst_37 rfl (by decide) (by decide) ⟨rfl, rfl, ?_, (fun x_ n0_ => ((g_8 x_ n0_).trans (g_4 x_ n0_)))⟩
  rw [f_7]
  subst ev_5 ev_1; rfl
def vX0_octetAt (hi lo : Int64) (i : Int32) : Int32 := (jlushr (if 8 ≤ i then lo else hi) (56 - 8 * (i &&& 7))).toInt32 &&& 255
set_option maxHeartbeats 4000000 in
set_option maxRecDepth 100000 in
theorem qX0_octetAt (l : Launch) (w : am_W) (h : am_H) (n a : Nat) (hi lo : Int64) (ha : h a = .inr (.inr (0, [.long hi, .long lo]))) (hn : 0 < a ∧ a ≤ n) (i : Int32) : RP l w mX0_octetAt h n [.ref a, .int i] (.int (vX0_octetAt hi lo i)) := by
  refine RC.of [(0, .ref a), (1, .int i)] (by decide +kernel) rfl (Nat.le_of_ble_eq_true rfl) ?_
  refine R_iload_n (pc := 0) 1 dX0_octetAt_0 rfl rfl ?_
  refine R_bipush (pc := 1) (v := 8) dX0_octetAt_1 (by decide) ?_
  refine R_icmp_ge (pc := 3) (tgt := 13) dX0_octetAt_3 (by decide) (fun c_1 => ?_) (fun c_1 => ?_)
  · skip
    refine R_aload_n (pc := 13) 0 dX0_octetAt_13 rfl rfl ?_
    refine R_get (pc := 14) dX0_octetAt_14 fX0_13 ha (by omega) rfl ?_
    refine R_bipush (pc := 17) (v := 56) dX0_octetAt_17 (by decide) ?_
    refine R_bipush (pc := 19) (v := 8) dX0_octetAt_19 (by decide) ?_
    refine R_iload_n (pc := 21) 1 dX0_octetAt_21 rfl rfl ?_
    refine R_bipush (pc := 22) (v := 7) dX0_octetAt_22 (by decide) ?_
    refine R_iand (pc := 24) dX0_octetAt_24 ?_
    refine R_imul (pc := 25) dX0_octetAt_25 ?_
    refine R_isub (pc := 26) dX0_octetAt_26 ?_
    refine R_lushr (pc := 27) (v := jlushr lo (56 - (8 * (i &&& 7)))) dX0_octetAt_27 rfl ?_
    refine R_l2i (pc := 28) (v := (jlushr lo (56 - (8 * (i &&& 7)))).toInt32) dX0_octetAt_28 rfl ?_
    refine R_sipush (pc := 29) (v := 255) dX0_octetAt_29 (by decide) ?_
    refine R_iand (pc := 32) dX0_octetAt_32 ?_
    exact R_ireturn (pc := 33) dX0_octetAt_33 rfl (by decide) (by decide) ⟨rfl, rfl, by unfold vX0_octetAt; rw [if_pos c_1]⟩
  · skip
    refine R_aload_n (pc := 6) 0 dX0_octetAt_6 rfl rfl ?_
    refine R_get (pc := 7) dX0_octetAt_7 fX0_7 ha (by omega) rfl ?_
    refine R_goto (pc := 10) (tgt := 17) dX0_octetAt_10 (by decide) ?_
    refine R_bipush (pc := 17) (v := 56) dX0_octetAt_17 (by decide) ?_
    refine R_bipush (pc := 19) (v := 8) dX0_octetAt_19 (by decide) ?_
    refine R_iload_n (pc := 21) 1 dX0_octetAt_21 rfl rfl ?_
    refine R_bipush (pc := 22) (v := 7) dX0_octetAt_22 (by decide) ?_
    refine R_iand (pc := 24) dX0_octetAt_24 ?_
    refine R_imul (pc := 25) dX0_octetAt_25 ?_
    refine R_isub (pc := 26) dX0_octetAt_26 ?_
    refine R_lushr (pc := 27) (v := jlushr hi (56 - (8 * (i &&& 7)))) dX0_octetAt_27 rfl ?_
    refine R_l2i (pc := 28) (v := (jlushr hi (56 - (8 * (i &&& 7)))).toInt32) dX0_octetAt_28 rfl ?_
    refine R_sipush (pc := 29) (v := 255) dX0_octetAt_29 (by decide) ?_
    refine R_iand (pc := 32) dX0_octetAt_32 ?_
    exact R_ireturn (pc := 33) dX0_octetAt_33 rfl (by decide) (by decide) ⟨rfl, rfl, by unfold vX0_octetAt; rw [if_neg c_1]⟩
def vX0_addOctet (hi lo : Int64) (i v : Int32) : Int64 × Int64 := let m := jlshl (v.toInt64 &&& 255) (56 - 8 * (i &&& 7)); if 8 ≤ i then (hi, lo ^^^ m) else (hi ^^^ m, lo)
set_option maxHeartbeats 4000000 in
set_option maxRecDepth 100000 in
theorem qX0_addOctet (l : Launch) (w : am_W) (h : am_H) (n a : Nat) (hi lo : Int64) (ha : h a = .inr (.inr (0, [.long hi, .long lo]))) (hn : 0 < a ∧ a ≤ n) (i v : Int32) : RH l w mX0_addOctet h n [.ref a, .int i, .int v] (fun h' r => r = none ∧ h' a = .inr (.inr (0, [.long ((vX0_addOctet hi lo i v).1), .long ((vX0_addOctet hi lo i v).2)])) ∧ ∀ x, x ≠ a → h' x = h x) := by
  refine RC.of [(0, .ref a), (1, .int i), (2, .int v)] (by decide +kernel) rfl (Nat.le_of_ble_eq_true rfl) ?_
  refine R_iload_n (pc := 0) 2 dX0_addOctet_0 rfl rfl ?_
  refine R_i2l (pc := 1) (v := v.toInt64) dX0_addOctet_1 rfl ?_
  refine R_ldc2 (pc := 2) dX0_addOctet_2 cX0_22 ?_
  refine R_land (pc := 5) dX0_addOctet_5 ?_
  refine R_bipush (pc := 6) (v := 56) dX0_addOctet_6 (by decide) ?_
  refine R_bipush (pc := 8) (v := 8) dX0_addOctet_8 (by decide) ?_
  refine R_iload_n (pc := 10) 1 dX0_addOctet_10 rfl rfl ?_
  refine R_bipush (pc := 11) (v := 7) dX0_addOctet_11 (by decide) ?_
  refine R_iand (pc := 13) dX0_addOctet_13 ?_
  refine R_imul (pc := 14) dX0_addOctet_14 ?_
  refine R_isub (pc := 15) dX0_addOctet_15 ?_
  refine R_lshl (pc := 16) (v := jlshl (v.toInt64 &&& (255 : Int64)) (56 - (8 * (i &&& 7)))) dX0_addOctet_16 rfl ?_
  refine R_topl (fun v_1 ev_1 => ?_)
  refine R_lstore_n (pc := 17) (lv' := [(3, .long v_1), (0, .ref a), (1, .int i), (2, .int v)]) dX0_addOctet_17 rfl (by decide) rfl ?_
  refine R_iload_n (pc := 18) 2 dX0_addOctet_18 rfl rfl ?_
  refine R_bipush (pc := 19) (v := 8) dX0_addOctet_19 (by decide) ?_
  refine R_icmp_ge (pc := 21) (tgt := 37) dX0_addOctet_21 (by decide) (fun c_2 => ?_) (fun c_2 => ?_)
  · skip
    refine R_aload_n (pc := 37) 1 dX0_addOctet_37 rfl rfl ?_
    refine R_dup (pc := 38) dX0_addOctet_38 rfl ?_
    refine R_get (pc := 39) dX0_addOctet_39 fX0_13 ha (by omega) rfl ?_
    refine R_lload_n (pc := 42) 0 dX0_addOctet_42 rfl rfl ?_
    refine R_lxor (pc := 43) dX0_addOctet_43 ?_
    refine R_put' (pc := 44) (fs' := [.long hi, .long (lo ^^^ v_1)]) dX0_addOctet_44 fX0_13 tX0_1 rfl rfl ha (by omega) (Nat.le_of_ble_eq_true rfl) rfl (fun h_3 f_4 g_5 => ?_)
    refine R_vreturn (pc := 47) dX0_addOctet_47 rfl (by decide) (by decide) ⟨rfl, rfl, ?_, (fun x_ n0_ => (g_5 x_ n0_))⟩
    rw [f_4]
    subst ev_1; unfold vX0_addOctet; dsimp only; rw [if_pos c_2]
  · skip
    refine R_aload_n (pc := 24) 1 dX0_addOctet_24 rfl rfl ?_
    refine R_dup (pc := 25) dX0_addOctet_25 rfl ?_
    refine R_get (pc := 26) dX0_addOctet_26 fX0_7 ha (by omega) rfl ?_
    refine R_lload_n (pc := 29) 0 dX0_addOctet_29 rfl rfl ?_
    refine R_lxor (pc := 30) dX0_addOctet_30 ?_
    refine R_put' (pc := 31) (fs' := [.long (hi ^^^ v_1), .long lo]) dX0_addOctet_31 fX0_7 tX0_0 rfl rfl ha (by omega) (Nat.le_of_ble_eq_true rfl) rfl (fun h_6 f_7 g_8 => ?_)
    refine R_goto (pc := 34) (tgt := 47) dX0_addOctet_34 (by decide) ?_
    refine R_vreturn (pc := 47) dX0_addOctet_47 rfl (by decide) (by decide) ⟨rfl, rfl, ?_, (fun x_ n0_ => (g_8 x_ n0_))⟩
    rw [f_7]
    subst ev_1; unfold vX0_addOctet; dsimp only; rw [if_neg c_2]
def vX0_same (hi lo hi2 lo2 : Int64) : Int32 := if lg_cmp ((hi ^^^ hi2) ||| (lo ^^^ lo2)) 0 = 0 then 1 else 0
set_option maxHeartbeats 4000000 in
set_option maxRecDepth 100000 in
theorem qX0_same (l : Launch) (w : am_W) (h : am_H) (n a b : Nat) (hi lo hi2 lo2 : Int64) (ha : h a = .inr (.inr (0, [.long hi, .long lo]))) (hn : 0 < a ∧ a ≤ n) (hb : h b = .inr (.inr (0, [.long hi2, .long lo2]))) (hm : 0 < b ∧ b ≤ n) : RP l w mX0_same h n [.ref a, .ref b] (.int (vX0_same hi lo hi2 lo2)) := by
  refine RC.of [(0, .ref a), (1, .ref b)] (by decide +kernel) rfl (Nat.le_of_ble_eq_true rfl) ?_
  refine R_aload_n (pc := 0) 0 dX0_same_0 rfl rfl ?_
  refine R_get (pc := 1) dX0_same_1 fX0_7 ha (by omega) rfl ?_
  refine R_aload_n (pc := 4) 1 dX0_same_4 rfl rfl ?_
  refine R_get (pc := 5) dX0_same_5 fX0_7 hb (by omega) rfl ?_
  refine R_lxor (pc := 8) dX0_same_8 ?_
  refine R_aload_n (pc := 9) 0 dX0_same_9 rfl rfl ?_
  refine R_get (pc := 10) dX0_same_10 fX0_13 ha (by omega) rfl ?_
  refine R_aload_n (pc := 13) 1 dX0_same_13 rfl rfl ?_
  refine R_get (pc := 14) dX0_same_14 fX0_13 hb (by omega) rfl ?_
  refine R_lxor (pc := 17) dX0_same_17 ?_
  refine R_lor (pc := 18) dX0_same_18 ?_
  refine R_lconst (pc := 19) (v := 0) dX0_same_19 (by decide) ?_
  refine R_lcmp (pc := 20) dX0_same_20 ?_
  refine R_if_ne (pc := 21) (tgt := 28) dX0_same_21 (by decide) (fun c_1 => ?_) (fun c_1 => ?_)
  · skip
    refine R_iconst (pc := 28) (v := 0) dX0_same_28 (by decide) ?_
    exact R_zreturn (pc := 29) dX0_same_29 rfl rfl (by decide) (by decide) ⟨rfl, rfl, by simp_all [vX0_same]⟩
  · skip
    refine R_iconst (pc := 24) (v := 1) dX0_same_24 (by decide) ?_
    refine R_goto (pc := 25) (tgt := 29) dX0_same_25 (by decide) ?_
    exact R_zreturn (pc := 29) dX0_same_29 rfl rfl (by decide) (by decide) ⟨rfl, rfl, by simp_all [vX0_same]⟩
