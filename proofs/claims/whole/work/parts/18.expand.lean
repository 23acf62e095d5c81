def pw2 (wf : Nat → Int32) (j : Nat) : Int64 := jlshl (wf j).toInt64 32 ||| ((wf (j + 1)).toInt64 &&& 4294967295)
set_option maxHeartbeats 4000000 in
set_option maxRecDepth 100000 in
theorem qX2_pair (l : Launch) (w : am_W) (h : am_H) (n c : Nat) (hn : 0 < c ∧ c + 3 ≤ n) (wf : Nat → Int32) (R : Int32) (hc : h c = .inr (.inr (2, [.ref (c + 1), .ref (c + 2), .ref (c + 3), .int R]))) (hw : h (c + 1) = .inl (60, wf)) (j : Nat) (hj : j + 1 < 60) : RP l w mX2_pair h n [.ref c, .int (nI j)] (.long (pw2 wf j)) := by
  refine RC.of [(0, .ref c), (1, .int (nI j))] (by decide +kernel) rfl (Nat.le_of_ble_eq_true rfl) ?_
  refine R_iload_n (pc := 0) 1 dX2_pair_0 rfl rfl ?_
  refine R_if_lt (pc := 1) (tgt := 42) dX2_pair_1 (by decide) (fun c_1 => absurd c_1 (nI_pos (by omega))) (fun c_1 => ?_)
  refine R_iload_n (pc := 4) 1 dX2_pair_4 rfl rfl ?_
  refine R_iconst (pc := 5) (v := 1) dX2_pair_5 (by decide) ?_
  refine R_iadd (pc := 6) dX2_pair_6 ?_
  refine R_eqi (y := nI (j + 1)) (nI_1 j) ?_
  refine R_aload_n (pc := 7) 0 dX2_pair_7 rfl rfl ?_
  refine R_get (pc := 8) dX2_pair_8 fX2_7 hc (by omega) rfl ?_
  refine R_alenI (pc := 11) dX2_pair_11 hw (by omega) ?_
  refine R_icmp_ge (pc := 12) (tgt := 42) dX2_pair_12 (by decide) (fun c_2 => absurd c_2 (nI_ge (b := 60) (by omega) (by omega))) (fun c_2 => ?_)
  refine R_aload_n (pc := 15) 0 dX2_pair_15 rfl rfl ?_
  refine R_get (pc := 16) dX2_pair_16 fX2_7 hc (by omega) rfl ?_
  refine R_iload_n (pc := 19) 1 dX2_pair_19 rfl rfl ?_
  refine R_iald' (pc := 20) (j := j) dX2_pair_20 hw (by omega) ⟨rfl, by omega, by omega⟩ ?_
  refine R_i2l (pc := 21) (v := (wf j).toInt64) dX2_pair_21 rfl ?_
  refine R_bipush (pc := 22) (v := 32) dX2_pair_22 (by decide) ?_
  refine R_lshl (pc := 24) (v := jlshl ((wf j).toInt64) 32) dX2_pair_24 rfl ?_
  refine R_aload_n (pc := 25) 0 dX2_pair_25 rfl rfl ?_
  refine R_get (pc := 26) dX2_pair_26 fX2_7 hc (by omega) rfl ?_
  refine R_iload_n (pc := 29) 1 dX2_pair_29 rfl rfl ?_
  refine R_iconst (pc := 30) (v := 1) dX2_pair_30 (by decide) ?_
  refine R_iadd (pc := 31) dX2_pair_31 ?_
  refine R_eqi (y := nI (j + 1)) (nI_1 j) ?_
  refine R_iald' (pc := 32) (j := (j + 1)) dX2_pair_32 hw (by omega) ⟨rfl, by omega, by omega⟩ ?_
  refine R_i2l (pc := 33) (v := (wf (j + 1)).toInt64) dX2_pair_33 rfl ?_
  refine R_ldc2 (pc := 34) dX2_pair_34 cX2_47 ?_
  refine R_land (pc := 37) dX2_pair_37 ?_
  refine R_lor (pc := 38) dX2_pair_38 ?_
  refine R_goto (pc := 39) (tgt := 43) dX2_pair_39 (by decide) ?_
  exact R_lreturn (pc := 43) dX2_pair_43 rfl (by decide) (by decide) ⟨rfl, rfl, rfl⟩
/-- the box of each octet of a word -/
def vbx (v : Int32) : Int32 := (jN (bX (vX8_split 0 0 (v.toInt64 &&& 4294967295) 0))).1.toInt32
set_option maxHeartbeats 4000000 in
set_option maxRecDepth 100000 in
theorem qX2_boxed (l : Launch) (w : am_W) (h : am_H) (n c : Nat) (hn : 0 < c ∧ c + 3 ≤ n) (R : Int32) (lo hi : Int64) (hc : h c = .inr (.inr (2, [.ref (c + 1), .ref (c + 2), .ref (c + 3), .int R]))) (hs : h (c + 3) = .inr (.inr (8, [.long lo, .long hi]))) (v : Int32) : RH l w mX2_boxed h n [.ref c, .int v] (fun h' q => q = some (.int (vbx v)) ∧ (∃ x y, h' (c + 3) = .inr (.inr (8, [.long x, .long y]))) ∧ ∀ x, x ≠ c + 3 → h' x = h x) := by
  refine RC.of [(0, .ref c), (1, .int v)] (by decide +kernel) rfl (Nat.le_of_ble_eq_true rfl) ?_
  refine R_aload_n (pc := 0) 0 dX2_boxed_0 rfl rfl ?_
  refine R_get (pc := 1) dX2_boxed_1 fX2_20 hc (by omega) rfl ?_
  refine R_iload_n (pc := 4) 1 dX2_boxed_4 rfl rfl ?_
  refine R_i2l (pc := 5) (v := v.toInt64) dX2_boxed_5 rfl ?_
  refine R_ldc2 (pc := 6) dX2_boxed_6 cX2_47 ?_
  refine R_land (pc := 9) dX2_boxed_9 ?_
  refine R_lconst (pc := 10) (v := 0) dX2_boxed_10 (by decide) ?_
  refine R_callVh (pc := 11) (μ' := mX8_split) (As := [.long (v.toInt64 &&& (4294967295 : Int64)), .long 0]) (st := []) dX2_boxed_11 zX8_split lX2_49 ⟨by decide, by decide⟩ rfl rfl ⟨by decide, by decide⟩ hs (by omega) rfl (Nat.le_of_ble_eq_true rfl) (qX8_split l w _ _ _ _ _ _ _ hs (by omega)) (fun h_3 r_ q_4 => ?_)
  obtain ⟨rfl, f_1, g_2⟩ := q_4
  obtain ⟨p_5, ep_5⟩ : ∃ y, y = vX8_split lo hi (v.toInt64 &&& (4294967295 : Int64)) 0 := ⟨_, rfl⟩
  rw [← ep_5] at f_1
  have f_6 := (g_2 c (by omega)).trans hc
  refine R_aload_n (pc := 14) 0 dX2_boxed_14 rfl rfl ?_
  refine R_get (pc := 15) dX2_boxed_15 fX2_20 f_6 (by omega) rfl ?_
  refine R_callVh (pc := 18) (μ' := mX8_box) (As := []) (st := []) dX2_boxed_18 zX8_box lX2_53 ⟨by decide, by decide⟩ rfl rfl ⟨by decide, by decide⟩ f_1 (by omega) rfl (Nat.le_of_ble_eq_true rfl) (qX8_box l w _ _ _ _ _ f_1 (by omega)) (fun h_9 r_ q_10 => ?_)
  obtain ⟨rfl, f_7, g_8⟩ := q_10
  obtain ⟨p_11, ep_11⟩ : ∃ y, y = vX8_box p_5.1 p_5.2 := ⟨_, rfl⟩
  rw [← ep_11] at f_7
  have f_12 := (g_8 c (by omega)).trans f_6
  refine R_aload_n (pc := 21) 0 dX2_boxed_21 rfl rfl ?_
  refine R_get (pc := 22) dX2_boxed_22 fX2_20 f_12 (by omega) rfl ?_
  refine R_callVp (pc := 25) (μ' := mX8_joinFirst) (As := []) (st := []) dX2_boxed_25 zX8_joinFirst lX2_56 ⟨by decide, by decide⟩ rfl rfl ⟨by decide, by decide⟩ f_7 (by omega) rfl (Nat.le_of_ble_eq_true rfl) (qX8_joinFirst l w _ _ _ _ _ f_7 (by omega)) ?_
  refine R_l2i (pc := 28) (v := (vX8_joinFirst p_11.1 p_11.2).toInt32) dX2_boxed_28 rfl ?_
  exact R_ireturn (pc := 29) dX2_boxed_29 rfl (by decide) (by decide) ⟨rfl, by subst ep_11 ep_5; rfl, ⟨_, _, f_7⟩, (fun x_ n0_ => ((g_8 x_ n0_).trans (g_2 x_ n0_)))⟩
def spw (wf : Nat → Int32) (r : Nat) : Int64 × Int64 := vX8_split 0 0 (pw2 wf (4 * r)) (pw2 wf (4 * r + 2))
def kgs (wf : Nat → Int32) (g : Nat → Int64) : Nat → Nat → Int64
  | 0 => g
  | t + 1 => vp_updL (vp_updL (kgs wf g t) (2 * t) (spw wf t).1) (2 * t + 1) (spw wf t).2
set_option maxHeartbeats 4000000 in
set_option maxRecDepth 100000 in
theorem qX2_sliceKeys_loop (l : Launch) (w : am_W) (h : am_H) (n c : Nat) (hn : 0 < c ∧ c + 3 ≤ n) (wf : Nat → Int32) (g : Nat → Int64) (R : Int32) : ∀ (d t : Nat), t + d = 15 → ∀ h2 lo hi, h2 c = .inr (.inr (2, [.ref (c + 1), .ref (c + 2), .ref (c + 3), .int R])) → h2 (c + 1) = .inl (60, wf) → h2 (c + 2) = .inr (.inl (30, kgs wf g t)) → h2 (c + 3) = .inr (.inr (8, [.long lo, .long hi])) → (∀ x, x ≠ c + 2 → x ≠ c + 3 → h2 x = h x) → RW l w mX2_sliceKeys h2 n 0 0 2 [(1, .int (nI t)), (0, .ref c)] [] (fun h' n' r_ => n' = n ∧ (fun h' q => q = none ∧ h' (c + 2) = .inr (.inl (30, kgs wf g 15)) ∧ (∃ x y, h' (c + 3) = .inr (.inr (8, [.long x, .long y]))) ∧ ∀ x, x ≠ c + 2 → x ≠ c + 3 → h' x = h x) h' r_) := by
  intro d
  induction d with
  | zero =>
    intro t ht h2 lo hi hc hw hk hs hF
    refine R_iconst (pc := 2) (v := 2) dX2_sliceKeys_2 (by decide) ?_
    refine R_iload_n (pc := 3) 0 dX2_sliceKeys_3 rfl rfl ?_
    refine R_imul (pc := 4) dX2_sliceKeys_4 ?_
    refine R_eqi (y := nI (2 * t)) (pk_mul 2 t) ?_
    refine R_iconst (pc := 5) (v := 1) dX2_sliceKeys_5 (by decide) ?_
    refine R_iadd (pc := 6) dX2_sliceKeys_6 ?_
    refine R_eqi (y := nI (2 * t + 1)) (nI_1 (2 * t)) ?_
    refine R_aload_n (pc := 7) 1 dX2_sliceKeys_7 rfl rfl ?_
    refine R_get (pc := 8) dX2_sliceKeys_8 fX2_13 hc (by omega) rfl ?_
    refine R_alenL (pc := 11) dX2_sliceKeys_11 hk (by omega) ?_
    refine R_icmp_ge (pc := 12) (tgt := 76) dX2_sliceKeys_12 (by decide) (fun c_1 => ?_) (fun c_1 => absurd (nI_le (a := 30) (by omega) (by omega)) c_1)
    exact R_vreturn (pc := 76) dX2_sliceKeys_76 rfl (by decide) (by decide) ⟨rfl, rfl, by rw [show 15 = t by omega]; exact hk, ⟨_, _, hs⟩, hF⟩
  | succ d ih =>
    intro t ht h2 lo hi hc hw hk hs hF
    refine R_iconst (pc := 2) (v := 2) dX2_sliceKeys_2 (by decide) ?_
    refine R_iload_n (pc := 3) 0 dX2_sliceKeys_3 rfl rfl ?_
    refine R_imul (pc := 4) dX2_sliceKeys_4 ?_
    refine R_eqi (y := nI (2 * t)) (pk_mul 2 t) ?_
    refine R_iconst (pc := 5) (v := 1) dX2_sliceKeys_5 (by decide) ?_
    refine R_iadd (pc := 6) dX2_sliceKeys_6 ?_
    refine R_eqi (y := nI (2 * t + 1)) (nI_1 (2 * t)) ?_
    refine R_aload_n (pc := 7) 1 dX2_sliceKeys_7 rfl rfl ?_
    refine R_get (pc := 8) dX2_sliceKeys_8 fX2_13 hc (by omega) rfl ?_
    refine R_alenL (pc := 11) dX2_sliceKeys_11 hk (by omega) ?_
    refine R_icmp_ge (pc := 12) (tgt := 76) dX2_sliceKeys_12 (by decide) (fun c_1 => absurd c_1 (nI_ge (b := 30) (by omega) (by omega))) (fun c_1 => ?_)
    refine R_aload_n (pc := 15) 1 dX2_sliceKeys_15 rfl rfl ?_
    refine R_get (pc := 16) dX2_sliceKeys_16 fX2_20 hc (by omega) rfl ?_
    refine R_aload_n (pc := 19) 1 dX2_sliceKeys_19 rfl rfl ?_
    refine R_iconst (pc := 20) (v := 4) dX2_sliceKeys_20 (by decide) ?_
    refine R_iload_n (pc := 21) 0 dX2_sliceKeys_21 rfl rfl ?_
    refine R_imul (pc := 22) dX2_sliceKeys_22 ?_
    refine R_eqi (y := nI (4 * t)) (pk_mul 4 t) ?_
    refine R_callVp (pc := 23) (μ' := mX2_pair) (As := [.int (nI (4 * t))]) (st := [.ref (c + 3)]) dX2_sliceKeys_23 zX2_pair lX2_60 ⟨by decide, by decide⟩ rfl rfl ⟨by decide, by decide⟩ hc (by omega) rfl (Nat.le_of_ble_eq_true rfl) (qX2_pair l w _ _ _ hn _ _ hc hw (4 * t) (by omega)) ?_
    refine R_aload_n (pc := 26) 1 dX2_sliceKeys_26 rfl rfl ?_
    refine R_iconst (pc := 27) (v := 4) dX2_sliceKeys_27 (by decide) ?_
    refine R_iload_n (pc := 28) 0 dX2_sliceKeys_28 rfl rfl ?_
    refine R_imul (pc := 29) dX2_sliceKeys_29 ?_
    refine R_eqi (y := nI (4 * t)) (pk_mul 4 t) ?_
    refine R_iconst (pc := 30) (v := 2) dX2_sliceKeys_30 (by decide) ?_
    refine R_iadd (pc := 31) dX2_sliceKeys_31 ?_
    refine R_eqi (y := nI (4 * t + 2)) (nI_add (4 * t) 2) ?_
    refine R_callVp (pc := 32) (μ' := mX2_pair) (As := [.int (nI (4 * t + 2))]) (st := [.long (pw2 wf (4 * t)), .ref (c + 3)]) dX2_sliceKeys_32 zX2_pair lX2_60 ⟨by decide, by decide⟩ rfl rfl ⟨by decide, by decide⟩ hc (by omega) rfl (Nat.le_of_ble_eq_true rfl) (qX2_pair l w _ _ _ hn _ _ hc hw (4 * t + 2) (by omega)) ?_
    refine R_callVh (pc := 35) (μ' := mX8_split) (As := [.long (pw2 wf (4 * t)), .long (pw2 wf (4 * t + 2))]) (st := []) dX2_sliceKeys_35 zX8_split lX2_49 ⟨by decide, by decide⟩ rfl rfl ⟨by decide, by decide⟩ hs (by omega) rfl (Nat.le_of_ble_eq_true rfl) (qX8_split l w _ _ _ _ _ _ _ hs (by omega)) (fun h_4 r_ q_5 => ?_)
    obtain ⟨rfl, f_2, g_3⟩ := q_5
    obtain ⟨p_6, ep_6⟩ : ∃ y, y = vX8_split lo hi (pw2 wf (4 * t)) (pw2 wf (4 * t + 2)) := ⟨_, rfl⟩
    rw [← ep_6] at f_2
    have f_7 := (g_3 c (by omega)).trans hc
    have f_8 := (g_3 (c + 1) (by omega)).trans hw
    have f_9 := (g_3 (c + 2) (by omega)).trans hk
    refine R_aload_n (pc := 38) 1 dX2_sliceKeys_38 rfl rfl ?_
    refine R_get (pc := 39) dX2_sliceKeys_39 fX2_13 f_7 (by omega) rfl ?_
    refine R_iconst (pc := 42) (v := 2) dX2_sliceKeys_42 (by decide) ?_
    refine R_iload_n (pc := 43) 0 dX2_sliceKeys_43 rfl rfl ?_
    refine R_imul (pc := 44) dX2_sliceKeys_44 ?_
    refine R_eqi (y := nI (2 * t)) (pk_mul 2 t) ?_
    refine R_aload_n (pc := 45) 1 dX2_sliceKeys_45 rfl rfl ?_
    refine R_get (pc := 46) dX2_sliceKeys_46 fX2_20 f_7 (by omega) rfl ?_
    refine R_get (pc := 49) dX2_sliceKeys_49 fX2_63 f_2 (by omega) rfl ?_
    refine R_last' (pc := 52) (j := (2 * t)) dX2_sliceKeys_52 f_9 (by omega) ⟨rfl, by omega, by omega⟩ (fun h_10 f_11 g_12 => ?_)
    have f_13 := (g_12 c (by omega)).trans f_7
    have f_14 := (g_12 (c + 1) (by omega)).trans f_8
    have f_15 := (g_12 (c + 3) (by omega)).trans f_2
    refine R_aload_n (pc := 53) 1 dX2_sliceKeys_53 rfl rfl ?_
    refine R_get (pc := 54) dX2_sliceKeys_54 fX2_13 f_13 (by omega) rfl ?_
    refine R_iconst (pc := 57) (v := 2) dX2_sliceKeys_57 (by decide) ?_
    refine R_iload_n (pc := 58) 0 dX2_sliceKeys_58 rfl rfl ?_
    refine R_imul (pc := 59) dX2_sliceKeys_59 ?_
    refine R_eqi (y := nI (2 * t)) (pk_mul 2 t) ?_
    refine R_iconst (pc := 60) (v := 1) dX2_sliceKeys_60 (by decide) ?_
    refine R_iadd (pc := 61) dX2_sliceKeys_61 ?_
    refine R_eqi (y := nI (2 * t + 1)) (nI_1 (2 * t)) ?_
    refine R_aload_n (pc := 62) 1 dX2_sliceKeys_62 rfl rfl ?_
    refine R_get (pc := 63) dX2_sliceKeys_63 fX2_20 f_13 (by omega) rfl ?_
    refine R_get (pc := 66) dX2_sliceKeys_66 fX2_67 f_15 (by omega) rfl ?_
    refine R_last' (pc := 69) (j := (2 * t + 1)) dX2_sliceKeys_69 f_11 (by omega) ⟨rfl, by omega, by omega⟩ (fun h_16 f_17 g_18 => ?_)
    have f_19 := (g_18 c (by omega)).trans f_13
    have f_20 := (g_18 (c + 1) (by omega)).trans f_14
    have f_21 := (g_18 (c + 3) (by omega)).trans f_15
    refine R_iinc (pc := 70) (j := 0) (v := nI (t + 1)) (lv' := [(1, .int (nI (t + 1))), (0, .ref c)]) dX2_sliceKeys_70 rfl (nI_1 t) (by decide) rfl ?_
    refine R_goto (pc := 73) (tgt := 2) dX2_sliceKeys_73 (by decide) ?_
    refine R_sub [0, 1] rfl ?_
    exact ih (t + 1) (by omega) _ _ _ f_19 f_20 (f_17.trans (by subst ep_6; rfl)) f_21 (fun x n0_ n1_ => ((fun x_ n0_ n1_ => (((g_18 x_ n0_).trans (g_12 x_ n0_)).trans (g_3 x_ n1_))) x n0_ n1_).trans (hF x n0_ n1_))
set_option maxHeartbeats 4000000 in
set_option maxRecDepth 100000 in
theorem qX2_sliceKeys (l : Launch) (w : am_W) (h : am_H) (n c : Nat) (hn : 0 < c ∧ c + 3 ≤ n) (wf : Nat → Int32) (g : Nat → Int64) (R : Int32) (lo hi : Int64) (hc : h c = .inr (.inr (2, [.ref (c + 1), .ref (c + 2), .ref (c + 3), .int R]))) (hw : h (c + 1) = .inl (60, wf)) (hk : h (c + 2) = .inr (.inl (30, g))) (hs : h (c + 3) = .inr (.inr (8, [.long lo, .long hi]))) : RH l w mX2_sliceKeys h n [.ref c] (fun h' q => q = none ∧ h' (c + 2) = .inr (.inl (30, kgs wf g 15)) ∧ (∃ x y, h' (c + 3) = .inr (.inr (8, [.long x, .long y]))) ∧ ∀ x, x ≠ c + 2 → x ≠ c + 3 → h' x = h x) := by
  refine RC.of [(0, .ref c)] (by decide +kernel) rfl (Nat.le_of_ble_eq_true rfl) ?_
  refine R_iconst (pc := 0) (v := 0) dX2_sliceKeys_0 (by decide) ?_
  refine R_istore_n (pc := 1) (lv' := [(1, .int 0), (0, .ref c)]) dX2_sliceKeys_1 rfl (by decide) rfl ?_
  exact qX2_sliceKeys_loop l w h n c hn wf g R 15 0 rfl h lo hi hc hw hk hs (fun _ _ _ => rfl)
set_option maxHeartbeats 4000000 in
set_option maxRecDepth 100000 in
theorem qX2_keyOctets (l : Launch) (w : am_W) (h : am_H) (n c : Nat) (hn : 0 < c ∧ c + 3 ≤ n) (R : Nat) (hc : h c = .inr (.inr (2, [.ref (c + 1), .ref (c + 2), .ref (c + 3), .int (nI R)]))) : RP l w mX2_keyOctets h n [.ref c] (.int (nI (16 * (R + 1)))) := by
  refine RC.of [(0, .ref c)] (by decide +kernel) rfl (Nat.le_of_ble_eq_true rfl) ?_
  refine R_bipush (pc := 0) (v := 16) dX2_keyOctets_0 (by decide) ?_
  refine R_aload_n (pc := 2) 0 dX2_keyOctets_2 rfl rfl ?_
  refine R_get (pc := 3) dX2_keyOctets_3 fX2_24 hc (by omega) rfl ?_
  refine R_iconst (pc := 6) (v := 1) dX2_keyOctets_6 (by decide) ?_
  refine R_iadd (pc := 7) dX2_keyOctets_7 ?_
  refine R_eqi (y := nI (R + 1)) (nI_1 R) ?_
  refine R_imul (pc := 8) dX2_keyOctets_8 ?_
  refine R_eqi (y := nI (16 * (R + 1))) (pk_mul 16 (R + 1)) ?_
  exact R_ireturn (pc := 9) dX2_keyOctets_9 rfl (by decide) (by decide) ⟨rfl, rfl, rfl⟩
def koc (wf : Nat → Int32) (j : Nat) : Int32 := jushr (wf (j / 4)) (24 - 8 * (nI j &&& 3)) &&& 255
set_option maxHeartbeats 4000000 in
set_option maxRecDepth 100000 in
theorem qX2_keyOctet (l : Launch) (w : am_W) (h : am_H) (n c : Nat) (hn : 0 < c ∧ c + 3 ≤ n) (wf : Nat → Int32) (R : Int32) (hc : h c = .inr (.inr (2, [.ref (c + 1), .ref (c + 2), .ref (c + 3), .int R]))) (hw : h (c + 1) = .inl (60, wf)) (j : Nat) (hj : j < 240) : RP l w mX2_keyOctet h n [.ref c, .int (nI j)] (.int (koc wf j)) := by
  refine RC.of [(0, .ref c), (1, .int (nI j))] (by decide +kernel) rfl (Nat.le_of_ble_eq_true rfl) ?_
  refine R_iload_n (pc := 0) 1 dX2_keyOctet_0 rfl rfl ?_
  refine R_iconst (pc := 1) (v := 2) dX2_keyOctet_1 (by decide) ?_
  refine R_ishr (pc := 2) dX2_keyOctet_2 ?_
  refine R_eqi (y := nI (j / 4)) (pk_shrN (by omega) _ 2 (by decide)) ?_
  refine R_istore_n (pc := 3) (lv' := [(2, .int (nI (j / 4))), (0, .ref c), (1, .int (nI j))]) dX2_keyOctet_3 rfl (by decide) rfl ?_
  refine R_iload_n (pc := 4) 0 dX2_keyOctet_4 rfl rfl ?_
  refine R_if_lt (pc := 5) (tgt := 40) dX2_keyOctet_5 (by decide) (fun c_1 => absurd c_1 (nI_pos (by omega))) (fun c_1 => ?_)
  refine R_iload_n (pc := 8) 0 dX2_keyOctet_8 rfl rfl ?_
  refine R_aload_n (pc := 9) 1 dX2_keyOctet_9 rfl rfl ?_
  refine R_get (pc := 10) dX2_keyOctet_10 fX2_7 hc (by omega) rfl ?_
  refine R_alenI (pc := 13) dX2_keyOctet_13 hw (by omega) ?_
  refine R_icmp_ge (pc := 14) (tgt := 40) dX2_keyOctet_14 (by decide) (fun c_2 => absurd c_2 (nI_ge (b := 60) (by omega) (by omega))) (fun c_2 => ?_)
  refine R_aload_n (pc := 17) 1 dX2_keyOctet_17 rfl rfl ?_
  refine R_get (pc := 18) dX2_keyOctet_18 fX2_7 hc (by omega) rfl ?_
  refine R_iload_n (pc := 21) 0 dX2_keyOctet_21 rfl rfl ?_
  refine R_iald' (pc := 22) (j := (j / 4)) dX2_keyOctet_22 hw (by omega) ⟨rfl, by omega, by omega⟩ ?_
  refine R_bipush (pc := 23) (v := 24) dX2_keyOctet_23 (by decide) ?_
  refine R_bipush (pc := 25) (v := 8) dX2_keyOctet_25 (by decide) ?_
  refine R_iload_n (pc := 27) 2 dX2_keyOctet_27 rfl rfl ?_
  refine R_iconst (pc := 28) (v := 3) dX2_keyOctet_28 (by decide) ?_
  refine R_iand (pc := 29) dX2_keyOctet_29 ?_
  refine R_imul (pc := 30) dX2_keyOctet_30 ?_
  refine R_isub (pc := 31) dX2_keyOctet_31 ?_
  refine R_iushr (pc := 32) (v := jushr (wf (j / 4)) (24 - (8 * ((nI j) &&& 3)))) dX2_keyOctet_32 rfl ?_
  refine R_sipush (pc := 33) (v := 255) dX2_keyOctet_33 (by decide) ?_
  refine R_iand (pc := 36) dX2_keyOctet_36 ?_
  refine R_goto (pc := 37) (tgt := 41) dX2_keyOctet_37 (by decide) ?_
  exact R_ireturn (pc := 41) dX2_keyOctet_41 rfl (by decide) (by decide) ⟨rfl, rfl, rfl⟩
def kfil (wf : Nat → Int32) (L : List (BitVec 8)) (b : Nat) : Nat → Nat → Int32
  | 0 => wf
  | t + 1 => upd (kfil wf L b t) t (jlushr (e8 L (b + 4 * t)) 32).toInt32
abbrev kS : Type := (Nat → Int32) × Int32 × Int32
def kstp (nn t : Nat) (q : kS) : kS := match q with
  | (wf, pw, s) => let x := wf (nn + t - 1)
    let y := if s = 0 then vbx ((x <<< (8 &&& 31)) ||| (jushr x 24)) ^^^ (pw <<< (24 &&& 31)) else if nI nn = 8 then (if s = 4 then vbx x else x) else x
    (upd wf (nn + t) (wf t ^^^ y), if s = 0 then (pw <<< (1 &&& 31)) ^^^ ((pw >>> (7 &&& 31)) * 283) else pw, if s + 1 = nI nn then 0 else s + 1)
def kst (nn : Nat) (wf : Nat → Int32) : Nat → kS
  | 0 => (wf, 1, 0)
  | t + 1 => kstp nn t (kst nn wf t)
/-- the words as expand leaves them -/
def kexp (wf : Nat → Int32) (L : List (BitVec 8)) (b nn : Nat) : Nat → Int32 := (kst nn (kfil wf L b nn) (3 * nn + 28)).1
set_option maxHeartbeats 4000000 in
set_option maxRecDepth 100000 in
theorem qX2_expand_loop2 (l : Launch) (w : am_W) (h : am_H) (n c : Nat) (hn : 0 < c ∧ c + 3 ≤ n) (r N : Nat) (L : List (BitVec 8)) (hrn : 0 < r ∧ r + 1 ≤ n) (hne : (r ≠ c ∧ r ≠ c + 1 ∧ r ≠ c + 2 ∧ r ≠ c + 3) ∧ r + 1 ≠ c) (b nn : Nat) (hb : b ≤ 64) (hnn : nn = 4 ∨ nn = 6 ∨ nn = 8) (g : Nat → Int64) (wf0 : Nat → Int32) (oct : Int32) : ∀ (d t : Nat), t + d = 3 * nn + 28 → ∀ wf2 pw s lo hi, kst nn wf0 t = (wf2, pw, s) → ∀ h2, rowAt h2 r N L → h2 c = .inr (.inr (2, [.ref (c + 1), .ref (c + 2), .ref (c + 3), .int (nI (nn + 6))])) → h2 (c + 1) = .inl (60, wf2) → h2 (c + 2) = .inr (.inl (30, g)) → h2 (c + 3) = .inr (.inr (8, [.long lo, .long hi])) → (∀ x, x ≠ c → x ≠ c + 1 → x ≠ c + 3 → h2 x = h x) → RW l w mX2_expand h2 n 0 0 106 [(8, .int (nI (nn + t))), (7, .int s), (6, .int pw), (5, .int (nI (4 * (nn + 6) + 4))), (0, .ref c), (1, .ref r), (2, .int (nI b)), (3, .int oct), (4, .int (nI nn))] [] (fun h' n' r_ => n' = n ∧ (fun h' q => q = none ∧ cipAt h' c (kst nn wf0 (3 * nn + 28)).1 (kgs (kst nn wf0 (3 * nn + 28)).1 g 15) (nn + 6) ∧ ∀ x, x ≠ c → x ≠ c + 1 → x ≠ c + 2 → x ≠ c + 3 → h' x = h x) h' r_) := by
  intro d
  induction d with
  | zero =>
    intro t ht wf2 pw s lo hi hS h2 hR hc hw hk hs hF
    refine R_iload (pc := 106) 0 dX2_expand_106 rfl ?_
    refine R_iload (pc := 108) 3 dX2_expand_108 rfl ?_
    refine R_icmp_ge (pc := 110) (tgt := 237) dX2_expand_110 (by decide) (fun c_1 => ?_) (fun c_1 => absurd (nI_le (by omega) (by omega)) c_1)
    refine R_aload_n (pc := 237) 4 dX2_expand_237 rfl rfl ?_
    refine R_callVh (pc := 238) (μ' := mX2_sliceKeys) (As := []) (st := []) dX2_expand_238 zX2_sliceKeys lX2_44 ⟨by decide, by decide⟩ rfl rfl ⟨by decide, by decide⟩ hc (by omega) rfl (Nat.le_of_ble_eq_true rfl) (qX2_sliceKeys l w _ _ _ hn _ _ _ _ _ hc hw hk hs) (fun h_7 r_ q_8 => ?_)
    obtain ⟨rfl, f_4, ⟨x_2, y_3, f_5⟩, g_6⟩ := q_8
    have R_9 := rowAt.move hR (g_6 r (by omega) (by omega)) (g_6 (r + 1) (by omega) (by omega))
    have f_10 := (g_6 c (by omega) (by omega)).trans hc
    have f_11 := (g_6 (c + 1) (by omega) (by omega)).trans hw
    refine R_vreturn (pc := 241) dX2_expand_241 rfl (by decide) (by decide) ⟨rfl, rfl, ⟨f_10, ?_, ?_, _, _, f_5⟩, (fun x n0_ n1_ n2_ n3_ => ((fun x_ n0_ n1_ => (g_6 x_ n0_ n1_)) x n2_ n3_).trans (hF x n0_ n1_ n3_))⟩
    · rw [show t = 3 * nn + 28 by omega] at hS; rw [hS]; exact f_11
    · rw [show t = 3 * nn + 28 by omega] at hS; rw [hS]; exact f_4
  | succ d ih =>
    intro t ht wf2 pw s lo hi hS h2 hR hc hw hk hs hF
    refine R_iload (pc := 106) 0 dX2_expand_106 rfl ?_
    refine R_iload (pc := 108) 3 dX2_expand_108 rfl ?_
    refine R_icmp_ge (pc := 110) (tgt := 237) dX2_expand_110 (by decide) (fun c_1 => absurd c_1 (nI_ge (by omega) (by omega))) (fun c_1 => ?_)
    refine R_aload_n (pc := 113) 4 dX2_expand_113 rfl rfl ?_
    refine R_get (pc := 114) dX2_expand_114 fX2_7 hc (by omega) rfl ?_
    refine R_iload (pc := 117) 0 dX2_expand_117 rfl ?_
    refine R_iconst (pc := 119) (v := 1) dX2_expand_119 (by decide) ?_
    refine R_isub (pc := 120) dX2_expand_120 ?_
    refine R_eqi (y := nI (nn + t - 1)) (pk_sub (a := nn + t) (b := 1) (by omega)) ?_
    refine R_iald' (pc := 121) (j := (nn + t - 1)) dX2_expand_121 hw (by omega) ⟨rfl, by omega, by omega⟩ ?_
    refine R_topi (fun v_2 ev_2 => ?_)
    refine R_istore (pc := 122) (lv' := [(9, .int v_2), (8, .int (nI (nn + t))), (7, .int s), (6, .int pw), (5, .int (nI (4 * (nn + 6) + 4))), (0, .ref c), (1, .ref r), (2, .int (nI b)), (3, .int oct), (4, .int (nI nn))]) dX2_expand_122 (by decide) rfl ?_
    refine R_iload (pc := 124) 2 dX2_expand_124 rfl ?_
    refine R_if_ne (pc := 126) (tgt := 171) dX2_expand_126 (by decide) (fun c_3 => ?_) (fun c_3 => ?_)
    · skip
      refine R_iload (pc := 171) 9 dX2_expand_171 rfl ?_
      refine R_bipush (pc := 173) (v := 8) dX2_expand_173 (by decide) ?_
      refine R_icmp_ne (pc := 175) (tgt := 192) dX2_expand_175 (by decide) (fun c_4 => ?_) (fun c_4 => ?_)
      · skip
        refine R_aload_n (pc := 192) 5 dX2_expand_192 rfl rfl ?_
        refine R_get (pc := 193) dX2_expand_193 fX2_7 hc (by omega) rfl ?_
        refine R_iload (pc := 196) 1 dX2_expand_196 rfl ?_
        refine R_aload_n (pc := 198) 5 dX2_expand_198 rfl rfl ?_
        refine R_get (pc := 199) dX2_expand_199 fX2_7 hc (by omega) rfl ?_
        refine R_iload (pc := 202) 1 dX2_expand_202 rfl ?_
        refine R_iload (pc := 204) 9 dX2_expand_204 rfl ?_
        refine R_isub (pc := 206) dX2_expand_206 ?_
        refine R_eqi (y := nI t) ((pk_sub (a := nn + t) (b := nn) (by omega)).trans (by rw [show nn + t - nn = t by omega])) ?_
        refine R_iald' (pc := 207) (j := t) dX2_expand_207 hw (by omega) ⟨rfl, by omega, by omega⟩ ?_
        refine R_iload (pc := 208) 0 dX2_expand_208 rfl ?_
        refine R_ixor (pc := 210) dX2_expand_210 ?_
        refine R_iast' (pc := 211) (j := (nn + t)) dX2_expand_211 hw (by omega) ⟨rfl, by omega, by omega⟩ (fun h_5 f_6 g_7 => ?_)
        have R_8 := rowAt.move hR (g_7 r (by omega)) (g_7 (r + 1) (by omega))
        have f_9 := (g_7 c (by omega)).trans hc
        have f_10 := (g_7 (c + 2) (by omega)).trans hk
        have f_11 := (g_7 (c + 3) (by omega)).trans hs
        refine R_iload (pc := 212) 2 dX2_expand_212 rfl ?_
        refine R_iconst (pc := 214) (v := 1) dX2_expand_214 (by decide) ?_
        refine R_iadd (pc := 215) dX2_expand_215 ?_
        refine R_iload (pc := 216) 9 dX2_expand_216 rfl ?_
        refine R_icmp_ne (pc := 218) (tgt := 225) dX2_expand_218 (by decide) (fun c_12 => ?_) (fun c_12 => ?_)
        · skip
          refine R_iload (pc := 225) 2 dX2_expand_225 rfl ?_
          refine R_iconst (pc := 227) (v := 1) dX2_expand_227 (by decide) ?_
          refine R_iadd (pc := 228) dX2_expand_228 ?_
          refine R_topi (fun v_13 ev_13 => ?_)
          refine R_istore (pc := 229) (lv' := [(7, .int v_13), (9, .int v_2), (8, .int (nI (nn + t))), (6, .int pw), (5, .int (nI (4 * (nn + 6) + 4))), (0, .ref c), (1, .ref r), (2, .int (nI b)), (3, .int oct), (4, .int (nI nn))]) dX2_expand_229 (by decide) rfl ?_
          refine R_iinc (pc := 231) (j := 2) (v := nI (nn + (t + 1))) (lv' := [(8, .int (nI (nn + (t + 1)))), (7, .int v_13), (9, .int v_2), (6, .int pw), (5, .int (nI (4 * (nn + 6) + 4))), (0, .ref c), (1, .ref r), (2, .int (nI b)), (3, .int oct), (4, .int (nI nn))]) dX2_expand_231 rfl (nI_1 (nn + t)) (by decide) rfl ?_
          refine R_goto (pc := 234) (tgt := 106) dX2_expand_234 (by decide) ?_
          refine R_sub [0, 1, 3, 4, 5, 6, 7, 8, 9] rfl ?_
          exact ih (t + 1) (by omega) _ _ _ _ _ (by show kstp nn t (kst nn wf0 t) = _; rw [hS]; unfold kstp; dsimp only; rw [if_neg c_3, if_neg c_4, if_neg c_3, if_neg c_12]; subst ev_13 ev_2; rfl) _ R_8 f_9 f_6 f_10 f_11 (fun x n0_ n1_ n2_ => ((fun x_ n0_ n1_ => (g_7 x_ n0_)) x n1_ n2_).trans (hF x n0_ n1_ n2_))
        · skip
          refine R_iconst (pc := 221) (v := 0) dX2_expand_221 (by decide) ?_
          refine R_goto (pc := 222) (tgt := 229) dX2_expand_222 (by decide) ?_
          refine R_istore (pc := 229) (lv' := [(7, .int 0), (9, .int v_2), (8, .int (nI (nn + t))), (6, .int pw), (5, .int (nI (4 * (nn + 6) + 4))), (0, .ref c), (1, .ref r), (2, .int (nI b)), (3, .int oct), (4, .int (nI nn))]) dX2_expand_229 (by decide) rfl ?_
          refine R_iinc (pc := 231) (j := 2) (v := nI (nn + (t + 1))) (lv' := [(8, .int (nI (nn + (t + 1)))), (7, .int 0), (9, .int v_2), (6, .int pw), (5, .int (nI (4 * (nn + 6) + 4))), (0, .ref c), (1, .ref r), (2, .int (nI b)), (3, .int oct), (4, .int (nI nn))]) dX2_expand_231 rfl (nI_1 (nn + t)) (by decide) rfl ?_
          refine R_goto (pc := 234) (tgt := 106) dX2_expand_234 (by decide) ?_
          refine R_sub [0, 1, 3, 4, 5, 6, 7, 8, 9] rfl ?_
          exact ih (t + 1) (by omega) _ _ _ _ _ (by show kstp nn t (kst nn wf0 t) = _; rw [hS]; unfold kstp; dsimp only; rw [if_neg c_3, if_neg c_4, if_neg c_3, if_pos c_12]; subst ev_2; rfl) _ R_8 f_9 f_6 f_10 f_11 (fun x n0_ n1_ n2_ => ((fun x_ n0_ n1_ => (g_7 x_ n0_)) x n1_ n2_).trans (hF x n0_ n1_ n2_))
      · skip
        refine R_iload (pc := 178) 2 dX2_expand_178 rfl ?_
        refine R_iconst (pc := 180) (v := 4) dX2_expand_180 (by decide) ?_
        refine R_icmp_ne (pc := 181) (tgt := 192) dX2_expand_181 (by decide) (fun c_14 => ?_) (fun c_14 => ?_)
        · skip
          refine R_aload_n (pc := 192) 5 dX2_expand_192 rfl rfl ?_
          refine R_get (pc := 193) dX2_expand_193 fX2_7 hc (by omega) rfl ?_
          refine R_iload (pc := 196) 1 dX2_expand_196 rfl ?_
          refine R_aload_n (pc := 198) 5 dX2_expand_198 rfl rfl ?_
          refine R_get (pc := 199) dX2_expand_199 fX2_7 hc (by omega) rfl ?_
          refine R_iload (pc := 202) 1 dX2_expand_202 rfl ?_
          refine R_iload (pc := 204) 9 dX2_expand_204 rfl ?_
          refine R_isub (pc := 206) dX2_expand_206 ?_
          refine R_eqi (y := nI t) ((pk_sub (a := nn + t) (b := nn) (by omega)).trans (by rw [show nn + t - nn = t by omega])) ?_
          refine R_iald' (pc := 207) (j := t) dX2_expand_207 hw (by omega) ⟨rfl, by omega, by omega⟩ ?_
          refine R_iload (pc := 208) 0 dX2_expand_208 rfl ?_
          refine R_ixor (pc := 210) dX2_expand_210 ?_
          refine R_iast' (pc := 211) (j := (nn + t)) dX2_expand_211 hw (by omega) ⟨rfl, by omega, by omega⟩ (fun h_15 f_16 g_17 => ?_)
          have R_18 := rowAt.move hR (g_17 r (by omega)) (g_17 (r + 1) (by omega))
          have f_19 := (g_17 c (by omega)).trans hc
          have f_20 := (g_17 (c + 2) (by omega)).trans hk
          have f_21 := (g_17 (c + 3) (by omega)).trans hs
          refine R_iload (pc := 212) 2 dX2_expand_212 rfl ?_
          refine R_iconst (pc := 214) (v := 1) dX2_expand_214 (by decide) ?_
          refine R_iadd (pc := 215) dX2_expand_215 ?_
          refine R_iload (pc := 216) 9 dX2_expand_216 rfl ?_
          refine R_icmp_ne (pc := 218) (tgt := 225) dX2_expand_218 (by decide) (fun c_22 => ?_) (fun c_22 => ?_)
          · skip
            refine R_iload (pc := 225) 2 dX2_expand_225 rfl ?_
            refine R_iconst (pc := 227) (v := 1) dX2_expand_227 (by decide) ?_
            refine R_iadd (pc := 228) dX2_expand_228 ?_
            refine R_topi (fun v_23 ev_23 => ?_)
            refine R_istore (pc := 229) (lv' := [(7, .int v_23), (9, .int v_2), (8, .int (nI (nn + t))), (6, .int pw), (5, .int (nI (4 * (nn + 6) + 4))), (0, .ref c), (1, .ref r), (2, .int (nI b)), (3, .int oct), (4, .int (nI nn))]) dX2_expand_229 (by decide) rfl ?_
            refine R_iinc (pc := 231) (j := 2) (v := nI (nn + (t + 1))) (lv' := [(8, .int (nI (nn + (t + 1)))), (7, .int v_23), (9, .int v_2), (6, .int pw), (5, .int (nI (4 * (nn + 6) + 4))), (0, .ref c), (1, .ref r), (2, .int (nI b)), (3, .int oct), (4, .int (nI nn))]) dX2_expand_231 rfl (nI_1 (nn + t)) (by decide) rfl ?_
            refine R_goto (pc := 234) (tgt := 106) dX2_expand_234 (by decide) ?_
            refine R_sub [0, 1, 3, 4, 5, 6, 7, 8, 9] rfl ?_
            exact ih (t + 1) (by omega) _ _ _ _ _ (by show kstp nn t (kst nn wf0 t) = _; rw [hS]; unfold kstp; dsimp only; rw [if_neg c_3, if_pos c_4, if_neg c_14, if_neg c_3, if_neg c_22]; subst ev_23 ev_2; rfl) _ R_18 f_19 f_16 f_20 f_21 (fun x n0_ n1_ n2_ => ((fun x_ n0_ n1_ => (g_17 x_ n0_)) x n1_ n2_).trans (hF x n0_ n1_ n2_))
          · skip
            refine R_iconst (pc := 221) (v := 0) dX2_expand_221 (by decide) ?_
            refine R_goto (pc := 222) (tgt := 229) dX2_expand_222 (by decide) ?_
            refine R_istore (pc := 229) (lv' := [(7, .int 0), (9, .int v_2), (8, .int (nI (nn + t))), (6, .int pw), (5, .int (nI (4 * (nn + 6) + 4))), (0, .ref c), (1, .ref r), (2, .int (nI b)), (3, .int oct), (4, .int (nI nn))]) dX2_expand_229 (by decide) rfl ?_
            refine R_iinc (pc := 231) (j := 2) (v := nI (nn + (t + 1))) (lv' := [(8, .int (nI (nn + (t + 1)))), (7, .int 0), (9, .int v_2), (6, .int pw), (5, .int (nI (4 * (nn + 6) + 4))), (0, .ref c), (1, .ref r), (2, .int (nI b)), (3, .int oct), (4, .int (nI nn))]) dX2_expand_231 rfl (nI_1 (nn + t)) (by decide) rfl ?_
            refine R_goto (pc := 234) (tgt := 106) dX2_expand_234 (by decide) ?_
            refine R_sub [0, 1, 3, 4, 5, 6, 7, 8, 9] rfl ?_
            exact ih (t + 1) (by omega) _ _ _ _ _ (by show kstp nn t (kst nn wf0 t) = _; rw [hS]; unfold kstp; dsimp only; rw [if_neg c_3, if_pos c_4, if_neg c_14, if_neg c_3, if_pos c_22]; subst ev_2; rfl) _ R_18 f_19 f_16 f_20 f_21 (fun x n0_ n1_ n2_ => ((fun x_ n0_ n1_ => (g_17 x_ n0_)) x n1_ n2_).trans (hF x n0_ n1_ n2_))
        · skip
          refine R_aload_n (pc := 184) 5 dX2_expand_184 rfl rfl ?_
          refine R_iload (pc := 185) 0 dX2_expand_185 rfl ?_
          refine R_callVh (pc := 187) (μ' := mX2_boxed) (As := [.int v_2]) (st := []) dX2_expand_187 zX2_boxed lX2_40 ⟨by decide, by decide⟩ rfl rfl ⟨by decide, by decide⟩ hc (by omega) rfl (Nat.le_of_ble_eq_true rfl) (qX2_boxed l w _ _ _ hn _ _ _ hc hs _) (fun h_28 r_ q_29 => ?_)
          obtain ⟨rfl, ⟨x_24, y_25, f_26⟩, g_27⟩ := q_29
          have R_30 := rowAt.move hR (g_27 r (by omega)) (g_27 (r + 1) (by omega))
          have f_31 := (g_27 c (by omega)).trans hc
          have f_32 := (g_27 (c + 1) (by omega)).trans hw
          have f_33 := (g_27 (c + 2) (by omega)).trans hk
          refine R_topi (fun v_34 ev_34 => ?_)
          refine R_istore (pc := 190) (lv' := [(9, .int v_34), (8, .int (nI (nn + t))), (7, .int s), (6, .int pw), (5, .int (nI (4 * (nn + 6) + 4))), (0, .ref c), (1, .ref r), (2, .int (nI b)), (3, .int oct), (4, .int (nI nn))]) dX2_expand_190 (by decide) rfl ?_
          refine R_aload_n (pc := 192) 5 dX2_expand_192 rfl rfl ?_
          refine R_get (pc := 193) dX2_expand_193 fX2_7 f_31 (by omega) rfl ?_
          refine R_iload (pc := 196) 1 dX2_expand_196 rfl ?_
          refine R_aload_n (pc := 198) 5 dX2_expand_198 rfl rfl ?_
          refine R_get (pc := 199) dX2_expand_199 fX2_7 f_31 (by omega) rfl ?_
          refine R_iload (pc := 202) 1 dX2_expand_202 rfl ?_
          refine R_iload (pc := 204) 9 dX2_expand_204 rfl ?_
          refine R_isub (pc := 206) dX2_expand_206 ?_
          refine R_eqi (y := nI t) ((pk_sub (a := nn + t) (b := nn) (by omega)).trans (by rw [show nn + t - nn = t by omega])) ?_
          refine R_iald' (pc := 207) (j := t) dX2_expand_207 f_32 (by omega) ⟨rfl, by omega, by omega⟩ ?_
          refine R_iload (pc := 208) 0 dX2_expand_208 rfl ?_
          refine R_ixor (pc := 210) dX2_expand_210 ?_
          refine R_iast' (pc := 211) (j := (nn + t)) dX2_expand_211 f_32 (by omega) ⟨rfl, by omega, by omega⟩ (fun h_35 f_36 g_37 => ?_)
          have R_38 := rowAt.move R_30 (g_37 r (by omega)) (g_37 (r + 1) (by omega))
          have f_39 := (g_37 c (by omega)).trans f_31
          have f_40 := (g_37 (c + 2) (by omega)).trans f_33
          have f_41 := (g_37 (c + 3) (by omega)).trans f_26
          refine R_iload (pc := 212) 2 dX2_expand_212 rfl ?_
          refine R_iconst (pc := 214) (v := 1) dX2_expand_214 (by decide) ?_
          refine R_iadd (pc := 215) dX2_expand_215 ?_
          refine R_iload (pc := 216) 9 dX2_expand_216 rfl ?_
          refine R_icmp_ne (pc := 218) (tgt := 225) dX2_expand_218 (by decide) (fun c_42 => ?_) (fun c_42 => ?_)
          · skip
            refine R_iload (pc := 225) 2 dX2_expand_225 rfl ?_
            refine R_iconst (pc := 227) (v := 1) dX2_expand_227 (by decide) ?_
            refine R_iadd (pc := 228) dX2_expand_228 ?_
            refine R_topi (fun v_43 ev_43 => ?_)
            refine R_istore (pc := 229) (lv' := [(7, .int v_43), (9, .int v_34), (8, .int (nI (nn + t))), (6, .int pw), (5, .int (nI (4 * (nn + 6) + 4))), (0, .ref c), (1, .ref r), (2, .int (nI b)), (3, .int oct), (4, .int (nI nn))]) dX2_expand_229 (by decide) rfl ?_
            refine R_iinc (pc := 231) (j := 2) (v := nI (nn + (t + 1))) (lv' := [(8, .int (nI (nn + (t + 1)))), (7, .int v_43), (9, .int v_34), (6, .int pw), (5, .int (nI (4 * (nn + 6) + 4))), (0, .ref c), (1, .ref r), (2, .int (nI b)), (3, .int oct), (4, .int (nI nn))]) dX2_expand_231 rfl (nI_1 (nn + t)) (by decide) rfl ?_
            refine R_goto (pc := 234) (tgt := 106) dX2_expand_234 (by decide) ?_
            refine R_sub [0, 1, 3, 4, 5, 6, 7, 8, 9] rfl ?_
            exact ih (t + 1) (by omega) _ _ _ _ _ (by show kstp nn t (kst nn wf0 t) = _; rw [hS]; unfold kstp; dsimp only; rw [if_neg c_3, if_pos c_4, if_pos c_14, if_neg c_3, if_neg c_42]; subst ev_43 ev_34 ev_2; rfl) _ R_38 f_39 f_36 f_40 f_41 (fun x n0_ n1_ n2_ => ((fun x_ n0_ n1_ => ((g_37 x_ n0_).trans (g_27 x_ n1_))) x n1_ n2_).trans (hF x n0_ n1_ n2_))
          · skip
            refine R_iconst (pc := 221) (v := 0) dX2_expand_221 (by decide) ?_
            refine R_goto (pc := 222) (tgt := 229) dX2_expand_222 (by decide) ?_
            refine R_istore (pc := 229) (lv' := [(7, .int 0), (9, .int v_34), (8, .int (nI (nn + t))), (6, .int pw), (5, .int (nI (4 * (nn + 6) + 4))), (0, .ref c), (1, .ref r), (2, .int (nI b)), (3, .int oct), (4, .int (nI nn))]) dX2_expand_229 (by decide) rfl ?_
            refine R_iinc (pc := 231) (j := 2) (v := nI (nn + (t + 1))) (lv' := [(8, .int (nI (nn + (t + 1)))), (7, .int 0), (9, .int v_34), (6, .int pw), (5, .int (nI (4 * (nn + 6) + 4))), (0, .ref c), (1, .ref r), (2, .int (nI b)), (3, .int oct), (4, .int (nI nn))]) dX2_expand_231 rfl (nI_1 (nn + t)) (by decide) rfl ?_
            refine R_goto (pc := 234) (tgt := 106) dX2_expand_234 (by decide) ?_
            refine R_sub [0, 1, 3, 4, 5, 6, 7, 8, 9] rfl ?_
            exact ih (t + 1) (by omega) _ _ _ _ _ (by show kstp nn t (kst nn wf0 t) = _; rw [hS]; unfold kstp; dsimp only; rw [if_neg c_3, if_pos c_4, if_pos c_14, if_neg c_3, if_pos c_42]; subst ev_34 ev_2; rfl) _ R_38 f_39 f_36 f_40 f_41 (fun x n0_ n1_ n2_ => ((fun x_ n0_ n1_ => ((g_37 x_ n0_).trans (g_27 x_ n1_))) x n1_ n2_).trans (hF x n0_ n1_ n2_))
    · skip
      refine R_aload_n (pc := 129) 5 dX2_expand_129 rfl rfl ?_
      refine R_iload (pc := 130) 0 dX2_expand_130 rfl ?_
      refine R_bipush (pc := 132) (v := 8) dX2_expand_132 (by decide) ?_
      refine R_ishl (pc := 134) dX2_expand_134 ?_
      refine R_iload (pc := 135) 0 dX2_expand_135 rfl ?_
      refine R_bipush (pc := 137) (v := 24) dX2_expand_137 (by decide) ?_
      refine R_iushr (pc := 139) (v := jushr v_2 24) dX2_expand_139 rfl ?_
      refine R_ior (pc := 140) dX2_expand_140 ?_
      refine R_callVh (pc := 141) (μ' := mX2_boxed) (As := [.int ((v_2 <<< (8 &&& 31)) ||| (jushr v_2 24))]) (st := []) dX2_expand_141 zX2_boxed lX2_40 ⟨by decide, by decide⟩ rfl rfl ⟨by decide, by decide⟩ hc (by omega) rfl (Nat.le_of_ble_eq_true rfl) (qX2_boxed l w _ _ _ hn _ _ _ hc hs _) (fun h_48 r_ q_49 => ?_)
      obtain ⟨rfl, ⟨x_44, y_45, f_46⟩, g_47⟩ := q_49
      have R_50 := rowAt.move hR (g_47 r (by omega)) (g_47 (r + 1) (by omega))
      have f_51 := (g_47 c (by omega)).trans hc
      have f_52 := (g_47 (c + 1) (by omega)).trans hw
      have f_53 := (g_47 (c + 2) (by omega)).trans hk
      refine R_iload (pc := 144) 3 dX2_expand_144 rfl ?_
      refine R_bipush (pc := 146) (v := 24) dX2_expand_146 (by decide) ?_
      refine R_ishl (pc := 148) dX2_expand_148 ?_
      refine R_ixor (pc := 149) dX2_expand_149 ?_
      refine R_topi (fun v_54 ev_54 => ?_)
      refine R_istore (pc := 150) (lv' := [(9, .int v_54), (8, .int (nI (nn + t))), (7, .int s), (6, .int pw), (5, .int (nI (4 * (nn + 6) + 4))), (0, .ref c), (1, .ref r), (2, .int (nI b)), (3, .int oct), (4, .int (nI nn))]) dX2_expand_150 (by decide) rfl ?_
      refine R_iload (pc := 152) 3 dX2_expand_152 rfl ?_
      refine R_iconst (pc := 154) (v := 1) dX2_expand_154 (by decide) ?_
      refine R_ishl (pc := 155) dX2_expand_155 ?_
      refine R_iload (pc := 156) 3 dX2_expand_156 rfl ?_
      refine R_bipush (pc := 158) (v := 7) dX2_expand_158 (by decide) ?_
      refine R_ishr (pc := 160) dX2_expand_160 ?_
      refine R_sipush (pc := 161) (v := 283) dX2_expand_161 (by decide) ?_
      refine R_imul (pc := 164) dX2_expand_164 ?_
      refine R_ixor (pc := 165) dX2_expand_165 ?_
      refine R_topi (fun v_55 ev_55 => ?_)
      refine R_istore (pc := 166) (lv' := [(6, .int v_55), (9, .int v_54), (8, .int (nI (nn + t))), (7, .int s), (5, .int (nI (4 * (nn + 6) + 4))), (0, .ref c), (1, .ref r), (2, .int (nI b)), (3, .int oct), (4, .int (nI nn))]) dX2_expand_166 (by decide) rfl ?_
      refine R_goto (pc := 168) (tgt := 192) dX2_expand_168 (by decide) ?_
      refine R_aload_n (pc := 192) 5 dX2_expand_192 rfl rfl ?_
      refine R_get (pc := 193) dX2_expand_193 fX2_7 f_51 (by omega) rfl ?_
      refine R_iload (pc := 196) 2 dX2_expand_196 rfl ?_
      refine R_aload_n (pc := 198) 5 dX2_expand_198 rfl rfl ?_
      refine R_get (pc := 199) dX2_expand_199 fX2_7 f_51 (by omega) rfl ?_
      refine R_iload (pc := 202) 2 dX2_expand_202 rfl ?_
      refine R_iload (pc := 204) 9 dX2_expand_204 rfl ?_
      refine R_isub (pc := 206) dX2_expand_206 ?_
      refine R_eqi (y := nI t) ((pk_sub (a := nn + t) (b := nn) (by omega)).trans (by rw [show nn + t - nn = t by omega])) ?_
      refine R_iald' (pc := 207) (j := t) dX2_expand_207 f_52 (by omega) ⟨rfl, by omega, by omega⟩ ?_
      refine R_iload (pc := 208) 1 dX2_expand_208 rfl ?_
      refine R_ixor (pc := 210) dX2_expand_210 ?_
      refine R_iast' (pc := 211) (j := (nn + t)) dX2_expand_211 f_52 (by omega) ⟨rfl, by omega, by omega⟩ (fun h_56 f_57 g_58 => ?_)
      have R_59 := rowAt.move R_50 (g_58 r (by omega)) (g_58 (r + 1) (by omega))
      have f_60 := (g_58 c (by omega)).trans f_51
      have f_61 := (g_58 (c + 2) (by omega)).trans f_53
      have f_62 := (g_58 (c + 3) (by omega)).trans f_46
      refine R_iload (pc := 212) 3 dX2_expand_212 rfl ?_
      refine R_iconst (pc := 214) (v := 1) dX2_expand_214 (by decide) ?_
      refine R_iadd (pc := 215) dX2_expand_215 ?_
      refine R_iload (pc := 216) 9 dX2_expand_216 rfl ?_
      refine R_icmp_ne (pc := 218) (tgt := 225) dX2_expand_218 (by decide) (fun c_63 => ?_) (fun c_63 => ?_)
      · skip
        refine R_iload (pc := 225) 3 dX2_expand_225 rfl ?_
        refine R_iconst (pc := 227) (v := 1) dX2_expand_227 (by decide) ?_
        refine R_iadd (pc := 228) dX2_expand_228 ?_
        refine R_topi (fun v_64 ev_64 => ?_)
        refine R_istore (pc := 229) (lv' := [(7, .int v_64), (6, .int v_55), (9, .int v_54), (8, .int (nI (nn + t))), (5, .int (nI (4 * (nn + 6) + 4))), (0, .ref c), (1, .ref r), (2, .int (nI b)), (3, .int oct), (4, .int (nI nn))]) dX2_expand_229 (by decide) rfl ?_
        refine R_iinc (pc := 231) (j := 3) (v := nI (nn + (t + 1))) (lv' := [(8, .int (nI (nn + (t + 1)))), (7, .int v_64), (6, .int v_55), (9, .int v_54), (5, .int (nI (4 * (nn + 6) + 4))), (0, .ref c), (1, .ref r), (2, .int (nI b)), (3, .int oct), (4, .int (nI nn))]) dX2_expand_231 rfl (nI_1 (nn + t)) (by decide) rfl ?_
        refine R_goto (pc := 234) (tgt := 106) dX2_expand_234 (by decide) ?_
        refine R_sub [0, 1, 2, 4, 5, 6, 7, 8, 9] rfl ?_
        exact ih (t + 1) (by omega) _ _ _ _ _ (by show kstp nn t (kst nn wf0 t) = _; rw [hS]; unfold kstp; dsimp only; rw [if_pos c_3, if_pos c_3, if_neg c_63]; subst ev_64 ev_55 ev_54 ev_2; rfl) _ R_59 f_60 f_57 f_61 f_62 (fun x n0_ n1_ n2_ => ((fun x_ n0_ n1_ => ((g_58 x_ n0_).trans (g_47 x_ n1_))) x n1_ n2_).trans (hF x n0_ n1_ n2_))
      · skip
        refine R_iconst (pc := 221) (v := 0) dX2_expand_221 (by decide) ?_
        refine R_goto (pc := 222) (tgt := 229) dX2_expand_222 (by decide) ?_
        refine R_istore (pc := 229) (lv' := [(7, .int 0), (6, .int v_55), (9, .int v_54), (8, .int (nI (nn + t))), (5, .int (nI (4 * (nn + 6) + 4))), (0, .ref c), (1, .ref r), (2, .int (nI b)), (3, .int oct), (4, .int (nI nn))]) dX2_expand_229 (by decide) rfl ?_
        refine R_iinc (pc := 231) (j := 3) (v := nI (nn + (t + 1))) (lv' := [(8, .int (nI (nn + (t + 1)))), (7, .int 0), (6, .int v_55), (9, .int v_54), (5, .int (nI (4 * (nn + 6) + 4))), (0, .ref c), (1, .ref r), (2, .int (nI b)), (3, .int oct), (4, .int (nI nn))]) dX2_expand_231 rfl (nI_1 (nn + t)) (by decide) rfl ?_
        refine R_goto (pc := 234) (tgt := 106) dX2_expand_234 (by decide) ?_
        refine R_sub [0, 1, 2, 4, 5, 6, 7, 8, 9] rfl ?_
        exact ih (t + 1) (by omega) _ _ _ _ _ (by show kstp nn t (kst nn wf0 t) = _; rw [hS]; unfold kstp; dsimp only; rw [if_pos c_3, if_pos c_3, if_pos c_63]; subst ev_55 ev_54 ev_2; rfl) _ R_59 f_60 f_57 f_61 f_62 (fun x n0_ n1_ n2_ => ((fun x_ n0_ n1_ => ((g_58 x_ n0_).trans (g_47 x_ n1_))) x n1_ n2_).trans (hF x n0_ n1_ n2_))
set_option maxHeartbeats 4000000 in
set_option maxRecDepth 100000 in
theorem qX2_expand_loop1 (l : Launch) (w : am_W) (h : am_H) (n c : Nat) (hn : 0 < c ∧ c + 3 ≤ n) (r N : Nat) (L : List (BitVec 8)) (hrn : 0 < r ∧ r + 1 ≤ n) (hne : (r ≠ c ∧ r ≠ c + 1 ∧ r ≠ c + 2 ∧ r ≠ c + 3) ∧ r + 1 ≠ c) (b nn : Nat) (hb : b ≤ 64) (hnn : nn = 4 ∨ nn = 6 ∨ nn = 8) (g : Nat → Int64) (wf : Nat → Int32) (lo hi : Int64) (oct : Int32) : ∀ (d t : Nat), t + d = nn → ∀ h2, rowAt h2 r N L → h2 c = .inr (.inr (2, [.ref (c + 1), .ref (c + 2), .ref (c + 3), .int (nI (nn + 6))])) → h2 (c + 1) = .inl (60, kfil wf L b t) → h2 (c + 2) = .inr (.inl (30, g)) → h2 (c + 3) = .inr (.inr (8, [.long lo, .long hi])) → (∀ x, x ≠ c → x ≠ c + 1 → h2 x = h x) → RW l w mX2_expand h2 n 0 0 55 [(6, .int (nI t)), (5, .int (nI (4 * (nn + 6) + 4))), (0, .ref c), (1, .ref r), (2, .int (nI b)), (3, .int oct), (4, .int (nI nn))] [] (fun h' n' r_ => n' = n ∧ (fun h' q => q = none ∧ cipAt h' c (kexp wf L b nn) (kgs (kexp wf L b nn) g 15) (nn + 6) ∧ ∀ x, x ≠ c → x ≠ c + 1 → x ≠ c + 2 → x ≠ c + 3 → h' x = h x) h' r_) := by
  intro d
  induction d with
  | zero =>
    intro t ht h2 hR hc hw hk hs hF
    refine R_iload (pc := 55) 0 dX2_expand_55 rfl ?_
    refine R_iload (pc := 57) 6 dX2_expand_57 rfl ?_
    refine R_icmp_ge (pc := 59) (tgt := 96) dX2_expand_59 (by decide) (fun c_1 => ?_) (fun c_1 => absurd (nI_le (by omega) (by omega)) c_1)
    refine R_iconst (pc := 96) (v := 1) dX2_expand_96 (by decide) ?_
    refine R_istore (pc := 97) (lv' := [(6, .int 1), (5, .int (nI (4 * (nn + 6) + 4))), (0, .ref c), (1, .ref r), (2, .int (nI b)), (3, .int oct), (4, .int (nI nn))]) dX2_expand_97 (by decide) rfl ?_
    refine R_iconst (pc := 99) (v := 0) dX2_expand_99 (by decide) ?_
    refine R_istore (pc := 100) (lv' := [(7, .int 0), (6, .int 1), (5, .int (nI (4 * (nn + 6) + 4))), (0, .ref c), (1, .ref r), (2, .int (nI b)), (3, .int oct), (4, .int (nI nn))]) dX2_expand_100 (by decide) rfl ?_
    refine R_iload (pc := 102) 7 dX2_expand_102 rfl ?_
    refine R_istore (pc := 104) (lv' := [(8, .int (nI nn)), (7, .int 0), (6, .int 1), (5, .int (nI (4 * (nn + 6) + 4))), (0, .ref c), (1, .ref r), (2, .int (nI b)), (3, .int oct), (4, .int (nI nn))]) dX2_expand_104 (by decide) rfl ?_
    obtain rfl : t = nn := by omega
    refine R_sub [0, 1, 2, 3, 4, 5, 6, 7, 8] rfl ?_
    exact qX2_expand_loop2 l w h n c hn r N L hrn hne b t hb hnn g (kfil wf L b t) oct (3 * t + 28) 0 (by omega) _ _ _ _ _ rfl _ hR hc hw hk hs (fun x n0_ n1_ n3_ => hF x n0_ n1_)
  | succ d ih =>
    intro t ht h2 hR hc hw hk hs hF
    refine R_iload (pc := 55) 0 dX2_expand_55 rfl ?_
    refine R_iload (pc := 57) 6 dX2_expand_57 rfl ?_
    refine R_icmp_ge (pc := 59) (tgt := 96) dX2_expand_59 (by decide) (fun c_1 => absurd c_1 (nI_ge (by omega) (by omega))) (fun c_1 => ?_)
    refine R_iload (pc := 62) 0 dX2_expand_62 rfl ?_
    refine R_iload (pc := 64) 1 dX2_expand_64 rfl ?_
    refine R_icmp_ge (pc := 66) (tgt := 96) dX2_expand_66 (by decide) (fun c_2 => absurd c_2 (nI_ge (by omega) (by omega))) (fun c_2 => ?_)
    refine R_aload_n (pc := 69) 2 dX2_expand_69 rfl rfl ?_
    refine R_get (pc := 70) dX2_expand_70 fX2_7 hc (by omega) rfl ?_
    refine R_iload (pc := 73) 0 dX2_expand_73 rfl ?_
    refine R_aload_n (pc := 75) 3 dX2_expand_75 rfl rfl ?_
    refine R_iload_n (pc := 76) 4 dX2_expand_76 rfl rfl ?_
    refine R_iconst (pc := 77) (v := 4) dX2_expand_77 (by decide) ?_
    refine R_iload (pc := 78) 0 dX2_expand_78 rfl ?_
    refine R_imul (pc := 80) dX2_expand_80 ?_
    refine R_eqi (y := nI (4 * t)) (pk_mul 4 t) ?_
    refine R_iadd (pc := 81) dX2_expand_81 ?_
    refine R_eqi (y := nI (b + 4 * t)) (nI_add b (4 * t)) ?_
    refine R_callVp (pc := 82) (μ' := mX6_eightAt) (As := [.int (nI (b + 4 * t))]) (st := [.int (nI t), .ref (c + 1)]) dX2_expand_82 zX6_eightAt lX2_34 ⟨by decide, by decide⟩ rfl rfl ⟨by decide, by decide⟩ hR.2.2.1 (by omega) rfl (Nat.le_of_ble_eq_true rfl) (qX6_eightAt l w _ _ _ _ _ hR (by omega) (b + 4 * t) (by omega)) ?_
    refine R_bipush (pc := 85) (v := 32) dX2_expand_85 (by decide) ?_
    refine R_lushr (pc := 87) (v := jlushr (e8 L (b + 4 * t)) 32) dX2_expand_87 rfl ?_
    refine R_l2i (pc := 88) (v := (jlushr (e8 L (b + 4 * t)) 32).toInt32) dX2_expand_88 rfl ?_
    refine R_iast' (pc := 89) (j := t) dX2_expand_89 hw (by omega) ⟨rfl, by omega, by omega⟩ (fun h_3 f_4 g_5 => ?_)
    have R_6 := rowAt.move hR (g_5 r (by omega)) (g_5 (r + 1) (by omega))
    have f_7 := (g_5 c (by omega)).trans hc
    have f_8 := (g_5 (c + 2) (by omega)).trans hk
    have f_9 := (g_5 (c + 3) (by omega)).trans hs
    refine R_iinc (pc := 90) (j := 0) (v := nI (t + 1)) (lv' := [(6, .int (nI (t + 1))), (5, .int (nI (4 * (nn + 6) + 4))), (0, .ref c), (1, .ref r), (2, .int (nI b)), (3, .int oct), (4, .int (nI nn))]) dX2_expand_90 rfl (nI_1 t) (by decide) rfl ?_
    refine R_goto (pc := 93) (tgt := 55) dX2_expand_93 (by decide) ?_
    refine R_sub [0, 1, 2, 3, 4, 5, 6] rfl ?_
    exact ih (t + 1) (by omega) _ R_6 f_7 f_4 f_8 f_9 (fun x n0_ n1_ => ((fun x_ n0_ => (g_5 x_ n0_)) x n1_).trans (hF x n0_ n1_))
set_option maxHeartbeats 4000000 in
set_option maxRecDepth 100000 in
theorem qX2_expand (l : Launch) (w : am_W) (h : am_H) (n c : Nat) (hn : 0 < c ∧ c + 3 ≤ n) (r N : Nat) (L : List (BitVec 8)) (hrn : 0 < r ∧ r + 1 ≤ n) (hne : (r ≠ c ∧ r ≠ c + 1 ∧ r ≠ c + 2 ∧ r ≠ c + 3) ∧ r + 1 ≠ c) (b nn : Nat) (hb : b ≤ 64) (hnn : nn = 4 ∨ nn = 6 ∨ nn = 8) (g : Nat → Int64) (wf : Nat → Int32) (R : Nat) (hC : cipAt h c wf g R) (hR : rowAt h r N L) : RH l w mX2_expand h n [.ref c, .ref r, .int (nI b), .int (nI (4 * nn))] (fun h' q => q = none ∧ cipAt h' c (kexp wf L b nn) (kgs (kexp wf L b nn) g 15) (nn + 6) ∧ ∀ x, x ≠ c → x ≠ c + 1 → x ≠ c + 2 → x ≠ c + 3 → h' x = h x) := by
  obtain ⟨hc, hw, hk, lo, hi, hs⟩ := hC
  refine RC.of [(0, .ref c), (1, .ref r), (2, .int (nI b)), (3, .int (nI (4 * nn)))] (by decide +kernel) rfl (Nat.le_of_ble_eq_true rfl) ?_
  rcases hnn with rfl | rfl | rfl
  · skip
    refine R_iload_n (pc := 0) 3 dX2_expand_0 rfl rfl ?_
    refine R_bipush (pc := 1) (v := 32) dX2_expand_1 (by decide) ?_
    refine R_icmp_ne (pc := 3) (tgt := 11) dX2_expand_3 (by decide) (fun c_1 => ?_) (fun c_1 => absurd c_1 (by decide))
    refine R_iload_n (pc := 11) 3 dX2_expand_11 rfl rfl ?_
    refine R_bipush (pc := 12) (v := 24) dX2_expand_12 (by decide) ?_
    refine R_icmp_ne (pc := 14) (tgt := 22) dX2_expand_14 (by decide) (fun c_2 => ?_) (fun c_2 => absurd c_2 (by decide))
    refine R_iconst (pc := 22) (v := 4) dX2_expand_22 (by decide) ?_
    refine R_eqi (y := nI 4) (rfl) ?_
    refine R_istore (pc := 23) (lv' := [(4, .int (nI 4)), (0, .ref c), (1, .ref r), (2, .int (nI b)), (3, .int (nI (4 * 4)))]) dX2_expand_23 (by decide) rfl ?_
    refine R_aload_n (pc := 25) 1 dX2_expand_25 rfl rfl ?_
    refine R_iload (pc := 26) 0 dX2_expand_26 rfl ?_
    refine R_bipush (pc := 28) (v := 6) dX2_expand_28 (by decide) ?_
    refine R_iadd (pc := 30) dX2_expand_30 ?_
    refine R_eqi (y := nI (4 + 6)) (nI_add 4 6) ?_
    refine R_put' (pc := 31) (fs' := [.ref (c + 1), .ref (c + 2), .ref (c + 3), .int (nI (4 + 6))]) dX2_expand_31 fX2_24 tX2_3 rfl rfl hc (by omega) (Nat.le_of_ble_eq_true rfl) rfl (fun h_3 f_4 g_5 => ?_)
    have R_6 := rowAt.move hR (g_5 r (by omega)) (g_5 (r + 1) (by omega))
    have f_7 := (g_5 (c + 1) (by omega)).trans hw
    have f_8 := (g_5 (c + 2) (by omega)).trans hk
    have f_9 := (g_5 (c + 3) (by omega)).trans hs
    refine R_iconst (pc := 34) (v := 4) dX2_expand_34 (by decide) ?_
    refine R_aload_n (pc := 35) 1 dX2_expand_35 rfl rfl ?_
    refine R_get (pc := 36) dX2_expand_36 fX2_24 f_4 (by omega) rfl ?_
    refine R_imul (pc := 39) dX2_expand_39 ?_
    refine R_eqi (y := nI (4 * (4 + 6))) (pk_mul 4 (4 + 6)) ?_
    refine R_iconst (pc := 40) (v := 4) dX2_expand_40 (by decide) ?_
    refine R_iadd (pc := 41) dX2_expand_41 ?_
    refine R_eqi (y := nI (4 * (4 + 6) + 4)) (nI_add (4 * (4 + 6)) 4) ?_
    refine R_aload_n (pc := 42) 1 dX2_expand_42 rfl rfl ?_
    refine R_get (pc := 43) dX2_expand_43 fX2_7 f_4 (by omega) rfl ?_
    refine R_alenI (pc := 46) dX2_expand_46 f_7 (by omega) ?_
    refine R_min (pc := 47) dX2_expand_47 lX2_28 sM_min nM cM_min (by decide) (Nat.le_of_ble_eq_true rfl) (by decide) (by decide) ?_
    refine R_eqi (y := nI (4 * (4 + 6) + 4)) (if_neg (by decide)) ?_
    refine R_istore (pc := 50) (lv' := [(5, .int (nI (4 * (4 + 6) + 4))), (4, .int (nI 4)), (0, .ref c), (1, .ref r), (2, .int (nI b)), (3, .int (nI (4 * 4)))]) dX2_expand_50 (by decide) rfl ?_
    refine R_iconst (pc := 52) (v := 0) dX2_expand_52 (by decide) ?_
    refine R_istore (pc := 53) (lv' := [(6, .int 0), (5, .int (nI (4 * (4 + 6) + 4))), (4, .int (nI 4)), (0, .ref c), (1, .ref r), (2, .int (nI b)), (3, .int (nI (4 * 4)))]) dX2_expand_53 (by decide) rfl ?_
    refine R_sub [0, 1, 3, 4, 5, 6, 2] rfl ?_
    exact qX2_expand_loop1 l w h n c hn r N L hrn hne b 4 hb (by omega) g wf lo hi _ 4 0 (by omega) _ R_6 f_4 f_7 f_8 f_9 (fun x n0_ _ => (fun x_ n0_ => (g_5 x_ n0_)) x n0_)
  · skip
    refine R_iload_n (pc := 0) 3 dX2_expand_0 rfl rfl ?_
    refine R_bipush (pc := 1) (v := 32) dX2_expand_1 (by decide) ?_
    refine R_icmp_ne (pc := 3) (tgt := 11) dX2_expand_3 (by decide) (fun c_1 => ?_) (fun c_1 => absurd c_1 (by decide))
    refine R_iload_n (pc := 11) 3 dX2_expand_11 rfl rfl ?_
    refine R_bipush (pc := 12) (v := 24) dX2_expand_12 (by decide) ?_
    refine R_icmp_ne (pc := 14) (tgt := 22) dX2_expand_14 (by decide) (fun c_2 => absurd (rfl) c_2) (fun c_2 => ?_)
    refine R_bipush (pc := 17) (v := 6) dX2_expand_17 (by decide) ?_
    refine R_eqi (y := nI 6) (rfl) ?_
    refine R_goto (pc := 19) (tgt := 23) dX2_expand_19 (by decide) ?_
    refine R_istore (pc := 23) (lv' := [(4, .int (nI 6)), (0, .ref c), (1, .ref r), (2, .int (nI b)), (3, .int (nI (4 * 6)))]) dX2_expand_23 (by decide) rfl ?_
    refine R_aload_n (pc := 25) 1 dX2_expand_25 rfl rfl ?_
    refine R_iload (pc := 26) 0 dX2_expand_26 rfl ?_
    refine R_bipush (pc := 28) (v := 6) dX2_expand_28 (by decide) ?_
    refine R_iadd (pc := 30) dX2_expand_30 ?_
    refine R_eqi (y := nI (6 + 6)) (nI_add 6 6) ?_
    refine R_put' (pc := 31) (fs' := [.ref (c + 1), .ref (c + 2), .ref (c + 3), .int (nI (6 + 6))]) dX2_expand_31 fX2_24 tX2_3 rfl rfl hc (by omega) (Nat.le_of_ble_eq_true rfl) rfl (fun h_3 f_4 g_5 => ?_)
    have R_6 := rowAt.move hR (g_5 r (by omega)) (g_5 (r + 1) (by omega))
    have f_7 := (g_5 (c + 1) (by omega)).trans hw
    have f_8 := (g_5 (c + 2) (by omega)).trans hk
    have f_9 := (g_5 (c + 3) (by omega)).trans hs
    refine R_iconst (pc := 34) (v := 4) dX2_expand_34 (by decide) ?_
    refine R_aload_n (pc := 35) 1 dX2_expand_35 rfl rfl ?_
    refine R_get (pc := 36) dX2_expand_36 fX2_24 f_4 (by omega) rfl ?_
    refine R_imul (pc := 39) dX2_expand_39 ?_
    refine R_eqi (y := nI (4 * (6 + 6))) (pk_mul 4 (6 + 6)) ?_
    refine R_iconst (pc := 40) (v := 4) dX2_expand_40 (by decide) ?_
    refine R_iadd (pc := 41) dX2_expand_41 ?_
    refine R_eqi (y := nI (4 * (6 + 6) + 4)) (nI_add (4 * (6 + 6)) 4) ?_
    refine R_aload_n (pc := 42) 1 dX2_expand_42 rfl rfl ?_
    refine R_get (pc := 43) dX2_expand_43 fX2_7 f_4 (by omega) rfl ?_
    refine R_alenI (pc := 46) dX2_expand_46 f_7 (by omega) ?_
    refine R_min (pc := 47) dX2_expand_47 lX2_28 sM_min nM cM_min (by decide) (Nat.le_of_ble_eq_true rfl) (by decide) (by decide) ?_
    refine R_eqi (y := nI (4 * (6 + 6) + 4)) (if_neg (by decide)) ?_
    refine R_istore (pc := 50) (lv' := [(5, .int (nI (4 * (6 + 6) + 4))), (4, .int (nI 6)), (0, .ref c), (1, .ref r), (2, .int (nI b)), (3, .int (nI (4 * 6)))]) dX2_expand_50 (by decide) rfl ?_
    refine R_iconst (pc := 52) (v := 0) dX2_expand_52 (by decide) ?_
    refine R_istore (pc := 53) (lv' := [(6, .int 0), (5, .int (nI (4 * (6 + 6) + 4))), (4, .int (nI 6)), (0, .ref c), (1, .ref r), (2, .int (nI b)), (3, .int (nI (4 * 6)))]) dX2_expand_53 (by decide) rfl ?_
    refine R_sub [0, 1, 3, 4, 5, 6, 2] rfl ?_
    exact qX2_expand_loop1 l w h n c hn r N L hrn hne b 6 hb (by omega) g wf lo hi _ 6 0 (by omega) _ R_6 f_4 f_7 f_8 f_9 (fun x n0_ _ => (fun x_ n0_ => (g_5 x_ n0_)) x n0_)
  · skip
    refine R_iload_n (pc := 0) 3 dX2_expand_0 rfl rfl ?_
    refine R_bipush (pc := 1) (v := 32) dX2_expand_1 (by decide) ?_
    refine R_icmp_ne (pc := 3) (tgt := 11) dX2_expand_3 (by decide) (fun c_1 => absurd (rfl) c_1) (fun c_1 => ?_)
    refine R_bipush (pc := 6) (v := 8) dX2_expand_6 (by decide) ?_
    refine R_eqi (y := nI 8) (rfl) ?_
    refine R_goto (pc := 8) (tgt := 23) dX2_expand_8 (by decide) ?_
    refine R_istore (pc := 23) (lv' := [(4, .int (nI 8)), (0, .ref c), (1, .ref r), (2, .int (nI b)), (3, .int (nI (4 * 8)))]) dX2_expand_23 (by decide) rfl ?_
    refine R_aload_n (pc := 25) 1 dX2_expand_25 rfl rfl ?_
    refine R_iload (pc := 26) 0 dX2_expand_26 rfl ?_
    refine R_bipush (pc := 28) (v := 6) dX2_expand_28 (by decide) ?_
    refine R_iadd (pc := 30) dX2_expand_30 ?_
    refine R_eqi (y := nI (8 + 6)) (nI_add 8 6) ?_
    refine R_put' (pc := 31) (fs' := [.ref (c + 1), .ref (c + 2), .ref (c + 3), .int (nI (8 + 6))]) dX2_expand_31 fX2_24 tX2_3 rfl rfl hc (by omega) (Nat.le_of_ble_eq_true rfl) rfl (fun h_2 f_3 g_4 => ?_)
    have R_5 := rowAt.move hR (g_4 r (by omega)) (g_4 (r + 1) (by omega))
    have f_6 := (g_4 (c + 1) (by omega)).trans hw
    have f_7 := (g_4 (c + 2) (by omega)).trans hk
    have f_8 := (g_4 (c + 3) (by omega)).trans hs
    refine R_iconst (pc := 34) (v := 4) dX2_expand_34 (by decide) ?_
    refine R_aload_n (pc := 35) 1 dX2_expand_35 rfl rfl ?_
    refine R_get (pc := 36) dX2_expand_36 fX2_24 f_3 (by omega) rfl ?_
    refine R_imul (pc := 39) dX2_expand_39 ?_
    refine R_eqi (y := nI (4 * (8 + 6))) (pk_mul 4 (8 + 6)) ?_
    refine R_iconst (pc := 40) (v := 4) dX2_expand_40 (by decide) ?_
    refine R_iadd (pc := 41) dX2_expand_41 ?_
    refine R_eqi (y := nI (4 * (8 + 6) + 4)) (nI_add (4 * (8 + 6)) 4) ?_
    refine R_aload_n (pc := 42) 1 dX2_expand_42 rfl rfl ?_
    refine R_get (pc := 43) dX2_expand_43 fX2_7 f_3 (by omega) rfl ?_
    refine R_alenI (pc := 46) dX2_expand_46 f_6 (by omega) ?_
    refine R_min (pc := 47) dX2_expand_47 lX2_28 sM_min nM cM_min (by decide) (Nat.le_of_ble_eq_true rfl) (by decide) (by decide) ?_
    refine R_eqi (y := nI (4 * (8 + 6) + 4)) (if_neg (by decide)) ?_
    refine R_istore (pc := 50) (lv' := [(5, .int (nI (4 * (8 + 6) + 4))), (4, .int (nI 8)), (0, .ref c), (1, .ref r), (2, .int (nI b)), (3, .int (nI (4 * 8)))]) dX2_expand_50 (by decide) rfl ?_
    refine R_iconst (pc := 52) (v := 0) dX2_expand_52 (by decide) ?_
    refine R_istore (pc := 53) (lv' := [(6, .int 0), (5, .int (nI (4 * (8 + 6) + 4))), (4, .int (nI 8)), (0, .ref c), (1, .ref r), (2, .int (nI b)), (3, .int (nI (4 * 8)))]) dX2_expand_53 (by decide) rfl ?_
    refine R_sub [0, 1, 3, 4, 5, 6, 2] rfl ?_
    exact qX2_expand_loop1 l w h n c hn r N L hrn hne b 8 hb (by omega) g wf lo hi _ 8 0 (by omega) _ R_5 f_3 f_6 f_7 f_8 (fun x n0_ _ => (fun x_ n0_ => (g_4 x_ n0_)) x n0_)
