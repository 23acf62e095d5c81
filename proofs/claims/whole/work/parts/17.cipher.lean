/-- a Cipher at c, its words, keys and slices behind it -/
def cipAt (h : am_H) (c : Nat) (wf : Nat → Int32) (g : Nat → Int64) (R : Nat) : Prop := h c = .inr (.inr (2, [.ref (c + 1), .ref (c + 2), .ref (c + 3), .int (nI R)])) ∧ h (c + 1) = .inl (60, wf) ∧ h (c + 2) = .inr (.inl (30, g)) ∧ ∃ lo hi, h (c + 3) = .inr (.inr (8, [.long lo, .long hi]))
theorem cipAt.move {h h' : am_H} {c : Nat} {wf : Nat → Int32} {g : Nat → Int64} {R : Nat} (hC : cipAt h c wf g R) (h0 : h' c = h c) (h1 : h' (c + 1) = h (c + 1)) (h2 : h' (c + 2) = h (c + 2)) (h3 : h' (c + 3) = h (c + 3)) : cipAt h' c wf g R := by
  obtain ⟨a, b, d, lo, hi, e⟩ := hC
  exact ⟨h0.trans a, h1.trans b, h2.trans d, lo, hi, h3.trans e⟩
def aK (g : Nat → Int64) (r : Nat) (q : Int64 × Int64) : Int64 × Int64 := (q.1 ^^^ g (2 * r), q.2 ^^^ g (2 * r + 1))
def bX (q : Int64 × Int64) : Int64 × Int64 := vX8_box q.1 q.2
def bB (q : Int64 × Int64) : Int64 × Int64 := vX8_boxBack q.1 q.2
def sR (q : Int64 × Int64) : Int64 × Int64 := vX8_shiftRows q.1 q.2
def sB (q : Int64 × Int64) : Int64 × Int64 := vX8_shiftRowsBack q.1 q.2
def mW (q : Int64 × Int64) : Int64 × Int64 := vX8_mixWords q.1 q.2
def eR (g : Nat → Int64) (q : Int64 × Int64) : Nat → Int64 × Int64
  | 0 => aK g 0 q
  | r + 1 => aK g (r + 1) (mW (sR (bX (eR g q r))))
def dR (g : Nat → Int64) (R : Nat) (q : Int64 × Int64) : Nat → Int64 × Int64
  | 0 => aK g R q
  | t + 1 => mW (mW (mW (aK g (R - 1 - t) (bB (sB (dR g R q t))))))
def jN (q : Int64 × Int64) : Int64 × Int64 := (vX8_joinFirst q.1 q.2, vX8_joinSecond q.1 q.2)
/-- E and D as the class makes them -/
def vE (g : Nat → Int64) (R : Nat) (hi lo : Int64) : Int64 × Int64 := jN (aK g R (sR (bX (eR g (vX8_split 0 0 hi lo) (R - 1)))))
def vD (g : Nat → Int64) (R : Nat) (hi lo : Int64) : Int64 × Int64 := jN (aK g 0 (bB (sB (dR g R (vX8_split 0 0 hi lo) (R - 1)))))
set_option maxHeartbeats 4000000 in
set_option maxRecDepth 100000 in
theorem qX2_encrypt_loop (l : Launch) (w : am_W) (h : am_H) (n c : Nat) (hn : 0 < c ∧ c + 3 ≤ n) (wf : Nat → Int32) (g : Nat → Int64) (R : Nat) (hR1 : 1 ≤ R) (hR2 : R ≤ 14) (b : Nat) (hi lo : Int64) (hbn : 0 < b ∧ b ≤ n) (hne : b ≠ c ∧ b ≠ c + 1 ∧ b ≠ c + 2 ∧ b ≠ c + 3) : ∀ (d t : Nat), t + 1 + d = R → ∀ h2, h2 c = .inr (.inr (2, [.ref (c + 1), .ref (c + 2), .ref (c + 3), .int (nI R)])) → h2 (c + 1) = .inl (60, wf) → h2 (c + 2) = .inr (.inl (30, g)) → h2 (c + 3) = .inr (.inr (8, [.long ((eR g (vX8_split 0 0 hi lo) t).1), .long ((eR g (vX8_split 0 0 hi lo) t).2)])) → h2 b = .inr (.inr (0, [.long hi, .long lo])) → (∀ x, x ≠ c + 3 → x ≠ b → h2 x = h x) → RW l w mX2_encrypt h2 n 0 0 29 [(2, .int (nI (t + 1))), (0, .ref c), (1, .ref b)] [] (fun h' n' r_ => n' = n ∧ (fun h' q => q = none ∧ h' b = .inr (.inr (0, [.long ((vE g R hi lo).1), .long ((vE g R hi lo).2)])) ∧ (∃ x y, h' (c + 3) = .inr (.inr (8, [.long x, .long y]))) ∧ ∀ x, x ≠ c + 3 → x ≠ b → h' x = h x) h' r_) := by
  intro d
  induction d with
  | zero =>
    intro t ht h2 hc hw hk hs hb hF
    refine R_iload_n (pc := 29) 0 dX2_encrypt_29 rfl rfl ?_
    refine R_aload_n (pc := 30) 1 dX2_encrypt_30 rfl rfl ?_
    refine R_get (pc := 31) dX2_encrypt_31 fX2_24 hc (by omega) rfl ?_
    refine R_icmp_ge (pc := 34) (tgt := 76) dX2_encrypt_34 (by decide) (fun c_1 => ?_) (fun c_1 => absurd (nI_le (by omega) (by omega)) c_1)
    refine R_aload_n (pc := 76) 1 dX2_encrypt_76 rfl rfl ?_
    refine R_get (pc := 77) dX2_encrypt_77 fX2_20 hc (by omega) rfl ?_
    refine R_callVh (pc := 80) (μ' := mX8_box) (As := []) (st := []) dX2_encrypt_80 zX8_box lX2_53 ⟨by decide, by decide⟩ rfl rfl ⟨by decide, by decide⟩ hs (by omega) rfl (Nat.le_of_ble_eq_true rfl) (qX8_box l w _ _ _ _ _ hs (by omega)) (fun h_4 r_ q_5 => ?_)
    obtain ⟨rfl, f_2, g_3⟩ := q_5
    obtain ⟨p_6, ep_6⟩ : ∃ y, y = vX8_box ((eR g (vX8_split 0 0 hi lo) t).1) ((eR g (vX8_split 0 0 hi lo) t).2) := ⟨_, rfl⟩
    rw [← ep_6] at f_2
    have f_7 := (g_3 c (by omega)).trans hc
    have f_8 := (g_3 (c + 1) (by omega)).trans hw
    have f_9 := (g_3 (c + 2) (by omega)).trans hk
    have f_10 := (g_3 b (by omega)).trans hb
    refine R_aload_n (pc := 83) 1 dX2_encrypt_83 rfl rfl ?_
    refine R_get (pc := 84) dX2_encrypt_84 fX2_20 f_7 (by omega) rfl ?_
    refine R_callVh (pc := 87) (μ' := mX8_shiftRows) (As := []) (st := []) dX2_encrypt_87 zX8_shiftRows lX2_78 ⟨by decide, by decide⟩ rfl rfl ⟨by decide, by decide⟩ f_2 (by omega) rfl (Nat.le_of_ble_eq_true rfl) (qX8_shiftRows l w _ _ _ _ _ f_2 (by omega)) (fun h_13 r_ q_14 => ?_)
    obtain ⟨rfl, f_11, g_12⟩ := q_14
    obtain ⟨p_15, ep_15⟩ : ∃ y, y = vX8_shiftRows p_6.1 p_6.2 := ⟨_, rfl⟩
    rw [← ep_15] at f_11
    have f_16 := (g_12 c (by omega)).trans f_7
    have f_17 := (g_12 (c + 1) (by omega)).trans f_8
    have f_18 := (g_12 (c + 2) (by omega)).trans f_9
    have f_19 := (g_12 b (by omega)).trans f_10
    refine R_aload_n (pc := 90) 1 dX2_encrypt_90 rfl rfl ?_
    refine R_get (pc := 91) dX2_encrypt_91 fX2_20 f_16 (by omega) rfl ?_
    refine R_aload_n (pc := 94) 1 dX2_encrypt_94 rfl rfl ?_
    refine R_get (pc := 95) dX2_encrypt_95 fX2_13 f_16 (by omega) rfl ?_
    refine R_aload_n (pc := 98) 1 dX2_encrypt_98 rfl rfl ?_
    refine R_get (pc := 99) dX2_encrypt_99 fX2_24 f_16 (by omega) rfl ?_
    refine R_callVh (pc := 102) (μ' := mX8_addKey) (As := [.ref (c + 2), .int (nI R)]) (st := []) dX2_encrypt_102 zX8_addKey lX2_74 ⟨by decide, by decide⟩ rfl rfl ⟨by decide, by decide⟩ f_11 (by omega) rfl (Nat.le_of_ble_eq_true rfl) (qX8_addKey l w _ _ _ _ _ _ _ f_11 (by omega) f_18 (by omega) (by omega) R (by omega)) (fun h_22 r_ q_23 => ?_)
    obtain ⟨rfl, f_20, g_21⟩ := q_23
    have f_24 := (g_21 c (by omega)).trans f_16
    have f_25 := (g_21 (c + 1) (by omega)).trans f_17
    have f_26 := (g_21 (c + 2) (by omega)).trans f_18
    have f_27 := (g_21 b (by omega)).trans f_19
    refine R_aload_n (pc := 105) 2 dX2_encrypt_105 rfl rfl ?_
    refine R_aload_n (pc := 106) 1 dX2_encrypt_106 rfl rfl ?_
    refine R_get (pc := 107) dX2_encrypt_107 fX2_20 f_24 (by omega) rfl ?_
    refine R_callVp (pc := 110) (μ' := mX8_joinFirst) (As := []) (st := [.ref b]) dX2_encrypt_110 zX8_joinFirst lX2_56 ⟨by decide, by decide⟩ rfl rfl ⟨by decide, by decide⟩ f_20 (by omega) rfl (Nat.le_of_ble_eq_true rfl) (qX8_joinFirst l w _ _ _ _ _ f_20 (by omega)) ?_
    refine R_aload_n (pc := 113) 1 dX2_encrypt_113 rfl rfl ?_
    refine R_get (pc := 114) dX2_encrypt_114 fX2_20 f_24 (by omega) rfl ?_
    refine R_callVp (pc := 117) (μ' := mX8_joinSecond) (As := []) (st := [.long (vX8_joinFirst (p_15.1 ^^^ g (2 * R)) (p_15.2 ^^^ g (2 * R + 1))), .ref b]) dX2_encrypt_117 zX8_joinSecond lX2_84 ⟨by decide, by decide⟩ rfl rfl ⟨by decide, by decide⟩ f_20 (by omega) rfl (Nat.le_of_ble_eq_true rfl) (qX8_joinSecond l w _ _ _ _ _ f_20 (by omega)) ?_
    refine R_callVh (pc := 120) (μ' := mX0_become) (As := [.long (vX8_joinFirst (p_15.1 ^^^ g (2 * R)) (p_15.2 ^^^ g (2 * R + 1))), .long (vX8_joinSecond (p_15.1 ^^^ g (2 * R)) (p_15.2 ^^^ g (2 * R + 1)))]) (st := []) dX2_encrypt_120 zX0_become lX2_87 ⟨by decide, by decide⟩ rfl rfl ⟨by decide, by decide⟩ f_27 (by omega) rfl (Nat.le_of_ble_eq_true rfl) (qX0_become l w _ _ _ _ _ _ _ f_27 (by omega)) (fun h_30 r_ q_31 => ?_)
    obtain ⟨rfl, f_28, g_29⟩ := q_31
    have f_32 := (g_29 c (by omega)).trans f_24
    have f_33 := (g_29 (c + 1) (by omega)).trans f_25
    have f_34 := (g_29 (c + 2) (by omega)).trans f_26
    have f_35 := (g_29 (c + 3) (by omega)).trans f_20
    refine R_vreturn (pc := 123) dX2_encrypt_123 rfl (by decide) (by decide) ⟨rfl, rfl, ?_, ⟨_, _, f_35⟩, (fun x n0_ n1_ => ((fun x_ n0_ n1_ => ((((g_29 x_ n1_).trans (g_21 x_ n0_)).trans (g_12 x_ n0_)).trans (g_3 x_ n0_))) x n0_ n1_).trans (hF x n0_ n1_))⟩
    rw [f_28]
    obtain rfl : t = R - 1 := by omega
    subst ep_15 ep_6; rfl
  | succ d ih =>
    intro t ht h2 hc hw hk hs hb hF
    refine R_iload_n (pc := 29) 0 dX2_encrypt_29 rfl rfl ?_
    refine R_aload_n (pc := 30) 1 dX2_encrypt_30 rfl rfl ?_
    refine R_get (pc := 31) dX2_encrypt_31 fX2_24 hc (by omega) rfl ?_
    refine R_icmp_ge (pc := 34) (tgt := 76) dX2_encrypt_34 (by decide) (fun c_1 => absurd c_1 (nI_ge (by omega) (by omega))) (fun c_1 => ?_)
    refine R_aload_n (pc := 37) 1 dX2_encrypt_37 rfl rfl ?_
    refine R_get (pc := 38) dX2_encrypt_38 fX2_20 hc (by omega) rfl ?_
    refine R_callVh (pc := 41) (μ' := mX8_box) (As := []) (st := []) dX2_encrypt_41 zX8_box lX2_53 ⟨by decide, by decide⟩ rfl rfl ⟨by decide, by decide⟩ hs (by omega) rfl (Nat.le_of_ble_eq_true rfl) (qX8_box l w _ _ _ _ _ hs (by omega)) (fun h_4 r_ q_5 => ?_)
    obtain ⟨rfl, f_2, g_3⟩ := q_5
    obtain ⟨p_6, ep_6⟩ : ∃ y, y = vX8_box ((eR g (vX8_split 0 0 hi lo) t).1) ((eR g (vX8_split 0 0 hi lo) t).2) := ⟨_, rfl⟩
    rw [← ep_6] at f_2
    have f_7 := (g_3 c (by omega)).trans hc
    have f_8 := (g_3 (c + 1) (by omega)).trans hw
    have f_9 := (g_3 (c + 2) (by omega)).trans hk
    have f_10 := (g_3 b (by omega)).trans hb
    refine R_aload_n (pc := 44) 1 dX2_encrypt_44 rfl rfl ?_
    refine R_get (pc := 45) dX2_encrypt_45 fX2_20 f_7 (by omega) rfl ?_
    refine R_callVh (pc := 48) (μ' := mX8_shiftRows) (As := []) (st := []) dX2_encrypt_48 zX8_shiftRows lX2_78 ⟨by decide, by decide⟩ rfl rfl ⟨by decide, by decide⟩ f_2 (by omega) rfl (Nat.le_of_ble_eq_true rfl) (qX8_shiftRows l w _ _ _ _ _ f_2 (by omega)) (fun h_13 r_ q_14 => ?_)
    obtain ⟨rfl, f_11, g_12⟩ := q_14
    obtain ⟨p_15, ep_15⟩ : ∃ y, y = vX8_shiftRows p_6.1 p_6.2 := ⟨_, rfl⟩
    rw [← ep_15] at f_11
    have f_16 := (g_12 c (by omega)).trans f_7
    have f_17 := (g_12 (c + 1) (by omega)).trans f_8
    have f_18 := (g_12 (c + 2) (by omega)).trans f_9
    have f_19 := (g_12 b (by omega)).trans f_10
    refine R_aload_n (pc := 51) 1 dX2_encrypt_51 rfl rfl ?_
    refine R_get (pc := 52) dX2_encrypt_52 fX2_20 f_16 (by omega) rfl ?_
    refine R_callVh (pc := 55) (μ' := mX8_mixWords) (As := []) (st := []) dX2_encrypt_55 zX8_mixWords lX2_81 ⟨by decide, by decide⟩ rfl rfl ⟨by decide, by decide⟩ f_11 (by omega) rfl (Nat.le_of_ble_eq_true rfl) (qX8_mixWords l w _ _ _ _ _ f_11 (by omega)) (fun h_22 r_ q_23 => ?_)
    obtain ⟨rfl, f_20, g_21⟩ := q_23
    obtain ⟨p_24, ep_24⟩ : ∃ y, y = vX8_mixWords p_15.1 p_15.2 := ⟨_, rfl⟩
    rw [← ep_24] at f_20
    have f_25 := (g_21 c (by omega)).trans f_16
    have f_26 := (g_21 (c + 1) (by omega)).trans f_17
    have f_27 := (g_21 (c + 2) (by omega)).trans f_18
    have f_28 := (g_21 b (by omega)).trans f_19
    refine R_aload_n (pc := 58) 1 dX2_encrypt_58 rfl rfl ?_
    refine R_get (pc := 59) dX2_encrypt_59 fX2_20 f_25 (by omega) rfl ?_
    refine R_aload_n (pc := 62) 1 dX2_encrypt_62 rfl rfl ?_
    refine R_get (pc := 63) dX2_encrypt_63 fX2_13 f_25 (by omega) rfl ?_
    refine R_iload_n (pc := 66) 0 dX2_encrypt_66 rfl rfl ?_
    refine R_callVh (pc := 67) (μ' := mX8_addKey) (As := [.ref (c + 2), .int (nI (t + 1))]) (st := []) dX2_encrypt_67 zX8_addKey lX2_74 ⟨by decide, by decide⟩ rfl rfl ⟨by decide, by decide⟩ f_20 (by omega) rfl (Nat.le_of_ble_eq_true rfl) (qX8_addKey l w _ _ _ _ _ _ _ f_20 (by omega) f_27 (by omega) (by omega) (t + 1) (by omega)) (fun h_31 r_ q_32 => ?_)
    obtain ⟨rfl, f_29, g_30⟩ := q_32
    have f_33 := (g_30 c (by omega)).trans f_25
    have f_34 := (g_30 (c + 1) (by omega)).trans f_26
    have f_35 := (g_30 (c + 2) (by omega)).trans f_27
    have f_36 := (g_30 b (by omega)).trans f_28
    refine R_iinc (pc := 70) (j := 0) (v := nI (t + 1 + 1)) (lv' := [(2, .int (nI (t + 1 + 1))), (0, .ref c), (1, .ref b)]) dX2_encrypt_70 rfl (nI_1 (t + 1)) (by decide) rfl ?_
    refine R_goto (pc := 73) (tgt := 29) dX2_encrypt_73 (by decide) ?_
    refine R_sub [0, 1, 2] rfl ?_
    exact ih (t + 1) (by omega) _ f_33 f_34 f_35 (f_29.trans (by subst ep_24 ep_15 ep_6; rfl)) f_36 (fun x n0_ n1_ => ((fun x_ n0_ => ((((g_30 x_ n0_).trans (g_21 x_ n0_)).trans (g_12 x_ n0_)).trans (g_3 x_ n0_))) x n0_).trans (hF x n0_ n1_))
set_option maxHeartbeats 4000000 in
set_option maxRecDepth 100000 in
theorem qX2_encrypt (l : Launch) (w : am_W) (h : am_H) (n c : Nat) (hn : 0 < c ∧ c + 3 ≤ n) (wf : Nat → Int32) (g : Nat → Int64) (R : Nat) (hR1 : 1 ≤ R) (hR2 : R ≤ 14) (b : Nat) (hi lo : Int64) (hbn : 0 < b ∧ b ≤ n) (hne : b ≠ c ∧ b ≠ c + 1 ∧ b ≠ c + 2 ∧ b ≠ c + 3) (hC : cipAt h c wf g R) (hb : h b = .inr (.inr (0, [.long hi, .long lo]))) : RH l w mX2_encrypt h n [.ref c, .ref b] (fun h' q => q = none ∧ h' b = .inr (.inr (0, [.long ((vE g R hi lo).1), .long ((vE g R hi lo).2)])) ∧ (∃ x y, h' (c + 3) = .inr (.inr (8, [.long x, .long y]))) ∧ ∀ x, x ≠ c + 3 → x ≠ b → h' x = h x) := by
  obtain ⟨hc, hw, hk, lo0, hi0, hs⟩ := hC
  refine RC.of [(0, .ref c), (1, .ref b)] (by decide +kernel) rfl (Nat.le_of_ble_eq_true rfl) ?_
  refine R_aload_n (pc := 0) 0 dX2_encrypt_0 rfl rfl ?_
  refine R_get (pc := 1) dX2_encrypt_1 fX2_20 hc (by omega) rfl ?_
  refine R_aload_n (pc := 4) 1 dX2_encrypt_4 rfl rfl ?_
  refine R_get (pc := 5) dX2_encrypt_5 fX2_70 hb (by omega) rfl ?_
  refine R_aload_n (pc := 8) 1 dX2_encrypt_8 rfl rfl ?_
  refine R_get (pc := 9) dX2_encrypt_9 fX2_73 hb (by omega) rfl ?_
  refine R_callVh (pc := 12) (μ' := mX8_split) (As := [.long hi, .long lo]) (st := []) dX2_encrypt_12 zX8_split lX2_49 ⟨by decide, by decide⟩ rfl rfl ⟨by decide, by decide⟩ hs (by omega) rfl (Nat.le_of_ble_eq_true rfl) (qX8_split l w _ _ _ _ _ _ _ hs (by omega)) (fun h_3 r_ q_4 => ?_)
  obtain ⟨rfl, f_1, g_2⟩ := q_4
  obtain ⟨p_5, ep_5⟩ : ∃ y, y = vX8_split lo0 hi0 hi lo := ⟨_, rfl⟩
  rw [← ep_5] at f_1
  have f_6 := (g_2 c (by omega)).trans hc
  have f_7 := (g_2 (c + 1) (by omega)).trans hw
  have f_8 := (g_2 (c + 2) (by omega)).trans hk
  have f_9 := (g_2 b (by omega)).trans hb
  refine R_aload_n (pc := 15) 0 dX2_encrypt_15 rfl rfl ?_
  refine R_get (pc := 16) dX2_encrypt_16 fX2_20 f_6 (by omega) rfl ?_
  refine R_aload_n (pc := 19) 0 dX2_encrypt_19 rfl rfl ?_
  refine R_get (pc := 20) dX2_encrypt_20 fX2_13 f_6 (by omega) rfl ?_
  refine R_iconst (pc := 23) (v := 0) dX2_encrypt_23 (by decide) ?_
  refine R_callVh (pc := 24) (μ' := mX8_addKey) (As := [.ref (c + 2), .int (nI 0)]) (st := []) dX2_encrypt_24 zX8_addKey lX2_74 ⟨by decide, by decide⟩ rfl rfl ⟨by decide, by decide⟩ f_1 (by omega) rfl (Nat.le_of_ble_eq_true rfl) (qX8_addKey l w _ _ _ _ _ _ _ f_1 (by omega) f_8 (by omega) (by omega) 0 (by omega)) (fun h_12 r_ q_13 => ?_)
  obtain ⟨rfl, f_10, g_11⟩ := q_13
  have f_14 := (g_11 c (by omega)).trans f_6
  have f_15 := (g_11 (c + 1) (by omega)).trans f_7
  have f_16 := (g_11 (c + 2) (by omega)).trans f_8
  have f_17 := (g_11 b (by omega)).trans f_9
  refine R_iconst (pc := 27) (v := 1) dX2_encrypt_27 (by decide) ?_
  refine R_istore_n (pc := 28) (lv' := [(2, .int 1), (0, .ref c), (1, .ref b)]) dX2_encrypt_28 rfl (by decide) rfl ?_
  refine R_sub [0, 1, 2] rfl ?_
  exact qX2_encrypt_loop l w h n c hn wf g R hR1 hR2 b hi lo hbn hne (R - 1) 0 (by omega) _ f_14 f_15 f_16 (f_10.trans (by subst ep_5; rfl)) f_17 (fun x n0_ _ => (fun x_ n0_ => ((g_11 x_ n0_).trans (g_2 x_ n0_))) x n0_)
set_option maxHeartbeats 4000000 in
set_option maxRecDepth 100000 in
theorem qX2_decrypt_loop (l : Launch) (w : am_W) (h : am_H) (n c : Nat) (hn : 0 < c ∧ c + 3 ≤ n) (wf : Nat → Int32) (g : Nat → Int64) (R : Nat) (hR1 : 1 ≤ R) (hR2 : R ≤ 14) (b : Nat) (hi lo : Int64) (hbn : 0 < b ∧ b ≤ n) (hne : b ≠ c ∧ b ≠ c + 1 ∧ b ≠ c + 2 ∧ b ≠ c + 3) : ∀ (r t : Nat), r + t + 1 = R → ∀ h2, h2 c = .inr (.inr (2, [.ref (c + 1), .ref (c + 2), .ref (c + 3), .int (nI R)])) → h2 (c + 1) = .inl (60, wf) → h2 (c + 2) = .inr (.inl (30, g)) → h2 (c + 3) = .inr (.inr (8, [.long ((dR g R (vX8_split 0 0 hi lo) t).1), .long ((dR g R (vX8_split 0 0 hi lo) t).2)])) → h2 b = .inr (.inr (0, [.long hi, .long lo])) → (∀ x, x ≠ c + 3 → x ≠ b → h2 x = h x) → RW l w mX2_decrypt h2 n 0 0 37 [(2, .int (nI r)), (0, .ref c), (1, .ref b)] [] (fun h' n' r_ => n' = n ∧ (fun h' q => q = none ∧ h' b = .inr (.inr (0, [.long ((vD g R hi lo).1), .long ((vD g R hi lo).2)])) ∧ (∃ x y, h' (c + 3) = .inr (.inr (8, [.long x, .long y]))) ∧ ∀ x, x ≠ c + 3 → x ≠ b → h' x = h x) h' r_) := by
  intro r
  induction r with
  | zero =>
    intro t ht h2 hc hw hk hs hb hF
    refine R_iload_n (pc := 37) 0 dX2_decrypt_37 rfl rfl ?_
    refine R_if_le (pc := 38) (tgt := 94) dX2_decrypt_38 (by decide) (fun c_1 => ?_) (fun c_1 => absurd (by rw [nI_0]; exact Int32.le_refl 0) c_1)
    refine R_aload_n (pc := 94) 1 dX2_decrypt_94 rfl rfl ?_
    refine R_get (pc := 95) dX2_decrypt_95 fX2_20 hc (by omega) rfl ?_
    refine R_callVh (pc := 98) (μ' := mX8_shiftRowsBack) (As := []) (st := []) dX2_decrypt_98 zX8_shiftRowsBack lX2_90 ⟨by decide, by decide⟩ rfl rfl ⟨by decide, by decide⟩ hs (by omega) rfl (Nat.le_of_ble_eq_true rfl) (qX8_shiftRowsBack l w _ _ _ _ _ hs (by omega)) (fun h_4 r_ q_5 => ?_)
    obtain ⟨rfl, f_2, g_3⟩ := q_5
    obtain ⟨p_6, ep_6⟩ : ∃ y, y = vX8_shiftRowsBack ((dR g R (vX8_split 0 0 hi lo) t).1) ((dR g R (vX8_split 0 0 hi lo) t).2) := ⟨_, rfl⟩
    rw [← ep_6] at f_2
    have f_7 := (g_3 c (by omega)).trans hc
    have f_8 := (g_3 (c + 1) (by omega)).trans hw
    have f_9 := (g_3 (c + 2) (by omega)).trans hk
    have f_10 := (g_3 b (by omega)).trans hb
    refine R_aload_n (pc := 101) 1 dX2_decrypt_101 rfl rfl ?_
    refine R_get (pc := 102) dX2_decrypt_102 fX2_20 f_7 (by omega) rfl ?_
    refine R_callVh (pc := 105) (μ' := mX8_boxBack) (As := []) (st := []) dX2_decrypt_105 zX8_boxBack lX2_93 ⟨by decide, by decide⟩ rfl rfl ⟨by decide, by decide⟩ f_2 (by omega) rfl (Nat.le_of_ble_eq_true rfl) (qX8_boxBack l w _ _ _ _ _ f_2 (by omega)) (fun h_13 r_ q_14 => ?_)
    obtain ⟨rfl, f_11, g_12⟩ := q_14
    obtain ⟨p_15, ep_15⟩ : ∃ y, y = vX8_boxBack p_6.1 p_6.2 := ⟨_, rfl⟩
    rw [← ep_15] at f_11
    have f_16 := (g_12 c (by omega)).trans f_7
    have f_17 := (g_12 (c + 1) (by omega)).trans f_8
    have f_18 := (g_12 (c + 2) (by omega)).trans f_9
    have f_19 := (g_12 b (by omega)).trans f_10
    refine R_aload_n (pc := 108) 1 dX2_decrypt_108 rfl rfl ?_
    refine R_get (pc := 109) dX2_decrypt_109 fX2_20 f_16 (by omega) rfl ?_
    refine R_aload_n (pc := 112) 1 dX2_decrypt_112 rfl rfl ?_
    refine R_get (pc := 113) dX2_decrypt_113 fX2_13 f_16 (by omega) rfl ?_
    refine R_iconst (pc := 116) (v := 0) dX2_decrypt_116 (by decide) ?_
    refine R_callVh (pc := 117) (μ' := mX8_addKey) (As := [.ref (c + 2), .int (nI 0)]) (st := []) dX2_decrypt_117 zX8_addKey lX2_74 ⟨by decide, by decide⟩ rfl rfl ⟨by decide, by decide⟩ f_11 (by omega) rfl (Nat.le_of_ble_eq_true rfl) (qX8_addKey l w _ _ _ _ _ _ _ f_11 (by omega) f_18 (by omega) (by omega) 0 (by omega)) (fun h_22 r_ q_23 => ?_)
    obtain ⟨rfl, f_20, g_21⟩ := q_23
    have f_24 := (g_21 c (by omega)).trans f_16
    have f_25 := (g_21 (c + 1) (by omega)).trans f_17
    have f_26 := (g_21 (c + 2) (by omega)).trans f_18
    have f_27 := (g_21 b (by omega)).trans f_19
    refine R_aload_n (pc := 120) 2 dX2_decrypt_120 rfl rfl ?_
    refine R_aload_n (pc := 121) 1 dX2_decrypt_121 rfl rfl ?_
    refine R_get (pc := 122) dX2_decrypt_122 fX2_20 f_24 (by omega) rfl ?_
    refine R_callVp (pc := 125) (μ' := mX8_joinFirst) (As := []) (st := [.ref b]) dX2_decrypt_125 zX8_joinFirst lX2_56 ⟨by decide, by decide⟩ rfl rfl ⟨by decide, by decide⟩ f_20 (by omega) rfl (Nat.le_of_ble_eq_true rfl) (qX8_joinFirst l w _ _ _ _ _ f_20 (by omega)) ?_
    refine R_aload_n (pc := 128) 1 dX2_decrypt_128 rfl rfl ?_
    refine R_get (pc := 129) dX2_decrypt_129 fX2_20 f_24 (by omega) rfl ?_
    refine R_callVp (pc := 132) (μ' := mX8_joinSecond) (As := []) (st := [.long (vX8_joinFirst (p_15.1 ^^^ g (2 * 0)) (p_15.2 ^^^ g (2 * 0 + 1))), .ref b]) dX2_decrypt_132 zX8_joinSecond lX2_84 ⟨by decide, by decide⟩ rfl rfl ⟨by decide, by decide⟩ f_20 (by omega) rfl (Nat.le_of_ble_eq_true rfl) (qX8_joinSecond l w _ _ _ _ _ f_20 (by omega)) ?_
    refine R_callVh (pc := 135) (μ' := mX0_become) (As := [.long (vX8_joinFirst (p_15.1 ^^^ g (2 * 0)) (p_15.2 ^^^ g (2 * 0 + 1))), .long (vX8_joinSecond (p_15.1 ^^^ g (2 * 0)) (p_15.2 ^^^ g (2 * 0 + 1)))]) (st := []) dX2_decrypt_135 zX0_become lX2_87 ⟨by decide, by decide⟩ rfl rfl ⟨by decide, by decide⟩ f_27 (by omega) rfl (Nat.le_of_ble_eq_true rfl) (qX0_become l w _ _ _ _ _ _ _ f_27 (by omega)) (fun h_30 r_ q_31 => ?_)
    obtain ⟨rfl, f_28, g_29⟩ := q_31
    have f_32 := (g_29 c (by omega)).trans f_24
    have f_33 := (g_29 (c + 1) (by omega)).trans f_25
    have f_34 := (g_29 (c + 2) (by omega)).trans f_26
    have f_35 := (g_29 (c + 3) (by omega)).trans f_20
    refine R_vreturn (pc := 138) dX2_decrypt_138 rfl (by decide) (by decide) ⟨rfl, rfl, ?_, ⟨_, _, f_35⟩, (fun x n0_ n1_ => ((fun x_ n0_ n1_ => ((((g_29 x_ n1_).trans (g_21 x_ n0_)).trans (g_12 x_ n0_)).trans (g_3 x_ n0_))) x n0_ n1_).trans (hF x n0_ n1_))⟩
    rw [f_28]
    obtain rfl : t = R - 1 := by omega
    subst ep_15 ep_6; rfl
  | succ r ih =>
    intro t ht h2 hc hw hk hs hb hF
    refine R_iload_n (pc := 37) 0 dX2_decrypt_37 rfl rfl ?_
    refine R_if_le (pc := 38) (tgt := 94) dX2_decrypt_38 (by decide) (fun c_1 => absurd c_1 (nI_nle (by omega) (by omega))) (fun c_1 => ?_)
    refine R_aload_n (pc := 41) 1 dX2_decrypt_41 rfl rfl ?_
    refine R_get (pc := 42) dX2_decrypt_42 fX2_20 hc (by omega) rfl ?_
    refine R_callVh (pc := 45) (μ' := mX8_shiftRowsBack) (As := []) (st := []) dX2_decrypt_45 zX8_shiftRowsBack lX2_90 ⟨by decide, by decide⟩ rfl rfl ⟨by decide, by decide⟩ hs (by omega) rfl (Nat.le_of_ble_eq_true rfl) (qX8_shiftRowsBack l w _ _ _ _ _ hs (by omega)) (fun h_4 r_ q_5 => ?_)
    obtain ⟨rfl, f_2, g_3⟩ := q_5
    obtain ⟨p_6, ep_6⟩ : ∃ y, y = vX8_shiftRowsBack ((dR g R (vX8_split 0 0 hi lo) t).1) ((dR g R (vX8_split 0 0 hi lo) t).2) := ⟨_, rfl⟩
    rw [← ep_6] at f_2
    have f_7 := (g_3 c (by omega)).trans hc
    have f_8 := (g_3 (c + 1) (by omega)).trans hw
    have f_9 := (g_3 (c + 2) (by omega)).trans hk
    have f_10 := (g_3 b (by omega)).trans hb
    refine R_aload_n (pc := 48) 1 dX2_decrypt_48 rfl rfl ?_
    refine R_get (pc := 49) dX2_decrypt_49 fX2_20 f_7 (by omega) rfl ?_
    refine R_callVh (pc := 52) (μ' := mX8_boxBack) (As := []) (st := []) dX2_decrypt_52 zX8_boxBack lX2_93 ⟨by decide, by decide⟩ rfl rfl ⟨by decide, by decide⟩ f_2 (by omega) rfl (Nat.le_of_ble_eq_true rfl) (qX8_boxBack l w _ _ _ _ _ f_2 (by omega)) (fun h_13 r_ q_14 => ?_)
    obtain ⟨rfl, f_11, g_12⟩ := q_14
    obtain ⟨p_15, ep_15⟩ : ∃ y, y = vX8_boxBack p_6.1 p_6.2 := ⟨_, rfl⟩
    rw [← ep_15] at f_11
    have f_16 := (g_12 c (by omega)).trans f_7
    have f_17 := (g_12 (c + 1) (by omega)).trans f_8
    have f_18 := (g_12 (c + 2) (by omega)).trans f_9
    have f_19 := (g_12 b (by omega)).trans f_10
    refine R_aload_n (pc := 55) 1 dX2_decrypt_55 rfl rfl ?_
    refine R_get (pc := 56) dX2_decrypt_56 fX2_20 f_16 (by omega) rfl ?_
    refine R_aload_n (pc := 59) 1 dX2_decrypt_59 rfl rfl ?_
    refine R_get (pc := 60) dX2_decrypt_60 fX2_13 f_16 (by omega) rfl ?_
    refine R_iload_n (pc := 63) 0 dX2_decrypt_63 rfl rfl ?_
    refine R_callVh (pc := 64) (μ' := mX8_addKey) (As := [.ref (c + 2), .int (nI (r + 1))]) (st := []) dX2_decrypt_64 zX8_addKey lX2_74 ⟨by decide, by decide⟩ rfl rfl ⟨by decide, by decide⟩ f_11 (by omega) rfl (Nat.le_of_ble_eq_true rfl) (qX8_addKey l w _ _ _ _ _ _ _ f_11 (by omega) f_18 (by omega) (by omega) (r + 1) (by omega)) (fun h_22 r_ q_23 => ?_)
    obtain ⟨rfl, f_20, g_21⟩ := q_23
    have f_24 := (g_21 c (by omega)).trans f_16
    have f_25 := (g_21 (c + 1) (by omega)).trans f_17
    have f_26 := (g_21 (c + 2) (by omega)).trans f_18
    have f_27 := (g_21 b (by omega)).trans f_19
    refine R_aload_n (pc := 67) 1 dX2_decrypt_67 rfl rfl ?_
    refine R_get (pc := 68) dX2_decrypt_68 fX2_20 f_24 (by omega) rfl ?_
    refine R_callVh (pc := 71) (μ' := mX8_mixWords) (As := []) (st := []) dX2_decrypt_71 zX8_mixWords lX2_81 ⟨by decide, by decide⟩ rfl rfl ⟨by decide, by decide⟩ f_20 (by omega) rfl (Nat.le_of_ble_eq_true rfl) (qX8_mixWords l w _ _ _ _ _ f_20 (by omega)) (fun h_30 r_ q_31 => ?_)
    obtain ⟨rfl, f_28, g_29⟩ := q_31
    obtain ⟨p_32, ep_32⟩ : ∃ y, y = vX8_mixWords (p_15.1 ^^^ g (2 * (r + 1))) (p_15.2 ^^^ g (2 * (r + 1) + 1)) := ⟨_, rfl⟩
    rw [← ep_32] at f_28
    have f_33 := (g_29 c (by omega)).trans f_24
    have f_34 := (g_29 (c + 1) (by omega)).trans f_25
    have f_35 := (g_29 (c + 2) (by omega)).trans f_26
    have f_36 := (g_29 b (by omega)).trans f_27
    refine R_aload_n (pc := 74) 1 dX2_decrypt_74 rfl rfl ?_
    refine R_get (pc := 75) dX2_decrypt_75 fX2_20 f_33 (by omega) rfl ?_
    refine R_callVh (pc := 78) (μ' := mX8_mixWords) (As := []) (st := []) dX2_decrypt_78 zX8_mixWords lX2_81 ⟨by decide, by decide⟩ rfl rfl ⟨by decide, by decide⟩ f_28 (by omega) rfl (Nat.le_of_ble_eq_true rfl) (qX8_mixWords l w _ _ _ _ _ f_28 (by omega)) (fun h_39 r_ q_40 => ?_)
    obtain ⟨rfl, f_37, g_38⟩ := q_40
    obtain ⟨p_41, ep_41⟩ : ∃ y, y = vX8_mixWords p_32.1 p_32.2 := ⟨_, rfl⟩
    rw [← ep_41] at f_37
    have f_42 := (g_38 c (by omega)).trans f_33
    have f_43 := (g_38 (c + 1) (by omega)).trans f_34
    have f_44 := (g_38 (c + 2) (by omega)).trans f_35
    have f_45 := (g_38 b (by omega)).trans f_36
    refine R_aload_n (pc := 81) 1 dX2_decrypt_81 rfl rfl ?_
    refine R_get (pc := 82) dX2_decrypt_82 fX2_20 f_42 (by omega) rfl ?_
    refine R_callVh (pc := 85) (μ' := mX8_mixWords) (As := []) (st := []) dX2_decrypt_85 zX8_mixWords lX2_81 ⟨by decide, by decide⟩ rfl rfl ⟨by decide, by decide⟩ f_37 (by omega) rfl (Nat.le_of_ble_eq_true rfl) (qX8_mixWords l w _ _ _ _ _ f_37 (by omega)) (fun h_48 r_ q_49 => ?_)
    obtain ⟨rfl, f_46, g_47⟩ := q_49
    obtain ⟨p_50, ep_50⟩ : ∃ y, y = vX8_mixWords p_41.1 p_41.2 := ⟨_, rfl⟩
    rw [← ep_50] at f_46
    have f_51 := (g_47 c (by omega)).trans f_42
    have f_52 := (g_47 (c + 1) (by omega)).trans f_43
    have f_53 := (g_47 (c + 2) (by omega)).trans f_44
    have f_54 := (g_47 b (by omega)).trans f_45
    refine R_iinc (pc := 88) (j := 0) (v := nI r) (lv' := [(2, .int (nI r)), (0, .ref c), (1, .ref b)]) dX2_decrypt_88 rfl (pk_m1 r) (by decide) rfl ?_
    refine R_goto (pc := 91) (tgt := 37) dX2_decrypt_91 (by decide) ?_
    refine R_sub [0, 1, 2] rfl ?_
    exact ih (t + 1) (by omega) _ f_51 f_52 f_53 (f_46.trans (by subst ep_50 ep_41 ep_32 ep_15 ep_6; rw [show r + 1 = R - 1 - t by omega]; rfl)) f_54 (fun x n0_ n1_ => ((fun x_ n0_ => ((((((g_47 x_ n0_).trans (g_38 x_ n0_)).trans (g_29 x_ n0_)).trans (g_21 x_ n0_)).trans (g_12 x_ n0_)).trans (g_3 x_ n0_))) x n0_).trans (hF x n0_ n1_))
set_option maxHeartbeats 4000000 in
set_option maxRecDepth 100000 in
theorem qX2_decrypt (l : Launch) (w : am_W) (h : am_H) (n c : Nat) (hn : 0 < c ∧ c + 3 ≤ n) (wf : Nat → Int32) (g : Nat → Int64) (R : Nat) (hR1 : 1 ≤ R) (hR2 : R ≤ 14) (b : Nat) (hi lo : Int64) (hbn : 0 < b ∧ b ≤ n) (hne : b ≠ c ∧ b ≠ c + 1 ∧ b ≠ c + 2 ∧ b ≠ c + 3) (hC : cipAt h c wf g R) (hb : h b = .inr (.inr (0, [.long hi, .long lo]))) : RH l w mX2_decrypt h n [.ref c, .ref b] (fun h' q => q = none ∧ h' b = .inr (.inr (0, [.long ((vD g R hi lo).1), .long ((vD g R hi lo).2)])) ∧ (∃ x y, h' (c + 3) = .inr (.inr (8, [.long x, .long y]))) ∧ ∀ x, x ≠ c + 3 → x ≠ b → h' x = h x) := by
  obtain ⟨hc, hw, hk, lo0, hi0, hs⟩ := hC
  refine RC.of [(0, .ref c), (1, .ref b)] (by decide +kernel) rfl (Nat.le_of_ble_eq_true rfl) ?_
  refine R_aload_n (pc := 0) 0 dX2_decrypt_0 rfl rfl ?_
  refine R_get (pc := 1) dX2_decrypt_1 fX2_20 hc (by omega) rfl ?_
  refine R_aload_n (pc := 4) 1 dX2_decrypt_4 rfl rfl ?_
  refine R_get (pc := 5) dX2_decrypt_5 fX2_70 hb (by omega) rfl ?_
  refine R_aload_n (pc := 8) 1 dX2_decrypt_8 rfl rfl ?_
  refine R_get (pc := 9) dX2_decrypt_9 fX2_73 hb (by omega) rfl ?_
  refine R_callVh (pc := 12) (μ' := mX8_split) (As := [.long hi, .long lo]) (st := []) dX2_decrypt_12 zX8_split lX2_49 ⟨by decide, by decide⟩ rfl rfl ⟨by decide, by decide⟩ hs (by omega) rfl (Nat.le_of_ble_eq_true rfl) (qX8_split l w _ _ _ _ _ _ _ hs (by omega)) (fun h_3 r_ q_4 => ?_)
  obtain ⟨rfl, f_1, g_2⟩ := q_4
  obtain ⟨p_5, ep_5⟩ : ∃ y, y = vX8_split lo0 hi0 hi lo := ⟨_, rfl⟩
  rw [← ep_5] at f_1
  have f_6 := (g_2 c (by omega)).trans hc
  have f_7 := (g_2 (c + 1) (by omega)).trans hw
  have f_8 := (g_2 (c + 2) (by omega)).trans hk
  have f_9 := (g_2 b (by omega)).trans hb
  refine R_aload_n (pc := 15) 0 dX2_decrypt_15 rfl rfl ?_
  refine R_get (pc := 16) dX2_decrypt_16 fX2_20 f_6 (by omega) rfl ?_
  refine R_aload_n (pc := 19) 0 dX2_decrypt_19 rfl rfl ?_
  refine R_get (pc := 20) dX2_decrypt_20 fX2_13 f_6 (by omega) rfl ?_
  refine R_aload_n (pc := 23) 0 dX2_decrypt_23 rfl rfl ?_
  refine R_get (pc := 24) dX2_decrypt_24 fX2_24 f_6 (by omega) rfl ?_
  refine R_callVh (pc := 27) (μ' := mX8_addKey) (As := [.ref (c + 2), .int (nI R)]) (st := []) dX2_decrypt_27 zX8_addKey lX2_74 ⟨by decide, by decide⟩ rfl rfl ⟨by decide, by decide⟩ f_1 (by omega) rfl (Nat.le_of_ble_eq_true rfl) (qX8_addKey l w _ _ _ _ _ _ _ f_1 (by omega) f_8 (by omega) (by omega) R (by omega)) (fun h_12 r_ q_13 => ?_)
  obtain ⟨rfl, f_10, g_11⟩ := q_13
  have f_14 := (g_11 c (by omega)).trans f_6
  have f_15 := (g_11 (c + 1) (by omega)).trans f_7
  have f_16 := (g_11 (c + 2) (by omega)).trans f_8
  have f_17 := (g_11 b (by omega)).trans f_9
  refine R_aload_n (pc := 30) 0 dX2_decrypt_30 rfl rfl ?_
  refine R_get (pc := 31) dX2_decrypt_31 fX2_24 f_14 (by omega) rfl ?_
  refine R_iconst (pc := 34) (v := 1) dX2_decrypt_34 (by decide) ?_
  refine R_isub (pc := 35) dX2_decrypt_35 ?_
  refine R_eqi (y := nI (R - 1)) (pk_sub (b := 1) hR1) ?_
  refine R_istore_n (pc := 36) (lv' := [(2, .int (nI (R - 1))), (0, .ref c), (1, .ref b)]) dX2_decrypt_36 rfl (by decide) rfl ?_
  refine R_sub [0, 1, 2] rfl ?_
  exact qX2_decrypt_loop l w h n c hn wf g R hR1 hR2 b hi lo hbn hne (R - 1) 0 (by omega) _ f_14 f_15 f_16 (f_10.trans (by subst ep_5; rfl)) f_17 (fun x n0_ _ => (fun x_ n0_ => ((g_11 x_ n0_).trans (g_2 x_ n0_))) x n0_)
