theorem am_lt {a b : Nat} (ha : a < 2 ^ 31) (hb : b < 2 ^ 31) (h : ¬ nI a ≤ nI b) : b < a := by
  rw [nI_leI ha hb] at h
  omega
set_option maxHeartbeats 4000000 in
set_option maxRecDepth 100000 in
theorem qX6_eightAt_loop (l : Launch) (w : am_W) (h : am_H) (n r N : Nat) (L : List (BitVec 8)) (hR : rowAt h r N L) (hn : 0 < r ∧ r + 1 ≤ n) (j : Nat) (hj : j + 8 < 2 ^ 31) : ∀ (d t : Nat), t + d = 8 → RW l w mX6_eightAt h n 0 0 5 [(4, .int (nI (j + t))), (2, .long (e8p L j t)), (0, .ref r), (1, .int (nI j))] [] (fun h' n' r_ => h' = h ∧ n' = n ∧ r_ = some (.long (e8 L j))) := by
  obtain ⟨hLN, hN, hr, f, ha, hf⟩ := id hR
  intro d
  induction d with
  | zero =>
    intro t ht
    refine R_iload (pc := 5) 0 dX6_eightAt_5 rfl ?_
    refine R_iload_n (pc := 7) 3 dX6_eightAt_7 rfl rfl ?_
    refine R_bipush (pc := 8) (v := 8) dX6_eightAt_8 (by decide) ?_
    refine R_iadd (pc := 10) dX6_eightAt_10 ?_
    refine R_eqi (y := nI (j + 8)) (nI_add j 8) ?_
    refine R_icmp_ge (pc := 11) (tgt := 62) dX6_eightAt_11 (by decide) (fun c_1 => ?_) (fun c_1 => absurd ((nI_le (by omega) (by omega))) c_1)
    refine R_lload_n (pc := 62) 1 dX6_eightAt_62 rfl rfl ?_
    exact R_lreturn (pc := 63) dX6_eightAt_63 rfl (by decide) (by decide) ⟨rfl, rfl, by rw [show t = 8 by omega]; rfl⟩
  | succ d ih =>
    intro t ht
    refine R_iload (pc := 5) 0 dX6_eightAt_5 rfl ?_
    refine R_iload_n (pc := 7) 3 dX6_eightAt_7 rfl rfl ?_
    refine R_bipush (pc := 8) (v := 8) dX6_eightAt_8 (by decide) ?_
    refine R_iadd (pc := 10) dX6_eightAt_10 ?_
    refine R_eqi (y := nI (j + 8)) (nI_add j 8) ?_
    refine R_icmp_ge (pc := 11) (tgt := 62) dX6_eightAt_11 (by decide) (fun c_1 => absurd c_1 (nI_ge (by omega) (by omega))) (fun c_1 => ?_)
    refine R_lload_n (pc := 14) 1 dX6_eightAt_14 rfl rfl ?_
    refine R_bipush (pc := 15) (v := 8) dX6_eightAt_15 (by decide) ?_
    refine R_lshl (pc := 17) (v := jlshl (e8p L j t) 8) dX6_eightAt_17 rfl ?_
    refine R_iload (pc := 18) 0 dX6_eightAt_18 rfl ?_
    refine R_if_lt (pc := 20) (tgt := 52) dX6_eightAt_20 (by decide) (fun c_2 => absurd c_2 (nI_pos (by omega))) (fun c_2 => ?_)
    refine R_iload (pc := 23) 0 dX6_eightAt_23 rfl ?_
    refine R_aload_n (pc := 25) 2 dX6_eightAt_25 rfl rfl ?_
    refine R_get (pc := 26) dX6_eightAt_26 fX6_19 hr (by omega) rfl ?_
    refine R_icmp_ge (pc := 29) (tgt := 52) dX6_eightAt_29 (by decide) (fun c_3 => ?_) (fun c_3 => ?_)
    · skip
      refine R_iconst (pc := 52) (v := 0) dX6_eightAt_52 (by decide) ?_
      refine R_i2l (pc := 53) (v := (0 : Int32).toInt64) dX6_eightAt_53 rfl ?_
      refine R_lor (pc := 54) dX6_eightAt_54 ?_
      refine R_eql (y := e8p L j (t + 1)) (by show _ = jlshl (e8p L j t) 8 ||| (oc (og L (j + t))).toInt64; rw [og_out ((nI_leI (by omega) (by omega)).mp c_3), oc_0]) ?_
      refine R_lstore_n (pc := 55) (lv' := [(2, .long (e8p L j (t + 1))), (4, .int (nI (j + t))), (0, .ref r), (1, .int (nI j))]) dX6_eightAt_55 rfl (by decide) rfl ?_
      refine R_iinc (pc := 56) (j := 1) (v := nI (j + (t + 1))) (lv' := [(4, .int (nI (j + (t + 1)))), (2, .long (e8p L j (t + 1))), (0, .ref r), (1, .int (nI j))]) dX6_eightAt_56 rfl (nI_1 (j + t)) (by decide) rfl ?_
      refine R_goto (pc := 59) (tgt := 5) dX6_eightAt_59 (by decide) ?_
      exact ih (t + 1) (by omega)
    · skip
      refine R_iload (pc := 32) 0 dX6_eightAt_32 rfl ?_
      refine R_aload_n (pc := 34) 2 dX6_eightAt_34 rfl rfl ?_
      refine R_get (pc := 35) dX6_eightAt_35 fX6_13 hr (by omega) rfl ?_
      refine R_alenI (pc := 38) dX6_eightAt_38 ha (by omega) ?_
      refine R_icmp_ge (pc := 39) (tgt := 52) dX6_eightAt_39 (by decide) (fun c_4 => absurd c_4 (fun q => c_3 (Int32.le_trans (nI_le hLN (by omega)) q))) (fun c_4 => ?_)
      refine R_aload_n (pc := 42) 2 dX6_eightAt_42 rfl rfl ?_
      refine R_get (pc := 43) dX6_eightAt_43 fX6_13 hr (by omega) rfl ?_
      refine R_iload (pc := 46) 0 dX6_eightAt_46 rfl ?_
      refine R_iald' (pc := 48) (j := (j + t)) dX6_eightAt_48 ha (by omega) ⟨rfl, Nat.lt_of_lt_of_le (am_lt (by omega) (by omega) c_3) hLN, by omega⟩ ?_
      refine R_goto (pc := 49) (tgt := 53) dX6_eightAt_49 (by decide) ?_
      refine R_i2l (pc := 53) (v := (f (j + t)).toInt64) dX6_eightAt_53 rfl ?_
      refine R_lor (pc := 54) dX6_eightAt_54 ?_
      refine R_eql (y := e8p L j (t + 1)) (by show _ = jlshl (e8p L j t) 8 ||| (oc (og L (j + t))).toInt64; rw [hf _ (am_lt (by omega) (by omega) c_3)]) ?_
      refine R_lstore_n (pc := 55) (lv' := [(2, .long (e8p L j (t + 1))), (4, .int (nI (j + t))), (0, .ref r), (1, .int (nI j))]) dX6_eightAt_55 rfl (by decide) rfl ?_
      refine R_iinc (pc := 56) (j := 1) (v := nI (j + (t + 1))) (lv' := [(4, .int (nI (j + (t + 1)))), (2, .long (e8p L j (t + 1))), (0, .ref r), (1, .int (nI j))]) dX6_eightAt_56 rfl (nI_1 (j + t)) (by decide) rfl ?_
      refine R_goto (pc := 59) (tgt := 5) dX6_eightAt_59 (by decide) ?_
      exact ih (t + 1) (by omega)
set_option maxHeartbeats 4000000 in
set_option maxRecDepth 100000 in
theorem qX6_eightAt (l : Launch) (w : am_W) (h : am_H) (n r N : Nat) (L : List (BitVec 8)) (hR : rowAt h r N L) (hn : 0 < r ∧ r + 1 ≤ n) (j : Nat) (hj : j + 8 < 2 ^ 31) : RP l w mX6_eightAt h n [.ref r, .int (nI j)] (.long (e8 L j)) := by
  refine RC.of [(0, .ref r), (1, .int (nI j))] (by decide +kernel) rfl (Nat.le_of_ble_eq_true rfl) ?_
  refine R_lconst (pc := 0) (v := 0) dX6_eightAt_0 (by decide) ?_
  refine R_lstore_n (pc := 1) (lv' := [(2, .long 0), (0, .ref r), (1, .int (nI j))]) dX6_eightAt_1 rfl (by decide) rfl ?_
  refine R_iload_n (pc := 2) 2 dX6_eightAt_2 rfl rfl ?_
  refine R_istore (pc := 3) (lv' := [(4, .int (nI j)), (2, .long 0), (0, .ref r), (1, .int (nI j))]) dX6_eightAt_3 (by decide) rfl ?_
  exact qX6_eightAt_loop l w h n r N L hR hn j hj 8 0 rfl
def bo (hi lo : Int64) (i : Nat) : BitVec 8 := t8 (vX0_octetAt hi lo (nI i))
/-- the first m octets of a block -/
def bos (hi lo : Int64) (m : Nat) : List (BitVec 8) := (List.range m).map (bo hi lo)
theorem bos_len (hi lo : Int64) (m : Nat) : (bos hi lo m).length = m := by simp [bos]
theorem bos_succ (hi lo : Int64) (m : Nat) : bos hi lo (m + 1) = bos hi lo m ++ [bo hi lo m] := by simp [bos, List.range_succ]
set_option maxHeartbeats 4000000 in
set_option maxRecDepth 100000 in
theorem qX6_appendBlock_loop (l : Launch) (w : am_W) (h : am_H) (n r N : Nat) (L : List (BitVec 8)) (hR : rowAt h r N L) (hn : 0 < r ∧ r + 1 ≤ n) (b : Nat) (hi lo : Int64) (hb : h b = .inr (.inr (0, [.long hi, .long lo]))) (hbn : 0 < b ∧ b ≤ n) (hne : b ≠ r ∧ b ≠ r + 1) (m : Nat) (hm : L.length + m ≤ N) : ∀ (d t : Nat), t + d = m → ∀ h2, rowAt h2 r N (L ++ bos hi lo t) → (∀ x, x ≠ r → x ≠ r + 1 → h2 x = h x) → RW l w mX6_appendBlock h2 n 0 0 2 [(3, .int (nI t)), (0, .ref r), (1, .ref b), (2, .int (nI m))] [] (fun h' n' r_ => n' = n ∧ (fun h' q => q = none ∧ rowAt h' r N (L ++ bos hi lo m) ∧ ∀ x, x ≠ r → x ≠ r + 1 → h' x = h x) h' r_) := by
  have hLN := hR.1
  have hN := hR.2.1
  intro d
  induction d with
  | zero =>
    intro t ht h2 hR2 hF
    have hb2 := (hF b hne.1 hne.2).trans hb
    refine R_iload_n (pc := 2) 0 dX6_appendBlock_2 rfl rfl ?_
    refine R_iload_n (pc := 3) 3 dX6_appendBlock_3 rfl rfl ?_
    refine R_icmp_ge (pc := 4) (tgt := 22) dX6_appendBlock_4 (by decide) (fun c_1 => ?_) (fun c_1 => absurd (nI_le (by omega) (by omega)) c_1)
    exact R_vreturn (pc := 22) dX6_appendBlock_22 rfl (by decide) (by decide) ⟨rfl, rfl, by rw [show m = t by omega]; exact hR2, hF⟩
  | succ d ih =>
    intro t ht h2 hR2 hF
    have hb2 := (hF b hne.1 hne.2).trans hb
    refine R_iload_n (pc := 2) 0 dX6_appendBlock_2 rfl rfl ?_
    refine R_iload_n (pc := 3) 3 dX6_appendBlock_3 rfl rfl ?_
    refine R_icmp_ge (pc := 4) (tgt := 22) dX6_appendBlock_4 (by decide) (fun c_1 => absurd c_1 (nI_ge (by omega) (by omega))) (fun c_1 => ?_)
    refine R_aload_n (pc := 7) 1 dX6_appendBlock_7 rfl rfl ?_
    refine R_aload_n (pc := 8) 2 dX6_appendBlock_8 rfl rfl ?_
    refine R_iload_n (pc := 9) 0 dX6_appendBlock_9 rfl rfl ?_
    refine R_callVp (pc := 10) (μ' := mX0_octetAt) (As := [.int (nI t)]) (st := [.ref r]) dX6_appendBlock_10 zX0_octetAt lX6_31 ⟨by decide, by decide⟩ rfl rfl ⟨by decide, by decide⟩ hb2 (by omega) rfl (Nat.le_of_ble_eq_true rfl) (qX0_octetAt l w _ _ _ _ _ hb2 (by omega) _) ?_
    refine R_callVh (pc := 13) (μ' := mX6_append) (As := [.int (vX0_octetAt hi lo (nI t))]) (st := []) dX6_appendBlock_13 zX6_append lX6_27 ⟨by decide, by decide⟩ rfl rfl ⟨by decide, by decide⟩ hR2.2.2.1 (by omega) rfl (Nat.le_of_ble_eq_true rfl) (qX6_append l w _ _ _ _ _ hR2 (by omega) _ (by rw [List.length_append, bos_len]; omega)) (fun h_4 r_ q_5 => ?_)
    obtain ⟨rfl, R_2, g_3⟩ := q_5
    have f_6 := (g_3 b (by omega) (by omega)).trans hb2
    refine R_iinc (pc := 16) (j := 0) (v := nI (t + 1)) (lv' := [(3, .int (nI (t + 1))), (0, .ref r), (1, .ref b), (2, .int (nI m))]) dX6_appendBlock_16 rfl (nI_1 t) (by decide) rfl ?_
    refine R_goto (pc := 19) (tgt := 2) dX6_appendBlock_19 (by decide) ?_
    refine R_sub [0, 1, 2, 3] rfl ?_
    refine ih (t + 1) (by omega) _ ?_ (fun x n0_ n1_ => (g_3 x n0_ n1_).trans (hF x n0_ n1_))
    rw [bos_succ, ← List.append_assoc]
    exact R_2
set_option maxHeartbeats 4000000 in
set_option maxRecDepth 100000 in
theorem qX6_appendBlock (l : Launch) (w : am_W) (h : am_H) (n r N : Nat) (L : List (BitVec 8)) (hR : rowAt h r N L) (hn : 0 < r ∧ r + 1 ≤ n) (b : Nat) (hi lo : Int64) (hb : h b = .inr (.inr (0, [.long hi, .long lo]))) (hbn : 0 < b ∧ b ≤ n) (hne : b ≠ r ∧ b ≠ r + 1) (m : Nat) (hm : L.length + m ≤ N) : RH l w mX6_appendBlock h n [.ref r, .ref b, .int (nI m)] (fun h' q => q = none ∧ rowAt h' r N (L ++ bos hi lo m) ∧ ∀ x, x ≠ r → x ≠ r + 1 → h' x = h x) := by
  refine RC.of [(0, .ref r), (1, .ref b), (2, .int (nI m))] (by decide +kernel) rfl (Nat.le_of_ble_eq_true rfl) ?_
  refine R_iconst (pc := 0) (v := 0) dX6_appendBlock_0 (by decide) ?_
  refine R_istore_n (pc := 1) (lv' := [(3, .int 0), (0, .ref r), (1, .ref b), (2, .int (nI m))]) dX6_appendBlock_1 rfl (by decide) rfl ?_
  exact qX6_appendBlock_loop l w h n r N L hR hn b hi lo hb hbn hne m hm m 0 (by omega) h (by simpa [bos] using hR) (fun _ _ _ => rfl)
theorem take_og (L : List (BitVec 8)) {t : Nat} (h : t < L.length) : L.take (t + 1) = L.take t ++ [og L t] := by
  rw [List.take_succ, List.getElem?_eq_getElem h]
  simp [og, h]
set_option maxHeartbeats 4000000 in
set_option maxRecDepth 100000 in
theorem qX6_appendRow_loop (l : Launch) (w : am_W) (h : am_H) (n r N : Nat) (L : List (BitVec 8)) (hR : rowAt h r N L) (hn : 0 < r ∧ r + 1 ≤ n) (s N2 : Nat) (L2 : List (BitVec 8)) (hS : rowAt h s N2 L2) (hsn : 0 < s ∧ s + 1 ≤ n) (hne : s ≠ r ∧ s ≠ r + 1 ∧ s + 1 ≠ r) (hm : L.length + L2.length ≤ N) : ∀ (d t : Nat), t + d = L2.length → ∀ h2, rowAt h2 r N (L ++ L2.take t) → (∀ x, x ≠ r → x ≠ r + 1 → h2 x = h x) → RW l w mX6_appendRow h2 n 0 0 2 [(2, .int (nI t)), (0, .ref r), (1, .ref s)] [] (fun h' n' r_ => n' = n ∧ (fun h' q => q = none ∧ rowAt h' r N (L ++ L2) ∧ ∀ x, x ≠ r → x ≠ r + 1 → h' x = h x) h' r_) := by
  have hLN := hR.1
  have hN := hR.2.1
  intro d
  induction d with
  | zero =>
    intro t ht h2 hR2 hF
    have hS2 := rowAt.move hS (hF s (by omega) (by omega)) (hF (s + 1) (by omega) (by omega))
    have hN2 := hS.2.1
    have hL2 := hS.1
    refine R_iload_n (pc := 2) 0 dX6_appendRow_2 rfl rfl ?_
    refine R_aload_n (pc := 3) 2 dX6_appendRow_3 rfl rfl ?_
    refine R_get (pc := 4) dX6_appendRow_4 fX6_19 hS2.2.2.1 (by omega) rfl ?_
    refine R_icmp_ge (pc := 7) (tgt := 25) dX6_appendRow_7 (by decide) (fun c_1 => ?_) (fun c_1 => absurd (nI_le (by omega) (by omega)) c_1)
    exact R_vreturn (pc := 25) dX6_appendRow_25 rfl (by decide) (by decide) ⟨rfl, rfl, by rw [← List.take_of_length_le (l := L2) (i := t) (by omega)]; exact hR2, hF⟩
  | succ d ih =>
    intro t ht h2 hR2 hF
    have hS2 := rowAt.move hS (hF s (by omega) (by omega)) (hF (s + 1) (by omega) (by omega))
    have hN2 := hS.2.1
    have hL2 := hS.1
    refine R_iload_n (pc := 2) 0 dX6_appendRow_2 rfl rfl ?_
    refine R_aload_n (pc := 3) 2 dX6_appendRow_3 rfl rfl ?_
    refine R_get (pc := 4) dX6_appendRow_4 fX6_19 hS2.2.2.1 (by omega) rfl ?_
    refine R_icmp_ge (pc := 7) (tgt := 25) dX6_appendRow_7 (by decide) (fun c_1 => absurd c_1 (nI_ge (by omega) (by omega))) (fun c_1 => ?_)
    refine R_aload_n (pc := 10) 1 dX6_appendRow_10 rfl rfl ?_
    refine R_aload_n (pc := 11) 2 dX6_appendRow_11 rfl rfl ?_
    refine R_iload_n (pc := 12) 0 dX6_appendRow_12 rfl rfl ?_
    refine R_callVp (pc := 13) (μ' := mX6_at) (As := [.int (nI t)]) (st := [.ref r]) dX6_appendRow_13 zX6_at lX6_23 ⟨by decide, by decide⟩ rfl rfl ⟨by decide, by decide⟩ hS2.2.2.1 (by omega) rfl (Nat.le_of_ble_eq_true rfl) (qX6_at l w _ _ _ _ _ hS2 (by omega) _) ?_
    refine R_callVh (pc := 16) (μ' := mX6_append) (As := [.int (atI L2 (nI t))]) (st := []) dX6_appendRow_16 zX6_append lX6_27 ⟨by decide, by decide⟩ rfl rfl ⟨by decide, by decide⟩ hR2.2.2.1 (by omega) rfl (Nat.le_of_ble_eq_true rfl) (qX6_append l w _ _ _ _ _ hR2 (by omega) _ (by rw [List.length_append, List.length_take]; omega)) (fun h_4 r_ q_5 => ?_)
    obtain ⟨rfl, R_2, g_3⟩ := q_5
    have R_6 := rowAt.move hS2 (g_3 s (by omega) (by omega)) (g_3 (s + 1) (by omega) (by omega))
    refine R_iinc (pc := 19) (j := 0) (v := nI (t + 1)) (lv' := [(2, .int (nI (t + 1))), (0, .ref r), (1, .ref s)]) dX6_appendRow_19 rfl (nI_1 t) (by decide) rfl ?_
    refine R_goto (pc := 22) (tgt := 2) dX6_appendRow_22 (by decide) ?_
    refine R_sub [0, 1, 2] rfl ?_
    refine ih (t + 1) (by omega) _ ?_ (fun x n0_ n1_ => (g_3 x n0_ n1_).trans (hF x n0_ n1_))
    rw [take_og L2 (by omega), ← List.append_assoc]
    have q_ := R_2
    rw [atI_nI L2 (by omega) (by omega), t8_oc] at q_
    exact q_
set_option maxHeartbeats 4000000 in
set_option maxRecDepth 100000 in
theorem qX6_appendRow (l : Launch) (w : am_W) (h : am_H) (n r N : Nat) (L : List (BitVec 8)) (hR : rowAt h r N L) (hn : 0 < r ∧ r + 1 ≤ n) (s N2 : Nat) (L2 : List (BitVec 8)) (hS : rowAt h s N2 L2) (hsn : 0 < s ∧ s + 1 ≤ n) (hne : s ≠ r ∧ s ≠ r + 1 ∧ s + 1 ≠ r) (hm : L.length + L2.length ≤ N) : RH l w mX6_appendRow h n [.ref r, .ref s] (fun h' q => q = none ∧ rowAt h' r N (L ++ L2) ∧ ∀ x, x ≠ r → x ≠ r + 1 → h' x = h x) := by
  refine RC.of [(0, .ref r), (1, .ref s)] (by decide +kernel) rfl (Nat.le_of_ble_eq_true rfl) ?_
  refine R_iconst (pc := 0) (v := 0) dX6_appendRow_0 (by decide) ?_
  refine R_istore_n (pc := 1) (lv' := [(2, .int 0), (0, .ref r), (1, .ref s)]) dX6_appendRow_1 rfl (by decide) rfl ?_
  exact qX6_appendRow_loop l w h n r N L hR hn s N2 L2 hS hsn hne hm L2.length 0 (by omega) h (by simpa using hR) (fun _ _ _ => rfl)
