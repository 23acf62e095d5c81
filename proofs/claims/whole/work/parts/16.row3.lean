def sl (L : List (BitVec 8)) (b t : Nat) : List (BitVec 8) := (List.range t).map (fun i => og L (b + i))
theorem sl_len (L : List (BitVec 8)) (b t : Nat) : (sl L b t).length = t := by simp [sl]
theorem sl_succ (L : List (BitVec 8)) (b t : Nat) : sl L b (t + 1) = sl L b t ++ [og L (b + t)] := by simp [sl, List.range_succ]
set_option maxHeartbeats 4000000 in
set_option maxRecDepth 100000 in
theorem qX6_copyPart_loop (l : Launch) (w : am_W) (h : am_H) (n r N : Nat) (L : List (BitVec 8)) (hR : rowAt h r N L) (hn : 0 < r ∧ r + 1 ≤ n) (s N2 : Nat) (L2 : List (BitVec 8)) (hS : rowAt h s N2 L2) (hsn : 0 < s ∧ s + 1 ≤ n) (hne : s ≠ r ∧ s ≠ r + 1 ∧ s + 1 ≠ r) (b m : Nat) (hm : m ≤ N) (hb : b ≤ 2000) : ∀ (d t : Nat), t + d = m → ∀ h2, rowAt h2 r N (sl L2 b t) → (∀ x, x ≠ r → x ≠ r + 1 → h2 x = h x) → RW l w mX6_copyPart h2 n 0 0 8 [(4, .int (nI (b + t))), (0, .ref r), (1, .ref s), (2, .int (nI b)), (3, .int (nI (b + m)))] [] (fun h' n' r_ => n' = n ∧ (fun h' q => q = none ∧ rowAt h' r N (sl L2 b m) ∧ ∀ x, x ≠ r → x ≠ r + 1 → h' x = h x) h' r_) := by
  have hLN := hR.1
  have hN := hR.2.1
  intro d
  induction d with
  | zero =>
    intro t ht h2 hR2 hF
    have hS2 := rowAt.move hS (hF s (by omega) (by omega)) (hF (s + 1) (by omega) (by omega))
    have hN2 := hS.2.1
    have hL2 := hS.1
    refine R_iload (pc := 8) 0 dX6_copyPart_8 rfl ?_
    refine R_iload_n (pc := 10) 4 dX6_copyPart_10 rfl rfl ?_
    refine R_icmp_ge (pc := 11) (tgt := 30) dX6_copyPart_11 (by decide) (fun c_1 => ?_) (fun c_1 => absurd (nI_le (by omega) (by omega)) c_1)
    exact R_vreturn (pc := 30) dX6_copyPart_30 rfl (by decide) (by decide) ⟨rfl, rfl, by rw [show m = t by omega]; exact hR2, hF⟩
  | succ d ih =>
    intro t ht h2 hR2 hF
    have hS2 := rowAt.move hS (hF s (by omega) (by omega)) (hF (s + 1) (by omega) (by omega))
    have hN2 := hS.2.1
    have hL2 := hS.1
    refine R_iload (pc := 8) 0 dX6_copyPart_8 rfl ?_
    refine R_iload_n (pc := 10) 4 dX6_copyPart_10 rfl rfl ?_
    refine R_icmp_ge (pc := 11) (tgt := 30) dX6_copyPart_11 (by decide) (fun c_1 => absurd c_1 (nI_ge (by omega) (by omega))) (fun c_1 => ?_)
    refine R_aload_n (pc := 14) 1 dX6_copyPart_14 rfl rfl ?_
    refine R_aload_n (pc := 15) 2 dX6_copyPart_15 rfl rfl ?_
    refine R_iload (pc := 16) 0 dX6_copyPart_16 rfl ?_
    refine R_callVp (pc := 18) (μ' := mX6_at) (As := [.int (nI (b + t))]) (st := [.ref r]) dX6_copyPart_18 zX6_at lX6_23 ⟨by decide, by decide⟩ rfl rfl ⟨by decide, by decide⟩ hS2.2.2.1 (by omega) rfl (Nat.le_of_ble_eq_true rfl) (qX6_at l w _ _ _ _ _ hS2 (by omega) _) ?_
    refine R_callVh (pc := 21) (μ' := mX6_append) (As := [.int (atI L2 (nI (b + t)))]) (st := []) dX6_copyPart_21 zX6_append lX6_27 ⟨by decide, by decide⟩ rfl rfl ⟨by decide, by decide⟩ hR2.2.2.1 (by omega) rfl (Nat.le_of_ble_eq_true rfl) (qX6_append l w _ _ _ _ _ hR2 (by omega) _ (by rw [sl_len]; omega)) (fun h_4 r_ q_5 => ?_)
    obtain ⟨rfl, R_2, g_3⟩ := q_5
    have R_6 := rowAt.move hS2 (g_3 s (by omega) (by omega)) (g_3 (s + 1) (by omega) (by omega))
    refine R_iinc (pc := 24) (j := 0) (v := nI (b + (t + 1))) (lv' := [(4, .int (nI (b + (t + 1)))), (0, .ref r), (1, .ref s), (2, .int (nI b)), (3, .int (nI (b + m)))]) dX6_copyPart_24 rfl (nI_1 (b + t)) (by decide) rfl ?_
    refine R_goto (pc := 27) (tgt := 8) dX6_copyPart_27 (by decide) ?_
    refine R_sub [0, 1, 2, 3, 4] rfl ?_
    refine ih (t + 1) (by omega) _ ?_ (fun x n0_ n1_ => (g_3 x n0_ n1_).trans (hF x n0_ n1_))
    rw [sl_succ]
    have q_ := R_2
    rw [atI_nI L2 (by omega) (by omega), t8_oc] at q_
    exact q_
set_option maxHeartbeats 4000000 in
set_option maxRecDepth 100000 in
theorem qX6_copyPart (l : Launch) (w : am_W) (h : am_H) (n r N : Nat) (L : List (BitVec 8)) (hR : rowAt h r N L) (hn : 0 < r ∧ r + 1 ≤ n) (s N2 : Nat) (L2 : List (BitVec 8)) (hS : rowAt h s N2 L2) (hsn : 0 < s ∧ s + 1 ≤ n) (hne : s ≠ r ∧ s ≠ r + 1 ∧ s + 1 ≠ r) (b m : Nat) (hm : m ≤ N) (hb : b ≤ 2000) : RH l w mX6_copyPart h n [.ref r, .ref s, .int (nI b), .int (nI (b + m))] (fun h' q => q = none ∧ rowAt h' r N (sl L2 b m) ∧ ∀ x, x ≠ r → x ≠ r + 1 → h' x = h x) := by
  refine RC.of [(0, .ref r), (1, .ref s), (2, .int (nI b)), (3, .int (nI (b + m)))] (by decide +kernel) rfl (Nat.le_of_ble_eq_true rfl) ?_
  obtain ⟨hLN, hN, hr, f, ha, hf⟩ := id hR
  refine R_aload_n (pc := 0) 0 dX6_copyPart_0 rfl rfl ?_
  refine R_iconst (pc := 1) (v := 0) dX6_copyPart_1 (by decide) ?_
  refine R_put' (pc := 2) (fs' := [.ref (r + 1), .int 0]) dX6_copyPart_2 fX6_19 tX6_1 rfl rfl hr (by omega) (Nat.le_of_ble_eq_true rfl) rfl (fun h_1 f_2 g_3 => ?_)
  have f_4 := (g_3 (r + 1) (by omega)).trans ha
  refine R_iload_n (pc := 5) 2 dX6_copyPart_5 rfl rfl ?_
  refine R_istore (pc := 6) (lv' := [(4, .int (nI b)), (0, .ref r), (1, .ref s), (2, .int (nI b)), (3, .int (nI (b + m)))]) dX6_copyPart_6 (by decide) rfl ?_
  refine R_sub [0, 1, 2, 3, 4] rfl ?_
  exact qX6_copyPart_loop l w h n r N L hR hn s N2 L2 hS hsn hne b m hm hb m 0 (by omega) _ ⟨Nat.zero_le _, hN, f_2, f, f_4, fun j hj => absurd hj (Nat.not_lt_zero j)⟩ (fun x n0_ n1_ => g_3 x n0_)
/-- how many 0s come behind a length, to a multiple of 2^k -/
def pad2 (len k : Nat) : Nat := (2 ^ k - len % 2 ^ k) % 2 ^ k
theorem pad_and {len k : Nat} (hl : len < 2 ^ 31) (hk : k ≤ 4) : -nI len &&& (nI (2 ^ k) - 1) = nI (pad2 len k) := by
  have hm : (nI (2 ^ k) - 1).toBitVec.toNat = 2 ^ k - 1 := by
    rcases (show k = 0 ∨ k = 1 ∨ k = 2 ∨ k = 3 ∨ k = 4 by omega) with rfl | rfl | rfl | rfl | rfl <;> decide
  rw [pk_and _ k hm]
  congr 1
  have e : (-nI len).toBitVec.toNat = (2 ^ 32 - len) % 2 ^ 32 := by
    rw [Int32.toBitVec_neg, BitVec.toNat_neg, pk_tn (by omega)]
  rw [e]
  unfold pad2
  rcases (show k = 0 ∨ k = 1 ∨ k = 2 ∨ k = 3 ∨ k = 4 by omega) with rfl | rfl | rfl | rfl | rfl <;> omega
set_option maxHeartbeats 4000000 in
set_option maxRecDepth 100000 in
theorem qX6_padTo_loop (l : Launch) (w : am_W) (h : am_H) (n r N : Nat) (L : List (BitVec 8)) (hR : rowAt h r N L) (hn : 0 < r ∧ r + 1 ≤ n) (k : Nat) (hk : k ≤ 4) (hm : L.length + pad2 L.length k ≤ N) : ∀ (d t : Nat), t + d = pad2 L.length k → ∀ h2, rowAt h2 r N (L ++ List.replicate t 0) → (∀ x, x ≠ r → x ≠ r + 1 → h2 x = h x) → RW l w mX6_padTo h2 n 0 0 12 [(3, .int (nI t)), (2, .int (nI (pad2 L.length k))), (0, .ref r), (1, .int (nI (2 ^ k)))] [] (fun h' n' r_ => n' = n ∧ (fun h' q => q = none ∧ rowAt h' r N (L ++ List.replicate (pad2 L.length k) 0) ∧ ∀ x, x ≠ r → x ≠ r + 1 → h' x = h x) h' r_) := by
  have hLN := hR.1
  have hN := hR.2.1
  intro d
  induction d with
  | zero =>
    intro t ht h2 hR2 hF
    refine R_iload_n (pc := 12) 0 dX6_padTo_12 rfl rfl ?_
    refine R_iload_n (pc := 13) 1 dX6_padTo_13 rfl rfl ?_
    refine R_icmp_ge (pc := 14) (tgt := 28) dX6_padTo_14 (by decide) (fun c_1 => ?_) (fun c_1 => absurd (nI_le (by omega) (by omega)) c_1)
    exact R_vreturn (pc := 28) dX6_padTo_28 rfl (by decide) (by decide) ⟨rfl, rfl, by rw [show pad2 L.length k = t by omega]; exact hR2, hF⟩
  | succ d ih =>
    intro t ht h2 hR2 hF
    refine R_iload_n (pc := 12) 0 dX6_padTo_12 rfl rfl ?_
    refine R_iload_n (pc := 13) 1 dX6_padTo_13 rfl rfl ?_
    refine R_icmp_ge (pc := 14) (tgt := 28) dX6_padTo_14 (by decide) (fun c_1 => absurd c_1 (nI_ge (by omega) (by omega))) (fun c_1 => ?_)
    refine R_aload_n (pc := 17) 2 dX6_padTo_17 rfl rfl ?_
    refine R_iconst (pc := 18) (v := 0) dX6_padTo_18 (by decide) ?_
    refine R_callVh (pc := 19) (μ' := mX6_append) (As := [.int 0]) (st := []) dX6_padTo_19 zX6_append lX6_27 ⟨by decide, by decide⟩ rfl rfl ⟨by decide, by decide⟩ hR2.2.2.1 (by omega) rfl (Nat.le_of_ble_eq_true rfl) (qX6_append l w _ _ _ _ _ hR2 (by omega) _ (by rw [List.length_append, List.length_replicate]; omega)) (fun h_4 r_ q_5 => ?_)
    obtain ⟨rfl, R_2, g_3⟩ := q_5
    refine R_iinc (pc := 22) (j := 0) (v := nI (t + 1)) (lv' := [(3, .int (nI (t + 1))), (2, .int (nI (pad2 L.length k))), (0, .ref r), (1, .int (nI (2 ^ k)))]) dX6_padTo_22 rfl (nI_1 t) (by decide) rfl ?_
    refine R_goto (pc := 25) (tgt := 12) dX6_padTo_25 (by decide) ?_
    refine R_sub [0, 1, 2, 3] rfl ?_
    refine ih (t + 1) (by omega) _ ?_ (fun x n0_ n1_ => (g_3 x n0_ n1_).trans (hF x n0_ n1_))
    rw [List.replicate_succ', ← List.append_assoc]
    exact R_2
set_option maxHeartbeats 4000000 in
set_option maxRecDepth 100000 in
theorem qX6_padTo (l : Launch) (w : am_W) (h : am_H) (n r N : Nat) (L : List (BitVec 8)) (hR : rowAt h r N L) (hn : 0 < r ∧ r + 1 ≤ n) (k : Nat) (hk : k ≤ 4) (hm : L.length + pad2 L.length k ≤ N) : RH l w mX6_padTo h n [.ref r, .int (nI (2 ^ k))] (fun h' q => q = none ∧ rowAt h' r N (L ++ List.replicate (pad2 L.length k) 0) ∧ ∀ x, x ≠ r → x ≠ r + 1 → h' x = h x) := by
  refine RC.of [(0, .ref r), (1, .int (nI (2 ^ k)))] (by decide +kernel) rfl (Nat.le_of_ble_eq_true rfl) ?_
  have hLN := hR.1
  have hN := hR.2.1
  refine R_aload_n (pc := 0) 0 dX6_padTo_0 rfl rfl ?_
  refine R_get (pc := 1) dX6_padTo_1 fX6_19 hR.2.2.1 (by omega) rfl ?_
  refine R_ineg (pc := 4) dX6_padTo_4 ?_
  refine R_iload_n (pc := 5) 1 dX6_padTo_5 rfl rfl ?_
  refine R_iconst (pc := 6) (v := 1) dX6_padTo_6 (by decide) ?_
  refine R_isub (pc := 7) dX6_padTo_7 ?_
  refine R_iand (pc := 8) dX6_padTo_8 ?_
  refine R_eqi (y := nI (pad2 L.length k)) (pad_and (by omega) hk) ?_
  refine R_istore_n (pc := 9) (lv' := [(2, .int (nI (pad2 L.length k))), (0, .ref r), (1, .int (nI (2 ^ k)))]) dX6_padTo_9 rfl (by decide) rfl ?_
  refine R_iconst (pc := 10) (v := 0) dX6_padTo_10 (by decide) ?_
  refine R_istore_n (pc := 11) (lv' := [(3, .int 0), (2, .int (nI (pad2 L.length k))), (0, .ref r), (1, .int (nI (2 ^ k)))]) dX6_padTo_11 rfl (by decide) rfl ?_
  refine R_sub [0, 1, 2, 3] rfl ?_
  exact qX6_padTo_loop l w h n r N L hR hn k hk hm (pad2 L.length k) 0 (by omega) h (by simpa using hR) (fun _ _ _ => rfl)
def p8 (L : List (BitVec 8)) (j : Nat) (v : Int64) : Nat → List (BitVec 8)
  | 0 => L
  | t + 1 => rput (p8 L j v t) (nI (j + t)) (t8 (jlushr v (56 - 8 * nI t)).toInt32)
set_option maxHeartbeats 4000000 in
set_option maxRecDepth 100000 in
theorem qX6_putEight_loop (l : Launch) (w : am_W) (h : am_H) (n r N : Nat) (L : List (BitVec 8)) (hR : rowAt h r N L) (hn : 0 < r ∧ r + 1 ≤ n) (j : Nat) (v : Int64) (hj : j ≤ 2000) : ∀ (d t : Nat), t + d = 8 → ∀ h2, rowAt h2 r N (p8 L j v t) → (∀ x, x ≠ r → x ≠ r + 1 → h2 x = h x) → RW l w mX6_putEight h2 n 0 0 3 [(4, .int (nI t)), (0, .ref r), (1, .int (nI j)), (2, .long v)] [] (fun h' n' r_ => n' = n ∧ (fun h' q => q = none ∧ rowAt h' r N (p8 L j v 8) ∧ ∀ x, x ≠ r → x ≠ r + 1 → h' x = h x) h' r_) := by
  have hLN := hR.1
  have hN := hR.2.1
  intro d
  induction d with
  | zero =>
    intro t ht h2 hR2 hF
    refine R_iload (pc := 3) 0 dX6_putEight_3 rfl ?_
    refine R_bipush (pc := 5) (v := 8) dX6_putEight_5 (by decide) ?_
    refine R_icmp_ge (pc := 7) (tgt := 35) dX6_putEight_7 (by decide) (fun c_1 => ?_) (fun c_1 => absurd (nI_le (a := 8) (by omega) (by omega)) c_1)
    exact R_vreturn (pc := 35) dX6_putEight_35 rfl (by decide) (by decide) ⟨rfl, rfl, by rw [show 8 = t by omega]; exact hR2, hF⟩
  | succ d ih =>
    intro t ht h2 hR2 hF
    refine R_iload (pc := 3) 0 dX6_putEight_3 rfl ?_
    refine R_bipush (pc := 5) (v := 8) dX6_putEight_5 (by decide) ?_
    refine R_icmp_ge (pc := 7) (tgt := 35) dX6_putEight_7 (by decide) (fun c_1 => absurd c_1 (nI_ge (b := 8) (by omega) (by omega))) (fun c_1 => ?_)
    refine R_aload_n (pc := 10) 1 dX6_putEight_10 rfl rfl ?_
    refine R_iload_n (pc := 11) 2 dX6_putEight_11 rfl rfl ?_
    refine R_iload (pc := 12) 0 dX6_putEight_12 rfl ?_
    refine R_iadd (pc := 14) dX6_putEight_14 ?_
    refine R_eqi (y := nI (j + t)) (nI_add j t) ?_
    refine R_lload_n (pc := 15) 3 dX6_putEight_15 rfl rfl ?_
    refine R_bipush (pc := 16) (v := 56) dX6_putEight_16 (by decide) ?_
    refine R_bipush (pc := 18) (v := 8) dX6_putEight_18 (by decide) ?_
    refine R_iload (pc := 20) 0 dX6_putEight_20 rfl ?_
    refine R_imul (pc := 22) dX6_putEight_22 ?_
    refine R_isub (pc := 23) dX6_putEight_23 ?_
    refine R_lushr (pc := 24) (v := jlushr v (56 - (8 * (nI t)))) dX6_putEight_24 rfl ?_
    refine R_l2i (pc := 25) (v := (jlushr v (56 - (8 * (nI t)))).toInt32) dX6_putEight_25 rfl ?_
    refine R_callVh (pc := 26) (μ' := mX6_put) (As := [.int (nI (j + t)), .int ((jlushr v (56 - (8 * (nI t)))).toInt32)]) (st := []) dX6_putEight_26 zX6_put lX6_36 ⟨by decide, by decide⟩ rfl rfl ⟨by decide, by decide⟩ hR2.2.2.1 (by omega) rfl (Nat.le_of_ble_eq_true rfl) (qX6_put l w _ _ _ _ _ hR2 (by omega) _ _) (fun h_4 r_ q_5 => ?_)
    obtain ⟨rfl, R_2, g_3⟩ := q_5
    refine R_iinc (pc := 29) (j := 0) (v := nI (t + 1)) (lv' := [(4, .int (nI (t + 1))), (0, .ref r), (1, .int (nI j)), (2, .long v)]) dX6_putEight_29 rfl (nI_1 t) (by decide) rfl ?_
    refine R_goto (pc := 32) (tgt := 3) dX6_putEight_32 (by decide) ?_
    refine R_sub [0, 1, 2, 3] rfl ?_
    exact ih (t + 1) (by omega) _ R_2 (fun x n0_ n1_ => (g_3 x n1_).trans (hF x n0_ n1_))
set_option maxHeartbeats 4000000 in
set_option maxRecDepth 100000 in
theorem qX6_putEight (l : Launch) (w : am_W) (h : am_H) (n r N : Nat) (L : List (BitVec 8)) (hR : rowAt h r N L) (hn : 0 < r ∧ r + 1 ≤ n) (j : Nat) (v : Int64) (hj : j ≤ 2000) : RH l w mX6_putEight h n [.ref r, .int (nI j), .long v] (fun h' q => q = none ∧ rowAt h' r N (p8 L j v 8) ∧ ∀ x, x ≠ r → x ≠ r + 1 → h' x = h x) := by
  refine RC.of [(0, .ref r), (1, .int (nI j)), (2, .long v)] (by decide +kernel) rfl (Nat.le_of_ble_eq_true rfl) ?_
  refine R_iconst (pc := 0) (v := 0) dX6_putEight_0 (by decide) ?_
  refine R_istore (pc := 1) (lv' := [(4, .int 0), (0, .ref r), (1, .int (nI j)), (2, .long v)]) dX6_putEight_1 (by decide) rfl ?_
  refine R_sub [0, 1, 2, 3] rfl ?_
  exact qX6_putEight_loop l w h n r N L hR hn j v hj 8 0 rfl h hR (fun _ _ _ => rfl)
set_option maxHeartbeats 4000000 in
set_option maxRecDepth 100000 in
theorem qX0_read (l : Launch) (w : am_W) (h : am_H) (n r N : Nat) (L : List (BitVec 8)) (hR : rowAt h r N L) (hn : 0 < r ∧ r + 1 ≤ n) (a : Nat) (hi lo : Int64) (ha : h a = .inr (.inr (0, [.long hi, .long lo]))) (han : 0 < a ∧ a ≤ n) (hne : a ≠ r ∧ a ≠ r + 1) (j : Nat) (hj : j ≤ 2000) : RH l w mX0_read h n [.ref a, .ref r, .int (nI j)] (fun h' q => q = none ∧ h' a = .inr (.inr (0, [.long (e8 L j), .long (e8 L (j + 8))])) ∧ ∀ x, x ≠ a → h' x = h x) := by
  refine RC.of [(0, .ref a), (1, .ref r), (2, .int (nI j))] (by decide +kernel) rfl (Nat.le_of_ble_eq_true rfl) ?_
  refine R_aload_n (pc := 0) 0 dX0_read_0 rfl rfl ?_
  refine R_aload_n (pc := 1) 1 dX0_read_1 rfl rfl ?_
  refine R_iload_n (pc := 2) 2 dX0_read_2 rfl rfl ?_
  refine R_callVp (pc := 3) (μ' := mX6_eightAt) (As := [.int (nI j)]) (st := [.ref a]) dX0_read_3 zX6_eightAt lX0_16 ⟨by decide, by decide⟩ rfl rfl ⟨by decide, by decide⟩ hR.2.2.1 (by omega) rfl (Nat.le_of_ble_eq_true rfl) (qX6_eightAt l w _ _ _ _ _ hR (by omega) j (by omega)) ?_
  refine R_put' (pc := 6) (fs' := [.long (e8 L j), .long lo]) dX0_read_6 fX0_7 tX0_0 rfl rfl ha (by omega) (Nat.le_of_ble_eq_true rfl) rfl (fun h_1 f_2 g_3 => ?_)
  have R_4 := rowAt.move hR (g_3 r (by omega)) (g_3 (r + 1) (by omega))
  refine R_aload_n (pc := 9) 0 dX0_read_9 rfl rfl ?_
  refine R_aload_n (pc := 10) 1 dX0_read_10 rfl rfl ?_
  refine R_iload_n (pc := 11) 2 dX0_read_11 rfl rfl ?_
  refine R_bipush (pc := 12) (v := 8) dX0_read_12 (by decide) ?_
  refine R_iadd (pc := 14) dX0_read_14 ?_
  refine R_eqi (y := nI (j + 8)) (nI_add j 8) ?_
  refine R_callVp (pc := 15) (μ' := mX6_eightAt) (As := [.int (nI (j + 8))]) (st := [.ref a]) dX0_read_15 zX6_eightAt lX0_16 ⟨by decide, by decide⟩ rfl rfl ⟨by decide, by decide⟩ R_4.2.2.1 (by omega) rfl (Nat.le_of_ble_eq_true rfl) (qX6_eightAt l w _ _ _ _ _ R_4 (by omega) (j + 8) (by omega)) ?_
  refine R_put' (pc := 18) (fs' := [.long (e8 L j), .long (e8 L (j + 8))]) dX0_read_18 fX0_13 tX0_1 rfl rfl f_2 (by omega) (Nat.le_of_ble_eq_true rfl) rfl (fun h_5 f_6 g_7 => ?_)
  have R_8 := rowAt.move R_4 (g_7 r (by omega)) (g_7 (r + 1) (by omega))
  exact R_vreturn (pc := 21) dX0_read_21 rfl (by decide) (by decide) ⟨rfl, rfl, f_6, (fun x_ n0_ => ((g_7 x_ n0_).trans (g_3 x_ n0_)))⟩
set_option maxHeartbeats 4000000 in
set_option maxRecDepth 100000 in
theorem qX0_addPart (l : Launch) (w : am_W) (h : am_H) (n r N : Nat) (L : List (BitVec 8)) (hR : rowAt h r N L) (hn : 0 < r ∧ r + 1 ≤ n) (a : Nat) (hi lo : Int64) (ha : h a = .inr (.inr (0, [.long hi, .long lo]))) (han : 0 < a ∧ a ≤ n) (hne : a ≠ r ∧ a ≠ r + 1) (j : Nat) (hj : j ≤ 2000) : RH l w mX0_addPart h n [.ref a, .ref r, .int (nI j)] (fun h' q => q = none ∧ h' a = .inr (.inr (0, [.long (hi ^^^ e8 L j), .long (lo ^^^ e8 L (j + 8))])) ∧ ∀ x, x ≠ a → h' x = h x) := by
  refine RC.of [(0, .ref a), (1, .ref r), (2, .int (nI j))] (by decide +kernel) rfl (Nat.le_of_ble_eq_true rfl) ?_
  refine R_aload_n (pc := 0) 0 dX0_addPart_0 rfl rfl ?_
  refine R_dup (pc := 1) dX0_addPart_1 rfl ?_
  refine R_get (pc := 2) dX0_addPart_2 fX0_7 ha (by omega) rfl ?_
  refine R_aload_n (pc := 5) 1 dX0_addPart_5 rfl rfl ?_
  refine R_iload_n (pc := 6) 2 dX0_addPart_6 rfl rfl ?_
  refine R_callVp (pc := 7) (μ' := mX6_eightAt) (As := [.int (nI j)]) (st := [.long hi, .ref a]) dX0_addPart_7 zX6_eightAt lX0_16 ⟨by decide, by decide⟩ rfl rfl ⟨by decide, by decide⟩ hR.2.2.1 (by omega) rfl (Nat.le_of_ble_eq_true rfl) (qX6_eightAt l w _ _ _ _ _ hR (by omega) j (by omega)) ?_
  refine R_lxor (pc := 10) dX0_addPart_10 ?_
  refine R_put' (pc := 11) (fs' := [.long (hi ^^^ (e8 L j)), .long lo]) dX0_addPart_11 fX0_7 tX0_0 rfl rfl ha (by omega) (Nat.le_of_ble_eq_true rfl) rfl (fun h_1 f_2 g_3 => ?_)
  have R_4 := rowAt.move hR (g_3 r (by omega)) (g_3 (r + 1) (by omega))
  refine R_aload_n (pc := 14) 0 dX0_addPart_14 rfl rfl ?_
  refine R_dup (pc := 15) dX0_addPart_15 rfl ?_
  refine R_get (pc := 16) dX0_addPart_16 fX0_13 f_2 (by omega) rfl ?_
  refine R_aload_n (pc := 19) 1 dX0_addPart_19 rfl rfl ?_
  refine R_iload_n (pc := 20) 2 dX0_addPart_20 rfl rfl ?_
  refine R_bipush (pc := 21) (v := 8) dX0_addPart_21 (by decide) ?_
  refine R_iadd (pc := 23) dX0_addPart_23 ?_
  refine R_eqi (y := nI (j + 8)) (nI_add j 8) ?_
  refine R_callVp (pc := 24) (μ' := mX6_eightAt) (As := [.int (nI (j + 8))]) (st := [.long lo, .ref a]) dX0_addPart_24 zX6_eightAt lX0_16 ⟨by decide, by decide⟩ rfl rfl ⟨by decide, by decide⟩ R_4.2.2.1 (by omega) rfl (Nat.le_of_ble_eq_true rfl) (qX6_eightAt l w _ _ _ _ _ R_4 (by omega) (j + 8) (by omega)) ?_
  refine R_lxor (pc := 27) dX0_addPart_27 ?_
  refine R_put' (pc := 28) (fs' := [.long (hi ^^^ (e8 L j)), .long (lo ^^^ (e8 L (j + 8)))]) dX0_addPart_28 fX0_13 tX0_1 rfl rfl f_2 (by omega) (Nat.le_of_ble_eq_true rfl) rfl (fun h_5 f_6 g_7 => ?_)
  have R_8 := rowAt.move R_4 (g_7 r (by omega)) (g_7 (r + 1) (by omega))
  exact R_vreturn (pc := 31) dX0_addPart_31 rfl (by decide) (by decide) ⟨rfl, rfl, f_6, (fun x_ n0_ => ((g_7 x_ n0_).trans (g_3 x_ n0_)))⟩
def mulS (q : Int64 × Int64 × Int64 × Int64 × Int64 × Int64) : Int64 × Int64 × Int64 × Int64 × Int64 × Int64 := match q with
  | (yh, yl, vh, vl, ah, al) => let v_2 := jlshr yh 63; let v_9 := (jlshl yh 1) ||| (jlushr yl 63); let v_10 := jlshl yl 1; let v_11 := -(vl &&& 1); let v_12 := (jlushr vl 1) ||| (jlshl vh 63); let v_13 := (jlushr vh 1) ^^^ (v_11 &&& (-2233785415175766016 : Int64)); (v_9, v_10, v_13, v_12, ah ^^^ (vh &&& v_2), al ^^^ (vl &&& v_2))
def mulN (hi lo fh fl : Int64) : Nat → Int64 × Int64 × Int64 × Int64 × Int64 × Int64
  | 0 => (hi, lo, fh, fl, 0, 0)
  | t + 1 => mulS (mulN hi lo fh fl t)
def vX0_multiply (hi lo fh fl : Int64) : Int64 × Int64 := let q := mulN hi lo fh fl 128; (q.2.2.2.2.1, q.2.2.2.2.2)
set_option maxHeartbeats 4000000 in
set_option maxRecDepth 100000 in
theorem qX0_multiply_loop (l : Launch) (w : am_W) (h : am_H) (n a b : Nat) (hi lo fh fl : Int64) (hn : 0 < a ∧ a ≤ n) : ∀ (d t : Nat) (yh yl vh vl ah al : Int64), t + d = 128 → mulN hi lo fh fl t = (yh, yl, vh, vl, ah, al) → ∀ h2, h2 a = .inr (.inr (0, [.long ah, .long al])) → (∀ x, x ≠ a → h2 x = h x) → RW l w mX0_multiply h2 n 0 0 36 [(10, .int (nI t)), (8, .long vl), (6, .long vh), (4, .long yl), (2, .long yh), (0, .ref a), (1, .ref b)] [] (fun h' n' r_ => n' = n ∧ (fun h' q => q = none ∧ h' a = .inr (.inr (0, [.long ((vX0_multiply hi lo fh fl).1), .long ((vX0_multiply hi lo fh fl).2)])) ∧ ∀ x, x ≠ a → h' x = h x) h' r_) := by
  intro d
  induction d with
  | zero =>
    intro t yh yl vh vl ah al ht hS h2 ha2 hF
    refine R_iload (pc := 36) 0 dX0_multiply_36 rfl ?_
    refine R_sipush (pc := 38) (v := 128) dX0_multiply_38 (by decide) ?_
    refine R_icmp_ge (pc := 41) (tgt := 132) dX0_multiply_41 (by decide) (fun c_1 => ?_) (fun c_1 => absurd (nI_le (a := 128) (by omega) (by omega)) c_1)
    exact R_vreturn (pc := 132) dX0_multiply_132 rfl (by decide) (by decide) ⟨rfl, rfl, by rw [show t = 128 by omega] at hS; rw [ha2]; unfold vX0_multiply; rw [hS], hF⟩
  | succ d ih =>
    intro t yh yl vh vl ah al ht hS h2 ha2 hF
    refine R_iload (pc := 36) 0 dX0_multiply_36 rfl ?_
    refine R_sipush (pc := 38) (v := 128) dX0_multiply_38 (by decide) ?_
    refine R_icmp_ge (pc := 41) (tgt := 132) dX0_multiply_41 (by decide) (fun c_1 => absurd c_1 (nI_ge (b := 128) (by omega) (by omega))) (fun c_1 => ?_)
    refine R_lload_n (pc := 44) 4 dX0_multiply_44 rfl rfl ?_
    refine R_bipush (pc := 45) (v := 63) dX0_multiply_45 (by decide) ?_
    refine R_lshr (pc := 47) (v := jlshr yh 63) dX0_multiply_47 rfl ?_
    refine R_topl (fun v_2 ev_2 => ?_)
    refine R_lstore (pc := 48) (lv' := [(11, .long v_2), (10, .int (nI t)), (8, .long vl), (6, .long vh), (4, .long yl), (2, .long yh), (0, .ref a), (1, .ref b)]) dX0_multiply_48 (by decide) rfl ?_
    refine R_aload_n (pc := 50) 6 dX0_multiply_50 rfl rfl ?_
    refine R_dup (pc := 51) dX0_multiply_51 rfl ?_
    refine R_get (pc := 52) dX0_multiply_52 fX0_7 ha2 (by omega) rfl ?_
    refine R_lload (pc := 55) 3 dX0_multiply_55 rfl ?_
    refine R_lload (pc := 57) 0 dX0_multiply_57 rfl ?_
    refine R_land (pc := 59) dX0_multiply_59 ?_
    refine R_lxor (pc := 60) dX0_multiply_60 ?_
    refine R_put' (pc := 61) (fs' := [.long (ah ^^^ (vh &&& v_2)), .long al]) dX0_multiply_61 fX0_7 tX0_0 rfl rfl ha2 (by omega) (Nat.le_of_ble_eq_true rfl) rfl (fun h_3 f_4 g_5 => ?_)
    refine R_aload_n (pc := 64) 6 dX0_multiply_64 rfl rfl ?_
    refine R_dup (pc := 65) dX0_multiply_65 rfl ?_
    refine R_get (pc := 66) dX0_multiply_66 fX0_13 f_4 (by omega) rfl ?_
    refine R_lload (pc := 69) 2 dX0_multiply_69 rfl ?_
    refine R_lload (pc := 71) 0 dX0_multiply_71 rfl ?_
    refine R_land (pc := 73) dX0_multiply_73 ?_
    refine R_lxor (pc := 74) dX0_multiply_74 ?_
    refine R_put' (pc := 75) (fs' := [.long (ah ^^^ (vh &&& v_2)), .long (al ^^^ (vl &&& v_2))]) dX0_multiply_75 fX0_13 tX0_1 rfl rfl f_4 (by omega) (Nat.le_of_ble_eq_true rfl) rfl (fun h_6 f_7 g_8 => ?_)
    refine R_lload_n (pc := 78) 5 dX0_multiply_78 rfl rfl ?_
    refine R_iconst (pc := 79) (v := 1) dX0_multiply_79 (by decide) ?_
    refine R_lshl (pc := 80) (v := jlshl yh 1) dX0_multiply_80 rfl ?_
    refine R_lload (pc := 81) 4 dX0_multiply_81 rfl ?_
    refine R_bipush (pc := 83) (v := 63) dX0_multiply_83 (by decide) ?_
    refine R_lushr (pc := 85) (v := jlushr yl 63) dX0_multiply_85 rfl ?_
    refine R_lor (pc := 86) dX0_multiply_86 ?_
    refine R_topl (fun v_9 ev_9 => ?_)
    refine R_lstore_n (pc := 87) (lv' := [(2, .long v_9), (11, .long v_2), (10, .int (nI t)), (8, .long vl), (6, .long vh), (4, .long yl), (0, .ref a), (1, .ref b)]) dX0_multiply_87 rfl (by decide) rfl ?_
    refine R_lload (pc := 88) 5 dX0_multiply_88 rfl ?_
    refine R_iconst (pc := 90) (v := 1) dX0_multiply_90 (by decide) ?_
    refine R_lshl (pc := 91) (v := jlshl yl 1) dX0_multiply_91 rfl ?_
    refine R_topl (fun v_10 ev_10 => ?_)
    refine R_lstore (pc := 92) (lv' := [(4, .long v_10), (2, .long v_9), (11, .long v_2), (10, .int (nI t)), (8, .long vl), (6, .long vh), (0, .ref a), (1, .ref b)]) dX0_multiply_92 (by decide) rfl ?_
    refine R_lload (pc := 94) 4 dX0_multiply_94 rfl ?_
    refine R_lconst (pc := 96) (v := 1) dX0_multiply_96 (by decide) ?_
    refine R_land (pc := 97) dX0_multiply_97 ?_
    refine R_lneg (pc := 98) dX0_multiply_98 ?_
    refine R_topl (fun v_11 ev_11 => ?_)
    refine R_lstore (pc := 99) (lv' := [(13, .long v_11), (4, .long v_10), (2, .long v_9), (11, .long v_2), (10, .int (nI t)), (8, .long vl), (6, .long vh), (0, .ref a), (1, .ref b)]) dX0_multiply_99 (by decide) rfl ?_
    refine R_lload (pc := 101) 5 dX0_multiply_101 rfl ?_
    refine R_iconst (pc := 103) (v := 1) dX0_multiply_103 (by decide) ?_
    refine R_lushr (pc := 104) (v := jlushr vl 1) dX0_multiply_104 rfl ?_
    refine R_lload (pc := 105) 6 dX0_multiply_105 rfl ?_
    refine R_bipush (pc := 107) (v := 63) dX0_multiply_107 (by decide) ?_
    refine R_lshl (pc := 109) (v := jlshl vh 63) dX0_multiply_109 rfl ?_
    refine R_lor (pc := 110) dX0_multiply_110 ?_
    refine R_topl (fun v_12 ev_12 => ?_)
    refine R_lstore (pc := 111) (lv' := [(8, .long v_12), (13, .long v_11), (4, .long v_10), (2, .long v_9), (11, .long v_2), (10, .int (nI t)), (6, .long vh), (0, .ref a), (1, .ref b)]) dX0_multiply_111 (by decide) rfl ?_
    refine R_lload (pc := 113) 6 dX0_multiply_113 rfl ?_
    refine R_iconst (pc := 115) (v := 1) dX0_multiply_115 (by decide) ?_
    refine R_lushr (pc := 116) (v := jlushr vh 1) dX0_multiply_116 rfl ?_
    refine R_lload (pc := 117) 1 dX0_multiply_117 rfl ?_
    refine R_ldc2 (pc := 119) dX0_multiply_119 cX0_39 ?_
    refine R_land (pc := 122) dX0_multiply_122 ?_
    refine R_lxor (pc := 123) dX0_multiply_123 ?_
    refine R_topl (fun v_13 ev_13 => ?_)
    refine R_lstore (pc := 124) (lv' := [(6, .long v_13), (8, .long v_12), (13, .long v_11), (4, .long v_10), (2, .long v_9), (11, .long v_2), (10, .int (nI t)), (0, .ref a), (1, .ref b)]) dX0_multiply_124 (by decide) rfl ?_
    refine R_iinc (pc := 126) (j := 6) (v := nI (t + 1)) (lv' := [(10, .int (nI (t + 1))), (6, .long v_13), (8, .long v_12), (13, .long v_11), (4, .long v_10), (2, .long v_9), (11, .long v_2), (0, .ref a), (1, .ref b)]) dX0_multiply_126 rfl (nI_1 t) (by decide) rfl ?_
    refine R_goto (pc := 129) (tgt := 36) dX0_multiply_129 (by decide) ?_
    refine R_sub [0, 2, 1, 4, 5, 7, 8] rfl ?_
    exact ih (t + 1) v_9 v_10 v_13 v_12 (ah ^^^ (vh &&& v_2)) (al ^^^ (vl &&& v_2)) (by omega) (by show mulS (mulN hi lo fh fl t) = _; rw [hS]; subst ev_13 ev_12 ev_11 ev_10 ev_9 ev_2; rfl) _ f_7 (fun x n0_ => ((fun x_ n0_ => ((g_8 x_ n0_).trans (g_5 x_ n0_))) x n0_).trans (hF x n0_))
set_option maxHeartbeats 4000000 in
set_option maxRecDepth 100000 in
theorem qX0_multiply (l : Launch) (w : am_W) (h : am_H) (n a b : Nat) (hi lo fh fl : Int64) (ha : h a = .inr (.inr (0, [.long hi, .long lo]))) (hn : 0 < a ∧ a ≤ n) (hb : h b = .inr (.inr (0, [.long fh, .long fl]))) (hm : 0 < b ∧ b ≤ n) (hne : b ≠ a) : RH l w mX0_multiply h n [.ref a, .ref b] (fun h' q => q = none ∧ h' a = .inr (.inr (0, [.long ((vX0_multiply hi lo fh fl).1), .long ((vX0_multiply hi lo fh fl).2)])) ∧ ∀ x, x ≠ a → h' x = h x) := by
  refine RC.of [(0, .ref a), (1, .ref b)] (by decide +kernel) rfl (Nat.le_of_ble_eq_true rfl) ?_
  refine R_aload_n (pc := 0) 0 dX0_multiply_0 rfl rfl ?_
  refine R_get (pc := 1) dX0_multiply_1 fX0_7 ha (by omega) rfl ?_
  refine R_lstore_n (pc := 4) (lv' := [(2, .long hi), (0, .ref a), (1, .ref b)]) dX0_multiply_4 rfl (by decide) rfl ?_
  refine R_aload_n (pc := 5) 1 dX0_multiply_5 rfl rfl ?_
  refine R_get (pc := 6) dX0_multiply_6 fX0_13 ha (by omega) rfl ?_
  refine R_lstore (pc := 9) (lv' := [(4, .long lo), (2, .long hi), (0, .ref a), (1, .ref b)]) dX0_multiply_9 (by decide) rfl ?_
  refine R_aload_n (pc := 11) 3 dX0_multiply_11 rfl rfl ?_
  refine R_get (pc := 12) dX0_multiply_12 fX0_7 hb (by omega) rfl ?_
  refine R_lstore (pc := 15) (lv' := [(6, .long fh), (4, .long lo), (2, .long hi), (0, .ref a), (1, .ref b)]) dX0_multiply_15 (by decide) rfl ?_
  refine R_aload_n (pc := 17) 4 dX0_multiply_17 rfl rfl ?_
  refine R_get (pc := 18) dX0_multiply_18 fX0_13 hb (by omega) rfl ?_
  refine R_lstore (pc := 21) (lv' := [(8, .long fl), (6, .long fh), (4, .long lo), (2, .long hi), (0, .ref a), (1, .ref b)]) dX0_multiply_21 (by decide) rfl ?_
  refine R_aload_n (pc := 23) 4 dX0_multiply_23 rfl rfl ?_
  refine R_lconst (pc := 24) (v := 0) dX0_multiply_24 (by decide) ?_
  refine R_put' (pc := 25) (fs' := [.long 0, .long lo]) dX0_multiply_25 fX0_7 tX0_0 rfl rfl ha (by omega) (Nat.le_of_ble_eq_true rfl) rfl (fun h_1 f_2 g_3 => ?_)
  have f_4 := (g_3 b hne).trans hb
  refine R_aload_n (pc := 28) 4 dX0_multiply_28 rfl rfl ?_
  refine R_lconst (pc := 29) (v := 0) dX0_multiply_29 (by decide) ?_
  refine R_put' (pc := 30) (fs' := [.long 0, .long 0]) dX0_multiply_30 fX0_13 tX0_1 rfl rfl f_2 (by omega) (Nat.le_of_ble_eq_true rfl) rfl (fun h_5 f_6 g_7 => ?_)
  have f_8 := (g_7 b hne).trans f_4
  refine R_iconst (pc := 33) (v := 0) dX0_multiply_33 (by decide) ?_
  refine R_istore (pc := 34) (lv' := [(10, .int 0), (8, .long fl), (6, .long fh), (4, .long lo), (2, .long hi), (0, .ref a), (1, .ref b)]) dX0_multiply_34 (by decide) rfl ?_
  refine R_sub [0, 1, 2, 3, 4, 5, 6] rfl ?_
  exact qX0_multiply_loop l w h n a b hi lo fh fl hn 128 0 _ _ _ _ _ _ rfl rfl _ f_6 (fun x_ n0_ => ((g_7 x_ n0_).trans (g_3 x_ n0_)))
set_option maxHeartbeats 4000000 in
set_option maxRecDepth 100000 in
theorem qX8_addKey (l : Launch) (w : am_W) (h : am_H) (n a b : Nat) (lo hi : Int64) (g : Nat → Int64) (ha : h a = .inr (.inr (8, [.long lo, .long hi]))) (hn : 0 < a ∧ a ≤ n) (hb : h b = .inr (.inl (30, g))) (hm : 0 < b ∧ b ≤ n) (hne : b ≠ a) (r : Nat) (hr : r ≤ 14) : RH l w mX8_addKey h n [.ref a, .ref b, .int (nI r)] (fun h' q => q = none ∧ h' a = .inr (.inr (8, [.long (lo ^^^ g (2 * r)), .long (hi ^^^ g (2 * r + 1))])) ∧ ∀ x, x ≠ a → h' x = h x) := by
  refine RC.of [(0, .ref a), (1, .ref b), (2, .int (nI r))] (by decide +kernel) rfl (Nat.le_of_ble_eq_true rfl) ?_
  refine R_iconst (pc := 0) (v := 2) dX8_addKey_0 (by decide) ?_
  refine R_iload_n (pc := 1) 2 dX8_addKey_1 rfl rfl ?_
  refine R_imul (pc := 2) dX8_addKey_2 ?_
  refine R_eqi (y := nI (2 * r)) (pk_mul 2 r) ?_
  refine R_istore_n (pc := 3) (lv' := [(3, .int (nI (2 * r))), (0, .ref a), (1, .ref b), (2, .int (nI r))]) dX8_addKey_3 rfl (by decide) rfl ?_
  refine R_iload_n (pc := 4) 0 dX8_addKey_4 rfl rfl ?_
  refine R_if_lt (pc := 5) (tgt := 42) dX8_addKey_5 (by decide) (fun c_1 => absurd c_1 (nI_pos (by omega))) (fun c_1 => ?_)
  refine R_iload_n (pc := 8) 0 dX8_addKey_8 rfl rfl ?_
  refine R_iconst (pc := 9) (v := 1) dX8_addKey_9 (by decide) ?_
  refine R_iadd (pc := 10) dX8_addKey_10 ?_
  refine R_eqi (y := nI (2 * r + 1)) (nI_1 (2 * r)) ?_
  refine R_aload_n (pc := 11) 2 dX8_addKey_11 rfl rfl ?_
  refine R_alenL (pc := 12) dX8_addKey_12 hb (by omega) ?_
  refine R_icmp_ge (pc := 13) (tgt := 42) dX8_addKey_13 (by decide) (fun c_2 => absurd c_2 (nI_ge (b := 30) (by omega) (by omega))) (fun c_2 => ?_)
  refine R_aload_n (pc := 16) 1 dX8_addKey_16 rfl rfl ?_
  refine R_dup (pc := 17) dX8_addKey_17 rfl ?_
  refine R_get (pc := 18) dX8_addKey_18 fX8_16 ha (by omega) rfl ?_
  refine R_aload_n (pc := 21) 2 dX8_addKey_21 rfl rfl ?_
  refine R_iload_n (pc := 22) 0 dX8_addKey_22 rfl rfl ?_
  refine R_lald' (pc := 23) (j := (2 * r)) dX8_addKey_23 hb (by omega) ⟨rfl, by omega, by omega⟩ ?_
  refine R_lxor (pc := 24) dX8_addKey_24 ?_
  refine R_put' (pc := 25) (fs' := [.long (lo ^^^ (g (2 * r))), .long hi]) dX8_addKey_25 fX8_16 tX8_0 rfl rfl ha (by omega) (Nat.le_of_ble_eq_true rfl) rfl (fun h_3 f_4 g_5 => ?_)
  have f_6 := (g_5 b hne).trans hb
  refine R_aload_n (pc := 28) 1 dX8_addKey_28 rfl rfl ?_
  refine R_dup (pc := 29) dX8_addKey_29 rfl ?_
  refine R_get (pc := 30) dX8_addKey_30 fX8_20 f_4 (by omega) rfl ?_
  refine R_aload_n (pc := 33) 2 dX8_addKey_33 rfl rfl ?_
  refine R_iload_n (pc := 34) 0 dX8_addKey_34 rfl rfl ?_
  refine R_iconst (pc := 35) (v := 1) dX8_addKey_35 (by decide) ?_
  refine R_iadd (pc := 36) dX8_addKey_36 ?_
  refine R_eqi (y := nI (2 * r + 1)) (nI_1 (2 * r)) ?_
  refine R_lald' (pc := 37) (j := (2 * r + 1)) dX8_addKey_37 f_6 (by omega) ⟨rfl, by omega, by omega⟩ ?_
  refine R_lxor (pc := 38) dX8_addKey_38 ?_
  refine R_put' (pc := 39) (fs' := [.long (lo ^^^ (g (2 * r))), .long (hi ^^^ (g (2 * r + 1)))]) dX8_addKey_39 fX8_20 tX8_1 rfl rfl f_4 (by omega) (Nat.le_of_ble_eq_true rfl) rfl (fun h_7 f_8 g_9 => ?_)
  have f_10 := (g_9 b hne).trans f_6
  exact R_vreturn (pc := 42) dX8_addKey_42 rfl (by decide) (by decide) ⟨rfl, rfl, f_8, (fun x_ n0_ => ((g_9 x_ n0_).trans (g_5 x_ n0_)))⟩
