def inI (v a b : Int32) : Int32 := if v < a then 0 else if b < v then 0 else 1
def roI (v : Int32) : Int32 := if v = 0 then 64 else if v = 1 then 512 else if v = 2 then 64 else 256
set_option maxHeartbeats 4000000 in
set_option maxRecDepth 100000 in
theorem qX12_in (l : Launch) (w : am_W) (h : am_H) (n : Nat) (v a b : Int32) : RP l w mX12_in h n [.int v, .int a, .int b] (.int (inI v a b)) := by
  refine RC.of [(0, .int v), (1, .int a), (2, .int b)] (by decide +kernel) rfl (Nat.le_of_ble_eq_true rfl) ?_
  refine R_iload_n (pc := 0) 0 dX12_in_0 rfl rfl ?_
  refine R_iload_n (pc := 1) 1 dX12_in_1 rfl rfl ?_
  refine R_icmp_lt (pc := 2) (tgt := 14) dX12_in_2 (by decide) (fun c_1 => ?_) (fun c_1 => ?_)
  · skip
    refine R_iconst (pc := 14) (v := 0) dX12_in_14 (by decide) ?_
    exact R_zreturn (pc := 15) dX12_in_15 rfl rfl (by decide) (by decide) ⟨rfl, rfl, by unfold inI; rw [if_pos c_1]⟩
  · skip
    refine R_iload_n (pc := 5) 0 dX12_in_5 rfl rfl ?_
    refine R_iload_n (pc := 6) 2 dX12_in_6 rfl rfl ?_
    refine R_icmp_gt (pc := 7) (tgt := 14) dX12_in_7 (by decide) (fun c_2 => ?_) (fun c_2 => ?_)
    · skip
      refine R_iconst (pc := 14) (v := 0) dX12_in_14 (by decide) ?_
      exact R_zreturn (pc := 15) dX12_in_15 rfl rfl (by decide) (by decide) ⟨rfl, rfl, by unfold inI; rw [if_neg c_1, if_pos c_2]⟩
    · skip
      refine R_iconst (pc := 10) (v := 1) dX12_in_10 (by decide) ?_
      refine R_goto (pc := 11) (tgt := 15) dX12_in_11 (by decide) ?_
      exact R_zreturn (pc := 15) dX12_in_15 rfl rfl (by decide) (by decide) ⟨rfl, rfl, by unfold inI; rw [if_neg c_1, if_neg c_2]⟩
set_option maxHeartbeats 4000000 in
set_option maxRecDepth 100000 in
theorem qX12_room (l : Launch) (w : am_W) (h : am_H) (n : Nat) (v : Int32) : RP l w mX12_room h n [.int v] (.int (roI v)) := by
  refine RC.of [(0, .int v)] (by decide +kernel) rfl (Nat.le_of_ble_eq_true rfl) ?_
  refine R_iload_n (pc := 0) 0 dX12_room_0 rfl rfl ?_
  refine R_if_ne (pc := 1) (tgt := 9) dX12_room_1 (by decide) (fun c_1 => ?_) (fun c_1 => ?_)
  · skip
    refine R_iload_n (pc := 9) 0 dX12_room_9 rfl rfl ?_
    refine R_iconst (pc := 10) (v := 1) dX12_room_10 (by decide) ?_
    refine R_icmp_ne (pc := 11) (tgt := 20) dX12_room_11 (by decide) (fun c_2 => ?_) (fun c_2 => ?_)
    · skip
      refine R_iload_n (pc := 20) 0 dX12_room_20 rfl rfl ?_
      refine R_iconst (pc := 21) (v := 2) dX12_room_21 (by decide) ?_
      refine R_icmp_ne (pc := 22) (tgt := 30) dX12_room_22 (by decide) (fun c_3 => ?_) (fun c_3 => ?_)
      · skip
        refine R_sipush (pc := 30) (v := 256) dX12_room_30 (by decide) ?_
        exact R_ireturn (pc := 33) dX12_room_33 rfl (by decide) (by decide) ⟨rfl, rfl, by unfold roI; rw [if_neg c_1, if_neg c_2, if_neg c_3]⟩
      · skip
        refine R_bipush (pc := 25) (v := 64) dX12_room_25 (by decide) ?_
        refine R_goto (pc := 27) (tgt := 33) dX12_room_27 (by decide) ?_
        exact R_ireturn (pc := 33) dX12_room_33 rfl (by decide) (by decide) ⟨rfl, rfl, by unfold roI; rw [if_neg c_1, if_neg c_2, if_pos c_3]⟩
    · skip
      refine R_sipush (pc := 14) (v := 512) dX12_room_14 (by decide) ?_
      refine R_goto (pc := 17) (tgt := 33) dX12_room_17 (by decide) ?_
      exact R_ireturn (pc := 33) dX12_room_33 rfl (by decide) (by decide) ⟨rfl, rfl, by unfold roI; rw [if_neg c_1, if_pos c_2]⟩
  · skip
    refine R_bipush (pc := 4) (v := 64) dX12_room_4 (by decide) ?_
    refine R_goto (pc := 6) (tgt := 33) dX12_room_6 (by decide) ?_
    exact R_ireturn (pc := 33) dX12_room_33 rfl (by decide) (by decide) ⟨rfl, rfl, by unfold roI; rw [if_pos c_1]⟩
def tmX (a : Int32) : Nat → Int32
  | 0 => a
  | k + 1 => tmX a k <<< ((1 : Int32) &&& 31) ^^^ (if tmX a k &&& 128 = 0 then 0 else 283)
def tmP (a b : Int32) : Nat → Int32
  | 0 => 0
  | k + 1 => tmP a b k ^^^ (if (b >>> (nI k &&& 31)) &&& 1 = 1 then tmX a k else 0)
set_option maxHeartbeats 4000000 in
set_option maxRecDepth 100000 in
theorem qX12_times_loop (l : Launch) (w : am_W) (h : am_H) (n : Nat) (a b : Int32) : ∀ (d k : Nat), k + d = 8 → RW l w mX12_times h n 0 0 7 [(4, .int (nI k)), (3, .int (tmX a k)), (2, .int (tmP a b k)), (0, .int a), (1, .int b)] [] (fun h' n' q => h' = h ∧ n' = n ∧ q = some (.int (tmP a b 8))) := by
  intro d
  induction d with
  | zero =>
    intro k hd
    refine R_iload (pc := 7) 0 dX12_times_7 rfl ?_
    refine R_bipush (pc := 9) (v := 8) dX12_times_9 (by decide) ?_
    refine R_icmp_ge (pc := 11) (tgt := 58) dX12_times_11 (by decide) (fun c_1 => ?_) (fun c_1 => absurd (nI_le (a := 8) (b := k) (by omega) (by omega)) c_1)
    refine R_iload_n (pc := 58) 2 dX12_times_58 rfl rfl ?_
    obtain rfl : k = 8 := by omega
    exact R_ireturn (pc := 59) dX12_times_59 rfl (by decide) (by decide) ⟨rfl, rfl, rfl⟩
  | succ d ih =>
    intro k hd
    refine R_iload (pc := 7) 0 dX12_times_7 rfl ?_
    refine R_bipush (pc := 9) (v := 8) dX12_times_9 (by decide) ?_
    refine R_icmp_ge (pc := 11) (tgt := 58) dX12_times_11 (by decide) (fun c_1 => absurd c_1 (nI_ge (a := k) (b := 8) (by omega) (by omega))) (fun c_1 => ?_)
    refine R_iload_n (pc := 14) 2 dX12_times_14 rfl rfl ?_
    refine R_iload_n (pc := 15) 4 dX12_times_15 rfl rfl ?_
    refine R_iload (pc := 16) 0 dX12_times_16 rfl ?_
    refine R_ishr (pc := 18) dX12_times_18 ?_
    refine R_iconst (pc := 19) (v := 1) dX12_times_19 (by decide) ?_
    refine R_iand (pc := 20) dX12_times_20 ?_
    refine R_iconst (pc := 21) (v := 1) dX12_times_21 (by decide) ?_
    refine R_icmp_ne (pc := 22) (tgt := 29) dX12_times_22 (by decide) (fun c_2 => ?_) (fun c_2 => ?_)
    · skip
      refine R_iconst (pc := 29) (v := 0) dX12_times_29 (by decide) ?_
      refine R_eqi (y := if (b >>> (nI k &&& 31)) &&& 1 = 1 then tmX a k else 0) (by rw [if_neg c_2]) ?_
      refine R_ixor (pc := 30) dX12_times_30 ?_
      refine R_eqi (y := tmP a b (k + 1)) (rfl) ?_
      refine R_istore_n (pc := 31) (lv' := [(2, .int (tmP a b (k + 1))), (4, .int (nI k)), (3, .int (tmX a k)), (0, .int a), (1, .int b)]) dX12_times_31 rfl (by decide) rfl ?_
      refine R_iload_n (pc := 32) 2 dX12_times_32 rfl rfl ?_
      refine R_iconst (pc := 33) (v := 1) dX12_times_33 (by decide) ?_
      refine R_ishl (pc := 34) dX12_times_34 ?_
      refine R_iload_n (pc := 35) 2 dX12_times_35 rfl rfl ?_
      refine R_sipush (pc := 36) (v := 128) dX12_times_36 (by decide) ?_
      refine R_iand (pc := 39) dX12_times_39 ?_
      refine R_if_eq (pc := 40) (tgt := 49) dX12_times_40 (by decide) (fun c_3 => ?_) (fun c_3 => ?_)
      · skip
        refine R_iconst (pc := 49) (v := 0) dX12_times_49 (by decide) ?_
        refine R_eqi (y := if tmX a k &&& 128 = 0 then 0 else 283) (by rw [if_pos c_3]) ?_
        refine R_ixor (pc := 50) dX12_times_50 ?_
        refine R_eqi (y := tmX a (k + 1)) (rfl) ?_
        refine R_istore_n (pc := 51) (lv' := [(3, .int (tmX a (k + 1))), (2, .int (tmP a b (k + 1))), (4, .int (nI k)), (0, .int a), (1, .int b)]) dX12_times_51 rfl (by decide) rfl ?_
        refine R_iinc (pc := 52) (j := 2) (v := nI (k + 1)) (lv' := [(4, .int (nI (k + 1))), (3, .int (tmX a (k + 1))), (2, .int (tmP a b (k + 1))), (0, .int a), (1, .int b)]) dX12_times_52 rfl (nI_1 k) (by decide) rfl ?_
        refine R_goto (pc := 55) (tgt := 7) dX12_times_55 (by decide) ?_
        refine R_sub [0, 1, 2, 3, 4] rfl ?_
        exact ih (k + 1) (by omega)
      · skip
        refine R_sipush (pc := 43) (v := 283) dX12_times_43 (by decide) ?_
        refine R_goto (pc := 46) (tgt := 50) dX12_times_46 (by decide) ?_
        refine R_eqi (y := if tmX a k &&& 128 = 0 then 0 else 283) (by rw [if_neg c_3]) ?_
        refine R_ixor (pc := 50) dX12_times_50 ?_
        refine R_eqi (y := tmX a (k + 1)) (rfl) ?_
        refine R_istore_n (pc := 51) (lv' := [(3, .int (tmX a (k + 1))), (2, .int (tmP a b (k + 1))), (4, .int (nI k)), (0, .int a), (1, .int b)]) dX12_times_51 rfl (by decide) rfl ?_
        refine R_iinc (pc := 52) (j := 2) (v := nI (k + 1)) (lv' := [(4, .int (nI (k + 1))), (3, .int (tmX a (k + 1))), (2, .int (tmP a b (k + 1))), (0, .int a), (1, .int b)]) dX12_times_52 rfl (nI_1 k) (by decide) rfl ?_
        refine R_goto (pc := 55) (tgt := 7) dX12_times_55 (by decide) ?_
        refine R_sub [0, 1, 2, 3, 4] rfl ?_
        exact ih (k + 1) (by omega)
    · skip
      refine R_iload_n (pc := 25) 1 dX12_times_25 rfl rfl ?_
      refine R_goto (pc := 26) (tgt := 30) dX12_times_26 (by decide) ?_
      refine R_eqi (y := if (b >>> (nI k &&& 31)) &&& 1 = 1 then tmX a k else 0) (by rw [if_pos c_2]) ?_
      refine R_ixor (pc := 30) dX12_times_30 ?_
      refine R_eqi (y := tmP a b (k + 1)) (rfl) ?_
      refine R_istore_n (pc := 31) (lv' := [(2, .int (tmP a b (k + 1))), (4, .int (nI k)), (3, .int (tmX a k)), (0, .int a), (1, .int b)]) dX12_times_31 rfl (by decide) rfl ?_
      refine R_iload_n (pc := 32) 2 dX12_times_32 rfl rfl ?_
      refine R_iconst (pc := 33) (v := 1) dX12_times_33 (by decide) ?_
      refine R_ishl (pc := 34) dX12_times_34 ?_
      refine R_iload_n (pc := 35) 2 dX12_times_35 rfl rfl ?_
      refine R_sipush (pc := 36) (v := 128) dX12_times_36 (by decide) ?_
      refine R_iand (pc := 39) dX12_times_39 ?_
      refine R_if_eq (pc := 40) (tgt := 49) dX12_times_40 (by decide) (fun c_4 => ?_) (fun c_4 => ?_)
      · skip
        refine R_iconst (pc := 49) (v := 0) dX12_times_49 (by decide) ?_
        refine R_eqi (y := if tmX a k &&& 128 = 0 then 0 else 283) (by rw [if_pos c_4]) ?_
        refine R_ixor (pc := 50) dX12_times_50 ?_
        refine R_eqi (y := tmX a (k + 1)) (rfl) ?_
        refine R_istore_n (pc := 51) (lv' := [(3, .int (tmX a (k + 1))), (2, .int (tmP a b (k + 1))), (4, .int (nI k)), (0, .int a), (1, .int b)]) dX12_times_51 rfl (by decide) rfl ?_
        refine R_iinc (pc := 52) (j := 2) (v := nI (k + 1)) (lv' := [(4, .int (nI (k + 1))), (3, .int (tmX a (k + 1))), (2, .int (tmP a b (k + 1))), (0, .int a), (1, .int b)]) dX12_times_52 rfl (nI_1 k) (by decide) rfl ?_
        refine R_goto (pc := 55) (tgt := 7) dX12_times_55 (by decide) ?_
        refine R_sub [0, 1, 2, 3, 4] rfl ?_
        exact ih (k + 1) (by omega)
      · skip
        refine R_sipush (pc := 43) (v := 283) dX12_times_43 (by decide) ?_
        refine R_goto (pc := 46) (tgt := 50) dX12_times_46 (by decide) ?_
        refine R_eqi (y := if tmX a k &&& 128 = 0 then 0 else 283) (by rw [if_neg c_4]) ?_
        refine R_ixor (pc := 50) dX12_times_50 ?_
        refine R_eqi (y := tmX a (k + 1)) (rfl) ?_
        refine R_istore_n (pc := 51) (lv' := [(3, .int (tmX a (k + 1))), (2, .int (tmP a b (k + 1))), (4, .int (nI k)), (0, .int a), (1, .int b)]) dX12_times_51 rfl (by decide) rfl ?_
        refine R_iinc (pc := 52) (j := 2) (v := nI (k + 1)) (lv' := [(4, .int (nI (k + 1))), (3, .int (tmX a (k + 1))), (2, .int (tmP a b (k + 1))), (0, .int a), (1, .int b)]) dX12_times_52 rfl (nI_1 k) (by decide) rfl ?_
        refine R_goto (pc := 55) (tgt := 7) dX12_times_55 (by decide) ?_
        refine R_sub [0, 1, 2, 3, 4] rfl ?_
        exact ih (k + 1) (by omega)
set_option maxHeartbeats 4000000 in
set_option maxRecDepth 100000 in
theorem qX12_times (l : Launch) (w : am_W) (h : am_H) (n : Nat) (a b : Int32) : RP l w mX12_times h n [.int a, .int b] (.int (tmP a b 8)) := by
  refine RC.of [(0, .int a), (1, .int b)] (by decide +kernel) rfl (Nat.le_of_ble_eq_true rfl) ?_
  refine R_iconst (pc := 0) (v := 0) dX12_times_0 (by decide) ?_
  refine R_istore_n (pc := 1) (lv' := [(2, .int 0), (0, .int a), (1, .int b)]) dX12_times_1 rfl (by decide) rfl ?_
  refine R_iload_n (pc := 2) 1 dX12_times_2 rfl rfl ?_
  refine R_istore_n (pc := 3) (lv' := [(3, .int a), (2, .int 0), (0, .int a), (1, .int b)]) dX12_times_3 rfl (by decide) rfl ?_
  refine R_iconst (pc := 4) (v := 0) dX12_times_4 (by decide) ?_
  refine R_istore (pc := 5) (lv' := [(4, .int 0), (3, .int a), (2, .int 0), (0, .int a), (1, .int b)]) dX12_times_5 (by decide) rfl ?_
  refine R_sub [0, 1, 2, 3, 4] rfl ?_
  exact qX12_times_loop l w h n a b 8 0 (by omega)
set_option maxHeartbeats 4000000 in
set_option maxRecDepth 100000 in
theorem qX12_copy_loop {l : Launch} {w : am_W} {h : am_H} {n : Nat} {φ : Nat → fA} {i : mI} (S : MS h φ i) (hn : 90 ≤ n) {p q : Nat} (hp : isA p = true) (hq : isA q = true) (b t m : Nat) (hb : b + m ≤ mN p) (ht : t + m ≤ mN q) (hpq : p ≠ q) : ∀ (dd k : Nat), k + dd = m → ∀ h2, MS h2 (uf φ q (cpF (φ p) b (φ q) t k)) i → FM h h2 → RW l w mX12_copy h2 n 0 0 3 [(5, .int (nI k)), (0, .ref p), (1, .int (nI b)), (2, .ref q), (3, .int (nI t)), (4, .int (nI m))] [] (fun h' n' r => n' = n ∧ (mQ h none (uf φ q (cpF (φ p) b (φ q) t m)) i) h' r) := by
  have hNp := mN_le p
  have hNq := mN_le q
  have hpb := isA_b hp
  have hqb := isA_b hq
  intro dd
  induction dd with
  | zero =>
    intro k hd h2 S2 hF
    refine R_iload (pc := 3) 0 dX12_copy_3 rfl ?_
    refine R_iload (pc := 5) 5 dX12_copy_5 rfl ?_
    refine R_icmp_ge (pc := 7) (tgt := 28) dX12_copy_7 (by decide) (fun c_1 => ?_) (fun c_1 => absurd (nI_le (by omega) (by omega)) c_1)
    obtain rfl : k = m := by omega
    exact R_vreturn (pc := 28) dX12_copy_28 rfl (by decide) (by decide) ⟨rfl, rfl, S2, hF⟩
  | succ dd ih =>
    intro k hd h2 S2 hF
    refine R_iload (pc := 3) 0 dX12_copy_3 rfl ?_
    refine R_iload (pc := 5) 5 dX12_copy_5 rfl ?_
    refine R_icmp_ge (pc := 7) (tgt := 28) dX12_copy_7 (by decide) (fun c_1 => absurd c_1 (nI_ge (by omega) (by omega))) (fun c_1 => ?_)
    refine R_aload_n (pc := 10) 3 dX12_copy_10 rfl rfl ?_
    refine R_iload_n (pc := 11) 4 dX12_copy_11 rfl rfl ?_
    refine R_iload (pc := 12) 0 dX12_copy_12 rfl ?_
    refine R_iadd (pc := 14) dX12_copy_14 ?_
    refine R_aload_n (pc := 15) 1 dX12_copy_15 rfl rfl ?_
    refine R_iload_n (pc := 16) 2 dX12_copy_16 rfl rfl ?_
    refine R_iload (pc := 17) 0 dX12_copy_17 rfl ?_
    refine R_iadd (pc := 19) dX12_copy_19 ?_
    refine R_iald' (pc := 20) (j := b + k) dX12_copy_20 (S2.1 p hp) (by omega) ⟨nI_add b k, by omega, by omega⟩ ?_
    refine R_eqi (y := φ p (b + k)) (by first | rfl | (simp only [uf_s, uf_n, ne_eq, uf_n (x := p) (p := q) hpq])) ?_
    refine R_iast' (pc := 21) (j := t + k) dX12_copy_21 (S2.1 q hq) (by omega) ⟨nI_add t k, by omega, by omega⟩ (fun h_2 f_3 g_4 => ?_)
    have f_5 : h_2 q = .inl (mN q, upd (cpF (φ p) b (φ q) t k) (t + k) (φ p (b + k))) := by first | exact f_3 | (simp only [uf_s, uf_n (x := p) (p := q) hpq] at f_3; exact f_3)
    have S_6 : MS h_2 (uf φ q (upd (cpF (φ p) b (φ q) t k) (t + k) (φ p (b + k)))) i := by have z_ := MS.setA (p := q) (f := upd (cpF (φ p) b (φ q) t k) (t + k) (φ p (b + k))) S2 hq f_5 g_4; rw [uf_uf] at z_; exact z_
    have F_7 := fmA (p := q) hq g_4
    refine R_iinc (pc := 22) (j := 0) (v := nI (k + 1)) (lv' := [(5, .int (nI (k + 1))), (0, .ref p), (1, .int (nI b)), (2, .ref q), (3, .int (nI t)), (4, .int (nI m))]) dX12_copy_22 rfl (nI_1 k) (by decide) rfl ?_
    refine R_goto (pc := 25) (tgt := 3) dX12_copy_25 (by decide) ?_
    refine R_sub [0, 1, 2, 3, 4, 5] rfl ?_
    exact ih (k + 1) (by omega) h_2 (by have z_ := S_6; rw [cpF_up _ _ _ _ _ rfl] at z_; exact z_) (hF.tr F_7)
set_option maxHeartbeats 4000000 in
set_option maxRecDepth 100000 in
theorem qX12_copy {l : Launch} {w : am_W} {h : am_H} {n : Nat} {φ : Nat → fA} {i : mI} (S : MS h φ i) (hn : 90 ≤ n) {p q : Nat} (hp : isA p = true) (hq : isA q = true) (b t m : Nat) (hb : b + m ≤ mN p) (ht : t + m ≤ mN q) (hpq : p ≠ q) : RH l w mX12_copy h n [.ref p, .int (nI b), .ref q, .int (nI t), .int (nI m)] (mQ h none (uf φ q (cpF (φ p) b (φ q) t m)) i) := by
  refine RC.of [(0, .ref p), (1, .int (nI b)), (2, .ref q), (3, .int (nI t)), (4, .int (nI m))] (by decide +kernel) rfl (Nat.le_of_ble_eq_true rfl) ?_
  refine R_iconst (pc := 0) (v := 0) dX12_copy_0 (by decide) ?_
  refine R_istore (pc := 1) (lv' := [(5, .int 0), (0, .ref p), (1, .int (nI b)), (2, .ref q), (3, .int (nI t)), (4, .int (nI m))]) dX12_copy_1 (by decide) rfl ?_
  refine R_sub [0, 1, 2, 3, 4, 5] rfl ?_
  exact qX12_copy_loop S hn hp hq b t m hb ht hpq m 0 (by omega) h (by rw [cpF_0, uf_id]; exact S) (FM.rf h)
set_option maxHeartbeats 4000000 in
set_option maxRecDepth 100000 in
theorem qX12_add_loop {l : Launch} {w : am_W} {h : am_H} {n : Nat} {φ : Nat → fA} {i : mI} (S : MS h φ i) (hn : 90 ≤ n) {p q : Nat} (hp : isA p = true) (hq : isA q = true) (b t m : Nat) (hb : b + m ≤ mN p) (ht : t + m ≤ mN q) (hpq : p ≠ q) : ∀ (dd k : Nat), k + dd = m → ∀ h2, MS h2 (uf φ q (adF (φ p) b (φ q) t k)) i → FM h h2 → RW l w mX12_add h2 n 0 0 3 [(5, .int (nI k)), (0, .ref p), (1, .int (nI b)), (2, .ref q), (3, .int (nI t)), (4, .int (nI m))] [] (fun h' n' r => n' = n ∧ (mQ h none (uf φ q (adF (φ p) b (φ q) t m)) i) h' r) := by
  have hNp := mN_le p
  have hNq := mN_le q
  have hpb := isA_b hp
  have hqb := isA_b hq
  intro dd
  induction dd with
  | zero =>
    intro k hd h2 S2 hF
    refine R_iload (pc := 3) 0 dX12_add_3 rfl ?_
    refine R_iload (pc := 5) 5 dX12_add_5 rfl ?_
    refine R_icmp_ge (pc := 7) (tgt := 31) dX12_add_7 (by decide) (fun c_1 => ?_) (fun c_1 => absurd (nI_le (by omega) (by omega)) c_1)
    obtain rfl : k = m := by omega
    exact R_vreturn (pc := 31) dX12_add_31 rfl (by decide) (by decide) ⟨rfl, rfl, S2, hF⟩
  | succ dd ih =>
    intro k hd h2 S2 hF
    refine R_iload (pc := 3) 0 dX12_add_3 rfl ?_
    refine R_iload (pc := 5) 5 dX12_add_5 rfl ?_
    refine R_icmp_ge (pc := 7) (tgt := 31) dX12_add_7 (by decide) (fun c_1 => absurd c_1 (nI_ge (by omega) (by omega))) (fun c_1 => ?_)
    refine R_aload_n (pc := 10) 3 dX12_add_10 rfl rfl ?_
    refine R_iload_n (pc := 11) 4 dX12_add_11 rfl rfl ?_
    refine R_iload (pc := 12) 0 dX12_add_12 rfl ?_
    refine R_iadd (pc := 14) dX12_add_14 ?_
    refine R_dup2 (pc := 15) dX12_add_15 rfl rfl ?_
    refine R_iald' (pc := 16) (j := t + k) dX12_add_16 (S2.1 q hq) (by omega) ⟨nI_add t k, by omega, by omega⟩ ?_
    refine R_eqi (y := (adF (φ p) b (φ q) t k) (t + k)) (by first | rfl | (simp only [uf_s, uf_n, ne_eq, uf_n (x := p) (p := q) hpq])) ?_
    refine R_aload_n (pc := 17) 1 dX12_add_17 rfl rfl ?_
    refine R_iload_n (pc := 18) 2 dX12_add_18 rfl rfl ?_
    refine R_iload (pc := 19) 0 dX12_add_19 rfl ?_
    refine R_iadd (pc := 21) dX12_add_21 ?_
    refine R_iald' (pc := 22) (j := b + k) dX12_add_22 (S2.1 p hp) (by omega) ⟨nI_add b k, by omega, by omega⟩ ?_
    refine R_eqi (y := φ p (b + k)) (by first | rfl | (simp only [uf_s, uf_n, ne_eq, uf_n (x := p) (p := q) hpq])) ?_
    refine R_ixor (pc := 23) dX12_add_23 ?_
    refine R_iast' (pc := 24) (j := t + k) dX12_add_24 (S2.1 q hq) (by omega) ⟨nI_add t k, by omega, by omega⟩ (fun h_2 f_3 g_4 => ?_)
    have f_5 : h_2 q = .inl (mN q, upd (adF (φ p) b (φ q) t k) (t + k) (((adF (φ p) b (φ q) t k) (t + k)) ^^^ (φ p (b + k)))) := by first | exact f_3 | (simp only [uf_s, uf_n (x := p) (p := q) hpq] at f_3; exact f_3)
    have S_6 : MS h_2 (uf φ q (upd (adF (φ p) b (φ q) t k) (t + k) (((adF (φ p) b (φ q) t k) (t + k)) ^^^ (φ p (b + k))))) i := by have z_ := MS.setA (p := q) (f := upd (adF (φ p) b (φ q) t k) (t + k) (((adF (φ p) b (φ q) t k) (t + k)) ^^^ (φ p (b + k)))) S2 hq f_5 g_4; rw [uf_uf] at z_; exact z_
    have F_7 := fmA (p := q) hq g_4
    refine R_iinc (pc := 25) (j := 0) (v := nI (k + 1)) (lv' := [(5, .int (nI (k + 1))), (0, .ref p), (1, .int (nI b)), (2, .ref q), (3, .int (nI t)), (4, .int (nI m))]) dX12_add_25 rfl (nI_1 k) (by decide) rfl ?_
    refine R_goto (pc := 28) (tgt := 3) dX12_add_28 (by decide) ?_
    refine R_sub [0, 1, 2, 3, 4, 5] rfl ?_
    exact ih (k + 1) (by omega) h_2 (by have z_ := S_6; rw [adF_up] at z_; exact z_) (hF.tr F_7)
set_option maxHeartbeats 4000000 in
set_option maxRecDepth 100000 in
theorem qX12_add {l : Launch} {w : am_W} {h : am_H} {n : Nat} {φ : Nat → fA} {i : mI} (S : MS h φ i) (hn : 90 ≤ n) {p q : Nat} (hp : isA p = true) (hq : isA q = true) (b t m : Nat) (hb : b + m ≤ mN p) (ht : t + m ≤ mN q) (hpq : p ≠ q) : RH l w mX12_add h n [.ref p, .int (nI b), .ref q, .int (nI t), .int (nI m)] (mQ h none (uf φ q (adF (φ p) b (φ q) t m)) i) := by
  refine RC.of [(0, .ref p), (1, .int (nI b)), (2, .ref q), (3, .int (nI t)), (4, .int (nI m))] (by decide +kernel) rfl (Nat.le_of_ble_eq_true rfl) ?_
  refine R_iconst (pc := 0) (v := 0) dX12_add_0 (by decide) ?_
  refine R_istore (pc := 1) (lv' := [(5, .int 0), (0, .ref p), (1, .int (nI b)), (2, .ref q), (3, .int (nI t)), (4, .int (nI m))]) dX12_add_1 (by decide) rfl ?_
  refine R_sub [0, 1, 2, 3, 4, 5] rfl ?_
  exact qX12_add_loop S hn hp hq b t m hb ht hpq m 0 (by omega) h (by rw [adF_0, uf_id]; exact S) (FM.rf h)
theorem cpF_hi (f : fA) (b : Nat) (g : fA) (t k : Nat) (h : t ≤ b) : cpF f b g t k (b + k) = g (b + k) := if_neg (by omega)
set_option maxHeartbeats 4000000 in
set_option maxRecDepth 100000 in
theorem qX12_copy1_loop {l : Launch} {w : am_W} {h : am_H} {n : Nat} {φ : Nat → fA} {i : mI} (S : MS h φ i) (hn : 90 ≤ n) {q : Nat} (hq : isA q = true) (b t m : Nat) (hb : b + m ≤ mN q) (htb : t ≤ b) : ∀ (dd k : Nat), k + dd = m → ∀ h2, MS h2 (uf φ q (cpF (φ q) b (φ q) t k)) i → FM h h2 → RW l w mX12_copy h2 n 0 0 3 [(5, .int (nI k)), (0, .ref q), (1, .int (nI b)), (2, .ref q), (3, .int (nI t)), (4, .int (nI m))] [] (fun h' n' r => n' = n ∧ (mQ h none (uf φ q (cpF (φ q) b (φ q) t m)) i) h' r) := by
  have hNq := mN_le q
  have hqb := isA_b hq
  intro dd
  induction dd with
  | zero =>
    intro k hd h2 S2 hF
    refine R_iload (pc := 3) 0 dX12_copy_3 rfl ?_
    refine R_iload (pc := 5) 5 dX12_copy_5 rfl ?_
    refine R_icmp_ge (pc := 7) (tgt := 28) dX12_copy_7 (by decide) (fun c_1 => ?_) (fun c_1 => absurd (nI_le (by omega) (by omega)) c_1)
    obtain rfl : k = m := by omega
    exact R_vreturn (pc := 28) dX12_copy_28 rfl (by decide) (by decide) ⟨rfl, rfl, S2, hF⟩
  | succ dd ih =>
    intro k hd h2 S2 hF
    refine R_iload (pc := 3) 0 dX12_copy_3 rfl ?_
    refine R_iload (pc := 5) 5 dX12_copy_5 rfl ?_
    refine R_icmp_ge (pc := 7) (tgt := 28) dX12_copy_7 (by decide) (fun c_1 => absurd c_1 (nI_ge (by omega) (by omega))) (fun c_1 => ?_)
    refine R_aload_n (pc := 10) 3 dX12_copy_10 rfl rfl ?_
    refine R_iload_n (pc := 11) 4 dX12_copy_11 rfl rfl ?_
    refine R_iload (pc := 12) 0 dX12_copy_12 rfl ?_
    refine R_iadd (pc := 14) dX12_copy_14 ?_
    refine R_aload_n (pc := 15) 1 dX12_copy_15 rfl rfl ?_
    refine R_iload_n (pc := 16) 2 dX12_copy_16 rfl rfl ?_
    refine R_iload (pc := 17) 0 dX12_copy_17 rfl ?_
    refine R_iadd (pc := 19) dX12_copy_19 ?_
    refine R_iald' (pc := 20) (j := b + k) dX12_copy_20 (S2.1 q hq) (by omega) ⟨nI_add b k, by omega, by omega⟩ ?_
    refine R_eqi (y := (cpF (φ q) b (φ q) t k) (b + k)) (by first | rfl | (simp only [uf_s, uf_n, ne_eq])) ?_
    refine R_iast' (pc := 21) (j := t + k) dX12_copy_21 (S2.1 q hq) (by omega) ⟨nI_add t k, by omega, by omega⟩ (fun h_2 f_3 g_4 => ?_)
    have f_5 : h_2 q = .inl (mN q, upd (cpF (φ q) b (φ q) t k) (t + k) ((cpF (φ q) b (φ q) t k) (b + k))) := by first | exact f_3 | (simp only [uf_s] at f_3; exact f_3)
    have S_6 : MS h_2 (uf φ q (upd (cpF (φ q) b (φ q) t k) (t + k) ((cpF (φ q) b (φ q) t k) (b + k)))) i := by have z_ := MS.setA (p := q) (f := upd (cpF (φ q) b (φ q) t k) (t + k) ((cpF (φ q) b (φ q) t k) (b + k))) S2 hq f_5 g_4; rw [uf_uf] at z_; exact z_
    have F_7 := fmA (p := q) hq g_4
    refine R_iinc (pc := 22) (j := 0) (v := nI (k + 1)) (lv' := [(5, .int (nI (k + 1))), (0, .ref q), (1, .int (nI b)), (2, .ref q), (3, .int (nI t)), (4, .int (nI m))]) dX12_copy_22 rfl (nI_1 k) (by decide) rfl ?_
    refine R_goto (pc := 25) (tgt := 3) dX12_copy_25 (by decide) ?_
    refine R_sub [0, 1, 2, 3, 4, 5] rfl ?_
    exact ih (k + 1) (by omega) h_2 (by have z_ := S_6; rw [cpF_up _ _ _ _ _ (cpF_hi _ _ _ _ _ htb)] at z_; exact z_) (hF.tr F_7)
set_option maxHeartbeats 4000000 in
set_option maxRecDepth 100000 in
theorem qX12_copy1 {l : Launch} {w : am_W} {h : am_H} {n : Nat} {φ : Nat → fA} {i : mI} (S : MS h φ i) (hn : 90 ≤ n) {q : Nat} (hq : isA q = true) (b t m : Nat) (hb : b + m ≤ mN q) (htb : t ≤ b) : RH l w mX12_copy h n [.ref q, .int (nI b), .ref q, .int (nI t), .int (nI m)] (mQ h none (uf φ q (cpF (φ q) b (φ q) t m)) i) := by
  refine RC.of [(0, .ref q), (1, .int (nI b)), (2, .ref q), (3, .int (nI t)), (4, .int (nI m))] (by decide +kernel) rfl (Nat.le_of_ble_eq_true rfl) ?_
  refine R_iconst (pc := 0) (v := 0) dX12_copy_0 (by decide) ?_
  refine R_istore (pc := 1) (lv' := [(5, .int 0), (0, .ref q), (1, .int (nI b)), (2, .ref q), (3, .int (nI t)), (4, .int (nI m))]) dX12_copy_1 (by decide) rfl ?_
  refine R_sub [0, 1, 2, 3, 4, 5] rfl ?_
  exact qX12_copy1_loop S hn hq b t m hb htb m 0 (by omega) h (by rw [cpF_0, uf_id]; exact S) (FM.rf h)
set_option maxHeartbeats 4000000 in
set_option maxRecDepth 100000 in
theorem qX12_clear_loop {l : Launch} {w : am_W} {h : am_H} {n : Nat} {φ : Nat → fA} {i : mI} (S : MS h φ i) (hn : 90 ≤ n) {q : Nat} (hq : isA q = true) (b t : Nat) (hbt : b ≤ t) (ht : t ≤ mN q) : ∀ (dd k : Nat), k + dd = t → b ≤ k → ∀ h2, MS h2 (uf φ q (clF (φ q) b k)) i → FM h h2 → RW l w mX12_clear h2 n 0 0 2 [(3, .int (nI k)), (0, .ref q), (1, .int (nI b)), (2, .int (nI t))] [] (fun h' n' r => n' = n ∧ (mQ h none (uf φ q (clF (φ q) b t)) i) h' r) := by
  have hNq := mN_le q
  have hqb := isA_b hq
  intro dd
  induction dd with
  | zero =>
    intro k hd hbk h2 S2 hF
    refine R_iload_n (pc := 2) 0 dX12_clear_2 rfl rfl ?_
    refine R_iload_n (pc := 3) 3 dX12_clear_3 rfl rfl ?_
    refine R_icmp_ge (pc := 4) (tgt := 17) dX12_clear_4 (by decide) (fun c_1 => ?_) (fun c_1 => absurd (nI_le (by omega) (by omega)) c_1)
    obtain rfl : k = t := by omega
    exact R_vreturn (pc := 17) dX12_clear_17 rfl (by decide) (by decide) ⟨rfl, rfl, S2, hF⟩
  | succ dd ih =>
    intro k hd hbk h2 S2 hF
    refine R_iload_n (pc := 2) 0 dX12_clear_2 rfl rfl ?_
    refine R_iload_n (pc := 3) 3 dX12_clear_3 rfl rfl ?_
    refine R_icmp_ge (pc := 4) (tgt := 17) dX12_clear_4 (by decide) (fun c_1 => absurd c_1 (nI_ge (by omega) (by omega))) (fun c_1 => ?_)
    refine R_aload_n (pc := 7) 1 dX12_clear_7 rfl rfl ?_
    refine R_iload_n (pc := 8) 0 dX12_clear_8 rfl rfl ?_
    refine R_iconst (pc := 9) (v := 0) dX12_clear_9 (by decide) ?_
    refine R_iast' (pc := 10) (j := k) dX12_clear_10 (S2.1 q hq) (by omega) ⟨rfl, by omega, by omega⟩ (fun h_2 f_3 g_4 => ?_)
    have f_5 : h_2 q = .inl (mN q, upd (clF (φ q) b k) k 0) := by first | exact f_3 | (simp only [uf_s] at f_3; exact f_3)
    have S_6 : MS h_2 (uf φ q (upd (clF (φ q) b k) k 0)) i := by have z_ := MS.setA (p := q) (f := upd (clF (φ q) b k) k 0) S2 hq f_5 g_4; rw [uf_uf] at z_; exact z_
    have F_7 := fmA (p := q) hq g_4
    refine R_iinc (pc := 11) (j := 0) (v := nI (k + 1)) (lv' := [(3, .int (nI (k + 1))), (0, .ref q), (1, .int (nI b)), (2, .int (nI t))]) dX12_clear_11 rfl (nI_1 k) (by decide) rfl ?_
    refine R_goto (pc := 14) (tgt := 2) dX12_clear_14 (by decide) ?_
    refine R_sub [0, 1, 2, 3] rfl ?_
    exact ih (k + 1) (by omega) (by omega) h_2 (by have z_ := S_6; rw [clF_up _ _ _ hbk] at z_; exact z_) (hF.tr F_7)
set_option maxHeartbeats 4000000 in
set_option maxRecDepth 100000 in
theorem qX12_clear {l : Launch} {w : am_W} {h : am_H} {n : Nat} {φ : Nat → fA} {i : mI} (S : MS h φ i) (hn : 90 ≤ n) {q : Nat} (hq : isA q = true) (b t : Nat) (hbt : b ≤ t) (ht : t ≤ mN q) : RH l w mX12_clear h n [.ref q, .int (nI b), .int (nI t)] (mQ h none (uf φ q (clF (φ q) b t)) i) := by
  refine RC.of [(0, .ref q), (1, .int (nI b)), (2, .int (nI t))] (by decide +kernel) rfl (Nat.le_of_ble_eq_true rfl) ?_
  refine R_iload_n (pc := 0) 1 dX12_clear_0 rfl rfl ?_
  refine R_istore_n (pc := 1) (lv' := [(3, .int (nI b)), (0, .ref q), (1, .int (nI b)), (2, .int (nI t))]) dX12_clear_1 rfl (by decide) rfl ?_
  refine R_sub [0, 1, 2, 3] rfl ?_
  exact qX12_clear_loop S hn hq b t hbt ht (t - b) b (by omega) (by omega) h (by rw [clF_0, uf_id]; exact S) (FM.rf h)
