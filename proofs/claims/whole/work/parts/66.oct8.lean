theorem xb_n0 (q : bP) (m : Int64) : xb q (m, 0) = (q.1 ^^^ m, q.2) := by
  unfold xb
  rw [Int64.xor_zero]
theorem ob_l (a b : Int64) {k : Nat} (hk : k < 8) : ob (a, b) k = ob (a, 0) k := by
  rw [ob_eq _ (by omega), ob_eq _ (by omega), if_neg (by omega), if_neg (by omega)]
theorem ob_r (a b : Int64) {k : Nat} (hk : k < 8) : ob (a, b) (8 + k) = ob (b, 0) k := by
  rw [ob_eq _ (by omega), ob_eq _ (by omega), if_pos (by omega), if_neg (by omega), show (8 + k) % 8 = k % 8 by omega]
theorem ob_e8 (L : List (BitVec 8)) (j : Nat) {k : Nat} (hk : k < 8) : ob (e8 L j, 0) k = og L (j + k) := by
  have := ob_rd L j (k := k) (by omega)
  unfold rd at this
  rw [ob_l _ _ hk] at this
  exact this
theorem og_set (L : List (BitVec 8)) {j : Nat} (b : BitVec 8) (m : Nat) (hj : j < L.length) : og (L.set j b) m = if m = j then b else og L m := by
  unfold og
  rw [List.getD_eq_getElem?_getD, List.getD_eq_getElem?_getD, List.getElem?_set]
  by_cases h : j = m
  · subst h
    rw [if_pos rfl, if_pos rfl, if_pos hj]
    rfl
  · rw [if_neg h, if_neg (fun q => h q.symm)]
theorem p8_sh : ∀ t, t < 8 → 56 - 8 * nI t = nI (56 - 8 * t) := by decide
theorem p8_oct (v : Int64) {t : Nat} (ht : t < 8) : t8 (jlushr v (56 - 8 * nI t)).toInt32 = ob (v, 0) t := by
  rw [p8_sh t ht, ob_eq _ (by omega), if_neg (by omega), show t % 8 = t by omega]
  have e := ju_bv v (s := 56 - 8 * t) (by omega)
  generalize jlushr v (nI (56 - 8 * t)) = y at e ⊢
  show y.toInt32.toBitVec.setWidth 8 = (v.toBitVec >>> (56 - 8 * t)).setWidth 8
  rw [← e]
  apply BitVec.eq_of_getLsbD_eq
  intro i hi
  have h32 : i < 32 := by omega
  have h64 : i < 64 := by omega
  simp only [BitVec.getLsbD_setWidth, Int64.toBitVec_toInt32, BitVec.getLsbD_signExtend, hi, h32, h64, decide_true, Bool.true_and, if_true]
theorem og_p8 (L : List (BitVec 8)) (j : Nat) (v : Int64) (hL : L.length < 2 ^ 30) (hj : j + 8 ≤ L.length) (m : Nat) : ∀ t, t ≤ 8 → og (p8 L j v t) m = if j ≤ m ∧ m < j + t then ob (v, 0) (m - j) else og L m
  | 0, _ => by rw [if_neg (by omega)]; rfl
  | t + 1, ht => by
    show og (rput (p8 L j v t) (nI (j + t)) (t8 (jlushr v (56 - 8 * nI t)).toInt32)) m = _
    rw [rput_nI _ _ (by omega) (by rw [p8_len]; omega), og_set _ _ _ (by rw [p8_len]; omega), og_p8 L j v hL hj m t (by omega), p8_oct v (by omega)]
    by_cases h : m = j + t
    · rw [if_pos h, if_pos (by omega), show m - j = t by omega]
    · rw [if_neg h]
      by_cases h2 : j ≤ m ∧ m < j + t
      · rw [if_pos h2, if_pos (by omega)]
      · rw [if_neg h2, if_neg (by omega)]
def wR (y : oA) (s : wT) : Prop := (∀ k, k < 8 → y k = ob (s.1, 0) k) ∧ ∀ j, 8 ≤ j → j < s.2.length → y j = og s.2 j
theorem wR_gt {y : oA} {s : wT} (h : wR y s) {i : Nat} (hi : 1 ≤ i) (hl : 8 * i + 8 ≤ s.2.length) (one : oA) : gt (cpB y (8 * i) (cpB y 0 one 0 8) 8 8) 0 = (s.1, e8 s.2 (8 * i)) := ob_ext fun k hk => by
  rw [ob_gt _ _ hk, Nat.zero_add]
  unfold cpB
  by_cases h8 : k < 8
  · rw [if_neg (by omega), if_pos (by omega), ob_l _ _ h8, show 0 + (k - 0) = k by omega, h.1 k h8]
  · rw [if_pos (by omega), show k = 8 + (k - 8) by omega, ob_r _ _ (by omega), ob_e8 _ _ (by omega), ← h.2 _ (by omega) (by omega)]
    congr 1
    omega
theorem wR_gt2 {y : oA} {s : wT} (h : wR y s) {i : Nat} (hi : 1 ≤ i) (hl : 8 * i + 8 ≤ s.2.length) (one : oA) (m : Int64) : gt (cpB y (8 * i) (pt (cpB y 0 one 0 8) 0 (xb (gt (cpB y 0 one 0 8) 0) (m, 0))) 8 8) 0 = (s.1 ^^^ m, e8 s.2 (8 * i)) := ob_ext fun k hk => by
  rw [ob_gt _ _ hk, Nat.zero_add]
  by_cases h8 : k < 8
  · have e : cpB y (8 * i) (pt (cpB y 0 one 0 8) 0 (xb (gt (cpB y 0 one 0 8) 0) (m, 0))) 8 8 k = pt (cpB y 0 one 0 8) 0 (xb (gt (cpB y 0 one 0 8) 0) (m, 0)) k := if_neg (by omega)
    rw [e, pt_at0 _ _ hk, ob_xb _ _ hk, ob_gt _ _ hk, Nat.zero_add, ob_l (s.1 ^^^ m) (e8 s.2 (8 * i)) h8]
    have e2 : ob (s.1 ^^^ m, 0) k = ob (xb (s.1, 0) (m, 0)) k := by rw [xb_n0]
    rw [e2, ob_xb _ _ hk, ← h.1 k h8]
    congr 1
    unfold cpB
    rw [if_pos (by omega), show 0 + (k - 0) = k by omega]
  · have e : cpB y (8 * i) (pt (cpB y 0 one 0 8) 0 (xb (gt (cpB y 0 one 0 8) 0) (m, 0))) 8 8 k = y (8 * i + (k - 8)) := if_pos (by omega)
    rw [e]
    conv => rhs; rw [show k = 8 + (k - 8) by omega]
    rw [ob_r _ _ (by omega), ob_e8 _ _ (by omega), ← h.2 _ (by omega) (by omega)]
theorem wR_up {y : oA} {s : wT} (h : wR y s) {i : Nat} (hi : 1 ≤ i) (hl : 8 * i + 8 ≤ s.2.length) (hL : s.2.length < 2 ^ 30) {one : oA} {q : bP} (hq : gt one 0 = q) : wR (cpB one 8 (cpB one 0 y 0 8) (8 * i) 8) (q.1, p8 s.2 (8 * i) q.2 8) := by
  constructor
  · intro k hk
    unfold cpB
    rw [if_neg (by omega), if_pos (by omega)]
    have := gt_at0 hq (k := k) (by omega)
    rw [show 0 + (k - 0) = k by omega, this, ← ob_l q.1 q.2 hk]
  · intro j h8 hj
    rw [p8_len] at hj
    rw [og_p8 _ _ _ hL hl _ 8 (by omega)]
    unfold cpB
    by_cases c : 8 * i ≤ j ∧ j < 8 * i + 8
    · rw [if_pos c, if_pos c, ← ob_r q.1 q.2 (by omega), ← gt_at0 hq (k := 8 + (j - 8 * i)) (by omega)]
    · rw [if_neg c, if_neg c, if_neg (by omega)]
      exact h.2 j h8 hj
theorem wS_eq (F : bP → bP) (k j i : Nat) (s : wT) : wS F k j i s = ((F (s.1, e8 s.2 (8 * i))).1 ^^^ (nI (k * j + i)).toInt64, p8 s.2 (8 * i) (F (s.1, e8 s.2 (8 * i))).2 8) := rfl
theorem wIn_s (F : bP → bP) (k j i : Nat) (s : wT) : wIn F k j s (i + 1) = wS F k j (i + 1) (wIn F k j s i) := rfl
theorem uS_eq (G : bP → bP) (k j i : Nat) (s : wT) : uS G k j i s = ((G (s.1 ^^^ (nI (k * j + i)).toInt64, e8 s.2 (8 * i))).1, p8 s.2 (8 * i) (G (s.1 ^^^ (nI (k * j + i)).toInt64, e8 s.2 (8 * i))).2 8) := rfl
theorem uIn_s (G : bP → bP) (k j i : Nat) (s : wT) : uIn G k j s (i + 1) = uS G k j (k - i) (uIn G k j s i) := rfl
theorem wR_sg {y : oA} {s : wT} (h : wR y s) (h8 : 8 ≤ s.2.length) (hL : s.2.length < 2 ^ 30) : sg y 0 (p8 s.2 0 s.1 8) := fun j hj => by
  rw [p8_len] at hj
  rw [og_p8 _ _ _ hL (by omega) _ 8 (by omega), Nat.zero_add]
  by_cases c : 0 ≤ j ∧ j < 0 + 8
  · rw [if_pos c, h.1 j (by omega), Nat.sub_zero]
  · rw [if_neg c, h.2 j (by omega) hj]
set_option maxHeartbeats 1000000 in
set_option maxRecDepth 100000 in
theorem qX12_wrapAll_in {l : Launch} {w : am_W} {h : am_H} {n : Nat} {ψ : Nat → oA} {z : fA} {i : mI} (hn : 90 ≤ n) (m : Nat) (hm : m ≤ 66) {F G : bP → bP} (K0 : Kh ψ 0 F G) (s : wT) (hl : s.2.length = 8 * (m + 1)) (jj : Nat) (hj : jj < 6) {Q : am_H → Nat → Option Value → Prop} (kk : ∀ h2 ψ2, MO h2 ψ2 z i → FR [72, 76] ψ ψ2 → wR (ψ2 72) (wIn F m jj s m) → FM h h2 → RW l w mX12_wrapAll h2 n 0 0 108 [(3, .int (nI (m + 1))), (2, .int (nI jj)), (0, .ref 61), (1, .int (nI m))] [] Q) : ∀ (dd k : Nat), k + dd = m → ∀ h2 ψ2, MO h2 ψ2 z i → FR [72, 76] ψ ψ2 → wR (ψ2 72) (wIn F m jj s k) → FM h h2 → RW l w mX12_wrapAll h2 n 0 0 10 [(3, .int (nI (k + 1))), (2, .int (nI jj)), (0, .ref 61), (1, .int (nI m))] [] Q := by
  have hmj : m * jj ≤ 66 * 6 := Nat.mul_le_mul hm (by omega)
  intro dd
  induction dd with
  | zero =>
    intro k hd h2 ψ2 S2 hK hJ hF
    refine R_iload_n (pc := 10) 0 dX12_wrapAll_10 rfl rfl ?_
    refine R_iload_n (pc := 11) 3 dX12_wrapAll_11 rfl rfl ?_
    refine R_icmp_gt (pc := 12) (tgt := 108) dX12_wrapAll_12 (by decide) (fun c_1 => ?_) (fun c_1 => absurd (nI_lt (a := m) (b := k + 1) (by omega) (by omega)) c_1)
    obtain rfl : k = m := by omega
    exact kk h2 ψ2 S2 hK hJ hF
  | succ dd ih =>
    intro k hd h2 ψ2 S2 hK hJ hF
    have K0_2 := K0.fr hK (by decide) (by decide) (by decide) (by decide)
    refine R_iload_n (pc := 10) 0 dX12_wrapAll_10 rfl rfl ?_
    refine R_iload_n (pc := 11) 3 dX12_wrapAll_11 rfl rfl ?_
    refine R_icmp_gt (pc := 12) (tgt := 108) dX12_wrapAll_12 (by decide) (fun c_1 => absurd c_1 (nI_nlt (a := m) (b := k + 1) (by omega) (by omega))) (fun c_1 => ?_)
    refine R_aload_n (pc := 15) 2 dX12_wrapAll_15 rfl rfl ?_
    refine R_get (pc := 16) dX12_wrapAll_16 fX12_44 S2.obj (by omega) rfl ?_
    refine R_iconst (pc := 19) (v := 0) dX12_wrapAll_19 (by decide) ?_
    refine R_aload_n (pc := 20) 2 dX12_wrapAll_20 rfl rfl ?_
    refine R_get (pc := 21) dX12_wrapAll_21 fX12_56 S2.obj (by omega) rfl ?_
    refine R_iconst (pc := 24) (v := 0) dX12_wrapAll_24 (by decide) ?_
    refine R_bipush (pc := 25) (v := 8) dX12_wrapAll_25 (by decide) ?_
    refine R_callSh (pc := 27) (μ' := mX12_copy) (As := [.ref 72, .int (nI 0), .ref 76, .int (nI 0), .int (nI 8)]) (st := []) dX12_wrapAll_27 zX12_copy lX12_133 ⟨by decide, by decide⟩ rfl rfl ⟨by decide, by decide⟩ rfl (Nat.le_of_ble_eq_true rfl) (oX12_copy S2 hn (p := 72) (q := 76) rfl rfl 0 0 8 (by show 0 + 8 ≤ 700; omega) (by show 0 + 8 ≤ 16; omega) (by decide)) (fun h_2 r_ q_3 => ?_)
    obtain ⟨rfl, S_4, F_5⟩ := q_3
    have S_6 : MO h_2 (uo ψ2 76 (cpB (ψ2 72) 0 (ψ2 76) 0 8)) z i := S_4
    refine R_aload_n (pc := 30) 2 dX12_wrapAll_30 rfl rfl ?_
    refine R_get (pc := 31) dX12_wrapAll_31 fX12_44 S_6.obj (by omega) rfl ?_
    refine R_bipush (pc := 34) (v := 8) dX12_wrapAll_34 (by decide) ?_
    refine R_iload_n (pc := 36) 0 dX12_wrapAll_36 rfl rfl ?_
    refine R_imul (pc := 37) dX12_wrapAll_37 ?_
    refine R_eqi (y := nI (8 * (k + 1))) (nI_mul 8 (k + 1)) ?_
    refine R_aload_n (pc := 38) 2 dX12_wrapAll_38 rfl rfl ?_
    refine R_get (pc := 39) dX12_wrapAll_39 fX12_56 S_6.obj (by omega) rfl ?_
    refine R_bipush (pc := 42) (v := 8) dX12_wrapAll_42 (by decide) ?_
    refine R_bipush (pc := 44) (v := 8) dX12_wrapAll_44 (by decide) ?_
    refine R_callSh (pc := 46) (μ' := mX12_copy) (As := [.ref 72, .int (nI (8 * (k + 1))), .ref 76, .int (nI 8), .int (nI 8)]) (st := []) dX12_wrapAll_46 zX12_copy lX12_133 ⟨by decide, by decide⟩ rfl rfl ⟨by decide, by decide⟩ rfl (Nat.le_of_ble_eq_true rfl) (oX12_copy S_6 hn (p := 72) (q := 76) rfl rfl (8 * (k + 1)) 8 8 (by show 8 * (k + 1) + 8 ≤ 700; omega) (by show 8 + 8 ≤ 16; omega) (by decide)) (fun h_7 r_ q_8 => ?_)
    obtain ⟨rfl, S_9, F_10⟩ := q_8
    have S_11 : MO h_7 (uo ψ2 76 (cpB (ψ2 72) (8 * (k + 1)) (cpB (ψ2 72) 0 (ψ2 76) 0 8) 8 8)) z i := by have z_ := S_9; rw [uo_uo] at z_; exact z_
    refine R_aload_n (pc := 49) 2 dX12_wrapAll_49 rfl rfl ?_
    refine R_iconst (pc := 50) (v := 0) dX12_wrapAll_50 (by decide) ?_
    refine R_aload_n (pc := 51) 2 dX12_wrapAll_51 rfl rfl ?_
    refine R_get (pc := 52) dX12_wrapAll_52 fX12_56 S_11.obj (by omega) rfl ?_
    refine R_iconst (pc := 55) (v := 0) dX12_wrapAll_55 (by decide) ?_
    refine R_callVh (pc := 56) (μ' := mX12_sealBlock) (As := [.int (nI 0), .ref 76, .int (nI 0)]) (st := []) dX12_wrapAll_56 zX12_sealBlock lX12_146 ⟨by decide, by decide⟩ rfl rfl ⟨by decide, by decide⟩ S_11.obj (by omega) rfl (Nat.le_of_ble_eq_true rfl) (oX12_sealBlock S_11 hn (K0_2.uo (by decide)) (p := 76) rfl 0 (by show 0 + 16 ≤ 16; omega)) (fun h_12 r_ q_13 => ?_)
    obtain ⟨rfl, S_14, F_15⟩ := q_13
    have S_16 : MO h_12 (uo ψ2 76 (pt (cpB (ψ2 72) (8 * (k + 1)) (cpB (ψ2 72) 0 (ψ2 76) 0 8) 8 8) 0 (F (gt (cpB (ψ2 72) (8 * (k + 1)) (cpB (ψ2 72) 0 (ψ2 76) 0 8) 8 8) 0)))) z i := by have z_ := S_14; rw [uo_uo] at z_; exact z_
    refine R_aload_n (pc := 59) 2 dX12_wrapAll_59 rfl rfl ?_
    refine R_iload_n (pc := 60) 3 dX12_wrapAll_60 rfl rfl ?_
    refine R_iload_n (pc := 61) 1 dX12_wrapAll_61 rfl rfl ?_
    refine R_imul (pc := 62) dX12_wrapAll_62 ?_
    refine R_eqi (y := nI (m * jj)) (nI_mul m jj) ?_
    refine R_iload_n (pc := 63) 0 dX12_wrapAll_63 rfl rfl ?_
    refine R_iadd (pc := 64) dX12_wrapAll_64 ?_
    refine R_eqi (y := nI (m * jj + (k + 1))) (nI_add (m * jj) (k + 1)) ?_
    refine R_callVh (pc := 65) (μ' := mX12_addNumber) (As := [.int (nI (m * jj + (k + 1)))]) (st := []) dX12_wrapAll_65 zX12_addNumber lX12_180 ⟨by decide, by decide⟩ rfl rfl ⟨by decide, by decide⟩ S_16.obj (by omega) rfl (Nat.le_of_ble_eq_true rfl) (oX12_addNumber S_16 hn (m := m * jj + (k + 1)) (by omega)) (fun h_17 r_ q_18 => ?_)
    obtain ⟨rfl, S_19, F_20⟩ := q_18
    have S_21 : MO h_17 (uo ψ2 76 (pt (pt (cpB (ψ2 72) (8 * (k + 1)) (cpB (ψ2 72) 0 (ψ2 76) 0 8) 8 8) 0 (F (gt (cpB (ψ2 72) (8 * (k + 1)) (cpB (ψ2 72) 0 (ψ2 76) 0 8) 8 8) 0))) 0 (xb (gt (pt (cpB (ψ2 72) (8 * (k + 1)) (cpB (ψ2 72) 0 (ψ2 76) 0 8) 8 8) 0 (F (gt (cpB (ψ2 72) (8 * (k + 1)) (cpB (ψ2 72) 0 (ψ2 76) 0 8) 8 8) 0))) 0) ((nI (m * jj + (k + 1))).toInt64, 0)))) z i := by have z_ := S_19; rw [uo_uo] at z_; exact z_
    refine R_aload_n (pc := 68) 2 dX12_wrapAll_68 rfl rfl ?_
    refine R_get (pc := 69) dX12_wrapAll_69 fX12_56 S_21.obj (by omega) rfl ?_
    refine R_iconst (pc := 72) (v := 0) dX12_wrapAll_72 (by decide) ?_
    refine R_aload_n (pc := 73) 2 dX12_wrapAll_73 rfl rfl ?_
    refine R_get (pc := 74) dX12_wrapAll_74 fX12_44 S_21.obj (by omega) rfl ?_
    refine R_iconst (pc := 77) (v := 0) dX12_wrapAll_77 (by decide) ?_
    refine R_bipush (pc := 78) (v := 8) dX12_wrapAll_78 (by decide) ?_
    refine R_callSh (pc := 80) (μ' := mX12_copy) (As := [.ref 76, .int (nI 0), .ref 72, .int (nI 0), .int (nI 8)]) (st := []) dX12_wrapAll_80 zX12_copy lX12_133 ⟨by decide, by decide⟩ rfl rfl ⟨by decide, by decide⟩ rfl (Nat.le_of_ble_eq_true rfl) (oX12_copy S_21 hn (p := 76) (q := 72) rfl rfl 0 0 8 (by show 0 + 8 ≤ 16; omega) (by show 0 + 8 ≤ 700; omega) (by decide)) (fun h_22 r_ q_23 => ?_)
    obtain ⟨rfl, S_24, F_25⟩ := q_23
    have S_26 : MO h_22 (uo (uo ψ2 76 (pt (pt (cpB (ψ2 72) (8 * (k + 1)) (cpB (ψ2 72) 0 (ψ2 76) 0 8) 8 8) 0 (F (gt (cpB (ψ2 72) (8 * (k + 1)) (cpB (ψ2 72) 0 (ψ2 76) 0 8) 8 8) 0))) 0 (xb (gt (pt (cpB (ψ2 72) (8 * (k + 1)) (cpB (ψ2 72) 0 (ψ2 76) 0 8) 8 8) 0 (F (gt (cpB (ψ2 72) (8 * (k + 1)) (cpB (ψ2 72) 0 (ψ2 76) 0 8) 8 8) 0))) 0) ((nI (m * jj + (k + 1))).toInt64, 0)))) 72 (cpB (pt (pt (cpB (ψ2 72) (8 * (k + 1)) (cpB (ψ2 72) 0 (ψ2 76) 0 8) 8 8) 0 (F (gt (cpB (ψ2 72) (8 * (k + 1)) (cpB (ψ2 72) 0 (ψ2 76) 0 8) 8 8) 0))) 0 (xb (gt (pt (cpB (ψ2 72) (8 * (k + 1)) (cpB (ψ2 72) 0 (ψ2 76) 0 8) 8 8) 0 (F (gt (cpB (ψ2 72) (8 * (k + 1)) (cpB (ψ2 72) 0 (ψ2 76) 0 8) 8 8) 0))) 0) ((nI (m * jj + (k + 1))).toInt64, 0))) 0 (ψ2 72) 0 8)) z i := S_24
    refine R_aload_n (pc := 83) 2 dX12_wrapAll_83 rfl rfl ?_
    refine R_get (pc := 84) dX12_wrapAll_84 fX12_56 S_26.obj (by omega) rfl ?_
    refine R_bipush (pc := 87) (v := 8) dX12_wrapAll_87 (by decide) ?_
    refine R_aload_n (pc := 89) 2 dX12_wrapAll_89 rfl rfl ?_
    refine R_get (pc := 90) dX12_wrapAll_90 fX12_44 S_26.obj (by omega) rfl ?_
    refine R_bipush (pc := 93) (v := 8) dX12_wrapAll_93 (by decide) ?_
    refine R_iload_n (pc := 95) 0 dX12_wrapAll_95 rfl rfl ?_
    refine R_imul (pc := 96) dX12_wrapAll_96 ?_
    refine R_eqi (y := nI (8 * (k + 1))) (nI_mul 8 (k + 1)) ?_
    refine R_bipush (pc := 97) (v := 8) dX12_wrapAll_97 (by decide) ?_
    refine R_callSh (pc := 99) (μ' := mX12_copy) (As := [.ref 76, .int (nI 8), .ref 72, .int (nI (8 * (k + 1))), .int (nI 8)]) (st := []) dX12_wrapAll_99 zX12_copy lX12_133 ⟨by decide, by decide⟩ rfl rfl ⟨by decide, by decide⟩ rfl (Nat.le_of_ble_eq_true rfl) (oX12_copy S_26 hn (p := 76) (q := 72) rfl rfl 8 (8 * (k + 1)) 8 (by show 8 + 8 ≤ 16; omega) (by show 8 * (k + 1) + 8 ≤ 700; omega) (by decide)) (fun h_27 r_ q_28 => ?_)
    obtain ⟨rfl, S_29, F_30⟩ := q_28
    have S_31 : MO h_27 (uo (uo ψ2 76 (pt (pt (cpB (ψ2 72) (8 * (k + 1)) (cpB (ψ2 72) 0 (ψ2 76) 0 8) 8 8) 0 (F (gt (cpB (ψ2 72) (8 * (k + 1)) (cpB (ψ2 72) 0 (ψ2 76) 0 8) 8 8) 0))) 0 (xb (gt (pt (cpB (ψ2 72) (8 * (k + 1)) (cpB (ψ2 72) 0 (ψ2 76) 0 8) 8 8) 0 (F (gt (cpB (ψ2 72) (8 * (k + 1)) (cpB (ψ2 72) 0 (ψ2 76) 0 8) 8 8) 0))) 0) ((nI (m * jj + (k + 1))).toInt64, 0)))) 72 (cpB (pt (pt (cpB (ψ2 72) (8 * (k + 1)) (cpB (ψ2 72) 0 (ψ2 76) 0 8) 8 8) 0 (F (gt (cpB (ψ2 72) (8 * (k + 1)) (cpB (ψ2 72) 0 (ψ2 76) 0 8) 8 8) 0))) 0 (xb (gt (pt (cpB (ψ2 72) (8 * (k + 1)) (cpB (ψ2 72) 0 (ψ2 76) 0 8) 8 8) 0 (F (gt (cpB (ψ2 72) (8 * (k + 1)) (cpB (ψ2 72) 0 (ψ2 76) 0 8) 8 8) 0))) 0) ((nI (m * jj + (k + 1))).toInt64, 0))) 8 (cpB (pt (pt (cpB (ψ2 72) (8 * (k + 1)) (cpB (ψ2 72) 0 (ψ2 76) 0 8) 8 8) 0 (F (gt (cpB (ψ2 72) (8 * (k + 1)) (cpB (ψ2 72) 0 (ψ2 76) 0 8) 8 8) 0))) 0 (xb (gt (pt (cpB (ψ2 72) (8 * (k + 1)) (cpB (ψ2 72) 0 (ψ2 76) 0 8) 8 8) 0 (F (gt (cpB (ψ2 72) (8 * (k + 1)) (cpB (ψ2 72) 0 (ψ2 76) 0 8) 8 8) 0))) 0) ((nI (m * jj + (k + 1))).toInt64, 0))) 0 (ψ2 72) 0 8) (8 * (k + 1)) 8)) z i := by have z_ := S_29; rw [uo_uo] at z_; exact z_
    refine R_iinc (pc := 102) (j := 0) (v := nI (k + 1 + 1)) (lv' := [(3, .int (nI (k + 1 + 1))), (2, .int (nI jj)), (0, .ref 61), (1, .int (nI m))]) dX12_wrapAll_102 rfl (nI_add (k + 1) 1) (by decide) rfl ?_
    refine R_goto (pc := 105) (tgt := 10) dX12_wrapAll_105 (by decide) ?_
    refine R_sub [0, 1, 2, 3] rfl ?_
    have eL : (wIn F m jj s k).2.length = 8 * (m + 1) := by rw [wIn_len, hl]
    have j1 : wR (cpB (pt (pt (cpB (ψ2 72) (8 * (k + 1)) (cpB (ψ2 72) 0 (ψ2 76) 0 8) 8 8) 0 (F (gt (cpB (ψ2 72) (8 * (k + 1)) (cpB (ψ2 72) 0 (ψ2 76) 0 8) 8 8) 0))) 0 (xb (gt (pt (cpB (ψ2 72) (8 * (k + 1)) (cpB (ψ2 72) 0 (ψ2 76) 0 8) 8 8) 0 (F (gt (cpB (ψ2 72) (8 * (k + 1)) (cpB (ψ2 72) 0 (ψ2 76) 0 8) 8 8) 0))) 0) ((nI (m * jj + (k + 1))).toInt64, 0))) 8 (cpB (pt (pt (cpB (ψ2 72) (8 * (k + 1)) (cpB (ψ2 72) 0 (ψ2 76) 0 8) 8 8) 0 (F (gt (cpB (ψ2 72) (8 * (k + 1)) (cpB (ψ2 72) 0 (ψ2 76) 0 8) 8 8) 0))) 0 (xb (gt (pt (cpB (ψ2 72) (8 * (k + 1)) (cpB (ψ2 72) 0 (ψ2 76) 0 8) 8 8) 0 (F (gt (cpB (ψ2 72) (8 * (k + 1)) (cpB (ψ2 72) 0 (ψ2 76) 0 8) 8 8) 0))) 0) ((nI (m * jj + (k + 1))).toInt64, 0))) 0 (ψ2 72) 0 8) (8 * (k + 1)) 8) (wIn F m jj s (k + 1)) := by
      rw [wIn_s, wS_eq]
      refine wR_up (s := (wIn F m jj s k)) (i := k + 1) (q := ((F ((wIn F m jj s k).1, e8 (wIn F m jj s k).2 (8 * (k + 1)))).1 ^^^ (nI (m * jj + (k + 1))).toInt64, (F ((wIn F m jj s k).1, e8 (wIn F m jj s k).2 (8 * (k + 1)))).2)) hJ (by omega) (by omega) (by omega) ?_
      simp only [gt_pt, pt_pt]
      rw [wR_gt hJ (by omega) (by omega), xb_n0]
    exact ih (k + 1) (by omega) h_27 _ S_31 ((hK.up (by decide)).up (by decide)) (j1) (hF.tr (((((F_5.tr F_10).tr F_15).tr F_20).tr F_25).tr F_30))
set_option maxHeartbeats 1000000 in
set_option maxRecDepth 100000 in
theorem qX12_wrapAll_out {l : Launch} {w : am_W} {h : am_H} {n : Nat} {ψ : Nat → oA} {z : fA} {i : mI} (hn : 90 ≤ n) (m : Nat) (hm : m ≤ 66) {F G : bP → bP} (K0 : Kh ψ 0 F G) (s : wT) (hl : s.2.length = 8 * (m + 1)) {Q : am_H → Nat → Option Value → Prop} (kk : ∀ h2 ψ2, MO h2 ψ2 z i → FR [72, 76] ψ ψ2 → wR (ψ2 72) (wOut F m s 6) → FM h h2 → RW l w mX12_wrapAll h2 n 0 0 114 [(2, .int (nI 6)), (0, .ref 61), (1, .int (nI m))] [] Q) : ∀ (dd k : Nat), k + dd = 6 → ∀ h2 ψ2, MO h2 ψ2 z i → FR [72, 76] ψ ψ2 → wR (ψ2 72) (wOut F m s k) → FM h h2 → RW l w mX12_wrapAll h2 n 0 0 2 [(2, .int (nI k)), (0, .ref 61), (1, .int (nI m))] [] Q := by
  intro dd
  induction dd with
  | zero =>
    intro k hd h2 ψ2 S2 hK hJ hF
    refine R_iload_n (pc := 2) 0 dX12_wrapAll_2 rfl rfl ?_
    refine R_bipush (pc := 3) (v := 6) dX12_wrapAll_3 (by decide) ?_
    refine R_icmp_ge (pc := 5) (tgt := 114) dX12_wrapAll_5 (by decide) (fun c_1 => ?_) (fun c_1 => absurd (nI_le (a := 6) (b := k) (by omega) (by omega)) c_1)
    obtain rfl : k = 6 := by omega
    exact kk h2 ψ2 S2 hK hJ hF
  | succ dd ih =>
    intro k hd h2 ψ2 S2 hK hJ hF
    have K0_2 := K0.fr hK (by decide) (by decide) (by decide) (by decide)
    refine R_iload_n (pc := 2) 0 dX12_wrapAll_2 rfl rfl ?_
    refine R_bipush (pc := 3) (v := 6) dX12_wrapAll_3 (by decide) ?_
    refine R_icmp_ge (pc := 5) (tgt := 114) dX12_wrapAll_5 (by decide) (fun c_1 => absurd c_1 (nI_ge (a := k) (b := 6) (by omega) (by omega))) (fun c_1 => ?_)
    refine R_iconst (pc := 8) (v := 1) dX12_wrapAll_8 (by decide) ?_
    refine R_istore_n (pc := 9) (lv' := [(3, .int 1), (2, .int (nI k)), (0, .ref 61), (1, .int (nI m))]) dX12_wrapAll_9 rfl (by decide) rfl ?_
    refine R_sub [0, 1, 2, 3] rfl ?_
    have eL : (wOut F m s k).2.length = 8 * (m + 1) := by rw [wOut_len, hl]
    refine qX12_wrapAll_in (h := h) (ψ := ψ2) hn m hm K0_2 (wOut F m s k) eL k (by omega) (fun h3 ψ3 S3 hK3 hJ3 hF3 => ?_) m 0 (by omega) h2 ψ2 S2 (FR.rf _ _) hJ hF
    refine R_iinc (pc := 108) (j := 1) (v := nI (k + 1)) (lv' := [(2, .int (nI (k + 1))), (3, .int (nI (m + 1))), (0, .ref 61), (1, .int (nI m))]) dX12_wrapAll_108 rfl (nI_add _ _) (by decide) rfl ?_
    refine R_goto (pc := 111) (tgt := 2) dX12_wrapAll_111 (by decide) ?_
    refine R_sub [0, 2, 3] rfl ?_
    exact ih (k + 1) (by omega) h3 _ S3 (hK.tr hK3 (by decide)) (hJ3) hF3
set_option maxHeartbeats 1000000 in
set_option maxRecDepth 100000 in
theorem oX12_wrapAll {l : Launch} {w : am_W} {h : am_H} {n : Nat} {ψ : Nat → oA} {z : fA} {i : mI} (S : MO h ψ z i) (hn : 90 ≤ n) (m : Nat) (hm : m ≤ 66) {F G : bP → bP} (K0 : Kh ψ 0 F G) (s : wT) (hl : s.2.length = 8 * (m + 1)) (hy : wR (ψ 72) s) : RH l w mX12_wrapAll h n [.ref 61, .int (nI m)] (fun h2 q => ∃ ψ2, q = none ∧ MO h2 ψ2 z i ∧ FR [72, 76] ψ ψ2 ∧ wR (ψ2 72) (wOut F m s 6) ∧ FM h h2) := by
  refine RC.of [(0, .ref 61), (1, .int (nI m))] (by decide +kernel) rfl (Nat.le_of_ble_eq_true rfl) ?_
  refine R_iconst (pc := 0) (v := 0) dX12_wrapAll_0 (by decide) ?_
  refine R_istore_n (pc := 1) (lv' := [(2, .int 0), (0, .ref 61), (1, .int (nI m))]) dX12_wrapAll_1 rfl (by decide) rfl ?_
  refine R_sub [0, 1, 2] rfl ?_
  refine qX12_wrapAll_out (h := h) (ψ := ψ) hn m hm K0 s hl (fun h2 ψ2 S2 hK hJ hF => ?_) 6 0 (by omega) h ψ S (FR.rf _ _) hy (FM.rf h)
  exact R_vreturn (pc := 114) dX12_wrapAll_114 rfl (by decide) (by decide) ⟨rfl, ψ2, rfl, S2, hK, hJ, hF⟩
set_option maxHeartbeats 1000000 in
set_option maxRecDepth 100000 in
theorem qX12_unwrapAll_in {l : Launch} {w : am_W} {h : am_H} {n : Nat} {ψ : Nat → oA} {z : fA} {i : mI} (hn : 90 ≤ n) (m : Nat) (hm : m ≤ 66) {F G : bP → bP} (K0 : Kh ψ 0 F G) (s : wT) (hl : s.2.length = 8 * (m + 1)) (jj : Nat) (hj : jj < 6) {Q : am_H → Nat → Option Value → Prop} (kk : ∀ h2 ψ2, MO h2 ψ2 z i → FR [72, 76] ψ ψ2 → wR (ψ2 72) (uIn G m (5 - jj) s m) → FM h h2 → RW l w mX12_unwrapAll h2 n 0 0 106 [(3, .int (nI (m - m))), (2, .int (nI (6 - jj) - 1)), (0, .ref 61), (1, .int (nI m))] [] Q) : ∀ (dd k : Nat), k + dd = m → ∀ h2 ψ2, MO h2 ψ2 z i → FR [72, 76] ψ ψ2 → wR (ψ2 72) (uIn G m (5 - jj) s k) → FM h h2 → RW l w mX12_unwrapAll h2 n 0 0 8 [(3, .int (nI (m - k))), (2, .int (nI (6 - jj) - 1)), (0, .ref 61), (1, .int (nI m))] [] Q := by
  have hmj : m * (5 - jj) ≤ 66 * 6 := Nat.mul_le_mul hm (by omega)
  intro dd
  induction dd with
  | zero =>
    intro k hd h2 ψ2 S2 hK hJ hF
    refine R_iload_n (pc := 8) 0 dX12_unwrapAll_8 rfl rfl ?_
    refine R_iconst (pc := 9) (v := 1) dX12_unwrapAll_9 (by decide) ?_
    refine R_icmp_lt (pc := 10) (tgt := 106) dX12_unwrapAll_10 (by decide) (fun c_1 => ?_) (fun c_1 => absurd (nI_lt (a := m - k) (b := 1) (by omega) (by omega)) c_1)
    obtain rfl : k = m := by omega
    exact kk h2 ψ2 S2 hK hJ hF
  | succ dd ih =>
    intro k hd h2 ψ2 S2 hK hJ hF
    have K0_2 := K0.fr hK (by decide) (by decide) (by decide) (by decide)
    refine R_iload_n (pc := 8) 0 dX12_unwrapAll_8 rfl rfl ?_
    refine R_iconst (pc := 9) (v := 1) dX12_unwrapAll_9 (by decide) ?_
    refine R_icmp_lt (pc := 10) (tgt := 106) dX12_unwrapAll_10 (by decide) (fun c_1 => absurd c_1 (nI_nlt (a := m - k) (b := 1) (by omega) (by omega))) (fun c_1 => ?_)
    refine R_aload_n (pc := 13) 2 dX12_unwrapAll_13 rfl rfl ?_
    refine R_get (pc := 14) dX12_unwrapAll_14 fX12_44 S2.obj (by omega) rfl ?_
    refine R_iconst (pc := 17) (v := 0) dX12_unwrapAll_17 (by decide) ?_
    refine R_aload_n (pc := 18) 2 dX12_unwrapAll_18 rfl rfl ?_
    refine R_get (pc := 19) dX12_unwrapAll_19 fX12_56 S2.obj (by omega) rfl ?_
    refine R_iconst (pc := 22) (v := 0) dX12_unwrapAll_22 (by decide) ?_
    refine R_bipush (pc := 23) (v := 8) dX12_unwrapAll_23 (by decide) ?_
    refine R_callSh (pc := 25) (μ' := mX12_copy) (As := [.ref 72, .int (nI 0), .ref 76, .int (nI 0), .int (nI 8)]) (st := []) dX12_unwrapAll_25 zX12_copy lX12_133 ⟨by decide, by decide⟩ rfl rfl ⟨by decide, by decide⟩ rfl (Nat.le_of_ble_eq_true rfl) (oX12_copy S2 hn (p := 72) (q := 76) rfl rfl 0 0 8 (by show 0 + 8 ≤ 700; omega) (by show 0 + 8 ≤ 16; omega) (by decide)) (fun h_2 r_ q_3 => ?_)
    obtain ⟨rfl, S_4, F_5⟩ := q_3
    have S_6 : MO h_2 (uo ψ2 76 (cpB (ψ2 72) 0 (ψ2 76) 0 8)) z i := S_4
    refine R_aload_n (pc := 28) 2 dX12_unwrapAll_28 rfl rfl ?_
    refine R_iload_n (pc := 29) 3 dX12_unwrapAll_29 rfl rfl ?_
    refine R_iload_n (pc := 30) 1 dX12_unwrapAll_30 rfl rfl ?_
    refine R_eqi (y := nI (5 - jj)) (by rw [show 6 - jj = (5 - jj) + 1 by omega]; exact nI_pred _) ?_
    refine R_imul (pc := 31) dX12_unwrapAll_31 ?_
    refine R_eqi (y := nI (m * (5 - jj))) (nI_mul m (5 - jj)) ?_
    refine R_iload_n (pc := 32) 0 dX12_unwrapAll_32 rfl rfl ?_
    refine R_iadd (pc := 33) dX12_unwrapAll_33 ?_
    refine R_eqi (y := nI (m * (5 - jj) + (m - k))) (nI_add (m * (5 - jj)) (m - k)) ?_
    refine R_callVh (pc := 34) (μ' := mX12_addNumber) (As := [.int (nI (m * (5 - jj) + (m - k)))]) (st := []) dX12_unwrapAll_34 zX12_addNumber lX12_180 ⟨by decide, by decide⟩ rfl rfl ⟨by decide, by decide⟩ S_6.obj (by omega) rfl (Nat.le_of_ble_eq_true rfl) (oX12_addNumber S_6 hn (m := m * (5 - jj) + (m - k)) (by omega)) (fun h_7 r_ q_8 => ?_)
    obtain ⟨rfl, S_9, F_10⟩ := q_8
    have S_11 : MO h_7 (uo ψ2 76 (pt (cpB (ψ2 72) 0 (ψ2 76) 0 8) 0 (xb (gt (cpB (ψ2 72) 0 (ψ2 76) 0 8) 0) ((nI (m * (5 - jj) + (m - k))).toInt64, 0)))) z i := by have z_ := S_9; rw [uo_uo] at z_; exact z_
    refine R_aload_n (pc := 37) 2 dX12_unwrapAll_37 rfl rfl ?_
    refine R_get (pc := 38) dX12_unwrapAll_38 fX12_44 S_11.obj (by omega) rfl ?_
    refine R_bipush (pc := 41) (v := 8) dX12_unwrapAll_41 (by decide) ?_
    refine R_iload_n (pc := 43) 0 dX12_unwrapAll_43 rfl rfl ?_
    refine R_imul (pc := 44) dX12_unwrapAll_44 ?_
    refine R_eqi (y := nI (8 * (m - k))) (nI_mul 8 (m - k)) ?_
    refine R_aload_n (pc := 45) 2 dX12_unwrapAll_45 rfl rfl ?_
    refine R_get (pc := 46) dX12_unwrapAll_46 fX12_56 S_11.obj (by omega) rfl ?_
    refine R_bipush (pc := 49) (v := 8) dX12_unwrapAll_49 (by decide) ?_
    refine R_bipush (pc := 51) (v := 8) dX12_unwrapAll_51 (by decide) ?_
    refine R_callSh (pc := 53) (μ' := mX12_copy) (As := [.ref 72, .int (nI (8 * (m - k))), .ref 76, .int (nI 8), .int (nI 8)]) (st := []) dX12_unwrapAll_53 zX12_copy lX12_133 ⟨by decide, by decide⟩ rfl rfl ⟨by decide, by decide⟩ rfl (Nat.le_of_ble_eq_true rfl) (oX12_copy S_11 hn (p := 72) (q := 76) rfl rfl (8 * (m - k)) 8 8 (by show 8 * (m - k) + 8 ≤ 700; omega) (by show 8 + 8 ≤ 16; omega) (by decide)) (fun h_12 r_ q_13 => ?_)
    obtain ⟨rfl, S_14, F_15⟩ := q_13
    have S_16 : MO h_12 (uo ψ2 76 (cpB (ψ2 72) (8 * (m - k)) (pt (cpB (ψ2 72) 0 (ψ2 76) 0 8) 0 (xb (gt (cpB (ψ2 72) 0 (ψ2 76) 0 8) 0) ((nI (m * (5 - jj) + (m - k))).toInt64, 0))) 8 8)) z i := by have z_ := S_14; rw [uo_uo] at z_; exact z_
    refine R_aload_n (pc := 56) 2 dX12_unwrapAll_56 rfl rfl ?_
    refine R_iconst (pc := 57) (v := 0) dX12_unwrapAll_57 (by decide) ?_
    refine R_aload_n (pc := 58) 2 dX12_unwrapAll_58 rfl rfl ?_
    refine R_get (pc := 59) dX12_unwrapAll_59 fX12_56 S_16.obj (by omega) rfl ?_
    refine R_iconst (pc := 62) (v := 0) dX12_unwrapAll_62 (by decide) ?_
    refine R_callVh (pc := 63) (μ' := mX12_openBlock) (As := [.int (nI 0), .ref 76, .int (nI 0)]) (st := []) dX12_unwrapAll_63 zX12_openBlock lX12_150 ⟨by decide, by decide⟩ rfl rfl ⟨by decide, by decide⟩ S_16.obj (by omega) rfl (Nat.le_of_ble_eq_true rfl) (oX12_openBlock S_16 hn (K0_2.uo (by decide)) (p := 76) rfl 0 (by show 0 + 16 ≤ 16; omega)) (fun h_17 r_ q_18 => ?_)
    obtain ⟨rfl, S_19, F_20⟩ := q_18
    have S_21 : MO h_17 (uo ψ2 76 (pt (cpB (ψ2 72) (8 * (m - k)) (pt (cpB (ψ2 72) 0 (ψ2 76) 0 8) 0 (xb (gt (cpB (ψ2 72) 0 (ψ2 76) 0 8) 0) ((nI (m * (5 - jj) + (m - k))).toInt64, 0))) 8 8) 0 (G (gt (cpB (ψ2 72) (8 * (m - k)) (pt (cpB (ψ2 72) 0 (ψ2 76) 0 8) 0 (xb (gt (cpB (ψ2 72) 0 (ψ2 76) 0 8) 0) ((nI (m * (5 - jj) + (m - k))).toInt64, 0))) 8 8) 0)))) z i := by have z_ := S_19; rw [uo_uo] at z_; exact z_
    refine R_aload_n (pc := 66) 2 dX12_unwrapAll_66 rfl rfl ?_
    refine R_get (pc := 67) dX12_unwrapAll_67 fX12_56 S_21.obj (by omega) rfl ?_
    refine R_iconst (pc := 70) (v := 0) dX12_unwrapAll_70 (by decide) ?_
    refine R_aload_n (pc := 71) 2 dX12_unwrapAll_71 rfl rfl ?_
    refine R_get (pc := 72) dX12_unwrapAll_72 fX12_44 S_21.obj (by omega) rfl ?_
    refine R_iconst (pc := 75) (v := 0) dX12_unwrapAll_75 (by decide) ?_
    refine R_bipush (pc := 76) (v := 8) dX12_unwrapAll_76 (by decide) ?_
    refine R_callSh (pc := 78) (μ' := mX12_copy) (As := [.ref 76, .int (nI 0), .ref 72, .int (nI 0), .int (nI 8)]) (st := []) dX12_unwrapAll_78 zX12_copy lX12_133 ⟨by decide, by decide⟩ rfl rfl ⟨by decide, by decide⟩ rfl (Nat.le_of_ble_eq_true rfl) (oX12_copy S_21 hn (p := 76) (q := 72) rfl rfl 0 0 8 (by show 0 + 8 ≤ 16; omega) (by show 0 + 8 ≤ 700; omega) (by decide)) (fun h_22 r_ q_23 => ?_)
    obtain ⟨rfl, S_24, F_25⟩ := q_23
    have S_26 : MO h_22 (uo (uo ψ2 76 (pt (cpB (ψ2 72) (8 * (m - k)) (pt (cpB (ψ2 72) 0 (ψ2 76) 0 8) 0 (xb (gt (cpB (ψ2 72) 0 (ψ2 76) 0 8) 0) ((nI (m * (5 - jj) + (m - k))).toInt64, 0))) 8 8) 0 (G (gt (cpB (ψ2 72) (8 * (m - k)) (pt (cpB (ψ2 72) 0 (ψ2 76) 0 8) 0 (xb (gt (cpB (ψ2 72) 0 (ψ2 76) 0 8) 0) ((nI (m * (5 - jj) + (m - k))).toInt64, 0))) 8 8) 0)))) 72 (cpB (pt (cpB (ψ2 72) (8 * (m - k)) (pt (cpB (ψ2 72) 0 (ψ2 76) 0 8) 0 (xb (gt (cpB (ψ2 72) 0 (ψ2 76) 0 8) 0) ((nI (m * (5 - jj) + (m - k))).toInt64, 0))) 8 8) 0 (G (gt (cpB (ψ2 72) (8 * (m - k)) (pt (cpB (ψ2 72) 0 (ψ2 76) 0 8) 0 (xb (gt (cpB (ψ2 72) 0 (ψ2 76) 0 8) 0) ((nI (m * (5 - jj) + (m - k))).toInt64, 0))) 8 8) 0))) 0 (ψ2 72) 0 8)) z i := S_24
    refine R_aload_n (pc := 81) 2 dX12_unwrapAll_81 rfl rfl ?_
    refine R_get (pc := 82) dX12_unwrapAll_82 fX12_56 S_26.obj (by omega) rfl ?_
    refine R_bipush (pc := 85) (v := 8) dX12_unwrapAll_85 (by decide) ?_
    refine R_aload_n (pc := 87) 2 dX12_unwrapAll_87 rfl rfl ?_
    refine R_get (pc := 88) dX12_unwrapAll_88 fX12_44 S_26.obj (by omega) rfl ?_
    refine R_bipush (pc := 91) (v := 8) dX12_unwrapAll_91 (by decide) ?_
    refine R_iload_n (pc := 93) 0 dX12_unwrapAll_93 rfl rfl ?_
    refine R_imul (pc := 94) dX12_unwrapAll_94 ?_
    refine R_eqi (y := nI (8 * (m - k))) (nI_mul 8 (m - k)) ?_
    refine R_bipush (pc := 95) (v := 8) dX12_unwrapAll_95 (by decide) ?_
    refine R_callSh (pc := 97) (μ' := mX12_copy) (As := [.ref 76, .int (nI 8), .ref 72, .int (nI (8 * (m - k))), .int (nI 8)]) (st := []) dX12_unwrapAll_97 zX12_copy lX12_133 ⟨by decide, by decide⟩ rfl rfl ⟨by decide, by decide⟩ rfl (Nat.le_of_ble_eq_true rfl) (oX12_copy S_26 hn (p := 76) (q := 72) rfl rfl 8 (8 * (m - k)) 8 (by show 8 + 8 ≤ 16; omega) (by show 8 * (m - k) + 8 ≤ 700; omega) (by decide)) (fun h_27 r_ q_28 => ?_)
    obtain ⟨rfl, S_29, F_30⟩ := q_28
    have S_31 : MO h_27 (uo (uo ψ2 76 (pt (cpB (ψ2 72) (8 * (m - k)) (pt (cpB (ψ2 72) 0 (ψ2 76) 0 8) 0 (xb (gt (cpB (ψ2 72) 0 (ψ2 76) 0 8) 0) ((nI (m * (5 - jj) + (m - k))).toInt64, 0))) 8 8) 0 (G (gt (cpB (ψ2 72) (8 * (m - k)) (pt (cpB (ψ2 72) 0 (ψ2 76) 0 8) 0 (xb (gt (cpB (ψ2 72) 0 (ψ2 76) 0 8) 0) ((nI (m * (5 - jj) + (m - k))).toInt64, 0))) 8 8) 0)))) 72 (cpB (pt (cpB (ψ2 72) (8 * (m - k)) (pt (cpB (ψ2 72) 0 (ψ2 76) 0 8) 0 (xb (gt (cpB (ψ2 72) 0 (ψ2 76) 0 8) 0) ((nI (m * (5 - jj) + (m - k))).toInt64, 0))) 8 8) 0 (G (gt (cpB (ψ2 72) (8 * (m - k)) (pt (cpB (ψ2 72) 0 (ψ2 76) 0 8) 0 (xb (gt (cpB (ψ2 72) 0 (ψ2 76) 0 8) 0) ((nI (m * (5 - jj) + (m - k))).toInt64, 0))) 8 8) 0))) 8 (cpB (pt (cpB (ψ2 72) (8 * (m - k)) (pt (cpB (ψ2 72) 0 (ψ2 76) 0 8) 0 (xb (gt (cpB (ψ2 72) 0 (ψ2 76) 0 8) 0) ((nI (m * (5 - jj) + (m - k))).toInt64, 0))) 8 8) 0 (G (gt (cpB (ψ2 72) (8 * (m - k)) (pt (cpB (ψ2 72) 0 (ψ2 76) 0 8) 0 (xb (gt (cpB (ψ2 72) 0 (ψ2 76) 0 8) 0) ((nI (m * (5 - jj) + (m - k))).toInt64, 0))) 8 8) 0))) 0 (ψ2 72) 0 8) (8 * (m - k)) 8)) z i := by have z_ := S_29; rw [uo_uo] at z_; exact z_
    refine R_iinc (pc := 100) (j := 0) (v := nI (m - (k + 1))) (lv' := [(3, .int (nI (m - (k + 1)))), (2, .int (nI (6 - jj) - 1)), (0, .ref 61), (1, .int (nI m))]) dX12_unwrapAll_100 rfl (by rw [show m - k = (m - (k + 1)) + 1 by omega]; exact nI_dec1 _) (by decide) rfl ?_
    refine R_goto (pc := 103) (tgt := 8) dX12_unwrapAll_103 (by decide) ?_
    refine R_sub [0, 1, 2, 3] rfl ?_
    have eL : (uIn G m (5 - jj) s k).2.length = 8 * (m + 1) := by rw [uIn_len, hl]
    have j1 : wR (cpB (pt (cpB (ψ2 72) (8 * (m - k)) (pt (cpB (ψ2 72) 0 (ψ2 76) 0 8) 0 (xb (gt (cpB (ψ2 72) 0 (ψ2 76) 0 8) 0) ((nI (m * (5 - jj) + (m - k))).toInt64, 0))) 8 8) 0 (G (gt (cpB (ψ2 72) (8 * (m - k)) (pt (cpB (ψ2 72) 0 (ψ2 76) 0 8) 0 (xb (gt (cpB (ψ2 72) 0 (ψ2 76) 0 8) 0) ((nI (m * (5 - jj) + (m - k))).toInt64, 0))) 8 8) 0))) 8 (cpB (pt (cpB (ψ2 72) (8 * (m - k)) (pt (cpB (ψ2 72) 0 (ψ2 76) 0 8) 0 (xb (gt (cpB (ψ2 72) 0 (ψ2 76) 0 8) 0) ((nI (m * (5 - jj) + (m - k))).toInt64, 0))) 8 8) 0 (G (gt (cpB (ψ2 72) (8 * (m - k)) (pt (cpB (ψ2 72) 0 (ψ2 76) 0 8) 0 (xb (gt (cpB (ψ2 72) 0 (ψ2 76) 0 8) 0) ((nI (m * (5 - jj) + (m - k))).toInt64, 0))) 8 8) 0))) 0 (ψ2 72) 0 8) (8 * (m - k)) 8) (uIn G m (5 - jj) s (k + 1)) := by
      rw [uIn_s, uS_eq]
      refine wR_up (s := (uIn G m (5 - jj) s k)) (i := m - k) (q := G ((uIn G m (5 - jj) s k).1 ^^^ (nI (m * (5 - jj) + (m - k))).toInt64, e8 (uIn G m (5 - jj) s k).2 (8 * (m - k)))) hJ (by omega) (by omega) (by omega) ?_
      simp only [gt_pt]
      rw [wR_gt2 hJ (by omega) (by omega)]
    exact ih (k + 1) (by omega) h_27 _ S_31 ((hK.up (by decide)).up (by decide)) (j1) (hF.tr (((((F_5.tr F_10).tr F_15).tr F_20).tr F_25).tr F_30))
set_option maxHeartbeats 1000000 in
set_option maxRecDepth 100000 in
theorem qX12_unwrapAll_out {l : Launch} {w : am_W} {h : am_H} {n : Nat} {ψ : Nat → oA} {z : fA} {i : mI} (hn : 90 ≤ n) (m : Nat) (hm : m ≤ 66) {F G : bP → bP} (K0 : Kh ψ 0 F G) (s : wT) (hl : s.2.length = 8 * (m + 1)) {Q : am_H → Nat → Option Value → Prop} (kk : ∀ h2 ψ2, MO h2 ψ2 z i → FR [72, 76] ψ ψ2 → wR (ψ2 72) (uOut G m s 6) → FM h h2 → RW l w mX12_unwrapAll h2 n 0 0 112 [(2, .int (nI (6 - 6) - 1)), (0, .ref 61), (1, .int (nI m))] [] Q) : ∀ (dd k : Nat), k + dd = 6 → ∀ h2 ψ2, MO h2 ψ2 z i → FR [72, 76] ψ ψ2 → wR (ψ2 72) (uOut G m s k) → FM h h2 → RW l w mX12_unwrapAll h2 n 0 0 2 [(2, .int (nI (6 - k) - 1)), (0, .ref 61), (1, .int (nI m))] [] Q := by
  intro dd
  induction dd with
  | zero =>
    intro k hd h2 ψ2 S2 hK hJ hF
    refine R_iload_n (pc := 2) 0 dX12_unwrapAll_2 rfl rfl ?_
    refine R_if_lt (pc := 3) (tgt := 112) dX12_unwrapAll_3 (by decide) (fun c_1 => ?_) (fun c_1 => absurd (by rw [show k = 6 by omega]; decide) c_1)
    obtain rfl : k = 6 := by omega
    exact kk h2 ψ2 S2 hK hJ hF
  | succ dd ih =>
    intro k hd h2 ψ2 S2 hK hJ hF
    have K0_2 := K0.fr hK (by decide) (by decide) (by decide) (by decide)
    refine R_iload_n (pc := 2) 0 dX12_unwrapAll_2 rfl rfl ?_
    refine R_if_lt (pc := 3) (tgt := 112) dX12_unwrapAll_3 (by decide) (fun c_1 => absurd c_1 (by rw [show 6 - k = (5 - k) + 1 by omega, nI_pred]; exact nI_pos (by omega))) (fun c_1 => ?_)
    refine R_iload_n (pc := 6) 2 dX12_unwrapAll_6 rfl rfl ?_
    refine R_istore_n (pc := 7) (lv' := [(3, .int (nI m)), (2, .int (nI (6 - k) - 1)), (0, .ref 61), (1, .int (nI m))]) dX12_unwrapAll_7 rfl (by decide) rfl ?_
    refine R_sub [0, 1, 2, 3] rfl ?_
    have eL : (uOut G m s k).2.length = 8 * (m + 1) := by rw [uOut_len, hl]
    refine qX12_unwrapAll_in (h := h) (ψ := ψ2) (Q := Q) hn m hm K0_2 (uOut G m s k) eL k (by omega) (fun h3 ψ3 S3 hK3 hJ3 hF3 => ?_) m 0 (by omega) h2 ψ2 S2 (FR.rf _ _) hJ hF
    refine R_iinc (pc := 106) (j := 1) (v := nI (6 - (k + 1)) - 1) (lv' := [(2, .int (nI (6 - (k + 1)) - 1)), (3, .int (nI (m - m))), (0, .ref 61), (1, .int (nI m))]) dX12_unwrapAll_106 rfl (by rw [show 6 - k = (6 - (k + 1)) + 1 by omega]; exact nI_dec _) (by decide) rfl ?_
    refine R_goto (pc := 109) (tgt := 2) dX12_unwrapAll_109 (by decide) ?_
    refine R_sub [0, 2, 3] rfl ?_
    exact ih (k + 1) (by omega) h3 _ S3 (hK.tr hK3 (by decide)) (hJ3) hF3
set_option maxHeartbeats 1000000 in
set_option maxRecDepth 100000 in
theorem oX12_unwrapAll {l : Launch} {w : am_W} {h : am_H} {n : Nat} {ψ : Nat → oA} {z : fA} {i : mI} (S : MO h ψ z i) (hn : 90 ≤ n) (m : Nat) (hm : m ≤ 66) {F G : bP → bP} (K0 : Kh ψ 0 F G) (s : wT) (hl : s.2.length = 8 * (m + 1)) (hy : wR (ψ 72) s) : RH l w mX12_unwrapAll h n [.ref 61, .int (nI m)] (fun h2 q => ∃ ψ2, q = none ∧ MO h2 ψ2 z i ∧ FR [72, 76] ψ ψ2 ∧ wR (ψ2 72) (uOut G m s 6) ∧ FM h h2) := by
  refine RC.of [(0, .ref 61), (1, .int (nI m))] (by decide +kernel) rfl (Nat.le_of_ble_eq_true rfl) ?_
  refine R_iconst (pc := 0) (v := 5) dX12_unwrapAll_0 (by decide) ?_
  refine R_eqi (y := nI 6 - 1) (by decide) ?_
  refine R_istore_n (pc := 1) (lv' := [(2, .int (nI 6 - 1)), (0, .ref 61), (1, .int (nI m))]) dX12_unwrapAll_1 rfl (by decide) rfl ?_
  refine R_sub [0, 1, 2] rfl ?_
  refine qX12_unwrapAll_out (h := h) (ψ := ψ) hn m hm K0 s hl (fun h2 ψ2 S2 hK hJ hF => ?_) 6 0 (by omega) h ψ S (FR.rf _ _) hy (FM.rf h)
  exact R_vreturn (pc := 112) dX12_unwrapAll_112 rfl (by decide) (by decide) ⟨rfl, ψ2, rfl, S2, hK, hJ, hF⟩
