def ush (C : BitVec 8 → BitVec 8) (s : sT) : sT := fun j => C (s (iv j))
def dqR (C : BitVec 8 → BitVec 8) (rk : sT) (R : Nat) (s : sT) : Nat → sT
  | 0 => s
  | d + 1 => ush C (if R - d < R then mxB 14 11 13 9 (arB rk (R - d) (dqR C rk R s d)) else arB rk (R - d) (dqR C rk R s d))
theorem iv_lt (j : Nat) : iv j < 16 := by unfold iv; omega
theorem h16.bk {f g b : fA} {s : sT} {C : BitVec 8 → BitVec 8} (h : h16 f s) (hb : ∀ v : BitVec 8, b v.toNat = oc (C v)) (x : fA) : h16 (pgF (bkP (uhG b f) g 16) x 0 16) (ush C s) := fun k hk => by
  have hi := iv_lt k
  rw [pgF_lt _ _ hk]
  unfold bkP uhG ush
  rw [if_pos ⟨hk, hi⟩, h _ hi, oc_ix, hb]
theorem nI_dec1 (r : Nat) : nI (r + 1) + (-1) = nI r := (i_dec _).trans (nI_pred r)
set_option maxHeartbeats 4000000 in
set_option maxRecDepth 100000 in
theorem qX12_openBlock_rounds {l : Launch} {w : am_W} {h : am_H} {n : Nat} {φ : Nat → fA} {i : mI} (hn : 90 ≤ n) {p : Nat} (u t : Nat) {B C : BitVec 8 → BitVec 8} {rk : sT} {R : Nat} (hH : rH φ u B C rk R) (s : sT) {Q : am_H → Nat → Option Value → Prop} (kk : ∀ h2 φ2, MS h2 φ2 i → (∀ q, q ≠ 69 → q ≠ 70 → φ2 q = φ q) → h16 (φ2 69) (dqR C rk R s R) → FM h h2 → RW l w mX12_openBlock h2 n 0 0 154 [(4, .int (nI 0)), (0, .ref 61), (1, .int (nI u)), (2, .ref p), (3, .int (nI t))] [] Q) : ∀ (r d : Nat), d + r = R → ∀ h2 φ2, MS h2 φ2 i → (∀ q, q ≠ 69 → q ≠ 70 → φ2 q = φ q) → h16 (φ2 69) (dqR C rk R s d) → FM h h2 → RW l w mX12_openBlock h2 n 0 0 37 [(4, .int (nI r)), (0, .ref 61), (1, .int (nI u)), (2, .ref p), (3, .int (nI t))] [] Q := by
  have hR := hH.2.2.2.2.1
  have hu := hH.2.2.2.2.2
  intro r
  induction r with
  | zero =>
    intro d hd h2 φ2 S2 Aφ2 Vφ2 hF
    refine R_iload (pc := 37) 0 dX12_openBlock_37 rfl ?_
    refine R_iconst (pc := 39) (v := 1) dX12_openBlock_39 (by decide) ?_
    refine R_icmp_lt (pc := 40) (tgt := 154) dX12_openBlock_40 (by decide) (fun c_1 => ?_) (fun c_1 => absurd (by decide) c_1)
    obtain rfl : d = R := by omega
    exact kk h2 φ2 S2 Aφ2 Vφ2 hF
  | succ r ih =>
    intro d hd h2 φ2 S2 Aφ2 Vφ2 hF
    refine R_iload (pc := 37) 0 dX12_openBlock_37 rfl ?_
    refine R_iconst (pc := 39) (v := 1) dX12_openBlock_39 (by decide) ?_
    refine R_icmp_lt (pc := 40) (tgt := 154) dX12_openBlock_40 (by decide) (fun c_1 => absurd c_1 (nI_nlt (a := r + 1) (b := 1) (by omega) (by omega))) (fun c_1 => ?_)
    refine R_aload_n (pc := 43) 1 dX12_openBlock_43 rfl rfl ?_
    refine R_iload_n (pc := 44) 2 dX12_openBlock_44 rfl rfl ?_
    refine R_iload (pc := 45) 0 dX12_openBlock_45 rfl ?_
    refine R_callVh (pc := 47) (μ' := mX12_addRound) (As := [.int (nI u), .int (nI (r + 1))]) (st := []) dX12_openBlock_47 zX12_addRound lX12_122 ⟨by decide, by decide⟩ rfl rfl ⟨by decide, by decide⟩ S2.2 (by omega) rfl (Nat.le_of_ble_eq_true rfl) (qX12_addRound S2 hn u (r + 1) (by omega)) (fun h_2 r_ q_3 => ?_)
    obtain ⟨rfl, S3, F3⟩ := q_3
    obtain ⟨φ3, eφ3⟩ : ∃ x, x = uf φ2 69 (adF (φ2 67) (240 * u + 16 * (r + 1)) (φ2 69) 0 16) := ⟨_, rfl⟩
    rw [← eφ3] at S3
    have Aφ3 : ∀ q, q ≠ 69 → q ≠ 70 → φ3 q = φ q := fun q_ a_ b_ => by rw [eφ3, uf_n a_]; exact Aφ2 q_ a_ b_
    have Vφ3 : h16 (φ3 69) (arB rk (r + 1) (dqR C rk R s d)) := by rw [eφ3, uf_s]; exact Vφ2.add (rk := rk) (R := R) (r := r + 1) (fun j_ hj_ => by rw [Aφ2 67 (by decide) (by decide)]; exact hH.2.2.1 j_ hj_) (by omega)
    have R3 : φ3 68 u = nI R := by rw [Aφ3 68 (by decide) (by decide)]; exact hH.2.2.2.1
    refine R_iload (pc := 50) 0 dX12_openBlock_50 rfl ?_
    refine R_aload_n (pc := 52) 1 dX12_openBlock_52 rfl rfl ?_
    refine R_get (pc := 53) dX12_openBlock_53 fX12_32 S3.2 (by omega) rfl ?_
    refine R_iload_n (pc := 56) 2 dX12_openBlock_56 rfl rfl ?_
    refine R_iald' (pc := 57) (j := u) dX12_openBlock_57 (S3.1 68 rfl) (by omega) ⟨rfl, by show u < 2; omega, by decide⟩ ?_
    refine R_eqi (y := nI R) (R3) ?_
    refine R_icmp_ge (pc := 58) (tgt := 73) dX12_openBlock_58 (by decide) (fun c_4 => ?_) (fun c_4 => ?_)
    · skip
      have hlt : ¬ r + 1 < R := by have := (nI_leI (by omega) (by omega)).mp c_4; omega
      refine R_iconst (pc := 73) (v := 0) dX12_openBlock_73 (by decide) ?_
      refine R_istore (pc := 74) (lv' := [(5, .int 0), (4, .int (nI (r + 1))), (0, .ref 61), (1, .int (nI u)), (2, .ref p), (3, .int (nI t))]) dX12_openBlock_74 (by decide) rfl ?_
      refine R_sub [0, 1, 2, 3, 4, 5] rfl ?_
      refine qX12_openBlock_sub (h := h) (φ := φ3) hn p u t (nI (r + 1)) Vφ3.ok (fun h7 S7 F7 => ?_) 16 0 (by omega) h_2 (by rw [bkP_0, uf_id]; exact S3) (hF.tr F3)
      refine R_iconst (pc := 118) (v := 0) dX12_openBlock_118 (by decide) ?_
      refine R_istore (pc := 119) (lv' := [(5, .int 0), (4, .int (nI (r + 1))), (0, .ref 61), (1, .int (nI u)), (2, .ref p), (3, .int (nI t))]) dX12_openBlock_119 (by decide) rfl ?_
      refine R_sub [0, 1, 2, 3, 4, 5] rfl ?_
      refine qX12_openBlock_cp (h := h) (φ := (uf φ3 70 (bkP (uhG (φ3 66) (φ3 69)) (φ3 70) 16))) hn p u t (nI (r + 1)) (fun h8 S8 F8 => ?_) 16 0 (by omega) h7 (by rw [pgF_0, uf_id]; exact S7) F7
      obtain ⟨φ8, eφ8⟩ : ∃ x, x = uf (uf φ3 70 (bkP (uhG (φ3 66) (φ3 69)) (φ3 70) 16)) 69 (pgF ((uf φ3 70 (bkP (uhG (φ3 66) (φ3 69)) (φ3 70) 16)) 70) ((uf φ3 70 (bkP (uhG (φ3 66) (φ3 69)) (φ3 70) 16)) 69) 0 16) := ⟨_, rfl⟩
      rw [← eφ8] at S8
      have Aφ8 : ∀ q, q ≠ 69 → q ≠ 70 → φ8 q = φ q := fun q_ a_ b_ => by rw [eφ8]; simp only [uf, if_neg a_, if_neg b_]; exact Aφ3 q_ a_ b_
      have Vφ8 : h16 (φ8 69) (ush C (arB rk (r + 1) (dqR C rk R s d))) := by rw [eφ8]; exact Vφ3.bk (C := C) (fun v => by rw [Aφ3 66 (by decide) (by decide)]; exact hH.2.1 v) _
      have eD : dqR C rk R s (d + 1) = ush C (arB rk (r + 1) (dqR C rk R s d)) := by show ush C (if R - d < R then _ else _) = _; rw [show R - d = r + 1 by omega, if_neg hlt]
      rw [← eD] at Vφ8
      refine R_iinc (pc := 148) (j := 1) (v := nI r) (lv' := [(4, .int (nI r)), (5, .int (nI 16)), (0, .ref 61), (1, .int (nI u)), (2, .ref p), (3, .int (nI t))]) dX12_openBlock_148 rfl (nI_dec1 r) (by decide) rfl ?_
      refine R_goto (pc := 151) (tgt := 37) dX12_openBlock_151 (by decide) ?_
      refine R_sub [0, 2, 3, 4, 5] rfl ?_
      exact ih (d + 1) (by omega) h8 φ8 S8 Aφ8 Vφ8 F8
    · skip
      have hlt : r + 1 < R := by rcases Nat.lt_or_ge (r + 1) R with q_ | q_; exact q_; exact absurd (nI_le q_ (by omega)) c_4
      refine R_aload_n (pc := 61) 1 dX12_openBlock_61 rfl rfl ?_
      refine R_bipush (pc := 62) (v := 14) dX12_openBlock_62 (by decide) ?_
      refine R_bipush (pc := 64) (v := 11) dX12_openBlock_64 (by decide) ?_
      refine R_bipush (pc := 66) (v := 13) dX12_openBlock_66 (by decide) ?_
      refine R_bipush (pc := 68) (v := 9) dX12_openBlock_68 (by decide) ?_
      refine R_callVh (pc := 70) (μ' := mX12_mix) (As := [.int 14, .int 11, .int 13, .int 9]) (st := []) dX12_openBlock_70 zX12_mix lX12_126 ⟨by decide, by decide⟩ rfl rfl ⟨by decide, by decide⟩ S3.2 (by omega) rfl (Nat.le_of_ble_eq_true rfl) (qX12_mix S3 hn 14 11 13 9) (fun h_5 r_ q_6 => ?_)
      obtain ⟨rfl, S5, F5⟩ := q_6
      obtain ⟨φ5, eφ5⟩ : ∃ x, x = uf (uf φ3 70 (pgF (mxG (φ3 69) 14 11 13 9) (φ3 70) 0 16)) 69 (pgF (pgF (mxG (φ3 69) 14 11 13 9) (φ3 70) 0 16) (φ3 69) 0 16) := ⟨_, rfl⟩
      rw [← eφ5] at S5
      have Aφ5 : ∀ q, q ≠ 69 → q ≠ 70 → φ5 q = φ q := fun q_ a_ b_ => by rw [eφ5]; simp only [uf, if_neg a_, if_neg b_]; exact Aφ3 q_ a_ b_
      have Vφ5 : h16 (φ5 69) (mxB 14 11 13 9 (arB rk (r + 1) (dqR C rk R s d))) := by rw [eφ5]; exact Vφ3.mix (by unfold cOk; decide) (by unfold cOk; decide) (by unfold cOk; decide) (by unfold cOk; decide) _
      refine R_iconst (pc := 73) (v := 0) dX12_openBlock_73 (by decide) ?_
      refine R_istore (pc := 74) (lv' := [(5, .int 0), (4, .int (nI (r + 1))), (0, .ref 61), (1, .int (nI u)), (2, .ref p), (3, .int (nI t))]) dX12_openBlock_74 (by decide) rfl ?_
      refine R_sub [0, 1, 2, 3, 4, 5] rfl ?_
      refine qX12_openBlock_sub (h := h) (φ := φ5) hn p u t (nI (r + 1)) Vφ5.ok (fun h7 S7 F7 => ?_) 16 0 (by omega) h_5 (by rw [bkP_0, uf_id]; exact S5) (hF.tr (F3.tr F5))
      refine R_iconst (pc := 118) (v := 0) dX12_openBlock_118 (by decide) ?_
      refine R_istore (pc := 119) (lv' := [(5, .int 0), (4, .int (nI (r + 1))), (0, .ref 61), (1, .int (nI u)), (2, .ref p), (3, .int (nI t))]) dX12_openBlock_119 (by decide) rfl ?_
      refine R_sub [0, 1, 2, 3, 4, 5] rfl ?_
      refine qX12_openBlock_cp (h := h) (φ := (uf φ5 70 (bkP (uhG (φ5 66) (φ5 69)) (φ5 70) 16))) hn p u t (nI (r + 1)) (fun h8 S8 F8 => ?_) 16 0 (by omega) h7 (by rw [pgF_0, uf_id]; exact S7) F7
      obtain ⟨φ8, eφ8⟩ : ∃ x, x = uf (uf φ5 70 (bkP (uhG (φ5 66) (φ5 69)) (φ5 70) 16)) 69 (pgF ((uf φ5 70 (bkP (uhG (φ5 66) (φ5 69)) (φ5 70) 16)) 70) ((uf φ5 70 (bkP (uhG (φ5 66) (φ5 69)) (φ5 70) 16)) 69) 0 16) := ⟨_, rfl⟩
      rw [← eφ8] at S8
      have Aφ8 : ∀ q, q ≠ 69 → q ≠ 70 → φ8 q = φ q := fun q_ a_ b_ => by rw [eφ8]; simp only [uf, if_neg a_, if_neg b_]; exact Aφ5 q_ a_ b_
      have Vφ8 : h16 (φ8 69) (ush C (mxB 14 11 13 9 (arB rk (r + 1) (dqR C rk R s d)))) := by rw [eφ8]; exact Vφ5.bk (C := C) (fun v => by rw [Aφ5 66 (by decide) (by decide)]; exact hH.2.1 v) _
      have eD : dqR C rk R s (d + 1) = ush C (mxB 14 11 13 9 (arB rk (r + 1) (dqR C rk R s d))) := by show ush C (if R - d < R then _ else _) = _; rw [show R - d = r + 1 by omega, if_pos hlt]
      rw [← eD] at Vφ8
      refine R_iinc (pc := 148) (j := 1) (v := nI r) (lv' := [(4, .int (nI r)), (5, .int (nI 16)), (0, .ref 61), (1, .int (nI u)), (2, .ref p), (3, .int (nI t))]) dX12_openBlock_148 rfl (nI_dec1 r) (by decide) rfl ?_
      refine R_goto (pc := 151) (tgt := 37) dX12_openBlock_151 (by decide) ?_
      refine R_sub [0, 2, 3, 4, 5] rfl ?_
      exact ih (d + 1) (by omega) h8 φ8 S8 Aφ8 Vφ8 F8
set_option maxHeartbeats 4000000 in
set_option maxRecDepth 100000 in
theorem qX12_openBlock {l : Launch} {w : am_W} {h : am_H} {n : Nat} {φ : Nat → fA} {i : mI} (S : MS h φ i) (hn : 90 ≤ n) {p : Nat} (hp : isA p = true) (hp69 : p ≠ 69) (hp70 : p ≠ 70) (u t : Nat) (ht : t + 16 ≤ mN p) {B C : BitVec 8 → BitVec 8} {rk : sT} {R : Nat} (hH : rH φ u B C rk R) (s : sT) (hs : ∀ k, k < 16 → φ p (t + k) = oc (s k)) : RH l w mX12_openBlock h n [.ref 61, .int (nI u), .ref p, .int (nI t)] (blX h φ i p t (arB rk 0 (dqR C rk R s R))) := by
  refine RC.of [(0, .ref 61), (1, .int (nI u)), (2, .ref p), (3, .int (nI t))] (by decide +kernel) rfl (Nat.le_of_ble_eq_true rfl) ?_
  have hR := hH.2.2.2.2.1
  have hu := hH.2.2.2.2.2
  refine R_iconst (pc := 0) (v := 0) dX12_openBlock_0 (by decide) ?_
  refine R_istore (pc := 1) (lv' := [(4, .int 0), (0, .ref 61), (1, .int (nI u)), (2, .ref p), (3, .int (nI t))]) dX12_openBlock_1 (by decide) rfl ?_
  refine R_sub [0, 1, 2, 3, 4] rfl ?_
  refine qX12_openBlock_in (h := h) (φ := φ) hn hp hp69 u t ht (fun h1 S1 F1 => ?_) 16 0 (by omega) h (by rw [pgF_0, uf_id]; exact S) (FM.rf h)
  obtain ⟨φ1, eφ1⟩ : ∃ x, x = uf φ 69 (pgF (fun j => φ p (t + j)) (φ 69) 0 16) := ⟨_, rfl⟩
  rw [← eφ1] at S1
  have Aφ1 : ∀ q, q ≠ 69 → q ≠ 70 → φ1 q = φ q := fun q_ a_ b_ => by rw [eφ1, uf_n a_]
  have Vφ1 : h16 (φ1 69) s := fun k_ hk_ => by rw [eφ1, uf_s, pgF_lt _ _ hk_]; exact hs k_ hk_
  have R1 : φ1 68 u = nI R := by rw [Aφ1 68 (by decide) (by decide)]; exact hH.2.2.2.1
  refine R_aload_n (pc := 29) 1 dX12_openBlock_29 rfl rfl ?_
  refine R_get (pc := 30) dX12_openBlock_30 fX12_32 S1.2 (by omega) rfl ?_
  refine R_iload_n (pc := 33) 2 dX12_openBlock_33 rfl rfl ?_
  refine R_iald' (pc := 34) (j := u) dX12_openBlock_34 (S1.1 68 rfl) (by omega) ⟨rfl, by show u < 2; omega, by decide⟩ ?_
  refine R_eqi (y := nI R) (R1) ?_
  refine R_istore (pc := 35) (lv' := [(4, .int (nI R)), (0, .ref 61), (1, .int (nI u)), (2, .ref p), (3, .int (nI t))]) dX12_openBlock_35 (by decide) rfl ?_
  refine R_sub [0, 1, 2, 3, 4] rfl ?_
  refine qX12_openBlock_rounds (h := h) (φ := φ) (p := p) hn u t hH s (fun h7 φ7 S7 Aφ7 Vφ7 F7 => ?_) R 0 (by omega) h1 φ1 S1 Aφ1 Vφ1 F1
  refine R_aload_n (pc := 154) 1 dX12_openBlock_154 rfl rfl ?_
  refine R_iload_n (pc := 155) 2 dX12_openBlock_155 rfl rfl ?_
  refine R_iconst (pc := 156) (v := 0) dX12_openBlock_156 (by decide) ?_
  refine R_callVh (pc := 157) (μ' := mX12_addRound) (As := [.int (nI u), .int (nI (0))]) (st := []) dX12_openBlock_157 zX12_addRound lX12_122 ⟨by decide, by decide⟩ rfl rfl ⟨by decide, by decide⟩ S7.2 (by omega) rfl (Nat.le_of_ble_eq_true rfl) (qX12_addRound S7 hn u 0 (by omega)) (fun h_1 r_ q_2 => ?_)
  obtain ⟨rfl, S3, F3⟩ := q_2
  obtain ⟨φ3, eφ3⟩ : ∃ x, x = uf φ7 69 (adF (φ7 67) (240 * u + 16 * 0) (φ7 69) 0 16) := ⟨_, rfl⟩
  rw [← eφ3] at S3
  have Aφ3 : ∀ q, q ≠ 69 → q ≠ 70 → φ3 q = φ q := fun q_ a_ b_ => by rw [eφ3, uf_n a_]; exact Aφ7 q_ a_ b_
  have Vφ3 : h16 (φ3 69) (arB rk 0 (dqR C rk R s R)) := by rw [eφ3, uf_s]; exact Vφ7.add (rk := rk) (R := R) (r := 0) (fun j_ hj_ => by rw [Aφ7 67 (by decide) (by decide)]; exact hH.2.2.1 j_ hj_) (by omega)
  refine R_iconst (pc := 160) (v := 0) dX12_openBlock_160 (by decide) ?_
  refine R_istore (pc := 161) (lv' := [(4, .int 0), (0, .ref 61), (1, .int (nI u)), (2, .ref p), (3, .int (nI t))]) dX12_openBlock_161 (by decide) rfl ?_
  refine R_sub [0, 1, 2, 3, 4] rfl ?_
  refine qX12_openBlock_out (h := h) (φ := φ3) hn hp hp69 u t ht (fun h8 S8 F8 => ?_) 16 0 (by omega) h_1 (by rw [pgF_0, uf_id]; exact S3) (F7.tr F3)
  exact R_vreturn (pc := 189) dX12_openBlock_189 rfl (by decide) (by decide) ⟨rfl, _, rfl, S8, fun x_ a_ b_ c_ => (uf_n c_).trans (Aφ3 x_ a_ b_), (uf_s _ _ _).trans ((pgF_cg _ _ Vφ3).trans (by rw [Aφ3 p hp69 hp70])), F8⟩
