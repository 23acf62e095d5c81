theorem tm255 : ∀ k, k < 256 → (tmP (nI k) 1 8 &&& 255 = tmP (nI k) 1 8 ∧ tmP (nI k) 2 8 &&& 255 = tmP (nI k) 2 8 ∧ tmP (nI k) 3 8 &&& 255 = tmP (nI k) 3 8) ∧ (tmP (nI k) 9 8 &&& 255 = tmP (nI k) 9 8 ∧ tmP (nI k) 11 8 &&& 255 = tmP (nI k) 11 8 ∧ tmP (nI k) 13 8 &&& 255 = tmP (nI k) 13 8 ∧ tmP (nI k) 14 8 &&& 255 = tmP (nI k) 14 8) := by decide +kernel
def gB (x : BitVec 8) (c : Int32) : BitVec 8 := t8 (tmP (oc x) c 8)
def cOk (c : Int32) : Prop := (c = 1 ∨ c = 2 ∨ c = 3) ∨ (c = 9 ∨ c = 11 ∨ c = 13 ∨ c = 14)
theorem tm_ok (x : BitVec 8) {c : Int32} (hc : cOk c) : tmP (oc x) c 8 = oc (gB x c) := by
  unfold gB
  rw [← oc_t8, oc_nI]
  have h := tm255 x.toNat x.isLt
  rcases hc with (rfl | rfl | rfl) | (rfl | rfl | rfl | rfl)
  · exact h.1.1.symm
  · exact h.1.2.1.symm
  · exact h.1.2.2.symm
  · exact h.2.1.symm
  · exact h.2.2.1.symm
  · exact h.2.2.2.1.symm
  · exact h.2.2.2.2.symm
abbrev sT : Type := Nat → BitVec 8
def shB (B : BitVec 8 → BitVec 8) (s : sT) : sT := fun k => B (s ((k + 4 * (k % 4)) % 16))
def mxB (a b c d : Int32) (s : sT) : sT := fun j => gB (s j) a ^^^ gB (s (4 * (j / 4) + (j % 4 + 1) % 4)) b ^^^ gB (s (4 * (j / 4) + (j % 4 + 2) % 4)) c ^^^ gB (s (4 * (j / 4) + (j % 4 + 3) % 4)) d
def arB (rk : sT) (r : Nat) (s : sT) : sT := fun k => s k ^^^ rk (16 * r + k)
def sqR (B : BitVec 8 → BitVec 8) (rk : sT) (R : Nat) (s : sT) : Nat → sT
  | 0 => arB rk 0 s
  | r + 1 => arB rk (r + 1) (if r + 1 < R then mxB 2 3 1 1 (shB B (sqR B rk R s r)) else shB B (sqR B rk R s r))
def h16 (f : fA) (s : sT) : Prop := ∀ k, k < 16 → f k = oc (s k)
theorem h16.ok {f : fA} {s : sT} (h : h16 f s) : ok8 f := fun k hk => ⟨s k, h k hk⟩
def rH (φ : Nat → fA) (u : Nat) (B C : BitVec 8 → BitVec 8) (rk : sT) (R : Nat) : Prop := (∀ v : BitVec 8, φ 65 v.toNat = oc (B v)) ∧ (∀ v : BitVec 8, φ 66 v.toNat = oc (C v)) ∧ (∀ j, j < 16 * (R + 1) → φ 67 (240 * u + j) = oc (rk j)) ∧ φ 68 u = nI R ∧ (1 ≤ R ∧ R ≤ 14) ∧ u < 2
theorem oc_ix (v : BitVec 8) : (oc v).toNatClampNeg = v.toNat := by rw [oc_nI, nI_clamp (by have := v.isLt; omega)]
theorem h16.sub {f g b : fA} {s : sT} {B : BitVec 8 → BitVec 8} (h : h16 f s) (hb : ∀ v : BitVec 8, b v.toNat = oc (B v)) (x : fA) : h16 (pgF (pgF (shG b f) g 0 16) x 0 16) (shB B s) := fun k hk => by
  rw [pgF_lt _ _ hk, pgF_lt _ _ hk]
  unfold shG shB
  rw [h _ (by omega), oc_ix, hb]
theorem h16.mix {f g : fA} {s : sT} (h : h16 f s) {a b c d : Int32} (ha : cOk a) (hb : cOk b) (hc : cOk c) (hd : cOk d) (x : fA) : h16 (pgF (pgF (mxG f a b c d) g 0 16) x 0 16) (mxB a b c d s) := fun k hk => by
  rw [pgF_lt _ _ hk, pgF_lt _ _ hk]
  unfold mxG mxB
  rw [h _ hk, h _ (by omega), h _ (by omega), h _ (by omega), tm_ok _ ha, tm_ok _ hb, tm_ok _ hc, tm_ok _ hd, oc_xor, oc_xor, oc_xor]
theorem h16.add {f g : fA} {s rk : sT} {u r R : Nat} (h : h16 f s) (hk : ∀ j, j < 16 * (R + 1) → g (240 * u + j) = oc (rk j)) (hr : r ≤ R) : h16 (adF g (240 * u + 16 * r) f 0 16) (arB rk r s) := fun k hk' => by
  rw [adF_lt _ _ _ hk', Nat.add_assoc, hk _ (by omega), h _ hk', oc_xor]
  rfl
set_option maxHeartbeats 4000000 in
set_option maxRecDepth 100000 in
theorem qX12_sealBlock_rounds {l : Launch} {w : am_W} {h : am_H} {n : Nat} {φ : Nat → fA} {i : mI} (hn : 90 ≤ n) {p : Nat} (u t : Nat) {B C : BitVec 8 → BitVec 8} {rk : sT} {R : Nat} (hH : rH φ u B C rk R) (s : sT) {Q : am_H → Nat → Option Value → Prop} (kk : ∀ h2 φ2, MS h2 φ2 i → (∀ q, q ≠ 69 → q ≠ 70 → φ2 q = φ q) → h16 (φ2 69) (sqR B rk R s R) → FM h h2 → RW l w mX12_sealBlock h2 n 0 0 156 [(4, .int (nI (R + 1))), (0, .ref 61), (1, .int (nI u)), (2, .ref p), (3, .int (nI t))] [] Q) : ∀ (dd r : Nat), r + dd = R → ∀ h2 φ2, MS h2 φ2 i → (∀ q, q ≠ 69 → q ≠ 70 → φ2 q = φ q) → h16 (φ2 69) (sqR B rk R s r) → FM h h2 → RW l w mX12_sealBlock h2 n 0 0 38 [(4, .int (nI (r + 1))), (0, .ref 61), (1, .int (nI u)), (2, .ref p), (3, .int (nI t))] [] Q := by
  have hR := hH.2.2.2.2.1
  have hu := hH.2.2.2.2.2
  intro dd
  induction dd with
  | zero =>
    intro r hd h2 φ2 S2 A2 V2 hF
    have R2 : φ2 68 u = nI R := by rw [A2 68 (by decide) (by decide)]; exact hH.2.2.2.1
    refine R_iload (pc := 38) 0 dX12_sealBlock_38 rfl ?_
    refine R_aload_n (pc := 40) 1 dX12_sealBlock_40 rfl rfl ?_
    refine R_get (pc := 41) dX12_sealBlock_41 fX12_32 S2.2 (by omega) rfl ?_
    refine R_iload_n (pc := 44) 2 dX12_sealBlock_44 rfl rfl ?_
    refine R_iald' (pc := 45) (j := u) dX12_sealBlock_45 (S2.1 68 rfl) (by omega) ⟨rfl, by show u < 2; omega, by decide⟩ ?_
    refine R_eqi (y := nI R) (R2) ?_
    refine R_icmp_gt (pc := 46) (tgt := 156) dX12_sealBlock_46 (by decide) (fun c_1 => ?_) (fun c_1 => absurd (nI_lt (a := R) (b := r + 1) (by omega) (by omega)) c_1)
    obtain rfl : r = R := by omega
    exact kk h2 φ2 S2 A2 V2 hF
  | succ dd ih =>
    intro r hd h2 φ2 S2 A2 V2 hF
    have R2 : φ2 68 u = nI R := by rw [A2 68 (by decide) (by decide)]; exact hH.2.2.2.1
    refine R_iload (pc := 38) 0 dX12_sealBlock_38 rfl ?_
    refine R_aload_n (pc := 40) 1 dX12_sealBlock_40 rfl rfl ?_
    refine R_get (pc := 41) dX12_sealBlock_41 fX12_32 S2.2 (by omega) rfl ?_
    refine R_iload_n (pc := 44) 2 dX12_sealBlock_44 rfl rfl ?_
    refine R_iald' (pc := 45) (j := u) dX12_sealBlock_45 (S2.1 68 rfl) (by omega) ⟨rfl, by show u < 2; omega, by decide⟩ ?_
    refine R_eqi (y := nI R) (R2) ?_
    refine R_icmp_gt (pc := 46) (tgt := 156) dX12_sealBlock_46 (by decide) (fun c_1 => absurd c_1 (nI_nlt (a := R) (b := r + 1) (by omega) (by omega))) (fun c_1 => ?_)
    refine R_iconst (pc := 49) (v := 0) dX12_sealBlock_49 (by decide) ?_
    refine R_istore (pc := 50) (lv' := [(5, .int 0), (4, .int (nI (r + 1))), (0, .ref 61), (1, .int (nI u)), (2, .ref p), (3, .int (nI t))]) dX12_sealBlock_50 (by decide) rfl ?_
    refine R_sub [0, 1, 2, 3, 4, 5] rfl ?_
    refine qX12_sealBlock_sub (h := h) (φ := φ2) hn p u t (nI (r + 1)) V2.ok (fun h3 S3 F3 => ?_) 16 0 (by omega) h2 (by rw [pgF_0, uf_id]; exact S2) hF
    refine R_iconst (pc := 94) (v := 0) dX12_sealBlock_94 (by decide) ?_
    refine R_istore (pc := 95) (lv' := [(5, .int 0), (4, .int (nI (r + 1))), (0, .ref 61), (1, .int (nI u)), (2, .ref p), (3, .int (nI t))]) dX12_sealBlock_95 (by decide) rfl ?_
    refine R_sub [0, 1, 2, 3, 4, 5] rfl ?_
    refine qX12_sealBlock_cp (h := h) (φ := (uf φ2 70 (pgF (shG (φ2 65) (φ2 69)) (φ2 70) 0 16))) hn p u t (nI (r + 1)) (fun h4 S4 F4 => ?_) 16 0 (by omega) h3 (by rw [pgF_0, uf_id]; exact S3) F3
    obtain ⟨φ4, eφ4⟩ : ∃ x, x = uf (uf φ2 70 (pgF (shG (φ2 65) (φ2 69)) (φ2 70) 0 16)) 69 (pgF ((uf φ2 70 (pgF (shG (φ2 65) (φ2 69)) (φ2 70) 0 16)) 70) ((uf φ2 70 (pgF (shG (φ2 65) (φ2 69)) (φ2 70) 0 16)) 69) 0 16) := ⟨_, rfl⟩
    rw [← eφ4] at S4
    have Aφ4 : ∀ q, q ≠ 69 → q ≠ 70 → φ4 q = φ q := fun q_ a_ b_ => by rw [eφ4]; simp only [uf, if_neg a_, if_neg b_]; exact A2 q_ a_ b_
    have Vφ4 : h16 (φ4 69) (shB B (sqR B rk R s r)) := by rw [eφ4]; exact V2.sub (B := B) (fun v => by rw [A2 65 (by decide) (by decide)]; exact hH.1 v) _
    have R4 : φ4 68 u = nI R := by rw [Aφ4 68 (by decide) (by decide)]; exact hH.2.2.2.1
    refine R_iload (pc := 124) 1 dX12_sealBlock_124 rfl ?_
    refine R_aload_n (pc := 126) 2 dX12_sealBlock_126 rfl rfl ?_
    refine R_get (pc := 127) dX12_sealBlock_127 fX12_32 S4.2 (by omega) rfl ?_
    refine R_iload_n (pc := 130) 3 dX12_sealBlock_130 rfl rfl ?_
    refine R_iald' (pc := 131) (j := u) dX12_sealBlock_131 (S4.1 68 rfl) (by omega) ⟨rfl, by show u < 2; omega, by decide⟩ ?_
    refine R_eqi (y := nI R) (R4) ?_
    refine R_icmp_ge (pc := 132) (tgt := 143) dX12_sealBlock_132 (by decide) (fun c_2 => ?_) (fun c_2 => ?_)
    · skip
      have hlt : ¬ r + 1 < R := by have := (nI_leI (by omega) (by omega)).mp c_2; omega
      refine R_aload_n (pc := 143) 2 dX12_sealBlock_143 rfl rfl ?_
      refine R_iload_n (pc := 144) 3 dX12_sealBlock_144 rfl rfl ?_
      refine R_iload (pc := 145) 1 dX12_sealBlock_145 rfl ?_
      refine R_callVh (pc := 147) (μ' := mX12_addRound) (As := [.int (nI u), .int (nI ((r + 1)))]) (st := []) dX12_sealBlock_147 zX12_addRound lX12_122 ⟨by decide, by decide⟩ rfl rfl ⟨by decide, by decide⟩ S4.2 (by omega) rfl (Nat.le_of_ble_eq_true rfl) (qX12_addRound S4 hn u (r + 1) (by omega)) (fun h_3 r_ q_4 => ?_)
      obtain ⟨rfl, S6, F6⟩ := q_4
      obtain ⟨φ6, eφ6⟩ : ∃ x, x = uf φ4 69 (adF (φ4 67) (240 * u + 16 * (r + 1)) (φ4 69) 0 16) := ⟨_, rfl⟩
      rw [← eφ6] at S6
      have Aφ6 : ∀ q, q ≠ 69 → q ≠ 70 → φ6 q = φ q := fun q_ a_ b_ => by rw [eφ6, uf_n a_]; exact Aφ4 q_ a_ b_
      have Vφ6 : h16 (φ6 69) (sqR B rk R s (r + 1)) := by
        rw [eφ6, uf_s]
        rw [show sqR B rk R s (r + 1) = arB rk (r + 1) (shB B (sqR B rk R s r)) from by show arB rk (r + 1) (if r + 1 < R then _ else _) = _; rw [if_neg hlt]]
        exact Vφ4.add (rk := rk) (R := R) (r := (r + 1)) (fun j_ hj_ => by rw [Aφ4 67 (by decide) (by decide)]; exact hH.2.2.1 j_ hj_) (by omega)
      refine R_iinc (pc := 150) (j := 1) (v := nI (r + 1 + 1)) (lv' := [(4, .int (nI (r + 1 + 1))), (5, .int (nI 16)), (0, .ref 61), (1, .int (nI u)), (2, .ref p), (3, .int (nI t))]) dX12_sealBlock_150 rfl (nI_1 (r + 1)) (by decide) rfl ?_
      refine R_goto (pc := 153) (tgt := 38) dX12_sealBlock_153 (by decide) ?_
      refine R_sub [0, 2, 3, 4, 5] rfl ?_
      exact ih (r + 1) (by omega) h_3 φ6 S6 Aφ6 Vφ6 (F4.tr F6)
    · skip
      have hlt : r + 1 < R := by rcases Nat.lt_or_ge (r + 1) R with q_ | q_; exact q_; exact absurd (nI_le q_ (by omega)) c_2
      refine R_aload_n (pc := 135) 2 dX12_sealBlock_135 rfl rfl ?_
      refine R_iconst (pc := 136) (v := 2) dX12_sealBlock_136 (by decide) ?_
      refine R_iconst (pc := 137) (v := 3) dX12_sealBlock_137 (by decide) ?_
      refine R_iconst (pc := 138) (v := 1) dX12_sealBlock_138 (by decide) ?_
      refine R_iconst (pc := 139) (v := 1) dX12_sealBlock_139 (by decide) ?_
      refine R_callVh (pc := 140) (μ' := mX12_mix) (As := [.int 2, .int 3, .int 1, .int 1]) (st := []) dX12_sealBlock_140 zX12_mix lX12_126 ⟨by decide, by decide⟩ rfl rfl ⟨by decide, by decide⟩ S4.2 (by omega) rfl (Nat.le_of_ble_eq_true rfl) (qX12_mix S4 hn 2 3 1 1) (fun h_5 r_ q_6 => ?_)
      obtain ⟨rfl, S5, F5⟩ := q_6
      obtain ⟨φ5, eφ5⟩ : ∃ x, x = uf (uf φ4 70 (pgF (mxG (φ4 69) 2 3 1 1) (φ4 70) 0 16)) 69 (pgF (pgF (mxG (φ4 69) 2 3 1 1) (φ4 70) 0 16) (φ4 69) 0 16) := ⟨_, rfl⟩
      rw [← eφ5] at S5
      have Aφ5 : ∀ q, q ≠ 69 → q ≠ 70 → φ5 q = φ q := fun q_ a_ b_ => by rw [eφ5]; simp only [uf, if_neg a_, if_neg b_]; exact Aφ4 q_ a_ b_
      have Vφ5 : h16 (φ5 69) (mxB 2 3 1 1 (shB B (sqR B rk R s r))) := by rw [eφ5]; exact Vφ4.mix (by unfold cOk; decide) (by unfold cOk; decide) (by unfold cOk; decide) (by unfold cOk; decide) _
      refine R_aload_n (pc := 143) 2 dX12_sealBlock_143 rfl rfl ?_
      refine R_iload_n (pc := 144) 3 dX12_sealBlock_144 rfl rfl ?_
      refine R_iload (pc := 145) 1 dX12_sealBlock_145 rfl ?_
      refine R_callVh (pc := 147) (μ' := mX12_addRound) (As := [.int (nI u), .int (nI ((r + 1)))]) (st := []) dX12_sealBlock_147 zX12_addRound lX12_122 ⟨by decide, by decide⟩ rfl rfl ⟨by decide, by decide⟩ S5.2 (by omega) rfl (Nat.le_of_ble_eq_true rfl) (qX12_addRound S5 hn u (r + 1) (by omega)) (fun h_7 r_ q_8 => ?_)
      obtain ⟨rfl, S6, F6⟩ := q_8
      obtain ⟨φ6, eφ6⟩ : ∃ x, x = uf φ5 69 (adF (φ5 67) (240 * u + 16 * (r + 1)) (φ5 69) 0 16) := ⟨_, rfl⟩
      rw [← eφ6] at S6
      have Aφ6 : ∀ q, q ≠ 69 → q ≠ 70 → φ6 q = φ q := fun q_ a_ b_ => by rw [eφ6, uf_n a_]; exact Aφ5 q_ a_ b_
      have Vφ6 : h16 (φ6 69) (sqR B rk R s (r + 1)) := by
        rw [eφ6, uf_s]
        rw [show sqR B rk R s (r + 1) = arB rk (r + 1) (mxB 2 3 1 1 (shB B (sqR B rk R s r))) from by show arB rk (r + 1) (if r + 1 < R then _ else _) = _; rw [if_pos hlt]]
        exact Vφ5.add (rk := rk) (R := R) (r := (r + 1)) (fun j_ hj_ => by rw [Aφ5 67 (by decide) (by decide)]; exact hH.2.2.1 j_ hj_) (by omega)
      refine R_iinc (pc := 150) (j := 1) (v := nI (r + 1 + 1)) (lv' := [(4, .int (nI (r + 1 + 1))), (5, .int (nI 16)), (0, .ref 61), (1, .int (nI u)), (2, .ref p), (3, .int (nI t))]) dX12_sealBlock_150 rfl (nI_1 (r + 1)) (by decide) rfl ?_
      refine R_goto (pc := 153) (tgt := 38) dX12_sealBlock_153 (by decide) ?_
      refine R_sub [0, 2, 3, 4, 5] rfl ?_
      exact ih (r + 1) (by omega) h_7 φ6 S6 Aφ6 Vφ6 (F4.tr (F5.tr F6))
theorem pgF_cg {G G' : fA} (g : fA) (t : Nat) {m : Nat} (h : ∀ k, k < m → G k = G' k) : pgF G g t m = pgF G' g t m := by
  funext j
  unfold pgF
  by_cases e : t ≤ j ∧ j < t + m
  · rw [if_pos e, if_pos e, h _ (by omega)]
  · rw [if_neg e, if_neg e]
/-- a block's octets are written at t of the array p; state and moved are used -/
def blX (h : am_H) (φ : Nat → fA) (i : mI) (p t : Nat) (s : sT) : am_H → Option Value → Prop := fun h' q => ∃ φ' : Nat → fA, q = none ∧ MS h' φ' i ∧ (∀ x, x ≠ 69 → x ≠ 70 → x ≠ p → φ' x = φ x) ∧ φ' p = pgF (fun k => oc (s k)) (φ p) t 16 ∧ FM h h'
set_option maxHeartbeats 4000000 in
set_option maxRecDepth 100000 in
theorem qX12_sealBlock {l : Launch} {w : am_W} {h : am_H} {n : Nat} {φ : Nat → fA} {i : mI} (S : MS h φ i) (hn : 90 ≤ n) {p : Nat} (hp : isA p = true) (hp69 : p ≠ 69) (hp70 : p ≠ 70) (u t : Nat) (ht : t + 16 ≤ mN p) {B C : BitVec 8 → BitVec 8} {rk : sT} {R : Nat} (hH : rH φ u B C rk R) (s : sT) (hs : ∀ k, k < 16 → φ p (t + k) = oc (s k)) : RH l w mX12_sealBlock h n [.ref 61, .int (nI u), .ref p, .int (nI t)] (blX h φ i p t (sqR B rk R s R)) := by
  refine RC.of [(0, .ref 61), (1, .int (nI u)), (2, .ref p), (3, .int (nI t))] (by decide +kernel) rfl (Nat.le_of_ble_eq_true rfl) ?_
  have hR := hH.2.2.2.2.1
  have hu := hH.2.2.2.2.2
  refine R_iconst (pc := 0) (v := 0) dX12_sealBlock_0 (by decide) ?_
  refine R_istore (pc := 1) (lv' := [(4, .int 0), (0, .ref 61), (1, .int (nI u)), (2, .ref p), (3, .int (nI t))]) dX12_sealBlock_1 (by decide) rfl ?_
  refine R_sub [0, 1, 2, 3, 4] rfl ?_
  refine qX12_sealBlock_in (h := h) (φ := φ) hn hp hp69 u t ht (fun h1 S1 F1 => ?_) 16 0 (by omega) h (by rw [pgF_0, uf_id]; exact S) (FM.rf h)
  obtain ⟨φ1, eφ1⟩ : ∃ x, x = uf φ 69 (pgF (fun j => φ p (t + j)) (φ 69) 0 16) := ⟨_, rfl⟩
  rw [← eφ1] at S1
  have Aφ1 : ∀ q, q ≠ 69 → q ≠ 70 → φ1 q = φ q := fun q_ a_ b_ => by rw [eφ1, uf_n a_]
  have Vφ1 : h16 (φ1 69) s := fun k_ hk_ => by rw [eφ1, uf_s, pgF_lt _ _ hk_]; exact hs k_ hk_
  refine R_aload_n (pc := 29) 1 dX12_sealBlock_29 rfl rfl ?_
  refine R_iload_n (pc := 30) 2 dX12_sealBlock_30 rfl rfl ?_
  refine R_iconst (pc := 31) (v := 0) dX12_sealBlock_31 (by decide) ?_
  refine R_callVh (pc := 32) (μ' := mX12_addRound) (As := [.int (nI u), .int (nI (0))]) (st := []) dX12_sealBlock_32 zX12_addRound lX12_122 ⟨by decide, by decide⟩ rfl rfl ⟨by decide, by decide⟩ S1.2 (by omega) rfl (Nat.le_of_ble_eq_true rfl) (qX12_addRound S1 hn u 0 (by omega)) (fun h_1 r_ q_2 => ?_)
  obtain ⟨rfl, S6, F6⟩ := q_2
  obtain ⟨φ6, eφ6⟩ : ∃ x, x = uf φ1 69 (adF (φ1 67) (240 * u + 16 * 0) (φ1 69) 0 16) := ⟨_, rfl⟩
  rw [← eφ6] at S6
  have Aφ6 : ∀ q, q ≠ 69 → q ≠ 70 → φ6 q = φ q := fun q_ a_ b_ => by rw [eφ6, uf_n a_]; exact Aφ1 q_ a_ b_
  have Vφ6 : h16 (φ6 69) (sqR B rk R s 0) := by
    rw [eφ6, uf_s]
    exact Vφ1.add (rk := rk) (R := R) (r := 0) (fun j_ hj_ => by rw [Aφ1 67 (by decide) (by decide)]; exact hH.2.2.1 j_ hj_) (by omega)
  refine R_iconst (pc := 35) (v := 1) dX12_sealBlock_35 (by decide) ?_
  refine R_istore (pc := 36) (lv' := [(4, .int 1), (0, .ref 61), (1, .int (nI u)), (2, .ref p), (3, .int (nI t))]) dX12_sealBlock_36 (by decide) rfl ?_
  refine R_sub [0, 1, 2, 3, 4] rfl ?_
  refine qX12_sealBlock_rounds (h := h) (φ := φ) (p := p) hn u t hH s (fun h7 φ7 S7 A7 V7 F7 => ?_) R 0 (by omega) h_1 φ6 S6 Aφ6 Vφ6 (F1.tr F6)
  refine R_iconst (pc := 156) (v := 0) dX12_sealBlock_156 (by decide) ?_
  refine R_istore (pc := 157) (lv' := [(4, .int 0), (0, .ref 61), (1, .int (nI u)), (2, .ref p), (3, .int (nI t))]) dX12_sealBlock_157 (by decide) rfl ?_
  refine R_sub [0, 1, 2, 3, 4] rfl ?_
  refine qX12_sealBlock_out (h := h) (φ := φ7) hn hp hp69 u t ht (fun h8 S8 F8 => ?_) 16 0 (by omega) h7 (by rw [pgF_0, uf_id]; exact S7) F7
  exact R_vreturn (pc := 185) dX12_sealBlock_185 rfl (by decide) (by decide) ⟨rfl, _, rfl, S8, fun x_ a_ b_ c_ => (uf_n c_).trans (A7 x_ a_ b_), (uf_s _ _ _).trans ((pgF_cg _ _ V7).trans (by rw [A7 p hp69 hp70])), F8⟩
