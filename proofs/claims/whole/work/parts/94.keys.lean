/-! the round keys: the class's words are the reference's octets -/
/-- octet k of a word -/
def wq (v : Int32) (k : Nat) : BitVec 8 := (v.toBitVec >>> (24 - 8 * k)).setWidth 8
theorem wq_bit (v : Int32) {k i : Nat} (hi : i < 8) : (wq v k).getLsbD i = v.toBitVec.getLsbD (24 - 8 * k + i) := by
  unfold wq
  rw [BitVec.getLsbD_setWidth, BitVec.getLsbD_ushiftRight]
  simp [hi]
theorem wq_xor (a b : Int32) (k : Nat) : wq (a ^^^ b) k = wq a k ^^^ wq b k := by
  apply BitVec.eq_of_getLsbD_eq
  intro i hi
  rw [BitVec.getLsbD_xor, wq_bit _ hi, wq_bit _ hi, wq_bit _ hi, Int32.toBitVec_xor, BitVec.getLsbD_xor]
theorem sh32u : ∀ s, s < 32 → ((nI s).toUInt32 &&& Int32.toUInt32 31).toBitVec.toNat % 32 = s := by decide
theorem ju32 (x : Int32) {s : Nat} (hs : s < 32) : (jushr x (nI s)).toBitVec = x.toBitVec >>> s := by
  have h := sh32u s hs
  show (x.toUInt32 >>> _).toBitVec = _
  rw [UInt32.toBitVec_shiftRight]
  show x.toBitVec >>> (_ % 32#32) = _
  rw [BitVec.ushiftRight_eq']
  congr 1
theorem ko_sh : ∀ j, j < 4 → (24 : Int32) - 8 * nI j = nI (24 - 8 * j) := by decide
theorem and3 (j : Nat) (hj : j < 2 ^ 31) : nI j &&& 3 = nI (j % 4) := by
  apply Int32.toBitVec_inj.mp
  rw [Int32.toBitVec_and]
  apply BitVec.eq_of_toNat_eq
  rw [BitVec.toNat_and, show (3 : Int32).toBitVec.toNat = 2 ^ 2 - 1 by decide, Nat.and_two_pow_sub_one_eq_mod]
  show (BitVec.ofNat 32 j).toNat % 2 ^ 2 = (BitVec.ofNat 32 (j % 4)).toNat
  rw [BitVec.toNat_ofNat, BitVec.toNat_ofNat]
  omega
theorem koc_wq (wf : Nat → Int32) {j : Nat} (hj : j < 2 ^ 31) : koc wf j = oc (wq (wf (j / 4)) (j % 4)) := by
  unfold koc
  rw [and3 j hj, ko_sh _ (by omega), oc_t8]
  congr 1
  unfold t8 wq
  rw [ju32 _ (by omega)]
theorem ob_word (v : Int32) {k : Nat} (hk : k < 4) : ob (v.toInt64 &&& 4294967295, 0) (4 + k) = wq v k := by
  apply BitVec.eq_of_getLsbD_eq
  intro i hi
  rw [ob_bit _ (by omega) hi, if_neg (by omega), wq_bit _ hi, Int64.toBitVec_and, BitVec.getLsbD_and, mGC _ (by omega), Int32.toBitVec_toInt64, BitVec.getLsbD_signExtend]
  rw [show (4 + k) % 8 = 4 + k by omega, show 56 - 8 * (4 + k) + i = 24 - 8 * k + i by omega]
  simp [show 24 - 8 * k + i < 32 by omega, show 24 - 8 * k + i < 64 by omega]
theorem ob_low (x : Int64) {k : Nat} (hk : k < 4) : wq x.toInt32 k = ob (x, 0) (4 + k) := by
  apply BitVec.eq_of_getLsbD_eq
  intro i hi
  rw [ob_bit _ (by omega) hi, if_neg (by omega), wq_bit _ hi, t32_bit _ (by omega)]
  congr 1
  omega
theorem vbx_wq (v : Int32) {k : Nat} (hk : k < 4) : wq (vbx v) k = Bx (wq v k) := by
  have h := SO.join (SO.box (SO.split (v.toInt64 &&& 4294967295) 0)) (k := 4 + k) (by omega)
  rw [ob_word v hk] at h
  unfold vbx
  rw [ob_low _ hk, ← h]
  generalize jN (bX (vX8_split 0 0 (v.toInt64 &&& 4294967295) 0)) = q
  exact (ob_l q.1 q.2 (by omega)).symm
theorem sl8_32 : ((8 : Int32) &&& 31).toBitVec.smod 32 = 8#32 := by decide
theorem sl24_32 : ((24 : Int32) &&& 31).toBitVec.smod 32 = 24#32 := by decide
theorem rot_wq (x : Int32) {k : Nat} (hk : k < 4) : wq ((x <<< ((8 : Int32) &&& 31)) ||| (jushr x 24)) k = wq x ((k + 1) % 4) := by
  apply BitVec.eq_of_getLsbD_eq
  intro i hi
  rw [wq_bit _ hi, wq_bit _ hi, Int32.toBitVec_or, BitVec.getLsbD_or, Int32.toBitVec_shiftLeft, sl8_32, BitVec.shiftLeft_eq', BitVec.getLsbD_shiftLeft, show (24 : Int32) = nI 24 from rfl, ju32 _ (by omega), BitVec.getLsbD_ushiftRight]
  have e8 : (8#32).toNat = 8 := rfl
  rw [e8]
  by_cases h3 : k = 3
  · subst h3
    simp [hi]
  · rw [BitVec.getLsbD_of_ge _ (24 + _) (by omega), show (k + 1) % 4 = k + 1 by omega, show 24 - 8 * k + i - 8 = 24 - 8 * (k + 1) + i by omega]
    simp [show 24 - 8 * k + i < 32 by omega, show ¬ 24 - 8 * k + i < 8 by omega]
theorem pw_wq (p : BitVec 8) {k : Nat} (hk : k < 4) : wq (oc p <<< ((24 : Int32) &&& 31)) k = if k = 0 then p else 0 := by
  apply BitVec.eq_of_getLsbD_eq
  intro i hi
  rw [wq_bit _ hi, Int32.toBitVec_shiftLeft, sl24_32, BitVec.shiftLeft_eq', BitVec.getLsbD_shiftLeft]
  have e24 : (24#32).toNat = 24 := rfl
  rw [e24, oc_tb, BitVec.getLsbD_setWidth]
  by_cases h0 : k = 0
  · subst h0
    rw [if_pos rfl]
    simp [show 24 + i < 32 by omega, show i < 32 by omega]
  · rw [if_neg h0]
    simp
    intro h1 h2
    omega
theorem key_wq (L : List (BitVec 8)) (j : Nat) {k : Nat} (hk : k < 4) : wq (jlushr (e8 L j) 32).toInt32 k = og L (j + k) := by
  rw [ob_low _ hk, ← ob_e8 L j (show k < 8 by omega)]
  apply BitVec.eq_of_getLsbD_eq
  intro i hi
  rw [ob_bit _ (by omega) hi, ob_bit _ (by omega) hi, if_neg (by omega), if_neg (by omega), show (32 : Int32) = nI 32 from rfl, ju_bits _ (by omega)]
  congr 1
  omega
theorem kfil_at (wf : Nat → Int32) (L : List (BitVec 8)) (b : Nat) : ∀ t i, i < t → kfil wf L b t i = (jlushr (e8 L (b + 4 * i)) 32).toInt32
  | 0, i, h => absurd h (Nat.not_lt_zero i)
  | t + 1, i, h => by
    show upd (kfil wf L b t) t (jlushr (e8 L (b + 4 * t)) 32).toInt32 i = _
    by_cases c : i = t
    · rw [c, upd_s]
    · unfold upd
      rw [if_neg c]
      exact kfil_at wf L b t i (by omega)
theorem exN_key (B : BitVec 8 → BitVec 8) (key : oA) (m : Nat) : ∀ n, n ≤ m → ∀ j, j < 4 * n → exN B key m n j = key j
  | 0, _, j, h => by omega
  | n + 1, hn, j, h => by
    show pgB _ _ (4 * n) 4 j = _
    by_cases c : 4 * n ≤ j
    · rw [pgB_in _ _ c (by omega)]
      unfold exV
      rw [if_pos (by omega), show 4 * n + (j - 4 * n) = j by omega]
    · rw [pgB_out _ _ (by omega)]
      exact exN_key B key m n (by omega) j (by omega)
theorem exN_up (B : BitVec 8 → BitVec 8) (key : oA) (m n : Nat) {j : Nat} (h : j < 4 * n) : exN B key m (n + 1) j = exN B key m n j := pgB_out _ _ (by omega)
theorem pwN_m (m : Nat) : ∀ i, i ≤ m → pwN m i = 1
  | 0, _ => rfl
  | i + 1, h => by
    show (if m ≤ i ∧ i % m = 0 then _ else pwN m i) = 1
    rw [if_neg (by omega), pwN_m m i (by omega)]
theorem dbl_pw : ∀ p : BitVec 8, ((oc p <<< ((1 : Int32) &&& 31)) ^^^ ((oc p >>> ((7 : Int32) &&& 31)) * 283)) = oc (gB p 2) := by decide +kernel
theorem mod_up {t m : Nat} (hm : 1 ≤ m) : (t + 1) % m = if t % m + 1 = m then 0 else t % m + 1 := by
  have h := Nat.mod_lt t (show 0 < m by omega)
  rw [Nat.add_mod]
  by_cases c : t % m + 1 = m
  · rw [if_pos c]
    by_cases m1 : m = 1
    · subst m1
      exact Nat.mod_one _
    · rw [Nat.mod_eq_of_lt (show 1 < m by omega), c, Nat.mod_self]
  · rw [if_neg c, Nat.mod_eq_of_lt (show 1 < m by omega), Nat.mod_eq_of_lt (by omega)]
theorem kst_ok (wf0 : Nat → Int32) (key : oA) {m : Nat} (hm : m = 4 ∨ m = 6 ∨ m = 8) (h0 : ∀ i k, i < m → k < 4 → wq (wf0 i) k = key (4 * i + k)) : ∀ t, t ≤ 60 → (∀ i k, i < m + t → k < 4 → wq ((kst m wf0 t).1 i) k = exN Bx key m (m + t) (4 * i + k)) ∧ (kst m wf0 t).2.1 = oc (pwN m (m + t)) ∧ (kst m wf0 t).2.2 = nI (t % m)
  | 0, _ => by
    refine ⟨fun i k hi hk => ?_, ?_, ?_⟩
    · rw [exN_key Bx key m (m + 0) (by omega) _ (by omega)]
      exact h0 i k (by omega) hk
    · rw [pwN_m m (m + 0) (by omega)]
      show (1 : Int32) = oc 1
      decide
    · rw [Nat.zero_mod]
      rfl
  | t + 1, ht => by
    obtain ⟨ha, hp, hs⟩ := kst_ok wf0 key hm h0 t (by omega)
    have hmod := Nat.mod_lt t (show 0 < m by omega)
    have e : kst m wf0 (t + 1) = kstp m t (kst m wf0 t) := rfl
    rw [e]
    generalize hq : kst m wf0 t = q at ha hp hs
    obtain ⟨wf, pw, s⟩ := q
    simp only at ha hp hs
    have s0 : (s = 0) ↔ t % m = 0 := by rw [hs]; exact nI_eq (a := t % m) (b := 0) (by omega) (by omega)
    have s4 : (s = 4) ↔ t % m = 4 := by rw [hs]; exact nI_eq (a := t % m) (b := 4) (by omega) (by omega)
    have m8 : (nI m = 8) ↔ m = 8 := nI_eq (a := m) (b := 8) (by omega) (by omega)
    have sm : (s + 1 = nI m) ↔ t % m + 1 = m := by
      rw [hs, show (1 : Int32) = nI 1 from rfl, nI_add]
      exact nI_eq (by omega) (by omega)
    have hi0 : (m + t) % m = t % m := Nat.add_mod_left m t
    refine ⟨fun i k hi hk => ?_, ?_, ?_⟩
    · show wq (upd wf (m + t) (wf t ^^^ _) i) k = _
      by_cases c : i = m + t
      · rw [c, upd_s, wq_xor, ha t k (by omega) hk]
        have E : exN Bx key m (m + (t + 1)) (4 * (m + t) + k) = exV Bx key m (pwN m (m + t)) (m + t) (exN Bx key m (m + t)) k := by
          show pgB _ _ (4 * (m + t)) 4 _ = _
          rw [pgB_in _ _ (by omega) (by omega), Nat.add_sub_cancel_left]
          rfl
        rw [E]
        unfold exV
        rw [if_neg (show ¬ m + t < m by omega), show 4 * (m + t) + k - 4 * m = 4 * t + k by omega]
        congr 1
        have hx : ∀ k, k < 4 → wq (wf (m + t - 1)) k = exN Bx key m (m + t) (4 * (m + t - 1) + k) := fun k hk => ha (m + t - 1) k (by omega) hk
        by_cases c0 : t % m = 0
        · rw [if_pos (s0.mpr c0), if_pos (show (m + t) % m = 0 by rw [hi0]; exact c0), wq_xor, vbx_wq _ hk, rot_wq _ hk, hx _ (by omega), hp, pw_wq _ hk]
        · rw [if_neg (fun q => c0 (s0.mp q)), if_neg (show ¬ (m + t) % m = 0 by rw [hi0]; exact c0), show 4 * (m + t) + k - 4 = 4 * (m + t - 1) + k by omega, ← hx k hk]
          by_cases c8 : m = 8
          · rw [if_pos (m8.mpr c8)]
            by_cases c4 : t % m = 4
            · rw [if_pos (s4.mpr c4), if_pos ⟨c8, by subst c8; omega⟩, vbx_wq _ hk]
            · rw [if_neg (fun q => c4 (s4.mp q)), if_neg (fun q => c4 (by subst c8; omega))]
          · rw [if_neg (fun q => c8 (m8.mp q)), if_neg (fun q => c8 q.1)]
      · have hu : upd wf (m + t) (wf t ^^^ (let x := wf (m + t - 1); if s = 0 then vbx ((x <<< (8 &&& 31)) ||| (jushr x 24)) ^^^ (pw <<< (24 &&& 31)) else if nI m = 8 then (if s = 4 then vbx x else x) else x)) i = wf i := if_neg c
        rw [show m + (t + 1) = (m + t) + 1 by omega, exN_up _ _ _ _ (by omega), ← ha i k (by omega) hk]
        exact congrArg (fun v => wq v k) hu
    · show (if s = 0 then (pw <<< (1 &&& 31)) ^^^ ((pw >>> (7 &&& 31)) * 283) else pw) = oc (if m ≤ m + t ∧ (m + t) % m = 0 then gB (pwN m (m + t)) 2 else pwN m (m + t))
      by_cases c0 : t % m = 0
      · rw [if_pos (s0.mpr c0), if_pos ⟨by omega, by rw [hi0]; exact c0⟩, hp]
        exact dbl_pw _
      · rw [if_neg (fun q => c0 (s0.mp q)), if_neg (fun q => c0 (by rw [← hi0]; exact q.2)), hp]
    · show (if s + 1 = nI m then (0 : Int32) else s + 1) = nI ((t + 1) % m)
      rw [mod_up (by omega)]
      by_cases c : t % m + 1 = m
      · rw [if_pos (sm.mpr c), if_pos c]
        rfl
      · rw [if_neg (fun q => c (sm.mp q)), if_neg c, hs]
        exact nI_add _ 1
theorem kexp_ok (wf : Nat → Int32) (L : List (BitVec 8)) (b : Nat) (key : oA) {m : Nat} (hm : m = 4 ∨ m = 6 ∨ m = 8) (hk : ∀ j, j < 4 * m → key j = og L (b + j)) {j : Nat} (hj : j < 16 * (m + 7)) : wq (kexp wf L b m (j / 4)) (j % 4) = exN Bx key m (4 * (m + 7)) j := by
  have h := (kst_ok (kfil wf L b m) key hm (fun i k hi hk4 => by rw [kfil_at wf L b m i hi, key_wq _ _ hk4, hk _ (by omega), Nat.add_assoc]) (3 * m + 28) (by omega)).1 (j / 4) (j % 4) (by omega) (by omega)
  rw [show m + (3 * m + 28) = 4 * (m + 7) by omega, show 4 * (j / 4) + j % 4 = j by omega] at h
  exact h
theorem kgs_at (wf : Nat → Int32) (g : Nat → Int64) : ∀ t r, r < t → kgs wf g t (2 * r) = (spw wf r).1 ∧ kgs wf g t (2 * r + 1) = (spw wf r).2
  | 0, r, h => absurd h (Nat.not_lt_zero r)
  | t + 1, r, h => by
    show vp_updL (vp_updL (kgs wf g t) (2 * t) (spw wf t).1) (2 * t + 1) (spw wf t).2 (2 * r) = _ ∧ vp_updL (vp_updL (kgs wf g t) (2 * t) (spw wf t).1) (2 * t + 1) (spw wf t).2 (2 * r + 1) = _
    unfold vp_updL
    by_cases c : r = t
    · subst c
      rw [if_neg (by omega), if_pos rfl, if_pos rfl]
      exact ⟨rfl, rfl⟩
    · rw [if_neg (by omega), if_neg (by omega), if_neg (by omega), if_neg (by omega)]
      exact kgs_at wf g t r (by omega)
theorem pw2_ob (wf : Nat → Int32) (j : Nat) {k : Nat} (hk : k < 8) : ob (pw2 wf j, 0) k = wq (wf (j + k / 4)) (k % 4) := by
  unfold pw2
  have e : ob ((jlshl (wf j).toInt64 32) ||| ((wf (j + 1)).toInt64 &&& 4294967295), 0) k = ob (jlshl (wf j).toInt64 32, 0) k ||| ob ((wf (j + 1)).toInt64 &&& 4294967295, 0) k := ob_or _ _ (by omega)
  rw [e]
  apply BitVec.eq_of_getLsbD_eq
  intro i hi
  rw [BitVec.getLsbD_or, ob_bit _ (by omega) hi, ob_bit _ (by omega) hi, if_neg (by omega), if_neg (by omega), wq_bit _ hi, show (32 : Int32) = nI 32 from rfl, jl_bits _ (by omega) (by omega), Int64.toBitVec_and, BitVec.getLsbD_and, mGC _ (by omega)]
  by_cases h4 : k < 4
  · rw [show k / 4 = 0 by omega, show k % 4 = k by omega, show k % 8 = k by omega, Nat.add_zero, Int32.toBitVec_toInt64, BitVec.getLsbD_signExtend]
    simp [show 32 ≤ 56 - 8 * k + i by omega, show ¬ 56 - 8 * k + i < 32 by omega, show 56 - 8 * k + i - 32 < 64 by omega, show 56 - 8 * k + i - 32 < 32 by omega, show 56 - 8 * k + i - 32 = 24 - 8 * k + i by omega]
    simp [show 24 - 8 * k + i < 64 by omega, show 24 - 8 * k + i < 32 by omega]
  · rw [show k / 4 = 1 by omega, show k % 4 = k - 4 by omega, show k % 8 = k by omega, Int32.toBitVec_toInt64 (wf (j + 1)), BitVec.getLsbD_signExtend]
    simp [show ¬ 32 ≤ 56 - 8 * k + i by omega, show 56 - 8 * k + i < 32 by omega, show 56 - 8 * k + i < 64 by omega, show 56 - 8 * k + i = 24 - 8 * (k - 4) + i by omega]
    simp [show ¬ 32 ≤ 24 - 8 * (k - 4) + i by omega, show 24 - 8 * (k - 4) + i < 64 by omega, show 24 - 8 * (k - 4) + i < 32 by omega]
theorem GK_of {wf : Nat → Int32} {g : Nat → Int64} {R : Nat} (hR : R ≤ 14) {rk : sT} (h : ∀ j, j < 16 * (R + 1) → wq (wf (j / 4)) (j % 4) = rk j) : GK (kgs wf g 15) rk R := fun r hr => by
  obtain ⟨a, b⟩ := kgs_at wf g 15 r (by omega)
  rw [a, b]
  refine (SO.split (pw2 wf (4 * r)) (pw2 wf (4 * r + 2))).cg (fun k hk => ?_)
  rw [← h (16 * r + k) (by omega)]
  by_cases h8 : k < 8
  · rw [ob_l _ _ h8, pw2_ob _ _ h8, show 4 * r + k / 4 = (16 * r + k) / 4 by omega, show k % 4 = (16 * r + k) % 4 by omega]
  · have e := ob_r (pw2 wf (4 * r)) (pw2 wf (4 * r + 2)) (k := k - 8) (by omega)
    rw [show 8 + (k - 8) = k by omega] at e
    rw [e, pw2_ob _ _ (by omega), show 4 * r + 2 + (k - 8) / 4 = (16 * r + k) / 4 by omega, show (k - 8) % 4 = (16 * r + k) % 4 by omega]
/-- the keys of the class, the keys of the reference -/
theorem Kh_key {ψ : Nat → oA} {u a m b : Nat} {K : List (BitVec 8)} {wf : Nat → Int32} {g : Nat → Int64} (hB : ∀ v : BitVec 8, ψ 65 v.toNat = Bx v) (hC : ∀ v : BitVec 8, ψ 66 v.toNat = Cx v) (hu : u < 2) (hm : m = 4 ∨ m = 6 ∨ m = 8) (hx : exK ψ Bx u a m) (hk : ∀ j, j < 4 * m → ψ 62 (a + j) = og K (b + j)) : Kh ψ u (eK (kexp wf K b m, kgs (kexp wf K b m) g 15, m + 6)) (dK (kexp wf K b m, kgs (kexp wf K b m) g 15, m + 6)) := by
  refine Kh_of hB hC (R := m + 6) (by omega) ?_ hu ?_ rfl rfl
  · rw [hx.2]
    exact (ocN (by omega)).symm
  · refine GK_of (by omega) (fun j hj => ?_)
    rw [kexp_ok wf K b (fun j => ψ 62 (a + j)) hm hk (by omega), ← hx.1 j (by omega)]
