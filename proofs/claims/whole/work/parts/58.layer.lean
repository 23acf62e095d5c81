/-! the octet layer over the reference's state: every array but sizes holds octets; state and moved are hidden -/
def okA (p : Nat) : Bool := isA p && !(p == 63) && !(p == 69) && !(p == 70)
theorem okA_c {p : Nat} (h : okA p = true) : isA p = true ∧ p ≠ 63 ∧ p ≠ 69 ∧ p ≠ 70 := by
  simp only [okA, Bool.and_eq_true, Bool.not_eq_true', beq_eq_false_iff_ne] at h
  exact ⟨h.1.1.1, h.1.1.2, h.1.2, h.2⟩
def Ph (ψ : Nat → oA) (z : fA) : Nat → fA := fun p => if p = 63 then z else fun j => oc (ψ p j)
def uo (ψ : Nat → oA) (p : Nat) (f : oA) : Nat → oA := fun x => if x = p then f else ψ x
theorem uo_s (ψ : Nat → oA) (p : Nat) (f : oA) : uo ψ p f p = f := if_pos rfl
theorem uo_n {ψ : Nat → oA} {p x : Nat} {f : oA} (h : x ≠ p) : uo ψ p f x = ψ x := if_neg h
theorem uo_uo (ψ : Nat → oA) (p : Nat) (f g : oA) : uo (uo ψ p f) p g = uo ψ p g := by
  funext x
  unfold uo
  by_cases h : x = p <;> simp [h]
theorem uo_id (ψ : Nat → oA) (p : Nat) : uo ψ p (ψ p) = ψ := by
  funext x
  unfold uo
  by_cases h : x = p <;> simp [h]
def MO (h : am_H) (ψ : Nat → oA) (z : fA) (i : mI) : Prop := ∃ s m : fA, MS h (uf (uf (Ph ψ z) 69 s) 70 m) i
theorem Ph_at {ψ : Nat → oA} {z s m : fA} {p : Nat} (hp : okA p = true) : uf (uf (Ph ψ z) 69 s) 70 m p = fun j => oc (ψ p j) := by
  obtain ⟨_, h1, h2, h3⟩ := okA_c hp
  rw [uf_n h3, uf_n h2]
  exact if_neg h1
theorem Ph_63 {ψ : Nat → oA} {z s m : fA} : uf (uf (Ph ψ z) 69 s) 70 m 63 = z := by
  rw [uf_n (by decide), uf_n (by decide)]
  exact if_pos rfl
section MOs
variable {h h' : am_H} {ψ : Nat → oA} {z : fA} {i : mI}
theorem MO.arr (S : MO h ψ z i) {p : Nat} (hp : okA p = true) : h p = .inl (mN p, fun j => oc (ψ p j)) := by
  obtain ⟨s, m, S⟩ := S
  rw [S.1 p (okA_c hp).1, Ph_at hp]
theorem MO.siz (S : MO h ψ z i) : h 63 = .inl (4, z) := by
  obtain ⟨s, m, S⟩ := S
  rw [S.1 63 rfl, Ph_63]
  rfl
theorem MO.obj (S : MO h ψ z i) : h 61 = oM i := by
  obtain ⟨s, m, S⟩ := S
  exact S.2
theorem MO.up {s m f : fA} {g : oA} {q : Nat} (hq : okA q = true) (hf : ∀ j, f j = oc (g j)) (S : MS h (uf (uf (uf (Ph ψ z) 69 s) 70 m) q f) i) : MO h (uo ψ q g) z i := by
  refine ⟨s, m, ?_⟩
  obtain ⟨_, h1, h2, h3⟩ := okA_c hq
  have e : uf (uf (Ph (uo ψ q g) z) 69 s) 70 m = uf (uf (uf (Ph ψ z) 69 s) 70 m) q f := by
    funext x
    unfold uf Ph uo
    by_cases e : x = q
    · subst e
      rw [if_neg h3, if_neg h2, if_neg h1, if_pos rfl, if_pos rfl]
      funext j
      exact (hf j).symm
    · rw [if_neg e, if_neg e]
  rw [e]
  exact S
theorem MO.setA (S : MO h ψ z i) {p : Nat} {f : fA} (hp : okA p = true) (h1 : h' p = .inl (mN p, f)) (hF : ∀ x, x ≠ p → h' x = h x) {g : oA} (hf : ∀ j, f j = oc (g j)) : MO h' (uo ψ p g) z i := by
  obtain ⟨s, m, S⟩ := S
  exact MO.up hp hf (S.setA (okA_c hp).1 h1 hF)
theorem MO.setI {j : mI} (S : MO h ψ z i) (h1 : h' 61 = oM j) (hF : ∀ x, x ≠ 61 → h' x = h x) : MO h' ψ z j := by
  obtain ⟨s, m, S⟩ := S
  exact ⟨s, m, S.setI h1 hF⟩
def oQ (h : am_H) (v : Option Value) (ψ : Nat → oA) (z : fA) (i : mI) : am_H → Option Value → Prop := fun h' q => q = v ∧ MO h' ψ z i ∧ FM h h'
/-- nothing but the arrays of the list has changed -/
def FR (s : List Nat) (ψ ψ' : Nat → oA) : Prop := ∀ p, p ∉ s → ψ' p = ψ p
theorem FR.rf (s : List Nat) (ψ : Nat → oA) : FR s ψ ψ := fun _ _ => rfl
theorem FR.tr {s t : List Nat} {ψ ψ1 ψ2 : Nat → oA} (a : FR s ψ ψ1) (b : FR t ψ1 ψ2) (hs : ∀ p, p ∈ t → p ∈ s) : FR s ψ ψ2 := fun p hp => (b p (fun q => hp (hs p q))).trans (a p hp)
theorem FR.up {s : List Nat} {ψ ψ2 : Nat → oA} (a : FR s ψ ψ2) {p : Nat} (hp : p ∈ s) {f : oA} : FR s ψ (uo ψ2 p f) := fun x hx => by
  have e : x ≠ p := fun e => hx (by rw [e]; exact hp)
  rw [uo_n e]
  exact a x hx
theorem FR.wk {s t : List Nat} {ψ ψ1 : Nat → oA} (a : FR s ψ ψ1) (hs : ∀ p, p ∈ s → p ∈ t) : FR t ψ ψ1 := fun p hp => a p (fun q => hp (hs p q))
def cpB (f : oA) (b : Nat) (g : oA) (t n : Nat) : oA := fun i => if t ≤ i ∧ i < t + n then f (b + (i - t)) else g i
def adB (f : oA) (b : Nat) (g : oA) (t n : Nat) : oA := fun i => if t ≤ i ∧ i < t + n then g i ^^^ f (b + (i - t)) else g i
def clB (g : oA) (b t : Nat) : oA := fun i => if b ≤ i ∧ i < t then 0 else g i
theorem cpB_16 (f : oA) (b : Nat) (g : oA) (t : Nat) : cpB f b g t 16 = pt g t (gt f b) := by
  funext j
  unfold cpB pt
  by_cases hj : t ≤ j ∧ j < t + 16
  · rw [if_pos hj, if_pos hj, ob_gt _ _ (by omega)]
  · rw [if_neg hj, if_neg hj]
theorem adB_16 (f : oA) (b : Nat) (g : oA) (t : Nat) : adB f b g t 16 = pt g t (xb (gt g t) (gt f b)) := by
  funext j
  unfold adB pt
  by_cases hj : t ≤ j ∧ j < t + 16
  · rw [if_pos hj, if_pos hj, ob_xb _ _ (by omega), ob_gt _ _ (by omega), ob_gt _ _ (by omega), show t + (j - t) = j by omega]
  · rw [if_neg hj, if_neg hj]
theorem clB_16 (g : oA) : clB g 0 16 = pt g 0 (0, 0) := by
  funext j
  unfold clB pt
  by_cases hj : 0 ≤ j ∧ j < 16
  · rw [if_pos hj, if_pos (by omega), ob_0 (by omega)]
  · rw [if_neg hj, if_neg (by omega)]
theorem oX12_copy {l : Launch} {w : am_W} {n : Nat} (S : MO h ψ z i) (hn : 90 ≤ n) {p q : Nat} (hp : okA p = true) (hq : okA q = true) (b t m : Nat) (hb : b + m ≤ mN p) (ht : t + m ≤ mN q) (hpq : p ≠ q) : RH l w mX12_copy h n [.ref p, .int (nI b), .ref q, .int (nI t), .int (nI m)] (oQ h none (uo ψ q (cpB (ψ p) b (ψ q) t m)) z i) := by
  obtain ⟨s, m', S⟩ := S
  refine (qX12_copy S hn (okA_c hp).1 (okA_c hq).1 b t m hb ht hpq).mono (fun h' r Q => ⟨Q.1, MO.up hq (fun j => ?_) Q.2.1, Q.2.2⟩)
  rw [Ph_at hp, Ph_at hq]
  unfold cpF cpB
  by_cases hj : t ≤ j ∧ j < t + m
  · rw [if_pos hj, if_pos hj]
  · rw [if_neg hj, if_neg hj]
theorem oX12_copy1 {l : Launch} {w : am_W} {n : Nat} (S : MO h ψ z i) (hn : 90 ≤ n) {q : Nat} (hq : okA q = true) (b t m : Nat) (hb : b + m ≤ mN q) (htb : t ≤ b) : RH l w mX12_copy h n [.ref q, .int (nI b), .ref q, .int (nI t), .int (nI m)] (oQ h none (uo ψ q (cpB (ψ q) b (ψ q) t m)) z i) := by
  obtain ⟨s, m', S⟩ := S
  refine (qX12_copy1 S hn (okA_c hq).1 b t m hb htb).mono (fun h' r Q => ⟨Q.1, MO.up hq (fun j => ?_) Q.2.1, Q.2.2⟩)
  rw [Ph_at hq]
  unfold cpF cpB
  by_cases hj : t ≤ j ∧ j < t + m
  · rw [if_pos hj, if_pos hj]
  · rw [if_neg hj, if_neg hj]
theorem oX12_copy16 {l : Launch} {w : am_W} {n : Nat} (S : MO h ψ z i) (hn : 90 ≤ n) {p q : Nat} (hp : okA p = true) (hq : okA q = true) (b t : Nat) (hb : b + 16 ≤ mN p) (ht : t + 16 ≤ mN q) (hpq : p ≠ q) : RH l w mX12_copy h n [.ref p, .int (nI b), .ref q, .int (nI t), .int 16] (oQ h none (uo ψ q (pt (ψ q) t (gt (ψ p) b))) z i) := by
  rw [← cpB_16]
  exact oX12_copy S hn hp hq b t 16 hb ht hpq
theorem oX12_add {l : Launch} {w : am_W} {n : Nat} (S : MO h ψ z i) (hn : 90 ≤ n) {p q : Nat} (hp : okA p = true) (hq : okA q = true) (b t m : Nat) (hb : b + m ≤ mN p) (ht : t + m ≤ mN q) (hpq : p ≠ q) : RH l w mX12_add h n [.ref p, .int (nI b), .ref q, .int (nI t), .int (nI m)] (oQ h none (uo ψ q (adB (ψ p) b (ψ q) t m)) z i) := by
  obtain ⟨s, m', S⟩ := S
  refine (qX12_add S hn (okA_c hp).1 (okA_c hq).1 b t m hb ht hpq).mono (fun h' r Q => ⟨Q.1, MO.up hq (fun j => ?_) Q.2.1, Q.2.2⟩)
  rw [Ph_at hp, Ph_at hq]
  unfold adF adB
  by_cases hj : t ≤ j ∧ j < t + m
  · rw [if_pos hj, if_pos hj, oc_xor]
  · rw [if_neg hj, if_neg hj]
theorem oX12_add16 {l : Launch} {w : am_W} {n : Nat} (S : MO h ψ z i) (hn : 90 ≤ n) {p q : Nat} (hp : okA p = true) (hq : okA q = true) (b t : Nat) (hb : b + 16 ≤ mN p) (ht : t + 16 ≤ mN q) (hpq : p ≠ q) : RH l w mX12_add h n [.ref p, .int (nI b), .ref q, .int (nI t), .int 16] (oQ h none (uo ψ q (pt (ψ q) t (xb (gt (ψ q) t) (gt (ψ p) b)))) z i) := by
  rw [← adB_16]
  exact oX12_add S hn hp hq b t 16 hb ht hpq
theorem oX12_clear {l : Launch} {w : am_W} {n : Nat} (S : MO h ψ z i) (hn : 90 ≤ n) {q : Nat} (hq : okA q = true) (b t : Nat) (hbt : b ≤ t) (ht : t ≤ mN q) : RH l w mX12_clear h n [.ref q, .int (nI b), .int (nI t)] (oQ h none (uo ψ q (clB (ψ q) b t)) z i) := by
  obtain ⟨s, m', S⟩ := S
  refine (qX12_clear S hn (okA_c hq).1 b t hbt ht).mono (fun h' r Q => ⟨Q.1, MO.up hq (fun j => ?_) Q.2.1, Q.2.2⟩)
  rw [Ph_at hq]
  unfold clF clB
  by_cases hj : b ≤ j ∧ j < t
  · rw [if_pos hj, if_pos hj]
    rfl
  · rw [if_neg hj, if_neg hj]
theorem oX12_clear16 {l : Launch} {w : am_W} {n : Nat} (S : MO h ψ z i) (hn : 90 ≤ n) {q : Nat} (hq : okA q = true) (ht : 16 ≤ mN q) : RH l w mX12_clear h n [.ref q, .int 0, .int 16] (oQ h none (uo ψ q (pt (ψ q) 0 (0, 0))) z i) := by
  rw [← clB_16]
  exact oX12_clear S hn hq 0 16 (by omega) ht
theorem oX12_doubled {l : Launch} {w : am_W} {n : Nat} (S : MO h ψ z i) (hn : 90 ≤ n) {q : Nat} (hq : okA q = true) (ht : 16 ≤ mN q) : RH l w mX12_doubled h n [.ref q] (oQ h none (uo ψ q (pt (ψ q) 0 (dbl (gt (ψ q) 0)))) z i) := by
  obtain ⟨s, m', S⟩ := S
  refine (qX12_doubled S hn (okA_c hq).1 ht).mono (fun h' r Q => ⟨Q.1, MO.up hq (fun j => ?_) Q.2.1, Q.2.2⟩)
  rw [Ph_at hq, dbF_oc]
theorem oX12_nextSector {l : Launch} {w : am_W} {n : Nat} (S : MO h ψ z i) (hn : 90 ≤ n) {q : Nat} (hq : okA q = true) (ht : 16 ≤ mN q) : RH l w mX12_nextSector h n [.ref 61, .ref q] (oQ h none (uo ψ q (pt (ψ q) 0 (dblL (gt (ψ q) 0)))) z i) := by
  obtain ⟨s, m', S⟩ := S
  refine (qX12_nextSector S hn (okA_c hq).1 ht).mono (fun h' r Q => ⟨Q.1, MO.up hq (fun j => ?_) Q.2.1, Q.2.2⟩)
  rw [Ph_at hq, nsF_oc]
theorem oX12_oneMore {l : Launch} {w : am_W} {n : Nat} (S : MO h ψ z i) (hn : 90 ≤ n) {q : Nat} (hq : okA q = true) (ht : 16 ≤ mN q) (t : Nat) (h16 : t ≤ 16) : RH l w mX12_oneMore h n [.ref q, .int (nI t)] (oQ h none (uo ψ q (omB t 16 (ψ q))) z i) := by
  obtain ⟨s, m', S⟩ := S
  refine (qX12_oneMore S hn (okA_c hq).1 ht t h16).mono (fun h' r Q => ⟨Q.1, MO.up hq (fun j => ?_) Q.2.1, Q.2.2⟩)
  rw [Ph_at hq, omF_oc]
theorem oX12_addNumber {l : Launch} {w : am_W} {n : Nat} (S : MO h ψ z i) (hn : 90 ≤ n) {m : Nat} (hm : m < 2 ^ 31) : RH l w mX12_addNumber h n [.ref 61, .int (nI m)] (oQ h none (uo ψ 76 (pt (ψ 76) 0 (xb (gt (ψ 76) 0) ((nI m).toInt64, 0)))) z i) := by
  obtain ⟨s, m', S⟩ := S
  refine (qX12_addNumber S hn (nI m)).mono (fun h' r Q => ⟨Q.1, MO.up rfl (fun j => ?_) Q.2.1, Q.2.2⟩)
  rw [Ph_at rfl, anF_oc _ hm]
/-- under key u, sealing is F and opening is G -/
def Kh (ψ : Nat → oA) (u : Nat) (F G : bP → bP) : Prop := ∃ B C : BitVec 8 → BitVec 8, ∃ rk : sT, ∃ R : Nat, (∀ v : BitVec 8, ψ 65 v.toNat = B v) ∧ (∀ v : BitVec 8, ψ 66 v.toNat = C v) ∧ (∀ j, j < 16 * (R + 1) → ψ 67 (240 * u + j) = rk j) ∧ oc (ψ 68 u) = nI R ∧ (1 ≤ R ∧ R ≤ 14) ∧ u < 2 ∧ (∀ s k, k < 16 → sqR B rk R s R k = ob (F (mk s)) k) ∧ (∀ s k, k < 16 → arB rk 0 (dqR C rk R s R) k = ob (G (mk s)) k)
theorem Kh.fr {ψ ψ' : Nat → oA} {u : Nat} {F G : bP → bP} (K : Kh ψ u F G) {s : List Nat} (f : FR s ψ ψ') (h5 : 65 ∉ s) (h6 : 66 ∉ s) (h7 : 67 ∉ s) (h8 : 68 ∉ s) : Kh ψ' u F G := by
  unfold Kh
  rw [f 65 h5, f 66 h6, f 67 h7, f 68 h8]
  exact K
theorem Kh.uo {ψ : Nat → oA} {u : Nat} {F G : bP → bP} (K : Kh ψ u F G) {p : Nat} {f : oA} (h5 : p ≠ 65 ∧ p ≠ 66 ∧ p ≠ 67 ∧ p ≠ 68) : Kh (uo ψ p f) u F G := by
  unfold Kh
  rw [uo_n h5.1.symm, uo_n h5.2.1.symm, uo_n h5.2.2.1.symm, uo_n h5.2.2.2.symm]
  exact K
theorem Kh.rH {ψ : Nat → oA} {z s m : fA} {u : Nat} {F G : bP → bP} (K : Kh ψ u F G) : ∃ B C : BitVec 8 → BitVec 8, ∃ rk : sT, ∃ R : Nat, rH (uf (uf (Ph ψ z) 69 s) 70 m) u B C rk R ∧ (∀ s k, k < 16 → sqR B rk R s R k = ob (F (mk s)) k) ∧ (∀ s k, k < 16 → arB rk 0 (dqR C rk R s R) k = ob (G (mk s)) k) := by
  obtain ⟨B, C, rk, R, h1, h2, h3, h4, h5, h6, h7, h8⟩ := K
  refine ⟨B, C, rk, R, ⟨fun v => ?_, fun v => ?_, fun j hj => ?_, ?_, h5, h6⟩, h7, h8⟩
  · rw [Ph_at rfl]
    exact congrArg oc (h1 v)
  · rw [Ph_at rfl]
    exact congrArg oc (h2 v)
  · rw [Ph_at rfl]
    exact congrArg oc (h3 j hj)
  · rw [Ph_at rfl]
    exact h4
theorem MO.blk {φ' : Nat → fA} {s m : fA} {p t : Nat} {x : sT} {q : bP} (hp : okA p = true) (S : MS h' φ' i) (hK : ∀ x, x ≠ 69 → x ≠ 70 → x ≠ p → φ' x = uf (uf (Ph ψ z) 69 s) 70 m x) (hv : φ' p = pgF (fun k => oc (x k)) (uf (uf (Ph ψ z) 69 s) 70 m p) t 16) (hq : ∀ k, k < 16 → x k = ob q k) : MO h' (uo ψ p (pt (ψ p) t q)) z i := by
  obtain ⟨_, h1, h2, h3⟩ := okA_c hp
  refine ⟨φ' 69, φ' 70, ?_⟩
  have e : uf (uf (Ph (uo ψ p (pt (ψ p) t q)) z) 69 (φ' 69)) 70 (φ' 70) = φ' := by
    funext y
    unfold uf
    by_cases e70 : y = 70
    · rw [if_pos e70, e70]
    · rw [if_neg e70]
      by_cases e69 : y = 69
      · rw [if_pos e69, e69]
      · rw [if_neg e69]
        by_cases ep : y = p
        · subst ep
          rw [hv, Ph_at hp]
          show (if y = 63 then z else fun j => oc (uo ψ y (pt (ψ y) t q) y j)) = _
          rw [if_neg h1, uo_s]
          funext j
          unfold pgF pt
          by_cases hj : t ≤ j ∧ j < t + 16
          · rw [if_pos hj, if_pos hj]
            exact congrArg oc (hq (j - t) (by omega)).symm
          · rw [if_neg hj, if_neg hj]
        · rw [hK y e69 e70 ep, uf_n e70, uf_n e69]
          unfold Ph
          rw [uo_n ep]
  rw [e]
  exact S
theorem oX12_sealBlock {l : Launch} {w : am_W} {n : Nat} (S : MO h ψ z i) (hn : 90 ≤ n) {u : Nat} {F G : bP → bP} (K : Kh ψ u F G) {p : Nat} (hp : okA p = true) (t : Nat) (ht : t + 16 ≤ mN p) : RH l w mX12_sealBlock h n [.ref 61, .int (nI u), .ref p, .int (nI t)] (oQ h none (uo ψ p (pt (ψ p) t (F (gt (ψ p) t)))) z i) := by
  obtain ⟨s, m, S⟩ := S
  obtain ⟨B, C, rk, R, hH, h7, h8⟩ := K.rH (z := z) (s := s) (m := m)
  obtain ⟨h0, h1, h2, h3⟩ := okA_c hp
  refine (qX12_sealBlock S hn h0 h2 h3 u t ht hH (fun k => ψ p (t + k)) (fun k hk => by rw [Ph_at hp])).mono (fun h' r Q => ?_)
  obtain ⟨φ', rfl, S', hK, hv, hF⟩ := Q
  exact ⟨rfl, MO.blk hp S' hK hv (fun k hk => h7 _ k hk), hF⟩
theorem oX12_openBlock {l : Launch} {w : am_W} {n : Nat} (S : MO h ψ z i) (hn : 90 ≤ n) {u : Nat} {F G : bP → bP} (K : Kh ψ u F G) {p : Nat} (hp : okA p = true) (t : Nat) (ht : t + 16 ≤ mN p) : RH l w mX12_openBlock h n [.ref 61, .int (nI u), .ref p, .int (nI t)] (oQ h none (uo ψ p (pt (ψ p) t (G (gt (ψ p) t)))) z i) := by
  obtain ⟨s, m, S⟩ := S
  obtain ⟨B, C, rk, R, hH, h7, h8⟩ := K.rH (z := z) (s := s) (m := m)
  obtain ⟨h0, h1, h2, h3⟩ := okA_c hp
  refine (qX12_openBlock S hn h0 h2 h3 u t ht hH (fun k => ψ p (t + k)) (fun k hk => by rw [Ph_at hp])).mono (fun h' r Q => ?_)
  obtain ⟨φ', rfl, S', hK, hv, hF⟩ := Q
  exact ⟨rfl, MO.blk hp S' hK hv (fun k hk => h8 _ k hk), hF⟩
theorem oX12_load {l : Launch} {w : am_W} {n : Nat} (S : MO h ψ z i) (hn : 90 ≤ n) (d s a : Nat) (hd : z 1 = nI d) (hs : z 2 = nI s) (ha : z 3 = nI a) (hd5 : d ≤ 512) (hs6 : s ≤ 64) (ha2 : a ≤ 256) : RH l w mX12_load h n [.ref 61] (oQ h none (uo (uo (uo ψ 71 (cpB (ψ 62) 512 (ψ 71) 0 d)) 73 (cpB (ψ 62) 1024 (ψ 73) 0 s)) 74 (cpB (ψ 62) 1536 (ψ 74) 0 a)) z (ui (ui (ui i 3 (nI d)) 5 (nI s)) 6 (nI a))) := by
  obtain ⟨s', m', S⟩ := S
  refine (qX12_load S hn d s a (by rw [Ph_63]; exact hd) (by rw [Ph_63]; exact hs) (by rw [Ph_63]; exact ha) hd5 hs6 ha2).mono (fun h' r Q => ⟨Q.1, ⟨s', m', ?_⟩, Q.2.2⟩)
  have T := Q.2.1
  rw [Ph_at rfl, Ph_at rfl, Ph_at rfl, Ph_at rfl] at T
  have c : ∀ (f g : oA) (b t n : Nat), cpF (fun j => oc (f j)) b (fun j => oc (g j)) t n = fun j => oc (cpB f b g t n j) := by
    intro f g b t n
    funext j
    unfold cpF cpB
    by_cases hj : t ≤ j ∧ j < t + n
    · rw [if_pos hj, if_pos hj]
    · rw [if_neg hj, if_neg hj]
  rw [c, c, c] at T
  have e : uf (uf (Ph (uo (uo (uo ψ 71 (cpB (ψ 62) 512 (ψ 71) 0 d)) 73 (cpB (ψ 62) 1024 (ψ 73) 0 s)) 74 (cpB (ψ 62) 1536 (ψ 74) 0 a)) z) 69 s') 70 m' = uf (uf (uf (uf (uf (Ph ψ z) 69 s') 70 m') 71 (fun j => oc (cpB (ψ 62) 512 (ψ 71) 0 d j))) 73 (fun j => oc (cpB (ψ 62) 1024 (ψ 73) 0 s j))) 74 (fun j => oc (cpB (ψ 62) 1536 (ψ 74) 0 a j)) := by
    funext x
    unfold uf Ph uo
    by_cases e74 : x = 74
    · subst e74; rfl
    · by_cases e73 : x = 73
      · subst e73; rfl
      · by_cases e71 : x = 71
        · subst e71; rfl
        · simp only [if_neg e74, if_neg e73, if_neg e71]
  rw [e]
  exact T
theorem oX12_come {l : Launch} {w : am_W} {n : Nat} (S : MO h ψ z i) (hn : 90 ≤ n) {p : Nat} (hp : okA p = true) (hpr : p ≠ 64) (m : Nat) (hm : m ≤ mN p) (hm7 : m ≤ 700) : RH l w mX12_come h n [.ref 61, .ref p, .int (nI m)] (oQ h (some (.int (nI m))) (uo ψ 64 (cpB (ψ p) 0 (ψ 64) 0 m)) z (ui i 2 (nI m))) := by
  obtain ⟨s', m', S⟩ := S
  refine (qX12_come S hn (okA_c hp).1 hpr m hm hm7).mono (fun h' r Q => ⟨Q.1, MO.up rfl (fun j => ?_) Q.2.1, Q.2.2⟩)
  rw [Ph_at hp, Ph_at rfl]
  unfold cpF cpB
  by_cases hj : 0 ≤ j ∧ j < 0 + m
  · rw [if_pos hj, if_pos hj]
  · rw [if_neg hj, if_neg hj]
end MOs
