/-! the joint: the class's state and the reference's -/
theorem MO.fr {h h1 : am_H} {ψ : Nat → oA} {z : fA} {i : mI} (M : MO h ψ z i) (F : Fr h h1) : MO h1 ψ z i := by
  obtain ⟨s, m, M⟩ := M
  exact ⟨s, m, fun p hp => (F p (by have := isA_b hp; omega)).trans (M.1 p hp), (F 61 (by omega)).trans M.2⟩
theorem Sys.fm {h h1 : am_H} {ρ : Nat → List (BitVec 8)} {β : Nat → bP} {κ : Nat → kT} {τ : Nat × Nat × Nat} (S : Sys h ρ β κ τ) (F : FM h h1) : Sys h1 ρ β κ τ := by
  refine ⟨fun r hr => (S.1 r hr).move (F r (by have := rw_cases hr; omega)) (F (r + 1) (by have := rw_cases hr; omega)), fun a ha => (F a (by have := bk_cases ha; omega)).trans (S.2.1 a ha), fun c hc => ?_, S.2.2.2.mv (fun x hx => F x (by omega))⟩
  obtain ⟨a, b, d, lo, hi, e⟩ := S.2.2.1 c hc
  exact ⟨(F c (by omega)).trans a, (F (c + 1) (by omega)).trans b, (F (c + 2) (by omega)).trans d, lo, hi, (F (c + 3) (by omega)).trans e⟩
def JN (ρ : Nat → List (BitVec 8)) (τ : Nat × Nat × Nat) (ψ : Nat → oA) (z : fA) (i : mI) : Prop := (∀ k, k < 4 → z k = nI (ρ (2 * k + 2)).length ∧ sg (ψ 62) (512 * k) (ρ (2 * k + 2))) ∧ (sg (ψ 64) 0 (ρ τ.1) ∧ i 2 = nI (ρ τ.1).length) ∧ i 1 = nI τ.2.2 ∧ (∀ v : BitVec 8, ψ 65 v.toNat = Bx v) ∧ (∀ v : BitVec 8, ψ 66 v.toNat = Cx v)
def Jt (h : am_H) : Prop := ∃ ρ β κ τ ψ z i, Sys h ρ β κ τ ∧ tOk τ ∧ MO h ψ z i ∧ JN ρ τ ψ z i
/-- both answer a, and the joint holds again -/
def Jstep (l : Launch) (w : am_W) (μ1 μ2 : am_M) (h : am_H) (n : Nat) (as : List Value) : Prop := ∃ (a : Int32) (Mid : am_H → Prop), RH l w μ1 h n (.ref 1 :: as) (fun h1 q => q = some (.int a) ∧ Mid h1) ∧ ∀ h1, Mid h1 → (∃ fs, h1 61 = .inr (.inr (12, fs))) ∧ RH l w μ2 h1 n (.ref 61 :: as) (fun h2 q => q = some (.int a) ∧ Jt h2)
section JMK
variable {l : Launch} {w : am_W} {h : am_H} {n : Nat} {ρ : Nat → List (BitVec 8)} {β : Nat → bP} {κ : Nat → kT} {τ : Nat × Nat × Nat} {ψ : Nat → oA} {z : fA} {i : mI} {μ1 μ2 : am_M} {as : List Value}
theorem Jmk (M : MO h ψ z i) {a : Int32} {P : (Nat → List (BitVec 8)) → (Nat × Nat × Nat) → Prop} {R : (Nat → oA) → fA → mI → Prop} (C : RH l w μ1 h n (.ref 1 :: as) (fun h1 q => q = some (.int a) ∧ ∃ ρ' β' κ' τ', Sys h1 ρ' β' κ' τ' ∧ tOk τ' ∧ P ρ' τ' ∧ Fr h h1)) (D : ∀ h1, MO h1 ψ z i → RH l w μ2 h1 n (.ref 61 :: as) (fun h2 q => q = some (.int a) ∧ ∃ ψ' z' i', MO h2 ψ' z' i' ∧ R ψ' z' i' ∧ FM h1 h2)) (hJ : ∀ ρ' τ' ψ' z' i', P ρ' τ' → R ψ' z' i' → JN ρ' τ' ψ' z' i') : Jstep l w μ1 μ2 h n as := by
  refine ⟨a, fun h1 => ∃ ρ' β' κ' τ', Sys h1 ρ' β' κ' τ' ∧ tOk τ' ∧ P ρ' τ' ∧ Fr h h1, C, fun h1 hm => ?_⟩
  obtain ⟨ρ', β', κ', τ', S, ht, hP, F⟩ := hm
  refine ⟨⟨_, (M.fr F).obj⟩, (D h1 (M.fr F)).mono (fun h2 q hq => ⟨hq.1, ?_⟩)⟩
  obtain ⟨_, ψ', z', i', M', hR, F'⟩ := hq
  exact ⟨ρ', β', κ', τ', ψ', z', i', S.fm F', ht, M', hJ _ _ _ _ _ hP hR⟩
theorem of_SQ {a : Int32} {ρ' : Nat → List (BitVec 8)} {β' : Nat → bP} {κ' : Nat → kT} (hτ : tOk τ) (C : RH l w μ1 h n (.ref 1 :: as) (SQ h τ (some (.int a)) ρ' β' κ')) : RH l w μ1 h n (.ref 1 :: as) (fun h1 q => q = some (.int a) ∧ ∃ ρ2 β2 κ2 τ2, Sys h1 ρ2 β2 κ2 τ2 ∧ tOk τ2 ∧ (ρ2 = ρ' ∧ τ2 = τ) ∧ Fr h h1) := C.mono (fun _ _ q => ⟨q.1, ρ', β', κ', τ, q.2.1, hτ, ⟨rfl, rfl⟩, q.2.2⟩)
theorem of_oQ {a : Int32} {ψ' : Nat → oA} {z' : fA} {i' : mI} {h1 : am_H} (D : RH l w μ2 h1 n (.ref 61 :: as) (oQ h1 (some (.int a)) ψ' z' i')) : RH l w μ2 h1 n (.ref 61 :: as) (fun h2 q => q = some (.int a) ∧ ∃ ψ2 z2 i2, MO h2 ψ2 z2 i2 ∧ (ψ2 = ψ' ∧ z2 = z' ∧ i2 = i') ∧ FM h1 h2) := D.mono (fun _ _ q => ⟨q.1, ψ', z', i', q.2.1, ⟨rfl, rfl, rfl⟩, q.2.2⟩)
/-- the reference's contracts over MS, lifted -/
theorem of_mQ {a : Int32} {h1 : am_H} {z' : fA} {i' : mI} {s m : fA} {ψ' : Nat → oA} {φ' : Nat → fA} (e : φ' = uf (uf (Ph ψ' z') 69 s) 70 m) (D : RH l w μ2 h1 n (.ref 61 :: as) (mQ h1 (some (.int a)) φ' i')) : RH l w μ2 h1 n (.ref 61 :: as) (oQ h1 (some (.int a)) ψ' z' i') := D.mono (fun _ _ q => ⟨q.1, ⟨s, m, e ▸ q.2.1⟩, q.2.2⟩)
theorem Jdet (M : MO h ψ z i) (hτ : tOk τ) {a : Int32} {ρ' : Nat → List (BitVec 8)} {β' : Nat → bP} {κ' : Nat → kT} (ψ' : Nat → oA) (z' : fA) (i' : mI) (C : RH l w μ1 h n (.ref 1 :: as) (SQ h τ (some (.int a)) ρ' β' κ')) (D : ∀ h1, MO h1 ψ z i → RH l w μ2 h1 n (.ref 61 :: as) (oQ h1 (some (.int a)) ψ' z' i')) (hJ : JN ρ' τ ψ' z' i') : Jstep l w μ1 μ2 h n as :=
  Jmk M (P := fun ρ2 τ2 => ρ2 = ρ' ∧ τ2 = τ) (R := fun ψ2 z2 i2 => ψ2 = ψ' ∧ z2 = z' ∧ i2 = i') (of_SQ hτ C) (fun h1 M1 => of_oQ (D h1 M1)) (fun ρ2 τ2 ψ2 z2 i2 hP hR => by
    obtain ⟨rfl, rfl⟩ := hP
    obtain ⟨rfl, rfl, rfl⟩ := hR
    exact hJ)
end JMK
theorem in_len {L : Nat} (hL : L < 2 ^ 30) (j : Int32) : inI j 0 (nI L - 1) = 0 ↔ (j < 0 ∨ nI L ≤ j) := by
  unfold inI
  by_cases h0 : j < 0
  · rw [if_pos h0]
    exact ⟨fun _ => Or.inl h0, fun _ => rfl⟩
  · rw [if_neg h0]
    obtain ⟨a, ha, rfl⟩ := nI_of h0
    have e : (nI L - 1 < nI a) ↔ nI L ≤ nI a := by
      rw [nI_leI (by omega) ha]
      rcases Nat.eq_zero_or_pos L with rfl | hp
      · exact ⟨fun _ => by omega, fun _ => m1_lt a ha⟩
      · obtain ⟨b, rfl⟩ : ∃ b, L = b + 1 := ⟨L - 1, by omega⟩
        rw [nI_pred, nI_ltI (by omega) ha]
        omega
    by_cases h1 : nI L - 1 < nI a
    · rw [if_pos h1]
      exact ⟨fun _ => Or.inr (e.mp h1), fun _ => rfl⟩
    · rw [if_neg h1]
      exact ⟨fun q => absurd q (by decide), fun q => q.elim (fun q => absurd q h0) (fun q => absurd (e.mpr q) h1)⟩
theorem has_no {L : List (BitVec 8)} (hL : L.length < 2 ^ 30) (j : Int32) : hasI L j = 0 ↔ ¬ noI L.length j = 0 := by
  unfold hasI noI
  by_cases c : inI j 0 (nI L.length - 1) = 0
  · rw [if_pos c]
    rcases (in_len hL j).mp c with h | h
    · rw [if_pos h]
      exact ⟨fun _ => by decide, fun _ => rfl⟩
    · by_cases h0 : j < 0
      · rw [if_pos h0]
        exact ⟨fun _ => by decide, fun _ => rfl⟩
      · rw [if_neg h0, if_pos h]
        exact ⟨fun _ => by decide, fun _ => rfl⟩
  · rw [if_neg c]
    have h := fun q => c ((in_len hL j).mpr q)
    rw [if_neg (fun q => h (Or.inl q)), if_neg (fun q => h (Or.inr q))]
    exact ⟨fun q => absurd q (by decide), fun q => absurd rfl q⟩
theorem hasI_pos {L : List (BitVec 8)} (hL : L.length < 2 ^ 30) {j : Int32} (h : ¬ hasI L j = 0) : ∃ a, a < L.length ∧ j = nI a := by
  unfold hasI at h
  by_cases h0 : j < 0
  · rw [if_pos h0] at h
    exact absurd rfl h
  · rw [if_neg h0] at h
    by_cases h1 : nI L.length ≤ j
    · rw [if_pos h1] at h
      exact absurd rfl h
    · obtain ⟨a, ha, rfl⟩ := nI_of h0
      refine ⟨a, ?_, rfl⟩
      rcases Nat.lt_or_ge a L.length with q | q
      · exact q
      · exact absurd ((nI_leI (by omega) ha).mpr q) h1
theorem noRow_in {v : Int32} : inI v 0 3 = 0 ↔ noRow v := by
  constructor
  · intro h
    refine ⟨fun e => ?_, fun e => ?_, fun e => ?_, fun e => ?_⟩ <;> (subst e; exact absurd h (by decide))
  · intro h
    by_cases h0 : v < 0
    · exact if_pos h0
    · obtain ⟨a, ha, rfl⟩ := nI_of h0
      refine (in_nat (s := a) (a := 0) (b := 3) ha (by omega) (by omega)).mpr (fun q => ?_)
      rcases (show a = 0 ∨ a = 1 ∨ a = 2 ∨ a = 3 by omega) with rfl | rfl | rfl | rfl
      · exact h.1 rfl
      · exact h.2.1 rfl
      · exact h.2.2.1 rfl
      · exact h.2.2.2 rfl
theorem row_in {v : Int32} (h : ¬ inI v 0 3 = 0) : ∃ k, k < 4 ∧ v = nI k ∧ rowN v (2 * k + 2) := by
  have h1 : ¬ noRow v := fun q => h (noRow_in.mpr q)
  unfold noRow at h1
  by_cases c0 : v = 0
  · exact ⟨0, by omega, c0, Or.inl ⟨c0, rfl⟩⟩
  · by_cases c1 : v = 1
    · exact ⟨1, by omega, c1, Or.inr (Or.inl ⟨c1, rfl⟩)⟩
    · by_cases c2 : v = 2
      · exact ⟨2, by omega, c2, Or.inr (Or.inr (Or.inl ⟨c2, rfl⟩))⟩
      · by_cases c3 : v = 3
        · exact ⟨3, by omega, c3, Or.inr (Or.inr (Or.inr ⟨c3, rfl⟩))⟩
        · exact absurd ⟨c0, c1, c2, c3⟩ h1
theorem row_len {h : am_H} {ρ : Nat → List (BitVec 8)} {β : Nat → bP} {κ : Nat → kT} {τ : Nat × Nat × Nat} (S : Sys h ρ β κ τ) {k : Nat} (hk : k < 4) : isRw (2 * k + 2) = true ∧ (ρ (2 * k + 2)).length ≤ rmN k ∧ rwN (2 * k + 2) = rmN k := by
  have hr : isRw (2 * k + 2) = true := by
    rcases (show k = 0 ∨ k = 1 ∨ k = 2 ∨ k = 3 by omega) with rfl | rfl | rfl | rfl <;> rfl
  have e : rwN (2 * k + 2) = rmN k := by
    rcases (show k = 0 ∨ k = 1 ∨ k = 2 ∨ k = 3 by omega) with rfl | rfl | rfl | rfl <;> rfl
  exact ⟨hr, by rw [← e]; exact S.rowL _ hr, e⟩
section JM
variable {l : Launch} {w : am_W} {h : am_H} {n : Nat}
theorem JN.i0 {ρ : Nat → List (BitVec 8)} {τ : Nat × Nat × Nat} {ψ : Nat → oA} {z : fA} {i : mI} (N : JN ρ τ ψ z i) : JN ρ τ ψ z (ui i 0 0) := ⟨N.1, ⟨N.2.1.1, N.2.1.2⟩, N.2.2.1, N.2.2.2⟩
theorem J_octet (J : Jt h) (hn : 90 ≤ n) (v j : Int32) : Jstep l w mX11_octet mX12_octet h n [.int v, .int j] := by
  obtain ⟨ρ, β, κ, τ, ψ, z, i, S, hτ, M, N⟩ := J
  by_cases hv : inI v 0 3 = 0
  · refine Jdet M hτ ψ z (ui i 0 0) (qX11_octet_N S (by omega) hτ v (noRow_in.mp hv) j) (fun h1 M1 => ?_) N.i0
    obtain ⟨s, m, M1⟩ := M1
    exact of_mQ rfl (qX12_octet_N M1 hn v hv j)
  · obtain ⟨k, hk, rfl, hr⟩ := row_in hv
    obtain ⟨hrw, hl, _⟩ := row_len S hk
    have hrm := rmN_le k hk
    refine Jdet M hτ ψ z (ui i 0 0) (qX11_octet S (by omega) hτ (nI k) (2 * k + 2) hr j) (fun h1 M1 => ?_) N.i0
    obtain ⟨s, m, M1⟩ := M1
    have D := qX12_octet (l := l) (w := w) M1 hn k hk (ρ (2 * k + 2)).length (by rw [Ph_63]; exact (N.1 k hk).1) (by omega) j
    have e : moV (uf (uf (Ph ψ z) 69 s) 70 m 62) (512 * k) (ρ (2 * k + 2)).length j = if hasI (ρ (2 * k + 2)) j = 0 then -2 else atI (ρ (2 * k + 2)) j := by
      unfold moV
      by_cases c : hasI (ρ (2 * k + 2)) j = 0
      · rw [if_pos c, if_neg ((has_no (by omega) j).mp c)]
      · obtain ⟨a, ha, rfl⟩ := hasI_pos (by omega) c
        rw [if_neg c, if_pos (Decidable.not_not.mp (fun q => c ((has_no (by omega) _).mpr q))), atI_nI _ (by omega) (by omega), Ph_at rfl, nI_clamp (by omega)]
        exact congrArg oc ((N.1 k hk).2 a ha)
    rw [e] at D
    exact of_mQ rfl D
theorem J_out (J : Jt h) (hn : 90 ≤ n) (j : Int32) : Jstep l w mX11_out mX12_out h n [.int j] := by
  obtain ⟨ρ, β, κ, τ, ψ, z, i, S, hτ, M, N⟩ := J
  have hl : (ρ τ.1).length ≤ 528 := by
    rcases hτ.1 with q | q
    · rw [q.1]; exact S.rowL 12 rfl
    · rw [q.1]; exact S.rowL 14 rfl
  refine Jdet M hτ ψ z (ui i 0 0) (qX11_out S (by omega) hτ j) (fun h1 M1 => ?_) N.i0
  obtain ⟨s, m, M1⟩ := M1
  have D := qX12_out (l := l) (w := w) M1 hn (ρ τ.1).length N.2.1.2 (by omega) j
  have e : outV (uf (uf (Ph ψ z) 69 s) 70 m 64) (ρ τ.1).length j = if hasI (ρ τ.1) j = 0 then -2 else atI (ρ τ.1) j := by
    unfold outV
    by_cases c : hasI (ρ τ.1) j = 0
    · have h1 := (has_no (by omega) j).mp c
      rw [if_pos c, if_pos (Decidable.not_not.mp (fun q => h1 (if_neg q)))]
    · obtain ⟨a, ha, rfl⟩ := hasI_pos (by omega) c
      have h1 : noI (ρ τ.1).length (nI a) = 0 := Decidable.not_not.mp (fun q => c ((has_no (by omega) _).mpr q))
      have h2 : ¬ inI (nI a) 0 (nI (ρ τ.1).length - 1) = 0 := fun q => by
        unfold noI at h1
        rw [if_pos q] at h1
        exact absurd h1 (by decide)
      rw [if_neg c, if_neg h2, atI_nI _ (by omega) (by omega), Ph_at rfl, nI_clamp (by omega)]
      exact congrArg oc (sg0 N.2.1.1 ha)
  rw [e] at D
  exact of_mQ rfl D
theorem J_tag (J : Jt h) (hn : 90 ≤ n) (j : Int32) : Jstep l w mX11_tag mX12_tag h n [.int j] := by
  obtain ⟨ρ, β, κ, τ, ψ, z, i, S, hτ, M, N⟩ := J
  have ht := hτ.2
  have eT : ∀ j : Int32, (inI j 4 16 = 0 → tgV j τ.2.2 = -2 ∧ tgN j τ.2.2 = τ.2.2) ∧ (¬ inI j 4 16 = 0 → tgV j τ.2.2 = nI τ.2.2 ∧ j = nI (tgN j τ.2.2)) := fun j => by
    unfold inI tgV tgN
    by_cases h4 : j < 4
    · rw [if_pos h4, if_pos h4, if_pos h4]
      exact ⟨fun _ => ⟨rfl, rfl⟩, fun q => absurd rfl q⟩
    · rw [if_neg h4, if_neg h4, if_neg h4]
      have hj0 : ¬ j < 0 := fun q => h4 (Int32.lt_trans q (by decide))
      obtain ⟨a, ha, rfl⟩ := nI_of hj0
      have e16 : (nI a ≤ 16) ↔ a ≤ 16 := nI_leI (a := a) (b := 16) ha (by omega)
      have l16 : ((16 : Int32) < nI a) ↔ 16 < a := nI_ltI (a := 16) (b := a) (by omega) ha
      by_cases h16 : (16 : Int32) < nI a
      · have := l16.mp h16
        rw [if_pos h16, if_neg (fun q => by have := e16.mp q; omega), if_neg (fun q => by have := e16.mp q; omega)]
        exact ⟨fun _ => ⟨rfl, rfl⟩, fun q => absurd rfl q⟩
      · have h5 : a ≤ 16 := by
          rcases Nat.lt_or_ge 16 a with q | q
          · exact absurd (l16.mpr q) h16
          · exact q
        rw [if_neg h16, if_pos (e16.mpr h5), if_pos (e16.mpr h5), nI_clamp ha]
        exact ⟨fun q => absurd q (by decide), fun _ => ⟨rfl, rfl⟩⟩
  refine Jmk M (a := tgV j τ.2.2) (P := fun ρ2 τ2 => ρ2 = ρ ∧ τ2.1 = τ.1 ∧ τ2.2.2 = tgN j τ.2.2) (R := fun ψ2 z2 i2 => ψ2 = ψ ∧ z2 = z ∧ i2 2 = i 2 ∧ i2 1 = nI (tgN j τ.2.2)) ((qX11_tag S (by omega) hτ j).mono (fun h1 q hq => ?_)) (fun h1 M1 => ?_) (fun ρ2 τ2 ψ2 z2 i2 hP hR => ?_)
  · obtain ⟨τ', ht', e1, e2, ⟨e3, e4⟩, S', F⟩ := hq
    exact ⟨e3, ρ, β, κ, τ', S', ht', ⟨rfl, e1, e4⟩, F⟩
  · obtain ⟨s, m, M1⟩ := M1
    by_cases c : inI j 4 16 = 0
    · rw [((eT j).1 c).1, ((eT j).1 c).2]
      exact (qX12_tag_N M1 hn j c).mono (fun h2 q hq => ⟨hq.1, ψ, z, _, ⟨s, m, hq.2.1⟩, ⟨rfl, rfl, rfl, N.2.2.1⟩, hq.2.2⟩)
    · have e := (eT j).2 c
      refine (qX12_tag M1 hn j c).mono (fun h2 q hq => ⟨?_, ψ, z, _, ⟨s, m, hq.2.1⟩, ⟨rfl, rfl, rfl, e.2⟩, hq.2.2⟩)
      rw [hq.1, N.2.2.1, e.1]
  · obtain ⟨rfl, e1, e2⟩ := hP
    obtain ⟨rfl, rfl, e3, e4⟩ := hR
    exact ⟨N.1, ⟨by rw [e1]; exact N.2.1.1, by rw [e1, e3]; exact N.2.1.2⟩, by rw [e2]; exact e4, N.2.2.2⟩
end JM
