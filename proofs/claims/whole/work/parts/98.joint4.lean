/-! the joint: roundKey -/
theorem JN.keep {ρ : Nat → List (BitVec 8)} {τ : Nat × Nat × Nat} {ψ ψ2 : Nat → oA} {z : fA} {i : mI} (N : JN ρ τ ψ z i) (e : ψ2 62 = ψ 62 ∧ ψ2 64 = ψ 64 ∧ ψ2 65 = ψ 65 ∧ ψ2 66 = ψ 66) : JN ρ τ ψ2 z (ui i 0 0) := by
  unfold JN
  rw [e.1, e.2.1, e.2.2.1, e.2.2.2]
  exact N.i0
theorem isK_no {L : Nat} (hL : L ≤ 64) : isK (nI L) = 0 → L ≠ 16 ∧ L ≠ 24 ∧ L ≠ 32 := by
  intro h
  refine ⟨fun e => ?_, fun e => ?_, fun e => ?_⟩ <;> (subst e; exact absurd h (by decide))
section JM4
variable {l : Launch} {w : am_W} {h : am_H} {n : Nat}
theorem J_roundKey (J : Jt h) (hn : 90 ≤ n) (v : Int32) : Jstep l w mX11_roundKey mX12_roundKey h n [.int v] := by
  obtain ⟨ρ, β, κ, τ, ψ, z, i, S, hτ, M, N⟩ := J
  have hL : (ρ 2).length ≤ 64 := S.rowL 2 rfl
  have hz : z 0 = nI (ρ 2).length := (N.1 0 (by omega)).1
  have hs : sg (ψ 62) (512 * 0) (ρ 2) := (N.1 0 (by omega)).2
  have C := qX11_roundKey (l := l) (w := w) (n := n) S (by omega) hτ v
  by_cases c : isK (nI (ρ 2).length) = 0
  · have e : rkV κ (ρ 2) v = -3 := if_pos c
    rw [e] at C
    refine Jdet M hτ ψ z (ui i 0 0) C (fun h1 M1 => ?_) N.i0
    exact oX12_roundKey_K M1 hn v (ρ 2).length hz hL (isK_no hL c)
  · obtain ⟨m, hm, em⟩ := isK_of hL c
    have e : rkV κ (ρ 2) v = rkR Bx (fun j => ψ 62 (0 + j)) m v := by
      unfold rkV rkR inI
      rw [if_neg c, em, show 4 * m / 4 = m by omega]
      by_cases h0 : v < 0
      · rw [if_pos h0, if_pos h0, if_pos rfl]
      · rw [if_neg h0, if_neg h0]
        obtain ⟨a, ha, rfl⟩ := nI_of h0
        by_cases h1 : nI a < nI (16 * (m + 7))
        · have h2 := (nI_ltI ha (by omega)).mp h1
          have h3 : ¬ nI (16 * (m + 6) + 15) < nI a := fun q => by have := (nI_ltI (a := 16 * (m + 6) + 15) (b := a) (by omega) ha).mp q; omega
          have h4 : ¬ (1 : Int32) = 0 := by decide
          rw [if_pos h1, if_neg h3, if_neg h4, nI_clamp ha, koc_wq _ ha, kexp_ok (κ 16).1 (ρ 2) 0 (fun j => ψ 62 (0 + j)) hm (fun j hj => by rw [Nat.zero_add]; have := hs j (by omega); rwa [Nat.mul_zero, Nat.zero_add] at this) (by omega)]
        · have h2 : ¬ a < 16 * (m + 7) := fun q => h1 ((nI_ltI ha (by omega)).mpr q)
          have h3 : nI (16 * (m + 6) + 15) < nI a := (nI_ltI (a := 16 * (m + 6) + 15) (b := a) (by omega) ha).mpr (by omega)
          rw [if_neg h1, if_pos h3, if_pos rfl]
    rw [e] at C
    refine Jmk M (P := fun ρ2 τ2 => ρ2 = ρ ∧ τ2 = τ) (R := fun ψ2 z2 i2 => (ψ2 62 = ψ 62 ∧ ψ2 64 = ψ 64 ∧ ψ2 65 = ψ 65 ∧ ψ2 66 = ψ 66) ∧ z2 = z ∧ i2 = ui i 0 0) (of_SQ hτ C) (fun h1 M1 => ?_) (fun ρ2 τ2 ψ2 z2 i2 hP hR => ?_)
    · refine (oX12_roundKey M1 hn v m (by rw [hz, em]) hm Bx N.2.2.2.1).mono (fun h2 q hq => ?_)
      obtain ⟨ψ2, eq, M2, ek, F⟩ := hq
      exact ⟨eq, ψ2, z, _, M2, ⟨ek, rfl, rfl⟩, F⟩
    · obtain ⟨rfl, rfl⟩ := hP
      obtain ⟨ek, rfl, rfl⟩ := hR
      exact N.keep ek
end JM4
