/-! the joint: sum -/
theorem d16 : ∀ d, d < 513 → (nI d &&& 15 = 0 ↔ d % 16 = 0) := by decide +kernel
theorem in13 {v : Int32} (h : ¬ inI v 1 3 = 0) : v = 1 ∨ v = 2 ∨ v = 3 := by
  have h0 : ¬ v < 1 := fun q => h (if_pos q)
  have h3 : ¬ (3 : Int32) < v := fun q => h (by unfold inI; rw [if_neg h0, if_pos q])
  obtain ⟨a, ha, rfl⟩ := nI_of (fun q => h0 (Int32.lt_trans q (by decide)))
  have q1 : ¬ a < 1 := fun q => h0 ((nI_ltI (a := a) (b := 1) ha (by omega)).mpr q)
  have q3 : ¬ 3 < a := fun q => h3 ((nI_ltI (a := 3) (b := a) (by omega) ha).mpr q)
  rcases (show a = 1 ∨ a = 2 ∨ a = 3 by omega) with rfl | rfl | rfl
  · exact Or.inl rfl
  · exact Or.inr (Or.inl rfl)
  · exact Or.inr (Or.inr rfl)
theorem smW {d : Nat} (hd : d ≤ 512) : (if nI d = 0 then (-2 : Int32) else if nI d &&& 15 = 0 then 0 else -2) = if d % 16 = 0 ∧ d ≠ 0 then 0 else -2 := by
  have e0 : nI d = 0 ↔ d = 0 := nI_eq (a := d) (b := 0) (by omega) (by omega)
  have e1 := d16 d (by omega)
  by_cases y : d = 0
  · rw [if_pos (e0.mpr y), if_neg (fun q => q.2 y)]
  · by_cases y2 : d % 16 = 0
    · rw [if_neg (fun q => y (e0.mp q)), if_pos (e1.mpr y2), if_pos ⟨y2, y⟩]
    · rw [if_neg (fun q => y (e0.mp q)), if_neg (fun q => y2 (e1.mp q)), if_neg (fun q => y2 q.1)]
section JM5
variable {l : Launch} {w : am_W} {h : am_H} {n : Nat} {ρ : Nat → List (BitVec 8)} {β : Nat → bP} {κ : Nat → kT} {τ : Nat × Nat × Nat} {ψ : Nat → oA} {z : fA} {i : mI} {μ1 μ2 : am_M} {as : List Value}
def uRes (R : Option (List (BitVec 8))) (L : List (BitVec 8)) : List (BitVec 8) := match R with | none => L | some M => M
theorem JuX (M : MO h ψ z i) (N : JN ρ τ ψ z i) {a : Int32} {L : List (BitVec 8)} {R : Option (List (BitVec 8))} (C : RH l w μ1 h n (.ref 1 :: as) (WX h τ ρ a L)) (D : ∀ h1, MO h1 ψ z i → RH l w μ2 h1 n (.ref 61 :: as) (uQ h1 ψ z (ui i 0 0) a R)) (hR : L = uRes R (ρ τ.1)) : Jstep l w μ1 μ2 h n as := by
  refine Jmk M (a := a) (P := fun ρ2 τ2 => τ2.2.2 = τ.2.2 ∧ (∀ r, r ≤ 8 → ρ2 r = ρ r) ∧ ρ2 τ2.1 = L) (R := fun ψ2 z2 i2 => (ψ2 62 = ψ 62 ∧ ψ2 65 = ψ 65 ∧ ψ2 66 = ψ 66) ∧ z2 = z ∧ i2 1 = i 1 ∧ (sg (ψ2 64) 0 L ∧ i2 2 = nI L.length)) (C.mono (fun h1 q hq => ?_)) (fun h1 M1 => (D h1 M1).mono (fun h2 q hq => ?_)) (fun ρ2 τ2 ψ2 z2 i2 hP hR => ?_)
  · obtain ⟨ρ', β', κ', τ', e, S, t, e1, e2, e3, F⟩ := hq
    exact ⟨e, ρ', β', κ', τ', S, t, ⟨e1, e2, e3⟩, F⟩
  · obtain ⟨ψ2, i2, e, M2, e1, e2, e3, F⟩ := hq
    refine ⟨e, ψ2, z, i2, M2, ⟨e1, rfl, e2.2, ?_⟩, F⟩
    cases R with
    | none =>
      subst hR
      show sg (ψ2 64) 0 (ρ τ.1) ∧ i2 2 = nI (ρ τ.1).length
      rw [e3.1, e3.2]
      exact N.2.1
    | some L' =>
      subst hR
      exact e3
  · obtain ⟨e1, e2, e3⟩ := hP
    obtain ⟨⟨f1, f2, f3⟩, rfl, f4, f5⟩ := hR
    refine ⟨fun k hk => ?_, ?_, ?_, ?_⟩
    · rw [e2 _ (by omega), f1]
      exact N.1 k hk
    · rw [e3]
      exact f5
    · rw [f4, e1]
      exact N.2.2.1
    · rw [f2, f3]
      exact N.2.2.2
/-- the reference's first key, once laid, is the class's -/
theorem JN.key0 (N : JN ρ τ ψ z i) {m : Nat} (hm : m = 4 ∨ m = 6 ∨ m = 8) (hl : 4 * m ≤ (ρ 2).length) (wf : Nat → Int32) (g : Nat → Int64) : ∀ ψ2, FR [67, 68, 71, 72, 73, 74, 75, 76, 77, 78, 79, 80, 81, 82, 83, 84, 85, 86, 87, 88, 89, 90] ψ ψ2 → exK ψ2 Bx 0 0 m → Kh ψ2 0 (eK (kexp wf (ρ 2) 0 m, kgs (kexp wf (ρ 2) 0 m) g 15, m + 6)) (dK (kexp wf (ρ 2) 0 m, kgs (kexp wf (ρ 2) 0 m) g 15, m + 6)) := fun ψ2 hF hx => by
  refine Kh_key (a := 0) (by rw [hF.ne (by decide)]; exact N.2.2.2.1) (by rw [hF.ne (by decide)]; exact N.2.2.2.2) (by omega) hm hx (fun j hj => ?_)
  rw [hF.ne (by decide)]
  have s0 : sg (ψ 62) 0 (ρ 2) := (N.1 0 (by omega)).2
  rw [s0 j (by omega), Nat.zero_add]
theorem JN.key1 (N : JN ρ τ ψ z i) {m : Nat} (hm : m = 4 ∨ m = 6 ∨ m = 8) (hl : 8 * m ≤ (ρ 2).length) (wf : Nat → Int32) (g : Nat → Int64) : ∀ ψ2, FR [67, 68, 71, 72, 73, 74, 75, 76, 77, 78, 79, 80, 81, 82, 83, 84, 85, 86, 87, 88, 89, 90] ψ ψ2 → exK ψ2 Bx 1 (4 * m) m → Kh ψ2 1 (eK (kexp wf (ρ 2) (4 * m) m, kgs (kexp wf (ρ 2) (4 * m) m) g 15, m + 6)) (dK (kexp wf (ρ 2) (4 * m) m, kgs (kexp wf (ρ 2) (4 * m) m) g 15, m + 6)) := fun ψ2 hF hx => by
  refine Kh_key (a := 4 * m) (by rw [hF.ne (by decide)]; exact N.2.2.2.1) (by rw [hF.ne (by decide)]; exact N.2.2.2.2) (by omega) hm hx (fun j hj => ?_)
  rw [hF.ne (by decide)]
  have s0 : sg (ψ 62) 0 (ρ 2) := (N.1 0 (by omega)).2
  have := s0 (4 * m + j) (by omega)
  rwa [Nat.zero_add] at this
end JM5
section JM6
variable {l : Launch} {w : am_W} {h : am_H} {n : Nat}
theorem uQ_of {h : am_H} {ψ : Nat → oA} {z : fA} {i : mI} {a : Int32} {μ : am_M} {as : List Value} (D : RH l w μ h n (.ref 61 :: as) (oQ h (some (.int a)) ψ z i)) : RH l w μ h n (.ref 61 :: as) (uQ h ψ z i a none) := D.mono (fun h2 q hq => ⟨ψ, i, hq.1, hq.2.1, ⟨rfl, rfl, rfl⟩, ⟨rfl, rfl⟩, ⟨rfl, rfl⟩, hq.2.2⟩)
theorem J_sum (J : Jt h) (hn : 90 ≤ n) (v : Int32) : Jstep l w mX11_sum mX12_sum h n [.int v] := by
  obtain ⟨ρ, β, κ, τ, ψ, z, i, S, hτ, M, N⟩ := J
  have hK : (ρ 2).length ≤ 64 := S.rowL 2 rfl
  have hD : (ρ 4).length ≤ 512 := S.rowL 4 rfl
  have hN : (ρ 6).length ≤ 64 := S.rowL 6 rfl
  have hA : (ρ 8).length ≤ 256 := S.rowL 8 rfl
  have z0 : z 0 = nI (ρ 2).length := (N.1 0 (by omega)).1
  have z1 : z 1 = nI (ρ 4).length := (N.1 1 (by omega)).1
  have z2 : z 2 = nI (ρ 6).length := (N.1 2 (by omega)).1
  have z3 : z 3 = nI (ρ 8).length := (N.1 3 (by omega)).1
  have s1 : sg (ψ 62) 512 (ρ 4) := (N.1 1 (by omega)).2
  have s2 : sg (ψ 62) 1024 (ρ 6) := (N.1 2 (by omega)).2
  have s3 : sg (ψ 62) 1536 (ρ 8) := (N.1 3 (by omega)).2
  have C := qX11_sum (l := l) (w := w) (n := n) S (by omega) hτ v
  have n2 : ¬ (-2 : Int32) = 0 := by decide
  have n3 : ¬ (-3 : Int32) = 0 := by decide
  by_cases hv : inI v 1 3 = 0
  · have e : smR v (ρ 2).length (ρ 4).length = -2 := by
      unfold smR
      by_cases h1 : v < 1
      · rw [if_pos h1]
      · rw [if_neg h1]
        have h3 : ¬ v ≤ 3 := fun p => by
          unfold inI at hv
          rw [if_neg h1, if_neg (Int32.not_lt.mpr p)] at hv
          exact absurd hv (by decide)
        rw [if_neg h3]
    rw [e, if_neg n2, if_neg n2] at C
    exact JuX M N (R := none) C (fun h1 M1 => uQ_of (oX12_sum_N M1 hn v hv)) rfl
  · by_cases c : isK (nI (ρ 2).length) = 0
    · have e : smR v (ρ 2).length (ρ 4).length = -3 := by
        rcases in13 hv with rfl | rfl | rfl
        · exact if_pos c
        · exact if_pos c
        · exact if_pos c
      rw [e, if_neg n3, if_neg n3] at C
      exact JuX M N (R := none) C (fun h1 M1 => uQ_of (oX12_sum_K M1 hn v hv (ρ 2).length z0 hK (isK_no hK c))) rfl
    · obtain ⟨m, hm, em⟩ := isK_of hK c
      have HK := N.key0 hm (by omega) (κ 16).1 (κ 16).2.1
      have eo : smO κ v (ρ 2) (ρ 4) = bt (smX v (eK (kexp (κ 16).1 (ρ 2) 0 m, kgs (kexp (κ 16).1 (ρ 2) 0 m) (κ 16).2.1 15, m + 6)) (ρ 4)) 16 := by
        unfold smO xpK
        rw [uk_s, em, show 4 * m / 4 = m by omega]
      rw [em] at z0
      have hb : ∀ q : bP, nI (bt q 16).length = 16 := fun q => by rw [bt_len]; rfl
      rcases in13 hv with rfl | rfl | rfl
      · have e : smR 1 (ρ 2).length (ρ 4).length = 0 := if_neg c
        rw [e, if_pos rfl, if_pos rfl, eo] at C
        refine JuX M N (R := some _) C (fun h1 M1 => ?_) rfl
        have D := oX12_sum_1 (l := l) (w := w) M1 hn (ρ 8) (ρ 6) (ρ 4) m hA hN hD z0 hm z1 z2 z3 s1 s2 s3 Bx N.2.2.2.1 HK
        rw [hb] at D
        exact D
      · have e : smR 2 (ρ 2).length (ρ 4).length = if (ρ 4).length % 16 = 0 ∧ (ρ 4).length ≠ 0 then 0 else -2 := by
          exact (if_neg c).trans (smW hD)
        by_cases ok : (ρ 4).length % 16 = 0 ∧ (ρ 4).length ≠ 0
        · rw [e, if_pos ok, if_pos rfl, if_pos rfl, eo] at C
          refine JuX M N (R := some _) C (fun h1 M1 => ?_) rfl
          have D := oX12_sum_2 (l := l) (w := w) M1 hn (ρ 8) (ρ 6) (ρ 4) m hA hN hD z0 hm z1 z2 z3 s1 s2 s3 Bx N.2.2.2.1 HK ok
          rw [hb] at D
          exact D
        · rw [e, if_neg ok, if_neg n2, if_neg n2] at C
          exact JuX M N (R := none) C (fun h1 M1 => oX12_sum_2F M1 hn (ρ 4).length m hD z0 hm z1 Bx N.2.2.2.1 ok) rfl
      · have e : smR 3 (ρ 2).length (ρ 4).length = if (ρ 4).length % 16 = 0 ∧ (ρ 4).length ≠ 0 then 0 else -2 := by
          exact (if_neg c).trans (smW hD)
        by_cases ok : (ρ 4).length % 16 = 0 ∧ (ρ 4).length ≠ 0
        · rw [e, if_pos ok, if_pos rfl, if_pos rfl, eo] at C
          refine JuX M N (R := some _) C (fun h1 M1 => ?_) rfl
          have D := oX12_sum_3 (l := l) (w := w) M1 hn (ρ 8) (ρ 6) (ρ 4) m hA hN hD z0 hm z1 z2 z3 s1 s2 s3 Bx N.2.2.2.1 HK ok
          rw [hb] at D
          exact D
        · rw [e, if_neg ok, if_neg n2, if_neg n2] at C
          exact JuX M N (R := none) C (fun h1 M1 => oX12_sum_3F M1 hn (ρ 4).length m hD z0 hm z1 Bx N.2.2.2.1 ok) rfl
end JM6
