/-! the joint: seal and open -/
theorem kyF_9 : ∀ L, L < 65 → kyF 9 L = 0 → ¬ (L % 2 = 0 ∧ (L / 2 = 16 ∨ L / 2 = 24 ∨ L / 2 = 32)) := by decide +kernel
theorem kyF_15 : ∀ L, L < 65 → kyF 15 L = 0 → ¬ (L % 2 = 0 ∧ (L / 2 = 16 ∨ L / 2 = 24 ∨ L / 2 = 32)) := by decide +kernel
theorem kyF_no (k : Nat) (hk : k < 17) (L : Nat) (hL : L < 65) (h : kyF (nI k) L = 0) : (k ≠ 9 ∧ k ≠ 15 → L ≠ 16 ∧ L ≠ 24 ∧ L ≠ 32) ∧ (k = 9 ∨ k = 15 → ¬ (L % 2 = 0 ∧ (L / 2 = 16 ∨ L / 2 = 24 ∨ L / 2 = 32))) := by
  refine ⟨fun q => ?_, fun q => ?_⟩
  · have e : w2K (nI k) = 0 := by
      have a : ¬ nI k = 9 := fun z => q.1 ((nI_eq (a := k) (b := 9) (by omega) (by omega)).mp z)
      have b : ¬ nI k = 15 := fun z => q.2 ((nI_eq (a := k) (b := 15) (by omega) (by omega)).mp z)
      unfold w2K
      rw [if_neg a, if_neg b]
    unfold kyF at h
    rw [if_pos e] at h
    exact isK_no (by omega) h
  · rcases q with rfl | rfl
    · exact kyF_9 L hL h
    · exact kyF_15 L hL h
theorem kyX_0 {κ : Nat → kT} {v : Int32} {K : List (BitVec 8)} {m : Nat} (hw : w2K v = 0) (em : K.length = 4 * m) : kyX κ v K 16 = (kexp (κ 16).1 K 0 m, kgs (kexp (κ 16).1 K 0 m) (κ 16).2.1 15, m + 6) := by
  unfold kyX
  rw [if_pos hw, em, show 4 * m / 4 = m by omega]
  unfold xpK
  rw [uk_s]
theorem kyX_1 {κ : Nat → kT} {v : Int32} {K : List (BitVec 8)} {m : Nat} (hw : ¬ w2K v = 0) (em : K.length = 8 * m) : kyX κ v K 16 = (kexp (κ 16).1 K 0 m, kgs (kexp (κ 16).1 K 0 m) (κ 16).2.1 15, m + 6) ∧ kyX κ v K 20 = (kexp (κ 20).1 K (4 * m) m, kgs (kexp (κ 20).1 K (4 * m) m) (κ 20).2.1 15, m + 6) := by
  unfold kyX
  rw [if_neg hw, em, show 8 * m / 8 = m by omega]
  constructor
  · rw [xpK_n (by decide)]
    unfold xpK
    rw [uk_s]
  · have e : xpK κ 16 K 0 m 20 = κ 20 := xpK_n (by decide)
    rw [show xpK (xpK κ 16 K 0 m) 20 K (4 * m) m 20 = (kexp (xpK κ 16 K 0 m 20).1 K (4 * m) m, kgs (kexp (xpK κ 16 K 0 m 20).1 K (4 * m) m) (xpK κ 16 K 0 m 20).2.1 15, m + 6) from uk_s _ _ _, e]
section JV
variable {l : Launch} {w : am_W} {h : am_H} {n : Nat} {ρ : Nat → List (BitVec 8)} {τ : Nat × Nat × Nat} {ψ : Nat → oA} {z : fA} {i i' : mI} {κ : Nat → kT} {mm : Nat}
theorem k_cases {k : Nat} (hk : 1 ≤ k ∧ k ≤ 16) : k = 1 ∨ k = 2 ∨ k = 3 ∨ k = 4 ∨ k = 5 ∨ k = 6 ∨ k = 7 ∨ k = 8 ∨ k = 9 ∨ k = 10 ∨ k = 11 ∨ k = 12 ∨ k = 13 ∨ k = 14 ∨ k = 15 ∨ k = 16 := by omega
theorem use_s {k : Nat} (hk : 1 ≤ k ∧ k ≤ 16) (hn : 90 ≤ n) (N : JN ρ τ ψ z i) (hl : (ρ 2).length ≤ 64) (M : MO h ψ z i') (U : UB ψ z i' (ρ 8) (ρ 6) (ρ 4) mm) (hK : ¬ kyF (nI k) (ρ 2).length = 0) (hP : ftP k 0 (ρ 4).length (ρ 6).length mm) (y : bP) : RH l w mX12_use h n [.ref 61, .int (nI k), .int 0] (uQ h ψ z i' (nI (slO (kyX κ (nI k) (ρ 2)) (nI k) (ρ 8) (ρ 6) (ρ 4) mm y).length) (some (slO (kyX κ (nI k) (ρ 2)) (nI k) (ρ 8) (ρ 6) (ρ 4) mm y))) := by
  have z0 : z 0 = nI (ρ 2).length := (N.1 0 (by omega)).1
  rcases ky_of hl hK with ⟨hw, m, hm, em⟩ | ⟨hw, m, hm, em⟩
  · have H0 : HKp ψ 0 0 m (eK (kyX κ (nI k) (ρ 2) 16)) (dK (kyX κ (nI k) (ρ 2) 16)) := by rw [kyX_0 hw em]; exact N.key0 hm (by omega) _ _
    rw [em] at z0
    rcases k_cases hk with rfl | rfl | rfl | rfl | rfl | rfl | rfl | rfl | rfl | rfl | rfl | rfl | rfl | rfl | rfl | rfl
    · exact Us_1 M hn U z0 hm H0 hP y
    · exact Us_2 M hn U z0 hm H0 hP y
    · exact Us_3 M hn U z0 hm H0 hP y
    · exact Us_4 M hn U z0 hm H0 hP y
    · exact Us_5 M hn U z0 hm H0 hP y
    · exact Us_6 M hn U z0 hm H0 hP y
    · exact Us_7 M hn U z0 hm H0 hP y
    · exact Us_8 M hn U z0 hm H0 hP y
    · exact absurd hw (by decide)
    · exact Us_10 M hn U z0 hm H0 hP y
    · exact Us_11 M hn U z0 hm H0 hP y
    · exact Us_12 M hn U z0 hm H0 hP y
    · exact Us_13 M hn U z0 hm H0 hP y
    · exact Us_14 M hn U z0 hm H0 hP y
    · exact absurd hw (by decide)
    · exact Us_16 M hn U z0 hm H0 hP y
  · have H0 : HKp ψ 0 0 m (eK (kyX κ (nI k) (ρ 2) 16)) (dK (kyX κ (nI k) (ρ 2) 16)) := by rw [(kyX_1 hw em).1]; exact N.key0 hm (by omega) _ _
    have H1 : HKp ψ 1 (4 * m) m (eK (kyX κ (nI k) (ρ 2) 20)) (dK (kyX κ (nI k) (ρ 2) 20)) := by rw [(kyX_1 hw em).2]; exact N.key1 hm (by omega) _ _
    rw [em] at z0
    rcases k_cases hk with rfl | rfl | rfl | rfl | rfl | rfl | rfl | rfl | rfl | rfl | rfl | rfl | rfl | rfl | rfl | rfl
    · exact absurd (by decide) hw
    · exact absurd (by decide) hw
    · exact absurd (by decide) hw
    · exact absurd (by decide) hw
    · exact absurd (by decide) hw
    · exact absurd (by decide) hw
    · exact absurd (by decide) hw
    · exact absurd (by decide) hw
    · exact Us_9 M hn U z0 hm H0 H1 hP y
    · exact absurd (by decide) hw
    · exact absurd (by decide) hw
    · exact absurd (by decide) hw
    · exact absurd (by decide) hw
    · exact absurd (by decide) hw
    · exact Us_15 M hn U z0 hm H0 H1 hP y
    · exact absurd (by decide) hw
theorem use_sF {k : Nat} (hk : 1 ≤ k ∧ k ≤ 16) (hn : 90 ≤ n) (N : JN ρ τ ψ z i) (hl : (ρ 2).length ≤ 64) (M : MO h ψ z i') (U : UB ψ z i' (ρ 8) (ρ 6) (ρ 4) mm) (hK : ¬ kyF (nI k) (ρ 2).length = 0) (hP : ¬ ftP k 0 (ρ 4).length (ρ 6).length mm) : RH l w mX12_use h n [.ref 61, .int (nI k), .int 0] (uQ h ψ z i' (-2) none) := by
  have z0 : z 0 = nI (ρ 2).length := (N.1 0 (by omega)).1
  rcases ky_of hl hK with ⟨hw, m, hm, em⟩ | ⟨hw, m, hm, em⟩
  · rw [em] at z0
    rcases k_cases hk with rfl | rfl | rfl | rfl | rfl | rfl | rfl | rfl | rfl | rfl | rfl | rfl | rfl | rfl | rfl | rfl
    · exact UsF_1 M hn U z0 hm hP
    · exact UsF_2 M hn U z0 hm hP
    · exact UsF_3 M hn U z0 hm hP
    · exact UsF_4 M hn U z0 hm hP
    · exact UsF_5 M hn U z0 hm hP
    · exact UsF_6 M hn U z0 hm hP
    · exact UsF_7 M hn U z0 hm hP
    · exact UsF_8 M hn U z0 hm hP
    · exact absurd hw (by decide)
    · exact UsF_10 M hn U z0 hm hP
    · exact UsF_11 M hn U z0 hm hP
    · exact UsF_12 M hn U z0 hm hP
    · exact UsF_13 M hn U z0 hm hP
    · exact absurd trivial hP
    · exact absurd hw (by decide)
    · exact UsF_16 M hn U z0 hm hP
  · rw [em] at z0
    rcases k_cases hk with rfl | rfl | rfl | rfl | rfl | rfl | rfl | rfl | rfl | rfl | rfl | rfl | rfl | rfl | rfl | rfl
    · exact absurd (by decide) hw
    · exact absurd (by decide) hw
    · exact absurd (by decide) hw
    · exact absurd (by decide) hw
    · exact absurd (by decide) hw
    · exact absurd (by decide) hw
    · exact absurd (by decide) hw
    · exact absurd (by decide) hw
    · exact UsF_9 M hn U z0 hm hP
    · exact absurd (by decide) hw
    · exact absurd (by decide) hw
    · exact absurd (by decide) hw
    · exact absurd (by decide) hw
    · exact absurd (by decide) hw
    · exact absurd trivial hP
    · exact absurd (by decide) hw
theorem use_o {k : Nat} (hk : 1 ≤ k ∧ k ≤ 16) (hn : 90 ≤ n) (N : JN ρ τ ψ z i) (hl : (ρ 2).length ≤ 64) (M : MO h ψ z i') (U : UB ψ z i' (ρ 8) (ρ 6) (ρ 4) mm) (hK : ¬ kyF (nI k) (ρ 2).length = 0) (hP : ftP k 1 (ρ 4).length (ρ 6).length mm) : RH l w mX12_use h n [.ref 61, .int (nI k), .int 1] (uQ h ψ z i' (if uoC (kyX κ (nI k) (ρ 2)) (nI k) (ρ 8) (ρ 6) (ρ 4) mm = 0 then -6 else nI (uoL (kyX κ (nI k) (ρ 2)) (nI k) (ρ 6) (ρ 4) mm).length) (if uoC (kyX κ (nI k) (ρ 2)) (nI k) (ρ 8) (ρ 6) (ρ 4) mm = 0 then none else some (uoL (kyX κ (nI k) (ρ 2)) (nI k) (ρ 6) (ρ 4) mm))) := by
  have z0 : z 0 = nI (ρ 2).length := (N.1 0 (by omega)).1
  rcases ky_of hl hK with ⟨hw, m, hm, em⟩ | ⟨hw, m, hm, em⟩
  · have H0 : HKp ψ 0 0 m (eK (kyX κ (nI k) (ρ 2) 16)) (dK (kyX κ (nI k) (ρ 2) 16)) := by rw [kyX_0 hw em]; exact N.key0 hm (by omega) _ _
    rw [em] at z0
    rcases k_cases hk with rfl | rfl | rfl | rfl | rfl | rfl | rfl | rfl | rfl | rfl | rfl | rfl | rfl | rfl | rfl | rfl
    · exact Uo_1 M hn U z0 hm H0 hP
    · exact Uo_2 M hn U z0 hm H0 hP
    · exact Uo_3 M hn U z0 hm H0 hP
    · exact Uo_4 M hn U z0 hm H0 hP
    · exact Uo_5 M hn U z0 hm H0 hP
    · exact Uo_6 M hn U z0 hm H0 hP
    · exact Uo_7 M hn U z0 hm H0 hP
    · exact Uo_8 M hn U z0 hm H0 hP
    · exact absurd hw (by decide)
    · exact Uo_10 M hn U z0 hm H0 hP
    · exact Uo_11 M hn U z0 hm H0 hP
    · exact Uo_12 M hn U z0 hm H0 hP
    · exact Uo_13 M hn U z0 hm H0 hP
    · exact Uo_14 M hn U z0 hm H0 hP
    · exact absurd hw (by decide)
    · exact Uo_16 M hn U z0 hm H0 hP
  · have H0 : HKp ψ 0 0 m (eK (kyX κ (nI k) (ρ 2) 16)) (dK (kyX κ (nI k) (ρ 2) 16)) := by rw [(kyX_1 hw em).1]; exact N.key0 hm (by omega) _ _
    have H1 : HKp ψ 1 (4 * m) m (eK (kyX κ (nI k) (ρ 2) 20)) (dK (kyX κ (nI k) (ρ 2) 20)) := by rw [(kyX_1 hw em).2]; exact N.key1 hm (by omega) _ _
    rw [em] at z0
    rcases k_cases hk with rfl | rfl | rfl | rfl | rfl | rfl | rfl | rfl | rfl | rfl | rfl | rfl | rfl | rfl | rfl | rfl
    · exact absurd (by decide) hw
    · exact absurd (by decide) hw
    · exact absurd (by decide) hw
    · exact absurd (by decide) hw
    · exact absurd (by decide) hw
    · exact absurd (by decide) hw
    · exact absurd (by decide) hw
    · exact absurd (by decide) hw
    · exact Uo_9 M hn U z0 hm H0 H1 hP
    · exact absurd (by decide) hw
    · exact absurd (by decide) hw
    · exact absurd (by decide) hw
    · exact absurd (by decide) hw
    · exact absurd (by decide) hw
    · exact Uo_15 M hn U z0 hm H0 H1 hP
    · exact absurd (by decide) hw
theorem use_oF {k : Nat} (hk : 1 ≤ k ∧ k ≤ 16) (hn : 90 ≤ n) (N : JN ρ τ ψ z i) (hl : (ρ 2).length ≤ 64) (M : MO h ψ z i') (U : UB ψ z i' (ρ 8) (ρ 6) (ρ 4) mm) (hK : ¬ kyF (nI k) (ρ 2).length = 0) (hP : ¬ ftP k 1 (ρ 4).length (ρ 6).length mm) : RH l w mX12_use h n [.ref 61, .int (nI k), .int 1] (uQ h ψ z i' (-2) none) := by
  have z0 : z 0 = nI (ρ 2).length := (N.1 0 (by omega)).1
  rcases ky_of hl hK with ⟨hw, m, hm, em⟩ | ⟨hw, m, hm, em⟩
  · rw [em] at z0
    rcases k_cases hk with rfl | rfl | rfl | rfl | rfl | rfl | rfl | rfl | rfl | rfl | rfl | rfl | rfl | rfl | rfl | rfl
    · exact UoF_1 M hn U z0 hm hP
    · exact UoF_2 M hn U z0 hm hP
    · exact UoF_3 M hn U z0 hm hP
    · exact UoF_4 M hn U z0 hm hP
    · exact UoF_5 M hn U z0 hm hP
    · exact UoF_6 M hn U z0 hm hP
    · exact UoF_7 M hn U z0 hm hP
    · exact UoF_8 M hn U z0 hm hP
    · exact absurd hw (by decide)
    · exact UoF_10 M hn U z0 hm hP
    · exact UoF_11 M hn U z0 hm hP
    · exact UoF_12 M hn U z0 hm hP
    · exact UoF_13 M hn U z0 hm hP
    · exact UoF_14 M hn U z0 hm hP
    · exact absurd hw (by decide)
    · exact UoF_16 M hn U z0 hm hP
  · rw [em] at z0
    rcases k_cases hk with rfl | rfl | rfl | rfl | rfl | rfl | rfl | rfl | rfl | rfl | rfl | rfl | rfl | rfl | rfl | rfl
    · exact absurd (by decide) hw
    · exact absurd (by decide) hw
    · exact absurd (by decide) hw
    · exact absurd (by decide) hw
    · exact absurd (by decide) hw
    · exact absurd (by decide) hw
    · exact absurd (by decide) hw
    · exact absurd (by decide) hw
    · exact UoF_9 M hn U z0 hm hP
    · exact absurd (by decide) hw
    · exact absurd (by decide) hw
    · exact absurd (by decide) hw
    · exact absurd (by decide) hw
    · exact absurd (by decide) hw
    · exact UoF_15 M hn U z0 hm hP
    · exact absurd (by decide) hw
theorem rfV_K {k K St D t : Nat} {u : Int32} (hk : 1 ≤ k ∧ k ≤ 16) : rfV (nI k) u K St D t = if kyF (nI k) K = 0 then -3 else rfT (nI k) u k St D t := by
  have a : ¬ nI k < 1 := fun q => by have := (nI_ltI (a := k) (b := 1) (by omega) (by omega)).mp q; omega
  have b : nI k ≤ 16 := (nI_leI (a := k) (b := 16) (by omega) (by omega)).mpr hk.2
  unfold rfV
  rw [if_neg a, if_pos b, nI_clamp (by omega)]
theorem rfV_N {v u : Int32} {K St D t : Nat} (hv : inI v 1 16 = 0) : rfV v u K St D t = -2 := by
  unfold rfV
  by_cases h1 : v < 1
  · rw [if_pos h1]
  · rw [if_neg h1]
    have h3 : ¬ v ≤ 16 := fun p => by
      unfold inI at hv
      rw [if_neg h1, if_neg (Int32.not_lt.mpr p)] at hv
      exact absurd hv (by decide)
    rw [if_neg h3]
theorem in1_16 {v : Int32} (h : ¬ inI v 1 16 = 0) : ∃ k, (1 ≤ k ∧ k ≤ 16) ∧ v = nI k := by
  have h0 : ¬ v < 1 := fun q => h (if_pos q)
  have h3 : ¬ (16 : Int32) < v := fun q => h (by unfold inI; rw [if_neg h0, if_pos q])
  obtain ⟨k, hk⟩ := kN_of h0 (Int32.not_lt.mp h3)
  exact ⟨k, hk.eq.2, hk.eq.1⟩
theorem UB_of {h : am_H} {β : Nat → bP} (S : Sys h ρ β κ τ) (hτ : tOk τ) (N : JN ρ τ ψ z i) : UB ψ z (ui i 0 0) (ρ 8) (ρ 6) (ρ 4) τ.2.2 := ⟨S.rowL 8 rfl, S.rowL 6 rfl, S.rowL 4 rfl, hτ.2.1, hτ.2.2, N.2.2.1, (N.1 1 (by omega)).1, (N.1 2 (by omega)).1, (N.1 3 (by omega)).1, (N.1 1 (by omega)).2, (N.1 2 (by omega)).2, (N.1 3 (by omega)).2, N.2.2.2.1⟩

theorem J_seal (J : Jt h) (hn : 90 ≤ n) (v : Int32) : Jstep l w mX11_seal mX12_seal h n [.int v] := by
  obtain ⟨ρ, β, κ, τ, ψ, z, i, S, hτ, M, N⟩ := J
  have hK : (ρ 2).length ≤ 64 := S.rowL 2 rfl
  have U := UB_of S hτ N
  have C := qX11_seal (l := l) (w := w) (n := n) S (by omega) hτ v
  have n2 : ¬ (0 : Int32) ≤ -2 := by decide
  have n3 : ¬ (0 : Int32) ≤ -3 := by decide
  have p0 : (0 : Int32) ≤ 0 := by decide
  by_cases hv : inI v 1 16 = 0
  · rw [rfV_N hv, if_neg n2, if_neg n2] at C
    exact JuX M N (R := none) C (fun h1 M1 => oX12_seal M1 hn v (-2) none (fun h' M' => uQ_of (oX12_use_N M' hn v 0 hv))) rfl
  · obtain ⟨k, hk, rfl⟩ := in1_16 hv
    rw [rfV_K hk] at C
    by_cases c : kyF (nI k) (ρ 2).length = 0
    · rw [if_pos c, if_neg n3, if_neg n3] at C
      have e := kyF_no k (by omega) (ρ 2).length (by omega) c
      exact JuX M N (R := none) C (fun h1 M1 => oX12_seal M1 hn (nI k) (-3) none (fun h' M' => uQ_of (oX12_use_K M' hn k (ρ 2).length 0 hk (N.1 0 (by omega)).1 hK e.1 e.2))) rfl
    · rw [if_neg c] at C
      have f := rfT_ft (k := k) (op := 0) (s := (ρ 6).length) (d := (ρ 4).length) (t := τ.2.2) hk (by omega) (S.rowL 6 rfl) (S.rowL 4 rfl) hτ.2.2
      by_cases p : ftP k 0 (ρ 4).length (ρ 6).length τ.2.2
      · have f1 : rfT (nI k) 0 k (ρ 6).length (ρ 4).length τ.2.2 = 0 := f.1 p
        rw [f1, if_pos p0, if_pos p0] at C
        exact JuX M N (R := some _) C (fun h1 M1 => oX12_seal M1 hn (nI k) _ _ (fun h' M' => use_s hk hn N hK M' U c p _)) rfl
      · have f2 : rfT (nI k) 0 k (ρ 6).length (ρ 4).length τ.2.2 = -2 := f.2 p
        rw [f2, if_neg n2, if_neg n2] at C
        exact JuX M N (R := none) C (fun h1 M1 => oX12_seal M1 hn (nI k) (-2) none (fun h' M' => use_sF hk hn N hK M' U c p)) rfl
theorem J_open (J : Jt h) (hn : 90 ≤ n) (v : Int32) : Jstep l w mX11_open mX12_open h n [.int v] := by
  obtain ⟨ρ, β, κ, τ, ψ, z, i, S, hτ, M, N⟩ := J
  have hK : (ρ 2).length ≤ 64 := S.rowL 2 rfl
  have U := UB_of S hτ N
  have C := qX11_open (l := l) (w := w) (n := n) S (by omega) hτ v
  have n2 : ¬ (0 : Int32) ≤ -2 := by decide
  have n3 : ¬ (0 : Int32) ≤ -3 := by decide
  have p0 : (0 : Int32) ≤ 0 := by decide
  by_cases hv : inI v 1 16 = 0
  · rw [rfV_N hv, if_neg n2, if_neg n2] at C
    exact JuX M N (R := none) C (fun h1 M1 => oX12_open M1 hn v (-2) none (fun h' M' => uQ_of (oX12_use_N M' hn v 1 hv))) rfl
  · obtain ⟨k, hk, rfl⟩ := in1_16 hv
    rw [rfV_K hk] at C
    by_cases c : kyF (nI k) (ρ 2).length = 0
    · rw [if_pos c, if_neg n3, if_neg n3] at C
      have e := kyF_no k (by omega) (ρ 2).length (by omega) c
      exact JuX M N (R := none) C (fun h1 M1 => oX12_open M1 hn (nI k) (-3) none (fun h' M' => uQ_of (oX12_use_K M' hn k (ρ 2).length 1 hk (N.1 0 (by omega)).1 hK e.1 e.2))) rfl
    · rw [if_neg c] at C
      have f := rfT_ft (k := k) (op := 1) (s := (ρ 6).length) (d := (ρ 4).length) (t := τ.2.2) hk (by omega) (S.rowL 6 rfl) (S.rowL 4 rfl) hτ.2.2
      by_cases p : ftP k 1 (ρ 4).length (ρ 6).length τ.2.2
      · have f1 : rfT (nI k) 1 k (ρ 6).length (ρ 4).length τ.2.2 = 0 := f.1 p
        rw [f1, if_pos p0, if_pos p0] at C
        refine JuX M N C (fun h1 M1 => oX12_open M1 hn (nI k) _ _ (fun h' M' => use_o (κ := κ) hk hn N hK M' U c p)) ?_
        by_cases y : uoC (kyX κ (nI k) (ρ 2)) (nI k) (ρ 8) (ρ 6) (ρ 4) τ.2.2 = 0
        · rw [if_pos y, if_pos y]
          rfl
        · rw [if_neg y, if_neg y]
          rfl
      · have f2 : rfT (nI k) 1 k (ρ 6).length (ρ 4).length τ.2.2 = -2 := f.2 p
        rw [f2, if_neg n2, if_neg n2] at C
        exact JuX M N (R := none) C (fun h1 M1 => oX12_open M1 hn (nI k) (-2) none (fun h' M' => use_oF hk hn N hK M' U c p)) rfl
end JV
