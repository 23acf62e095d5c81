/-! the joint: fill, feed -/
theorem oc_of_lt {x : Int32} (h : x.toBitVec.toNat < 256) : x = oc (t8 x) := by
  apply Int32.toBitVec_inj.mp
  rw [oc_tb]
  unfold t8
  apply BitVec.eq_of_toNat_eq
  rw [BitVec.toNat_setWidth, BitVec.toNat_setWidth]
  omega
theorem ju24 (x : Int32) : jushr x 24 = oc (t8 (jushr x 24)) := by
  apply oc_of_lt
  have e : (jushr x (nI 24)).toBitVec = x.toBitVec >>> 24 := ju32 x (by omega)
  rw [show (24 : Int32) = nI 24 from rfl, e, BitVec.toNat_ushiftRight, Nat.shiftRight_eq_div_pow]
  have := x.toBitVec.isLt
  omega
theorem og_flL (x : Int32) : ∀ m j, j < m → og (flL x m) j = t8 (jushr (flS x (j + 1)) 24)
  | 0, j, h => absurd h (by omega)
  | m + 1, j, h => by
    show og (flL x m ++ [t8 (jushr (flS x (m + 1)) 24)]) j = _
    by_cases c : j < m
    · rw [og_app_l (by rw [flL_len]; exact c)]
      exact og_flL x m j c
    · obtain rfl : j = m := by omega
      rw [og_app_r (by rw [flL_len]; omega), flL_len, Nat.sub_self]
      rfl
theorem fdL_len' (x : Int64) : ∀ k, (fdL x k).length = k
  | 0 => rfl
  | k + 1 => by
    show ([_] ++ fdL x k).length = _
    rw [List.length_append, fdL_len' x k, List.length_singleton]
    omega
theorem og_fdL (x : Int64) : ∀ m j, j < m → og (fdL x m) j = t8 (jlushr x (8 * nI (m - 1 - j))).toInt32
  | 0, j, h => absurd h (by omega)
  | m + 1, j, h => by
    show og ([t8 (jlushr x (8 * nI m)).toInt32] ++ fdL x m) j = _
    by_cases c : j = 0
    · subst c
      rfl
    · rw [og_app_r (by rw [List.length_singleton]; omega), List.length_singleton, og_fdL x m (j - 1) (by omega), show m - 1 - (j - 1) = m + 1 - 1 - j by omega]
theorem e8_sh : ∀ k, k < 8 → 8 * nI k = nI (8 * k) := by decide
theorem jr_bv (x : Int64) {s : Nat} (hs : s < 64) : (jlshr x (nI s)).toBitVec = x.toBitVec.sshiftRight s := by
  have h := shB' s hs
  show (x >>> _).toBitVec = _
  rw [Int64.toBitVec_shiftRight, h, BitVec.sshiftRight_eq', BitVec.toNat_ofNat, Nat.mod_eq_of_lt (by omega)]
theorem sh_oct (x : Int64) {k : Nat} (hk : k < 8) : t8 (jlshr x (8 * nI k)).toInt32 = t8 (jlushr x (8 * nI k)).toInt32 := by
  rw [e8_sh k hk]
  have e1 := jr_bv x (s := 8 * k) (by omega)
  have e2 := ju_bv x (s := 8 * k) (by omega)
  generalize jlshr x (nI (8 * k)) = y at e1 ⊢
  generalize jlushr x (nI (8 * k)) = y' at e2 ⊢
  show y.toInt32.toBitVec.setWidth 8 = y'.toInt32.toBitVec.setWidth 8
  apply BitVec.eq_of_getLsbD_eq
  intro i hi
  have h32 : i < 32 := by omega
  have h64 : i < 64 := by omega
  simp only [BitVec.getLsbD_setWidth, Int64.toBitVec_toInt32, BitVec.getLsbD_signExtend, hi, h32, h64, decide_true, Bool.true_and, if_true]
  rw [e1, e2, BitVec.getLsbD_sshiftRight, BitVec.getLsbD_ushiftRight]
  have h1 : ¬ 64 ≤ i := by omega
  have h2 : 8 * k + i < 64 := by omega
  simp only [h1, h2, decide_false, Bool.not_false, Bool.true_and, if_true]
def apB (A : List (BitVec 8)) (f : oA) (t m : Nat) : oA := fun x => if t ≤ x ∧ x < t + m then og A (x - t) else f x
theorem pgF_ap {G : fA} {f : oA} {A : List (BitVec 8)} {t m : Nat} (h : ∀ j, j < m → G j = oc (og A j)) (x : Nat) : pgF G (fun j => oc (f j)) t m x = oc (apB A f t m x) := by
  unfold pgF apB
  by_cases c : t ≤ x ∧ x < t + m
  · rw [if_pos c, if_pos c]
    exact h _ (by omega)
  · rw [if_neg c, if_neg c]
theorem JN.app {ρ : Nat → List (BitVec 8)} {τ : Nat × Nat × Nat} {ψ : Nat → oA} {z : fA} {i : mI} (N : JN ρ τ ψ z i) (hτ : tOk τ) {k : Nat} (hk : k < 4) (A : List (BitVec 8)) {m : Nat} (hm : A.length = m) (hA : (ρ (2 * k + 2)).length + m ≤ 512) (hl : ∀ k, k < 4 → (ρ (2 * k + 2)).length ≤ 512) : JN (ur ρ (2 * k + 2) (ρ (2 * k + 2) ++ A)) τ (uo ψ 62 (apB A (ψ 62) (512 * k + (ρ (2 * k + 2)).length) m)) (upd z k (nI ((ρ (2 * k + 2)).length + m))) (ui i 0 0) := by
  have h := N.row hτ hk (L := ρ (2 * k + 2) ++ A) (f := apB A (ψ 62) (512 * k + (ρ (2 * k + 2)).length) m) (sg.app (((N.1 k hk).2).mv fun j hj => if_neg (by omega)) (fun j hj => (if_pos (by omega)).trans (by rw [show 512 * k + (ρ (2 * k + 2)).length + j - (512 * k + (ρ (2 * k + 2)).length) = j by omega]))) (fun j hj => if_neg (by omega)) hl
  rw [List.length_append, hm] at h
  exact h
theorem rmI_0 {N j : Nat} {L : List (BitVec 8)} (hj : j < 2 ^ 31) (hN : N ≤ 1000) (hL : L.length ≤ N) : rmI N L (nI j) = 0 ↔ ¬ L.length + j ≤ N := by
  constructor
  · intro h q
    unfold rmI at h
    rw [if_neg (fun p => by have := (nI_ltI (by omega) hj).mp p; omega)] at h
    exact absurd h (by decide)
  · intro h
    exact Decidable.not_not.mp (fun q => h (rmI_of hj hN hL q))
section JM3
variable {l : Launch} {w : am_W} {h : am_H} {n : Nat}
theorem J_fill (J : Jt h) (hn : 90 ≤ n) (v j x : Int32) : Jstep l w mX11_fill mX12_fill h n [.int v, .int j, .int x] := by
  obtain ⟨ρ, β, κ, τ, ψ, z, i, S, hτ, M, N⟩ := J
  by_cases hv : inI v 0 3 = 0
  · refine Jdet M hτ ψ z (ui i 0 0) (qX11_fill_N S (by omega) hτ v (noRow_in.mp hv) j x) (fun h1 M1 => ?_) N.i0
    obtain ⟨s, m, M1⟩ := M1
    exact of_mQ rfl (qX12_fill_N M1 hn v hv j x)
  · obtain ⟨k, hk, rfl, hr⟩ := row_in hv
    obtain ⟨_, hL, er⟩ := row_len S hk
    have hrm := rmN_le k hk
    have C := qX11_fill (l := l) (w := w) (n := n) S (by omega) hτ (nI k) (2 * k + 2) hr j x
    rw [er] at C
    unfold flV flR at C
    by_cases c : 0 ≤ j
    · obtain ⟨a, ha, rfl⟩ := nI_of (Int32.not_lt.mpr c)
      rw [if_pos c, if_pos c, nI_clamp ha] at C
      by_cases d : rmI (rmN k) (ρ (2 * k + 2)) (nI a) = 0
      · rw [if_pos d, if_pos d, ur_id] at C
        refine Jdet M hτ ψ z (ui i 0 0) C (fun h1 M1 => ?_) N.i0
        obtain ⟨s, m, M1⟩ := M1
        exact of_mQ rfl (qX12_fill_R2 M1 hn k hk (ρ (2 * k + 2)).length (by rw [Ph_63]; exact (N.1 k hk).1) hL a ha x ((rmI_0 ha (by omega) hL).mp d))
      · have hla := rmI_of ha (by omega) hL d
        rw [if_neg d, if_neg d, List.length_append, flL_len] at C
        refine Jdet M hτ _ _ (ui i 0 0) C (fun h1 M1 => ?_) (N.app hτ hk (flL x a) (flL_len x a) (by omega) (rows_512 S))
        obtain ⟨s, m, M1⟩ := M1
        have D := qX12_fill (l := l) (w := w) M1 hn k hk (ρ (2 * k + 2)).length (by rw [Ph_63]; exact (N.1 k hk).1) a x hla
        rw [Ph_63, Ph_at rfl, Ph_u (g := apB (flL x a) (ψ 62) (512 * k + (ρ (2 * k + 2)).length) a) rfl (pgF_ap (fun j hj => by rw [og_flL x a j hj]; exact ju24 _))] at D
        exact of_mQ Ph_z D
    · rw [if_neg c, if_neg c, ur_id] at C
      refine Jdet M hτ ψ z (ui i 0 0) C (fun h1 M1 => ?_) N.i0
      obtain ⟨s, m, M1⟩ := M1
      exact of_mQ rfl (qX12_fill_R1 M1 hn k hk j x c)
theorem J_feed (J : Jt h) (hn : 90 ≤ n) (v : Int32) (x : Int64) (j : Int32) : Jstep l w mX11_feed mX12_feed h n [.int v, .long x, .int j] := by
  obtain ⟨ρ, β, κ, τ, ψ, z, i, S, hτ, M, N⟩ := J
  by_cases hv : inI v 0 3 = 0
  · refine Jdet M hτ ψ z (ui i 0 0) (qX11_feed_N S (by omega) hτ v (noRow_in.mp hv) x j) (fun h1 M1 => ?_) N.i0
    obtain ⟨s, m, M1⟩ := M1
    exact of_mQ rfl (qX12_feed_N M1 hn v hv x j)
  · obtain ⟨k, hk, rfl, hr⟩ := row_in hv
    obtain ⟨_, hL, er⟩ := row_len S hk
    have hrm := rmN_le k hk
    have C := qX11_feed (l := l) (w := w) (n := n) S (by omega) hτ (nI k) (2 * k + 2) hr x j
    rw [er] at C
    unfold fdV fdR at C
    by_cases c : inI j 0 8 = 0
    · have e : j < 0 ∨ (¬ j < 0 ∧ ¬ j ≤ 8) := by
        by_cases h0 : j < 0
        · exact Or.inl h0
        · refine Or.inr ⟨h0, fun p => ?_⟩
          unfold inI at c
          rw [if_neg h0, if_neg (Int32.not_lt.mpr p)] at c
          exact absurd c (by decide)
      rcases e with e | ⟨e1, e2⟩
      · rw [if_pos e, if_pos e, ur_id] at C
        refine Jdet M hτ ψ z (ui i 0 0) C (fun h1 M1 => ?_) N.i0
        obtain ⟨s, m, M1⟩ := M1
        exact of_mQ rfl (qX12_feed_R1 M1 hn k hk x j c)
      · rw [if_neg e1, if_neg e2, if_neg e1, if_neg e2, ur_id] at C
        refine Jdet M hτ ψ z (ui i 0 0) C (fun h1 M1 => ?_) N.i0
        obtain ⟨s, m, M1⟩ := M1
        exact of_mQ rfl (qX12_feed_R1 M1 hn k hk x j c)
    · have h0 : ¬ j < 0 := fun q => c (if_pos q)
      have h8 : ¬ (8 : Int32) < j := fun q => c (by unfold inI; rw [if_neg h0, if_pos q])
      obtain ⟨a, ha, rfl⟩ := nI_of h0
      have ha8 : a ≤ 8 := by
        rcases Nat.lt_or_ge 8 a with q | q
        · exact absurd ((nI_ltI (a := 8) (b := a) (by omega) ha).mpr q) h8
        · exact q
      have h9 : nI a ≤ 8 := Int32.not_lt.mp h8
      rw [if_neg h0, if_pos h9, if_neg h0, if_pos h9] at C
      by_cases a0 : a = 0
      · subst a0
        have q0 : nI 0 = 0 := rfl
        rw [if_pos q0, if_pos q0] at C
        have NN := N.row hτ hk (L := []) (f := ψ 62) (sg.nil _ _) (fun _ _ => rfl) (rows_512 S)
        rw [uo_id] at NN
        refine Jdet M hτ ψ _ (ui i 0 0) C (fun h1 M1 => ?_) NN
        obtain ⟨s, m, M1⟩ := M1
        have D := qX12_feed_0 (l := l) (w := w) M1 hn k hk x
        rw [Ph_63] at D
        exact of_mQ Ph_z D
      · have q0 : ¬ nI a = 0 := fun q => a0 (by have z := congrArg Int32.toNatClampNeg q; rw [nI_clamp ha] at z; exact z)
        rw [if_neg q0, if_neg q0, nI_clamp ha] at C
        by_cases d : rmI (rmN k) (ρ (2 * k + 2)) (nI a) = 0
        · rw [if_pos d, if_pos d, ur_id] at C
          refine Jdet M hτ ψ z (ui i 0 0) C (fun h1 M1 => ?_) N.i0
          obtain ⟨s, m, M1⟩ := M1
          exact of_mQ rfl (qX12_feed_R2 M1 hn k hk (ρ (2 * k + 2)).length (by rw [Ph_63]; exact (N.1 k hk).1) hL a (by omega) ha8 x ((rmI_0 ha (by omega) hL).mp d))
        · have hla := rmI_of ha (by omega) hL d
          rw [if_neg d, if_neg d, List.length_append, fdL_len'] at C
          refine Jdet M hτ _ _ (ui i 0 0) C (fun h1 M1 => ?_) (N.app hτ hk (fdL x a) (fdL_len' x a) (by omega) (rows_512 S))
          obtain ⟨s, m, M1⟩ := M1
          have D := qX12_feed (l := l) (w := w) M1 hn k hk (ρ (2 * k + 2)).length (by rw [Ph_63]; exact (N.1 k hk).1) a x hla (by omega) ha8
          rw [Ph_63, Ph_at rfl, Ph_u (g := apB (fdL x a) (ψ 62) (512 * k + (ρ (2 * k + 2)).length) a) rfl (pgF_ap (fun j hj => by rw [og_fdL x a j hj, oc_t8, sh_oct x (by omega)]))] at D
          exact of_mQ Ph_z D
end JM3
