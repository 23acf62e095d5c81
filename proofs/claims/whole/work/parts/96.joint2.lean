/-! the joint: cut, alter, take, fill, feed -/
theorem Ph_z {ψ : Nat → oA} {z s m f : fA} : uf (uf (uf (Ph ψ z) 69 s) 70 m) 63 f = uf (uf (Ph ψ f) 69 s) 70 m := by
  funext x
  unfold uf Ph
  by_cases e : x = 63
  · subst e
    rfl
  · simp only [if_neg e]
theorem Ph_u {ψ : Nat → oA} {z s m f : fA} {g : oA} {q : Nat} (hq : okA q = true) (hf : ∀ j, f j = oc (g j)) : uf (uf (uf (Ph ψ z) 69 s) 70 m) q f = uf (uf (Ph (uo ψ q g) z) 69 s) 70 m := by
  obtain ⟨_, h1, h2, h3⟩ := okA_c hq
  funext x
  unfold uf Ph uo
  by_cases e : x = q
  · subst e
    funext j
    rw [if_pos rfl, if_neg h3, if_neg h2, if_neg h1, if_pos rfl]
    exact hf j
  · rw [if_neg e, if_neg e]
theorem JN.row {ρ : Nat → List (BitVec 8)} {τ : Nat × Nat × Nat} {ψ : Nat → oA} {z : fA} {i : mI} (N : JN ρ τ ψ z i) (hτ : tOk τ) {k : Nat} (hk : k < 4) {L : List (BitVec 8)} {f : oA} (hs : sg f (512 * k) L) (ho : ∀ j, j < 512 * k ∨ 512 * k + 512 ≤ j → f j = ψ 62 j) (hl : ∀ k, k < 4 → (ρ (2 * k + 2)).length ≤ 512) : JN (ur ρ (2 * k + 2) L) τ (uo ψ 62 f) (upd z k (nI L.length)) (ui i 0 0) := by
  have ht : τ.1 ≠ 2 * k + 2 := by rcases hτ.1 with q | q <;> omega
  refine ⟨fun k' hk' => ?_, ⟨?_, ?_⟩, N.2.2.1, ?_, ?_⟩
  · by_cases e : k' = k
    · subst e
      rw [ur_s, upd_s, uo_s]
      exact ⟨rfl, hs⟩
    · have e1 : upd z k (nI L.length) k' = z k' := if_neg e
      rw [ur_n (by omega), e1, uo_s]
      refine ⟨(N.1 k' hk').1, fun j hj => ?_⟩
      have := hl k' hk'
      rw [ho _ (by omega)]
      exact (N.1 k' hk').2 j hj
  · rw [ur_n ht, uo_n (by decide)]
    exact N.2.1.1
  · rw [ur_n ht]
    exact N.2.1.2
  · rw [uo_n (by decide)]
    exact N.2.2.2.1
  · rw [uo_n (by decide)]
    exact N.2.2.2.2
theorem upd_same {f : fA} {k : Nat} {v : Int32} (h : f k = v) : upd f k v = f := by
  funext x
  unfold upd
  by_cases e : x = k
  · rw [if_pos e, e, h]
  · rw [if_neg e]
theorem uo_same {ψ : Nat → oA} {p : Nat} {f : oA} (h : ψ p = f) : uo ψ p f = ψ := by rw [← h, uo_id]
section JM2
variable {l : Launch} {w : am_W} {h : am_H} {n : Nat}
theorem rows_512 {ρ : Nat → List (BitVec 8)} {β : Nat → bP} {κ : Nat → kT} {τ : Nat × Nat × Nat} (S : Sys h ρ β κ τ) : ∀ k, k < 4 → (ρ (2 * k + 2)).length ≤ 512 := fun k hk => Nat.le_trans (row_len S hk).2.1 (rmN_le k hk)
theorem J_cut (J : Jt h) (hn : 90 ≤ n) (v j : Int32) : Jstep l w mX11_cut mX12_cut h n [.int v, .int j] := by
  obtain ⟨ρ, β, κ, τ, ψ, z, i, S, hτ, M, N⟩ := J
  by_cases hv : inI v 0 3 = 0
  · refine Jdet M hτ ψ z (ui i 0 0) (qX11_cut_N S (by omega) hτ v (noRow_in.mp hv) j) (fun h1 M1 => ?_) N.i0
    obtain ⟨s, m, M1⟩ := M1
    exact of_mQ rfl (qX12_cut_N M1 hn v hv j)
  · obtain ⟨k, hk, rfl, hr⟩ := row_in hv
    have hl := rows_512 S k hk
    by_cases c : inI j 0 (nI (ρ (2 * k + 2)).length) = 0
    · have e : cutV (ρ (2 * k + 2)) j = -2 ∧ cutL (ρ (2 * k + 2)) j = ρ (2 * k + 2) := by
        unfold cutV cutL
        by_cases h0 : j < 0
        · rw [if_pos h0, if_pos h0]; exact ⟨rfl, rfl⟩
        · obtain ⟨a, ha, rfl⟩ := nI_of h0
          have q := (in_nat (s := a) (a := 0) (b := (ρ (2 * k + 2)).length) ha (by omega) (by omega)).mp c
          have h2 : ¬ nI a ≤ nI (ρ (2 * k + 2)).length := fun p => q ⟨by omega, (nI_leI ha (by omega)).mp p⟩
          rw [if_neg h0, if_neg h2, if_neg h0, if_neg h2]; exact ⟨rfl, rfl⟩
      have C := qX11_cut (l := l) (w := w) (n := n) S (by omega) hτ (nI k) (2 * k + 2) hr j
      rw [e.1, e.2, ur_id] at C
      refine Jdet M hτ ψ z (ui i 0 0) C (fun h1 M1 => ?_) N.i0
      obtain ⟨s, m, M1⟩ := M1
      exact of_mQ rfl (qX12_cut_R M1 hn k hk (ρ (2 * k + 2)).length (by rw [Ph_63]; exact (N.1 k hk).1) hl j c)
    · have h0 : ¬ j < 0 := fun q => c (if_pos q)
      obtain ⟨a, ha, rfl⟩ := nI_of h0
      have q : a ≤ (ρ (2 * k + 2)).length := by
        have := Decidable.not_not.mp (fun q => c ((in_nat (s := a) (a := 0) (b := (ρ (2 * k + 2)).length) ha (by omega) (by omega)).mpr q))
        exact this.2
      have e : cutV (ρ (2 * k + 2)) (nI a) = nI (ρ (2 * k + 2)).length ∧ cutL (ρ (2 * k + 2)) (nI a) = (ρ (2 * k + 2)).take a := by
        unfold cutV cutL
        rw [if_neg h0, if_pos ((nI_leI ha (by omega)).mpr q), if_neg h0, if_pos ((nI_leI ha (by omega)).mpr q), nI_clamp ha]
        exact ⟨rfl, rfl⟩
      have C := qX11_cut (l := l) (w := w) (n := n) S (by omega) hτ (nI k) (2 * k + 2) hr (nI a)
      rw [e.1, e.2] at C
      have la : ((ρ (2 * k + 2)).take a).length = a := by rw [List.length_take]; omega
      have NN := N.row hτ hk (L := (ρ (2 * k + 2)).take a) (f := ψ 62) (fun j hj => by rw [la] at hj; rw [og_take _ hj]; exact (N.1 k hk).2 j (by omega)) (fun _ _ => rfl) (rows_512 S)
      rw [uo_id, la] at NN
      refine Jdet M hτ ψ (upd z k (nI a)) (ui i 0 0) C (fun h1 M1 => ?_) NN
      obtain ⟨s, m, M1⟩ := M1
      have D := qX12_cut (l := l) (w := w) M1 hn k hk (ρ (2 * k + 2)).length (by rw [Ph_63]; exact (N.1 k hk).1) hl (nI a) c
      rw [Ph_63] at D
      exact of_mQ Ph_z D
theorem J_alter (J : Jt h) (hn : 90 ≤ n) (v j x : Int32) : Jstep l w mX11_alter mX12_alter h n [.int v, .int j, .int x] := by
  obtain ⟨ρ, β, κ, τ, ψ, z, i, S, hτ, M, N⟩ := J
  by_cases hv : inI v 0 3 = 0
  · refine Jdet M hτ ψ z (ui i 0 0) (qX11_alter_N S (by omega) hτ v (noRow_in.mp hv) j x) (fun h1 M1 => ?_) N.i0
    obtain ⟨s, m, M1⟩ := M1
    exact of_mQ rfl (qX12_alter_N M1 hn v hv j x)
  · obtain ⟨k, hk, rfl, hr⟩ := row_in hv
    have hl := rows_512 S k hk
    have C := qX11_alter (l := l) (w := w) (n := n) S (by omega) hτ (nI k) (2 * k + 2) hr j x
    by_cases c : hasI (ρ (2 * k + 2)) j = 0
    · have e : altV (ρ (2 * k + 2)) j x = -2 ∧ altL (ρ (2 * k + 2)) j x = ρ (2 * k + 2) := by
        unfold altV altL
        rw [if_pos c, if_pos c]; exact ⟨rfl, rfl⟩
      rw [e.1, e.2, ur_id] at C
      refine Jdet M hτ ψ z (ui i 0 0) C (fun h1 M1 => ?_) N.i0
      obtain ⟨s, m, M1⟩ := M1
      exact of_mQ rfl (qX12_alter_R1 M1 hn k hk (ρ (2 * k + 2)).length (by rw [Ph_63]; exact (N.1 k hk).1) hl j x ((has_no (by omega) j).mp c))
    · have c2 : noI (ρ (2 * k + 2)).length j = 0 := Decidable.not_not.mp (fun q => c ((has_no (by omega) j).mpr q))
      by_cases d : inI x 0 255 = 0
      · have e : altV (ρ (2 * k + 2)) j x = -2 ∧ altL (ρ (2 * k + 2)) j x = ρ (2 * k + 2) := by
          unfold altV altL
          rw [if_neg c, if_neg c]
          by_cases h0 : x < 0
          · rw [if_pos h0, if_pos h0]; exact ⟨rfl, rfl⟩
          · have h2 : ¬ x ≤ 255 := fun p => by
              unfold inI at d
              rw [if_neg h0] at d
              by_cases h5 : (255 : Int32) < x
              · exact Int32.not_le.mpr h5 p
              · rw [if_neg h5] at d
                exact absurd d (by decide)
            rw [if_neg h0, if_neg h2, if_neg h0, if_neg h2]; exact ⟨rfl, rfl⟩
        rw [e.1, e.2, ur_id] at C
        refine Jdet M hτ ψ z (ui i 0 0) C (fun h1 M1 => ?_) N.i0
        obtain ⟨s, m, M1⟩ := M1
        exact of_mQ rfl (qX12_alter_R2 M1 hn k hk (ρ (2 * k + 2)).length (by rw [Ph_63]; exact (N.1 k hk).1) hl j x c2 d)
      · have h0 : ¬ x < 0 := fun q => d (if_pos q)
        have h2 : ¬ (255 : Int32) < x := fun q => d (by unfold inI; rw [if_neg h0, if_pos q])
        obtain ⟨b, hb, rfl⟩ := nI_of h0
        have hb5 : b < 256 := by
          rcases Nat.lt_or_ge 255 b with q | q
          · exact absurd ((nI_ltI (a := 255) (b := b) (by omega) hb).mpr q) h2
          · omega
        obtain ⟨a, ha, rfl⟩ := hasI_pos (by omega) c
        have e : altV (ρ (2 * k + 2)) (nI a) (nI b) = oc (og (ρ (2 * k + 2)) a) ∧ altL (ρ (2 * k + 2)) (nI a) (nI b) = (ρ (2 * k + 2)).set a (t8 (nI b)) := by
          have h5 : nI b ≤ 255 := (nI_leI (a := b) (b := 255) hb (by omega)).mpr (by omega)
          unfold altV altL
          rw [if_neg c, if_neg h0, if_pos h5, if_neg c, if_neg h0, if_pos h5, atI_nI _ (by omega) (by omega), rput_nI _ _ (by omega) (by omega)]
          exact ⟨rfl, rfl⟩
        rw [e.1, e.2] at C
        have NN := N.row hτ hk (L := (ρ (2 * k + 2)).set a (t8 (nI b))) (f := updB (ψ 62) (512 * k + a) (t8 (nI b))) (fun j hj => by
          rw [List.length_set] at hj
          rw [og_set _ _ _ ha]
          by_cases q : j = a
          · rw [q, updB_s, if_pos rfl]
          · rw [updB_n (by omega), if_neg q]
            exact (N.1 k hk).2 j hj) (fun j hj => updB_n (by omega)) (rows_512 S)
        rw [List.length_set, upd_same (N.1 k hk).1] at NN
        refine Jdet M hτ _ z (ui i 0 0) C (fun h1 M1 => ?_) NN
        obtain ⟨s, m, M1⟩ := M1
        have D := qX12_alter (l := l) (w := w) M1 hn k hk (ρ (2 * k + 2)).length (by rw [Ph_63]; exact (N.1 k hk).1) hl a ha (nI b) c2 d
        rw [Ph_at rfl, show (fun j => oc (ψ 62 j)) (512 * k + a) = oc (og (ρ (2 * k + 2)) a) from congrArg oc ((N.1 k hk).2 a ha)] at D
        refine of_mQ (Ph_u (g := updB (ψ 62) (512 * k + a) (t8 (nI b))) rfl (fun j => ?_)) D
        rw [ocN hb5]
        have := congrFun (upd_oc (ψ 62) (512 * k + a) (t8 (nI b))) j
        rw [t8_oc]
        exact this
theorem J_take (J : Jt h) (hn : 90 ≤ n) (v : Int32) : Jstep l w mX11_take mX12_take h n [.int v] := by
  obtain ⟨ρ, β, κ, τ, ψ, z, i, S, hτ, M, N⟩ := J
  have hlR : (ρ τ.1).length ≤ 528 := by
    rcases hτ.1 with q | q
    · rw [q.1]; exact S.rowL 12 rfl
    · rw [q.1]; exact S.rowL 14 rfl
  by_cases hv : inI v 0 3 = 0
  · refine Jdet M hτ ψ z (ui i 0 0) (qX11_take_N S (by omega) hτ v (noRow_in.mp hv)) (fun h1 M1 => ?_) N.i0
    obtain ⟨s, m, M1⟩ := M1
    exact of_mQ rfl (qX12_take_N M1 hn v hv)
  · obtain ⟨k, hk, rfl, hr⟩ := row_in hv
    obtain ⟨_, _, er⟩ := row_len S hk
    have hrm := rmN_le k hk
    have C := qX11_take (l := l) (w := w) (n := n) S (by omega) hτ (nI k) (2 * k + 2) hr
    rw [er] at C
    unfold tkV tkL at C
    by_cases c : (ρ τ.1).length ≤ rmN k
    · rw [if_pos c, if_pos c] at C
      have NN := N.row hτ hk (L := ρ τ.1) (f := cpB (ψ 64) 0 (ψ 62) (512 * k) (ρ τ.1).length) (N.2.1.1.cp _ _ rfl) (fun j hj => cpB_out _ _ _ (by omega)) (rows_512 S)
      refine Jdet M hτ _ _ (ui i 0 0) C (fun h1 M1 => ?_) NN
      obtain ⟨s, m, M1⟩ := M1
      have D := qX12_take (l := l) (w := w) M1 hn k hk (ρ τ.1).length N.2.1.2 (by omega) c
      rw [Ph_63, Ph_u (g := cpB (ψ 64) 0 (ψ 62) (512 * k) (ρ τ.1).length) rfl (fun j => by
        rw [Ph_at rfl, Ph_at rfl]
        unfold cpF cpB
        by_cases hj : 512 * k ≤ j ∧ j < 512 * k + (ρ τ.1).length
        · rw [if_pos hj, if_pos hj]
        · rw [if_neg hj, if_neg hj])] at D
      exact of_mQ Ph_z D
    · rw [if_neg c, if_neg c, ur_id] at C
      refine Jdet M hτ ψ z (ui i 0 0) C (fun h1 M1 => ?_) N.i0
      obtain ⟨s, m, M1⟩ := M1
      exact of_mQ rfl (qX12_take_R M1 hn k hk (ρ τ.1).length N.2.1.2 (by omega) c)
end JM2
