theorem wR_one (f : oA) (q : bP) {D : List (BitVec 8)} (hD : D.length = 16) : wR (pt f 0 q) (q.1, p8 D 8 q.2 8) := by
  constructor
  · intro k hk
    rw [pt_at0 _ _ (by omega)]
    exact ob_l q.1 q.2 hk
  · intro j h8 hj
    have hj1 := hj
    simp only [p8_len] at hj1
    simp only
    rw [og_p8 _ _ _ (by omega) (by omega) _ 8 (by omega), if_pos (by omega), pt_at0 _ _ (by omega)]
    have := ob_r q.1 q.2 (k := j - 8) (by omega)
    rw [show 8 + (j - 8) = j by omega] at this
    exact this
theorem oc_is (b : BitVec 8) {m : Nat} (h : m < 256) : oc b = nI m ↔ b.toNat = m := by
  have := b.isLt
  rw [oc_nI, nI_eq (by omega) (by omega)]
def pwQ (h0 : am_H) (ψ : Nat → oA) (z : fA) (i : mI) (m : Nat) (fl : Int32) : am_H → Option Value → Prop := fun h2 q => ∃ ψ2 v, q = some (.int (if fl = 0 then -6 else 0)) ∧ MO h2 ψ2 z (ui i 4 v) ∧ FR [72] ψ ψ2 ∧ (¬ fl = 0 → ψ2 72 = cpB (ψ 72) 8 (ψ 72) 0 m ∧ v = nI m) ∧ FM h0 h2
def pwG1 (y : oA) : Int32 := if oc (y 0) = 166 then (if oc (y 1) = 89 then (if oc (y 2) = 89 then (if oc (y 3) = 166 then (if oc (y 4) = 0 then (if oc (y 5) = 0 then 1 else 0) else 0) else 0) else 0) else 0) else 0
def pwG2 (g : Int32) (N m : Nat) : Int32 := if g = 0 then 0 else if m ≤ N - 16 then 0 else if N - 8 < m then 0 else 1
theorem pwG1_iff (y : oA) : ¬ pwG1 y = 0 ↔ (y 0).toNat = 166 ∧ (y 1).toNat = 89 ∧ (y 2).toNat = 89 ∧ (y 3).toNat = 166 ∧ (y 4).toNat = 0 ∧ (y 5).toNat = 0 := by
  have e : ∀ b : BitVec 8, ∀ m, m < 256 → (oc b = nI m ↔ b.toNat = m) := fun b m h => oc_is b h
  unfold pwG1
  rw [← e (y 0) 166 (by omega), ← e (y 1) 89 (by omega), ← e (y 2) 89 (by omega), ← e (y 3) 166 (by omega), ← e (y 4) 0 (by omega), ← e (y 5) 0 (by omega)]
  show _ ↔ oc (y 0) = 166 ∧ oc (y 1) = 89 ∧ oc (y 2) = 89 ∧ oc (y 3) = 166 ∧ oc (y 4) = 0 ∧ oc (y 5) = 0
  by_cases h0 : oc (y 0) = 166
  · rw [if_pos h0]
    by_cases h1 : oc (y 1) = 89
    · rw [if_pos h1]
      by_cases h2 : oc (y 2) = 89
      · rw [if_pos h2]
        by_cases h3 : oc (y 3) = 166
        · rw [if_pos h3]
          by_cases h4 : oc (y 4) = 0
          · rw [if_pos h4]
            by_cases h5 : oc (y 5) = 0
            · rw [if_pos h5]
              exact ⟨fun _ => ⟨h0, h1, h2, h3, h4, h5⟩, fun _ => by decide⟩
            · rw [if_neg h5]
              exact ⟨fun q => absurd rfl q, fun q => absurd q.2.2.2.2.2 h5⟩
          · rw [if_neg h4]
            exact ⟨fun q => absurd rfl q, fun q => absurd q.2.2.2.2.1 h4⟩
        · rw [if_neg h3]
          exact ⟨fun q => absurd rfl q, fun q => absurd q.2.2.2.1 h3⟩
      · rw [if_neg h2]
        exact ⟨fun q => absurd rfl q, fun q => absurd q.2.2.1 h2⟩
    · rw [if_neg h1]
      exact ⟨fun q => absurd rfl q, fun q => absurd q.2.1 h1⟩
  · rw [if_neg h0]
    exact ⟨fun q => absurd rfl q, fun q => absurd q.1 h0⟩
theorem pwG2_iff (g : Int32) (N m : Nat) : ¬ pwG2 g N m = 0 ↔ ¬ g = 0 ∧ N - 16 < m ∧ m ≤ N - 8 := by
  unfold pwG2
  by_cases h0 : g = 0
  · rw [if_pos h0]
    exact ⟨fun q => absurd rfl q, fun q => absurd h0 q.1⟩
  · rw [if_neg h0]
    by_cases h1 : m ≤ N - 16
    · rw [if_pos h1]
      exact ⟨fun q => absurd rfl q, fun q => absurd h1 (by omega)⟩
    · rw [if_neg h1]
      by_cases h2 : N - 8 < m
      · rw [if_pos h2]
        exact ⟨fun q => absurd rfl q, fun q => absurd h2 (by omega)⟩
      · rw [if_neg h2]
        exact ⟨fun _ => ⟨h0, by omega, by omega⟩, fun _ => by decide⟩
theorem pwG2_01 (g : Int32) (N m : Nat) : pwG2 g N m = 0 ∨ pwG2 g N m = 1 := by
  unfold pwG2
  by_cases h0 : g = 0
  · rw [if_pos h0]; exact Or.inl rfl
  · rw [if_neg h0]
    by_cases h1 : m ≤ N - 16
    · rw [if_pos h1]; exact Or.inl rfl
    · rw [if_neg h1]
      by_cases h2 : N - 8 < m
      · rw [if_pos h2]; exact Or.inl rfl
      · rw [if_neg h2]; exact Or.inr rfl
theorem pw_flag {y : oA} {s : wT} (h : wR y s) {N : Nat} (hl : s.2.length = N) (hN : N ≤ 512) (hN16 : 16 ≤ N) (m : Nat) (hm : m = 256 * (y 6).toNat + (y 7).toNat) : (¬ allI (pwG2 (pwG1 y) N m) (fun j => decide (oc (y (8 + m + j)) = 0)) (N - (8 + m)) = 0 ↔ weN s.1 (tk8 s.2) 8 = 0) ∧ (weN s.1 (tk8 s.2) 8 = 0 → pwM s.1 = m) := by
  have ho : ∀ k, k < 8 → ob (s.1, 0) k = y k := fun k hk => (h.1 k hk).symm
  have b4 := (y 4).isLt
  have b5 := (y 5).isLt
  have b6 := (y 6).isLt
  have b7 := (y 7).isLt
  have b0 := (y 0).isLt
  have b1 := (y 1).isLt
  have b2 := (y 2).isLt
  have b3 := (y 3).isLt
  have lR : (tk8 s.2).length = N - 8 := by rw [tk8_len, hl]
  have hi := num4 (ob (s.1, 0)) 0
  have lo := num4 (ob (s.1, 0)) 4
  rw [ho 0 (by omega), ho (0 + 1) (by omega), ho (0 + 2) (by omega), ho (0 + 3) (by omega)] at hi
  rw [ho 4 (by omega), ho (4 + 1) (by omega), ho (4 + 2) (by omega), ho (4 + 3) (by omega)] at lo
  simp only [Nat.zero_add, Nat.reduceAdd] at hi lo
  have hw := weN_iff s.1 (tk8 s.2) (by rw [lR]; omega) (by rw [lR]; omega) 8 (Nat.le_refl _)
  rw [we0_iff s.1 (by rw [lR]; omega) (by rw [lR]; omega), lR, hi, lo] at hw
  have hR : ∀ j, j < N - 8 → og (tk8 s.2) j = y (8 + j) := fun j hj => by
    rw [tk8_og _ (by rw [hl]; omega) (by rw [hl]; omega), h.2 _ (by omega) (by rw [hl]; omega)]
  have hz : ∀ b : BitVec 8, oc b = 0 ↔ b = 0 := oc_z
  have key : weN s.1 (tk8 s.2) 8 = 0 → (¬ pwG2 (pwG1 y) N m = 0 ∧ ∀ j, j < N - (8 + m) → y (8 + m + j) = 0) := fun q => by
    obtain ⟨⟨q1, q2, q3⟩, q4⟩ := hw.mp q
    have e : (y 0).toNat = 166 ∧ (y 1).toNat = 89 ∧ (y 2).toNat = 89 ∧ (y 3).toNat = 166 ∧ (y 4).toNat = 0 ∧ (y 5).toNat = 0 := by omega
    refine ⟨(pwG2_iff _ _ _).mpr ⟨(pwG1_iff y).mpr e, by omega, by omega⟩, fun j hj => ?_⟩
    have := q4 (m + j - (N - 16)) (by omega) (by omega)
    rw [show N - 8 - 8 + (m + j - (N - 16)) = m + j by omega, hR _ (by omega)] at this
    rw [← this]
    congr 1
    omega
  refine ⟨⟨fun q => ?_, fun q => ?_⟩, fun q => ?_⟩
  · have g1 : pwG2 (pwG1 y) N m = 1 := (pwG2_01 _ _ _).resolve_left (fun e => by rw [e, allI_g0] at q; exact q rfl)
    rw [g1, allI_iff] at q
    have qa : ∀ j, j < N - (8 + m) → decide (oc (y (8 + m + j)) = 0) = true := by
      by_cases c : ∀ j, j < N - (8 + m) → decide (oc (y (8 + m + j)) = 0) = true
      · exact c
      · rw [if_neg c] at q
        exact absurd rfl q
    obtain ⟨p1, p2, p3⟩ := (pwG2_iff _ _ _).mp (show ¬ pwG2 (pwG1 y) N m = 0 by rw [g1]; decide)
    obtain ⟨e0, e1, e2, e3, e4, e5⟩ := (pwG1_iff y).mp p1
    refine hw.mpr ⟨⟨by omega, by omega, by omega⟩, fun j hj hM => ?_⟩
    rw [hR _ (by omega)]
    have := of_decide_eq_true (qa (N - 16 + j - m) (by omega))
    rw [show 8 + m + (N - 16 + j - m) = 8 + (N - 8 - 8 + j) by omega] at this
    exact (hz _).mp this
  · obtain ⟨k1, k2⟩ := key q
    have g1 : pwG2 (pwG1 y) N m = 1 := (pwG2_01 _ _ _).resolve_left k1
    rw [g1, allI_iff, if_pos (fun j hj => decide_eq_true ((hz _).mpr (k2 j hj)))]
    decide
  · obtain ⟨⟨q1, q2, q3⟩, q4⟩ := hw.mp q
    have e := (pwM_eq (a := s.1) (m := nv (ob (s.1, 0)) 4 4) (by rw [lo]; omega) (lo32 s.1)).1
    rw [e, lo]
    omega
set_option maxHeartbeats 1000000 in
set_option maxRecDepth 100000 in
theorem qX12_paddedWrap_d {l : Launch} {w : am_W} {h : am_H} {n : Nat} {ψ : Nat → oA} {z : fA} {i : mI} (S : MO h ψ z i) (hn : 90 ≤ n) (N m : Nat) (hN : N ≤ 512) (hN16 : 16 ≤ N) (hm : m < 65536) (hi3 : i 3 = nI N) (g : Int32) (hg : g = 0 ∨ g = 1) (hgm : g = 1 → 8 + m ≤ N) {Q : am_H → Nat → Option Value → Prop} (kk : ∀ x, RW l w mX12_paddedWrap h n 0 0 377 [(4, .int x), (2, .int (allI g (fun j => decide (oc (ψ 72 (8 + m + j)) = 0)) (N - (8 + m)))), (3, .int (nI m)), (0, .ref 61), (1, .int 1)] [] Q) : ∀ (dd k : Nat), k + dd = N - (8 + m) → RW l w mX12_paddedWrap h n 0 0 342 [(4, .int (nI (8 + m + k))), (2, .int (allI g (fun j => decide (oc (ψ 72 (8 + m + j)) = 0)) k)), (3, .int (nI m)), (0, .ref 61), (1, .int 1)] [] Q := by
  intro dd
  induction dd with
  | zero =>
    intro k hd
    refine R_iload_n (pc := 342) 1 dX12_paddedWrap_342 rfl rfl ?_
    refine R_if_eq (pc := 343) (tgt := 377) dX12_paddedWrap_343 (by decide) (fun c_1 => ?_) (fun c_1 => ?_)
    · skip
      have e_ : allI g (fun j => decide (oc (ψ 72 (8 + m + j)) = 0)) k = allI g (fun j => decide (oc (ψ 72 (8 + m + j)) = 0)) (N - (8 + m)) := by
        have q_ := allI_0 c_1 (N - (8 + m) - k)
        rw [show k + (N - (8 + m) - k) = N - (8 + m) by omega] at q_
        rw [c_1, q_]
      rw [e_]
      exact kk _
    · skip
      have a1 : allI g (fun j => decide (oc (ψ 72 (8 + m + j)) = 0)) k = 1 := (allI_01 hg _ k).resolve_left c_1
      have g1 : g = 1 := hg.resolve_left (fun q_ => by rw [q_, allI_g0] at a1; exact absurd a1 (by decide))
      have hTN := hgm g1
      refine R_iload (pc := 346) 0 dX12_paddedWrap_346 rfl ?_
      refine R_aload_n (pc := 348) 3 dX12_paddedWrap_348 rfl rfl ?_
      refine R_get (pc := 349) dX12_paddedWrap_349 fX12_130 S.obj (by omega) rfl ?_
      refine R_eqi (y := nI N) (hi3) ?_
      refine R_icmp_ge (pc := 352) (tgt := 377) dX12_paddedWrap_352 (by decide) (fun c_2 => ?_) (fun c_2 => absurd (nI_le (a := N) (b := 8 + m + k) (by omega) (by omega)) c_2)
      have e_ : allI g (fun j => decide (oc (ψ 72 (8 + m + j)) = 0)) k = allI g (fun j => decide (oc (ψ 72 (8 + m + j)) = 0)) (N - (8 + m)) := by
        rw [show k = N - (8 + m) by omega]
      rw [e_]
      exact kk _
  | succ dd ih =>
    intro k hd
    refine R_iload_n (pc := 342) 1 dX12_paddedWrap_342 rfl rfl ?_
    refine R_if_eq (pc := 343) (tgt := 377) dX12_paddedWrap_343 (by decide) (fun c_1 => ?_) (fun c_1 => ?_)
    · skip
      have e_ : allI g (fun j => decide (oc (ψ 72 (8 + m + j)) = 0)) k = allI g (fun j => decide (oc (ψ 72 (8 + m + j)) = 0)) (N - (8 + m)) := by
        have q_ := allI_0 c_1 (N - (8 + m) - k)
        rw [show k + (N - (8 + m) - k) = N - (8 + m) by omega] at q_
        rw [c_1, q_]
      rw [e_]
      exact kk _
    · skip
      have a1 : allI g (fun j => decide (oc (ψ 72 (8 + m + j)) = 0)) k = 1 := (allI_01 hg _ k).resolve_left c_1
      have g1 : g = 1 := hg.resolve_left (fun q_ => by rw [q_, allI_g0] at a1; exact absurd a1 (by decide))
      have hTN := hgm g1
      refine R_iload (pc := 346) 0 dX12_paddedWrap_346 rfl ?_
      refine R_aload_n (pc := 348) 3 dX12_paddedWrap_348 rfl rfl ?_
      refine R_get (pc := 349) dX12_paddedWrap_349 fX12_130 S.obj (by omega) rfl ?_
      refine R_eqi (y := nI N) (hi3) ?_
      refine R_icmp_ge (pc := 352) (tgt := 377) dX12_paddedWrap_352 (by decide) (fun c_2 => absurd c_2 (nI_ge (a := 8 + m + k) (b := N) (by omega) (by omega))) (fun c_2 => ?_)
      refine R_aload_n (pc := 355) 3 dX12_paddedWrap_355 rfl rfl ?_
      refine R_get (pc := 356) dX12_paddedWrap_356 fX12_44 S.obj (by omega) rfl ?_
      refine R_iload (pc := 359) 0 dX12_paddedWrap_359 rfl ?_
      refine R_iald' (pc := 361) (j := 8 + m + k) dX12_paddedWrap_361 (S.arr (p := 72) rfl) (by omega) ⟨rfl, by show 8 + m + k < 700; omega, by decide⟩ ?_
      refine R_eqi (y := oc (ψ 72 (8 + m + k))) rfl ?_
      refine R_if_ne (pc := 362) (tgt := 369) dX12_paddedWrap_362 (by decide) (fun c_3 => ?_) (fun c_3 => ?_)
      · skip
        refine R_iconst (pc := 369) (v := 0) dX12_paddedWrap_369 (by decide) ?_
        refine R_istore_n (pc := 370) (lv' := [(2, .int 0), (4, .int (nI (8 + m + k))), (3, .int (nI m)), (0, .ref 61), (1, .int 1)]) dX12_paddedWrap_370 rfl (by decide) rfl ?_
        refine R_iinc (pc := 371) (j := 1) (v := nI (8 + m + (k + 1))) (lv' := [(4, .int (nI (8 + m + (k + 1)))), (2, .int 0), (3, .int (nI m)), (0, .ref 61), (1, .int 1)]) dX12_paddedWrap_371 rfl (nI_add (8 + m + k) 1) (by decide) rfl ?_
        refine R_goto (pc := 374) (tgt := 342) dX12_paddedWrap_374 (by decide) ?_
        refine R_sub [0, 1, 2, 3, 4] rfl ?_
        have e_ : allI g (fun j => decide (oc (ψ 72 (8 + m + j)) = 0)) (k + 1) = 0 := by rw [allI_up a1]; exact if_neg (fun q_ => c_3 (of_decide_eq_true q_))
        have r_ := ih (k + 1) (by omega)
        rw [e_] at r_
        exact r_
      · skip
        refine R_iconst (pc := 365) (v := 1) dX12_paddedWrap_365 (by decide) ?_
        refine R_goto (pc := 366) (tgt := 370) dX12_paddedWrap_366 (by decide) ?_
        refine R_istore_n (pc := 370) (lv' := [(2, .int 1), (4, .int (nI (8 + m + k))), (3, .int (nI m)), (0, .ref 61), (1, .int 1)]) dX12_paddedWrap_370 rfl (by decide) rfl ?_
        refine R_iinc (pc := 371) (j := 1) (v := nI (8 + m + (k + 1))) (lv' := [(4, .int (nI (8 + m + (k + 1)))), (2, .int 1), (3, .int (nI m)), (0, .ref 61), (1, .int 1)]) dX12_paddedWrap_371 rfl (nI_add (8 + m + k) 1) (by decide) rfl ?_
        refine R_goto (pc := 374) (tgt := 342) dX12_paddedWrap_374 (by decide) ?_
        refine R_sub [0, 1, 2, 3, 4] rfl ?_
        have e_ : allI g (fun j => decide (oc (ψ 72 (8 + m + j)) = 0)) (k + 1) = 1 := by rw [allI_up a1]; exact if_pos (decide_eq_true c_3)
        have r_ := ih (k + 1) (by omega)
        rw [e_] at r_
        exact r_
set_option maxHeartbeats 1000000 in
set_option maxRecDepth 100000 in
theorem qX12_paddedWrap_c {l : Launch} {w : am_W} {h : am_H} {n : Nat} {ψ : Nat → oA} {z : fA} {i : mI} {h0 : am_H} (hF : FM h0 h) (S : MO h ψ z i) (hn : 90 ≤ n) (N m : Nat) (hN : N ≤ 512) (hN16 : 16 ≤ N) (hm : m < 65536) (hi3 : i 3 = nI N) (g : Int32) (hg : g = 0 ∨ g = 1) (hgm : g = 1 → 8 + m ≤ N) {Q : am_H → Nat → Option Value → Prop} (kQ : ∀ h' q, pwQ h0 ψ z i m (allI g (fun j => decide (oc (ψ 72 (8 + m + j)) = 0)) (N - (8 + m))) h' q → Q h' n q) : RW l w mX12_paddedWrap h n 0 0 335 [(3, .int (nI m)), (0, .ref 61), (1, .int 1)] [.int g] Q := by
  refine R_istore_n (pc := 335) (lv' := [(2, .int g), (3, .int (nI m)), (0, .ref 61), (1, .int 1)]) dX12_paddedWrap_335 rfl (by decide) rfl ?_
  refine R_bipush (pc := 336) (v := 8) dX12_paddedWrap_336 (by decide) ?_
  refine R_iload_n (pc := 338) 1 dX12_paddedWrap_338 rfl rfl ?_
  refine R_iadd (pc := 339) dX12_paddedWrap_339 ?_
  refine R_eqi (y := nI (8 + m)) (nI_add 8 m) ?_
  refine R_istore (pc := 340) (lv' := [(4, .int (nI (8 + m))), (2, .int g), (3, .int (nI m)), (0, .ref 61), (1, .int 1)]) dX12_paddedWrap_340 (by decide) rfl ?_
  refine R_sub [0, 1, 2, 3, 4] rfl ?_
  refine qX12_paddedWrap_d S hn N m hN hN16 hm hi3 g hg hgm (fun x => ?_) (N - (8 + m)) 0 (by omega)
  obtain ⟨fl, efl⟩ : ∃ fl, fl = allI g (fun j => decide (oc (ψ 72 (8 + m + j)) = 0)) (N - (8 + m)) := ⟨_, rfl⟩
  rw [← efl]
  refine R_aload_n (pc := 377) 3 dX12_paddedWrap_377 rfl rfl ?_
  refine R_iload_n (pc := 378) 1 dX12_paddedWrap_378 rfl rfl ?_
  refine R_if_eq (pc := 379) (tgt := 386) dX12_paddedWrap_379 (by decide) (fun c_1 => ?_) (fun c_1 => ?_)
  · skip
    refine R_iconst (pc := 386) (v := 0) dX12_paddedWrap_386 (by decide) ?_
    refine R_put' (pc := 387) (fs' := [.int (i 0), .ref 62, .ref 63, .int (i 1), .ref 64, .int (i 2), .ref 65, .ref 66, .ref 67, .ref 68, .ref 69, .ref 70, .ref 71, .int (i 3), .ref 72, .int 0, .ref 73, .int (i 5), .ref 74, .int (i 6), .ref 75, .ref 76, .ref 77, .ref 78, .ref 79, .ref 80, .ref 81, .ref 82, .ref 83, .ref 84, .int (i 7), .ref 85, .ref 86, .ref 87, .ref 88, .ref 89, .ref 90]) dX12_paddedWrap_387 fX12_153 tX12_15 rfl rfl S.obj (by omega) (Nat.le_of_ble_eq_true rfl) rfl (fun h_2 f_3 g_4 => ?_)
    have S_5 : MO h_2 ψ z (ui i 4 0) := MO.setI (j := (ui i 4 0)) S f_3 g_4
    have F_6 := fmI g_4
    refine R_aload_n (pc := 390) 3 dX12_paddedWrap_390 rfl rfl ?_
    refine R_get (pc := 391) dX12_paddedWrap_391 fX12_44 S_5.obj (by omega) rfl ?_
    refine R_bipush (pc := 394) (v := 8) dX12_paddedWrap_394 (by decide) ?_
    refine R_aload_n (pc := 396) 3 dX12_paddedWrap_396 rfl rfl ?_
    refine R_get (pc := 397) dX12_paddedWrap_397 fX12_44 S_5.obj (by omega) rfl ?_
    refine R_iconst (pc := 400) (v := 0) dX12_paddedWrap_400 (by decide) ?_
    refine R_aload_n (pc := 401) 3 dX12_paddedWrap_401 rfl rfl ?_
    refine R_get (pc := 402) dX12_paddedWrap_402 fX12_153 S_5.obj (by omega) rfl ?_
    refine R_eqi (y := 0) rfl ?_
    refine R_callSh (pc := 405) (μ' := mX12_copy) (As := [.ref 72, .int (nI 8), .ref 72, .int (nI 0), .int (nI 0)]) (st := []) dX12_paddedWrap_405 zX12_copy lX12_133 ⟨by decide, by decide⟩ rfl rfl ⟨by decide, by decide⟩ rfl (Nat.le_of_ble_eq_true rfl) (oX12_copy1 S_5 hn rfl 8 0 0 (by show 8 + 0 ≤ 700; omega) (by omega)) (fun h_7 r_ q_8 => ?_)
    obtain ⟨rfl, S_9, F_10⟩ := q_8
    have S_11 : MO h_7 (uo ψ 72 (cpB (ψ 72) 8 (ψ 72) 0 0)) z (ui i 4 0) := S_9
    refine R_iload_n (pc := 408) 1 dX12_paddedWrap_408 rfl rfl ?_
    refine R_if_eq (pc := 409) (tgt := 416) dX12_paddedWrap_409 (by decide) (fun c_12 => ?_) (fun c_12 => absurd (c_1) c_12)
    refine R_bipush (pc := 416) (v := (-6)) dX12_paddedWrap_416 (by decide) ?_
    exact R_ireturn (pc := 418) dX12_paddedWrap_418 rfl (by decide) (by decide) (kQ _ _ ⟨_, _, by rw [← efl, if_pos c_1], S_11, ((FR.rf [72] _).up (by decide)), fun q_ => absurd (efl.symm.trans c_1) q_, (hF.tr (F_6.tr F_10))⟩)
  · skip
    have g1 : g = 1 := hg.resolve_left (fun q_ => by rw [q_, allI_g0] at efl; exact c_1 efl)
    have hTN := hgm g1
    refine R_iload_n (pc := 382) 2 dX12_paddedWrap_382 rfl rfl ?_
    refine R_goto (pc := 383) (tgt := 387) dX12_paddedWrap_383 (by decide) ?_
    refine R_put' (pc := 387) (fs' := [.int (i 0), .ref 62, .ref 63, .int (i 1), .ref 64, .int (i 2), .ref 65, .ref 66, .ref 67, .ref 68, .ref 69, .ref 70, .ref 71, .int (i 3), .ref 72, .int (nI m), .ref 73, .int (i 5), .ref 74, .int (i 6), .ref 75, .ref 76, .ref 77, .ref 78, .ref 79, .ref 80, .ref 81, .ref 82, .ref 83, .ref 84, .int (i 7), .ref 85, .ref 86, .ref 87, .ref 88, .ref 89, .ref 90]) dX12_paddedWrap_387 fX12_153 tX12_15 rfl rfl S.obj (by omega) (Nat.le_of_ble_eq_true rfl) rfl (fun h_13 f_14 g_15 => ?_)
    have S_16 : MO h_13 ψ z (ui i 4 (nI m)) := MO.setI (j := (ui i 4 (nI m))) S f_14 g_15
    have F_17 := fmI g_15
    refine R_aload_n (pc := 390) 3 dX12_paddedWrap_390 rfl rfl ?_
    refine R_get (pc := 391) dX12_paddedWrap_391 fX12_44 S_16.obj (by omega) rfl ?_
    refine R_bipush (pc := 394) (v := 8) dX12_paddedWrap_394 (by decide) ?_
    refine R_aload_n (pc := 396) 3 dX12_paddedWrap_396 rfl rfl ?_
    refine R_get (pc := 397) dX12_paddedWrap_397 fX12_44 S_16.obj (by omega) rfl ?_
    refine R_iconst (pc := 400) (v := 0) dX12_paddedWrap_400 (by decide) ?_
    refine R_aload_n (pc := 401) 3 dX12_paddedWrap_401 rfl rfl ?_
    refine R_get (pc := 402) dX12_paddedWrap_402 fX12_153 S_16.obj (by omega) rfl ?_
    refine R_eqi (y := nI m) rfl ?_
    refine R_callSh (pc := 405) (μ' := mX12_copy) (As := [.ref 72, .int (nI 8), .ref 72, .int (nI 0), .int (nI m)]) (st := []) dX12_paddedWrap_405 zX12_copy lX12_133 ⟨by decide, by decide⟩ rfl rfl ⟨by decide, by decide⟩ rfl (Nat.le_of_ble_eq_true rfl) (oX12_copy1 S_16 hn rfl 8 0 m (by show 8 + m ≤ 700; omega) (by omega)) (fun h_18 r_ q_19 => ?_)
    obtain ⟨rfl, S_20, F_21⟩ := q_19
    have S_22 : MO h_18 (uo ψ 72 (cpB (ψ 72) 8 (ψ 72) 0 m)) z (ui i 4 (nI m)) := S_20
    refine R_iload_n (pc := 408) 1 dX12_paddedWrap_408 rfl rfl ?_
    refine R_if_eq (pc := 409) (tgt := 416) dX12_paddedWrap_409 (by decide) (fun c_23 => absurd c_23 (c_1)) (fun c_23 => ?_)
    refine R_iconst (pc := 412) (v := 0) dX12_paddedWrap_412 (by decide) ?_
    refine R_goto (pc := 413) (tgt := 418) dX12_paddedWrap_413 (by decide) ?_
    exact R_ireturn (pc := 418) dX12_paddedWrap_418 rfl (by decide) (by decide) (kQ _ _ ⟨_, _, by rw [← efl, if_neg c_1], S_22, ((FR.rf [72] _).up (by decide)), fun _ => ⟨rfl, rfl⟩, (hF.tr (F_17.tr F_21))⟩)
set_option maxHeartbeats 1000000 in
set_option maxRecDepth 100000 in
theorem qX12_paddedWrap_b {l : Launch} {w : am_W} {h : am_H} {n : Nat} {ψ : Nat → oA} {z : fA} {i : mI} {h0 : am_H} (hF : FM h0 h) (S : MO h ψ z i) (hn : 90 ≤ n) (N a6 a7 : Nat) (hN : N ≤ 512) (hN16 : 16 ≤ N) (h6 : oc (ψ 72 6) = nI a6) (h7 : oc (ψ 72 7) = nI a7) (b6 : a6 < 256) (b7 : a7 < 256) (hi3 : i 3 = nI N) (g : Int32) {Q : am_H → Nat → Option Value → Prop} (kQ : ∀ h' q, pwQ h0 ψ z i (256 * a6 + a7) (allI (pwG2 g N (256 * a6 + a7)) (fun j => decide (oc (ψ 72 (8 + (256 * a6 + a7) + j)) = 0)) (N - (8 + (256 * a6 + a7)))) h' q → Q h' n q) : RW l w mX12_paddedWrap h n 0 0 283 [(0, .ref 61), (1, .int 1)] [.int g] Q := by
  refine R_istore_n (pc := 283) (lv' := [(2, .int g), (0, .ref 61), (1, .int 1)]) dX12_paddedWrap_283 rfl (by decide) rfl ?_
  refine R_sipush (pc := 284) (v := 256) dX12_paddedWrap_284 (by decide) ?_
  refine R_aload_n (pc := 287) 1 dX12_paddedWrap_287 rfl rfl ?_
  refine R_get (pc := 288) dX12_paddedWrap_288 fX12_44 S.obj (by omega) rfl ?_
  refine R_bipush (pc := 291) (v := 6) dX12_paddedWrap_291 (by decide) ?_
  refine R_iald' (pc := 293) (j := 6) dX12_paddedWrap_293 (S.arr (p := 72) rfl) (by omega) ⟨rfl, by show 6 < 700; omega, by decide⟩ ?_
  refine R_eqi (y := oc (ψ 72 6)) rfl ?_
  refine R_eqi (y := nI a6) (h6) ?_
  refine R_imul (pc := 294) dX12_paddedWrap_294 ?_
  refine R_eqi (y := nI (256 * a6)) (nI_mul 256 a6) ?_
  refine R_aload_n (pc := 295) 1 dX12_paddedWrap_295 rfl rfl ?_
  refine R_get (pc := 296) dX12_paddedWrap_296 fX12_44 S.obj (by omega) rfl ?_
  refine R_bipush (pc := 299) (v := 7) dX12_paddedWrap_299 (by decide) ?_
  refine R_iald' (pc := 301) (j := 7) dX12_paddedWrap_301 (S.arr (p := 72) rfl) (by omega) ⟨rfl, by show 7 < 700; omega, by decide⟩ ?_
  refine R_eqi (y := oc (ψ 72 7)) rfl ?_
  refine R_eqi (y := nI a7) (h7) ?_
  refine R_iadd (pc := 302) dX12_paddedWrap_302 ?_
  refine R_eqi (y := nI (256 * a6 + a7)) (nI_add (256 * a6) a7) ?_
  refine R_istore_n (pc := 303) (lv' := [(3, .int (nI (256 * a6 + a7))), (2, .int g), (0, .ref 61), (1, .int 1)]) dX12_paddedWrap_303 rfl (by decide) rfl ?_
  refine R_iload_n (pc := 304) 1 dX12_paddedWrap_304 rfl rfl ?_
  refine R_if_eq (pc := 305) (tgt := 334) dX12_paddedWrap_305 (by decide) (fun c_1 => ?_) (fun c_1 => ?_)
  · skip
    refine R_iconst (pc := 334) (v := 0) dX12_paddedWrap_334 (by decide) ?_
    refine R_sub [0, 2, 3] rfl ?_
    have e_ : pwG2 g N (256 * a6 + a7) = 0 := by unfold pwG2; rw [if_pos c_1]
    rw [e_] at kQ
    exact qX12_paddedWrap_c hF S hn N (256 * a6 + a7) hN hN16 (by omega) hi3 0 (Or.inl rfl) (fun q_ => absurd q_ (by decide)) kQ
  · skip
    refine R_iload_n (pc := 308) 0 dX12_paddedWrap_308 rfl rfl ?_
    refine R_aload_n (pc := 309) 2 dX12_paddedWrap_309 rfl rfl ?_
    refine R_get (pc := 310) dX12_paddedWrap_310 fX12_130 S.obj (by omega) rfl ?_
    refine R_eqi (y := nI N) (hi3) ?_
    refine R_bipush (pc := 313) (v := 16) dX12_paddedWrap_313 (by decide) ?_
    refine R_isub (pc := 315) dX12_paddedWrap_315 ?_
    refine R_eqi (y := nI (N - 16)) (nI_sb (a := N) (b := 16) (by omega)) ?_
    refine R_icmp_le (pc := 316) (tgt := 334) dX12_paddedWrap_316 (by decide) (fun c_2 => ?_) (fun c_2 => ?_)
    · skip
      have nc_2 : 256 * a6 + a7 ≤ N - 16 := (nI_leI (a := 256 * a6 + a7) (b := N - 16) (by omega) (by omega)).mp c_2
      refine R_iconst (pc := 334) (v := 0) dX12_paddedWrap_334 (by decide) ?_
      refine R_sub [0, 2, 3] rfl ?_
      have e_ : pwG2 g N (256 * a6 + a7) = 0 := by unfold pwG2; rw [if_neg c_1, if_pos nc_2]
      rw [e_] at kQ
      exact qX12_paddedWrap_c hF S hn N (256 * a6 + a7) hN hN16 (by omega) hi3 0 (Or.inl rfl) (fun q_ => absurd q_ (by decide)) kQ
    · skip
      have nc_2 : ¬ (256 * a6 + a7 ≤ N - 16) := fun q_ => c_2 ((nI_leI (a := 256 * a6 + a7) (b := N - 16) (by omega) (by omega)).mpr q_)
      refine R_iload_n (pc := 319) 0 dX12_paddedWrap_319 rfl rfl ?_
      refine R_aload_n (pc := 320) 2 dX12_paddedWrap_320 rfl rfl ?_
      refine R_get (pc := 321) dX12_paddedWrap_321 fX12_130 S.obj (by omega) rfl ?_
      refine R_eqi (y := nI N) (hi3) ?_
      refine R_bipush (pc := 324) (v := 8) dX12_paddedWrap_324 (by decide) ?_
      refine R_isub (pc := 326) dX12_paddedWrap_326 ?_
      refine R_eqi (y := nI (N - 8)) (nI_sb (a := N) (b := 8) (by omega)) ?_
      refine R_icmp_gt (pc := 327) (tgt := 334) dX12_paddedWrap_327 (by decide) (fun c_3 => ?_) (fun c_3 => ?_)
      · skip
        have nc_3 : N - 8 < 256 * a6 + a7 := (nI_ltI (a := N - 8) (b := 256 * a6 + a7) (by omega) (by omega)).mp c_3
        refine R_iconst (pc := 334) (v := 0) dX12_paddedWrap_334 (by decide) ?_
        refine R_sub [0, 2, 3] rfl ?_
        have e_ : pwG2 g N (256 * a6 + a7) = 0 := by unfold pwG2; rw [if_neg c_1, if_neg nc_2, if_pos nc_3]
        rw [e_] at kQ
        exact qX12_paddedWrap_c hF S hn N (256 * a6 + a7) hN hN16 (by omega) hi3 0 (Or.inl rfl) (fun q_ => absurd q_ (by decide)) kQ
      · skip
        have nc_3 : ¬ (N - 8 < 256 * a6 + a7) := fun q_ => c_3 ((nI_ltI (a := N - 8) (b := 256 * a6 + a7) (by omega) (by omega)).mpr q_)
        refine R_iconst (pc := 330) (v := 1) dX12_paddedWrap_330 (by decide) ?_
        refine R_goto (pc := 331) (tgt := 335) dX12_paddedWrap_331 (by decide) ?_
        refine R_sub [0, 2, 3] rfl ?_
        have e_ : pwG2 g N (256 * a6 + a7) = 1 := by unfold pwG2; rw [if_neg c_1, if_neg nc_2, if_neg nc_3]
        rw [e_] at kQ
        exact qX12_paddedWrap_c hF S hn N (256 * a6 + a7) hN hN16 (by omega) hi3 1 (Or.inr rfl) (fun _ => by omega) kQ
set_option maxHeartbeats 1000000 in
set_option maxRecDepth 100000 in
theorem qX12_paddedWrap_a {l : Launch} {w : am_W} {h : am_H} {n : Nat} {ψ : Nat → oA} {z : fA} {i : mI} {h0 : am_H} (hF : FM h0 h) (S : MO h ψ z i) (hn : 90 ≤ n) (N a6 a7 : Nat) (hN : N ≤ 512) (hN16 : 16 ≤ N) (h6 : oc (ψ 72 6) = nI a6) (h7 : oc (ψ 72 7) = nI a7) (b6 : a6 < 256) (b7 : a7 < 256) (hi3 : i 3 = nI N) {Q : am_H → Nat → Option Value → Prop} (kQ : ∀ h' q, pwQ h0 ψ z i (256 * a6 + a7) (allI (pwG2 (pwG1 (ψ 72)) N (256 * a6 + a7)) (fun j => decide (oc (ψ 72 (8 + (256 * a6 + a7) + j)) = 0)) (N - (8 + (256 * a6 + a7)))) h' q → Q h' n q) : RW l w mX12_paddedWrap h n 0 0 214 [(0, .ref 61), (1, .int 1)] [] Q := by
  refine R_aload_n (pc := 214) 0 dX12_paddedWrap_214 rfl rfl ?_
  refine R_get (pc := 215) dX12_paddedWrap_215 fX12_44 S.obj (by omega) rfl ?_
  refine R_iconst (pc := 218) (v := 0) dX12_paddedWrap_218 (by decide) ?_
  refine R_iald' (pc := 219) (j := 0) dX12_paddedWrap_219 (S.arr (p := 72) rfl) (by omega) ⟨rfl, by show 0 < 700; omega, by decide⟩ ?_
  refine R_eqi (y := oc (ψ 72 0)) rfl ?_
  refine R_sipush (pc := 220) (v := 166) dX12_paddedWrap_220 (by decide) ?_
  refine R_icmp_ne (pc := 223) (tgt := 282) dX12_paddedWrap_223 (by decide) (fun c_1 => ?_) (fun c_1 => ?_)
  · skip
    refine R_iconst (pc := 282) (v := 0) dX12_paddedWrap_282 (by decide) ?_
    have e_ : pwG1 (ψ 72) = 0 := by unfold pwG1; rw [if_neg c_1]
    rw [e_] at kQ
    exact qX12_paddedWrap_b hF S hn N a6 a7 hN hN16 h6 h7 b6 b7 hi3 0 kQ
  · skip
    refine R_aload_n (pc := 226) 0 dX12_paddedWrap_226 rfl rfl ?_
    refine R_get (pc := 227) dX12_paddedWrap_227 fX12_44 S.obj (by omega) rfl ?_
    refine R_iconst (pc := 230) (v := 1) dX12_paddedWrap_230 (by decide) ?_
    refine R_iald' (pc := 231) (j := 1) dX12_paddedWrap_231 (S.arr (p := 72) rfl) (by omega) ⟨rfl, by show 1 < 700; omega, by decide⟩ ?_
    refine R_eqi (y := oc (ψ 72 1)) rfl ?_
    refine R_bipush (pc := 232) (v := 89) dX12_paddedWrap_232 (by decide) ?_
    refine R_icmp_ne (pc := 234) (tgt := 282) dX12_paddedWrap_234 (by decide) (fun c_2 => ?_) (fun c_2 => ?_)
    · skip
      refine R_iconst (pc := 282) (v := 0) dX12_paddedWrap_282 (by decide) ?_
      have e_ : pwG1 (ψ 72) = 0 := by unfold pwG1; rw [if_pos c_1, if_neg c_2]
      rw [e_] at kQ
      exact qX12_paddedWrap_b hF S hn N a6 a7 hN hN16 h6 h7 b6 b7 hi3 0 kQ
    · skip
      refine R_aload_n (pc := 237) 0 dX12_paddedWrap_237 rfl rfl ?_
      refine R_get (pc := 238) dX12_paddedWrap_238 fX12_44 S.obj (by omega) rfl ?_
      refine R_iconst (pc := 241) (v := 2) dX12_paddedWrap_241 (by decide) ?_
      refine R_iald' (pc := 242) (j := 2) dX12_paddedWrap_242 (S.arr (p := 72) rfl) (by omega) ⟨rfl, by show 2 < 700; omega, by decide⟩ ?_
      refine R_eqi (y := oc (ψ 72 2)) rfl ?_
      refine R_bipush (pc := 243) (v := 89) dX12_paddedWrap_243 (by decide) ?_
      refine R_icmp_ne (pc := 245) (tgt := 282) dX12_paddedWrap_245 (by decide) (fun c_3 => ?_) (fun c_3 => ?_)
      · skip
        refine R_iconst (pc := 282) (v := 0) dX12_paddedWrap_282 (by decide) ?_
        have e_ : pwG1 (ψ 72) = 0 := by unfold pwG1; rw [if_pos c_1, if_pos c_2, if_neg c_3]
        rw [e_] at kQ
        exact qX12_paddedWrap_b hF S hn N a6 a7 hN hN16 h6 h7 b6 b7 hi3 0 kQ
      · skip
        refine R_aload_n (pc := 248) 0 dX12_paddedWrap_248 rfl rfl ?_
        refine R_get (pc := 249) dX12_paddedWrap_249 fX12_44 S.obj (by omega) rfl ?_
        refine R_iconst (pc := 252) (v := 3) dX12_paddedWrap_252 (by decide) ?_
        refine R_iald' (pc := 253) (j := 3) dX12_paddedWrap_253 (S.arr (p := 72) rfl) (by omega) ⟨rfl, by show 3 < 700; omega, by decide⟩ ?_
        refine R_eqi (y := oc (ψ 72 3)) rfl ?_
        refine R_sipush (pc := 254) (v := 166) dX12_paddedWrap_254 (by decide) ?_
        refine R_icmp_ne (pc := 257) (tgt := 282) dX12_paddedWrap_257 (by decide) (fun c_4 => ?_) (fun c_4 => ?_)
        · skip
          refine R_iconst (pc := 282) (v := 0) dX12_paddedWrap_282 (by decide) ?_
          have e_ : pwG1 (ψ 72) = 0 := by unfold pwG1; rw [if_pos c_1, if_pos c_2, if_pos c_3, if_neg c_4]
          rw [e_] at kQ
          exact qX12_paddedWrap_b hF S hn N a6 a7 hN hN16 h6 h7 b6 b7 hi3 0 kQ
        · skip
          refine R_aload_n (pc := 260) 0 dX12_paddedWrap_260 rfl rfl ?_
          refine R_get (pc := 261) dX12_paddedWrap_261 fX12_44 S.obj (by omega) rfl ?_
          refine R_iconst (pc := 264) (v := 4) dX12_paddedWrap_264 (by decide) ?_
          refine R_iald' (pc := 265) (j := 4) dX12_paddedWrap_265 (S.arr (p := 72) rfl) (by omega) ⟨rfl, by show 4 < 700; omega, by decide⟩ ?_
          refine R_eqi (y := oc (ψ 72 4)) rfl ?_
          refine R_if_ne (pc := 266) (tgt := 282) dX12_paddedWrap_266 (by decide) (fun c_5 => ?_) (fun c_5 => ?_)
          · skip
            refine R_iconst (pc := 282) (v := 0) dX12_paddedWrap_282 (by decide) ?_
            have e_ : pwG1 (ψ 72) = 0 := by unfold pwG1; rw [if_pos c_1, if_pos c_2, if_pos c_3, if_pos c_4, if_neg c_5]
            rw [e_] at kQ
            exact qX12_paddedWrap_b hF S hn N a6 a7 hN hN16 h6 h7 b6 b7 hi3 0 kQ
          · skip
            refine R_aload_n (pc := 269) 0 dX12_paddedWrap_269 rfl rfl ?_
            refine R_get (pc := 270) dX12_paddedWrap_270 fX12_44 S.obj (by omega) rfl ?_
            refine R_iconst (pc := 273) (v := 5) dX12_paddedWrap_273 (by decide) ?_
            refine R_iald' (pc := 274) (j := 5) dX12_paddedWrap_274 (S.arr (p := 72) rfl) (by omega) ⟨rfl, by show 5 < 700; omega, by decide⟩ ?_
            refine R_eqi (y := oc (ψ 72 5)) rfl ?_
            refine R_if_ne (pc := 275) (tgt := 282) dX12_paddedWrap_275 (by decide) (fun c_6 => ?_) (fun c_6 => ?_)
            · skip
              refine R_iconst (pc := 282) (v := 0) dX12_paddedWrap_282 (by decide) ?_
              have e_ : pwG1 (ψ 72) = 0 := by unfold pwG1; rw [if_pos c_1, if_pos c_2, if_pos c_3, if_pos c_4, if_pos c_5, if_neg c_6]
              rw [e_] at kQ
              exact qX12_paddedWrap_b hF S hn N a6 a7 hN hN16 h6 h7 b6 b7 hi3 0 kQ
            · skip
              refine R_iconst (pc := 278) (v := 1) dX12_paddedWrap_278 (by decide) ?_
              refine R_goto (pc := 279) (tgt := 283) dX12_paddedWrap_279 (by decide) ?_
              have e_ : pwG1 (ψ 72) = 1 := by unfold pwG1; rw [if_pos c_1, if_pos c_2, if_pos c_3, if_pos c_4, if_pos c_5, if_pos c_6]
              rw [e_] at kQ
              exact qX12_paddedWrap_b hF S hn N a6 a7 hN hN16 h6 h7 b6 b7 hi3 1 kQ
set_option maxHeartbeats 1000000 in
set_option maxRecDepth 100000 in
theorem oX12_paddedWrap_o {l : Launch} {w : am_W} {h : am_H} {n : Nat} {ψ : Nat → oA} {z : fA} {i : mI} (S : MO h ψ z i) (hn : 90 ≤ n) (D : List (BitVec 8)) (b : Nat) (hb : D.length = 8 * b) (hb2 : 2 ≤ b) (hD : D.length ≤ 512) (hi3 : i 3 = nI D.length) {F G : bP → bP} (K0 : Kh ψ 0 F G) (hs : sg (ψ 71) 0 D) : RH l w mX12_paddedWrap h n [.ref 61, .int 1] (fun h2 q => ∃ ψ2 v, q = some (.int (if pwC G D = 0 then 0 else -6)) ∧ MO h2 ψ2 z (ui i 4 v) ∧ FR [72, 76] ψ ψ2 ∧ (pwC G D = 0 → sg (ψ2 72) 0 (pwR G D) ∧ v = nI (pwR G D).length) ∧ FM h h2) := by
  refine RC.of [(0, .ref 61), (1, .int 1)] (by decide +kernel) rfl (Nat.le_of_ble_eq_true rfl) ?_
  refine R_iload_n (pc := 0) 1 dX12_paddedWrap_0 rfl rfl ?_
  refine R_if_ne (pc := 1) (tgt := 162) dX12_paddedWrap_1 (by decide) (fun c_1 => ?_) (fun c_1 => absurd c_1 (by decide))
  refine R_aload_n (pc := 162) 0 dX12_paddedWrap_162 rfl rfl ?_
  refine R_get (pc := 163) dX12_paddedWrap_163 fX12_41 S.obj (by omega) rfl ?_
  refine R_iconst (pc := 166) (v := 0) dX12_paddedWrap_166 (by decide) ?_
  refine R_aload_n (pc := 167) 0 dX12_paddedWrap_167 rfl rfl ?_
  refine R_get (pc := 168) dX12_paddedWrap_168 fX12_44 S.obj (by omega) rfl ?_
  refine R_iconst (pc := 171) (v := 0) dX12_paddedWrap_171 (by decide) ?_
  refine R_aload_n (pc := 172) 0 dX12_paddedWrap_172 rfl rfl ?_
  refine R_get (pc := 173) dX12_paddedWrap_173 fX12_130 S.obj (by omega) rfl ?_
  refine R_eqi (y := nI D.length) (hi3) ?_
  refine R_callSh (pc := 176) (μ' := mX12_copy) (As := [.ref 71, .int (nI 0), .ref 72, .int (nI 0), .int (nI D.length)]) (st := []) dX12_paddedWrap_176 zX12_copy lX12_133 ⟨by decide, by decide⟩ rfl rfl ⟨by decide, by decide⟩ rfl (Nat.le_of_ble_eq_true rfl) (oX12_copy S hn (p := 71) (q := 72) rfl rfl 0 0 D.length (by show 0 + D.length ≤ 700; omega) (by show 0 + D.length ≤ 700; omega) (by decide)) (fun h_2 r_ q_3 => ?_)
  obtain ⟨rfl, S_4, F_5⟩ := q_3
  have S_6 : MO h_2 (uo ψ 72 (cpB (ψ 71) 0 (ψ 72) 0 D.length)) z i := S_4
  have hy : wR (cpB (ψ 71) 0 (ψ 72) 0 D.length) (e8 D 0, D) := by
    have q_ := hs.cp (ψ 72) 0 rfl
    constructor
    · intro k_ hk_; have := q_ k_ (by omega); rw [Nat.zero_add] at this; rw [this, ob_e8 _ _ hk_, Nat.zero_add]
    · intro j_ _ hj_; have := q_ j_ hj_; rw [Nat.zero_add] at this; exact this
  refine R_aload_n (pc := 179) 0 dX12_paddedWrap_179 rfl rfl ?_
  refine R_get (pc := 180) dX12_paddedWrap_180 fX12_130 S_6.obj (by omega) rfl ?_
  refine R_eqi (y := nI D.length) (hi3) ?_
  refine R_bipush (pc := 183) (v := 16) dX12_paddedWrap_183 (by decide) ?_
  refine R_icmp_ne (pc := 185) (tgt := 201) dX12_paddedWrap_185 (by decide) (fun c_7 => ?_) (fun c_7 => ?_)
  · skip
    have nc_7 : ¬ (D.length = 16) := fun q_ => c_7 ((nI_eq (a := D.length) (b := 16) (by omega) (by omega)).mpr q_)
    refine R_aload_n (pc := 201) 0 dX12_paddedWrap_201 rfl rfl ?_
    refine R_aload_n (pc := 202) 0 dX12_paddedWrap_202 rfl rfl ?_
    refine R_get (pc := 203) dX12_paddedWrap_203 fX12_130 S_6.obj (by omega) rfl ?_
    refine R_eqi (y := nI D.length) (hi3) ?_
    refine R_bipush (pc := 206) (v := 8) dX12_paddedWrap_206 (by decide) ?_
    refine R_idiv (pc := 208) dX12_paddedWrap_208 (by decide) ?_
    refine R_eqi (y := nI b) ((nI_div (a := D.length) (b := 8) (by omega) (by omega)).trans (congrArg nI (by omega))) ?_
    refine R_iconst (pc := 209) (v := 1) dX12_paddedWrap_209 (by decide) ?_
    refine R_isub (pc := 210) dX12_paddedWrap_210 ?_
    refine R_eqi (y := nI (b - 1)) (nI_sb (a := b) (b := 1) (by omega)) ?_
    refine R_callVh (pc := 211) (μ' := mX12_unwrapAll) (As := [.int (nI (b - 1))]) (st := []) dX12_paddedWrap_211 zX12_unwrapAll lX12_186 ⟨by decide, by decide⟩ rfl rfl ⟨by decide, by decide⟩ S_6.obj (by omega) rfl (Nat.le_of_ble_eq_true rfl) (oX12_unwrapAll S_6 hn (b - 1) (by omega) (K0.uo (by decide)) (e8 D 0, D) (by show D.length = _; omega) (hy)) (fun h_8 r_ q_9 => ?_)
    obtain ⟨ψ_13, rfl, S_10, K_12, J_14, F_11⟩ := q_9
    have K_15 := (K0.uo (by decide)).fr K_12 (by decide) (by decide) (by decide) (by decide)
    have wV : wR (ψ_13 72) (pwU G D) := by rw [show pwU G D = uOut G (D.length / 8 - 1) (e8 D 0, D) 6 from if_neg c_7]; have z_ := J_14; rw [show b - 1 = D.length / 8 - 1 by omega] at z_; exact z_
    have K6 : FR [72, 76] ψ ψ_13 := (((FR.rf _ _).up (by decide)).tr K_12 (by decide))
    have lU := pwU_len G D
    refine qX12_paddedWrap_a (F_5.tr F_11) S_10 hn D.length (ψ_13 72 6).toNat (ψ_13 72 7).toNat hD (by omega) (oc_nI _) (oc_nI _) (ψ_13 72 6).isLt (ψ_13 72 7).isLt hi3 (fun h2 q_ hq_ => ?_)
    obtain ⟨ψ2, v, hA, S2, hK2, hV, hF2⟩ := hq_
    have fl := pw_flag wV lU hD (by omega) _ rfl
    have hC : pwC G D = 0 ↔ weN (pwU G D).1 (tk8 (pwU G D).2) 8 = 0 := ⟨fun q => lg_cmp0 q, fun q => by unfold pwC; rw [q]; rfl⟩
    refine ⟨rfl, ψ2, v, ?_, S2, K6.tr hK2 (by decide), fun q_ => ?_, hF2⟩
    · rw [hA]
      by_cases c_ : pwC G D = 0
      · rw [if_pos c_, if_neg (fl.1.mpr (hC.mp c_))]
      · rw [if_neg c_, if_pos (Classical.byContradiction fun q => c_ (hC.mpr (fl.1.mp q)))]
    · have e1 := hV (fl.1.mpr (hC.mp q_))
      have e2 := fl.2 (hC.mp q_)
      obtain ⟨mm, hmm, emm⟩ := we_ok (L := tk8 (pwU G D).2) (by rw [tk8_len, lU]; omega) (hC.mp q_)
      have e3 := (pwM_eq (by have := tk8_len (pwU G D).2; omega) emm).1
      have lT : (tk8 (pwU G D).2).length = D.length - 8 := by rw [tk8_len, lU]
      have eR : pwR G D = (tk8 (pwU G D).2).take (pwM (pwU G D).1) := if_pos q_
      refine ⟨?_, ?_⟩
      · rw [eR, e1.1, e2]
        intro j_ hj_
        rw [List.length_take] at hj_
        rw [og_take _ (by omega), tk8_og _ (by rw [lU]; omega) (by rw [lU]; omega), ← wV.2 _ (by omega) (by rw [lU]; omega), Nat.zero_add]
        unfold cpB
        rw [if_pos (by omega), Nat.sub_zero]
      · rw [e1.2, eR, List.length_take, e2, Nat.min_eq_left (by omega)]
  · skip
    have nc_7 : D.length = 16 := (nI_eq (a := D.length) (b := 16) (by omega) (by omega)).mp c_7
    refine R_aload_n (pc := 188) 0 dX12_paddedWrap_188 rfl rfl ?_
    refine R_iconst (pc := 189) (v := 0) dX12_paddedWrap_189 (by decide) ?_
    refine R_aload_n (pc := 190) 0 dX12_paddedWrap_190 rfl rfl ?_
    refine R_get (pc := 191) dX12_paddedWrap_191 fX12_44 S_6.obj (by omega) rfl ?_
    refine R_iconst (pc := 194) (v := 0) dX12_paddedWrap_194 (by decide) ?_
    refine R_callVh (pc := 195) (μ' := mX12_openBlock) (As := [.int (nI 0), .ref 72, .int (nI 0)]) (st := []) dX12_paddedWrap_195 zX12_openBlock lX12_150 ⟨by decide, by decide⟩ rfl rfl ⟨by decide, by decide⟩ S_6.obj (by omega) rfl (Nat.le_of_ble_eq_true rfl) (oX12_openBlock S_6 hn (K0.uo (by decide)) (p := 72) rfl 0 (by show 0 + 16 ≤ 700; omega)) (fun h_16 r_ q_17 => ?_)
    obtain ⟨rfl, S_18, F_19⟩ := q_17
    have S_20 : MO h_16 (uo ψ 72 (pt (cpB (ψ 71) 0 (ψ 72) 0 D.length) 0 (G (gt (cpB (ψ 71) 0 (ψ 72) 0 D.length) 0)))) z i := by have z_ := S_18; rw [uo_uo] at z_; exact z_
    refine R_goto (pc := 198) (tgt := 214) dX12_paddedWrap_198 (by decide) ?_
    have eY : gt (cpB (ψ 71) 0 (ψ 72) 0 D.length) 0 = rd D 0 := (gt_of fun k_ hk_ => by have := hs.cp (ψ 72) 0 rfl k_ (by omega); rw [Nat.zero_add] at this ⊢; rw [this])
    have wU : wR (pt (cpB (ψ 71) 0 (ψ 72) 0 D.length) 0 (G (gt (cpB (ψ 71) 0 (ψ 72) 0 D.length) 0))) (pwU G D) := by
      rw [show pwU G D = ((G (rd D 0)).1, p8 D 8 (G (rd D 0)).2 8) from if_pos c_7, eY]
      exact wR_one _ _ nc_7
    obtain ⟨ψ5, e5⟩ : ∃ x, x = (uo ψ 72 (pt (cpB (ψ 71) 0 (ψ 72) 0 D.length) 0 (G (gt (cpB (ψ 71) 0 (ψ 72) 0 D.length) 0)))) := ⟨_, rfl⟩
    have S5 := S_20
    rw [← e5] at S5
    have K5 : FR [72, 76] ψ ψ5 := by rw [e5]; exact ((FR.rf _ _).up (by decide))
    have wV : wR (ψ5 72) (pwU G D) := by rw [e5]; exact wU
    have lU := pwU_len G D
    refine qX12_paddedWrap_a (F_5.tr F_19) S5 hn D.length (ψ5 72 6).toNat (ψ5 72 7).toNat hD (by omega) (oc_nI _) (oc_nI _) (ψ5 72 6).isLt (ψ5 72 7).isLt hi3 (fun h2 q_ hq_ => ?_)
    obtain ⟨ψ2, v, hA, S2, hK2, hV, hF2⟩ := hq_
    have fl := pw_flag wV lU hD (by omega) _ rfl
    have hC : pwC G D = 0 ↔ weN (pwU G D).1 (tk8 (pwU G D).2) 8 = 0 := ⟨fun q => lg_cmp0 q, fun q => by unfold pwC; rw [q]; rfl⟩
    refine ⟨rfl, ψ2, v, ?_, S2, K5.tr hK2 (by decide), fun q_ => ?_, hF2⟩
    · rw [hA]
      by_cases c_ : pwC G D = 0
      · rw [if_pos c_, if_neg (fl.1.mpr (hC.mp c_))]
      · rw [if_neg c_, if_pos (Classical.byContradiction fun q => c_ (hC.mpr (fl.1.mp q)))]
    · have e1 := hV (fl.1.mpr (hC.mp q_))
      have e2 := fl.2 (hC.mp q_)
      obtain ⟨mm, hmm, emm⟩ := we_ok (L := tk8 (pwU G D).2) (by rw [tk8_len, lU]; omega) (hC.mp q_)
      have e3 := (pwM_eq (by have := tk8_len (pwU G D).2; omega) emm).1
      have lT : (tk8 (pwU G D).2).length = D.length - 8 := by rw [tk8_len, lU]
      have eR : pwR G D = (tk8 (pwU G D).2).take (pwM (pwU G D).1) := if_pos q_
      refine ⟨?_, ?_⟩
      · rw [eR, e1.1, e2]
        intro j_ hj_
        rw [List.length_take] at hj_
        rw [og_take _ (by omega), tk8_og _ (by rw [lU]; omega) (by rw [lU]; omega), ← wV.2 _ (by omega) (by rw [lU]; omega), Nat.zero_add]
        unfold cpB
        rw [if_pos (by omega), Nat.sub_zero]
      · rw [e1.2, eR, List.length_take, e2, Nat.min_eq_left (by omega)]
