/-- what a caller sees: the answer, the four rows, the result -/
def WX (h : am_H) (τ : Nat × Nat × Nat) (ρ : Nat → List (BitVec 8)) (x : Int32) (L : List (BitVec 8)) : am_H → Option Value → Prop := fun h' q => ∃ ρ' : Nat → List (BitVec 8), ∃ β' : Nat → bP, ∃ κ' : Nat → kT, ∃ τ' : Nat × Nat × Nat, q = some (.int x) ∧ Sys h' ρ' β' κ' τ' ∧ tOk τ' ∧ τ'.2.2 = τ.2.2 ∧ (∀ r, r ≤ 8 → ρ' r = ρ r) ∧ ρ' τ'.1 = L ∧ Fr h h'
theorem nI_sub {a b : Nat} (h : b ≤ a) : nI a - nI b = nI (a - b) := by
  obtain ⟨c, rfl⟩ : ∃ c, a = c + b := ⟨a - b, by omega⟩
  rw [← nI_add, Nat.add_sub_cancel]
  exact Int32.add_sub_cancel _ _
theorem tOk.sw {τ : Nat × Nat × Nat} (h : tOk τ) : tOk (τ.2.1, τ.1, τ.2.2) := ⟨by rcases h.1 with ⟨a, b⟩ | ⟨a, b⟩; exact Or.inr ⟨b, a⟩; exact Or.inl ⟨b, a⟩, h.2⟩
def smR (v : Int32) (K D : Nat) : Int32 := if v < 1 then -2 else if v ≤ 3 then (if isK (nI K) = 0 then -3 else if v = 1 then 0 else if nI D = 0 then -2 else if nI D &&& 15 = 0 then 0 else -2) else -2
def smX (v : Int32) (F : bP → bP) (D : List (BitVec 8)) : bP := if v = 1 then macV F D else if v = 2 then csm F D else gab (F (0, 0)) D (0, 0)
def smO (κ : Nat → kT) (v : Int32) (K D : List (BitVec 8)) : List (BitVec 8) := bt (smX v (eK (xpK κ 16 K 0 (K.length / 4) 16)) D) 16
theorem xpK_ok (κ : Nat → kT) (c : Nat) (L : List (BitVec 8)) (b : Nat) {nn : Nat} (hnn : nn = 4 ∨ nn = 6 ∨ nn = 8) : kOk (xpK κ c L b nn c) := by
  unfold xpK
  rw [uk_s]
  exact ⟨by show 1 ≤ nn + 6; omega, by show nn + 6 ≤ 14; omega⟩
theorem xpK_n {κ : Nat → kT} {c d : Nat} {L : List (BitVec 8)} {b nn : Nat} (h : d ≠ c) : xpK κ c L b nn d = κ d := if_neg h
def kyX (κ : Nat → kT) (v : Int32) (K : List (BitVec 8)) : Nat → kT := if w2K v = 0 then xpK κ 16 K 0 (K.length / 4) else xpK (xpK κ 16 K 0 (K.length / 8)) 20 K (4 * (K.length / 8)) (K.length / 8)
theorem ky2 : ∀ m, m < 65 → nI m &&& 1 = 0 → ¬ isK (nI m >>> (1 &&& 31)) = 0 → m = 32 ∨ m = 48 ∨ m = 64 := by decide +kernel
theorem ky_of {v : Int32} {m : Nat} (hm : m ≤ 64) (h : ¬ kyF v m = 0) : (w2K v = 0 ∧ ∃ nn, (nn = 4 ∨ nn = 6 ∨ nn = 8) ∧ m = 4 * nn) ∨ (¬ w2K v = 0 ∧ ∃ nn, (nn = 4 ∨ nn = 6 ∨ nn = 8) ∧ m = 8 * nn) := by
  unfold kyF at h
  by_cases a : w2K v = 0
  · rw [if_pos a] at h
    exact Or.inl ⟨a, isK_of hm h⟩
  · rw [if_neg a] at h
    by_cases b : nI m &&& 1 = 0
    · rw [if_pos b] at h
      by_cases c : isK (nI m >>> (1 &&& 31)) = 0
      · rw [if_pos c] at h; exact absurd rfl h
      · refine Or.inr ⟨a, ?_⟩
        rcases ky2 m (by omega) b c with e | e | e
        · exact ⟨4, by omega, by omega⟩
        · exact ⟨6, by omega, by omega⟩
        · exact ⟨8, by omega, by omega⟩
    · rw [if_neg b] at h; exact absurd rfl h
theorem rf_of {v u : Int32} {K N D t : Nat} (h : 0 ≤ rfV v u K N D t) : ∃ k, kN v k ∧ v.toNatClampNeg = k ∧ ¬ kyF v K = 0 ∧ ¬ stF k N = 0 ∧ ¬ dtF k u D t = 0 := by
  unfold rfV at h
  by_cases a : v < 1
  · rw [if_pos a] at h; exact absurd h (by decide)
  · rw [if_neg a] at h
    by_cases b : v ≤ 16
    · rw [if_pos b] at h
      obtain ⟨k, hk⟩ := kN_of a b
      have hkc : v.toNatClampNeg = k := by rw [hk.eq.1]; exact nI_clamp (by have := hk.eq.2; omega)
      rw [hkc] at h
      by_cases c : kyF v K = 0
      · rw [if_pos c] at h; exact absurd h (by decide)
      · rw [if_neg c] at h
        unfold rfT at h
        by_cases d : stF k N = 0
        · rw [if_pos d] at h; exact absurd h (by decide)
        · rw [if_neg d] at h
          by_cases e : dtF k u D t = 0
          · rw [if_pos e] at h; exact absurd h (by decide)
          · exact ⟨k, hk, hkc, c, d, e⟩
    · rw [if_neg b] at h; exact absurd h (by decide)
theorem kT_of {v : Int32} {k : Nat} (h : kN v k) (ht : ¬ isT v = 0) : (v = 12 ∧ k = 12) ∨ (v = 13 ∧ k = 13) ∨ (v = 14 ∧ k = 14) ∨ (v = 16 ∧ k = 16) := by
  rcases h with ⟨rfl, rfl⟩ | ⟨rfl, rfl⟩ | ⟨rfl, rfl⟩ | ⟨rfl, rfl⟩ | ⟨rfl, rfl⟩ | ⟨rfl, rfl⟩ | ⟨rfl, rfl⟩ | ⟨rfl, rfl⟩ | ⟨rfl, rfl⟩ | ⟨rfl, rfl⟩ | ⟨rfl, rfl⟩ | ⟨rfl, rfl⟩ | ⟨rfl, rfl⟩ | ⟨rfl, rfl⟩ | ⟨rfl, rfl⟩ | ⟨rfl, rfl⟩ <;> first | exact absurd rfl ht | decide
theorem kB_of {v : Int32} {k : Nat} (h : kN v k) (ht : isT v = 0) (h15 : ¬ v = 15) : (v = 1 ∧ k = 1) ∨ (v = 2 ∧ k = 2) ∨ (v = 3 ∧ k = 3) ∨ (v = 4 ∧ k = 4) ∨ (v = 5 ∧ k = 5) ∨ (v = 6 ∧ k = 6) ∨ (v = 7 ∧ k = 7) ∨ (v = 8 ∧ k = 8) ∨ (v = 9 ∧ k = 9) ∨ (v = 10 ∧ k = 10) ∨ (v = 11 ∧ k = 11) := by
  rcases h with ⟨rfl, rfl⟩ | ⟨rfl, rfl⟩ | ⟨rfl, rfl⟩ | ⟨rfl, rfl⟩ | ⟨rfl, rfl⟩ | ⟨rfl, rfl⟩ | ⟨rfl, rfl⟩ | ⟨rfl, rfl⟩ | ⟨rfl, rfl⟩ | ⟨rfl, rfl⟩ | ⟨rfl, rfl⟩ | ⟨rfl, rfl⟩ | ⟨rfl, rfl⟩ | ⟨rfl, rfl⟩ | ⟨rfl, rfl⟩ | ⟨rfl, rfl⟩ <;> first | exact absurd rfl h15 | exact absurd ht (by decide) | decide
theorem kTt {v : Int32} {k : Nat} (h : kN v k) (ht : ¬ isT v = 0) {m t : Nat} (hd : ¬ dtF k 1 m t = 0) : ¬ tgF 1 m t = 0 := by
  rcases kT_of h ht with ⟨-, rfl⟩ | ⟨-, rfl⟩ | ⟨-, rfl⟩ | ⟨-, rfl⟩ <;> exact hd
theorem w9 {v : Int32} {k : Nat} (h : kN v k) (h9 : k = 9) : ¬ w2K v = 0 := by
  rcases h with ⟨rfl, rfl⟩ | ⟨rfl, rfl⟩ | ⟨rfl, rfl⟩ | ⟨rfl, rfl⟩ | ⟨rfl, rfl⟩ | ⟨rfl, rfl⟩ | ⟨rfl, rfl⟩ | ⟨rfl, rfl⟩ | ⟨rfl, rfl⟩ | ⟨rfl, rfl⟩ | ⟨rfl, rfl⟩ | ⟨rfl, rfl⟩ | ⟨rfl, rfl⟩ | ⟨rfl, rfl⟩ | ⟨rfl, rfl⟩ | ⟨rfl, rfl⟩ <;> first | omega | decide
theorem osF_len (F G : bP → bP) (op : Bool) (L : List (BitVec 8)) (q0 : bP) (hL : L.length ≤ 1000) : (osF F G op L q0).2.2.length = L.length := by
  unfold osF
  dsimp only
  by_cases a : nI (L.length % 16) = 0
  · rw [if_pos a, osN_len]
    have := (nI_eq (a := L.length % 16) (b := 0) (by omega) (by omega)).mp a
    omega
  · rw [if_neg a]
    show (_ ++ bt _ _).length = _
    rw [List.length_append, osN_len, bt_len]
    omega
theorem rtL_len (k : Nat) (a : kT) (op : Int32) (N D : List (BitVec 8)) (t : Nat) (hL : D.length ≤ 1000) : (rtL k a op N D t).length = D.length := by
  unfold rtL
  split
  · exact gcO_len _ _ _
  · exact ctO_len _ _ _
  · exact ctO_len _ _ _
  · exact osF_len _ _ _ _ _ hL
def slO (κ : Nat → kT) (v : Int32) (A N D : List (BitVec 8)) (t : Nat) (z : bP) : List (BitVec 8) :=
  if isT v = 0 then (if v = 15 then bt (mdV (eK (κ 16)) A N D) 16 ++ ctO (eK (κ 20)) D (cfm (mdV (eK (κ 16)) A N D)) else lbL v.toNatClampNeg (κ 16) (κ 20) z N D)
  else rtL v.toNatClampNeg (κ 16) 0 N D t ++ bt (rtT v.toNatClampNeg (κ 16) 0 A N D t) t
def uoL (κ : Nat → kT) (v : Int32) (N D : List (BitVec 8)) (t : Nat) : List (BitVec 8) :=
  if isT v = 0 then (if v = 15 then ctO (eK (κ 20)) (sl D 16 (D.length - 16)) (cfm (rd D 0)) else ubL v.toNatClampNeg (κ 16) (κ 20) N D)
  else rtL v.toNatClampNeg (κ 16) 1 N (sl D 0 (D.length - t)) t
def uoC (κ : Nat → kT) (v : Int32) (A N D : List (BitVec 8)) (t : Nat) : Int32 :=
  if isT v = 0 then (if v = 15 then smI (mdV (eK (κ 16)) A N (ctO (eK (κ 20)) (sl D 16 (D.length - 16)) (cfm (rd D 0)))) (rd D 0) else ubV v.toNatClampNeg (κ 16) N D)
  else smI (kf (rtT v.toNatClampNeg (κ 16) 1 A N (sl D 0 (D.length - t)) t) (nI t)) (rd D (D.length - t))
set_option maxHeartbeats 4000000 in
set_option maxRecDepth 100000 in
theorem qX11_expandKeys {l : Launch} {w : am_W} {h : am_H} {n : Nat} {ρ : Nat → List (BitVec 8)} {β : Nat → bP} {κ : Nat → kT} {τ : Nat × Nat × Nat} (S : Sys h ρ β κ τ) (hn : 60 ≤ n) (v : Int32) (hky : ¬ kyF v (ρ 2).length = 0) (hτ : tOk τ) : RH l w mX11_expandKeys h n [.ref 1, .int v] (fun h' q => SQ h τ none ρ β (kyX κ v (ρ 2)) h' q ∧ kOk (kyX κ v (ρ 2) 16) ∧ (¬ w2K v = 0 → kOk (kyX κ v (ρ 2) 20))) := by
  have hl2 : (ρ 2).length ≤ 64 := (S.1 2 rfl).1
  rcases ky_of hl2 hky with ⟨a, nn, hnn, e⟩ | ⟨a, nn, hnn, e⟩
  · have e4 : (ρ 2).length / 4 = nn := by omega
    have ek : kyX κ v (ρ 2) = xpK κ 16 (ρ 2) 0 nn := by unfold kyX; rw [if_pos a, e4]
    rw [ek]
    exact RH.mono (qX11_expandKeys1 S hn hτ v a nn hnn e) (fun h' r z => ⟨z, xpK_ok _ _ _ _ hnn, fun b => absurd a b⟩)
  · have e4 : (ρ 2).length / 8 = nn := by omega
    have ek : kyX κ v (ρ 2) = xpK (xpK κ 16 (ρ 2) 0 nn) 20 (ρ 2) (4 * nn) nn := by unfold kyX; rw [if_neg a, e4]
    rw [ek]
    exact RH.mono (qX11_expandKeys2 S hn hτ v a nn hnn e) (fun h' r z => ⟨z, by rw [xpK_n (by decide)]; exact xpK_ok _ _ _ _ hnn, fun _ => xpK_ok _ _ _ _ hnn⟩)
set_option maxHeartbeats 4000000 in
set_option maxRecDepth 100000 in
theorem qX11_sum {l : Launch} {w : am_W} {h : am_H} {n : Nat} {ρ : Nat → List (BitVec 8)} {β : Nat → bP} {κ : Nat → kT} {τ : Nat × Nat × Nat} (S : Sys h ρ β κ τ) (hn : 60 ≤ n) (hτ : tOk τ) (v : Int32) : RH l w mX11_sum h n [.ref 1, .int v] (WX h τ ρ (if smR v (ρ 2).length (ρ 4).length = 0 then 16 else smR v (ρ 2).length (ρ 4).length) (if smR v (ρ 2).length (ρ 4).length = 0 then smO κ v (ρ 2) (ρ 4) else ρ τ.1)) := by
  refine RC.of [(0, .ref 1), (1, .int v)] (by decide +kernel) rfl (Nat.le_of_ble_eq_true rfl) ?_
  have hl2 : (ρ 2).length ≤ 64 := (S.1 2 rfl).1
  have hl4 : (ρ 4).length ≤ 512 := (S.1 4 rfl).1
  have hl6 : (ρ 6).length ≤ 64 := (S.1 6 rfl).1
  have hl8 : (ρ 8).length ≤ 256 := (S.1 8 rfl).1
  have hm := hτ.r2
  have hmc : (τ.1 = 12 ∧ τ.2.1 = 14) ∨ (τ.1 = 14 ∧ τ.2.1 = 12) := hτ.1
  have hmN : rwN τ.2.1 = 528 := by rcases hmc with ⟨-, a⟩ | ⟨-, a⟩ <;> rw [a] <;> rfl
  have hm4 : (4 : Nat) ≠ τ.2.1 := by omega
  have hm6 : (6 : Nat) ≠ τ.2.1 := by omega
  have hm8 : (8 : Nat) ≠ τ.2.1 := by omega
  have hm10 : (10 : Nat) ≠ τ.2.1 := by omega
  have hm2 : (2 : Nat) ≠ τ.2.1 := by omega
  have hm24 : (24 : Nat) ≠ τ.2.1 := by omega
  have ht16 := hτ.2
  refine R_iload_n (pc := 0) 1 dX11_sum_0 rfl rfl ?_
  refine R_iconst (pc := 1) (v := 1) dX11_sum_1 (by decide) ?_
  refine R_icmp_lt (pc := 2) (tgt := 10) dX11_sum_2 (by decide) (fun c_1 => ?_) (fun c_1 => ?_)
  · skip
    refine R_bipush (pc := 10) (v := (-2)) dX11_sum_10 (by decide) ?_
    have eR : smR v (ρ 2).length (ρ 4).length = -2 := by unfold smR; rw [if_pos c_1]
    exact R_ireturn (pc := 12) dX11_sum_12 rfl (by decide) (by decide) ⟨rfl, ρ, β, κ, τ, by rw [eR, if_neg (by decide)], S, hτ, rfl, fun _ _ => rfl, by rw [eR, if_neg (by decide)], (Fr.rf _)⟩
  · skip
    refine R_iload_n (pc := 5) 1 dX11_sum_5 rfl rfl ?_
    refine R_iconst (pc := 6) (v := 3) dX11_sum_6 (by decide) ?_
    refine R_icmp_le (pc := 7) (tgt := 13) dX11_sum_7 (by decide) (fun c_2 => ?_) (fun c_2 => ?_)
    · skip
      refine R_aload_n (pc := 13) 0 dX11_sum_13 rfl rfl ?_
      refine R_get (pc := 14) dX11_sum_14 fX11_14 S.2.2.2.2.2.2.2.2.2.2 (by omega) rfl ?_
      skip
      refine R_get (pc := 17) dX11_sum_17 fX11_133 (S.rowO 2 rfl) (by omega) rfl ?_
      refine R_eqi (y := nI (ρ 2).length) (by first | rfl | (simp only [ur_s, ur_ur])) ?_
      refine R_callSp (pc := 20) (μ' := mX11_isKeySize) (As := [.int (nI (ρ 2).length)]) (st := []) dX11_sum_20 zX11_isKeySize lX11_200 ⟨by decide, by decide⟩ rfl rfl ⟨by decide, by decide⟩ rfl (Nat.le_of_ble_eq_true rfl) (qX11_isKeySize l w _ _ _) ?_
      refine R_if_ne (pc := 23) (tgt := 29) dX11_sum_23 (by decide) (fun c_3 => ?_) (fun c_3 => ?_)
      · skip
        refine R_iload_n (pc := 29) 1 dX11_sum_29 rfl rfl ?_
        refine R_iconst (pc := 30) (v := 1) dX11_sum_30 (by decide) ?_
        refine R_icmp_eq (pc := 31) (tgt := 60) dX11_sum_31 (by decide) (fun c_4 => ?_) (fun c_4 => ?_)
        · skip
          have eR : smR v (ρ 2).length (ρ 4).length = 0 := by unfold smR; rw [if_neg c_1, if_pos c_2, if_neg c_3, if_pos c_4]
          obtain ⟨nn, hnn, e⟩ := isK_of (by omega) c_3
          have e4 : (ρ 2).length / 4 = nn := by omega
          have hk := xpK_ok κ 16 (ρ 2) 0 hnn
          refine R_aload_n (pc := 60) 0 dX11_sum_60 rfl rfl ?_
          refine R_get (pc := 61) dX11_sum_61 fX11_43 S.2.2.2.2.2.2.2.2.2.2 (by omega) rfl ?_
          refine R_aload_n (pc := 64) 0 dX11_sum_64 rfl rfl ?_
          refine R_get (pc := 65) dX11_sum_65 fX11_14 S.2.2.2.2.2.2.2.2.2.2 (by omega) rfl ?_
          refine R_iconst (pc := 68) (v := 0) dX11_sum_68 (by decide) ?_
          refine R_aload_n (pc := 69) 0 dX11_sum_69 rfl rfl ?_
          refine R_get (pc := 70) dX11_sum_70 fX11_14 S.2.2.2.2.2.2.2.2.2.2 (by omega) rfl ?_
          skip
          refine R_get (pc := 73) dX11_sum_73 fX11_133 (S.rowO 2 rfl) (by omega) rfl ?_
          refine R_eqi (y := nI (ρ 2).length) (by first | rfl | (simp only [ur_s, ur_ur])) ?_
          refine R_eqi (y := nI (4 * nn)) (by rw [e]) ?_
          refine R_callVh (pc := 76) (μ' := mX2_expand) (As := [.ref 2, .int (nI 0), .int (nI (4 * nn))]) (st := []) dX11_sum_76 zX2_expand lX11_203 ⟨by decide, by decide⟩ rfl rfl ⟨by decide, by decide⟩ (S.2.2.1 16 (by decide)).1 (by omega) rfl (Nat.le_of_ble_eq_true rfl) (S_expand S hn (by decide) rfl 0 nn (by omega) hnn) (fun h_5 r_ q_6 => ?_)
          obtain ⟨rfl, S_7, F_9⟩ := q_6
          have S_8 : Sys h_5 ρ β (xpK κ 16 (ρ 2) 0 nn) τ := S_7
          refine R_iload_n (pc := 79) 1 dX11_sum_79 rfl rfl ?_
          refine R_iconst (pc := 80) (v := 1) dX11_sum_80 (by decide) ?_
          refine R_icmp_ne (pc := 81) (tgt := 102) dX11_sum_81 (by decide) (fun c_10 => absurd (c_4) c_10) (fun c_10 => ?_)
          refine R_aload_n (pc := 84) 0 dX11_sum_84 rfl rfl ?_
          refine R_get (pc := 85) dX11_sum_85 fX11_98 S_8.2.2.2.2.2.2.2.2.2.2 (by omega) rfl ?_
          refine R_aload_n (pc := 88) 0 dX11_sum_88 rfl rfl ?_
          refine R_get (pc := 89) dX11_sum_89 fX11_18 S_8.2.2.2.2.2.2.2.2.2.2 (by omega) rfl ?_
          refine R_aload_n (pc := 92) 0 dX11_sum_92 rfl rfl ?_
          refine R_get (pc := 93) dX11_sum_93 fX11_112 S_8.2.2.2.2.2.2.2.2.2.2 (by omega) rfl ?_
          refine R_callVh (pc := 96) (μ' := mX4_mac) (As := [.ref 4, .ref 59]) (st := []) dX11_sum_96 zX4_mac lX11_206 ⟨by decide, by decide⟩ rfl rfl ⟨by decide, by decide⟩ S_8.2.2.2.2.2.2.2.2.1 (by omega) rfl (Nat.le_of_ble_eq_true rfl) (qX4_mac_59 S_8 hn (t := 4) rfl hk) (fun h_11 r_ q_12 => ?_)
          obtain ⟨β_, hB_, rfl, Sm, Fm⟩ := q_12
          refine R_goto (pc := 99) (tgt := 140) dX11_sum_99 (by decide) ?_
          refine R_aload_n (pc := 140) 0 dX11_sum_140 rfl rfl ?_
          refine R_get (pc := 141) dX11_sum_141 fX11_33 Sm.2.2.2.2.2.2.2.2.2.2 (by omega) rfl ?_
          refine R_iconst (pc := 144) (v := 0) dX11_sum_144 (by decide) ?_
          refine R_callVh (pc := 145) (μ' := mX6_keep) (As := [.int (nI 0)]) (st := []) dX11_sum_145 zX6_keep lX11_123 ⟨by decide, by decide⟩ rfl rfl ⟨by decide, by decide⟩ (Sm.rowO τ.2.1 hτ.r2) (by omega) rfl (Nat.le_of_ble_eq_true rfl) (S_keep Sm hn hτ.r2 0 (by omega)) (fun h_13 r_ q_14 => ?_)
          obtain ⟨rfl, S_15, F_17⟩ := q_14
          have S_16 : Sys h_13 (ur ρ τ.2.1 ((ρ τ.2.1).take 0)) β_ (xpK κ 16 (ρ 2) 0 nn) τ := by have z_ := S_15; (try simp only [ur_s, ur_ur, ur_n (x := 2) (r := τ.2.1) hm2, ur_n (x := 4) (r := τ.2.1) hm4, ur_n (x := 6) (r := τ.2.1) hm6, ur_n (x := 8) (r := τ.2.1) hm8, ur_n (x := 24) (r := τ.2.1) hm24] at z_); exact z_
          refine R_aload_n (pc := 148) 0 dX11_sum_148 rfl rfl ?_
          refine R_get (pc := 149) dX11_sum_149 fX11_33 S_16.2.2.2.2.2.2.2.2.2.2 (by omega) rfl ?_
          refine R_aload_n (pc := 152) 0 dX11_sum_152 rfl rfl ?_
          refine R_get (pc := 153) dX11_sum_153 fX11_112 S_16.2.2.2.2.2.2.2.2.2.2 (by omega) rfl ?_
          refine R_bipush (pc := 156) (v := 16) dX11_sum_156 (by decide) ?_
          refine R_callVh (pc := 158) (μ' := mX6_appendBlock) (As := [.ref 59, .int (nI 16)]) (st := []) dX11_sum_158 zX6_appendBlock lX11_163 ⟨by decide, by decide⟩ rfl rfl ⟨by decide, by decide⟩ (S_16.rowO τ.2.1 hτ.r2) (by omega) rfl (Nat.le_of_ble_eq_true rfl) (S_appendBlock S_16 hn hτ.r2 rfl 16 (by simp only [ur_s, List.take_zero, List.length_nil]; omega)) (fun h_18 r_ q_19 => ?_)
          obtain ⟨rfl, S_20, F_22⟩ := q_19
          have S_21 : Sys h_18 (ur ρ τ.2.1 (((ρ τ.2.1).take 0) ++ bt (β_ 59) 16)) β_ (xpK κ 16 (ρ 2) 0 nn) τ := by have z_ := S_20; (try simp only [ur_s, ur_ur, ur_n (x := 2) (r := τ.2.1) hm2, ur_n (x := 4) (r := τ.2.1) hm4, ur_n (x := 6) (r := τ.2.1) hm6, ur_n (x := 8) (r := τ.2.1) hm8, ur_n (x := 24) (r := τ.2.1) hm24] at z_); exact z_
          refine R_aload_n (pc := 161) 0 dX11_sum_161 rfl rfl ?_
          refine R_callVh (pc := 162) (μ' := mX11_publish) (As := []) (st := []) dX11_sum_162 zX11_publish lX11_174 ⟨by decide, by decide⟩ rfl rfl ⟨by decide, by decide⟩ S_21.2.2.2.2.2.2.2.2.2.2 (by omega) rfl (Nat.le_of_ble_eq_true rfl) (qX11_publish S_21 hn hτ) (fun h_23 r_ q_24 => ?_)
          obtain ⟨rfl, Sp, Fp⟩ := q_24
          have hO : (ρ τ.2.1).take 0 ++ bt (β_ 59) 16 = smO κ v (ρ 2) (ρ 4) := by unfold smO smX; rw [if_pos c_10, e4, hB_ 59 (by decide)]; (try rw [ub_s]); rfl
          exact R_ireturn (pc := 165) dX11_sum_165 rfl (by decide) (by decide) ⟨rfl, _, _, _, _, by rw [eR, if_pos rfl]; simp only [ur_s, List.length_append, bt_len, List.take_zero, List.length_nil]; rfl, Sp, hτ.sw, rfl, fun r_ h_ => ur_n (by omega), by rw [eR, if_pos rfl]; exact (ur_s _ _ _).trans hO, ((((F_9.tr Fm).tr F_17).tr F_22).tr Fp)⟩
        · skip
          refine R_aload_n (pc := 34) 0 dX11_sum_34 rfl rfl ?_
          refine R_get (pc := 35) dX11_sum_35 fX11_18 S.2.2.2.2.2.2.2.2.2.2 (by omega) rfl ?_
          skip
          refine R_get (pc := 38) dX11_sum_38 fX11_133 (S.rowO 4 rfl) (by omega) rfl ?_
          refine R_eqi (y := nI (ρ 4).length) (by first | rfl | (simp only [ur_s, ur_ur])) ?_
          refine R_if_eq (pc := 41) (tgt := 57) dX11_sum_41 (by decide) (fun c_25 => ?_) (fun c_25 => ?_)
          · skip
            refine R_bipush (pc := 57) (v := (-2)) dX11_sum_57 (by decide) ?_
            have eR : smR v (ρ 2).length (ρ 4).length = -2 := by unfold smR; rw [if_neg c_1, if_pos c_2, if_neg c_3, if_neg c_4, if_pos c_25]
            exact R_ireturn (pc := 59) dX11_sum_59 rfl (by decide) (by decide) ⟨rfl, ρ, β, κ, τ, by rw [eR, if_neg (by decide)], S, hτ, rfl, fun _ _ => rfl, by rw [eR, if_neg (by decide)], (Fr.rf _)⟩
          · skip
            refine R_aload_n (pc := 44) 0 dX11_sum_44 rfl rfl ?_
            refine R_get (pc := 45) dX11_sum_45 fX11_18 S.2.2.2.2.2.2.2.2.2.2 (by omega) rfl ?_
            skip
            refine R_get (pc := 48) dX11_sum_48 fX11_133 (S.rowO 4 rfl) (by omega) rfl ?_
            refine R_eqi (y := nI (ρ 4).length) (by first | rfl | (simp only [ur_s, ur_ur])) ?_
            refine R_bipush (pc := 51) (v := 15) dX11_sum_51 (by decide) ?_
            refine R_iand (pc := 53) dX11_sum_53 ?_
            refine R_if_eq (pc := 54) (tgt := 60) dX11_sum_54 (by decide) (fun c_26 => ?_) (fun c_26 => ?_)
            · skip
              have eR : smR v (ρ 2).length (ρ 4).length = 0 := by unfold smR; rw [if_neg c_1, if_pos c_2, if_neg c_3, if_neg c_4, if_neg c_25, if_pos c_26]
              obtain ⟨nn, hnn, e⟩ := isK_of (by omega) c_3
              have e4 : (ρ 2).length / 4 = nn := by omega
              have hk := xpK_ok κ 16 (ρ 2) 0 hnn
              refine R_aload_n (pc := 60) 0 dX11_sum_60 rfl rfl ?_
              refine R_get (pc := 61) dX11_sum_61 fX11_43 S.2.2.2.2.2.2.2.2.2.2 (by omega) rfl ?_
              refine R_aload_n (pc := 64) 0 dX11_sum_64 rfl rfl ?_
              refine R_get (pc := 65) dX11_sum_65 fX11_14 S.2.2.2.2.2.2.2.2.2.2 (by omega) rfl ?_
              refine R_iconst (pc := 68) (v := 0) dX11_sum_68 (by decide) ?_
              refine R_aload_n (pc := 69) 0 dX11_sum_69 rfl rfl ?_
              refine R_get (pc := 70) dX11_sum_70 fX11_14 S.2.2.2.2.2.2.2.2.2.2 (by omega) rfl ?_
              skip
              refine R_get (pc := 73) dX11_sum_73 fX11_133 (S.rowO 2 rfl) (by omega) rfl ?_
              refine R_eqi (y := nI (ρ 2).length) (by first | rfl | (simp only [ur_s, ur_ur])) ?_
              refine R_eqi (y := nI (4 * nn)) (by rw [e]) ?_
              refine R_callVh (pc := 76) (μ' := mX2_expand) (As := [.ref 2, .int (nI 0), .int (nI (4 * nn))]) (st := []) dX11_sum_76 zX2_expand lX11_203 ⟨by decide, by decide⟩ rfl rfl ⟨by decide, by decide⟩ (S.2.2.1 16 (by decide)).1 (by omega) rfl (Nat.le_of_ble_eq_true rfl) (S_expand S hn (by decide) rfl 0 nn (by omega) hnn) (fun h_27 r_ q_28 => ?_)
              obtain ⟨rfl, S_29, F_31⟩ := q_28
              have S_30 : Sys h_27 ρ β (xpK κ 16 (ρ 2) 0 nn) τ := S_29
              refine R_iload_n (pc := 79) 1 dX11_sum_79 rfl rfl ?_
              refine R_iconst (pc := 80) (v := 1) dX11_sum_80 (by decide) ?_
              refine R_icmp_ne (pc := 81) (tgt := 102) dX11_sum_81 (by decide) (fun c_32 => ?_) (fun c_32 => absurd c_32 (c_4))
              refine R_iload_n (pc := 102) 1 dX11_sum_102 rfl rfl ?_
              refine R_iconst (pc := 103) (v := 2) dX11_sum_103 (by decide) ?_
              refine R_icmp_ne (pc := 104) (tgt := 125) dX11_sum_104 (by decide) (fun c_33 => ?_) (fun c_33 => ?_)
              · skip
                refine R_aload_n (pc := 125) 0 dX11_sum_125 rfl rfl ?_
                refine R_get (pc := 126) dX11_sum_126 fX11_89 S_30.2.2.2.2.2.2.2.2.2.2 (by omega) rfl ?_
                refine R_aload_n (pc := 129) 0 dX11_sum_129 rfl rfl ?_
                refine R_get (pc := 130) dX11_sum_130 fX11_18 S_30.2.2.2.2.2.2.2.2.2.2 (by omega) rfl ?_
                refine R_aload_n (pc := 133) 0 dX11_sum_133 rfl rfl ?_
                refine R_get (pc := 134) dX11_sum_134 fX11_112 S_30.2.2.2.2.2.2.2.2.2.2 (by omega) rfl ?_
                refine R_callVh (pc := 137) (μ' := mX3_sumAlone) (As := [.ref 4, .ref 59]) (st := []) dX11_sum_137 zX3_sumAlone lX11_213 ⟨by decide, by decide⟩ rfl rfl ⟨by decide, by decide⟩ S_30.2.2.2.2.2.2.2.1 (by omega) rfl (Nat.le_of_ble_eq_true rfl) (qX3_sumAlone S_30 hn (t := 4) rfl hk) (fun h_34 r_ q_35 => ?_)
                obtain ⟨β_, hB_, rfl, Sm, Fm⟩ := q_35
                refine R_aload_n (pc := 140) 0 dX11_sum_140 rfl rfl ?_
                refine R_get (pc := 141) dX11_sum_141 fX11_33 Sm.2.2.2.2.2.2.2.2.2.2 (by omega) rfl ?_
                refine R_iconst (pc := 144) (v := 0) dX11_sum_144 (by decide) ?_
                refine R_callVh (pc := 145) (μ' := mX6_keep) (As := [.int (nI 0)]) (st := []) dX11_sum_145 zX6_keep lX11_123 ⟨by decide, by decide⟩ rfl rfl ⟨by decide, by decide⟩ (Sm.rowO τ.2.1 hτ.r2) (by omega) rfl (Nat.le_of_ble_eq_true rfl) (S_keep Sm hn hτ.r2 0 (by omega)) (fun h_36 r_ q_37 => ?_)
                obtain ⟨rfl, S_38, F_40⟩ := q_37
                have S_39 : Sys h_36 (ur ρ τ.2.1 ((ρ τ.2.1).take 0)) β_ (xpK κ 16 (ρ 2) 0 nn) τ := by have z_ := S_38; (try simp only [ur_s, ur_ur, ur_n (x := 2) (r := τ.2.1) hm2, ur_n (x := 4) (r := τ.2.1) hm4, ur_n (x := 6) (r := τ.2.1) hm6, ur_n (x := 8) (r := τ.2.1) hm8, ur_n (x := 24) (r := τ.2.1) hm24] at z_); exact z_
                refine R_aload_n (pc := 148) 0 dX11_sum_148 rfl rfl ?_
                refine R_get (pc := 149) dX11_sum_149 fX11_33 S_39.2.2.2.2.2.2.2.2.2.2 (by omega) rfl ?_
                refine R_aload_n (pc := 152) 0 dX11_sum_152 rfl rfl ?_
                refine R_get (pc := 153) dX11_sum_153 fX11_112 S_39.2.2.2.2.2.2.2.2.2.2 (by omega) rfl ?_
                refine R_bipush (pc := 156) (v := 16) dX11_sum_156 (by decide) ?_
                refine R_callVh (pc := 158) (μ' := mX6_appendBlock) (As := [.ref 59, .int (nI 16)]) (st := []) dX11_sum_158 zX6_appendBlock lX11_163 ⟨by decide, by decide⟩ rfl rfl ⟨by decide, by decide⟩ (S_39.rowO τ.2.1 hτ.r2) (by omega) rfl (Nat.le_of_ble_eq_true rfl) (S_appendBlock S_39 hn hτ.r2 rfl 16 (by simp only [ur_s, List.take_zero, List.length_nil]; omega)) (fun h_41 r_ q_42 => ?_)
                obtain ⟨rfl, S_43, F_45⟩ := q_42
                have S_44 : Sys h_41 (ur ρ τ.2.1 (((ρ τ.2.1).take 0) ++ bt (β_ 59) 16)) β_ (xpK κ 16 (ρ 2) 0 nn) τ := by have z_ := S_43; (try simp only [ur_s, ur_ur, ur_n (x := 2) (r := τ.2.1) hm2, ur_n (x := 4) (r := τ.2.1) hm4, ur_n (x := 6) (r := τ.2.1) hm6, ur_n (x := 8) (r := τ.2.1) hm8, ur_n (x := 24) (r := τ.2.1) hm24] at z_); exact z_
                refine R_aload_n (pc := 161) 0 dX11_sum_161 rfl rfl ?_
                refine R_callVh (pc := 162) (μ' := mX11_publish) (As := []) (st := []) dX11_sum_162 zX11_publish lX11_174 ⟨by decide, by decide⟩ rfl rfl ⟨by decide, by decide⟩ S_44.2.2.2.2.2.2.2.2.2.2 (by omega) rfl (Nat.le_of_ble_eq_true rfl) (qX11_publish S_44 hn hτ) (fun h_46 r_ q_47 => ?_)
                obtain ⟨rfl, Sp, Fp⟩ := q_47
                have hO : (ρ τ.2.1).take 0 ++ bt (β_ 59) 16 = smO κ v (ρ 2) (ρ 4) := by unfold smO smX; rw [if_neg c_32, if_neg c_33, e4, hB_ 59 (by decide)]; (try rw [ub_s]); rfl
                exact R_ireturn (pc := 165) dX11_sum_165 rfl (by decide) (by decide) ⟨rfl, _, _, _, _, by rw [eR, if_pos rfl]; simp only [ur_s, List.length_append, bt_len, List.take_zero, List.length_nil]; rfl, Sp, hτ.sw, rfl, fun r_ h_ => ur_n (by omega), by rw [eR, if_pos rfl]; exact (ur_s _ _ _).trans hO, ((((F_31.tr Fm).tr F_40).tr F_45).tr Fp)⟩
              · skip
                refine R_aload_n (pc := 107) 0 dX11_sum_107 rfl rfl ?_
                refine R_get (pc := 108) dX11_sum_108 fX11_98 S_30.2.2.2.2.2.2.2.2.2.2 (by omega) rfl ?_
                refine R_aload_n (pc := 111) 0 dX11_sum_111 rfl rfl ?_
                refine R_get (pc := 112) dX11_sum_112 fX11_18 S_30.2.2.2.2.2.2.2.2.2.2 (by omega) rfl ?_
                refine R_aload_n (pc := 115) 0 dX11_sum_115 rfl rfl ?_
                refine R_get (pc := 116) dX11_sum_116 fX11_112 S_30.2.2.2.2.2.2.2.2.2.2 (by omega) rfl ?_
                refine R_callVh (pc := 119) (μ' := mX4_chainSum) (As := [.ref 4, .ref 59]) (st := []) dX11_sum_119 zX4_chainSum lX11_210 ⟨by decide, by decide⟩ rfl rfl ⟨by decide, by decide⟩ S_30.2.2.2.2.2.2.2.2.1 (by omega) rfl (Nat.le_of_ble_eq_true rfl) (qX4_chainSum S_30 hn (t := 4) rfl hk) (fun h_48 r_ q_49 => ?_)
                obtain ⟨β_, hB_, rfl, Sm, Fm⟩ := q_49
                refine R_goto (pc := 122) (tgt := 140) dX11_sum_122 (by decide) ?_
                refine R_aload_n (pc := 140) 0 dX11_sum_140 rfl rfl ?_
                refine R_get (pc := 141) dX11_sum_141 fX11_33 Sm.2.2.2.2.2.2.2.2.2.2 (by omega) rfl ?_
                refine R_iconst (pc := 144) (v := 0) dX11_sum_144 (by decide) ?_
                refine R_callVh (pc := 145) (μ' := mX6_keep) (As := [.int (nI 0)]) (st := []) dX11_sum_145 zX6_keep lX11_123 ⟨by decide, by decide⟩ rfl rfl ⟨by decide, by decide⟩ (Sm.rowO τ.2.1 hτ.r2) (by omega) rfl (Nat.le_of_ble_eq_true rfl) (S_keep Sm hn hτ.r2 0 (by omega)) (fun h_50 r_ q_51 => ?_)
                obtain ⟨rfl, S_52, F_54⟩ := q_51
                have S_53 : Sys h_50 (ur ρ τ.2.1 ((ρ τ.2.1).take 0)) β_ (xpK κ 16 (ρ 2) 0 nn) τ := by have z_ := S_52; (try simp only [ur_s, ur_ur, ur_n (x := 2) (r := τ.2.1) hm2, ur_n (x := 4) (r := τ.2.1) hm4, ur_n (x := 6) (r := τ.2.1) hm6, ur_n (x := 8) (r := τ.2.1) hm8, ur_n (x := 24) (r := τ.2.1) hm24] at z_); exact z_
                refine R_aload_n (pc := 148) 0 dX11_sum_148 rfl rfl ?_
                refine R_get (pc := 149) dX11_sum_149 fX11_33 S_53.2.2.2.2.2.2.2.2.2.2 (by omega) rfl ?_
                refine R_aload_n (pc := 152) 0 dX11_sum_152 rfl rfl ?_
                refine R_get (pc := 153) dX11_sum_153 fX11_112 S_53.2.2.2.2.2.2.2.2.2.2 (by omega) rfl ?_
                refine R_bipush (pc := 156) (v := 16) dX11_sum_156 (by decide) ?_
                refine R_callVh (pc := 158) (μ' := mX6_appendBlock) (As := [.ref 59, .int (nI 16)]) (st := []) dX11_sum_158 zX6_appendBlock lX11_163 ⟨by decide, by decide⟩ rfl rfl ⟨by decide, by decide⟩ (S_53.rowO τ.2.1 hτ.r2) (by omega) rfl (Nat.le_of_ble_eq_true rfl) (S_appendBlock S_53 hn hτ.r2 rfl 16 (by simp only [ur_s, List.take_zero, List.length_nil]; omega)) (fun h_55 r_ q_56 => ?_)
                obtain ⟨rfl, S_57, F_59⟩ := q_56
                have S_58 : Sys h_55 (ur ρ τ.2.1 (((ρ τ.2.1).take 0) ++ bt (β_ 59) 16)) β_ (xpK κ 16 (ρ 2) 0 nn) τ := by have z_ := S_57; (try simp only [ur_s, ur_ur, ur_n (x := 2) (r := τ.2.1) hm2, ur_n (x := 4) (r := τ.2.1) hm4, ur_n (x := 6) (r := τ.2.1) hm6, ur_n (x := 8) (r := τ.2.1) hm8, ur_n (x := 24) (r := τ.2.1) hm24] at z_); exact z_
                refine R_aload_n (pc := 161) 0 dX11_sum_161 rfl rfl ?_
                refine R_callVh (pc := 162) (μ' := mX11_publish) (As := []) (st := []) dX11_sum_162 zX11_publish lX11_174 ⟨by decide, by decide⟩ rfl rfl ⟨by decide, by decide⟩ S_58.2.2.2.2.2.2.2.2.2.2 (by omega) rfl (Nat.le_of_ble_eq_true rfl) (qX11_publish S_58 hn hτ) (fun h_60 r_ q_61 => ?_)
                obtain ⟨rfl, Sp, Fp⟩ := q_61
                have hO : (ρ τ.2.1).take 0 ++ bt (β_ 59) 16 = smO κ v (ρ 2) (ρ 4) := by unfold smO smX; rw [if_neg c_32, if_pos c_33, e4, hB_ 59 (by decide)]; (try rw [ub_s]); rfl
                exact R_ireturn (pc := 165) dX11_sum_165 rfl (by decide) (by decide) ⟨rfl, _, _, _, _, by rw [eR, if_pos rfl]; simp only [ur_s, List.length_append, bt_len, List.take_zero, List.length_nil]; rfl, Sp, hτ.sw, rfl, fun r_ h_ => ur_n (by omega), by rw [eR, if_pos rfl]; exact (ur_s _ _ _).trans hO, ((((F_31.tr Fm).tr F_54).tr F_59).tr Fp)⟩
            · skip
              refine R_bipush (pc := 57) (v := (-2)) dX11_sum_57 (by decide) ?_
              have eR : smR v (ρ 2).length (ρ 4).length = -2 := by unfold smR; rw [if_neg c_1, if_pos c_2, if_neg c_3, if_neg c_4, if_neg c_25, if_neg c_26]
              exact R_ireturn (pc := 59) dX11_sum_59 rfl (by decide) (by decide) ⟨rfl, ρ, β, κ, τ, by rw [eR, if_neg (by decide)], S, hτ, rfl, fun _ _ => rfl, by rw [eR, if_neg (by decide)], (Fr.rf _)⟩
      · skip
        refine R_bipush (pc := 26) (v := (-3)) dX11_sum_26 (by decide) ?_
        have eR : smR v (ρ 2).length (ρ 4).length = -3 := by unfold smR; rw [if_neg c_1, if_pos c_2, if_pos c_3]
        exact R_ireturn (pc := 28) dX11_sum_28 rfl (by decide) (by decide) ⟨rfl, ρ, β, κ, τ, by rw [eR, if_neg (by decide)], S, hτ, rfl, fun _ _ => rfl, by rw [eR, if_neg (by decide)], (Fr.rf _)⟩
    · skip
      refine R_bipush (pc := 10) (v := (-2)) dX11_sum_10 (by decide) ?_
      have eR : smR v (ρ 2).length (ρ 4).length = -2 := by unfold smR; rw [if_neg c_1, if_neg c_2]
      exact R_ireturn (pc := 12) dX11_sum_12 rfl (by decide) (by decide) ⟨rfl, ρ, β, κ, τ, by rw [eR, if_neg (by decide)], S, hτ, rfl, fun _ _ => rfl, by rw [eR, if_neg (by decide)], (Fr.rf _)⟩
set_option maxHeartbeats 4000000 in
set_option maxRecDepth 100000 in
theorem qX11_seal {l : Launch} {w : am_W} {h : am_H} {n : Nat} {ρ : Nat → List (BitVec 8)} {β : Nat → bP} {κ : Nat → kT} {τ : Nat × Nat × Nat} (S : Sys h ρ β κ τ) (hn : 60 ≤ n) (hτ : tOk τ) (v : Int32) : RH l w mX11_seal h n [.ref 1, .int v] (WX h τ ρ (if 0 ≤ rfV v 0 (ρ 2).length (ρ 6).length (ρ 4).length τ.2.2 then nI (slO (kyX κ v (ρ 2)) v (ρ 8) (ρ 6) (ρ 4) τ.2.2 (β 36)).length else rfV v 0 (ρ 2).length (ρ 6).length (ρ 4).length τ.2.2) (if 0 ≤ rfV v 0 (ρ 2).length (ρ 6).length (ρ 4).length τ.2.2 then slO (kyX κ v (ρ 2)) v (ρ 8) (ρ 6) (ρ 4) τ.2.2 (β 36) else ρ τ.1)) := by
  refine RC.of [(0, .ref 1), (1, .int v)] (by decide +kernel) rfl (Nat.le_of_ble_eq_true rfl) ?_
  have hl2 : (ρ 2).length ≤ 64 := (S.1 2 rfl).1
  have hl4 : (ρ 4).length ≤ 512 := (S.1 4 rfl).1
  have hl6 : (ρ 6).length ≤ 64 := (S.1 6 rfl).1
  have hl8 : (ρ 8).length ≤ 256 := (S.1 8 rfl).1
  have hm := hτ.r2
  have hmc : (τ.1 = 12 ∧ τ.2.1 = 14) ∨ (τ.1 = 14 ∧ τ.2.1 = 12) := hτ.1
  have hmN : rwN τ.2.1 = 528 := by rcases hmc with ⟨-, a⟩ | ⟨-, a⟩ <;> rw [a] <;> rfl
  have hm4 : (4 : Nat) ≠ τ.2.1 := by omega
  have hm6 : (6 : Nat) ≠ τ.2.1 := by omega
  have hm8 : (8 : Nat) ≠ τ.2.1 := by omega
  have hm10 : (10 : Nat) ≠ τ.2.1 := by omega
  have hm2 : (2 : Nat) ≠ τ.2.1 := by omega
  have hm24 : (24 : Nat) ≠ τ.2.1 := by omega
  have ht16 := hτ.2
  refine R_aload_n (pc := 0) 0 dX11_seal_0 rfl rfl ?_
  refine R_iload_n (pc := 1) 1 dX11_seal_1 rfl rfl ?_
  refine R_iconst (pc := 2) (v := 0) dX11_seal_2 (by decide) ?_
  refine R_callVh (pc := 3) (μ' := mX11_refusalOf) (As := [.int v, .int 0]) (st := []) dX11_seal_3 zX11_refusalOf lX11_149 ⟨by decide, by decide⟩ rfl rfl ⟨by decide, by decide⟩ S.2.2.2.2.2.2.2.2.2.2 (by omega) rfl (Nat.le_of_ble_eq_true rfl) (qX11_refusalOf S hn hτ v 0) (fun h_1 r_ q_2 => ?_)
  obtain ⟨rfl, Sr, Fr_⟩ := q_2
  refine R_istore_n (pc := 6) (lv' := [(2, .int (rfV v 0 (ρ 2).length (ρ 6).length (ρ 4).length τ.2.2)), (0, .ref 1), (1, .int v)]) dX11_seal_6 rfl (by decide) rfl ?_
  refine R_iload_n (pc := 7) 0 dX11_seal_7 rfl rfl ?_
  refine R_if_ge (pc := 8) (tgt := 13) dX11_seal_8 (by decide) (fun c_3 => ?_) (fun c_3 => ?_)
  · skip
    obtain ⟨k, hkN, hkc, hky, hst, hdt⟩ := rf_of c_3
    refine R_aload_n (pc := 13) 1 dX11_seal_13 rfl rfl ?_
    refine R_iload_n (pc := 14) 2 dX11_seal_14 rfl rfl ?_
    refine R_callVh (pc := 15) (μ' := mX11_expandKeys) (As := [.int v]) (st := []) dX11_seal_15 zX11_expandKeys lX11_153 ⟨by decide, by decide⟩ rfl rfl ⟨by decide, by decide⟩ Sr.2.2.2.2.2.2.2.2.2.2 (by omega) rfl (Nat.le_of_ble_eq_true rfl) (qX11_expandKeys Sr hn v hky hτ) (fun h_4 r_ q_5 => ?_)
    obtain ⟨⟨rfl, Se, Fe⟩, hk, hk2⟩ := q_5
    refine R_aload_n (pc := 18) 1 dX11_seal_18 rfl rfl ?_
    refine R_get (pc := 19) dX11_seal_19 fX11_33 Se.2.2.2.2.2.2.2.2.2.2 (by omega) rfl ?_
    refine R_iconst (pc := 22) (v := 0) dX11_seal_22 (by decide) ?_
    refine R_callVh (pc := 23) (μ' := mX6_keep) (As := [.int (nI 0)]) (st := []) dX11_seal_23 zX6_keep lX11_123 ⟨by decide, by decide⟩ rfl rfl ⟨by decide, by decide⟩ (Se.rowO τ.2.1 hτ.r2) (by omega) rfl (Nat.le_of_ble_eq_true rfl) (S_keep Se hn hτ.r2 0 (by omega)) (fun h_6 r_ q_7 => ?_)
    obtain ⟨rfl, S_8, F_10⟩ := q_7
    have S_9 : Sys h_6 (ur ρ τ.2.1 ((ρ τ.2.1).take 0)) β (kyX κ v (ρ 2)) τ := by have z_ := S_8; (try simp only [ur_s, ur_ur, ur_n (x := 2) (r := τ.2.1) hm2, ur_n (x := 4) (r := τ.2.1) hm4, ur_n (x := 6) (r := τ.2.1) hm6, ur_n (x := 8) (r := τ.2.1) hm8, ur_n (x := 24) (r := τ.2.1) hm24] at z_); exact z_
    obtain ⟨ρ1, e1⟩ : ∃ x, x = ur ρ τ.2.1 ((ρ τ.2.1).take 0) := ⟨_, rfl⟩
    obtain ⟨κ1, ek1⟩ : ∃ x, x = kyX κ v (ρ 2) := ⟨_, rfl⟩
    have S1 : Sys h_6 ρ1 β κ1 τ := by rw [e1, ek1]; exact S_9
    have hm0 : ρ1 τ.2.1 = [] := by rw [e1, ur_s]; rfl
    have hA1 : ∀ r, r ≠ τ.2.1 → ρ1 r = ρ r := fun r_ h_ => by rw [e1]; exact ur_n h_
    have q4 : ρ1 4 = ρ 4 := hA1 4 hm4
    have q6 : ρ1 6 = ρ 6 := hA1 6 hm6
    have q8 : ρ1 8 = ρ 8 := hA1 8 hm8
    rw [← ek1] at hk hk2
    rw [← ek1]
    refine R_iload_n (pc := 26) 2 dX11_seal_26 rfl rfl ?_
    refine R_callSp (pc := 27) (μ' := mX11_isTagged) (As := [.int v]) (st := []) dX11_seal_27 zX11_isTagged lX11_156 ⟨by decide, by decide⟩ rfl rfl ⟨by decide, by decide⟩ rfl (Nat.le_of_ble_eq_true rfl) (qX11_isTagged l w _ _ _) ?_
    refine R_if_eq (pc := 30) (tgt := 61) dX11_seal_30 (by decide) (fun c_11 => ?_) (fun c_11 => ?_)
    · skip
      refine R_iload_n (pc := 61) 2 dX11_seal_61 rfl rfl ?_
      refine R_bipush (pc := 62) (v := 15) dX11_seal_62 (by decide) ?_
      refine R_icmp_ne (pc := 64) (tgt := 85) dX11_seal_64 (by decide) (fun c_12 => ?_) (fun c_12 => ?_)
      · skip
        refine R_aload_n (pc := 85) 1 dX11_seal_85 rfl rfl ?_
        refine R_iload_n (pc := 86) 2 dX11_seal_86 rfl rfl ?_
        refine R_callVh (pc := 87) (μ' := mX11_lockBare) (As := [.int v]) (st := []) dX11_seal_87 zX11_lockBare lX11_171 ⟨by decide, by decide⟩ rfl rfl ⟨by decide, by decide⟩ S1.2.2.2.2.2.2.2.2.2.2 (by omega) rfl (Nat.le_of_ble_eq_true rfl) (qX11_lockBare S1 hn hτ v k (kB_of hkN c_11 c_12) hm0 hk (fun h9_ => hk2 (w9 hkN h9_)) (by rw [q4]; exact hdt)) (fun h_13 r_ q_14 => ?_)
        obtain ⟨ρ2, β2, rfl, S2, hA2, hL2, F2⟩ := q_14
        refine R_aload_n (pc := 90) 1 dX11_seal_90 rfl rfl ?_
        refine R_callVh (pc := 91) (μ' := mX11_publish) (As := []) (st := []) dX11_seal_91 zX11_publish lX11_174 ⟨by decide, by decide⟩ rfl rfl ⟨by decide, by decide⟩ S2.2.2.2.2.2.2.2.2.2.2 (by omega) rfl (Nat.le_of_ble_eq_true rfl) (qX11_publish S2 hn hτ) (fun h_15 r_ q_16 => ?_)
        obtain ⟨rfl, Sp, Fp⟩ := q_16
        have hO : (ρ2 τ.2.1) = slO κ1 v (ρ 8) (ρ 6) (ρ 4) τ.2.2 (β 36) := by unfold slO; rw [if_pos c_11, if_neg c_12, hL2, q4, q6, hkc]
        exact R_ireturn (pc := 94) dX11_seal_94 rfl (by decide) (by decide) ⟨rfl, _, _, _, _, by rw [if_pos c_3, ← hO], Sp, hτ.sw, rfl, fun r_ h_ => (((hA2 r_ (by omega) (by omega)).trans (hA1 r_ (by omega)))), by rw [if_pos c_3]; exact hO, ((((Fr_.tr Fe).tr F_10).tr F2).tr Fp)⟩
      · skip
        refine R_aload_n (pc := 67) 1 dX11_seal_67 rfl rfl ?_
        refine R_get (pc := 68) dX11_seal_68 fX11_98 S1.2.2.2.2.2.2.2.2.2.2 (by omega) rfl ?_
        refine R_aload_n (pc := 71) 1 dX11_seal_71 rfl rfl ?_
        refine R_get (pc := 72) dX11_seal_72 fX11_18 S1.2.2.2.2.2.2.2.2.2.2 (by omega) rfl ?_
        refine R_aload_n (pc := 75) 1 dX11_seal_75 rfl rfl ?_
        refine R_get (pc := 76) dX11_seal_76 fX11_33 S1.2.2.2.2.2.2.2.2.2.2 (by omega) rfl ?_
        refine R_callVh (pc := 79) (μ' := mX4_lockMade) (As := [.ref 4, .ref τ.2.1]) (st := []) dX11_seal_79 zX4_lockMade lX11_167 ⟨by decide, by decide⟩ rfl rfl ⟨by decide, by decide⟩ S1.2.2.2.2.2.2.2.2.1 (by omega) rfl (Nat.le_of_ble_eq_true rfl) (qX4_lockMade S1 hn (t := 4) rfl hm hm4 (by decide) hm24 hm6 hm8 hk (hk2 (by rw [c_12]; decide)) (by rw [q4]; omega) (by rw [hm0, q4, List.length_nil]; omega)) (fun h_17 r_ q_18 => ?_)
        obtain ⟨β2, hB2, rfl, S2, F2⟩ := q_18
        obtain ⟨ρ2, e2⟩ : ∃ x, x = ur (ur ρ1 24 (layE (ρ1 4) (vst (eK (κ1 16)) (ρ1 6) (vst (eK (κ1 16)) (ρ1 8) (v0 (eK (κ1 16))))))) τ.2.1 (ρ1 τ.2.1 ++ bt (mdV (eK (κ1 16)) (ρ1 8) (ρ1 6) (ρ1 4)) 16 ++ ctO (eK (κ1 20)) (ρ1 4) (cfm (mdV (eK (κ1 16)) (ρ1 8) (ρ1 6) (ρ1 4)))) := ⟨_, rfl⟩
        rw [← e2] at S2
        have hL2 : ρ2 τ.2.1 = bt (mdV (eK (κ1 16)) (ρ1 8) (ρ1 6) (ρ1 4)) 16 ++ ctO (eK (κ1 20)) (ρ1 4) (cfm (mdV (eK (κ1 16)) (ρ1 8) (ρ1 6) (ρ1 4))) := by rw [e2, ur_s, hm0, List.nil_append]
        have hA2 : ∀ r, r ≠ 24 → r ≠ τ.2.1 → ρ2 r = ρ1 r := fun r_ a_ b_ => by rw [e2, ur_n b_, ur_n a_]
        refine R_goto (pc := 82) (tgt := 90) dX11_seal_82 (by decide) ?_
        refine R_aload_n (pc := 90) 1 dX11_seal_90 rfl rfl ?_
        refine R_callVh (pc := 91) (μ' := mX11_publish) (As := []) (st := []) dX11_seal_91 zX11_publish lX11_174 ⟨by decide, by decide⟩ rfl rfl ⟨by decide, by decide⟩ S2.2.2.2.2.2.2.2.2.2.2 (by omega) rfl (Nat.le_of_ble_eq_true rfl) (qX11_publish S2 hn hτ) (fun h_19 r_ q_20 => ?_)
        obtain ⟨rfl, Sp, Fp⟩ := q_20
        have hO : (ρ2 τ.2.1) = slO κ1 v (ρ 8) (ρ 6) (ρ 4) τ.2.2 (β 36) := by unfold slO; rw [if_pos c_11, if_pos c_12, hL2, q4, q6, q8]
        exact R_ireturn (pc := 94) dX11_seal_94 rfl (by decide) (by decide) ⟨rfl, _, _, _, _, by rw [if_pos c_3, ← hO], Sp, hτ.sw, rfl, fun r_ h_ => (((hA2 r_ (by omega) (by omega)).trans (hA1 r_ (by omega)))), by rw [if_pos c_3]; exact hO, ((((Fr_.tr Fe).tr F_10).tr F2).tr Fp)⟩
    · skip
      refine R_aload_n (pc := 33) 1 dX11_seal_33 rfl rfl ?_
      refine R_iload_n (pc := 34) 2 dX11_seal_34 rfl rfl ?_
      refine R_aload_n (pc := 35) 1 dX11_seal_35 rfl rfl ?_
      refine R_get (pc := 36) dX11_seal_36 fX11_18 S1.2.2.2.2.2.2.2.2.2.2 (by omega) rfl ?_
      refine R_iconst (pc := 39) (v := 0) dX11_seal_39 (by decide) ?_
      refine R_callVh (pc := 40) (μ' := mX11_runTagged) (As := [.int v, .ref 4, .int 0]) (st := []) dX11_seal_40 zX11_runTagged lX11_159 ⟨by decide, by decide⟩ rfl rfl ⟨by decide, by decide⟩ S1.2.2.2.2.2.2.2.2.2.2 (by omega) rfl (Nat.le_of_ble_eq_true rfl) (qX11_runTagged S1 hn hτ v k (kT_of hkN c_11) (t := 4) rfl hm4 (by decide) (by rw [q4]; omega) 0 hm0 hk (by rw [q6]; exact hst)) (fun h_21 r_ q_22 => ?_)
      obtain ⟨ρ2, β2, rfl, S2, hA2, hL2, hT2, hD2, F2⟩ := q_22
      refine R_aload_n (pc := 43) 1 dX11_seal_43 rfl rfl ?_
      refine R_get (pc := 44) dX11_seal_44 fX11_33 S2.2.2.2.2.2.2.2.2.2.2 (by omega) rfl ?_
      refine R_aload_n (pc := 47) 1 dX11_seal_47 rfl rfl ?_
      refine R_get (pc := 48) dX11_seal_48 fX11_112 S2.2.2.2.2.2.2.2.2.2.2 (by omega) rfl ?_
      refine R_aload_n (pc := 51) 1 dX11_seal_51 rfl rfl ?_
      refine R_get (pc := 52) dX11_seal_52 fX11_36 S2.2.2.2.2.2.2.2.2.2.2 (by omega) rfl ?_
      refine R_callVh (pc := 55) (μ' := mX6_appendBlock) (As := [.ref 59, .int (nI τ.2.2)]) (st := []) dX11_seal_55 zX6_appendBlock lX11_163 ⟨by decide, by decide⟩ rfl rfl ⟨by decide, by decide⟩ (S2.rowO τ.2.1 hτ.r2) (by omega) rfl (Nat.le_of_ble_eq_true rfl) (S_appendBlock S2 hn hτ.r2 rfl τ.2.2 (by rw [hL2, rtL_len _ _ _ _ _ _ (by rw [q4]; omega), q4]; omega)) (fun h_23 r_ q_24 => ?_)
      obtain ⟨rfl, S_25, F_27⟩ := q_24
      have S_26 : Sys h_23 (ur ρ2 τ.2.1 ((ρ2 τ.2.1) ++ bt (β2 59) τ.2.2)) β2 κ1 τ := by have z_ := S_25; (try simp only [ur_s, ur_ur, ur_n (x := 2) (r := τ.2.1) hm2, ur_n (x := 4) (r := τ.2.1) hm4, ur_n (x := 6) (r := τ.2.1) hm6, ur_n (x := 8) (r := τ.2.1) hm8, ur_n (x := 24) (r := τ.2.1) hm24] at z_); exact z_
      refine R_goto (pc := 58) (tgt := 90) dX11_seal_58 (by decide) ?_
      refine R_aload_n (pc := 90) 1 dX11_seal_90 rfl rfl ?_
      refine R_callVh (pc := 91) (μ' := mX11_publish) (As := []) (st := []) dX11_seal_91 zX11_publish lX11_174 ⟨by decide, by decide⟩ rfl rfl ⟨by decide, by decide⟩ S_26.2.2.2.2.2.2.2.2.2.2 (by omega) rfl (Nat.le_of_ble_eq_true rfl) (qX11_publish S_26 hn hτ) (fun h_28 r_ q_29 => ?_)
      obtain ⟨rfl, Sp, Fp⟩ := q_29
      have hO : ((ρ2 τ.2.1) ++ bt (β2 59) τ.2.2) = slO κ1 v (ρ 8) (ρ 6) (ρ 4) τ.2.2 (β 36) := by unfold slO; rw [if_neg c_11, hkc, hL2, hT2, q4, q6, q8]
      exact R_ireturn (pc := 94) dX11_seal_94 rfl (by decide) (by decide) ⟨rfl, _, _, _, _, by rw [if_pos c_3, ← hO, ur_s], Sp, hτ.sw, rfl, fun r_ h_ => ((ur_n (by omega)).trans ((hA2 r_ (by omega) (by omega)).trans (hA1 r_ (by omega)))), by rw [if_pos c_3]; exact (ur_s _ _ _).trans hO, (((((Fr_.tr Fe).tr F_10).tr F2).tr F_27).tr Fp)⟩
  · skip
    refine R_iload_n (pc := 11) 0 dX11_seal_11 rfl rfl ?_
    exact R_ireturn (pc := 12) dX11_seal_12 rfl (by decide) (by decide) ⟨rfl, ρ, β, κ, τ, by rw [if_neg c_3], Sr, hτ, rfl, fun _ _ => rfl, by rw [if_neg c_3], Fr_⟩
set_option maxHeartbeats 4000000 in
set_option maxRecDepth 100000 in
theorem qX11_open {l : Launch} {w : am_W} {h : am_H} {n : Nat} {ρ : Nat → List (BitVec 8)} {β : Nat → bP} {κ : Nat → kT} {τ : Nat × Nat × Nat} (S : Sys h ρ β κ τ) (hn : 60 ≤ n) (hτ : tOk τ) (v : Int32) : RH l w mX11_open h n [.ref 1, .int v] (WX h τ ρ (if 0 ≤ rfV v 1 (ρ 2).length (ρ 6).length (ρ 4).length τ.2.2 then (if uoC (kyX κ v (ρ 2)) v (ρ 8) (ρ 6) (ρ 4) τ.2.2 = 0 then -6 else nI (uoL (kyX κ v (ρ 2)) v (ρ 6) (ρ 4) τ.2.2).length) else rfV v 1 (ρ 2).length (ρ 6).length (ρ 4).length τ.2.2) (if 0 ≤ rfV v 1 (ρ 2).length (ρ 6).length (ρ 4).length τ.2.2 then (if uoC (kyX κ v (ρ 2)) v (ρ 8) (ρ 6) (ρ 4) τ.2.2 = 0 then ρ τ.1 else uoL (kyX κ v (ρ 2)) v (ρ 6) (ρ 4) τ.2.2) else ρ τ.1)) := by
  refine RC.of [(0, .ref 1), (1, .int v)] (by decide +kernel) rfl (Nat.le_of_ble_eq_true rfl) ?_
  have hl2 : (ρ 2).length ≤ 64 := (S.1 2 rfl).1
  have hl4 : (ρ 4).length ≤ 512 := (S.1 4 rfl).1
  have hl6 : (ρ 6).length ≤ 64 := (S.1 6 rfl).1
  have hl8 : (ρ 8).length ≤ 256 := (S.1 8 rfl).1
  have hm := hτ.r2
  have hmc : (τ.1 = 12 ∧ τ.2.1 = 14) ∨ (τ.1 = 14 ∧ τ.2.1 = 12) := hτ.1
  have hmN : rwN τ.2.1 = 528 := by rcases hmc with ⟨-, a⟩ | ⟨-, a⟩ <;> rw [a] <;> rfl
  have hm4 : (4 : Nat) ≠ τ.2.1 := by omega
  have hm6 : (6 : Nat) ≠ τ.2.1 := by omega
  have hm8 : (8 : Nat) ≠ τ.2.1 := by omega
  have hm10 : (10 : Nat) ≠ τ.2.1 := by omega
  have hm2 : (2 : Nat) ≠ τ.2.1 := by omega
  have hm24 : (24 : Nat) ≠ τ.2.1 := by omega
  have ht16 := hτ.2
  have hN10 : rwN 10 = 512 := rfl
  refine R_aload_n (pc := 0) 0 dX11_open_0 rfl rfl ?_
  refine R_iload_n (pc := 1) 1 dX11_open_1 rfl rfl ?_
  refine R_iconst (pc := 2) (v := 1) dX11_open_2 (by decide) ?_
  refine R_callVh (pc := 3) (μ' := mX11_refusalOf) (As := [.int v, .int 1]) (st := []) dX11_open_3 zX11_refusalOf lX11_149 ⟨by decide, by decide⟩ rfl rfl ⟨by decide, by decide⟩ S.2.2.2.2.2.2.2.2.2.2 (by omega) rfl (Nat.le_of_ble_eq_true rfl) (qX11_refusalOf S hn hτ v 1) (fun h_1 r_ q_2 => ?_)
  obtain ⟨rfl, Sr, Fr_⟩ := q_2
  refine R_istore_n (pc := 6) (lv' := [(2, .int (rfV v 1 (ρ 2).length (ρ 6).length (ρ 4).length τ.2.2)), (0, .ref 1), (1, .int v)]) dX11_open_6 rfl (by decide) rfl ?_
  refine R_iload_n (pc := 7) 0 dX11_open_7 rfl rfl ?_
  refine R_if_ge (pc := 8) (tgt := 13) dX11_open_8 (by decide) (fun c_3 => ?_) (fun c_3 => ?_)
  · skip
    obtain ⟨k, hkN, hkc, hky, hst, hdt⟩ := rf_of c_3
    refine R_aload_n (pc := 13) 1 dX11_open_13 rfl rfl ?_
    refine R_iload_n (pc := 14) 2 dX11_open_14 rfl rfl ?_
    refine R_callVh (pc := 15) (μ' := mX11_expandKeys) (As := [.int v]) (st := []) dX11_open_15 zX11_expandKeys lX11_153 ⟨by decide, by decide⟩ rfl rfl ⟨by decide, by decide⟩ Sr.2.2.2.2.2.2.2.2.2.2 (by omega) rfl (Nat.le_of_ble_eq_true rfl) (qX11_expandKeys Sr hn v hky hτ) (fun h_4 r_ q_5 => ?_)
    obtain ⟨⟨rfl, Se, Fe⟩, hk, hk2⟩ := q_5
    refine R_aload_n (pc := 18) 1 dX11_open_18 rfl rfl ?_
    refine R_get (pc := 19) dX11_open_19 fX11_33 Se.2.2.2.2.2.2.2.2.2.2 (by omega) rfl ?_
    refine R_iconst (pc := 22) (v := 0) dX11_open_22 (by decide) ?_
    refine R_callVh (pc := 23) (μ' := mX6_keep) (As := [.int (nI 0)]) (st := []) dX11_open_23 zX6_keep lX11_123 ⟨by decide, by decide⟩ rfl rfl ⟨by decide, by decide⟩ (Se.rowO τ.2.1 hτ.r2) (by omega) rfl (Nat.le_of_ble_eq_true rfl) (S_keep Se hn hτ.r2 0 (by omega)) (fun h_6 r_ q_7 => ?_)
    obtain ⟨rfl, S_8, F_10⟩ := q_7
    have S_9 : Sys h_6 (ur ρ τ.2.1 ((ρ τ.2.1).take 0)) β (kyX κ v (ρ 2)) τ := by have z_ := S_8; (try simp only [ur_s, ur_ur, ur_n (x := 2) (r := τ.2.1) hm2, ur_n (x := 4) (r := τ.2.1) hm4, ur_n (x := 6) (r := τ.2.1) hm6, ur_n (x := 8) (r := τ.2.1) hm8, ur_n (x := 24) (r := τ.2.1) hm24] at z_); exact z_
    obtain ⟨ρ1, e1⟩ : ∃ x, x = ur ρ τ.2.1 ((ρ τ.2.1).take 0) := ⟨_, rfl⟩
    obtain ⟨κ1, ek1⟩ : ∃ x, x = kyX κ v (ρ 2) := ⟨_, rfl⟩
    have S1 : Sys h_6 ρ1 β κ1 τ := by rw [e1, ek1]; exact S_9
    have hm0 : ρ1 τ.2.1 = [] := by rw [e1, ur_s]; rfl
    have hA1 : ∀ r, r ≠ τ.2.1 → ρ1 r = ρ r := fun r_ h_ => by rw [e1]; exact ur_n h_
    have q4 : ρ1 4 = ρ 4 := hA1 4 hm4
    have q6 : ρ1 6 = ρ 6 := hA1 6 hm6
    have q8 : ρ1 8 = ρ 8 := hA1 8 hm8
    rw [← ek1] at hk hk2
    rw [← ek1]
    refine R_iload_n (pc := 26) 2 dX11_open_26 rfl rfl ?_
    refine R_callSp (pc := 27) (μ' := mX11_isTagged) (As := [.int v]) (st := []) dX11_open_27 zX11_isTagged lX11_156 ⟨by decide, by decide⟩ rfl rfl ⟨by decide, by decide⟩ rfl (Nat.le_of_ble_eq_true rfl) (qX11_isTagged l w _ _ _) ?_
    refine R_if_eq (pc := 30) (tgt := 110) dX11_open_30 (by decide) (fun c_11 => ?_) (fun c_11 => ?_)
    · skip
      refine R_iload_n (pc := 110) 2 dX11_open_110 rfl rfl ?_
      refine R_bipush (pc := 111) (v := 15) dX11_open_111 (by decide) ?_
      refine R_icmp_ne (pc := 113) (tgt := 171) dX11_open_113 (by decide) (fun c_12 => ?_) (fun c_12 => ?_)
      · skip
        refine R_aload_n (pc := 171) 1 dX11_open_171 rfl rfl ?_
        refine R_iload_n (pc := 172) 2 dX11_open_172 rfl rfl ?_
        refine R_callVh (pc := 173) (μ' := mX11_unlockBare) (As := [.int v]) (st := []) dX11_open_173 zX11_unlockBare lX11_197 ⟨by decide, by decide⟩ rfl rfl ⟨by decide, by decide⟩ S1.2.2.2.2.2.2.2.2.2.2 (by omega) rfl (Nat.le_of_ble_eq_true rfl) (qX11_unlockBare S1 hn hτ v k (kB_of hkN c_11 c_12) hm0 hk (fun h9_ => hk2 (w9 hkN h9_)) (by rw [q4]; exact hdt)) (fun h_13 r_ q_14 => ?_)
        obtain ⟨ρ2, β2, rfl, S2, hA2, hL2, F2⟩ := q_14
        rw [show ubL k (κ1 16) (κ1 20) (ρ1 6) (ρ1 4) = uoL κ1 v (ρ 6) (ρ 4) τ.2.2 from by unfold uoL; rw [if_pos c_11, if_neg c_12, hkc, q4, q6]] at hL2
        have hAb : ∀ r, r ≠ τ.2.1 → r ≠ 10 → ρ1 r = ρ r := fun r_ a_ _ => hA1 r_ a_
        refine R_eqi (y := uoC κ1 v (ρ 8) (ρ 6) (ρ 4) τ.2.2) (by unfold uoC; rw [if_pos c_11, if_neg c_12, hkc, q4, q6]) ?_
        refine R_istore_n (pc := 176) (lv' := [(3, .int (uoC κ1 v (ρ 8) (ρ 6) (ρ 4) τ.2.2)), (2, .int (rfV v 1 (ρ 2).length (ρ 6).length (ρ 4).length τ.2.2)), (0, .ref 1), (1, .int v)]) dX11_open_176 rfl (by decide) rfl ?_
        refine R_iload_n (pc := 177) 0 dX11_open_177 rfl rfl ?_
        refine R_if_eq (pc := 178) (tgt := 188) dX11_open_178 (by decide) (fun c_15 => ?_) (fun c_15 => ?_)
        · skip
          refine R_bipush (pc := 188) (v := (-6)) dX11_open_188 (by decide) ?_
          exact R_ireturn (pc := 190) dX11_open_190 rfl (by decide) (by decide) ⟨rfl, _, _, _, _, by rw [if_pos c_3, if_pos c_15], S2, hτ, rfl, fun r_ h_ => (hA2 r_ (by omega) (by omega)).trans (hAb r_ (by omega) (by omega)), by rw [if_pos c_3, if_pos c_15]; exact (hA2 _ (by omega) (by omega)).trans (hAb _ (by omega) (by omega)), (((Fr_.tr Fe).tr F_10).tr F2)⟩
        · skip
          refine R_aload_n (pc := 181) 2 dX11_open_181 rfl rfl ?_
          refine R_callVh (pc := 182) (μ' := mX11_publish) (As := []) (st := []) dX11_open_182 zX11_publish lX11_174 ⟨by decide, by decide⟩ rfl rfl ⟨by decide, by decide⟩ S2.2.2.2.2.2.2.2.2.2.2 (by omega) rfl (Nat.le_of_ble_eq_true rfl) (qX11_publish S2 hn hτ) (fun h_16 r_ q_17 => ?_)
          obtain ⟨rfl, Sp, Fp⟩ := q_17
          refine R_goto (pc := 185) (tgt := 190) dX11_open_185 (by decide) ?_
          exact R_ireturn (pc := 190) dX11_open_190 rfl (by decide) (by decide) ⟨rfl, _, _, _, _, by rw [if_pos c_3, if_neg c_15, ← hL2], Sp, hτ.sw, rfl, fun r_ h_ => (hA2 r_ (by omega) (by omega)).trans (hAb r_ (by omega) (by omega)), by rw [if_pos c_3, if_neg c_15]; exact hL2, ((((Fr_.tr Fe).tr F_10).tr F2).tr Fp)⟩
      · skip
        have k15 : k = 15 := by rw [← hkc, c_12]; rfl
        have h16 : 16 ≤ (ρ 4).length := dt15 (t := τ.2.2) (by omega) (by rw [k15] at hdt; exact hdt)
        refine R_aload_n (pc := 116) 1 dX11_open_116 rfl rfl ?_
        refine R_get (pc := 117) dX11_open_117 fX11_116 S1.2.2.2.2.2.2.2.2.2.2 (by omega) rfl ?_
        refine R_aload_n (pc := 120) 1 dX11_open_120 rfl rfl ?_
        refine R_get (pc := 121) dX11_open_121 fX11_18 S1.2.2.2.2.2.2.2.2.2.2 (by omega) rfl ?_
        refine R_iconst (pc := 124) (v := 0) dX11_open_124 (by decide) ?_
        refine R_callVh (pc := 125) (μ' := mX0_read) (As := [.ref 4, .int (nI 0)]) (st := []) dX11_open_125 zX0_read lX11_182 ⟨by decide, by decide⟩ rfl rfl ⟨by decide, by decide⟩ (S1.blk 60 rfl) (by omega) rfl (Nat.le_of_ble_eq_true rfl) (S_read S1 hn rfl rfl 0 (by omega)) (fun h_18 r_ q_19 => ?_)
        obtain ⟨rfl, S_20, F_22⟩ := q_19
        have S_21 : Sys h_18 ρ1 (ub β 60 (rd (ρ1 4) 0)) κ1 τ := S_20
        refine R_aload_n (pc := 128) 1 dX11_open_128 rfl rfl ?_
        refine R_get (pc := 129) dX11_open_129 fX11_27 S_21.2.2.2.2.2.2.2.2.2.2 (by omega) rfl ?_
        refine R_aload_n (pc := 132) 1 dX11_open_132 rfl rfl ?_
        refine R_get (pc := 133) dX11_open_133 fX11_18 S_21.2.2.2.2.2.2.2.2.2.2 (by omega) rfl ?_
        refine R_bipush (pc := 136) (v := 16) dX11_open_136 (by decide) ?_
        refine R_aload_n (pc := 138) 1 dX11_open_138 rfl rfl ?_
        refine R_get (pc := 139) dX11_open_139 fX11_18 S_21.2.2.2.2.2.2.2.2.2.2 (by omega) rfl ?_
        skip
        refine R_get (pc := 142) dX11_open_142 fX11_133 (S_21.rowO 4 rfl) (by omega) rfl ?_
        refine R_eqi (y := nI (ρ1 4).length) (by first | rfl | (simp only [ur_s, ur_ur])) ?_
        refine R_eqi (y := nI (16 + ((ρ 4).length - 16))) (by rw [q4]; exact congrArg nI (by omega)) ?_
        refine R_callVh (pc := 145) (μ' := mX6_copyPart) (As := [.ref 4, .int (nI 16), .int (nI (16 + ((ρ 4).length - 16)))]) (st := []) dX11_open_145 zX6_copyPart lX11_178 ⟨by decide, by decide⟩ rfl rfl ⟨by decide, by decide⟩ (S_21.rowO 10 rfl) (by omega) rfl (Nat.le_of_ble_eq_true rfl) (S_copyPart S_21 hn rfl rfl (by decide) 16 ((ρ 4).length - 16) (by omega) (by omega)) (fun h_23 r_ q_24 => ?_)
        obtain ⟨rfl, S_25, F_27⟩ := q_24
        have S_26 : Sys h_23 (ur ρ1 10 (sl (ρ1 4) 16 ((ρ 4).length - 16))) (ub β 60 (rd (ρ1 4) 0)) κ1 τ := by have z_ := S_25; (try simp only [ur_s, ur_ur, ur_n (x := τ.2.1) (r := 10) (Ne.symm hm10), ur_n (x := 2) (r := 10) (by decide), ur_n (x := 4) (r := 10) (by decide), ur_n (x := 6) (r := 10) (by decide), ur_n (x := 8) (r := 10) (by decide), ur_n (x := 24) (r := 10) (by decide)] at z_); exact z_
        obtain ⟨ρb, eb⟩ : ∃ x, x = ur ρ1 10 (sl (ρ1 4) 16 ((ρ 4).length - 16)) := ⟨_, rfl⟩
        have Sb : Sys h_23 ρb (ub β 60 (rd (ρ1 4) 0)) κ1 τ := by rw [eb]; exact S_26
        have hm0b : ρb τ.2.1 = [] := by rw [eb, ur_n (Ne.symm hm10)]; exact hm0
        have q4b : ρb 4 = ρ 4 := by rw [eb, ur_n (by decide)]; exact q4
        have q6b : ρb 6 = ρ 6 := by rw [eb, ur_n (by decide)]; exact q6
        have q8b : ρb 8 = ρ 8 := by rw [eb, ur_n (by decide)]; exact q8
        have hAb : ∀ r, r ≠ τ.2.1 → r ≠ 10 → ρb r = ρ r := fun r_ a_ b_ => by rw [eb, ur_n b_]; exact hA1 r_ a_
        have hb10 : ρb 10 = sl (ρ 4) 16 ((ρ 4).length - 16) := by rw [eb, ur_s, q4]
        refine R_aload_n (pc := 148) 1 dX11_open_148 rfl rfl ?_
        refine R_get (pc := 149) dX11_open_149 fX11_98 Sb.2.2.2.2.2.2.2.2.2.2 (by omega) rfl ?_
        refine R_aload_n (pc := 152) 1 dX11_open_152 rfl rfl ?_
        refine R_get (pc := 153) dX11_open_153 fX11_116 Sb.2.2.2.2.2.2.2.2.2.2 (by omega) rfl ?_
        refine R_aload_n (pc := 156) 1 dX11_open_156 rfl rfl ?_
        refine R_get (pc := 157) dX11_open_157 fX11_27 Sb.2.2.2.2.2.2.2.2.2.2 (by omega) rfl ?_
        refine R_aload_n (pc := 160) 1 dX11_open_160 rfl rfl ?_
        refine R_get (pc := 161) dX11_open_161 fX11_33 Sb.2.2.2.2.2.2.2.2.2.2 (by omega) rfl ?_
        refine R_callVh (pc := 164) (μ' := mX4_unlockMade) (As := [.ref 60, .ref 10, .ref τ.2.1]) (st := []) dX11_open_164 zX4_unlockMade lX11_193 ⟨by decide, by decide⟩ rfl rfl ⟨by decide, by decide⟩ Sb.2.2.2.2.2.2.2.2.1 (by omega) rfl (Nat.le_of_ble_eq_true rfl) (qX4_unlockMade Sb hn (t := 10) rfl hm hm10 (by decide) hm24 hm6 hm8 hk (hk2 (by rw [c_12]; decide)) (by rw [hm0b, hb10, sl_len, List.length_nil]; omega) (by rw [hm0b, hb10, sl_len, List.length_nil]; omega)) (fun h_28 r_ q_29 => ?_)
        obtain ⟨β2, hB2, rfl, S2, F2⟩ := q_29
        have e60 : (ub β 60 (rd (ρ1 4) 0)) 60 = rd (ρ 4) 0 := by rw [show (ub β 60 (rd (ρ1 4) 0)) 60 = rd (ρ1 4) 0 from rfl, q4]
        obtain ⟨ρ2, e2⟩ : ∃ x, x = ur (ur ρb τ.2.1 (ρb τ.2.1 ++ ctO (eK (κ1 20)) (ρb 10) (cfm ((ub β 60 (rd (ρ1 4) 0)) 60)))) 24 (layE (ρb τ.2.1 ++ ctO (eK (κ1 20)) (ρb 10) (cfm ((ub β 60 (rd (ρ1 4) 0)) 60))) (vst (eK (κ1 16)) (ρb 6) (vst (eK (κ1 16)) (ρb 8) (v0 (eK (κ1 16)))))) := ⟨_, rfl⟩
        rw [← e2] at S2
        have hL2 : ρ2 τ.2.1 = uoL κ1 v (ρ 6) (ρ 4) τ.2.2 := by rw [e2, ur_n (Ne.symm hm24), ur_s, hm0b, List.nil_append, hb10, e60]; unfold uoL; rw [if_pos c_11, if_pos c_12]
        have hA2 : ∀ r, r ≠ 24 → r ≠ τ.2.1 → ρ2 r = ρb r := fun r_ a_ b_ => by rw [e2, ur_n a_, ur_n b_]
        refine R_eqi (y := uoC κ1 v (ρ 8) (ρ 6) (ρ 4) τ.2.2) (by rw [hm0b, List.nil_append, hb10, e60, q6b, q8b]; unfold uoC; rw [if_pos c_11, if_pos c_12]) ?_
        refine R_istore_n (pc := 167) (lv' := [(3, .int (uoC κ1 v (ρ 8) (ρ 6) (ρ 4) τ.2.2)), (2, .int (rfV v 1 (ρ 2).length (ρ 6).length (ρ 4).length τ.2.2)), (0, .ref 1), (1, .int v)]) dX11_open_167 rfl (by decide) rfl ?_
        refine R_goto (pc := 168) (tgt := 177) dX11_open_168 (by decide) ?_
        refine R_iload_n (pc := 177) 0 dX11_open_177 rfl rfl ?_
        refine R_if_eq (pc := 178) (tgt := 188) dX11_open_178 (by decide) (fun c_30 => ?_) (fun c_30 => ?_)
        · skip
          refine R_bipush (pc := 188) (v := (-6)) dX11_open_188 (by decide) ?_
          exact R_ireturn (pc := 190) dX11_open_190 rfl (by decide) (by decide) ⟨rfl, _, _, _, _, by rw [if_pos c_3, if_pos c_30], S2, hτ, rfl, fun r_ h_ => (hA2 r_ (by omega) (by omega)).trans (hAb r_ (by omega) (by omega)), by rw [if_pos c_3, if_pos c_30]; exact (hA2 _ (by omega) (by omega)).trans (hAb _ (by omega) (by omega)), (((((Fr_.tr Fe).tr F_10).tr F_22).tr F_27).tr F2)⟩
        · skip
          refine R_aload_n (pc := 181) 2 dX11_open_181 rfl rfl ?_
          refine R_callVh (pc := 182) (μ' := mX11_publish) (As := []) (st := []) dX11_open_182 zX11_publish lX11_174 ⟨by decide, by decide⟩ rfl rfl ⟨by decide, by decide⟩ S2.2.2.2.2.2.2.2.2.2.2 (by omega) rfl (Nat.le_of_ble_eq_true rfl) (qX11_publish S2 hn hτ) (fun h_31 r_ q_32 => ?_)
          obtain ⟨rfl, Sp, Fp⟩ := q_32
          refine R_goto (pc := 185) (tgt := 190) dX11_open_185 (by decide) ?_
          exact R_ireturn (pc := 190) dX11_open_190 rfl (by decide) (by decide) ⟨rfl, _, _, _, _, by rw [if_pos c_3, if_neg c_30, ← hL2], Sp, hτ.sw, rfl, fun r_ h_ => (hA2 r_ (by omega) (by omega)).trans (hAb r_ (by omega) (by omega)), by rw [if_pos c_3, if_neg c_30]; exact hL2, ((((((Fr_.tr Fe).tr F_10).tr F_22).tr F_27).tr F2).tr Fp)⟩
    · skip
      have htl := dtT (by omega) (by omega) (kTt hkN c_11 hdt)
      refine R_aload_n (pc := 33) 1 dX11_open_33 rfl rfl ?_
      refine R_get (pc := 34) dX11_open_34 fX11_18 S1.2.2.2.2.2.2.2.2.2.2 (by omega) rfl ?_
      skip
      refine R_get (pc := 37) dX11_open_37 fX11_133 (S1.rowO 4 rfl) (by omega) rfl ?_
      refine R_eqi (y := nI (ρ1 4).length) (by first | rfl | (simp only [ur_s, ur_ur])) ?_
      refine R_aload_n (pc := 40) 1 dX11_open_40 rfl rfl ?_
      refine R_get (pc := 41) dX11_open_41 fX11_36 S1.2.2.2.2.2.2.2.2.2.2 (by omega) rfl ?_
      refine R_isub (pc := 44) dX11_open_44 ?_
      refine R_eqi (y := nI ((ρ 4).length - τ.2.2)) (by rw [q4]; exact nI_sub htl) ?_
      refine R_istore (pc := 45) (lv' := [(4, .int (nI ((ρ 4).length - τ.2.2))), (2, .int (rfV v 1 (ρ 2).length (ρ 6).length (ρ 4).length τ.2.2)), (0, .ref 1), (1, .int v)]) dX11_open_45 (by decide) rfl ?_
      refine R_aload_n (pc := 47) 2 dX11_open_47 rfl rfl ?_
      refine R_get (pc := 48) dX11_open_48 fX11_27 S1.2.2.2.2.2.2.2.2.2.2 (by omega) rfl ?_
      refine R_aload_n (pc := 51) 2 dX11_open_51 rfl rfl ?_
      refine R_get (pc := 52) dX11_open_52 fX11_18 S1.2.2.2.2.2.2.2.2.2.2 (by omega) rfl ?_
      refine R_iconst (pc := 55) (v := 0) dX11_open_55 (by decide) ?_
      refine R_iload (pc := 56) 0 dX11_open_56 rfl ?_
      refine R_eqi (y := nI (0 + ((ρ 4).length - τ.2.2))) (by rw [Nat.zero_add]) ?_
      refine R_callVh (pc := 58) (μ' := mX6_copyPart) (As := [.ref 4, .int (nI 0), .int (nI (0 + ((ρ 4).length - τ.2.2)))]) (st := []) dX11_open_58 zX6_copyPart lX11_178 ⟨by decide, by decide⟩ rfl rfl ⟨by decide, by decide⟩ (S1.rowO 10 rfl) (by omega) rfl (Nat.le_of_ble_eq_true rfl) (S_copyPart S1 hn rfl rfl (by decide) 0 ((ρ 4).length - τ.2.2) (by omega) (by omega)) (fun h_33 r_ q_34 => ?_)
      obtain ⟨rfl, S_35, F_37⟩ := q_34
      have S_36 : Sys h_33 (ur ρ1 10 (sl (ρ1 4) 0 ((ρ 4).length - τ.2.2))) β κ1 τ := by have z_ := S_35; (try simp only [ur_s, ur_ur, ur_n (x := τ.2.1) (r := 10) (Ne.symm hm10), ur_n (x := 2) (r := 10) (by decide), ur_n (x := 4) (r := 10) (by decide), ur_n (x := 6) (r := 10) (by decide), ur_n (x := 8) (r := 10) (by decide), ur_n (x := 24) (r := 10) (by decide)] at z_); exact z_
      obtain ⟨ρb, eb⟩ : ∃ x, x = ur ρ1 10 (sl (ρ1 4) 0 ((ρ 4).length - τ.2.2)) := ⟨_, rfl⟩
      have Sb : Sys h_33 ρb β κ1 τ := by rw [eb]; exact S_36
      have hm0b : ρb τ.2.1 = [] := by rw [eb, ur_n (Ne.symm hm10)]; exact hm0
      have q4b : ρb 4 = ρ 4 := by rw [eb, ur_n (by decide)]; exact q4
      have q6b : ρb 6 = ρ 6 := by rw [eb, ur_n (by decide)]; exact q6
      have q8b : ρb 8 = ρ 8 := by rw [eb, ur_n (by decide)]; exact q8
      have hAb : ∀ r, r ≠ τ.2.1 → r ≠ 10 → ρb r = ρ r := fun r_ a_ b_ => by rw [eb, ur_n b_]; exact hA1 r_ a_
      have hb10 : ρb 10 = sl (ρ 4) 0 ((ρ 4).length - τ.2.2) := by rw [eb, ur_s, q4]
      refine R_aload_n (pc := 61) 2 dX11_open_61 rfl rfl ?_
      refine R_get (pc := 62) dX11_open_62 fX11_116 Sb.2.2.2.2.2.2.2.2.2.2 (by omega) rfl ?_
      refine R_aload_n (pc := 65) 2 dX11_open_65 rfl rfl ?_
      refine R_get (pc := 66) dX11_open_66 fX11_18 Sb.2.2.2.2.2.2.2.2.2.2 (by omega) rfl ?_
      refine R_iload (pc := 69) 0 dX11_open_69 rfl ?_
      refine R_callVh (pc := 71) (μ' := mX0_read) (As := [.ref 4, .int (nI ((ρ 4).length - τ.2.2))]) (st := []) dX11_open_71 zX0_read lX11_182 ⟨by decide, by decide⟩ rfl rfl ⟨by decide, by decide⟩ (Sb.blk 60 rfl) (by omega) rfl (Nat.le_of_ble_eq_true rfl) (S_read Sb hn rfl rfl ((ρ 4).length - τ.2.2) (by omega)) (fun h_38 r_ q_39 => ?_)
      obtain ⟨rfl, S_40, F_42⟩ := q_39
      have S_41 : Sys h_38 ρb (ub β 60 (rd (ρb 4) ((ρ 4).length - τ.2.2))) κ1 τ := S_40
      refine R_aload_n (pc := 74) 2 dX11_open_74 rfl rfl ?_
      refine R_iload_n (pc := 75) 3 dX11_open_75 rfl rfl ?_
      refine R_aload_n (pc := 76) 2 dX11_open_76 rfl rfl ?_
      refine R_get (pc := 77) dX11_open_77 fX11_27 S_41.2.2.2.2.2.2.2.2.2.2 (by omega) rfl ?_
      refine R_iconst (pc := 80) (v := 1) dX11_open_80 (by decide) ?_
      refine R_callVh (pc := 81) (μ' := mX11_runTagged) (As := [.int v, .ref 10, .int 1]) (st := []) dX11_open_81 zX11_runTagged lX11_159 ⟨by decide, by decide⟩ rfl rfl ⟨by decide, by decide⟩ S_41.2.2.2.2.2.2.2.2.2.2 (by omega) rfl (Nat.le_of_ble_eq_true rfl) (qX11_runTagged S_41 hn hτ v k (kT_of hkN c_11) (t := 10) rfl hm10 (by decide) (by rw [hb10, sl_len]; omega) 1 hm0b hk (by rw [q6b]; exact hst)) (fun h_43 r_ q_44 => ?_)
      obtain ⟨ρ2, β2, rfl, S2, hA2, hL2, hT2, hD2, F2⟩ := q_44
      refine R_aload_n (pc := 84) 2 dX11_open_84 rfl rfl ?_
      refine R_get (pc := 85) dX11_open_85 fX11_112 S2.2.2.2.2.2.2.2.2.2.2 (by omega) rfl ?_
      refine R_aload_n (pc := 88) 2 dX11_open_88 rfl rfl ?_
      refine R_get (pc := 89) dX11_open_89 fX11_36 S2.2.2.2.2.2.2.2.2.2.2 (by omega) rfl ?_
      refine R_callVh (pc := 92) (μ' := mX0_keepFirst) (As := [.int (nI τ.2.2)]) (st := []) dX11_open_92 zX0_keepFirst lX11_186 ⟨by decide, by decide⟩ rfl rfl ⟨by decide, by decide⟩ (S2.blk 59 rfl) (by omega) rfl (Nat.le_of_ble_eq_true rfl) (S_keepFirst S2 hn rfl _) (fun h_45 r_ q_46 => ?_)
      obtain ⟨rfl, S_47, F_49⟩ := q_46
      have S_48 : Sys h_45 ρ2 (ub β2 59 (kf (β2 59) (nI τ.2.2))) κ1 τ := S_47
      refine R_aload_n (pc := 95) 2 dX11_open_95 rfl rfl ?_
      refine R_get (pc := 96) dX11_open_96 fX11_112 S_48.2.2.2.2.2.2.2.2.2.2 (by omega) rfl ?_
      refine R_aload_n (pc := 99) 2 dX11_open_99 rfl rfl ?_
      refine R_get (pc := 100) dX11_open_100 fX11_116 S_48.2.2.2.2.2.2.2.2.2.2 (by omega) rfl ?_
      refine R_callVp (pc := 103) (μ' := mX0_same) (As := [.ref 60]) (st := []) dX11_open_103 zX0_same lX11_189 ⟨by decide, by decide⟩ rfl rfl ⟨by decide, by decide⟩ (S_48.blk 59 rfl) (by omega) rfl (Nat.le_of_ble_eq_true rfl) (S_same S_48 hn rfl rfl) ?_
      refine R_eqi (y := smI (kf (β2 59) (nI τ.2.2)) (β2 60)) (by first | rfl | (simp only [ur_s, ur_ur])) ?_
      rw [show rtL k (κ1 16) 1 (ρb 6) (ρb 10) τ.2.2 = uoL κ1 v (ρ 6) (ρ 4) τ.2.2 from by unfold uoL; rw [if_neg c_11, hkc, q6b, hb10]] at hL2
      refine R_eqi (y := uoC κ1 v (ρ 8) (ρ 6) (ρ 4) τ.2.2) (by rw [hT2, hD2, ub_s, q6b, q8b, hb10, q4b]; unfold uoC; rw [if_neg c_11, hkc]) ?_
      refine R_istore_n (pc := 106) (lv' := [(3, .int (uoC κ1 v (ρ 8) (ρ 6) (ρ 4) τ.2.2)), (4, .int (nI ((ρ 4).length - τ.2.2))), (2, .int (rfV v 1 (ρ 2).length (ρ 6).length (ρ 4).length τ.2.2)), (0, .ref 1), (1, .int v)]) dX11_open_106 rfl (by decide) rfl ?_
      refine R_goto (pc := 107) (tgt := 177) dX11_open_107 (by decide) ?_
      refine R_iload_n (pc := 177) 0 dX11_open_177 rfl rfl ?_
      refine R_if_eq (pc := 178) (tgt := 188) dX11_open_178 (by decide) (fun c_50 => ?_) (fun c_50 => ?_)
      · skip
        refine R_bipush (pc := 188) (v := (-6)) dX11_open_188 (by decide) ?_
        exact R_ireturn (pc := 190) dX11_open_190 rfl (by decide) (by decide) ⟨rfl, _, _, _, _, by rw [if_pos c_3, if_pos c_50], S_48, hτ, rfl, fun r_ h_ => (hA2 r_ (by omega) (by omega)).trans (hAb r_ (by omega) (by omega)), by rw [if_pos c_3, if_pos c_50]; exact (hA2 _ (by omega) (by omega)).trans (hAb _ (by omega) (by omega)), ((((((Fr_.tr Fe).tr F_10).tr F_37).tr F_42).tr F2).tr F_49)⟩
      · skip
        refine R_aload_n (pc := 181) 3 dX11_open_181 rfl rfl ?_
        refine R_callVh (pc := 182) (μ' := mX11_publish) (As := []) (st := []) dX11_open_182 zX11_publish lX11_174 ⟨by decide, by decide⟩ rfl rfl ⟨by decide, by decide⟩ S_48.2.2.2.2.2.2.2.2.2.2 (by omega) rfl (Nat.le_of_ble_eq_true rfl) (qX11_publish S_48 hn hτ) (fun h_51 r_ q_52 => ?_)
        obtain ⟨rfl, Sp, Fp⟩ := q_52
        refine R_goto (pc := 185) (tgt := 190) dX11_open_185 (by decide) ?_
        exact R_ireturn (pc := 190) dX11_open_190 rfl (by decide) (by decide) ⟨rfl, _, _, _, _, by rw [if_pos c_3, if_neg c_50, ← hL2], Sp, hτ.sw, rfl, fun r_ h_ => (hA2 r_ (by omega) (by omega)).trans (hAb r_ (by omega) (by omega)), by rw [if_pos c_3, if_neg c_50]; exact hL2, (((((((Fr_.tr Fe).tr F_10).tr F_37).tr F_42).tr F2).tr F_49).tr Fp)⟩
  · skip
    refine R_iload_n (pc := 11) 0 dX11_open_11 rfl rfl ?_
    exact R_ireturn (pc := 12) dX11_open_12 rfl (by decide) (by decide) ⟨rfl, ρ, β, κ, τ, by rw [if_neg c_3], Sr, hτ, rfl, fun _ _ => rfl, by rw [if_neg c_3], Fr_⟩
