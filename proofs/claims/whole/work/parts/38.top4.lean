theorem dt_ge {c m : Nat} (hm : m ≤ 1000) (hc : c ≤ 1000) (h : ¬ (if nI m < nI c then (0 : Int32) else 1) = 0) : c ≤ m := by
  rcases Nat.lt_or_ge m c with q | q
  · rw [if_pos (nI_lt q (by omega))] at h; exact absurd rfl h
  · exact q
theorem dt4 {u : Int32} {m t : Nat} (hm : m ≤ 1000) (h : ¬ dtF 4 u m t = 0) : 17 ≤ m := dt_ge (c := 17) hm (by omega) h
theorem dt9 {u : Int32} {m t : Nat} (hm : m ≤ 1000) (h : ¬ dtF 9 u m t = 0) : 16 ≤ m := dt_ge (c := 16) hm (by omega) h
theorem dt3 {m t : Nat} (hm : m ≤ 1000) (h : ¬ dtF 3 1 m t = 0) : 16 ≤ m := by
  rcases Nat.lt_or_ge m 16 with q | q
  · have e : nI m < 16 := nI_lt (b := 16) q (by omega)
    exact absurd (show (if (1 : Int32) = 0 then (1 : Int32) else if nI m < 16 then 0 else if nI m &&& 15 = 0 then 1 else 0) = 0 by rw [if_neg (by decide), if_pos e]) h
  · exact q
theorem dt15 {m t : Nat} (hm : m ≤ 1000) (h : ¬ dtF 15 1 m t = 0) : 16 ≤ m := by
  rcases Nat.lt_or_ge m 16 with q | q
  · have e : nI m < 16 := nI_lt (b := 16) q (by omega)
    exact absurd (show (if (1 : Int32) = 0 then (1 : Int32) else if nI m < 16 then 0 else 1) = 0 by rw [if_neg (by decide), if_pos e]) h
  · exact q
theorem dt10 {m t : Nat} (hm : m ≤ 1000) (h : ¬ dtF 10 1 m t = 0) : 24 ≤ m := by
  rcases Nat.lt_or_ge m 24 with q | q
  · have e : nI m < 24 := nI_lt (b := 24) q (by omega)
    refine absurd (show (if nI m &&& 7 = 0 then (if (1 : Int32) = 0 then (if nI m < 16 then (0 : Int32) else 1) else (if nI m < 24 then 0 else 1)) else 0) = 0 from ?_) h
    by_cases a : nI m &&& 7 = 0
    · rw [if_pos a, if_neg (by decide), if_pos e]
    · rw [if_neg a]
  · exact q
theorem dt11 {m t : Nat} (hm : m ≤ 1000) (h : ¬ dtF 11 1 m t = 0) : 16 ≤ m := by
  rcases Nat.lt_or_ge m 16 with q | q
  · have e : nI m < 16 := nI_lt (b := 16) q (by omega)
    refine absurd (show (if (1 : Int32) = 0 then (if nI m < 1 then (0 : Int32) else 1) else if nI m &&& 7 = 0 then (if nI m < 16 then 0 else 1) else 0) = 0 from ?_) h
    by_cases a : nI m &&& 7 = 0
    · rw [if_neg (by decide), if_pos a, if_pos e]
    · rw [if_neg (by decide), if_neg a]
  · exact q
theorem dtT {m t : Nat} (hm : m ≤ 1000) (ht : t ≤ 16) (h : ¬ tgF 1 m t = 0) : t ≤ m := by
  unfold tgF at h
  rw [if_neg (by decide)] at h
  exact dt_ge hm (by omega) h
theorem st13 {m : Nat} (hm : m ≤ 1000) (h : ¬ stF 13 m = 0) : 7 ≤ m ∧ m ≤ 13 := by
  have h : ¬ (if nI m < 7 then (0 : Int32) else if 13 < nI m then 0 else 1) = 0 := h
  constructor
  · rcases Nat.lt_or_ge m 7 with q | q
    · rw [if_pos (show nI m < 7 from nI_lt (b := 7) q (by omega))] at h; exact absurd rfl h
    · exact q
  · rcases Nat.lt_or_ge 13 m with q | q
    · by_cases a : nI m < 7
      · rw [if_pos a] at h; exact absurd rfl h
      · rw [if_neg a, if_pos (show 13 < nI m from nI_lt (a := 13) q (by omega))] at h; exact absurd rfl h
    · exact q
theorem st16 {m : Nat} (hm : m ≤ 1000) (h : ¬ stF 16 m = 0) : 1 ≤ m ∧ m ≤ 15 := by
  have h : ¬ (if nI m < 1 then (0 : Int32) else if 15 < nI m then 0 else 1) = 0 := h
  constructor
  · rcases Nat.lt_or_ge m 1 with q | q
    · rw [if_pos (show nI m < 1 from nI_lt (b := 1) q (by omega))] at h; exact absurd rfl h
    · exact q
  · rcases Nat.lt_or_ge 15 m with q | q
    · by_cases a : nI m < 1
      · rw [if_pos a] at h; exact absurd rfl h
      · rw [if_neg a, if_pos (show 15 < nI m from nI_lt (a := 15) q (by omega))] at h; exact absurd rfl h
    · exact q
/-- what a mode's run leaves: the row m has L, all others but the work row are as they were -/
def LX (h : am_H) (τ : Nat × Nat × Nat) (v : Option Value) (ρ : Nat → List (BitVec 8)) (κ : Nat → kT) (L : List (BitVec 8)) : am_H → Option Value → Prop := fun h' q => ∃ ρ' : Nat → List (BitVec 8), ∃ β' : Nat → bP, q = v ∧ Sys h' ρ' β' κ τ ∧ (∀ r, r ≠ 24 → r ≠ τ.2.1 → ρ' r = ρ r) ∧ ρ' τ.2.1 = L ∧ Fr h h'
def RX (h : am_H) (τ : Nat × Nat × Nat) (ρ : Nat → List (BitVec 8)) (β : Nat → bP) (κ : Nat → kT) (L : List (BitVec 8)) (T : bP) : am_H → Option Value → Prop := fun h' q => ∃ ρ' : Nat → List (BitVec 8), ∃ β' : Nat → bP, q = none ∧ Sys h' ρ' β' κ τ ∧ (∀ r, r ≠ 24 → r ≠ τ.2.1 → ρ' r = ρ r) ∧ ρ' τ.2.1 = L ∧ β' 59 = T ∧ β' 60 = β 60 ∧ Fr h h'
def rsL : Nat → kT → Int32 → List (BitVec 8) → List (BitVec 8) → List (BitVec 8)
  | 5, a, op, N, D => (stN (fbS (eK a) op D) (rd N 0) (nbk D)).2
  | 6, a, op, N, D => (stN (foS (eK a) op D) (rd N 0) D.length).2
  | 7, a, _, N, D => (stN (toS (eK a) D) (rd N 0) (nbk D)).2
  | _, a, _, N, D => (stN (ctS (eK a) D) (rd N 0) (nbk D)).2
def lbL : Nat → kT → kT → bP → List (BitVec 8) → List (BitVec 8) → List (BitVec 8)
  | 1, a, _, _, _, D => bkN (eK a) D (nbk D)
  | 2, a, _, _, N, D => (stN (chS (eK a) D) (rd N 0) (nbk D)).2
  | 3, a, _, _, N, D => chE (eK a) (rd N 0) (pdP D)
  | 4, a, _, _, N, D => stE (chE (eK a) (rd N 0) D) D.length
  | 9, a, b, z, N, D => scE (eK a) D (eK b (rd N 0)) z
  | 10, a, _, _, _, D => wMx (eK a) ((lay8 D).length / 8 - 1) ((-6438275382588823898 : Int64), lay8 D)
  | 11, a, _, _, _, D => pwE (eK a) D
  | 5, a, _, _, N, D => rsL 5 a 0 N D
  | 6, a, _, _, N, D => rsL 6 a 0 N D
  | 7, a, _, _, N, D => rsL 7 a 0 N D
  | _, a, _, _, N, D => rsL 8 a 0 N D
def ubL : Nat → kT → kT → List (BitVec 8) → List (BitVec 8) → List (BitVec 8)
  | 1, a, _, _, D => bkN (dK a) D (nbk D)
  | 2, a, _, N, D => (stN (ucS (dK a) D) (rd N 0) (nbk D)).2
  | 3, a, _, N, D => upR (chD (dK a) (rd N 0) D)
  | 4, a, _, N, D => (chD (dK a) (rd N 0) (stT (dK a) D)).take D.length
  | 9, a, b, N, D => scD (dK a) D (eK b (rd N 0))
  | 10, a, _, _, D => tk8 (uOut (dK a) (D.length / 8 - 1) (e8 D 0, D) 6).2
  | 11, a, _, _, D => pwR (dK a) D
  | 5, a, _, N, D => rsL 5 a 1 N D
  | 6, a, _, N, D => rsL 6 a 1 N D
  | 7, a, _, N, D => rsL 7 a 1 N D
  | _, a, _, N, D => rsL 8 a 1 N D
def ubV : Nat → kT → List (BitVec 8) → List (BitVec 8) → Int32
  | 3, a, N, D => if upW (chD (dK a) (rd N 0) D) 16 = 0 then 1 else 0
  | 10, a, _, D => if lg_cmp (uOut (dK a) (D.length / 8 - 1) (e8 D 0, D) 6).1 (-6438275382588823898) = 0 then 1 else 0
  | 11, a, _, D => if pwC (dK a) D = 0 then 1 else 0
  | _, _, _, _ => 1
def rtL : Nat → kT → Int32 → List (BitVec 8) → List (BitVec 8) → Nat → List (BitVec 8)
  | 12, a, _, N, D, _ => gcO (eK a) D (gJ (eK a (0, 0)) N)
  | 13, a, _, N, D, _ => ctO (eK a) D (one1 (cnB N (15 - N.length)))
  | 14, a, _, N, D, _ => ctO (eK a) D (macV (eK a) (layN 0 N))
  | _, a, op, N, D, t => (osF (eK a) (dK a) (!decide (op = 0)) D (bgO (eK a) N (nI t))).2.2
def rtT : Nat → kT → Int32 → List (BitVec 8) → List (BitVec 8) → List (BitVec 8) → Nat → bP
  | 12, a, op, A, N, D, _ => gTag (eK a) A (if op = 0 then gcO (eK a) D (gJ (eK a (0, 0)) N) else D) D N
  | 13, a, op, A, N, D, t => cnT (eK a) A N (if op = 0 then D else ctO (eK a) D (one1 (cnB N (15 - N.length)))) (15 - N.length) t
  | 14, a, op, A, N, D, _ => twT (eK a) A N (if op = 0 then ctO (eK a) D (macV (eK a) (layN 0 N)) else D)
  | _, a, op, A, N, D, t => osTag (eK a) (dK a) (!decide (op = 0)) D A (bgO (eK a) N (nI t))
set_option maxHeartbeats 4000000 in
set_option maxRecDepth 100000 in
theorem qX11_runStream {l : Launch} {w : am_W} {h : am_H} {n : Nat} {ρ : Nat → List (BitVec 8)} {β : Nat → bP} {κ : Nat → kT} {τ : Nat × Nat × Nat} (S : Sys h ρ β κ τ) (hn : 60 ≤ n) (hτ : tOk τ) (v : Int32) (k : Nat) (hv : (v = 5 ∧ k = 5) ∨ (v = 6 ∧ k = 6) ∨ (v = 7 ∧ k = 7) ∨ (v = 8 ∧ k = 8)) (op : Int32) (hm0 : ρ τ.2.1 = []) (hk : kOk (κ 16)) : RH l w mX11_runStream h n [.ref 1, .int v, .int op] (LX h τ none ρ κ (rsL k (κ 16) op (ρ 6) (ρ 4))) := by
  refine RC.of [(0, .ref 1), (1, .int v), (2, .int op)] (by decide +kernel) rfl (Nat.le_of_ble_eq_true rfl) ?_
  have hl4 : (ρ 4).length ≤ 512 := (S.1 4 rfl).1
  have hl6 : (ρ 6).length ≤ 64 := (S.1 6 rfl).1
  have hl8 : (ρ 8).length ≤ 256 := (S.1 8 rfl).1
  have hm := hτ.r2
  have hmc : τ.2.1 = 12 ∨ τ.2.1 = 14 := by rcases hτ.1 with ⟨-, a⟩ | ⟨-, a⟩ <;> omega
  have hmN : rwN τ.2.1 = 528 := by rcases hmc with a | a <;> rw [a] <;> rfl
  have hm4 : (4 : Nat) ≠ τ.2.1 := by omega
  have hm6 : (6 : Nat) ≠ τ.2.1 := by omega
  have hm8 : (8 : Nat) ≠ τ.2.1 := by omega
  have hm24 : (24 : Nat) ≠ τ.2.1 := by omega
  have hmL : (ρ τ.2.1).length = 0 := by rw [hm0]; rfl
  have hnb := nbk_b (ρ 4)
  rcases hv with ⟨rfl, rfl⟩ | ⟨rfl, rfl⟩ | ⟨rfl, rfl⟩ | ⟨rfl, rfl⟩
  · skip
    refine R_iload_n (pc := 0) 1 dX11_runStream_0 rfl rfl ?_
    refine R_iconst (pc := 1) (v := 5) dX11_runStream_1 (by decide) ?_
    refine R_icmp_ne (pc := 2) (tgt := 24) dX11_runStream_2 (by decide) (fun c_1 => absurd (rfl) c_1) (fun c_1 => ?_)
    refine R_aload_n (pc := 5) 0 dX11_runStream_5 rfl rfl ?_
    refine R_get (pc := 6) dX11_runStream_6 fX11_64 S.2.2.2.2.2.2.2.2.2.2 (by omega) rfl ?_
    refine R_aload_n (pc := 9) 0 dX11_runStream_9 rfl rfl ?_
    refine R_get (pc := 10) dX11_runStream_10 fX11_18 S.2.2.2.2.2.2.2.2.2.2 (by omega) rfl ?_
    refine R_iload_n (pc := 13) 2 dX11_runStream_13 rfl rfl ?_
    refine R_aload_n (pc := 14) 0 dX11_runStream_14 rfl rfl ?_
    refine R_get (pc := 15) dX11_runStream_15 fX11_33 S.2.2.2.2.2.2.2.2.2.2 (by omega) rfl ?_
    refine R_callVh (pc := 18) (μ' := mX9_feedBack) (As := [.ref 4, .int op, .ref τ.2.1]) (st := []) dX11_runStream_18 zX9_feedBack lX11_282 ⟨by decide, by decide⟩ rfl rfl ⟨by decide, by decide⟩ S.2.2.2.2.1 (by omega) rfl (Nat.le_of_ble_eq_true rfl) (qX9_feedBack S hn rfl hm hm4 op hk (by omega)) (fun h_2 r_ q_3 => ?_)
    obtain ⟨β_, hB_, rfl, S_4, F_5⟩ := q_3
    refine R_goto (pc := 21) (tgt := 108) dX11_runStream_21 (by decide) ?_
    exact R_vreturn (pc := 108) dX11_runStream_108 rfl (by decide) (by decide) ⟨rfl, _, _, rfl, S_4, (fun r_ a_ b_ => by simp only [ur, if_neg a_, if_neg b_]), (by (try simp only [ur_s, ur_n (Ne.symm hm24), hm0, List.nil_append]); first | done | rfl), F_5⟩
  · skip
    refine R_iload_n (pc := 0) 1 dX11_runStream_0 rfl rfl ?_
    refine R_iconst (pc := 1) (v := 5) dX11_runStream_1 (by decide) ?_
    refine R_icmp_ne (pc := 2) (tgt := 24) dX11_runStream_2 (by decide) (fun c_1 => ?_) (fun c_1 => absurd c_1 (by decide))
    refine R_iload_n (pc := 24) 1 dX11_runStream_24 rfl rfl ?_
    refine R_bipush (pc := 25) (v := 6) dX11_runStream_25 (by decide) ?_
    refine R_icmp_ne (pc := 27) (tgt := 49) dX11_runStream_27 (by decide) (fun c_2 => absurd (rfl) c_2) (fun c_2 => ?_)
    refine R_aload_n (pc := 30) 0 dX11_runStream_30 rfl rfl ?_
    refine R_get (pc := 31) dX11_runStream_31 fX11_64 S.2.2.2.2.2.2.2.2.2.2 (by omega) rfl ?_
    refine R_aload_n (pc := 34) 0 dX11_runStream_34 rfl rfl ?_
    refine R_get (pc := 35) dX11_runStream_35 fX11_18 S.2.2.2.2.2.2.2.2.2.2 (by omega) rfl ?_
    refine R_iload_n (pc := 38) 2 dX11_runStream_38 rfl rfl ?_
    refine R_aload_n (pc := 39) 0 dX11_runStream_39 rfl rfl ?_
    refine R_get (pc := 40) dX11_runStream_40 fX11_33 S.2.2.2.2.2.2.2.2.2.2 (by omega) rfl ?_
    refine R_callVh (pc := 43) (μ' := mX9_feedBackOne) (As := [.ref 4, .int op, .ref τ.2.1]) (st := []) dX11_runStream_43 zX9_feedBackOne lX11_286 ⟨by decide, by decide⟩ rfl rfl ⟨by decide, by decide⟩ S.2.2.2.2.1 (by omega) rfl (Nat.le_of_ble_eq_true rfl) (qX9_feedBackOne S hn rfl hm hm4 op hk (by omega)) (fun h_3 r_ q_4 => ?_)
    obtain ⟨β_, hB_, rfl, S_5, F_6⟩ := q_4
    refine R_goto (pc := 46) (tgt := 108) dX11_runStream_46 (by decide) ?_
    exact R_vreturn (pc := 108) dX11_runStream_108 rfl (by decide) (by decide) ⟨rfl, _, _, rfl, S_5, (fun r_ a_ b_ => by simp only [ur, if_neg a_, if_neg b_]), (by (try simp only [ur_s, ur_n (Ne.symm hm24), hm0, List.nil_append]); first | done | rfl), F_6⟩
  · skip
    refine R_iload_n (pc := 0) 1 dX11_runStream_0 rfl rfl ?_
    refine R_iconst (pc := 1) (v := 5) dX11_runStream_1 (by decide) ?_
    refine R_icmp_ne (pc := 2) (tgt := 24) dX11_runStream_2 (by decide) (fun c_1 => ?_) (fun c_1 => absurd c_1 (by decide))
    refine R_iload_n (pc := 24) 1 dX11_runStream_24 rfl rfl ?_
    refine R_bipush (pc := 25) (v := 6) dX11_runStream_25 (by decide) ?_
    refine R_icmp_ne (pc := 27) (tgt := 49) dX11_runStream_27 (by decide) (fun c_2 => ?_) (fun c_2 => absurd c_2 (by decide))
    refine R_iload_n (pc := 49) 1 dX11_runStream_49 rfl rfl ?_
    refine R_bipush (pc := 50) (v := 7) dX11_runStream_50 (by decide) ?_
    refine R_icmp_ne (pc := 52) (tgt := 73) dX11_runStream_52 (by decide) (fun c_3 => absurd (rfl) c_3) (fun c_3 => ?_)
    refine R_aload_n (pc := 55) 0 dX11_runStream_55 rfl rfl ?_
    refine R_get (pc := 56) dX11_runStream_56 fX11_64 S.2.2.2.2.2.2.2.2.2.2 (by omega) rfl ?_
    refine R_aload_n (pc := 59) 0 dX11_runStream_59 rfl rfl ?_
    refine R_get (pc := 60) dX11_runStream_60 fX11_18 S.2.2.2.2.2.2.2.2.2.2 (by omega) rfl ?_
    refine R_aload_n (pc := 63) 0 dX11_runStream_63 rfl rfl ?_
    refine R_get (pc := 64) dX11_runStream_64 fX11_33 S.2.2.2.2.2.2.2.2.2.2 (by omega) rfl ?_
    refine R_callVh (pc := 67) (μ' := mX9_turnOver) (As := [.ref 4, .ref τ.2.1]) (st := []) dX11_runStream_67 zX9_turnOver lX11_289 ⟨by decide, by decide⟩ rfl rfl ⟨by decide, by decide⟩ S.2.2.2.2.1 (by omega) rfl (Nat.le_of_ble_eq_true rfl) (qX9_turnOver S hn rfl hm hm4 hk (by omega)) (fun h_4 r_ q_5 => ?_)
    obtain ⟨β_, hB_, rfl, S_6, F_7⟩ := q_5
    refine R_goto (pc := 70) (tgt := 108) dX11_runStream_70 (by decide) ?_
    exact R_vreturn (pc := 108) dX11_runStream_108 rfl (by decide) (by decide) ⟨rfl, _, _, rfl, S_6, (fun r_ a_ b_ => by simp only [ur, if_neg a_, if_neg b_]), (by (try simp only [ur_s, ur_n (Ne.symm hm24), hm0, List.nil_append]); first | done | rfl), F_7⟩
  · skip
    refine R_iload_n (pc := 0) 1 dX11_runStream_0 rfl rfl ?_
    refine R_iconst (pc := 1) (v := 5) dX11_runStream_1 (by decide) ?_
    refine R_icmp_ne (pc := 2) (tgt := 24) dX11_runStream_2 (by decide) (fun c_1 => ?_) (fun c_1 => absurd c_1 (by decide))
    refine R_iload_n (pc := 24) 1 dX11_runStream_24 rfl rfl ?_
    refine R_bipush (pc := 25) (v := 6) dX11_runStream_25 (by decide) ?_
    refine R_icmp_ne (pc := 27) (tgt := 49) dX11_runStream_27 (by decide) (fun c_2 => ?_) (fun c_2 => absurd c_2 (by decide))
    refine R_iload_n (pc := 49) 1 dX11_runStream_49 rfl rfl ?_
    refine R_bipush (pc := 50) (v := 7) dX11_runStream_50 (by decide) ?_
    refine R_icmp_ne (pc := 52) (tgt := 73) dX11_runStream_52 (by decide) (fun c_3 => ?_) (fun c_3 => absurd c_3 (by decide))
    refine R_aload_n (pc := 73) 0 dX11_runStream_73 rfl rfl ?_
    refine R_get (pc := 74) dX11_runStream_74 fX11_116 S.2.2.2.2.2.2.2.2.2.2 (by omega) rfl ?_
    refine R_aload_n (pc := 77) 0 dX11_runStream_77 rfl rfl ?_
    refine R_get (pc := 78) dX11_runStream_78 fX11_21 S.2.2.2.2.2.2.2.2.2.2 (by omega) rfl ?_
    refine R_iconst (pc := 81) (v := 0) dX11_runStream_81 (by decide) ?_
    refine R_callVh (pc := 82) (μ' := mX0_read) (As := [.ref 6, .int (nI 0)]) (st := []) dX11_runStream_82 zX0_read lX11_182 ⟨by decide, by decide⟩ rfl rfl ⟨by decide, by decide⟩ (S.blk 60 rfl) (by omega) rfl (Nat.le_of_ble_eq_true rfl) (S_read S hn rfl rfl 0 (by omega)) (fun h_4 r_ q_5 => ?_)
    obtain ⟨rfl, S_6, F_8⟩ := q_5
    have S_7 : Sys h_4 ρ (ub β 60 (rd (ρ 6) 0)) κ τ := S_6
    refine R_aload_n (pc := 85) 0 dX11_runStream_85 rfl rfl ?_
    refine R_get (pc := 86) dX11_runStream_86 fX11_64 S_7.2.2.2.2.2.2.2.2.2.2 (by omega) rfl ?_
    refine R_aload_n (pc := 89) 0 dX11_runStream_89 rfl rfl ?_
    refine R_get (pc := 90) dX11_runStream_90 fX11_43 S_7.2.2.2.2.2.2.2.2.2.2 (by omega) rfl ?_
    refine R_aload_n (pc := 93) 0 dX11_runStream_93 rfl rfl ?_
    refine R_get (pc := 94) dX11_runStream_94 fX11_116 S_7.2.2.2.2.2.2.2.2.2.2 (by omega) rfl ?_
    refine R_aload_n (pc := 97) 0 dX11_runStream_97 rfl rfl ?_
    refine R_get (pc := 98) dX11_runStream_98 fX11_18 S_7.2.2.2.2.2.2.2.2.2.2 (by omega) rfl ?_
    refine R_aload_n (pc := 101) 0 dX11_runStream_101 rfl rfl ?_
    refine R_get (pc := 102) dX11_runStream_102 fX11_33 S_7.2.2.2.2.2.2.2.2.2.2 (by omega) rfl ?_
    refine R_callVh (pc := 105) (μ' := mX9_count) (As := [.ref 16, .ref 60, .ref 4, .ref τ.2.1]) (st := []) dX11_runStream_105 zX9_count lX11_292 ⟨by decide, by decide⟩ rfl rfl ⟨by decide, by decide⟩ S_7.2.2.2.2.1 (by omega) rfl (Nat.le_of_ble_eq_true rfl) (qX9_count S_7 hn rfl hm hm4 (c := 16) (b := 60) (Or.inl rfl) rfl (by decide) hk (by omega)) (fun h_9 r_ q_10 => ?_)
    obtain ⟨β_, hB_, rfl, S_11, F_12⟩ := q_10
    exact R_vreturn (pc := 108) dX11_runStream_108 rfl (by decide) (by decide) ⟨rfl, _, _, rfl, S_11, (fun r_ a_ b_ => by simp only [ur, if_neg a_, if_neg b_]), (by (try simp only [ur_s, ur_n (Ne.symm hm24), hm0, List.nil_append]); first | done | rfl), (F_8.tr F_12)⟩
set_option maxHeartbeats 4000000 in
set_option maxRecDepth 100000 in
theorem qX11_lockBare {l : Launch} {w : am_W} {h : am_H} {n : Nat} {ρ : Nat → List (BitVec 8)} {β : Nat → bP} {κ : Nat → kT} {τ : Nat × Nat × Nat} (S : Sys h ρ β κ τ) (hn : 60 ≤ n) (hτ : tOk τ) (v : Int32) (k : Nat) (hv : (v = 1 ∧ k = 1) ∨ (v = 2 ∧ k = 2) ∨ (v = 3 ∧ k = 3) ∨ (v = 4 ∧ k = 4) ∨ (v = 5 ∧ k = 5) ∨ (v = 6 ∧ k = 6) ∨ (v = 7 ∧ k = 7) ∨ (v = 8 ∧ k = 8) ∨ (v = 9 ∧ k = 9) ∨ (v = 10 ∧ k = 10) ∨ (v = 11 ∧ k = 11)) (hm0 : ρ τ.2.1 = []) (hk : kOk (κ 16)) (hk2 : k = 9 → kOk (κ 20)) (hdt : ¬ dtF k 0 (ρ 4).length τ.2.2 = 0) : RH l w mX11_lockBare h n [.ref 1, .int v] (LX h τ none ρ κ (lbL k (κ 16) (κ 20) (β 36) (ρ 6) (ρ 4))) := by
  refine RC.of [(0, .ref 1), (1, .int v)] (by decide +kernel) rfl (Nat.le_of_ble_eq_true rfl) ?_
  have hl4 : (ρ 4).length ≤ 512 := (S.1 4 rfl).1
  have hl6 : (ρ 6).length ≤ 64 := (S.1 6 rfl).1
  have hl8 : (ρ 8).length ≤ 256 := (S.1 8 rfl).1
  have hm := hτ.r2
  have hmc : τ.2.1 = 12 ∨ τ.2.1 = 14 := by rcases hτ.1 with ⟨-, a⟩ | ⟨-, a⟩ <;> omega
  have hmN : rwN τ.2.1 = 528 := by rcases hmc with a | a <;> rw [a] <;> rfl
  have hm4 : (4 : Nat) ≠ τ.2.1 := by omega
  have hm6 : (6 : Nat) ≠ τ.2.1 := by omega
  have hm8 : (8 : Nat) ≠ τ.2.1 := by omega
  have hm24 : (24 : Nat) ≠ τ.2.1 := by omega
  have hmL : (ρ τ.2.1).length = 0 := by rw [hm0]; rfl
  have hnb := nbk_b (ρ 4)
  rcases hv with ⟨rfl, rfl⟩ | ⟨rfl, rfl⟩ | ⟨rfl, rfl⟩ | ⟨rfl, rfl⟩ | ⟨rfl, rfl⟩ | ⟨rfl, rfl⟩ | ⟨rfl, rfl⟩ | ⟨rfl, rfl⟩ | ⟨rfl, rfl⟩ | ⟨rfl, rfl⟩ | ⟨rfl, rfl⟩
  · skip
    refine R_iload_n (pc := 0) 1 dX11_lockBare_0 rfl rfl ?_
    refine R_tableIn (pc := 1) (tgt := 60) dX11_lockBare_1 (by decide) (by decide) rfl (by decide) ?_
    refine R_aload_n (pc := 60) 0 dX11_lockBare_60 rfl rfl ?_
    refine R_get (pc := 61) dX11_lockBare_61 fX11_55 S.2.2.2.2.2.2.2.2.2.2 (by omega) rfl ?_
    refine R_aload_n (pc := 64) 0 dX11_lockBare_64 rfl rfl ?_
    refine R_get (pc := 65) dX11_lockBare_65 fX11_18 S.2.2.2.2.2.2.2.2.2.2 (by omega) rfl ?_
    refine R_aload_n (pc := 68) 0 dX11_lockBare_68 rfl rfl ?_
    refine R_get (pc := 69) dX11_lockBare_69 fX11_33 S.2.2.2.2.2.2.2.2.2.2 (by omega) rfl ?_
    refine R_callVh (pc := 72) (μ' := mX1_lockBook) (As := [.ref 4, .ref τ.2.1]) (st := []) dX11_lockBare_72 zX1_lockBook lX11_235 ⟨by decide, by decide⟩ rfl rfl ⟨by decide, by decide⟩ S.2.2.2.1 (by omega) rfl (Nat.le_of_ble_eq_true rfl) (qX1_lockBook S hn rfl hm hm4 hk (by omega)) (fun h_1 r_ q_2 => ?_)
    obtain ⟨β_, hB_, rfl, S_3, F_4⟩ := q_2
    refine R_goto (pc := 75) (tgt := 192) dX11_lockBare_75 (by decide) ?_
    exact R_vreturn (pc := 192) dX11_lockBare_192 rfl (by decide) (by decide) ⟨rfl, _, _, rfl, S_3, (fun r_ a_ b_ => by simp only [ur, if_neg a_, if_neg b_]), (by (try simp only [ur_s, ur_n (Ne.symm hm24), hm0, List.nil_append]); first | done | rfl), F_4⟩
  · skip
    refine R_iload_n (pc := 0) 1 dX11_lockBare_0 rfl rfl ?_
    refine R_tableIn (pc := 1) (tgt := 78) dX11_lockBare_1 (by decide) (by decide) rfl (by decide) ?_
    refine R_aload_n (pc := 78) 0 dX11_lockBare_78 rfl rfl ?_
    refine R_get (pc := 79) dX11_lockBare_79 fX11_55 S.2.2.2.2.2.2.2.2.2.2 (by omega) rfl ?_
    refine R_aload_n (pc := 82) 0 dX11_lockBare_82 rfl rfl ?_
    refine R_get (pc := 83) dX11_lockBare_83 fX11_18 S.2.2.2.2.2.2.2.2.2.2 (by omega) rfl ?_
    refine R_aload_n (pc := 86) 0 dX11_lockBare_86 rfl rfl ?_
    refine R_get (pc := 87) dX11_lockBare_87 fX11_33 S.2.2.2.2.2.2.2.2.2.2 (by omega) rfl ?_
    refine R_callVh (pc := 90) (μ' := mX1_lockChain) (As := [.ref 4, .ref τ.2.1]) (st := []) dX11_lockBare_90 zX1_lockChain lX11_238 ⟨by decide, by decide⟩ rfl rfl ⟨by decide, by decide⟩ S.2.2.2.1 (by omega) rfl (Nat.le_of_ble_eq_true rfl) (qX1_lockChain S hn rfl hm hm4 hk (by omega)) (fun h_1 r_ q_2 => ?_)
    obtain ⟨β_, hB_, rfl, S_3, F_4⟩ := q_2
    refine R_goto (pc := 93) (tgt := 192) dX11_lockBare_93 (by decide) ?_
    exact R_vreturn (pc := 192) dX11_lockBare_192 rfl (by decide) (by decide) ⟨rfl, _, _, rfl, S_3, (fun r_ a_ b_ => by simp only [ur, if_neg a_, if_neg b_]), (by (try simp only [ur_s, ur_n (Ne.symm hm24), hm0, List.nil_append]); first | done | rfl), F_4⟩
  · skip
    refine R_iload_n (pc := 0) 1 dX11_lockBare_0 rfl rfl ?_
    refine R_tableIn (pc := 1) (tgt := 96) dX11_lockBare_1 (by decide) (by decide) rfl (by decide) ?_
    refine R_aload_n (pc := 96) 0 dX11_lockBare_96 rfl rfl ?_
    refine R_get (pc := 97) dX11_lockBare_97 fX11_55 S.2.2.2.2.2.2.2.2.2.2 (by omega) rfl ?_
    refine R_aload_n (pc := 100) 0 dX11_lockBare_100 rfl rfl ?_
    refine R_get (pc := 101) dX11_lockBare_101 fX11_18 S.2.2.2.2.2.2.2.2.2.2 (by omega) rfl ?_
    refine R_aload_n (pc := 104) 0 dX11_lockBare_104 rfl rfl ?_
    refine R_get (pc := 105) dX11_lockBare_105 fX11_33 S.2.2.2.2.2.2.2.2.2.2 (by omega) rfl ?_
    refine R_callVh (pc := 108) (μ' := mX1_lockPadded) (As := [.ref 4, .ref τ.2.1]) (st := []) dX11_lockBare_108 zX1_lockPadded lX11_241 ⟨by decide, by decide⟩ rfl rfl ⟨by decide, by decide⟩ S.2.2.2.1 (by omega) rfl (Nat.le_of_ble_eq_true rfl) (qX1_lockPadded S hn rfl hm hm4 (by decide) hm24 hm6 hk (by omega) (by omega)) (fun h_1 r_ q_2 => ?_)
    obtain ⟨β_, hB_, rfl, S_3, F_4⟩ := q_2
    refine R_goto (pc := 111) (tgt := 192) dX11_lockBare_111 (by decide) ?_
    exact R_vreturn (pc := 192) dX11_lockBare_192 rfl (by decide) (by decide) ⟨rfl, _, _, rfl, S_3, (fun r_ a_ b_ => by simp only [ur, if_neg a_, if_neg b_]), (by (try simp only [ur_s, ur_n (Ne.symm hm24), hm0, List.nil_append]); first | done | rfl), F_4⟩
  · skip
    refine R_iload_n (pc := 0) 1 dX11_lockBare_0 rfl rfl ?_
    refine R_tableIn (pc := 1) (tgt := 114) dX11_lockBare_1 (by decide) (by decide) rfl (by decide) ?_
    refine R_aload_n (pc := 114) 0 dX11_lockBare_114 rfl rfl ?_
    refine R_get (pc := 115) dX11_lockBare_115 fX11_55 S.2.2.2.2.2.2.2.2.2.2 (by omega) rfl ?_
    refine R_aload_n (pc := 118) 0 dX11_lockBare_118 rfl rfl ?_
    refine R_get (pc := 119) dX11_lockBare_119 fX11_18 S.2.2.2.2.2.2.2.2.2.2 (by omega) rfl ?_
    refine R_aload_n (pc := 122) 0 dX11_lockBare_122 rfl rfl ?_
    refine R_get (pc := 123) dX11_lockBare_123 fX11_33 S.2.2.2.2.2.2.2.2.2.2 (by omega) rfl ?_
    refine R_callVh (pc := 126) (μ' := mX1_lockStolen) (As := [.ref 4, .ref τ.2.1]) (st := []) dX11_lockBare_126 zX1_lockStolen lX11_244 ⟨by decide, by decide⟩ rfl rfl ⟨by decide, by decide⟩ S.2.2.2.1 (by omega) rfl (Nat.le_of_ble_eq_true rfl) (qX1_lockStolen S hn rfl hm hm4 hm24 hm6 hk (dt4 (by omega) hdt) hm0 (by omega)) (fun h_1 r_ q_2 => ?_)
    obtain ⟨β_, hB_, rfl, S_3, F_4⟩ := q_2
    refine R_goto (pc := 129) (tgt := 192) dX11_lockBare_129 (by decide) ?_
    exact R_vreturn (pc := 192) dX11_lockBare_192 rfl (by decide) (by decide) ⟨rfl, _, _, rfl, S_3, (fun r_ a_ b_ => by simp only [ur, if_neg a_, if_neg b_]), (by (try simp only [ur_s, ur_n (Ne.symm hm24), hm0, List.nil_append]); first | done | rfl), F_4⟩
  · skip
    refine R_iload_n (pc := 0) 1 dX11_lockBare_0 rfl rfl ?_
    refine R_tableIn (pc := 1) (tgt := 186) dX11_lockBare_1 (by decide) (by decide) rfl (by decide) ?_
    refine R_aload_n (pc := 186) 0 dX11_lockBare_186 rfl rfl ?_
    refine R_iload_n (pc := 187) 1 dX11_lockBare_187 rfl rfl ?_
    refine R_iconst (pc := 188) (v := 0) dX11_lockBare_188 (by decide) ?_
    refine R_callVh (pc := 189) (μ' := mX11_runStream) (As := [.int 5, .int 0]) (st := []) dX11_lockBare_189 zX11_runStream lX11_256 ⟨by decide, by decide⟩ rfl rfl ⟨by decide, by decide⟩ S.2.2.2.2.2.2.2.2.2.2 (by omega) rfl (Nat.le_of_ble_eq_true rfl) (qX11_runStream S hn hτ 5 5 (Or.inl ⟨rfl, rfl⟩) 0 hm0 hk) (fun h_1 r_ q_2 => ?_)
    obtain ⟨ρ_, β_, rfl, S_3, a_, b_, F_4⟩ := q_2
    exact R_vreturn (pc := 192) dX11_lockBare_192 rfl (by decide) (by decide) ⟨rfl, _, _, rfl, S_3, a_, b_, F_4⟩
  · skip
    refine R_iload_n (pc := 0) 1 dX11_lockBare_0 rfl rfl ?_
    refine R_tableIn (pc := 1) (tgt := 186) dX11_lockBare_1 (by decide) (by decide) rfl (by decide) ?_
    refine R_aload_n (pc := 186) 0 dX11_lockBare_186 rfl rfl ?_
    refine R_iload_n (pc := 187) 1 dX11_lockBare_187 rfl rfl ?_
    refine R_iconst (pc := 188) (v := 0) dX11_lockBare_188 (by decide) ?_
    refine R_callVh (pc := 189) (μ' := mX11_runStream) (As := [.int 6, .int 0]) (st := []) dX11_lockBare_189 zX11_runStream lX11_256 ⟨by decide, by decide⟩ rfl rfl ⟨by decide, by decide⟩ S.2.2.2.2.2.2.2.2.2.2 (by omega) rfl (Nat.le_of_ble_eq_true rfl) (qX11_runStream S hn hτ 6 6 (Or.inr (Or.inl ⟨rfl, rfl⟩)) 0 hm0 hk) (fun h_1 r_ q_2 => ?_)
    obtain ⟨ρ_, β_, rfl, S_3, a_, b_, F_4⟩ := q_2
    exact R_vreturn (pc := 192) dX11_lockBare_192 rfl (by decide) (by decide) ⟨rfl, _, _, rfl, S_3, a_, b_, F_4⟩
  · skip
    refine R_iload_n (pc := 0) 1 dX11_lockBare_0 rfl rfl ?_
    refine R_tableIn (pc := 1) (tgt := 186) dX11_lockBare_1 (by decide) (by decide) rfl (by decide) ?_
    refine R_aload_n (pc := 186) 0 dX11_lockBare_186 rfl rfl ?_
    refine R_iload_n (pc := 187) 1 dX11_lockBare_187 rfl rfl ?_
    refine R_iconst (pc := 188) (v := 0) dX11_lockBare_188 (by decide) ?_
    refine R_callVh (pc := 189) (μ' := mX11_runStream) (As := [.int 7, .int 0]) (st := []) dX11_lockBare_189 zX11_runStream lX11_256 ⟨by decide, by decide⟩ rfl rfl ⟨by decide, by decide⟩ S.2.2.2.2.2.2.2.2.2.2 (by omega) rfl (Nat.le_of_ble_eq_true rfl) (qX11_runStream S hn hτ 7 7 (Or.inr (Or.inr (Or.inl ⟨rfl, rfl⟩))) 0 hm0 hk) (fun h_1 r_ q_2 => ?_)
    obtain ⟨ρ_, β_, rfl, S_3, a_, b_, F_4⟩ := q_2
    exact R_vreturn (pc := 192) dX11_lockBare_192 rfl (by decide) (by decide) ⟨rfl, _, _, rfl, S_3, a_, b_, F_4⟩
  · skip
    refine R_iload_n (pc := 0) 1 dX11_lockBare_0 rfl rfl ?_
    refine R_tableIn (pc := 1) (tgt := 186) dX11_lockBare_1 (by decide) (by decide) rfl (by decide) ?_
    refine R_aload_n (pc := 186) 0 dX11_lockBare_186 rfl rfl ?_
    refine R_iload_n (pc := 187) 1 dX11_lockBare_187 rfl rfl ?_
    refine R_iconst (pc := 188) (v := 0) dX11_lockBare_188 (by decide) ?_
    refine R_callVh (pc := 189) (μ' := mX11_runStream) (As := [.int 8, .int 0]) (st := []) dX11_lockBare_189 zX11_runStream lX11_256 ⟨by decide, by decide⟩ rfl rfl ⟨by decide, by decide⟩ S.2.2.2.2.2.2.2.2.2.2 (by omega) rfl (Nat.le_of_ble_eq_true rfl) (qX11_runStream S hn hτ 8 8 (Or.inr (Or.inr (Or.inr ⟨rfl, rfl⟩))) 0 hm0 hk) (fun h_1 r_ q_2 => ?_)
    obtain ⟨ρ_, β_, rfl, S_3, a_, b_, F_4⟩ := q_2
    exact R_vreturn (pc := 192) dX11_lockBare_192 rfl (by decide) (by decide) ⟨rfl, _, _, rfl, S_3, a_, b_, F_4⟩
  · skip
    refine R_iload_n (pc := 0) 1 dX11_lockBare_0 rfl rfl ?_
    refine R_tableIn (pc := 1) (tgt := 132) dX11_lockBare_1 (by decide) (by decide) rfl (by decide) ?_
    refine R_aload_n (pc := 132) 0 dX11_lockBare_132 rfl rfl ?_
    refine R_get (pc := 133) dX11_lockBare_133 fX11_73 S.2.2.2.2.2.2.2.2.2.2 (by omega) rfl ?_
    refine R_aload_n (pc := 136) 0 dX11_lockBare_136 rfl rfl ?_
    refine R_get (pc := 137) dX11_lockBare_137 fX11_18 S.2.2.2.2.2.2.2.2.2.2 (by omega) rfl ?_
    refine R_aload_n (pc := 140) 0 dX11_lockBare_140 rfl rfl ?_
    refine R_get (pc := 141) dX11_lockBare_141 fX11_33 S.2.2.2.2.2.2.2.2.2.2 (by omega) rfl ?_
    refine R_callVh (pc := 144) (μ' := mX7_lock) (As := [.ref 4, .ref τ.2.1]) (st := []) dX11_lockBare_144 zX7_lock lX11_247 ⟨by decide, by decide⟩ rfl rfl ⟨by decide, by decide⟩ S.2.2.2.2.2.1 (by omega) rfl (Nat.le_of_ble_eq_true rfl) (qX7_lock S hn rfl hm hm4 hm6 hk (hk2 rfl) hm0 (dt9 (by omega) hdt) (by omega)) (fun h_1 r_ q_2 => ?_)
    obtain ⟨β_, hB_, rfl, S_3, F_4⟩ := q_2
    refine R_goto (pc := 147) (tgt := 192) dX11_lockBare_147 (by decide) ?_
    exact R_vreturn (pc := 192) dX11_lockBare_192 rfl (by decide) (by decide) ⟨rfl, _, _, rfl, S_3, (fun r_ a_ b_ => by simp only [ur, if_neg a_, if_neg b_]), (by (try simp only [ur_s, ur_n (Ne.symm hm24), hm0, List.nil_append]); first | done | rfl), F_4⟩
  · skip
    refine R_iload_n (pc := 0) 1 dX11_lockBare_0 rfl rfl ?_
    refine R_tableIn (pc := 1) (tgt := 150) dX11_lockBare_1 (by decide) (by decide) rfl (by decide) ?_
    refine R_aload_n (pc := 150) 0 dX11_lockBare_150 rfl rfl ?_
    refine R_get (pc := 151) dX11_lockBare_151 fX11_82 S.2.2.2.2.2.2.2.2.2.2 (by omega) rfl ?_
    refine R_aload_n (pc := 154) 0 dX11_lockBare_154 rfl rfl ?_
    refine R_get (pc := 155) dX11_lockBare_155 fX11_18 S.2.2.2.2.2.2.2.2.2.2 (by omega) rfl ?_
    refine R_aload_n (pc := 158) 0 dX11_lockBare_158 rfl rfl ?_
    refine R_get (pc := 159) dX11_lockBare_159 fX11_33 S.2.2.2.2.2.2.2.2.2.2 (by omega) rfl ?_
    refine R_callVh (pc := 162) (μ' := mX10_lockWrap) (As := [.ref 4, .ref τ.2.1]) (st := []) dX11_lockBare_162 zX10_lockWrap lX11_250 ⟨by decide, by decide⟩ rfl rfl ⟨by decide, by decide⟩ S.2.2.2.2.2.2.1 (by omega) rfl (Nat.le_of_ble_eq_true rfl) (qX10_lockWrap S hn rfl hm hm4 hk hm0 (by omega)) (fun h_1 r_ q_2 => ?_)
    obtain ⟨β_, hB_, rfl, S_3, F_4⟩ := q_2
    refine R_goto (pc := 165) (tgt := 192) dX11_lockBare_165 (by decide) ?_
    exact R_vreturn (pc := 192) dX11_lockBare_192 rfl (by decide) (by decide) ⟨rfl, _, _, rfl, S_3, (fun r_ a_ b_ => by simp only [ur, if_neg a_, if_neg b_]), (by (try simp only [ur_s, ur_n (Ne.symm hm24), hm0, List.nil_append]); first | done | rfl), F_4⟩
  · skip
    refine R_iload_n (pc := 0) 1 dX11_lockBare_0 rfl rfl ?_
    refine R_tableIn (pc := 1) (tgt := 168) dX11_lockBare_1 (by decide) (by decide) rfl (by decide) ?_
    refine R_aload_n (pc := 168) 0 dX11_lockBare_168 rfl rfl ?_
    refine R_get (pc := 169) dX11_lockBare_169 fX11_82 S.2.2.2.2.2.2.2.2.2.2 (by omega) rfl ?_
    refine R_aload_n (pc := 172) 0 dX11_lockBare_172 rfl rfl ?_
    refine R_get (pc := 173) dX11_lockBare_173 fX11_18 S.2.2.2.2.2.2.2.2.2.2 (by omega) rfl ?_
    refine R_aload_n (pc := 176) 0 dX11_lockBare_176 rfl rfl ?_
    refine R_get (pc := 177) dX11_lockBare_177 fX11_33 S.2.2.2.2.2.2.2.2.2.2 (by omega) rfl ?_
    refine R_callVh (pc := 180) (μ' := mX10_lockPaddedWrap) (As := [.ref 4, .ref τ.2.1]) (st := []) dX11_lockBare_180 zX10_lockPaddedWrap lX11_253 ⟨by decide, by decide⟩ rfl rfl ⟨by decide, by decide⟩ S.2.2.2.2.2.2.1 (by omega) rfl (Nat.le_of_ble_eq_true rfl) (qX10_lockPaddedWrap S hn rfl hm hm4 hk hm0 (by omega)) (fun h_1 r_ q_2 => ?_)
    obtain ⟨β_, hB_, rfl, S_3, F_4⟩ := q_2
    refine R_goto (pc := 183) (tgt := 192) dX11_lockBare_183 (by decide) ?_
    exact R_vreturn (pc := 192) dX11_lockBare_192 rfl (by decide) (by decide) ⟨rfl, _, _, rfl, S_3, (fun r_ a_ b_ => by simp only [ur, if_neg a_, if_neg b_]), (by (try simp only [ur_s, ur_n (Ne.symm hm24), hm0, List.nil_append]); first | done | rfl), F_4⟩
set_option maxHeartbeats 4000000 in
set_option maxRecDepth 100000 in
theorem qX11_unlockBare {l : Launch} {w : am_W} {h : am_H} {n : Nat} {ρ : Nat → List (BitVec 8)} {β : Nat → bP} {κ : Nat → kT} {τ : Nat × Nat × Nat} (S : Sys h ρ β κ τ) (hn : 60 ≤ n) (hτ : tOk τ) (v : Int32) (k : Nat) (hv : (v = 1 ∧ k = 1) ∨ (v = 2 ∧ k = 2) ∨ (v = 3 ∧ k = 3) ∨ (v = 4 ∧ k = 4) ∨ (v = 5 ∧ k = 5) ∨ (v = 6 ∧ k = 6) ∨ (v = 7 ∧ k = 7) ∨ (v = 8 ∧ k = 8) ∨ (v = 9 ∧ k = 9) ∨ (v = 10 ∧ k = 10) ∨ (v = 11 ∧ k = 11)) (hm0 : ρ τ.2.1 = []) (hk : kOk (κ 16)) (hk2 : k = 9 → kOk (κ 20)) (hdt : ¬ dtF k 1 (ρ 4).length τ.2.2 = 0) : RH l w mX11_unlockBare h n [.ref 1, .int v] (LX h τ (some (.int (ubV k (κ 16) (ρ 6) (ρ 4)))) ρ κ (ubL k (κ 16) (κ 20) (ρ 6) (ρ 4))) := by
  refine RC.of [(0, .ref 1), (1, .int v)] (by decide +kernel) rfl (Nat.le_of_ble_eq_true rfl) ?_
  have hl4 : (ρ 4).length ≤ 512 := (S.1 4 rfl).1
  have hl6 : (ρ 6).length ≤ 64 := (S.1 6 rfl).1
  have hl8 : (ρ 8).length ≤ 256 := (S.1 8 rfl).1
  have hm := hτ.r2
  have hmc : τ.2.1 = 12 ∨ τ.2.1 = 14 := by rcases hτ.1 with ⟨-, a⟩ | ⟨-, a⟩ <;> omega
  have hmN : rwN τ.2.1 = 528 := by rcases hmc with a | a <;> rw [a] <;> rfl
  have hm4 : (4 : Nat) ≠ τ.2.1 := by omega
  have hm6 : (6 : Nat) ≠ τ.2.1 := by omega
  have hm8 : (8 : Nat) ≠ τ.2.1 := by omega
  have hm24 : (24 : Nat) ≠ τ.2.1 := by omega
  have hmL : (ρ τ.2.1).length = 0 := by rw [hm0]; rfl
  have hnb := nbk_b (ρ 4)
  rcases hv with ⟨rfl, rfl⟩ | ⟨rfl, rfl⟩ | ⟨rfl, rfl⟩ | ⟨rfl, rfl⟩ | ⟨rfl, rfl⟩ | ⟨rfl, rfl⟩ | ⟨rfl, rfl⟩ | ⟨rfl, rfl⟩ | ⟨rfl, rfl⟩ | ⟨rfl, rfl⟩ | ⟨rfl, rfl⟩
  · skip
    refine R_iload_n (pc := 0) 1 dX11_unlockBare_0 rfl rfl ?_
    refine R_tableIn (pc := 1) (tgt := 60) dX11_unlockBare_1 (by decide) (by decide) rfl (by decide) ?_
    refine R_aload_n (pc := 60) 0 dX11_unlockBare_60 rfl rfl ?_
    refine R_get (pc := 61) dX11_unlockBare_61 fX11_55 S.2.2.2.2.2.2.2.2.2.2 (by omega) rfl ?_
    refine R_aload_n (pc := 64) 0 dX11_unlockBare_64 rfl rfl ?_
    refine R_get (pc := 65) dX11_unlockBare_65 fX11_18 S.2.2.2.2.2.2.2.2.2.2 (by omega) rfl ?_
    refine R_aload_n (pc := 68) 0 dX11_unlockBare_68 rfl rfl ?_
    refine R_get (pc := 69) dX11_unlockBare_69 fX11_33 S.2.2.2.2.2.2.2.2.2.2 (by omega) rfl ?_
    refine R_callVh (pc := 72) (μ' := mX1_unlockBook) (As := [.ref 4, .ref τ.2.1]) (st := []) dX11_unlockBare_72 zX1_unlockBook lX11_260 ⟨by decide, by decide⟩ rfl rfl ⟨by decide, by decide⟩ S.2.2.2.1 (by omega) rfl (Nat.le_of_ble_eq_true rfl) (qX1_unlockBook S hn rfl hm hm4 hk (by omega)) (fun h_1 r_ q_2 => ?_)
    obtain ⟨β_, hB_, rfl, S_3, F_4⟩ := q_2
    refine R_iconst (pc := 75) (v := 1) dX11_unlockBare_75 (by decide) ?_
    exact R_zreturn (pc := 76) dX11_unlockBare_76 rfl (by first | rfl | (split <;> rfl)) (by decide) (by decide) ⟨rfl, _, _, rfl, S_3, (fun r_ a_ b_ => by simp only [ur, if_neg a_, if_neg b_]), (by (try simp only [ur_s, ur_n (Ne.symm hm24), hm0, List.nil_append]); first | done | rfl), F_4⟩
  · skip
    refine R_iload_n (pc := 0) 1 dX11_unlockBare_0 rfl rfl ?_
    refine R_tableIn (pc := 1) (tgt := 77) dX11_unlockBare_1 (by decide) (by decide) rfl (by decide) ?_
    refine R_aload_n (pc := 77) 0 dX11_unlockBare_77 rfl rfl ?_
    refine R_get (pc := 78) dX11_unlockBare_78 fX11_55 S.2.2.2.2.2.2.2.2.2.2 (by omega) rfl ?_
    refine R_aload_n (pc := 81) 0 dX11_unlockBare_81 rfl rfl ?_
    refine R_get (pc := 82) dX11_unlockBare_82 fX11_18 S.2.2.2.2.2.2.2.2.2.2 (by omega) rfl ?_
    refine R_aload_n (pc := 85) 0 dX11_unlockBare_85 rfl rfl ?_
    refine R_get (pc := 86) dX11_unlockBare_86 fX11_33 S.2.2.2.2.2.2.2.2.2.2 (by omega) rfl ?_
    refine R_callVh (pc := 89) (μ' := mX1_unlockChain) (As := [.ref 4, .ref τ.2.1]) (st := []) dX11_unlockBare_89 zX1_unlockChain lX11_263 ⟨by decide, by decide⟩ rfl rfl ⟨by decide, by decide⟩ S.2.2.2.1 (by omega) rfl (Nat.le_of_ble_eq_true rfl) (qX1_unlockChain S hn rfl hm hm4 hk (by omega)) (fun h_1 r_ q_2 => ?_)
    obtain ⟨β_, hB_, rfl, S_3, F_4⟩ := q_2
    refine R_iconst (pc := 92) (v := 1) dX11_unlockBare_92 (by decide) ?_
    exact R_zreturn (pc := 93) dX11_unlockBare_93 rfl (by first | rfl | (split <;> rfl)) (by decide) (by decide) ⟨rfl, _, _, rfl, S_3, (fun r_ a_ b_ => by simp only [ur, if_neg a_, if_neg b_]), (by (try simp only [ur_s, ur_n (Ne.symm hm24), hm0, List.nil_append]); first | done | rfl), F_4⟩
  · skip
    refine R_iload_n (pc := 0) 1 dX11_unlockBare_0 rfl rfl ?_
    refine R_tableIn (pc := 1) (tgt := 94) dX11_unlockBare_1 (by decide) (by decide) rfl (by decide) ?_
    refine R_aload_n (pc := 94) 0 dX11_unlockBare_94 rfl rfl ?_
    refine R_get (pc := 95) dX11_unlockBare_95 fX11_55 S.2.2.2.2.2.2.2.2.2.2 (by omega) rfl ?_
    refine R_aload_n (pc := 98) 0 dX11_unlockBare_98 rfl rfl ?_
    refine R_get (pc := 99) dX11_unlockBare_99 fX11_18 S.2.2.2.2.2.2.2.2.2.2 (by omega) rfl ?_
    refine R_aload_n (pc := 102) 0 dX11_unlockBare_102 rfl rfl ?_
    refine R_get (pc := 103) dX11_unlockBare_103 fX11_33 S.2.2.2.2.2.2.2.2.2.2 (by omega) rfl ?_
    refine R_callVh (pc := 106) (μ' := mX1_unlockPadded) (As := [.ref 4, .ref τ.2.1]) (st := []) dX11_unlockBare_106 zX1_unlockPadded lX11_266 ⟨by decide, by decide⟩ rfl rfl ⟨by decide, by decide⟩ S.2.2.2.1 (by omega) rfl (Nat.le_of_ble_eq_true rfl) (qX1_unlockPadded S hn rfl hm hm4 hm6 hk hm0 (dt3 (by omega) hdt) (by omega)) (fun h_1 r_ q_2 => ?_)
    obtain ⟨β_, hB_, rfl, S_3, F_4⟩ := q_2
    exact R_zreturn (pc := 109) dX11_unlockBare_109 rfl (by first | rfl | (split <;> rfl)) (by decide) (by decide) ⟨rfl, _, _, rfl, S_3, (fun r_ a_ b_ => by simp only [ur, if_neg a_, if_neg b_]), (by (try simp only [ur_s, ur_n (Ne.symm hm24), hm0, List.nil_append]); first | done | rfl), F_4⟩
  · skip
    refine R_iload_n (pc := 0) 1 dX11_unlockBare_0 rfl rfl ?_
    refine R_tableIn (pc := 1) (tgt := 110) dX11_unlockBare_1 (by decide) (by decide) rfl (by decide) ?_
    refine R_aload_n (pc := 110) 0 dX11_unlockBare_110 rfl rfl ?_
    refine R_get (pc := 111) dX11_unlockBare_111 fX11_55 S.2.2.2.2.2.2.2.2.2.2 (by omega) rfl ?_
    refine R_aload_n (pc := 114) 0 dX11_unlockBare_114 rfl rfl ?_
    refine R_get (pc := 115) dX11_unlockBare_115 fX11_18 S.2.2.2.2.2.2.2.2.2.2 (by omega) rfl ?_
    refine R_aload_n (pc := 118) 0 dX11_unlockBare_118 rfl rfl ?_
    refine R_get (pc := 119) dX11_unlockBare_119 fX11_33 S.2.2.2.2.2.2.2.2.2.2 (by omega) rfl ?_
    refine R_callVh (pc := 122) (μ' := mX1_unlockStolen) (As := [.ref 4, .ref τ.2.1]) (st := []) dX11_unlockBare_122 zX1_unlockStolen lX11_270 ⟨by decide, by decide⟩ rfl rfl ⟨by decide, by decide⟩ S.2.2.2.1 (by omega) rfl (Nat.le_of_ble_eq_true rfl) (qX1_unlockStolen S hn rfl hm hm4 (by decide) hm24 hm6 hk (dt4 (by omega) hdt) (by omega) hm0 (by omega)) (fun h_1 r_ q_2 => ?_)
    obtain ⟨β_, hB_, rfl, S_3, F_4⟩ := q_2
    refine R_iconst (pc := 125) (v := 1) dX11_unlockBare_125 (by decide) ?_
    exact R_zreturn (pc := 126) dX11_unlockBare_126 rfl (by first | rfl | (split <;> rfl)) (by decide) (by decide) ⟨rfl, _, _, rfl, S_3, (fun r_ a_ b_ => by simp only [ur, if_neg a_, if_neg b_]), (by (try simp only [ur_s, ur_n (Ne.symm hm24), hm0, List.nil_append]); first | done | rfl), F_4⟩
  · skip
    refine R_iload_n (pc := 0) 1 dX11_unlockBare_0 rfl rfl ?_
    refine R_tableIn (pc := 1) (tgt := 176) dX11_unlockBare_1 (by decide) (by decide) rfl (by decide) ?_
    refine R_aload_n (pc := 176) 0 dX11_unlockBare_176 rfl rfl ?_
    refine R_iload_n (pc := 177) 1 dX11_unlockBare_177 rfl rfl ?_
    refine R_iconst (pc := 178) (v := 1) dX11_unlockBare_178 (by decide) ?_
    refine R_callVh (pc := 179) (μ' := mX11_runStream) (As := [.int 5, .int 1]) (st := []) dX11_unlockBare_179 zX11_runStream lX11_256 ⟨by decide, by decide⟩ rfl rfl ⟨by decide, by decide⟩ S.2.2.2.2.2.2.2.2.2.2 (by omega) rfl (Nat.le_of_ble_eq_true rfl) (qX11_runStream S hn hτ 5 5 (Or.inl ⟨rfl, rfl⟩) 1 hm0 hk) (fun h_1 r_ q_2 => ?_)
    obtain ⟨ρ_, β_, rfl, S_3, a_, b_, F_4⟩ := q_2
    refine R_iconst (pc := 182) (v := 1) dX11_unlockBare_182 (by decide) ?_
    exact R_zreturn (pc := 183) dX11_unlockBare_183 rfl (by first | rfl | (split <;> rfl)) (by decide) (by decide) ⟨rfl, _, _, rfl, S_3, a_, b_, F_4⟩
  · skip
    refine R_iload_n (pc := 0) 1 dX11_unlockBare_0 rfl rfl ?_
    refine R_tableIn (pc := 1) (tgt := 176) dX11_unlockBare_1 (by decide) (by decide) rfl (by decide) ?_
    refine R_aload_n (pc := 176) 0 dX11_unlockBare_176 rfl rfl ?_
    refine R_iload_n (pc := 177) 1 dX11_unlockBare_177 rfl rfl ?_
    refine R_iconst (pc := 178) (v := 1) dX11_unlockBare_178 (by decide) ?_
    refine R_callVh (pc := 179) (μ' := mX11_runStream) (As := [.int 6, .int 1]) (st := []) dX11_unlockBare_179 zX11_runStream lX11_256 ⟨by decide, by decide⟩ rfl rfl ⟨by decide, by decide⟩ S.2.2.2.2.2.2.2.2.2.2 (by omega) rfl (Nat.le_of_ble_eq_true rfl) (qX11_runStream S hn hτ 6 6 (Or.inr (Or.inl ⟨rfl, rfl⟩)) 1 hm0 hk) (fun h_1 r_ q_2 => ?_)
    obtain ⟨ρ_, β_, rfl, S_3, a_, b_, F_4⟩ := q_2
    refine R_iconst (pc := 182) (v := 1) dX11_unlockBare_182 (by decide) ?_
    exact R_zreturn (pc := 183) dX11_unlockBare_183 rfl (by first | rfl | (split <;> rfl)) (by decide) (by decide) ⟨rfl, _, _, rfl, S_3, a_, b_, F_4⟩
  · skip
    refine R_iload_n (pc := 0) 1 dX11_unlockBare_0 rfl rfl ?_
    refine R_tableIn (pc := 1) (tgt := 176) dX11_unlockBare_1 (by decide) (by decide) rfl (by decide) ?_
    refine R_aload_n (pc := 176) 0 dX11_unlockBare_176 rfl rfl ?_
    refine R_iload_n (pc := 177) 1 dX11_unlockBare_177 rfl rfl ?_
    refine R_iconst (pc := 178) (v := 1) dX11_unlockBare_178 (by decide) ?_
    refine R_callVh (pc := 179) (μ' := mX11_runStream) (As := [.int 7, .int 1]) (st := []) dX11_unlockBare_179 zX11_runStream lX11_256 ⟨by decide, by decide⟩ rfl rfl ⟨by decide, by decide⟩ S.2.2.2.2.2.2.2.2.2.2 (by omega) rfl (Nat.le_of_ble_eq_true rfl) (qX11_runStream S hn hτ 7 7 (Or.inr (Or.inr (Or.inl ⟨rfl, rfl⟩))) 1 hm0 hk) (fun h_1 r_ q_2 => ?_)
    obtain ⟨ρ_, β_, rfl, S_3, a_, b_, F_4⟩ := q_2
    refine R_iconst (pc := 182) (v := 1) dX11_unlockBare_182 (by decide) ?_
    exact R_zreturn (pc := 183) dX11_unlockBare_183 rfl (by first | rfl | (split <;> rfl)) (by decide) (by decide) ⟨rfl, _, _, rfl, S_3, a_, b_, F_4⟩
  · skip
    refine R_iload_n (pc := 0) 1 dX11_unlockBare_0 rfl rfl ?_
    refine R_tableIn (pc := 1) (tgt := 176) dX11_unlockBare_1 (by decide) (by decide) rfl (by decide) ?_
    refine R_aload_n (pc := 176) 0 dX11_unlockBare_176 rfl rfl ?_
    refine R_iload_n (pc := 177) 1 dX11_unlockBare_177 rfl rfl ?_
    refine R_iconst (pc := 178) (v := 1) dX11_unlockBare_178 (by decide) ?_
    refine R_callVh (pc := 179) (μ' := mX11_runStream) (As := [.int 8, .int 1]) (st := []) dX11_unlockBare_179 zX11_runStream lX11_256 ⟨by decide, by decide⟩ rfl rfl ⟨by decide, by decide⟩ S.2.2.2.2.2.2.2.2.2.2 (by omega) rfl (Nat.le_of_ble_eq_true rfl) (qX11_runStream S hn hτ 8 8 (Or.inr (Or.inr (Or.inr ⟨rfl, rfl⟩))) 1 hm0 hk) (fun h_1 r_ q_2 => ?_)
    obtain ⟨ρ_, β_, rfl, S_3, a_, b_, F_4⟩ := q_2
    refine R_iconst (pc := 182) (v := 1) dX11_unlockBare_182 (by decide) ?_
    exact R_zreturn (pc := 183) dX11_unlockBare_183 rfl (by first | rfl | (split <;> rfl)) (by decide) (by decide) ⟨rfl, _, _, rfl, S_3, a_, b_, F_4⟩
  · skip
    refine R_iload_n (pc := 0) 1 dX11_unlockBare_0 rfl rfl ?_
    refine R_tableIn (pc := 1) (tgt := 127) dX11_unlockBare_1 (by decide) (by decide) rfl (by decide) ?_
    refine R_aload_n (pc := 127) 0 dX11_unlockBare_127 rfl rfl ?_
    refine R_get (pc := 128) dX11_unlockBare_128 fX11_73 S.2.2.2.2.2.2.2.2.2.2 (by omega) rfl ?_
    refine R_aload_n (pc := 131) 0 dX11_unlockBare_131 rfl rfl ?_
    refine R_get (pc := 132) dX11_unlockBare_132 fX11_18 S.2.2.2.2.2.2.2.2.2.2 (by omega) rfl ?_
    refine R_aload_n (pc := 135) 0 dX11_unlockBare_135 rfl rfl ?_
    refine R_get (pc := 136) dX11_unlockBare_136 fX11_33 S.2.2.2.2.2.2.2.2.2.2 (by omega) rfl ?_
    refine R_callVh (pc := 139) (μ' := mX7_unlock) (As := [.ref 4, .ref τ.2.1]) (st := []) dX11_unlockBare_139 zX7_unlock lX11_273 ⟨by decide, by decide⟩ rfl rfl ⟨by decide, by decide⟩ S.2.2.2.2.2.1 (by omega) rfl (Nat.le_of_ble_eq_true rfl) (qX7_unlock S hn rfl hm hm4 hm6 hk (hk2 rfl) hm0 (dt9 (by omega) hdt) (by omega)) (fun h_1 r_ q_2 => ?_)
    obtain ⟨β_, hB_, rfl, S_3, F_4⟩ := q_2
    refine R_iconst (pc := 142) (v := 1) dX11_unlockBare_142 (by decide) ?_
    exact R_zreturn (pc := 143) dX11_unlockBare_143 rfl (by first | rfl | (split <;> rfl)) (by decide) (by decide) ⟨rfl, _, _, rfl, S_3, (fun r_ a_ b_ => by simp only [ur, if_neg a_, if_neg b_]), (by (try simp only [ur_s, ur_n (Ne.symm hm24), hm0, List.nil_append]); first | done | rfl), F_4⟩
  · skip
    refine R_iload_n (pc := 0) 1 dX11_unlockBare_0 rfl rfl ?_
    refine R_tableIn (pc := 1) (tgt := 144) dX11_unlockBare_1 (by decide) (by decide) rfl (by decide) ?_
    refine R_aload_n (pc := 144) 0 dX11_unlockBare_144 rfl rfl ?_
    refine R_get (pc := 145) dX11_unlockBare_145 fX11_82 S.2.2.2.2.2.2.2.2.2.2 (by omega) rfl ?_
    refine R_aload_n (pc := 148) 0 dX11_unlockBare_148 rfl rfl ?_
    refine R_get (pc := 149) dX11_unlockBare_149 fX11_18 S.2.2.2.2.2.2.2.2.2.2 (by omega) rfl ?_
    refine R_aload_n (pc := 152) 0 dX11_unlockBare_152 rfl rfl ?_
    refine R_get (pc := 153) dX11_unlockBare_153 fX11_33 S.2.2.2.2.2.2.2.2.2.2 (by omega) rfl ?_
    refine R_callVh (pc := 156) (μ' := mX10_unlockWrap) (As := [.ref 4, .ref τ.2.1]) (st := []) dX11_unlockBare_156 zX10_unlockWrap lX11_276 ⟨by decide, by decide⟩ rfl rfl ⟨by decide, by decide⟩ S.2.2.2.2.2.2.1 (by omega) rfl (Nat.le_of_ble_eq_true rfl) (qX10_unlockWrap S hn rfl hm hm4 hk hm0 (by have := dt10 (by omega) hdt; omega) (by omega)) (fun h_1 r_ q_2 => ?_)
    obtain ⟨β_, hB_, rfl, S_3, F_4⟩ := q_2
    exact R_zreturn (pc := 159) dX11_unlockBare_159 rfl (by first | rfl | (split <;> rfl)) (by decide) (by decide) ⟨rfl, _, _, rfl, S_3, (fun r_ a_ b_ => by simp only [ur, if_neg a_, if_neg b_]), (by (try simp only [ur_s, ur_n (Ne.symm hm24), hm0, List.nil_append]); first | done | rfl), F_4⟩
  · skip
    refine R_iload_n (pc := 0) 1 dX11_unlockBare_0 rfl rfl ?_
    refine R_tableIn (pc := 1) (tgt := 160) dX11_unlockBare_1 (by decide) (by decide) rfl (by decide) ?_
    refine R_aload_n (pc := 160) 0 dX11_unlockBare_160 rfl rfl ?_
    refine R_get (pc := 161) dX11_unlockBare_161 fX11_82 S.2.2.2.2.2.2.2.2.2.2 (by omega) rfl ?_
    refine R_aload_n (pc := 164) 0 dX11_unlockBare_164 rfl rfl ?_
    refine R_get (pc := 165) dX11_unlockBare_165 fX11_18 S.2.2.2.2.2.2.2.2.2.2 (by omega) rfl ?_
    refine R_aload_n (pc := 168) 0 dX11_unlockBare_168 rfl rfl ?_
    refine R_get (pc := 169) dX11_unlockBare_169 fX11_33 S.2.2.2.2.2.2.2.2.2.2 (by omega) rfl ?_
    refine R_callVh (pc := 172) (μ' := mX10_unlockPaddedWrap) (As := [.ref 4, .ref τ.2.1]) (st := []) dX11_unlockBare_172 zX10_unlockPaddedWrap lX11_279 ⟨by decide, by decide⟩ rfl rfl ⟨by decide, by decide⟩ S.2.2.2.2.2.2.1 (by omega) rfl (Nat.le_of_ble_eq_true rfl) (qX10_unlockPaddedWrap S hn rfl hm hm4 hk hm0 (dt11 (by omega) hdt) (by omega)) (fun h_1 r_ q_2 => ?_)
    obtain ⟨β_, hB_, rfl, S_3, F_4⟩ := q_2
    exact R_zreturn (pc := 175) dX11_unlockBare_175 rfl (by first | rfl | (split <;> rfl)) (by decide) (by decide) ⟨rfl, _, _, rfl, S_3, (fun r_ a_ b_ => by simp only [ur, if_neg a_, if_neg b_]), (by (try simp only [ur_s, ur_n (Ne.symm hm24), hm0, List.nil_append]); first | done | rfl), F_4⟩
set_option maxHeartbeats 4000000 in
set_option maxRecDepth 100000 in
theorem qX11_runTagged {l : Launch} {w : am_W} {h : am_H} {n : Nat} {ρ : Nat → List (BitVec 8)} {β : Nat → bP} {κ : Nat → kT} {τ : Nat × Nat × Nat} (S : Sys h ρ β κ τ) (hn : 60 ≤ n) (hτ : tOk τ) (v : Int32) (k : Nat) (hv : (v = 12 ∧ k = 12) ∨ (v = 13 ∧ k = 13) ∨ (v = 14 ∧ k = 14) ∨ (v = 16 ∧ k = 16)) {t : Nat} (ht : isRw t = true) (htm : t ≠ τ.2.1) (ht24 : t ≠ 24) (hlt : (ρ t).length ≤ 512) (op : Int32) (hm0 : ρ τ.2.1 = []) (hk : kOk (κ 16)) (hst_ : ¬ stF k (ρ 6).length = 0) : RH l w mX11_runTagged h n [.ref 1, .int v, .ref t, .int op] (RX h τ ρ β κ (rtL k (κ 16) op (ρ 6) (ρ t) τ.2.2) (rtT k (κ 16) op (ρ 8) (ρ 6) (ρ t) τ.2.2)) := by
  refine RC.of [(0, .ref 1), (1, .int v), (2, .ref t), (3, .int op)] (by decide +kernel) rfl (Nat.le_of_ble_eq_true rfl) ?_
  have hl4 : (ρ 4).length ≤ 512 := (S.1 4 rfl).1
  have hl6 : (ρ 6).length ≤ 64 := (S.1 6 rfl).1
  have hl8 : (ρ 8).length ≤ 256 := (S.1 8 rfl).1
  have hm := hτ.r2
  have hmc : τ.2.1 = 12 ∨ τ.2.1 = 14 := by rcases hτ.1 with ⟨-, a⟩ | ⟨-, a⟩ <;> omega
  have hmN : rwN τ.2.1 = 528 := by rcases hmc with a | a <;> rw [a] <;> rfl
  have hm4 : (4 : Nat) ≠ τ.2.1 := by omega
  have hm6 : (6 : Nat) ≠ τ.2.1 := by omega
  have hm8 : (8 : Nat) ≠ τ.2.1 := by omega
  have hm24 : (24 : Nat) ≠ τ.2.1 := by omega
  have hmL : (ρ τ.2.1).length = 0 := by rw [hm0]; rfl
  have hnb := nbk_b (ρ 4)
  have htc := rw_cases ht
  have hst := S.len t ht
  rcases hv with ⟨rfl, rfl⟩ | ⟨rfl, rfl⟩ | ⟨rfl, rfl⟩ | ⟨rfl, rfl⟩
  · skip
    refine R_iload_n (pc := 0) 1 dX11_runTagged_0 rfl rfl ?_
    refine R_bipush (pc := 1) (v := 12) dX11_runTagged_1 (by decide) ?_
    refine R_icmp_ne (pc := 3) (tgt := 26) dX11_runTagged_3 (by decide) (fun c_1 => absurd (rfl) c_1) (fun c_1 => ?_)
    refine R_aload_n (pc := 6) 0 dX11_runTagged_6 rfl rfl ?_
    refine R_get (pc := 7) dX11_runTagged_7 fX11_89 S.2.2.2.2.2.2.2.2.2.2 (by omega) rfl ?_
    refine R_aload_n (pc := 10) 2 dX11_runTagged_10 rfl rfl ?_
    refine R_iload_n (pc := 11) 3 dX11_runTagged_11 rfl rfl ?_
    refine R_aload_n (pc := 12) 0 dX11_runTagged_12 rfl rfl ?_
    refine R_get (pc := 13) dX11_runTagged_13 fX11_33 S.2.2.2.2.2.2.2.2.2.2 (by omega) rfl ?_
    refine R_aload_n (pc := 16) 0 dX11_runTagged_16 rfl rfl ?_
    refine R_get (pc := 17) dX11_runTagged_17 fX11_112 S.2.2.2.2.2.2.2.2.2.2 (by omega) rfl ?_
    refine R_callVh (pc := 20) (μ' := mX3_run) (As := [.ref t, .int op, .ref τ.2.1, .ref 59]) (st := []) dX11_runTagged_20 zX3_run lX11_296 ⟨by decide, by decide⟩ rfl rfl ⟨by decide, by decide⟩ S.2.2.2.2.2.2.2.1 (by omega) rfl (Nat.le_of_ble_eq_true rfl) (qX3_run S hn ht hm htm hm8 hm6 op hk (by omega)) (fun h_2 r_ q_3 => ?_)
    obtain ⟨β_, hB_, rfl, S_4, F_5⟩ := q_3
    refine R_goto (pc := 23) (tgt := 103) dX11_runTagged_23 (by decide) ?_
    exact R_vreturn (pc := 103) dX11_runTagged_103 rfl (by decide) (by decide) ⟨rfl, _, _, rfl, S_4, (fun r_ a_ b_ => by simp only [ur, if_neg a_, if_neg b_]), (by (try simp only [ur_s, ur_n (Ne.symm hm24), hm0, List.nil_append]); first | done | rfl), (by rw [hB_ 59 (by decide), ub_s]; (try simp only [hm0, List.nil_append]); first | done | rfl), (by rw [hB_ 60 (by decide)]; exact ub_n (by decide)), F_5⟩
  · skip
    have h13 := st13 (by omega) hst_
    refine R_iload_n (pc := 0) 1 dX11_runTagged_0 rfl rfl ?_
    refine R_bipush (pc := 1) (v := 12) dX11_runTagged_1 (by decide) ?_
    refine R_icmp_ne (pc := 3) (tgt := 26) dX11_runTagged_3 (by decide) (fun c_1 => ?_) (fun c_1 => absurd c_1 (by decide))
    refine R_iload_n (pc := 26) 1 dX11_runTagged_26 rfl rfl ?_
    refine R_bipush (pc := 27) (v := 13) dX11_runTagged_27 (by decide) ?_
    refine R_icmp_ne (pc := 29) (tgt := 56) dX11_runTagged_29 (by decide) (fun c_2 => absurd (rfl) c_2) (fun c_2 => ?_)
    refine R_aload_n (pc := 32) 0 dX11_runTagged_32 rfl rfl ?_
    refine R_get (pc := 33) dX11_runTagged_33 fX11_98 S.2.2.2.2.2.2.2.2.2.2 (by omega) rfl ?_
    refine R_aload_n (pc := 36) 2 dX11_runTagged_36 rfl rfl ?_
    refine R_iload_n (pc := 37) 3 dX11_runTagged_37 rfl rfl ?_
    refine R_aload_n (pc := 38) 0 dX11_runTagged_38 rfl rfl ?_
    refine R_get (pc := 39) dX11_runTagged_39 fX11_36 S.2.2.2.2.2.2.2.2.2.2 (by omega) rfl ?_
    refine R_aload_n (pc := 42) 0 dX11_runTagged_42 rfl rfl ?_
    refine R_get (pc := 43) dX11_runTagged_43 fX11_33 S.2.2.2.2.2.2.2.2.2.2 (by omega) rfl ?_
    refine R_aload_n (pc := 46) 0 dX11_runTagged_46 rfl rfl ?_
    refine R_get (pc := 47) dX11_runTagged_47 fX11_112 S.2.2.2.2.2.2.2.2.2.2 (by omega) rfl ?_
    refine R_callVh (pc := 50) (μ' := mX4_runCounted) (As := [.ref t, .int op, .int (nI τ.2.2), .ref τ.2.1, .ref 59]) (st := []) dX11_runTagged_50 zX4_runCounted lX11_300 ⟨by decide, by decide⟩ rfl rfl ⟨by decide, by decide⟩ S.2.2.2.2.2.2.2.2.1 (by omega) rfl (Nat.le_of_ble_eq_true rfl) (qX4_runCounted S hn ht hm htm ht24 hm24 hm6 hm8 hk op (15 - (ρ 6).length) τ.2.2 (by omega) (by omega) hl8 (by omega) (by omega)) (fun h_3 r_ q_4 => ?_)
    obtain ⟨β_, hB_, rfl, S_5, F_6⟩ := q_4
    refine R_goto (pc := 53) (tgt := 103) dX11_runTagged_53 (by decide) ?_
    exact R_vreturn (pc := 103) dX11_runTagged_103 rfl (by decide) (by decide) ⟨rfl, _, _, rfl, S_5, (fun r_ a_ b_ => by simp only [ur, if_neg a_, if_neg b_]), (by (try simp only [ur_s, ur_n (Ne.symm hm24), hm0, List.nil_append]); first | done | rfl), (by rw [hB_ 59 (by decide), ub_s]; (try simp only [hm0, List.nil_append]); first | done | rfl), (by rw [hB_ 60 (by decide)]; exact ub_n (by decide)), F_6⟩
  · skip
    refine R_iload_n (pc := 0) 1 dX11_runTagged_0 rfl rfl ?_
    refine R_bipush (pc := 1) (v := 12) dX11_runTagged_1 (by decide) ?_
    refine R_icmp_ne (pc := 3) (tgt := 26) dX11_runTagged_3 (by decide) (fun c_1 => ?_) (fun c_1 => absurd c_1 (by decide))
    refine R_iload_n (pc := 26) 1 dX11_runTagged_26 rfl rfl ?_
    refine R_bipush (pc := 27) (v := 13) dX11_runTagged_27 (by decide) ?_
    refine R_icmp_ne (pc := 29) (tgt := 56) dX11_runTagged_29 (by decide) (fun c_2 => ?_) (fun c_2 => absurd c_2 (by decide))
    refine R_iload_n (pc := 56) 1 dX11_runTagged_56 rfl rfl ?_
    refine R_bipush (pc := 57) (v := 14) dX11_runTagged_57 (by decide) ?_
    refine R_icmp_ne (pc := 59) (tgt := 82) dX11_runTagged_59 (by decide) (fun c_3 => absurd (rfl) c_3) (fun c_3 => ?_)
    refine R_aload_n (pc := 62) 0 dX11_runTagged_62 rfl rfl ?_
    refine R_get (pc := 63) dX11_runTagged_63 fX11_98 S.2.2.2.2.2.2.2.2.2.2 (by omega) rfl ?_
    refine R_aload_n (pc := 66) 2 dX11_runTagged_66 rfl rfl ?_
    refine R_iload_n (pc := 67) 3 dX11_runTagged_67 rfl rfl ?_
    refine R_aload_n (pc := 68) 0 dX11_runTagged_68 rfl rfl ?_
    refine R_get (pc := 69) dX11_runTagged_69 fX11_33 S.2.2.2.2.2.2.2.2.2.2 (by omega) rfl ?_
    refine R_aload_n (pc := 72) 0 dX11_runTagged_72 rfl rfl ?_
    refine R_get (pc := 73) dX11_runTagged_73 fX11_112 S.2.2.2.2.2.2.2.2.2.2 (by omega) rfl ?_
    refine R_callVh (pc := 76) (μ' := mX4_runTwice) (As := [.ref t, .int op, .ref τ.2.1, .ref 59]) (st := []) dX11_runTagged_76 zX4_runTwice lX11_304 ⟨by decide, by decide⟩ rfl rfl ⟨by decide, by decide⟩ S.2.2.2.2.2.2.2.2.1 (by omega) rfl (Nat.le_of_ble_eq_true rfl) (qX4_runTwice S hn ht hm htm ht24 hm24 hm6 hm8 hk op hl6 hl8 (by omega) (by omega)) (fun h_4 r_ q_5 => ?_)
    obtain ⟨β_, hB_, rfl, S_6, F_7⟩ := q_5
    refine R_goto (pc := 79) (tgt := 103) dX11_runTagged_79 (by decide) ?_
    exact R_vreturn (pc := 103) dX11_runTagged_103 rfl (by decide) (by decide) ⟨rfl, _, _, rfl, S_6, (fun r_ a_ b_ => by simp only [ur, if_neg a_, if_neg b_]), (by (try simp only [ur_s, ur_n (Ne.symm hm24), hm0, List.nil_append]); first | done | rfl), (by rw [hB_ 59 (by decide), ub_s]; (try simp only [hm0, List.nil_append]); first | done | rfl), (by rw [hB_ 60 (by decide)]; exact ub_n (by decide)), F_7⟩
  · by_cases hop : op = 0
    · skip
      have h16 := st16 (by omega) hst_
      have eb_ : (!decide (op = 0)) = false := by rw [hop]; rfl
      show RW _ _ _ _ _ _ _ _ _ _ (fun h' n' q => n' = n ∧ RX h τ ρ β κ ((osF (eK (κ 16)) (dK (κ 16)) (!decide (op = 0)) (ρ t) (bgO (eK (κ 16)) (ρ 6) (nI τ.2.2))).2.2) (osTag (eK (κ 16)) (dK (κ 16)) (!decide (op = 0)) (ρ t) (ρ 8) (bgO (eK (κ 16)) (ρ 6) (nI τ.2.2))) h' q)
      rw [eb_]
      refine R_iload_n (pc := 0) 1 dX11_runTagged_0 rfl rfl ?_
      refine R_bipush (pc := 1) (v := 12) dX11_runTagged_1 (by decide) ?_
      refine R_icmp_ne (pc := 3) (tgt := 26) dX11_runTagged_3 (by decide) (fun c_1 => ?_) (fun c_1 => absurd c_1 (by decide))
      refine R_iload_n (pc := 26) 1 dX11_runTagged_26 rfl rfl ?_
      refine R_bipush (pc := 27) (v := 13) dX11_runTagged_27 (by decide) ?_
      refine R_icmp_ne (pc := 29) (tgt := 56) dX11_runTagged_29 (by decide) (fun c_2 => ?_) (fun c_2 => absurd c_2 (by decide))
      refine R_iload_n (pc := 56) 1 dX11_runTagged_56 rfl rfl ?_
      refine R_bipush (pc := 57) (v := 14) dX11_runTagged_57 (by decide) ?_
      refine R_icmp_ne (pc := 59) (tgt := 82) dX11_runTagged_59 (by decide) (fun c_3 => ?_) (fun c_3 => absurd c_3 (by decide))
      refine R_aload_n (pc := 82) 0 dX11_runTagged_82 rfl rfl ?_
      refine R_get (pc := 83) dX11_runTagged_83 fX11_105 S.2.2.2.2.2.2.2.2.2.2 (by omega) rfl ?_
      refine R_aload_n (pc := 86) 2 dX11_runTagged_86 rfl rfl ?_
      refine R_iload_n (pc := 87) 3 dX11_runTagged_87 rfl rfl ?_
      refine R_aload_n (pc := 88) 0 dX11_runTagged_88 rfl rfl ?_
      refine R_get (pc := 89) dX11_runTagged_89 fX11_36 S.2.2.2.2.2.2.2.2.2.2 (by omega) rfl ?_
      refine R_aload_n (pc := 92) 0 dX11_runTagged_92 rfl rfl ?_
      refine R_get (pc := 93) dX11_runTagged_93 fX11_33 S.2.2.2.2.2.2.2.2.2.2 (by omega) rfl ?_
      refine R_aload_n (pc := 96) 0 dX11_runTagged_96 rfl rfl ?_
      refine R_get (pc := 97) dX11_runTagged_97 fX11_112 S.2.2.2.2.2.2.2.2.2.2 (by omega) rfl ?_
      refine R_callVh (pc := 100) (μ' := mX5_run) (As := [.ref t, .int op, .int (nI τ.2.2), .ref τ.2.1, .ref 59]) (st := []) dX11_runTagged_100 zX5_run lX11_307 ⟨by decide, by decide⟩ rfl rfl ⟨by decide, by decide⟩ S.2.2.2.2.2.2.2.2.2.1 (by omega) rfl (Nat.le_of_ble_eq_true rfl) (qX5_run_L S hn ht hm htm hm6 hm8 op hop (nI τ.2.2) hk (by omega) (by omega)) (fun h_4 r_ q_5 => ?_)
      obtain ⟨β_, hB_, rfl, S_6, F_7⟩ := q_5
      exact R_vreturn (pc := 103) dX11_runTagged_103 rfl (by decide) (by decide) ⟨rfl, _, _, rfl, S_6, (fun r_ a_ b_ => by simp only [ur, if_neg a_, if_neg b_]), (by (try simp only [ur_s, ur_n (Ne.symm hm24), hm0, List.nil_append]); first | done | rfl), (by rw [hB_ 59 (by decide), ub_s]; (try simp only [hm0, List.nil_append]); first | done | rfl), (by rw [hB_ 60 (by decide)]; exact ub_n (by decide)), F_7⟩
    · skip
      have h16 := st16 (by omega) hst_
      have eb_ : (!decide (op = 0)) = true := by rw [decide_eq_false hop]; rfl
      show RW _ _ _ _ _ _ _ _ _ _ (fun h' n' q => n' = n ∧ RX h τ ρ β κ ((osF (eK (κ 16)) (dK (κ 16)) (!decide (op = 0)) (ρ t) (bgO (eK (κ 16)) (ρ 6) (nI τ.2.2))).2.2) (osTag (eK (κ 16)) (dK (κ 16)) (!decide (op = 0)) (ρ t) (ρ 8) (bgO (eK (κ 16)) (ρ 6) (nI τ.2.2))) h' q)
      rw [eb_]
      refine R_iload_n (pc := 0) 1 dX11_runTagged_0 rfl rfl ?_
      refine R_bipush (pc := 1) (v := 12) dX11_runTagged_1 (by decide) ?_
      refine R_icmp_ne (pc := 3) (tgt := 26) dX11_runTagged_3 (by decide) (fun c_1 => ?_) (fun c_1 => absurd c_1 (by decide))
      refine R_iload_n (pc := 26) 1 dX11_runTagged_26 rfl rfl ?_
      refine R_bipush (pc := 27) (v := 13) dX11_runTagged_27 (by decide) ?_
      refine R_icmp_ne (pc := 29) (tgt := 56) dX11_runTagged_29 (by decide) (fun c_2 => ?_) (fun c_2 => absurd c_2 (by decide))
      refine R_iload_n (pc := 56) 1 dX11_runTagged_56 rfl rfl ?_
      refine R_bipush (pc := 57) (v := 14) dX11_runTagged_57 (by decide) ?_
      refine R_icmp_ne (pc := 59) (tgt := 82) dX11_runTagged_59 (by decide) (fun c_3 => ?_) (fun c_3 => absurd c_3 (by decide))
      refine R_aload_n (pc := 82) 0 dX11_runTagged_82 rfl rfl ?_
      refine R_get (pc := 83) dX11_runTagged_83 fX11_105 S.2.2.2.2.2.2.2.2.2.2 (by omega) rfl ?_
      refine R_aload_n (pc := 86) 2 dX11_runTagged_86 rfl rfl ?_
      refine R_iload_n (pc := 87) 3 dX11_runTagged_87 rfl rfl ?_
      refine R_aload_n (pc := 88) 0 dX11_runTagged_88 rfl rfl ?_
      refine R_get (pc := 89) dX11_runTagged_89 fX11_36 S.2.2.2.2.2.2.2.2.2.2 (by omega) rfl ?_
      refine R_aload_n (pc := 92) 0 dX11_runTagged_92 rfl rfl ?_
      refine R_get (pc := 93) dX11_runTagged_93 fX11_33 S.2.2.2.2.2.2.2.2.2.2 (by omega) rfl ?_
      refine R_aload_n (pc := 96) 0 dX11_runTagged_96 rfl rfl ?_
      refine R_get (pc := 97) dX11_runTagged_97 fX11_112 S.2.2.2.2.2.2.2.2.2.2 (by omega) rfl ?_
      refine R_callVh (pc := 100) (μ' := mX5_run) (As := [.ref t, .int op, .int (nI τ.2.2), .ref τ.2.1, .ref 59]) (st := []) dX11_runTagged_100 zX5_run lX11_307 ⟨by decide, by decide⟩ rfl rfl ⟨by decide, by decide⟩ S.2.2.2.2.2.2.2.2.2.1 (by omega) rfl (Nat.le_of_ble_eq_true rfl) (qX5_run_U S hn ht hm htm hm6 hm8 op hop (nI τ.2.2) hk (by omega) (by omega)) (fun h_4 r_ q_5 => ?_)
      obtain ⟨β_, hB_, rfl, S_6, F_7⟩ := q_5
      exact R_vreturn (pc := 103) dX11_runTagged_103 rfl (by decide) (by decide) ⟨rfl, _, _, rfl, S_6, (fun r_ a_ b_ => by simp only [ur, if_neg a_, if_neg b_]), (by (try simp only [ur_s, ur_n (Ne.symm hm24), hm0, List.nil_append]); first | done | rfl), (by rw [hB_ 59 (by decide), ub_s]; (try simp only [hm0, List.nil_append]); first | done | rfl), (by rw [hB_ 60 (by decide)]; exact ub_n (by decide)), F_7⟩
