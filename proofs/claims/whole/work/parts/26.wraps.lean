theorem rput_len (L : List (BitVec 8)) (i : Int32) (b : BitVec 8) : (rput L i b).length = L.length := row_putl L i b
theorem p8_len (L : List (BitVec 8)) (j : Nat) (v : Int64) : ∀ t, (p8 L j v t).length = L.length
  | 0 => rfl
  | t + 1 => by
    show (rput (p8 L j v t) _ _).length = _
    rw [rput_len, p8_len L j v t]
abbrev wT : Type := Int64 × List (BitVec 8)
/-- a step of WRAP -/
def wS (F : bP → bP) (k j i : Nat) (s : wT) : wT := let q := F (s.1, e8 s.2 (8 * i)); (q.1 ^^^ (nI (k * j + i)).toInt64, p8 s.2 (8 * i) q.2 8)
def wIn (F : bP → bP) (k j : Nat) (s : wT) : Nat → wT
  | 0 => s
  | i + 1 => wS F k j (i + 1) (wIn F k j s i)
def wOut (F : bP → bP) (k : Nat) (s : wT) : Nat → wT
  | 0 => s
  | j + 1 => wIn F k j (wOut F k s j) k
/-- a step of the way back -/
def uS (G : bP → bP) (k j i : Nat) (s : wT) : wT := let q := G (s.1 ^^^ (nI (k * j + i)).toInt64, e8 s.2 (8 * i)); (q.1, p8 s.2 (8 * i) q.2 8)
def uIn (G : bP → bP) (k j : Nat) (s : wT) : Nat → wT
  | 0 => s
  | i + 1 => uS G k j (k - i) (uIn G k j s i)
def uOut (G : bP → bP) (k : Nat) (s : wT) : Nat → wT
  | 0 => s
  | j + 1 => uIn G k (5 - j) (uOut G k s j) k
theorem wIn_len (F : bP → bP) (k j : Nat) (s : wT) : ∀ i, (wIn F k j s i).2.length = s.2.length
  | 0 => rfl
  | i + 1 => by
    show (p8 (wIn F k j s i).2 _ _ 8).length = _
    rw [p8_len, wIn_len F k j s i]
theorem wOut_len (F : bP → bP) (k : Nat) (s : wT) : ∀ j, (wOut F k s j).2.length = s.2.length
  | 0 => rfl
  | j + 1 => by
    show (wIn F k j (wOut F k s j) k).2.length = _
    rw [wIn_len, wOut_len F k s j]
theorem uIn_len (F : bP → bP) (k j : Nat) (s : wT) : ∀ i, (uIn F k j s i).2.length = s.2.length
  | 0 => rfl
  | i + 1 => by
    show (p8 (uIn F k j s i).2 _ _ 8).length = _
    rw [p8_len, uIn_len F k j s i]
theorem uOut_len (F : bP → bP) (k : Nat) (s : wT) : ∀ j, (uOut F k s j).2.length = s.2.length
  | 0 => rfl
  | j + 1 => by
    show (uIn F k (5 - j) (uOut F k s j) k).2.length = _
    rw [uIn_len, uOut_len F k s j]
def wMx (F : bP → bP) (k : Nat) (s : wT) : List (BitVec 8) := p8 (wOut F k s 6).2 0 (wOut F k s 6).1 8
set_option maxHeartbeats 4000000 in
set_option maxRecDepth 100000 in
theorem qX10_mixIn_in_loop {l : Launch} {w : am_W} {h : am_H} {n : Nat} {ρ : Nat → List (BitVec 8)} {β : Nat → bP} {κ : Nat → kT} {τ : Nat × Nat × Nat} (S : Sys h ρ β κ τ) (hn : 60 ≤ n) {m : Nat} (hm : isRw m = true) (sg : Int64) (k : Nat) (hk0 : 8 * k ≤ 1000) (hk : kOk (κ 16)) (j : Nat) (hj : j < 6) (s : wT) (kk : ∀ h2 β2, Sys h2 (ur ρ m ((wIn (eK (κ 16)) k j s (k)).2)) β2 κ τ → (∀ a, a ∉ [40] → β2 a = β a) → Fr h h2 → RW l w mX10_mixIn h2 n 0 0 103 [(8, .int (nI ((k) + 1))), (5, .long ((wIn (eK (κ 16)) k j s (k)).1)), (7, .int (nI j)), (0, .ref 39), (1, .long sg), (3, .ref m), (4, .int (nI k))] [] (fun h' n' r_ => n' = n ∧ (SX h τ none (ur ρ m (wMx (eK (κ 16)) k (sg, ρ m))) β κ [40]) h' r_)) : ∀ (d i : Nat), i + d = k → ∀ h2 β2, Sys h2 (ur ρ m ((wIn (eK (κ 16)) k j s i).2)) β2 κ τ → (∀ a, a ∉ [40] → β2 a = β a) → Fr h h2 → RW l w mX10_mixIn h2 n 0 0 26 [(8, .int (nI (i + 1))), (5, .long ((wIn (eK (κ 16)) k j s i).1)), (7, .int (nI j)), (0, .ref 39), (1, .long sg), (3, .ref m), (4, .int (nI k))] [] (fun h' n' r_ => n' = n ∧ (SX h τ none (ur ρ m (wMx (eK (κ 16)) k (sg, ρ m))) β κ [40]) h' r_) := by
  have hlm := S.len m hm
  have hmc := rw_cases hm
  intro d
  induction d with
  | zero =>
    intro i hd h2 β2 S2 hB hF
    refine R_iload (pc := 26) 0 dX10_mixIn_26 rfl ?_
    refine R_iload (pc := 28) 6 dX10_mixIn_28 rfl ?_
    refine R_icmp_gt (pc := 30) (tgt := 103) dX10_mixIn_30 (by decide) (fun c_1 => ?_) (fun c_1 => absurd (nI_lt (by omega) (by omega)) c_1)
    obtain rfl : i = k := by omega
    exact kk h2 β2 S2 hB hF
  | succ d ih =>
    intro i hd h2 β2 S2 hB hF
    refine R_iload (pc := 26) 0 dX10_mixIn_26 rfl ?_
    refine R_iload (pc := 28) 6 dX10_mixIn_28 rfl ?_
    refine R_icmp_gt (pc := 30) (tgt := 103) dX10_mixIn_30 (by decide) (fun c_1 => absurd c_1 (nI_nlt (by omega) (by omega))) (fun c_1 => ?_)
    refine R_aload_n (pc := 33) 3 dX10_mixIn_33 rfl rfl ?_
    refine R_get (pc := 34) dX10_mixIn_34 fX10_16 S2.2.2.2.2.2.2.1 (by omega) rfl ?_
    refine R_lload (pc := 37) 1 dX10_mixIn_37 rfl ?_
    refine R_aload_n (pc := 39) 5 dX10_mixIn_39 rfl rfl ?_
    refine R_bipush (pc := 40) (v := 8) dX10_mixIn_40 (by decide) ?_
    refine R_iload (pc := 42) 0 dX10_mixIn_42 rfl ?_
    refine R_imul (pc := 44) dX10_mixIn_44 ?_
    refine R_eqi (y := nI (8 * (i + 1))) (pk_mul 8 (i + 1)) ?_
    refine R_callVp (pc := 45) (μ' := mX6_eightAt) (As := [.int (nI (8 * (i + 1)))]) (st := [.long ((wIn (eK (κ 16)) k j s i).1), .ref 40]) dX10_mixIn_45 zX6_eightAt lX10_49 ⟨by decide, by decide⟩ rfl rfl ⟨by decide, by decide⟩ (S2.rowO m hm) (by omega) rfl (Nat.le_of_ble_eq_true rfl) (S_eightAt S2 hn hm (8 * (i + 1)) (by omega)) ?_
    refine R_eql (y := e8 ((wIn (eK (κ 16)) k j s i).2) (8 * (i + 1))) (by first | rfl | (simp only [ur_s, ur_ur])) ?_
    refine R_callVh (pc := 48) (μ' := mX0_become) (As := [.long ((wIn (eK (κ 16)) k j s i).1), .long (e8 ((wIn (eK (κ 16)) k j s i).2) (8 * (i + 1)))]) (st := []) dX10_mixIn_48 zX0_become lX10_53 ⟨by decide, by decide⟩ rfl rfl ⟨by decide, by decide⟩ (S2.blk 40 rfl) (by omega) rfl (Nat.le_of_ble_eq_true rfl) (S_become S2 hn rfl _ _) (fun h_2 r_ q_3 => ?_)
    obtain ⟨rfl, S_4, F_6⟩ := q_3
    have S_5 : Sys h_2 (ur ρ m ((wIn (eK (κ 16)) k j s i).2)) (ub β2 40 ((wIn (eK (κ 16)) k j s i).1, e8 ((wIn (eK (κ 16)) k j s i).2) (8 * (i + 1)))) κ τ := S_4
    refine R_aload_n (pc := 51) 3 dX10_mixIn_51 rfl rfl ?_
    refine R_get (pc := 52) dX10_mixIn_52 fX10_7 S_5.2.2.2.2.2.2.1 (by omega) rfl ?_
    refine R_aload_n (pc := 55) 3 dX10_mixIn_55 rfl rfl ?_
    refine R_get (pc := 56) dX10_mixIn_56 fX10_16 S_5.2.2.2.2.2.2.1 (by omega) rfl ?_
    refine R_callVh (pc := 59) (μ' := mX2_encrypt) (As := [.ref 40]) (st := []) dX10_mixIn_59 zX2_encrypt lX10_57 ⟨by decide, by decide⟩ rfl rfl ⟨by decide, by decide⟩ (S_5.2.2.1 16 (by decide)).1 (by omega) rfl (Nat.le_of_ble_eq_true rfl) (S_encrypt S_5 hn (by decide) rfl hk.1 hk.2) (fun h_7 r_ q_8 => ?_)
    obtain ⟨rfl, S_9, F_11⟩ := q_8
    have S_10 : Sys h_7 (ur ρ m ((wIn (eK (κ 16)) k j s i).2)) (ub (ub β2 40 ((wIn (eK (κ 16)) k j s i).1, e8 ((wIn (eK (κ 16)) k j s i).2) (8 * (i + 1)))) 40 (eK (κ 16) ((wIn (eK (κ 16)) k j s i).1, e8 ((wIn (eK (κ 16)) k j s i).2) (8 * (i + 1))))) κ τ := S_9
    refine R_aload_n (pc := 62) 3 dX10_mixIn_62 rfl rfl ?_
    refine R_get (pc := 63) dX10_mixIn_63 fX10_16 S_10.2.2.2.2.2.2.1 (by omega) rfl ?_
    skip
    refine R_get (pc := 66) dX10_mixIn_66 fX10_78 (S_10.blk 40 rfl) (by omega) rfl ?_
    refine R_eql (y := (eK (κ 16) ((wIn (eK (κ 16)) k j s i).1, e8 ((wIn (eK (κ 16)) k j s i).2) (8 * (i + 1)))).1) rfl ?_
    refine R_iload (pc := 69) 6 dX10_mixIn_69 rfl ?_
    refine R_iload (pc := 71) 2 dX10_mixIn_71 rfl ?_
    refine R_imul (pc := 73) dX10_mixIn_73 ?_
    refine R_eqi (y := nI (k * j)) (pk_mul k j) ?_
    refine R_iload (pc := 74) 0 dX10_mixIn_74 rfl ?_
    refine R_iadd (pc := 76) dX10_mixIn_76 ?_
    refine R_eqi (y := nI (k * j + (i + 1))) (nI_add (k * j) (i + 1)) ?_
    refine R_i2l (pc := 77) (v := (nI (k * j + (i + 1))).toInt64) dX10_mixIn_77 rfl ?_
    refine R_lxor (pc := 78) dX10_mixIn_78 ?_
    refine R_lstore (pc := 79) (lv' := [(5, .long (((eK (κ 16) ((wIn (eK (κ 16)) k j s i).1, e8 ((wIn (eK (κ 16)) k j s i).2) (8 * (i + 1)))).1) ^^^ ((nI (k * j + (i + 1))).toInt64))), (8, .int (nI (i + 1))), (7, .int (nI j)), (0, .ref 39), (1, .long sg), (3, .ref m), (4, .int (nI k))]) dX10_mixIn_79 (by decide) rfl ?_
    refine R_aload_n (pc := 81) 5 dX10_mixIn_81 rfl rfl ?_
    refine R_bipush (pc := 82) (v := 8) dX10_mixIn_82 (by decide) ?_
    refine R_iload (pc := 84) 1 dX10_mixIn_84 rfl ?_
    refine R_imul (pc := 86) dX10_mixIn_86 ?_
    refine R_eqi (y := nI (8 * (i + 1))) (pk_mul 8 (i + 1)) ?_
    refine R_aload_n (pc := 87) 3 dX10_mixIn_87 rfl rfl ?_
    refine R_get (pc := 88) dX10_mixIn_88 fX10_16 S_10.2.2.2.2.2.2.1 (by omega) rfl ?_
    skip
    refine R_get (pc := 91) dX10_mixIn_91 fX10_82 (S_10.blk 40 rfl) (by omega) rfl ?_
    refine R_eql (y := (eK (κ 16) ((wIn (eK (κ 16)) k j s i).1, e8 ((wIn (eK (κ 16)) k j s i).2) (8 * (i + 1)))).2) rfl ?_
    refine R_callVh (pc := 94) (μ' := mX6_putEight) (As := [.int (nI (8 * (i + 1))), .long ((eK (κ 16) ((wIn (eK (κ 16)) k j s i).1, e8 ((wIn (eK (κ 16)) k j s i).2) (8 * (i + 1)))).2)]) (st := []) dX10_mixIn_94 zX6_putEight lX10_85 ⟨by decide, by decide⟩ rfl rfl ⟨by decide, by decide⟩ (S_10.rowO m hm) (by omega) rfl (Nat.le_of_ble_eq_true rfl) (S_putEight S_10 hn hm (8 * (i + 1)) _ (by omega)) (fun h_12 r_ q_13 => ?_)
    obtain ⟨rfl, S_14, F_16⟩ := q_13
    have S_15 : Sys h_12 (ur ρ m (p8 ((wIn (eK (κ 16)) k j s i).2) (8 * (i + 1)) ((eK (κ 16) ((wIn (eK (κ 16)) k j s i).1, e8 ((wIn (eK (κ 16)) k j s i).2) (8 * (i + 1)))).2) 8)) (ub (ub β2 40 ((wIn (eK (κ 16)) k j s i).1, e8 ((wIn (eK (κ 16)) k j s i).2) (8 * (i + 1)))) 40 (eK (κ 16) ((wIn (eK (κ 16)) k j s i).1, e8 ((wIn (eK (κ 16)) k j s i).2) (8 * (i + 1))))) κ τ := by have z_ := S_14; (try simp only [ur_s, ur_ur] at z_); exact z_
    refine R_iinc (pc := 97) (j := 1) (v := nI (i + 1 + 1)) (lv' := [(8, .int (nI (i + 1 + 1))), (5, .long (((eK (κ 16) ((wIn (eK (κ 16)) k j s i).1, e8 ((wIn (eK (κ 16)) k j s i).2) (8 * (i + 1)))).1) ^^^ ((nI (k * j + (i + 1))).toInt64))), (7, .int (nI j)), (0, .ref 39), (1, .long sg), (3, .ref m), (4, .int (nI k))]) dX10_mixIn_97 rfl (nI_1 (i + 1)) (by decide) rfl ?_
    refine R_goto (pc := 100) (tgt := 26) dX10_mixIn_100 (by decide) ?_
    refine R_sub [0, 1, 2, 3, 4, 5, 6] rfl ?_
    refine ih (i + 1) (by omega) h_12 (ub (ub β2 40 ((wIn (eK (κ 16)) k j s i).1, e8 ((wIn (eK (κ 16)) k j s i).2) (8 * (i + 1)))) 40 (eK (κ 16) ((wIn (eK (κ 16)) k j s i).1, e8 ((wIn (eK (κ 16)) k j s i).2) (8 * (i + 1))))) (by have z_ := S_15; skip; exact z_)  (fun a_ n_ => ?_) (hF.tr ((F_6.tr F_11).tr F_16))
    have q_ := hB a_ n_; simp only [List.mem_cons, List.not_mem_nil, or_false, not_or] at n_
    (try simp only [ub, if_neg, n_, if_false])
    first | exact q_ | (simp only [ub_k]; exact q_) | (rw [q_]; simp only [ub_k]) | (repeat' split) <;> first | exact q_ | (rename_i e_; rw [e_])
set_option maxHeartbeats 4000000 in
set_option maxRecDepth 100000 in
theorem qX10_mixIn_loop {l : Launch} {w : am_W} {h : am_H} {n : Nat} {ρ : Nat → List (BitVec 8)} {β : Nat → bP} {κ : Nat → kT} {τ : Nat × Nat × Nat} (S : Sys h ρ β κ τ) (hn : 60 ≤ n) {m : Nat} (hm : isRw m = true) (sg : Int64) (k : Nat) (hk0 : 8 * k ≤ 1000) (hk : kOk (κ 16)) (kk : ∀ h2 β2, Sys h2 (ur ρ m ((wOut (eK (κ 16)) k (sg, ρ m) (6)).2)) β2 κ τ → (∀ a, a ∉ [40] → β2 a = β a) → Fr h h2 → RW l w mX10_mixIn h2 n 0 0 109 [(7, .int (nI (6))), (5, .long ((wOut (eK (κ 16)) k (sg, ρ m) (6)).1)), (0, .ref 39), (1, .long sg), (3, .ref m), (4, .int (nI k))] [] (fun h' n' r_ => n' = n ∧ (SX h τ none (ur ρ m (wMx (eK (κ 16)) k (sg, ρ m))) β κ [40]) h' r_)) : ∀ (d i : Nat), i + d = 6 → ∀ h2 β2, Sys h2 (ur ρ m ((wOut (eK (κ 16)) k (sg, ρ m) i).2)) β2 κ τ → (∀ a, a ∉ [40] → β2 a = β a) → Fr h h2 → RW l w mX10_mixIn h2 n 0 0 16 [(7, .int (nI i)), (5, .long ((wOut (eK (κ 16)) k (sg, ρ m) i).1)), (0, .ref 39), (1, .long sg), (3, .ref m), (4, .int (nI k))] [] (fun h' n' r_ => n' = n ∧ (SX h τ none (ur ρ m (wMx (eK (κ 16)) k (sg, ρ m))) β κ [40]) h' r_) := by
  have hlm := S.len m hm
  have hmc := rw_cases hm
  intro d
  induction d with
  | zero =>
    intro i hd h2 β2 S2 hB hF
    refine R_iload (pc := 16) 0 dX10_mixIn_16 rfl ?_
    refine R_bipush (pc := 18) (v := 6) dX10_mixIn_18 (by decide) ?_
    refine R_icmp_ge (pc := 20) (tgt := 109) dX10_mixIn_20 (by decide) (fun c_1 => ?_) (fun c_1 => absurd (nI_le (a := 6) (by omega) (by omega)) c_1)
    obtain rfl : i = 6 := by omega
    exact kk h2 β2 S2 hB hF
  | succ d ih =>
    intro i hd h2 β2 S2 hB hF
    refine R_iload (pc := 16) 0 dX10_mixIn_16 rfl ?_
    refine R_bipush (pc := 18) (v := 6) dX10_mixIn_18 (by decide) ?_
    refine R_icmp_ge (pc := 20) (tgt := 109) dX10_mixIn_20 (by decide) (fun c_1 => absurd c_1 (nI_ge (b := 6) (by omega) (by omega))) (fun c_1 => ?_)
    refine R_iconst (pc := 23) (v := 1) dX10_mixIn_23 (by decide) ?_
    refine R_istore (pc := 24) (lv' := [(8, .int 1), (7, .int (nI i)), (5, .long ((wOut (eK (κ 16)) k (sg, ρ m) i).1)), (0, .ref 39), (1, .long sg), (3, .ref m), (4, .int (nI k))]) dX10_mixIn_24 (by decide) rfl ?_
    refine R_sub [0, 2, 1, 3, 4, 5, 6] rfl ?_
    refine qX10_mixIn_in_loop S hn hm sg k hk0 hk i (by omega) (wOut (eK (κ 16)) k (sg, ρ m) i) ?_ k 0 (by omega) h2 β2 S2 (fun a_ n_ => ?_) hF
    · intro h2 β2 S2 hB hF
      refine R_iinc (pc := 103) (j := 2) (v := nI (i + 1)) (lv' := [(7, .int (nI (i + 1))), (8, .int (nI (k + 1))), (5, .long ((wIn (eK (κ 16)) k i (wOut (eK (κ 16)) k (sg, ρ m) i) k).1)), (0, .ref 39), (1, .long sg), (3, .ref m), (4, .int (nI k))]) dX10_mixIn_103 rfl (nI_1 i) (by decide) rfl ?_
      refine R_goto (pc := 106) (tgt := 16) dX10_mixIn_106 (by decide) ?_
      refine R_sub [0, 2, 3, 4, 5, 6] rfl ?_
      exact ih (i + 1) (by omega) h2 β2 S2 hB hF
    · exact hB a_ n_
set_option maxHeartbeats 4000000 in
set_option maxRecDepth 100000 in
theorem qX10_mixIn {l : Launch} {w : am_W} {h : am_H} {n : Nat} {ρ : Nat → List (BitVec 8)} {β : Nat → bP} {κ : Nat → kT} {τ : Nat × Nat × Nat} (S : Sys h ρ β κ τ) (hn : 60 ≤ n) {m : Nat} (hm : isRw m = true) (sg : Int64) (k : Nat) (hkk : k = (ρ m).length / 8 - 1) (hlen : 8 ≤ (ρ m).length) (hk0 : 8 * k ≤ 1000) (hk : kOk (κ 16)) : RH l w mX10_mixIn h n [.ref 39, .long sg, .ref m] (SX h τ none (ur ρ m (wMx (eK (κ 16)) k (sg, ρ m))) β κ [40]) := by
  refine RC.of [(0, .ref 39), (1, .long sg), (3, .ref m)] (by decide +kernel) rfl (Nat.le_of_ble_eq_true rfl) ?_
  have hlm := S.len m hm
  have hmc := rw_cases hm
  refine R_aload_n (pc := 0) 2 dX10_mixIn_0 rfl rfl ?_
  have := rw_cases (r := m) hm
  refine R_get (pc := 1) dX10_mixIn_1 fX10_45 (S.rowO m hm) (by omega) rfl ?_
  refine R_eqi (y := nI (ρ m).length) (by first | rfl | (simp only [ur_s, ur_ur])) ?_
  refine R_iconst (pc := 4) (v := 3) dX10_mixIn_4 (by decide) ?_
  refine R_ishr (pc := 5) dX10_mixIn_5 ?_
  refine R_eqi (y := nI ((ρ m).length / 8)) (pk_shrN (by omega) _ 3 (by decide)) ?_
  refine R_iconst (pc := 6) (v := 1) dX10_mixIn_6 (by decide) ?_
  refine R_isub (pc := 7) dX10_mixIn_7 ?_
  refine R_eqi (y := nI k) (by rw [hkk]; exact pk_sub (b := 1) (by omega)) ?_
  refine R_istore (pc := 8) (lv' := [(4, .int (nI k)), (0, .ref 39), (1, .long sg), (3, .ref m)]) dX10_mixIn_8 (by decide) rfl ?_
  refine R_lload_n (pc := 10) 2 dX10_mixIn_10 rfl rfl ?_
  refine R_lstore (pc := 11) (lv' := [(5, .long sg), (4, .int (nI k)), (0, .ref 39), (1, .long sg), (3, .ref m)]) dX10_mixIn_11 (by decide) rfl ?_
  refine R_iconst (pc := 13) (v := 0) dX10_mixIn_13 (by decide) ?_
  refine R_istore (pc := 14) (lv' := [(7, .int 0), (5, .long sg), (4, .int (nI k)), (0, .ref 39), (1, .long sg), (3, .ref m)]) dX10_mixIn_14 (by decide) rfl ?_
  refine R_sub [0, 1, 3, 4, 5, 2] rfl ?_
  refine qX10_mixIn_loop S hn hm sg k hk0 hk ?_ 6 0 (by omega) h β (by rw [show (wOut (eK (κ 16)) k (sg, ρ m) 0).2 = ρ m from rfl, ur_id]; exact S) (fun _ _ => rfl) (Fr.rf h)
  intro h2 β2 S2 hB hF
  refine R_aload_n (pc := 109) 4 dX10_mixIn_109 rfl rfl ?_
  refine R_iconst (pc := 110) (v := 0) dX10_mixIn_110 (by decide) ?_
  refine R_lload (pc := 111) 1 dX10_mixIn_111 rfl ?_
  refine R_callVh (pc := 113) (μ' := mX6_putEight) (As := [.int (nI 0), .long ((wOut (eK (κ 16)) k (sg, ρ m) 6).1)]) (st := []) dX10_mixIn_113 zX6_putEight lX10_85 ⟨by decide, by decide⟩ rfl rfl ⟨by decide, by decide⟩ (S2.rowO m hm) (by omega) rfl (Nat.le_of_ble_eq_true rfl) (S_putEight S2 hn hm 0 _ (by omega)) (fun h_1 r_ q_2 => ?_)
  obtain ⟨rfl, S_3, F_5⟩ := q_2
  have S_4 : Sys h_1 (ur ρ m (p8 ((wOut (eK (κ 16)) k (sg, ρ m) 6).2) 0 ((wOut (eK (κ 16)) k (sg, ρ m) 6).1) 8)) β2 κ τ := by have z_ := S_3; (try simp only [ur_s, ur_ur] at z_); exact z_
  refine R_vreturn (pc := 116) dX10_mixIn_116 rfl (by decide) (by decide) ⟨rfl, β2, ?_, rfl, S_4, (hF.tr F_5)⟩
  intro a_ n_
  simp only [List.mem_cons, List.not_mem_nil, or_false, not_or] at n_
  (try simp only [ub, if_neg, if_false, n_])
  (try simp only [ub_k])
  (try rw [hB a_ (by simp [n_])])
  (try simp only [ub, if_neg, if_false, n_])
  (try simp only [ub_k])
set_option maxHeartbeats 4000000 in
set_option maxRecDepth 100000 in
theorem qX10_mixOut_in_loop {l : Launch} {w : am_W} {h : am_H} {n : Nat} {ρ : Nat → List (BitVec 8)} {β : Nat → bP} {κ : Nat → kT} {τ : Nat × Nat × Nat} (S : Sys h ρ β κ τ) (hn : 60 ≤ n) {m : Nat} (hm : isRw m = true) (k : Nat) (hk0 : 8 * k ≤ 1000) (hk : kOk (κ 16)) (j : Nat) (hj : j < 6) (s : wT) (kk : ∀ h2 β2, Sys h2 (ur ρ m ((uIn (dK (κ 16)) k (5 - j) s (k)).2)) β2 κ τ → (∀ a, a ∉ [40] → β2 a = β a) → Fr h h2 → RW l w mX10_mixOut h2 n 0 0 99 [(6, .int (nI (k - (k)))), (3, .long ((uIn (dK (κ 16)) k (5 - j) s (k)).1)), (5, .int (nI (5 - j))), (0, .ref 39), (1, .ref m), (2, .int (nI k))] [] (fun h' n' r_ => n' = n ∧ (SX h τ (some (.long (uOut (dK (κ 16)) k (e8 (ρ m) 0, ρ m) 6).1)) (ur ρ m (uOut (dK (κ 16)) k (e8 (ρ m) 0, ρ m) 6).2) β κ [40]) h' r_)) : ∀ (d i : Nat), i + d = k → ∀ h2 β2, Sys h2 (ur ρ m ((uIn (dK (κ 16)) k (5 - j) s i).2)) β2 κ τ → (∀ a, a ∉ [40] → β2 a = β a) → Fr h h2 → RW l w mX10_mixOut h2 n 0 0 26 [(6, .int (nI (k - i))), (3, .long ((uIn (dK (κ 16)) k (5 - j) s i).1)), (5, .int (nI (5 - j))), (0, .ref 39), (1, .ref m), (2, .int (nI k))] [] (fun h' n' r_ => n' = n ∧ (SX h τ (some (.long (uOut (dK (κ 16)) k (e8 (ρ m) 0, ρ m) 6).1)) (ur ρ m (uOut (dK (κ 16)) k (e8 (ρ m) 0, ρ m) 6).2) β κ [40]) h' r_) := by
  have hlm := S.len m hm
  have hmc := rw_cases hm
  intro d
  induction d with
  | zero =>
    intro i hd h2 β2 S2 hB hF
    refine R_iload (pc := 26) 0 dX10_mixOut_26 rfl ?_
    refine R_iconst (pc := 28) (v := 1) dX10_mixOut_28 (by decide) ?_
    refine R_icmp_lt (pc := 29) (tgt := 99) dX10_mixOut_29 (by decide) (fun c_1 => ?_) (fun c_1 => absurd (nI_lt (b := 1) (by omega) (by omega)) c_1)
    obtain rfl : i = k := by omega
    exact kk h2 β2 S2 hB hF
  | succ d ih =>
    intro i hd h2 β2 S2 hB hF
    refine R_iload (pc := 26) 0 dX10_mixOut_26 rfl ?_
    refine R_iconst (pc := 28) (v := 1) dX10_mixOut_28 (by decide) ?_
    refine R_icmp_lt (pc := 29) (tgt := 99) dX10_mixOut_29 (by decide) (fun c_1 => absurd c_1 (nI_nlt (b := 1) (by omega) (by omega))) (fun c_1 => ?_)
    refine R_aload_n (pc := 32) 3 dX10_mixOut_32 rfl rfl ?_
    refine R_get (pc := 33) dX10_mixOut_33 fX10_16 S2.2.2.2.2.2.2.1 (by omega) rfl ?_
    refine R_lload_n (pc := 36) 1 dX10_mixOut_36 rfl rfl ?_
    refine R_iload_n (pc := 37) 5 dX10_mixOut_37 rfl rfl ?_
    refine R_iload (pc := 38) 2 dX10_mixOut_38 rfl ?_
    refine R_imul (pc := 40) dX10_mixOut_40 ?_
    refine R_eqi (y := nI (k * (5 - j))) (pk_mul k (5 - j)) ?_
    refine R_iload (pc := 41) 0 dX10_mixOut_41 rfl ?_
    refine R_iadd (pc := 43) dX10_mixOut_43 ?_
    refine R_eqi (y := nI (k * (5 - j) + (k - i))) (nI_add (k * (5 - j)) (k - i)) ?_
    refine R_i2l (pc := 44) (v := (nI (k * (5 - j) + (k - i))).toInt64) dX10_mixOut_44 rfl ?_
    refine R_lxor (pc := 45) dX10_mixOut_45 ?_
    refine R_aload_n (pc := 46) 4 dX10_mixOut_46 rfl rfl ?_
    refine R_bipush (pc := 47) (v := 8) dX10_mixOut_47 (by decide) ?_
    refine R_iload (pc := 49) 0 dX10_mixOut_49 rfl ?_
    refine R_imul (pc := 51) dX10_mixOut_51 ?_
    refine R_eqi (y := nI (8 * (k - i))) (pk_mul 8 (k - i)) ?_
    refine R_callVp (pc := 52) (μ' := mX6_eightAt) (As := [.int (nI (8 * (k - i)))]) (st := [.long (((uIn (dK (κ 16)) k (5 - j) s i).1) ^^^ ((nI (k * (5 - j) + (k - i))).toInt64)), .ref 40]) dX10_mixOut_52 zX6_eightAt lX10_49 ⟨by decide, by decide⟩ rfl rfl ⟨by decide, by decide⟩ (S2.rowO m hm) (by omega) rfl (Nat.le_of_ble_eq_true rfl) (S_eightAt S2 hn hm (8 * (k - i)) (by omega)) ?_
    refine R_eql (y := e8 ((uIn (dK (κ 16)) k (5 - j) s i).2) (8 * (k - i))) (by first | rfl | (simp only [ur_s, ur_ur])) ?_
    refine R_callVh (pc := 55) (μ' := mX0_become) (As := [.long (((uIn (dK (κ 16)) k (5 - j) s i).1) ^^^ ((nI (k * (5 - j) + (k - i))).toInt64)), .long (e8 ((uIn (dK (κ 16)) k (5 - j) s i).2) (8 * (k - i)))]) (st := []) dX10_mixOut_55 zX0_become lX10_53 ⟨by decide, by decide⟩ rfl rfl ⟨by decide, by decide⟩ (S2.blk 40 rfl) (by omega) rfl (Nat.le_of_ble_eq_true rfl) (S_become S2 hn rfl _ _) (fun h_2 r_ q_3 => ?_)
    obtain ⟨rfl, S_4, F_6⟩ := q_3
    have S_5 : Sys h_2 (ur ρ m ((uIn (dK (κ 16)) k (5 - j) s i).2)) (ub β2 40 (((uIn (dK (κ 16)) k (5 - j) s i).1) ^^^ ((nI (k * (5 - j) + (k - i))).toInt64), e8 ((uIn (dK (κ 16)) k (5 - j) s i).2) (8 * (k - i)))) κ τ := S_4
    refine R_aload_n (pc := 58) 3 dX10_mixOut_58 rfl rfl ?_
    refine R_get (pc := 59) dX10_mixOut_59 fX10_7 S_5.2.2.2.2.2.2.1 (by omega) rfl ?_
    refine R_aload_n (pc := 62) 3 dX10_mixOut_62 rfl rfl ?_
    refine R_get (pc := 63) dX10_mixOut_63 fX10_16 S_5.2.2.2.2.2.2.1 (by omega) rfl ?_
    refine R_callVh (pc := 66) (μ' := mX2_decrypt) (As := [.ref 40]) (st := []) dX10_mixOut_66 zX2_decrypt lX10_75 ⟨by decide, by decide⟩ rfl rfl ⟨by decide, by decide⟩ (S_5.2.2.1 16 (by decide)).1 (by omega) rfl (Nat.le_of_ble_eq_true rfl) (S_decrypt S_5 hn (by decide) rfl hk.1 hk.2) (fun h_7 r_ q_8 => ?_)
    obtain ⟨rfl, S_9, F_11⟩ := q_8
    have S_10 : Sys h_7 (ur ρ m ((uIn (dK (κ 16)) k (5 - j) s i).2)) (ub (ub β2 40 (((uIn (dK (κ 16)) k (5 - j) s i).1) ^^^ ((nI (k * (5 - j) + (k - i))).toInt64), e8 ((uIn (dK (κ 16)) k (5 - j) s i).2) (8 * (k - i)))) 40 (dK (κ 16) (((uIn (dK (κ 16)) k (5 - j) s i).1) ^^^ ((nI (k * (5 - j) + (k - i))).toInt64), e8 ((uIn (dK (κ 16)) k (5 - j) s i).2) (8 * (k - i))))) κ τ := S_9
    refine R_aload_n (pc := 69) 3 dX10_mixOut_69 rfl rfl ?_
    refine R_get (pc := 70) dX10_mixOut_70 fX10_16 S_10.2.2.2.2.2.2.1 (by omega) rfl ?_
    skip
    refine R_get (pc := 73) dX10_mixOut_73 fX10_78 (S_10.blk 40 rfl) (by omega) rfl ?_
    refine R_eql (y := (dK (κ 16) (((uIn (dK (κ 16)) k (5 - j) s i).1) ^^^ ((nI (k * (5 - j) + (k - i))).toInt64), e8 ((uIn (dK (κ 16)) k (5 - j) s i).2) (8 * (k - i)))).1) rfl ?_
    refine R_lstore_n (pc := 76) (lv' := [(3, .long ((dK (κ 16) (((uIn (dK (κ 16)) k (5 - j) s i).1) ^^^ ((nI (k * (5 - j) + (k - i))).toInt64), e8 ((uIn (dK (κ 16)) k (5 - j) s i).2) (8 * (k - i)))).1)), (6, .int (nI (k - i))), (5, .int (nI (5 - j))), (0, .ref 39), (1, .ref m), (2, .int (nI k))]) dX10_mixOut_76 rfl (by decide) rfl ?_
    refine R_aload_n (pc := 77) 4 dX10_mixOut_77 rfl rfl ?_
    refine R_bipush (pc := 78) (v := 8) dX10_mixOut_78 (by decide) ?_
    refine R_iload (pc := 80) 1 dX10_mixOut_80 rfl ?_
    refine R_imul (pc := 82) dX10_mixOut_82 ?_
    refine R_eqi (y := nI (8 * (k - i))) (pk_mul 8 (k - i)) ?_
    refine R_aload_n (pc := 83) 3 dX10_mixOut_83 rfl rfl ?_
    refine R_get (pc := 84) dX10_mixOut_84 fX10_16 S_10.2.2.2.2.2.2.1 (by omega) rfl ?_
    skip
    refine R_get (pc := 87) dX10_mixOut_87 fX10_82 (S_10.blk 40 rfl) (by omega) rfl ?_
    refine R_eql (y := (dK (κ 16) (((uIn (dK (κ 16)) k (5 - j) s i).1) ^^^ ((nI (k * (5 - j) + (k - i))).toInt64), e8 ((uIn (dK (κ 16)) k (5 - j) s i).2) (8 * (k - i)))).2) rfl ?_
    refine R_callVh (pc := 90) (μ' := mX6_putEight) (As := [.int (nI (8 * (k - i))), .long ((dK (κ 16) (((uIn (dK (κ 16)) k (5 - j) s i).1) ^^^ ((nI (k * (5 - j) + (k - i))).toInt64), e8 ((uIn (dK (κ 16)) k (5 - j) s i).2) (8 * (k - i)))).2)]) (st := []) dX10_mixOut_90 zX6_putEight lX10_85 ⟨by decide, by decide⟩ rfl rfl ⟨by decide, by decide⟩ (S_10.rowO m hm) (by omega) rfl (Nat.le_of_ble_eq_true rfl) (S_putEight S_10 hn hm (8 * (k - i)) _ (by omega)) (fun h_12 r_ q_13 => ?_)
    obtain ⟨rfl, S_14, F_16⟩ := q_13
    have S_15 : Sys h_12 (ur ρ m (p8 ((uIn (dK (κ 16)) k (5 - j) s i).2) (8 * (k - i)) ((dK (κ 16) (((uIn (dK (κ 16)) k (5 - j) s i).1) ^^^ ((nI (k * (5 - j) + (k - i))).toInt64), e8 ((uIn (dK (κ 16)) k (5 - j) s i).2) (8 * (k - i)))).2) 8)) (ub (ub β2 40 (((uIn (dK (κ 16)) k (5 - j) s i).1) ^^^ ((nI (k * (5 - j) + (k - i))).toInt64), e8 ((uIn (dK (κ 16)) k (5 - j) s i).2) (8 * (k - i)))) 40 (dK (κ 16) (((uIn (dK (κ 16)) k (5 - j) s i).1) ^^^ ((nI (k * (5 - j) + (k - i))).toInt64), e8 ((uIn (dK (κ 16)) k (5 - j) s i).2) (8 * (k - i))))) κ τ := by have z_ := S_14; (try simp only [ur_s, ur_ur] at z_); exact z_
    refine R_iinc (pc := 93) (j := 1) (v := nI (k - (i + 1))) (lv' := [(6, .int (nI (k - (i + 1)))), (3, .long ((dK (κ 16) (((uIn (dK (κ 16)) k (5 - j) s i).1) ^^^ ((nI (k * (5 - j) + (k - i))).toInt64), e8 ((uIn (dK (κ 16)) k (5 - j) s i).2) (8 * (k - i)))).1)), (5, .int (nI (5 - j))), (0, .ref 39), (1, .ref m), (2, .int (nI k))]) dX10_mixOut_93 rfl (by rw [show k - i = k - (i + 1) + 1 by omega]; exact pk_m1 (k - (i + 1))) (by decide) rfl ?_
    refine R_goto (pc := 96) (tgt := 26) dX10_mixOut_96 (by decide) ?_
    refine R_sub [0, 1, 2, 3, 4, 5] rfl ?_
    refine ih (i + 1) (by omega) h_12 (ub (ub β2 40 (((uIn (dK (κ 16)) k (5 - j) s i).1) ^^^ ((nI (k * (5 - j) + (k - i))).toInt64), e8 ((uIn (dK (κ 16)) k (5 - j) s i).2) (8 * (k - i)))) 40 (dK (κ 16) (((uIn (dK (κ 16)) k (5 - j) s i).1) ^^^ ((nI (k * (5 - j) + (k - i))).toInt64), e8 ((uIn (dK (κ 16)) k (5 - j) s i).2) (8 * (k - i))))) (by have z_ := S_15; skip; exact z_)  (fun a_ n_ => ?_) (hF.tr ((F_6.tr F_11).tr F_16))
    have q_ := hB a_ n_; simp only [List.mem_cons, List.not_mem_nil, or_false, not_or] at n_
    (try simp only [ub, if_neg, n_, if_false])
    first | exact q_ | (simp only [ub_k]; exact q_) | (rw [q_]; simp only [ub_k]) | (repeat' split) <;> first | exact q_ | (rename_i e_; rw [e_])
/-- j as a local that falls from 5 below 0 -/
def dn5 (i : Nat) : Int32 := 5 - nI i
theorem dn5_1 (i : Nat) : dn5 i + (-1) = dn5 (i + 1) := by
  unfold dn5
  rw [← nI_1]
  have : ∀ a b : Int32, a - b + (-1) = a - (b + 1) := by
    intro a b
    apply Int32.toBitVec_inj.mp
    simp only [Int32.toBitVec_add, Int32.toBitVec_sub, Int32.toBitVec_neg]
    rw [BitVec.sub_eq_add_neg, BitVec.sub_eq_add_neg, BitVec.neg_add, BitVec.add_assoc, BitVec.sub_eq_add_neg]
  exact this 5 (nI i)
theorem dn5_n {i : Nat} (h : i ≤ 5) : dn5 i = nI (5 - i) := pk_sub (a := 5) h
set_option maxHeartbeats 4000000 in
set_option maxRecDepth 100000 in
theorem qX10_mixOut_loop {l : Launch} {w : am_W} {h : am_H} {n : Nat} {ρ : Nat → List (BitVec 8)} {β : Nat → bP} {κ : Nat → kT} {τ : Nat × Nat × Nat} (S : Sys h ρ β κ τ) (hn : 60 ≤ n) {m : Nat} (hm : isRw m = true) (k : Nat) (hk0 : 8 * k ≤ 1000) (hk : kOk (κ 16)) (kk : ∀ h2 β2, Sys h2 (ur ρ m ((uOut (dK (κ 16)) k (e8 (ρ m) 0, ρ m) (6)).2)) β2 κ τ → (∀ a, a ∉ [40] → β2 a = β a) → Fr h h2 → RW l w mX10_mixOut h2 n 0 0 105 [(5, .int (dn5 (6))), (3, .long ((uOut (dK (κ 16)) k (e8 (ρ m) 0, ρ m) (6)).1)), (0, .ref 39), (1, .ref m), (2, .int (nI k))] [] (fun h' n' r_ => n' = n ∧ (SX h τ (some (.long (uOut (dK (κ 16)) k (e8 (ρ m) 0, ρ m) 6).1)) (ur ρ m (uOut (dK (κ 16)) k (e8 (ρ m) 0, ρ m) 6).2) β κ [40]) h' r_)) : ∀ (d i : Nat), i + d = 6 → ∀ h2 β2, Sys h2 (ur ρ m ((uOut (dK (κ 16)) k (e8 (ρ m) 0, ρ m) i).2)) β2 κ τ → (∀ a, a ∉ [40] → β2 a = β a) → Fr h h2 → RW l w mX10_mixOut h2 n 0 0 18 [(5, .int (dn5 i)), (3, .long ((uOut (dK (κ 16)) k (e8 (ρ m) 0, ρ m) i).1)), (0, .ref 39), (1, .ref m), (2, .int (nI k))] [] (fun h' n' r_ => n' = n ∧ (SX h τ (some (.long (uOut (dK (κ 16)) k (e8 (ρ m) 0, ρ m) 6).1)) (ur ρ m (uOut (dK (κ 16)) k (e8 (ρ m) 0, ρ m) 6).2) β κ [40]) h' r_) := by
  have hlm := S.len m hm
  have hmc := rw_cases hm
  intro d
  induction d with
  | zero =>
    intro i hd h2 β2 S2 hB hF
    refine R_iload (pc := 18) 0 dX10_mixOut_18 rfl ?_
    refine R_if_lt (pc := 20) (tgt := 105) dX10_mixOut_20 (by decide) (fun c_1 => ?_) (fun c_1 => absurd (by rw [show i = 6 by omega]; decide) c_1)
    obtain rfl : i = 6 := by omega
    exact kk h2 β2 S2 hB hF
  | succ d ih =>
    intro i hd h2 β2 S2 hB hF
    refine R_iload (pc := 18) 0 dX10_mixOut_18 rfl ?_
    refine R_if_lt (pc := 20) (tgt := 105) dX10_mixOut_20 (by decide) (fun c_1 => absurd c_1 (by rw [dn5_n (by omega)]; exact nI_pos (by omega))) (fun c_1 => ?_)
    refine R_iload_n (pc := 23) 4 dX10_mixOut_23 rfl rfl ?_
    refine R_istore (pc := 24) (lv' := [(6, .int (nI k)), (5, .int (dn5 i)), (3, .long ((uOut (dK (κ 16)) k (e8 (ρ m) 0, ρ m) i).1)), (0, .ref 39), (1, .ref m), (2, .int (nI k))]) dX10_mixOut_24 (by decide) rfl ?_
    refine R_sub [0, 2, 1, 3, 4, 5] rfl ?_
    rw [dn5_n (i := i) (by omega)]
    refine qX10_mixOut_in_loop S hn hm k hk0 hk i (by omega) (uOut (dK (κ 16)) k (e8 (ρ m) 0, ρ m) i) ?_ k 0 (by omega) h2 β2 S2 (fun a_ n_ => ?_) hF
    · intro h2 β2 S2 hB hF
      rw [← dn5_n (i := i) (by omega)]
      refine R_iinc (pc := 99) (j := 2) (v := dn5 (i + 1)) (lv' := [(5, .int (dn5 (i + 1))), (6, .int (nI (k - k))), (3, .long ((uIn (dK (κ 16)) k (5 - i) (uOut (dK (κ 16)) k (e8 (ρ m) 0, ρ m) i) k).1)), (0, .ref 39), (1, .ref m), (2, .int (nI k))]) dX10_mixOut_99 rfl (dn5_1 i) (by decide) rfl ?_
      refine R_goto (pc := 102) (tgt := 18) dX10_mixOut_102 (by decide) ?_
      refine R_sub [0, 2, 3, 4, 5] rfl ?_
      exact ih (i + 1) (by omega) h2 β2 S2 hB hF
    · exact hB a_ n_
set_option maxHeartbeats 4000000 in
set_option maxRecDepth 100000 in
theorem qX10_mixOut {l : Launch} {w : am_W} {h : am_H} {n : Nat} {ρ : Nat → List (BitVec 8)} {β : Nat → bP} {κ : Nat → kT} {τ : Nat × Nat × Nat} (S : Sys h ρ β κ τ) (hn : 60 ≤ n) {m : Nat} (hm : isRw m = true) (k : Nat) (hkk : k = (ρ m).length / 8 - 1) (hlen : 8 ≤ (ρ m).length) (hk0 : 8 * k ≤ 1000) (hk : kOk (κ 16)) : RH l w mX10_mixOut h n [.ref 39, .ref m] (SX h τ (some (.long (uOut (dK (κ 16)) k (e8 (ρ m) 0, ρ m) 6).1)) (ur ρ m (uOut (dK (κ 16)) k (e8 (ρ m) 0, ρ m) 6).2) β κ [40]) := by
  refine RC.of [(0, .ref 39), (1, .ref m)] (by decide +kernel) rfl (Nat.le_of_ble_eq_true rfl) ?_
  have hlm := S.len m hm
  have hmc := rw_cases hm
  refine R_aload_n (pc := 0) 1 dX10_mixOut_0 rfl rfl ?_
  have := rw_cases (r := m) hm
  refine R_get (pc := 1) dX10_mixOut_1 fX10_45 (S.rowO m hm) (by omega) rfl ?_
  refine R_eqi (y := nI (ρ m).length) (by first | rfl | (simp only [ur_s, ur_ur])) ?_
  refine R_iconst (pc := 4) (v := 3) dX10_mixOut_4 (by decide) ?_
  refine R_ishr (pc := 5) dX10_mixOut_5 ?_
  refine R_eqi (y := nI ((ρ m).length / 8)) (pk_shrN (by omega) _ 3 (by decide)) ?_
  refine R_iconst (pc := 6) (v := 1) dX10_mixOut_6 (by decide) ?_
  refine R_isub (pc := 7) dX10_mixOut_7 ?_
  refine R_eqi (y := nI k) (by rw [hkk]; exact pk_sub (b := 1) (by omega)) ?_
  refine R_istore_n (pc := 8) (lv' := [(2, .int (nI k)), (0, .ref 39), (1, .ref m)]) dX10_mixOut_8 rfl (by decide) rfl ?_
  refine R_aload_n (pc := 9) 2 dX10_mixOut_9 rfl rfl ?_
  refine R_iconst (pc := 10) (v := 0) dX10_mixOut_10 (by decide) ?_
  refine R_callVp (pc := 11) (μ' := mX6_eightAt) (As := [.int (nI 0)]) (st := []) dX10_mixOut_11 zX6_eightAt lX10_49 ⟨by decide, by decide⟩ rfl rfl ⟨by decide, by decide⟩ (S.rowO m hm) (by omega) rfl (Nat.le_of_ble_eq_true rfl) (S_eightAt S hn hm 0 (by omega)) ?_
  refine R_eql (y := e8 (ρ m) 0) (by first | rfl | (simp only [ur_s, ur_ur])) ?_
  refine R_lstore_n (pc := 14) (lv' := [(3, .long (e8 (ρ m) 0)), (2, .int (nI k)), (0, .ref 39), (1, .ref m)]) dX10_mixOut_14 rfl (by decide) rfl ?_
  refine R_iconst (pc := 15) (v := 5) dX10_mixOut_15 (by decide) ?_
  refine R_eqi (y := dn5 0) (rfl) ?_
  refine R_istore (pc := 16) (lv' := [(5, .int (dn5 0)), (3, .long (e8 (ρ m) 0)), (2, .int (nI k)), (0, .ref 39), (1, .ref m)]) dX10_mixOut_16 (by decide) rfl ?_
  refine R_sub [0, 1, 3, 4, 2] rfl ?_
  refine qX10_mixOut_loop S hn hm k hk0 hk ?_ 6 0 (by omega) h β (by rw [show (uOut (dK (κ 16)) k (e8 (ρ m) 0, ρ m) 0).2 = ρ m from rfl, ur_id]; exact S) (fun _ _ => rfl) (Fr.rf h)
  intro h2 β2 S2 hB hF
  refine R_lload_n (pc := 105) 1 dX10_mixOut_105 rfl rfl ?_
  refine R_lreturn (pc := 106) dX10_mixOut_106 rfl (by decide) (by decide) ⟨rfl, β2, ?_, rfl, S2, hF⟩
  intro a_ n_
  simp only [List.mem_cons, List.not_mem_nil, or_false, not_or] at n_
  (try simp only [ub, if_neg, if_false, n_])
  (try simp only [ub_k])
  (try rw [hB a_ (by simp [n_])])
  (try simp only [ub, if_neg, if_false, n_])
  (try simp only [ub_k])
