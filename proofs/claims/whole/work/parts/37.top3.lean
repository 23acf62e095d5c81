def kN (v : Int32) (k : Nat) : Prop := (v = 1 ∧ k = 1) ∨ (v = 2 ∧ k = 2) ∨ (v = 3 ∧ k = 3) ∨ (v = 4 ∧ k = 4) ∨ (v = 5 ∧ k = 5) ∨ (v = 6 ∧ k = 6) ∨ (v = 7 ∧ k = 7) ∨ (v = 8 ∧ k = 8) ∨ (v = 9 ∧ k = 9) ∨ (v = 10 ∧ k = 10) ∨ (v = 11 ∧ k = 11) ∨ (v = 12 ∧ k = 12) ∨ (v = 13 ∧ k = 13) ∨ (v = 14 ∧ k = 14) ∨ (v = 15 ∧ k = 15) ∨ (v = 16 ∧ k = 16)
theorem kN.eq {v : Int32} {k : Nat} (h : kN v k) : v = nI k ∧ 1 ≤ k ∧ k ≤ 16 := by
  rcases h with ⟨rfl, rfl⟩ | ⟨rfl, rfl⟩ | ⟨rfl, rfl⟩ | ⟨rfl, rfl⟩ | ⟨rfl, rfl⟩ | ⟨rfl, rfl⟩ | ⟨rfl, rfl⟩ | ⟨rfl, rfl⟩ | ⟨rfl, rfl⟩ | ⟨rfl, rfl⟩ | ⟨rfl, rfl⟩ | ⟨rfl, rfl⟩ | ⟨rfl, rfl⟩ | ⟨rfl, rfl⟩ | ⟨rfl, rfl⟩ | ⟨rfl, rfl⟩ <;> exact ⟨rfl, by omega, by omega⟩
theorem kN_of {v : Int32} (h1 : ¬ v < 1) (h2 : v ≤ 16) : ∃ k, kN v k := by
  obtain ⟨j, hj, rfl⟩ := nI_of (x := v) (fun q_ => h1 (Int32.lt_trans q_ (by decide)))
  have a1 : 1 ≤ j := by
    rcases Nat.lt_or_ge j 1 with q | q
    · exact absurd (nI_lt (b := 1) q (by omega)) h1
    · exact q
  have a2 : j ≤ 16 := (nI_leI (b := 16) hj (by omega)).mp h2
  refine ⟨j, ?_⟩
  have : j = 1 ∨ j = 2 ∨ j = 3 ∨ j = 4 ∨ j = 5 ∨ j = 6 ∨ j = 7 ∨ j = 8 ∨ j = 9 ∨ j = 10 ∨ j = 11 ∨ j = 12 ∨ j = 13 ∨ j = 14 ∨ j = 15 ∨ j = 16 := by omega
  rcases this with rfl | rfl | rfl | rfl | rfl | rfl | rfl | rfl | rfl | rfl | rfl | rfl | rfl | rfl | rfl | rfl <;> (unfold kN; decide)
def stF : Nat → Nat → Int32
  | 1, _ => 1 | 10, _ => 1 | 11, _ => 1 | 14, _ => 1 | 15, _ => 1
  | 12, m => if nI m < 1 then 0 else 1
  | 13, m => if nI m < 7 then 0 else if 13 < nI m then 0 else 1
  | 16, m => if nI m < 1 then 0 else if 15 < nI m then 0 else 1
  | _, m => if nI m = 16 then 1 else 0
def tgF (u : Int32) (m t : Nat) : Int32 := if u = 0 then 1 else if nI m < nI t then 0 else 1
def dtF : Nat → Int32 → Nat → Nat → Int32
  | 12, u, m, t => tgF u m t | 13, u, m, t => tgF u m t | 14, u, m, t => tgF u m t | 16, u, m, t => tgF u m t
  | 1, _, m, _ => if nI m &&& 15 = 0 then 1 else 0
  | 2, _, m, _ => if nI m &&& 15 = 0 then 1 else 0
  | 3, u, m, _ => if u = 0 then 1 else if nI m < 16 then 0 else if nI m &&& 15 = 0 then 1 else 0
  | 4, _, m, _ => if nI m < 17 then 0 else 1
  | 9, _, m, _ => if nI m < 16 then 0 else 1
  | 10, u, m, _ => if nI m &&& 7 = 0 then (if u = 0 then (if nI m < 16 then 0 else 1) else (if nI m < 24 then 0 else 1)) else 0
  | 11, u, m, _ => if u = 0 then (if nI m < 1 then 0 else 1) else if nI m &&& 7 = 0 then (if nI m < 16 then 0 else 1) else 0
  | 15, u, m, _ => if u = 0 then 1 else if nI m < 16 then 0 else 1
  | _, _, _, _ => 1
set_option maxHeartbeats 4000000 in
set_option maxRecDepth 100000 in
theorem qX11_startFits {l : Launch} {w : am_W} {h : am_H} {n : Nat} {ρ : Nat → List (BitVec 8)} {β : Nat → bP} {κ : Nat → kT} {τ : Nat × Nat × Nat} (S : Sys h ρ β κ τ) (hn : 60 ≤ n) (hτ : tOk τ) (v : Int32) (k : Nat) (hv : kN v k) : RH l w mX11_startFits h n [.ref 1, .int v] (SQ h τ (some (.int (stF k (ρ 6).length))) ρ β κ) := by
  refine RC.of [(0, .ref 1), (1, .int v)] (by decide +kernel) rfl (Nat.le_of_ble_eq_true rfl) ?_
  rcases hv with ⟨rfl, rfl⟩ | ⟨rfl, rfl⟩ | ⟨rfl, rfl⟩ | ⟨rfl, rfl⟩ | ⟨rfl, rfl⟩ | ⟨rfl, rfl⟩ | ⟨rfl, rfl⟩ | ⟨rfl, rfl⟩ | ⟨rfl, rfl⟩ | ⟨rfl, rfl⟩ | ⟨rfl, rfl⟩ | ⟨rfl, rfl⟩ | ⟨rfl, rfl⟩ | ⟨rfl, rfl⟩ | ⟨rfl, rfl⟩ | ⟨rfl, rfl⟩
  · skip
    refine R_aload_n (pc := 0) 0 dX11_startFits_0 rfl rfl ?_
    refine R_get (pc := 1) dX11_startFits_1 fX11_21 S.2.2.2.2.2.2.2.2.2.2 (by omega) rfl ?_
    skip
    refine R_get (pc := 4) dX11_startFits_4 fX11_133 (S.rowO 6 rfl) (by omega) rfl ?_
    refine R_eqi (y := nI (ρ 6).length) (by first | rfl | (simp only [ur_s, ur_ur])) ?_
    refine R_istore_n (pc := 7) (lv' := [(2, .int (nI (ρ 6).length)), (0, .ref 1), (1, .int 1)]) dX11_startFits_7 rfl (by decide) rfl ?_
    refine R_iload_n (pc := 8) 2 dX11_startFits_8 rfl rfl ?_
    refine R_tableOut (pc := 9) (tgt := 142) dX11_startFits_9 (by decide) (by decide) ?_
    refine R_iconst (pc := 142) (v := 1) dX11_startFits_142 (by decide) ?_
    exact R_zreturn (pc := 143) dX11_startFits_143 rfl rfl (by decide) (by decide) ⟨rfl, rfl, S, (Fr.rf _)⟩
  · skip
    refine R_aload_n (pc := 0) 0 dX11_startFits_0 rfl rfl ?_
    refine R_get (pc := 1) dX11_startFits_1 fX11_21 S.2.2.2.2.2.2.2.2.2.2 (by omega) rfl ?_
    skip
    refine R_get (pc := 4) dX11_startFits_4 fX11_133 (S.rowO 6 rfl) (by omega) rfl ?_
    refine R_eqi (y := nI (ρ 6).length) (by first | rfl | (simp only [ur_s, ur_ur])) ?_
    refine R_istore_n (pc := 7) (lv' := [(2, .int (nI (ρ 6).length)), (0, .ref 1), (1, .int 2)]) dX11_startFits_7 rfl (by decide) rfl ?_
    refine R_iload_n (pc := 8) 2 dX11_startFits_8 rfl rfl ?_
    refine R_tableIn (pc := 9) (tgt := 84) dX11_startFits_9 (by decide) (by decide) rfl (by decide) ?_
    refine R_iload_n (pc := 84) 0 dX11_startFits_84 rfl rfl ?_
    refine R_bipush (pc := 85) (v := 16) dX11_startFits_85 (by decide) ?_
    refine R_icmp_ne (pc := 87) (tgt := 94) dX11_startFits_87 (by decide) (fun c_1 => ?_) (fun c_1 => ?_)
    · skip
      refine R_iconst (pc := 94) (v := 0) dX11_startFits_94 (by decide) ?_
      exact R_zreturn (pc := 95) dX11_startFits_95 rfl rfl (by decide) (by decide) ⟨rfl, by show some (Value.int 0) = some (Value.int (if nI (ρ 6).length = 16 then 1 else 0)); rw [if_neg c_1], S, (Fr.rf _)⟩
    · skip
      refine R_iconst (pc := 90) (v := 1) dX11_startFits_90 (by decide) ?_
      refine R_goto (pc := 91) (tgt := 95) dX11_startFits_91 (by decide) ?_
      exact R_zreturn (pc := 95) dX11_startFits_95 rfl rfl (by decide) (by decide) ⟨rfl, by show some (Value.int 1) = some (Value.int (if nI (ρ 6).length = 16 then 1 else 0)); rw [if_pos c_1], S, (Fr.rf _)⟩
  · skip
    refine R_aload_n (pc := 0) 0 dX11_startFits_0 rfl rfl ?_
    refine R_get (pc := 1) dX11_startFits_1 fX11_21 S.2.2.2.2.2.2.2.2.2.2 (by omega) rfl ?_
    skip
    refine R_get (pc := 4) dX11_startFits_4 fX11_133 (S.rowO 6 rfl) (by omega) rfl ?_
    refine R_eqi (y := nI (ρ 6).length) (by first | rfl | (simp only [ur_s, ur_ur])) ?_
    refine R_istore_n (pc := 7) (lv' := [(2, .int (nI (ρ 6).length)), (0, .ref 1), (1, .int 3)]) dX11_startFits_7 rfl (by decide) rfl ?_
    refine R_iload_n (pc := 8) 2 dX11_startFits_8 rfl rfl ?_
    refine R_tableIn (pc := 9) (tgt := 84) dX11_startFits_9 (by decide) (by decide) rfl (by decide) ?_
    refine R_iload_n (pc := 84) 0 dX11_startFits_84 rfl rfl ?_
    refine R_bipush (pc := 85) (v := 16) dX11_startFits_85 (by decide) ?_
    refine R_icmp_ne (pc := 87) (tgt := 94) dX11_startFits_87 (by decide) (fun c_1 => ?_) (fun c_1 => ?_)
    · skip
      refine R_iconst (pc := 94) (v := 0) dX11_startFits_94 (by decide) ?_
      exact R_zreturn (pc := 95) dX11_startFits_95 rfl rfl (by decide) (by decide) ⟨rfl, by show some (Value.int 0) = some (Value.int (if nI (ρ 6).length = 16 then 1 else 0)); rw [if_neg c_1], S, (Fr.rf _)⟩
    · skip
      refine R_iconst (pc := 90) (v := 1) dX11_startFits_90 (by decide) ?_
      refine R_goto (pc := 91) (tgt := 95) dX11_startFits_91 (by decide) ?_
      exact R_zreturn (pc := 95) dX11_startFits_95 rfl rfl (by decide) (by decide) ⟨rfl, by show some (Value.int 1) = some (Value.int (if nI (ρ 6).length = 16 then 1 else 0)); rw [if_pos c_1], S, (Fr.rf _)⟩
  · skip
    refine R_aload_n (pc := 0) 0 dX11_startFits_0 rfl rfl ?_
    refine R_get (pc := 1) dX11_startFits_1 fX11_21 S.2.2.2.2.2.2.2.2.2.2 (by omega) rfl ?_
    skip
    refine R_get (pc := 4) dX11_startFits_4 fX11_133 (S.rowO 6 rfl) (by omega) rfl ?_
    refine R_eqi (y := nI (ρ 6).length) (by first | rfl | (simp only [ur_s, ur_ur])) ?_
    refine R_istore_n (pc := 7) (lv' := [(2, .int (nI (ρ 6).length)), (0, .ref 1), (1, .int 4)]) dX11_startFits_7 rfl (by decide) rfl ?_
    refine R_iload_n (pc := 8) 2 dX11_startFits_8 rfl rfl ?_
    refine R_tableIn (pc := 9) (tgt := 84) dX11_startFits_9 (by decide) (by decide) rfl (by decide) ?_
    refine R_iload_n (pc := 84) 0 dX11_startFits_84 rfl rfl ?_
    refine R_bipush (pc := 85) (v := 16) dX11_startFits_85 (by decide) ?_
    refine R_icmp_ne (pc := 87) (tgt := 94) dX11_startFits_87 (by decide) (fun c_1 => ?_) (fun c_1 => ?_)
    · skip
      refine R_iconst (pc := 94) (v := 0) dX11_startFits_94 (by decide) ?_
      exact R_zreturn (pc := 95) dX11_startFits_95 rfl rfl (by decide) (by decide) ⟨rfl, by show some (Value.int 0) = some (Value.int (if nI (ρ 6).length = 16 then 1 else 0)); rw [if_neg c_1], S, (Fr.rf _)⟩
    · skip
      refine R_iconst (pc := 90) (v := 1) dX11_startFits_90 (by decide) ?_
      refine R_goto (pc := 91) (tgt := 95) dX11_startFits_91 (by decide) ?_
      exact R_zreturn (pc := 95) dX11_startFits_95 rfl rfl (by decide) (by decide) ⟨rfl, by show some (Value.int 1) = some (Value.int (if nI (ρ 6).length = 16 then 1 else 0)); rw [if_pos c_1], S, (Fr.rf _)⟩
  · skip
    refine R_aload_n (pc := 0) 0 dX11_startFits_0 rfl rfl ?_
    refine R_get (pc := 1) dX11_startFits_1 fX11_21 S.2.2.2.2.2.2.2.2.2.2 (by omega) rfl ?_
    skip
    refine R_get (pc := 4) dX11_startFits_4 fX11_133 (S.rowO 6 rfl) (by omega) rfl ?_
    refine R_eqi (y := nI (ρ 6).length) (by first | rfl | (simp only [ur_s, ur_ur])) ?_
    refine R_istore_n (pc := 7) (lv' := [(2, .int (nI (ρ 6).length)), (0, .ref 1), (1, .int 5)]) dX11_startFits_7 rfl (by decide) rfl ?_
    refine R_iload_n (pc := 8) 2 dX11_startFits_8 rfl rfl ?_
    refine R_tableIn (pc := 9) (tgt := 84) dX11_startFits_9 (by decide) (by decide) rfl (by decide) ?_
    refine R_iload_n (pc := 84) 0 dX11_startFits_84 rfl rfl ?_
    refine R_bipush (pc := 85) (v := 16) dX11_startFits_85 (by decide) ?_
    refine R_icmp_ne (pc := 87) (tgt := 94) dX11_startFits_87 (by decide) (fun c_1 => ?_) (fun c_1 => ?_)
    · skip
      refine R_iconst (pc := 94) (v := 0) dX11_startFits_94 (by decide) ?_
      exact R_zreturn (pc := 95) dX11_startFits_95 rfl rfl (by decide) (by decide) ⟨rfl, by show some (Value.int 0) = some (Value.int (if nI (ρ 6).length = 16 then 1 else 0)); rw [if_neg c_1], S, (Fr.rf _)⟩
    · skip
      refine R_iconst (pc := 90) (v := 1) dX11_startFits_90 (by decide) ?_
      refine R_goto (pc := 91) (tgt := 95) dX11_startFits_91 (by decide) ?_
      exact R_zreturn (pc := 95) dX11_startFits_95 rfl rfl (by decide) (by decide) ⟨rfl, by show some (Value.int 1) = some (Value.int (if nI (ρ 6).length = 16 then 1 else 0)); rw [if_pos c_1], S, (Fr.rf _)⟩
  · skip
    refine R_aload_n (pc := 0) 0 dX11_startFits_0 rfl rfl ?_
    refine R_get (pc := 1) dX11_startFits_1 fX11_21 S.2.2.2.2.2.2.2.2.2.2 (by omega) rfl ?_
    skip
    refine R_get (pc := 4) dX11_startFits_4 fX11_133 (S.rowO 6 rfl) (by omega) rfl ?_
    refine R_eqi (y := nI (ρ 6).length) (by first | rfl | (simp only [ur_s, ur_ur])) ?_
    refine R_istore_n (pc := 7) (lv' := [(2, .int (nI (ρ 6).length)), (0, .ref 1), (1, .int 6)]) dX11_startFits_7 rfl (by decide) rfl ?_
    refine R_iload_n (pc := 8) 2 dX11_startFits_8 rfl rfl ?_
    refine R_tableIn (pc := 9) (tgt := 84) dX11_startFits_9 (by decide) (by decide) rfl (by decide) ?_
    refine R_iload_n (pc := 84) 0 dX11_startFits_84 rfl rfl ?_
    refine R_bipush (pc := 85) (v := 16) dX11_startFits_85 (by decide) ?_
    refine R_icmp_ne (pc := 87) (tgt := 94) dX11_startFits_87 (by decide) (fun c_1 => ?_) (fun c_1 => ?_)
    · skip
      refine R_iconst (pc := 94) (v := 0) dX11_startFits_94 (by decide) ?_
      exact R_zreturn (pc := 95) dX11_startFits_95 rfl rfl (by decide) (by decide) ⟨rfl, by show some (Value.int 0) = some (Value.int (if nI (ρ 6).length = 16 then 1 else 0)); rw [if_neg c_1], S, (Fr.rf _)⟩
    · skip
      refine R_iconst (pc := 90) (v := 1) dX11_startFits_90 (by decide) ?_
      refine R_goto (pc := 91) (tgt := 95) dX11_startFits_91 (by decide) ?_
      exact R_zreturn (pc := 95) dX11_startFits_95 rfl rfl (by decide) (by decide) ⟨rfl, by show some (Value.int 1) = some (Value.int (if nI (ρ 6).length = 16 then 1 else 0)); rw [if_pos c_1], S, (Fr.rf _)⟩
  · skip
    refine R_aload_n (pc := 0) 0 dX11_startFits_0 rfl rfl ?_
    refine R_get (pc := 1) dX11_startFits_1 fX11_21 S.2.2.2.2.2.2.2.2.2.2 (by omega) rfl ?_
    skip
    refine R_get (pc := 4) dX11_startFits_4 fX11_133 (S.rowO 6 rfl) (by omega) rfl ?_
    refine R_eqi (y := nI (ρ 6).length) (by first | rfl | (simp only [ur_s, ur_ur])) ?_
    refine R_istore_n (pc := 7) (lv' := [(2, .int (nI (ρ 6).length)), (0, .ref 1), (1, .int 7)]) dX11_startFits_7 rfl (by decide) rfl ?_
    refine R_iload_n (pc := 8) 2 dX11_startFits_8 rfl rfl ?_
    refine R_tableIn (pc := 9) (tgt := 84) dX11_startFits_9 (by decide) (by decide) rfl (by decide) ?_
    refine R_iload_n (pc := 84) 0 dX11_startFits_84 rfl rfl ?_
    refine R_bipush (pc := 85) (v := 16) dX11_startFits_85 (by decide) ?_
    refine R_icmp_ne (pc := 87) (tgt := 94) dX11_startFits_87 (by decide) (fun c_1 => ?_) (fun c_1 => ?_)
    · skip
      refine R_iconst (pc := 94) (v := 0) dX11_startFits_94 (by decide) ?_
      exact R_zreturn (pc := 95) dX11_startFits_95 rfl rfl (by decide) (by decide) ⟨rfl, by show some (Value.int 0) = some (Value.int (if nI (ρ 6).length = 16 then 1 else 0)); rw [if_neg c_1], S, (Fr.rf _)⟩
    · skip
      refine R_iconst (pc := 90) (v := 1) dX11_startFits_90 (by decide) ?_
      refine R_goto (pc := 91) (tgt := 95) dX11_startFits_91 (by decide) ?_
      exact R_zreturn (pc := 95) dX11_startFits_95 rfl rfl (by decide) (by decide) ⟨rfl, by show some (Value.int 1) = some (Value.int (if nI (ρ 6).length = 16 then 1 else 0)); rw [if_pos c_1], S, (Fr.rf _)⟩
  · skip
    refine R_aload_n (pc := 0) 0 dX11_startFits_0 rfl rfl ?_
    refine R_get (pc := 1) dX11_startFits_1 fX11_21 S.2.2.2.2.2.2.2.2.2.2 (by omega) rfl ?_
    skip
    refine R_get (pc := 4) dX11_startFits_4 fX11_133 (S.rowO 6 rfl) (by omega) rfl ?_
    refine R_eqi (y := nI (ρ 6).length) (by first | rfl | (simp only [ur_s, ur_ur])) ?_
    refine R_istore_n (pc := 7) (lv' := [(2, .int (nI (ρ 6).length)), (0, .ref 1), (1, .int 8)]) dX11_startFits_7 rfl (by decide) rfl ?_
    refine R_iload_n (pc := 8) 2 dX11_startFits_8 rfl rfl ?_
    refine R_tableIn (pc := 9) (tgt := 84) dX11_startFits_9 (by decide) (by decide) rfl (by decide) ?_
    refine R_iload_n (pc := 84) 0 dX11_startFits_84 rfl rfl ?_
    refine R_bipush (pc := 85) (v := 16) dX11_startFits_85 (by decide) ?_
    refine R_icmp_ne (pc := 87) (tgt := 94) dX11_startFits_87 (by decide) (fun c_1 => ?_) (fun c_1 => ?_)
    · skip
      refine R_iconst (pc := 94) (v := 0) dX11_startFits_94 (by decide) ?_
      exact R_zreturn (pc := 95) dX11_startFits_95 rfl rfl (by decide) (by decide) ⟨rfl, by show some (Value.int 0) = some (Value.int (if nI (ρ 6).length = 16 then 1 else 0)); rw [if_neg c_1], S, (Fr.rf _)⟩
    · skip
      refine R_iconst (pc := 90) (v := 1) dX11_startFits_90 (by decide) ?_
      refine R_goto (pc := 91) (tgt := 95) dX11_startFits_91 (by decide) ?_
      exact R_zreturn (pc := 95) dX11_startFits_95 rfl rfl (by decide) (by decide) ⟨rfl, by show some (Value.int 1) = some (Value.int (if nI (ρ 6).length = 16 then 1 else 0)); rw [if_pos c_1], S, (Fr.rf _)⟩
  · skip
    refine R_aload_n (pc := 0) 0 dX11_startFits_0 rfl rfl ?_
    refine R_get (pc := 1) dX11_startFits_1 fX11_21 S.2.2.2.2.2.2.2.2.2.2 (by omega) rfl ?_
    skip
    refine R_get (pc := 4) dX11_startFits_4 fX11_133 (S.rowO 6 rfl) (by omega) rfl ?_
    refine R_eqi (y := nI (ρ 6).length) (by first | rfl | (simp only [ur_s, ur_ur])) ?_
    refine R_istore_n (pc := 7) (lv' := [(2, .int (nI (ρ 6).length)), (0, .ref 1), (1, .int 9)]) dX11_startFits_7 rfl (by decide) rfl ?_
    refine R_iload_n (pc := 8) 2 dX11_startFits_8 rfl rfl ?_
    refine R_tableIn (pc := 9) (tgt := 84) dX11_startFits_9 (by decide) (by decide) rfl (by decide) ?_
    refine R_iload_n (pc := 84) 0 dX11_startFits_84 rfl rfl ?_
    refine R_bipush (pc := 85) (v := 16) dX11_startFits_85 (by decide) ?_
    refine R_icmp_ne (pc := 87) (tgt := 94) dX11_startFits_87 (by decide) (fun c_1 => ?_) (fun c_1 => ?_)
    · skip
      refine R_iconst (pc := 94) (v := 0) dX11_startFits_94 (by decide) ?_
      exact R_zreturn (pc := 95) dX11_startFits_95 rfl rfl (by decide) (by decide) ⟨rfl, by show some (Value.int 0) = some (Value.int (if nI (ρ 6).length = 16 then 1 else 0)); rw [if_neg c_1], S, (Fr.rf _)⟩
    · skip
      refine R_iconst (pc := 90) (v := 1) dX11_startFits_90 (by decide) ?_
      refine R_goto (pc := 91) (tgt := 95) dX11_startFits_91 (by decide) ?_
      exact R_zreturn (pc := 95) dX11_startFits_95 rfl rfl (by decide) (by decide) ⟨rfl, by show some (Value.int 1) = some (Value.int (if nI (ρ 6).length = 16 then 1 else 0)); rw [if_pos c_1], S, (Fr.rf _)⟩
  · skip
    refine R_aload_n (pc := 0) 0 dX11_startFits_0 rfl rfl ?_
    refine R_get (pc := 1) dX11_startFits_1 fX11_21 S.2.2.2.2.2.2.2.2.2.2 (by omega) rfl ?_
    skip
    refine R_get (pc := 4) dX11_startFits_4 fX11_133 (S.rowO 6 rfl) (by omega) rfl ?_
    refine R_eqi (y := nI (ρ 6).length) (by first | rfl | (simp only [ur_s, ur_ur])) ?_
    refine R_istore_n (pc := 7) (lv' := [(2, .int (nI (ρ 6).length)), (0, .ref 1), (1, .int 10)]) dX11_startFits_7 rfl (by decide) rfl ?_
    refine R_iload_n (pc := 8) 2 dX11_startFits_8 rfl rfl ?_
    refine R_tableIn (pc := 9) (tgt := 142) dX11_startFits_9 (by decide) (by decide) rfl (by decide) ?_
    refine R_iconst (pc := 142) (v := 1) dX11_startFits_142 (by decide) ?_
    exact R_zreturn (pc := 143) dX11_startFits_143 rfl rfl (by decide) (by decide) ⟨rfl, rfl, S, (Fr.rf _)⟩
  · skip
    refine R_aload_n (pc := 0) 0 dX11_startFits_0 rfl rfl ?_
    refine R_get (pc := 1) dX11_startFits_1 fX11_21 S.2.2.2.2.2.2.2.2.2.2 (by omega) rfl ?_
    skip
    refine R_get (pc := 4) dX11_startFits_4 fX11_133 (S.rowO 6 rfl) (by omega) rfl ?_
    refine R_eqi (y := nI (ρ 6).length) (by first | rfl | (simp only [ur_s, ur_ur])) ?_
    refine R_istore_n (pc := 7) (lv' := [(2, .int (nI (ρ 6).length)), (0, .ref 1), (1, .int 11)]) dX11_startFits_7 rfl (by decide) rfl ?_
    refine R_iload_n (pc := 8) 2 dX11_startFits_8 rfl rfl ?_
    refine R_tableIn (pc := 9) (tgt := 142) dX11_startFits_9 (by decide) (by decide) rfl (by decide) ?_
    refine R_iconst (pc := 142) (v := 1) dX11_startFits_142 (by decide) ?_
    exact R_zreturn (pc := 143) dX11_startFits_143 rfl rfl (by decide) (by decide) ⟨rfl, rfl, S, (Fr.rf _)⟩
  · skip
    refine R_aload_n (pc := 0) 0 dX11_startFits_0 rfl rfl ?_
    refine R_get (pc := 1) dX11_startFits_1 fX11_21 S.2.2.2.2.2.2.2.2.2.2 (by omega) rfl ?_
    skip
    refine R_get (pc := 4) dX11_startFits_4 fX11_133 (S.rowO 6 rfl) (by omega) rfl ?_
    refine R_eqi (y := nI (ρ 6).length) (by first | rfl | (simp only [ur_s, ur_ur])) ?_
    refine R_istore_n (pc := 7) (lv' := [(2, .int (nI (ρ 6).length)), (0, .ref 1), (1, .int 12)]) dX11_startFits_7 rfl (by decide) rfl ?_
    refine R_iload_n (pc := 8) 2 dX11_startFits_8 rfl rfl ?_
    refine R_tableIn (pc := 9) (tgt := 96) dX11_startFits_9 (by decide) (by decide) rfl (by decide) ?_
    refine R_iload_n (pc := 96) 0 dX11_startFits_96 rfl rfl ?_
    refine R_iconst (pc := 97) (v := 1) dX11_startFits_97 (by decide) ?_
    refine R_icmp_lt (pc := 98) (tgt := 105) dX11_startFits_98 (by decide) (fun c_1 => ?_) (fun c_1 => ?_)
    · skip
      refine R_iconst (pc := 105) (v := 0) dX11_startFits_105 (by decide) ?_
      exact R_zreturn (pc := 106) dX11_startFits_106 rfl rfl (by decide) (by decide) ⟨rfl, by show some (Value.int 0) = some (Value.int (if nI (ρ 6).length < 1 then 0 else 1)); rw [if_pos c_1], S, (Fr.rf _)⟩
    · skip
      refine R_iconst (pc := 101) (v := 1) dX11_startFits_101 (by decide) ?_
      refine R_goto (pc := 102) (tgt := 106) dX11_startFits_102 (by decide) ?_
      exact R_zreturn (pc := 106) dX11_startFits_106 rfl rfl (by decide) (by decide) ⟨rfl, by show some (Value.int 1) = some (Value.int (if nI (ρ 6).length < 1 then 0 else 1)); rw [if_neg c_1], S, (Fr.rf _)⟩
  · skip
    refine R_aload_n (pc := 0) 0 dX11_startFits_0 rfl rfl ?_
    refine R_get (pc := 1) dX11_startFits_1 fX11_21 S.2.2.2.2.2.2.2.2.2.2 (by omega) rfl ?_
    skip
    refine R_get (pc := 4) dX11_startFits_4 fX11_133 (S.rowO 6 rfl) (by omega) rfl ?_
    refine R_eqi (y := nI (ρ 6).length) (by first | rfl | (simp only [ur_s, ur_ur])) ?_
    refine R_istore_n (pc := 7) (lv' := [(2, .int (nI (ρ 6).length)), (0, .ref 1), (1, .int 13)]) dX11_startFits_7 rfl (by decide) rfl ?_
    refine R_iload_n (pc := 8) 2 dX11_startFits_8 rfl rfl ?_
    refine R_tableIn (pc := 9) (tgt := 107) dX11_startFits_9 (by decide) (by decide) rfl (by decide) ?_
    refine R_iload_n (pc := 107) 0 dX11_startFits_107 rfl rfl ?_
    refine R_bipush (pc := 108) (v := 7) dX11_startFits_108 (by decide) ?_
    refine R_icmp_lt (pc := 110) (tgt := 123) dX11_startFits_110 (by decide) (fun c_1 => ?_) (fun c_1 => ?_)
    · skip
      refine R_iconst (pc := 123) (v := 0) dX11_startFits_123 (by decide) ?_
      exact R_zreturn (pc := 124) dX11_startFits_124 rfl rfl (by decide) (by decide) ⟨rfl, by show some (Value.int 0) = some (Value.int (if nI (ρ 6).length < 7 then 0 else if 13 < nI (ρ 6).length then 0 else 1)); rw [if_pos c_1], S, (Fr.rf _)⟩
    · skip
      refine R_iload_n (pc := 113) 0 dX11_startFits_113 rfl rfl ?_
      refine R_bipush (pc := 114) (v := 13) dX11_startFits_114 (by decide) ?_
      refine R_icmp_gt (pc := 116) (tgt := 123) dX11_startFits_116 (by decide) (fun c_2 => ?_) (fun c_2 => ?_)
      · skip
        refine R_iconst (pc := 123) (v := 0) dX11_startFits_123 (by decide) ?_
        exact R_zreturn (pc := 124) dX11_startFits_124 rfl rfl (by decide) (by decide) ⟨rfl, by show some (Value.int 0) = some (Value.int (if nI (ρ 6).length < 7 then 0 else if 13 < nI (ρ 6).length then 0 else 1)); rw [if_neg c_1, if_pos c_2], S, (Fr.rf _)⟩
      · skip
        refine R_iconst (pc := 119) (v := 1) dX11_startFits_119 (by decide) ?_
        refine R_goto (pc := 120) (tgt := 124) dX11_startFits_120 (by decide) ?_
        exact R_zreturn (pc := 124) dX11_startFits_124 rfl rfl (by decide) (by decide) ⟨rfl, by show some (Value.int 1) = some (Value.int (if nI (ρ 6).length < 7 then 0 else if 13 < nI (ρ 6).length then 0 else 1)); rw [if_neg c_1, if_neg c_2], S, (Fr.rf _)⟩
  · skip
    refine R_aload_n (pc := 0) 0 dX11_startFits_0 rfl rfl ?_
    refine R_get (pc := 1) dX11_startFits_1 fX11_21 S.2.2.2.2.2.2.2.2.2.2 (by omega) rfl ?_
    skip
    refine R_get (pc := 4) dX11_startFits_4 fX11_133 (S.rowO 6 rfl) (by omega) rfl ?_
    refine R_eqi (y := nI (ρ 6).length) (by first | rfl | (simp only [ur_s, ur_ur])) ?_
    refine R_istore_n (pc := 7) (lv' := [(2, .int (nI (ρ 6).length)), (0, .ref 1), (1, .int 14)]) dX11_startFits_7 rfl (by decide) rfl ?_
    refine R_iload_n (pc := 8) 2 dX11_startFits_8 rfl rfl ?_
    refine R_tableIn (pc := 9) (tgt := 142) dX11_startFits_9 (by decide) (by decide) rfl (by decide) ?_
    refine R_iconst (pc := 142) (v := 1) dX11_startFits_142 (by decide) ?_
    exact R_zreturn (pc := 143) dX11_startFits_143 rfl rfl (by decide) (by decide) ⟨rfl, rfl, S, (Fr.rf _)⟩
  · skip
    refine R_aload_n (pc := 0) 0 dX11_startFits_0 rfl rfl ?_
    refine R_get (pc := 1) dX11_startFits_1 fX11_21 S.2.2.2.2.2.2.2.2.2.2 (by omega) rfl ?_
    skip
    refine R_get (pc := 4) dX11_startFits_4 fX11_133 (S.rowO 6 rfl) (by omega) rfl ?_
    refine R_eqi (y := nI (ρ 6).length) (by first | rfl | (simp only [ur_s, ur_ur])) ?_
    refine R_istore_n (pc := 7) (lv' := [(2, .int (nI (ρ 6).length)), (0, .ref 1), (1, .int 15)]) dX11_startFits_7 rfl (by decide) rfl ?_
    refine R_iload_n (pc := 8) 2 dX11_startFits_8 rfl rfl ?_
    refine R_tableIn (pc := 9) (tgt := 142) dX11_startFits_9 (by decide) (by decide) rfl (by decide) ?_
    refine R_iconst (pc := 142) (v := 1) dX11_startFits_142 (by decide) ?_
    exact R_zreturn (pc := 143) dX11_startFits_143 rfl rfl (by decide) (by decide) ⟨rfl, rfl, S, (Fr.rf _)⟩
  · skip
    refine R_aload_n (pc := 0) 0 dX11_startFits_0 rfl rfl ?_
    refine R_get (pc := 1) dX11_startFits_1 fX11_21 S.2.2.2.2.2.2.2.2.2.2 (by omega) rfl ?_
    skip
    refine R_get (pc := 4) dX11_startFits_4 fX11_133 (S.rowO 6 rfl) (by omega) rfl ?_
    refine R_eqi (y := nI (ρ 6).length) (by first | rfl | (simp only [ur_s, ur_ur])) ?_
    refine R_istore_n (pc := 7) (lv' := [(2, .int (nI (ρ 6).length)), (0, .ref 1), (1, .int 16)]) dX11_startFits_7 rfl (by decide) rfl ?_
    refine R_iload_n (pc := 8) 2 dX11_startFits_8 rfl rfl ?_
    refine R_tableIn (pc := 9) (tgt := 125) dX11_startFits_9 (by decide) (by decide) rfl (by decide) ?_
    refine R_iload_n (pc := 125) 0 dX11_startFits_125 rfl rfl ?_
    refine R_iconst (pc := 126) (v := 1) dX11_startFits_126 (by decide) ?_
    refine R_icmp_lt (pc := 127) (tgt := 140) dX11_startFits_127 (by decide) (fun c_1 => ?_) (fun c_1 => ?_)
    · skip
      refine R_iconst (pc := 140) (v := 0) dX11_startFits_140 (by decide) ?_
      exact R_zreturn (pc := 141) dX11_startFits_141 rfl rfl (by decide) (by decide) ⟨rfl, by show some (Value.int 0) = some (Value.int (if nI (ρ 6).length < 1 then 0 else if 15 < nI (ρ 6).length then 0 else 1)); rw [if_pos c_1], S, (Fr.rf _)⟩
    · skip
      refine R_iload_n (pc := 130) 0 dX11_startFits_130 rfl rfl ?_
      refine R_bipush (pc := 131) (v := 15) dX11_startFits_131 (by decide) ?_
      refine R_icmp_gt (pc := 133) (tgt := 140) dX11_startFits_133 (by decide) (fun c_2 => ?_) (fun c_2 => ?_)
      · skip
        refine R_iconst (pc := 140) (v := 0) dX11_startFits_140 (by decide) ?_
        exact R_zreturn (pc := 141) dX11_startFits_141 rfl rfl (by decide) (by decide) ⟨rfl, by show some (Value.int 0) = some (Value.int (if nI (ρ 6).length < 1 then 0 else if 15 < nI (ρ 6).length then 0 else 1)); rw [if_neg c_1, if_pos c_2], S, (Fr.rf _)⟩
      · skip
        refine R_iconst (pc := 136) (v := 1) dX11_startFits_136 (by decide) ?_
        refine R_goto (pc := 137) (tgt := 141) dX11_startFits_137 (by decide) ?_
        exact R_zreturn (pc := 141) dX11_startFits_141 rfl rfl (by decide) (by decide) ⟨rfl, by show some (Value.int 1) = some (Value.int (if nI (ρ 6).length < 1 then 0 else if 15 < nI (ρ 6).length then 0 else 1)); rw [if_neg c_1, if_neg c_2], S, (Fr.rf _)⟩
set_option maxHeartbeats 4000000 in
set_option maxRecDepth 100000 in
theorem qX11_dataFits {l : Launch} {w : am_W} {h : am_H} {n : Nat} {ρ : Nat → List (BitVec 8)} {β : Nat → bP} {κ : Nat → kT} {τ : Nat × Nat × Nat} (S : Sys h ρ β κ τ) (hn : 60 ≤ n) (hτ : tOk τ) (v : Int32) (k : Nat) (hv : kN v k) (u : Int32) : RH l w mX11_dataFits h n [.ref 1, .int v, .int u] (SQ h τ (some (.int (dtF k u (ρ 4).length τ.2.2))) ρ β κ) := by
  refine RC.of [(0, .ref 1), (1, .int v), (2, .int u)] (by decide +kernel) rfl (Nat.le_of_ble_eq_true rfl) ?_
  rcases hv with ⟨rfl, rfl⟩ | ⟨rfl, rfl⟩ | ⟨rfl, rfl⟩ | ⟨rfl, rfl⟩ | ⟨rfl, rfl⟩ | ⟨rfl, rfl⟩ | ⟨rfl, rfl⟩ | ⟨rfl, rfl⟩ | ⟨rfl, rfl⟩ | ⟨rfl, rfl⟩ | ⟨rfl, rfl⟩ | ⟨rfl, rfl⟩ | ⟨rfl, rfl⟩ | ⟨rfl, rfl⟩ | ⟨rfl, rfl⟩ | ⟨rfl, rfl⟩
  · skip
    refine R_aload_n (pc := 0) 0 dX11_dataFits_0 rfl rfl ?_
    refine R_get (pc := 1) dX11_dataFits_1 fX11_18 S.2.2.2.2.2.2.2.2.2.2 (by omega) rfl ?_
    skip
    refine R_get (pc := 4) dX11_dataFits_4 fX11_133 (S.rowO 4 rfl) (by omega) rfl ?_
    refine R_eqi (y := nI (ρ 4).length) (by first | rfl | (simp only [ur_s, ur_ur])) ?_
    refine R_istore_n (pc := 7) (lv' := [(3, .int (nI (ρ 4).length)), (0, .ref 1), (1, .int 1), (2, .int u)]) dX11_dataFits_7 rfl (by decide) rfl ?_
    refine R_iload_n (pc := 8) 2 dX11_dataFits_8 rfl rfl ?_
    refine R_callSp (pc := 9) (μ' := mX11_isTagged) (As := [.int 1]) (st := []) dX11_dataFits_9 zX11_isTagged lX11_156 ⟨by decide, by decide⟩ rfl rfl ⟨by decide, by decide⟩ rfl (Nat.le_of_ble_eq_true rfl) (qX11_isTagged l w _ _ _) ?_
    refine R_if_eq (pc := 12) (tgt := 33) dX11_dataFits_12 (by decide) (fun c_1 => ?_) (fun c_1 => absurd (by decide) c_1)
    refine R_iload_n (pc := 33) 2 dX11_dataFits_33 rfl rfl ?_
    refine R_tableIn (pc := 34) (tgt := 108) dX11_dataFits_34 (by decide) (by decide) rfl (by decide) ?_
    refine R_iload_n (pc := 108) 0 dX11_dataFits_108 rfl rfl ?_
    refine R_bipush (pc := 109) (v := 15) dX11_dataFits_109 (by decide) ?_
    refine R_iand (pc := 111) dX11_dataFits_111 ?_
    refine R_if_ne (pc := 112) (tgt := 119) dX11_dataFits_112 (by decide) (fun c_2 => ?_) (fun c_2 => ?_)
    · skip
      refine R_iconst (pc := 119) (v := 0) dX11_dataFits_119 (by decide) ?_
      exact R_zreturn (pc := 120) dX11_dataFits_120 rfl rfl (by decide) (by decide) ⟨rfl, by show some (Value.int 0) = some (Value.int (if nI (ρ 4).length &&& 15 = 0 then 1 else 0)); rw [if_neg c_2], S, (Fr.rf _)⟩
    · skip
      refine R_iconst (pc := 115) (v := 1) dX11_dataFits_115 (by decide) ?_
      refine R_goto (pc := 116) (tgt := 120) dX11_dataFits_116 (by decide) ?_
      exact R_zreturn (pc := 120) dX11_dataFits_120 rfl rfl (by decide) (by decide) ⟨rfl, by show some (Value.int 1) = some (Value.int (if nI (ρ 4).length &&& 15 = 0 then 1 else 0)); rw [if_pos c_2], S, (Fr.rf _)⟩
  · skip
    refine R_aload_n (pc := 0) 0 dX11_dataFits_0 rfl rfl ?_
    refine R_get (pc := 1) dX11_dataFits_1 fX11_18 S.2.2.2.2.2.2.2.2.2.2 (by omega) rfl ?_
    skip
    refine R_get (pc := 4) dX11_dataFits_4 fX11_133 (S.rowO 4 rfl) (by omega) rfl ?_
    refine R_eqi (y := nI (ρ 4).length) (by first | rfl | (simp only [ur_s, ur_ur])) ?_
    refine R_istore_n (pc := 7) (lv' := [(3, .int (nI (ρ 4).length)), (0, .ref 1), (1, .int 2), (2, .int u)]) dX11_dataFits_7 rfl (by decide) rfl ?_
    refine R_iload_n (pc := 8) 2 dX11_dataFits_8 rfl rfl ?_
    refine R_callSp (pc := 9) (μ' := mX11_isTagged) (As := [.int 2]) (st := []) dX11_dataFits_9 zX11_isTagged lX11_156 ⟨by decide, by decide⟩ rfl rfl ⟨by decide, by decide⟩ rfl (Nat.le_of_ble_eq_true rfl) (qX11_isTagged l w _ _ _) ?_
    refine R_if_eq (pc := 12) (tgt := 33) dX11_dataFits_12 (by decide) (fun c_1 => ?_) (fun c_1 => absurd (by decide) c_1)
    refine R_iload_n (pc := 33) 2 dX11_dataFits_33 rfl rfl ?_
    refine R_tableIn (pc := 34) (tgt := 108) dX11_dataFits_34 (by decide) (by decide) rfl (by decide) ?_
    refine R_iload_n (pc := 108) 0 dX11_dataFits_108 rfl rfl ?_
    refine R_bipush (pc := 109) (v := 15) dX11_dataFits_109 (by decide) ?_
    refine R_iand (pc := 111) dX11_dataFits_111 ?_
    refine R_if_ne (pc := 112) (tgt := 119) dX11_dataFits_112 (by decide) (fun c_2 => ?_) (fun c_2 => ?_)
    · skip
      refine R_iconst (pc := 119) (v := 0) dX11_dataFits_119 (by decide) ?_
      exact R_zreturn (pc := 120) dX11_dataFits_120 rfl rfl (by decide) (by decide) ⟨rfl, by show some (Value.int 0) = some (Value.int (if nI (ρ 4).length &&& 15 = 0 then 1 else 0)); rw [if_neg c_2], S, (Fr.rf _)⟩
    · skip
      refine R_iconst (pc := 115) (v := 1) dX11_dataFits_115 (by decide) ?_
      refine R_goto (pc := 116) (tgt := 120) dX11_dataFits_116 (by decide) ?_
      exact R_zreturn (pc := 120) dX11_dataFits_120 rfl rfl (by decide) (by decide) ⟨rfl, by show some (Value.int 1) = some (Value.int (if nI (ρ 4).length &&& 15 = 0 then 1 else 0)); rw [if_pos c_2], S, (Fr.rf _)⟩
  · skip
    refine R_aload_n (pc := 0) 0 dX11_dataFits_0 rfl rfl ?_
    refine R_get (pc := 1) dX11_dataFits_1 fX11_18 S.2.2.2.2.2.2.2.2.2.2 (by omega) rfl ?_
    skip
    refine R_get (pc := 4) dX11_dataFits_4 fX11_133 (S.rowO 4 rfl) (by omega) rfl ?_
    refine R_eqi (y := nI (ρ 4).length) (by first | rfl | (simp only [ur_s, ur_ur])) ?_
    refine R_istore_n (pc := 7) (lv' := [(3, .int (nI (ρ 4).length)), (0, .ref 1), (1, .int 3), (2, .int u)]) dX11_dataFits_7 rfl (by decide) rfl ?_
    refine R_iload_n (pc := 8) 2 dX11_dataFits_8 rfl rfl ?_
    refine R_callSp (pc := 9) (μ' := mX11_isTagged) (As := [.int 3]) (st := []) dX11_dataFits_9 zX11_isTagged lX11_156 ⟨by decide, by decide⟩ rfl rfl ⟨by decide, by decide⟩ rfl (Nat.le_of_ble_eq_true rfl) (qX11_isTagged l w _ _ _) ?_
    refine R_if_eq (pc := 12) (tgt := 33) dX11_dataFits_12 (by decide) (fun c_1 => ?_) (fun c_1 => absurd (by decide) c_1)
    refine R_iload_n (pc := 33) 2 dX11_dataFits_33 rfl rfl ?_
    refine R_tableIn (pc := 34) (tgt := 121) dX11_dataFits_34 (by decide) (by decide) rfl (by decide) ?_
    refine R_iload_n (pc := 121) 3 dX11_dataFits_121 rfl rfl ?_
    refine R_if_eq (pc := 122) (tgt := 138) dX11_dataFits_122 (by decide) (fun c_2 => ?_) (fun c_2 => ?_)
    · skip
      refine R_iconst (pc := 138) (v := 1) dX11_dataFits_138 (by decide) ?_
      refine R_goto (pc := 139) (tgt := 143) dX11_dataFits_139 (by decide) ?_
      exact R_zreturn (pc := 143) dX11_dataFits_143 rfl rfl (by decide) (by decide) ⟨rfl, by show some (Value.int 1) = some (Value.int (if u = 0 then 1 else if nI (ρ 4).length < 16 then 0 else if nI (ρ 4).length &&& 15 = 0 then 1 else 0)); rw [if_pos c_2], S, (Fr.rf _)⟩
    · skip
      refine R_iload_n (pc := 125) 0 dX11_dataFits_125 rfl rfl ?_
      refine R_bipush (pc := 126) (v := 16) dX11_dataFits_126 (by decide) ?_
      refine R_icmp_lt (pc := 128) (tgt := 142) dX11_dataFits_128 (by decide) (fun c_3 => ?_) (fun c_3 => ?_)
      · skip
        refine R_iconst (pc := 142) (v := 0) dX11_dataFits_142 (by decide) ?_
        exact R_zreturn (pc := 143) dX11_dataFits_143 rfl rfl (by decide) (by decide) ⟨rfl, by show some (Value.int 0) = some (Value.int (if u = 0 then 1 else if nI (ρ 4).length < 16 then 0 else if nI (ρ 4).length &&& 15 = 0 then 1 else 0)); rw [if_neg c_2, if_pos c_3], S, (Fr.rf _)⟩
      · skip
        refine R_iload_n (pc := 131) 0 dX11_dataFits_131 rfl rfl ?_
        refine R_bipush (pc := 132) (v := 15) dX11_dataFits_132 (by decide) ?_
        refine R_iand (pc := 134) dX11_dataFits_134 ?_
        refine R_if_ne (pc := 135) (tgt := 142) dX11_dataFits_135 (by decide) (fun c_4 => ?_) (fun c_4 => ?_)
        · skip
          refine R_iconst (pc := 142) (v := 0) dX11_dataFits_142 (by decide) ?_
          exact R_zreturn (pc := 143) dX11_dataFits_143 rfl rfl (by decide) (by decide) ⟨rfl, by show some (Value.int 0) = some (Value.int (if u = 0 then 1 else if nI (ρ 4).length < 16 then 0 else if nI (ρ 4).length &&& 15 = 0 then 1 else 0)); rw [if_neg c_2, if_neg c_3, if_neg c_4], S, (Fr.rf _)⟩
        · skip
          refine R_iconst (pc := 138) (v := 1) dX11_dataFits_138 (by decide) ?_
          refine R_goto (pc := 139) (tgt := 143) dX11_dataFits_139 (by decide) ?_
          exact R_zreturn (pc := 143) dX11_dataFits_143 rfl rfl (by decide) (by decide) ⟨rfl, by show some (Value.int 1) = some (Value.int (if u = 0 then 1 else if nI (ρ 4).length < 16 then 0 else if nI (ρ 4).length &&& 15 = 0 then 1 else 0)); rw [if_neg c_2, if_neg c_3, if_pos c_4], S, (Fr.rf _)⟩
  · skip
    refine R_aload_n (pc := 0) 0 dX11_dataFits_0 rfl rfl ?_
    refine R_get (pc := 1) dX11_dataFits_1 fX11_18 S.2.2.2.2.2.2.2.2.2.2 (by omega) rfl ?_
    skip
    refine R_get (pc := 4) dX11_dataFits_4 fX11_133 (S.rowO 4 rfl) (by omega) rfl ?_
    refine R_eqi (y := nI (ρ 4).length) (by first | rfl | (simp only [ur_s, ur_ur])) ?_
    refine R_istore_n (pc := 7) (lv' := [(3, .int (nI (ρ 4).length)), (0, .ref 1), (1, .int 4), (2, .int u)]) dX11_dataFits_7 rfl (by decide) rfl ?_
    refine R_iload_n (pc := 8) 2 dX11_dataFits_8 rfl rfl ?_
    refine R_callSp (pc := 9) (μ' := mX11_isTagged) (As := [.int 4]) (st := []) dX11_dataFits_9 zX11_isTagged lX11_156 ⟨by decide, by decide⟩ rfl rfl ⟨by decide, by decide⟩ rfl (Nat.le_of_ble_eq_true rfl) (qX11_isTagged l w _ _ _) ?_
    refine R_if_eq (pc := 12) (tgt := 33) dX11_dataFits_12 (by decide) (fun c_1 => ?_) (fun c_1 => absurd (by decide) c_1)
    refine R_iload_n (pc := 33) 2 dX11_dataFits_33 rfl rfl ?_
    refine R_tableIn (pc := 34) (tgt := 144) dX11_dataFits_34 (by decide) (by decide) rfl (by decide) ?_
    refine R_iload_n (pc := 144) 0 dX11_dataFits_144 rfl rfl ?_
    refine R_bipush (pc := 145) (v := 17) dX11_dataFits_145 (by decide) ?_
    refine R_icmp_lt (pc := 147) (tgt := 154) dX11_dataFits_147 (by decide) (fun c_2 => ?_) (fun c_2 => ?_)
    · skip
      refine R_iconst (pc := 154) (v := 0) dX11_dataFits_154 (by decide) ?_
      exact R_zreturn (pc := 155) dX11_dataFits_155 rfl rfl (by decide) (by decide) ⟨rfl, by show some (Value.int 0) = some (Value.int (if nI (ρ 4).length < 17 then 0 else 1)); rw [if_pos c_2], S, (Fr.rf _)⟩
    · skip
      refine R_iconst (pc := 150) (v := 1) dX11_dataFits_150 (by decide) ?_
      refine R_goto (pc := 151) (tgt := 155) dX11_dataFits_151 (by decide) ?_
      exact R_zreturn (pc := 155) dX11_dataFits_155 rfl rfl (by decide) (by decide) ⟨rfl, by show some (Value.int 1) = some (Value.int (if nI (ρ 4).length < 17 then 0 else 1)); rw [if_neg c_2], S, (Fr.rf _)⟩
  · skip
    refine R_aload_n (pc := 0) 0 dX11_dataFits_0 rfl rfl ?_
    refine R_get (pc := 1) dX11_dataFits_1 fX11_18 S.2.2.2.2.2.2.2.2.2.2 (by omega) rfl ?_
    skip
    refine R_get (pc := 4) dX11_dataFits_4 fX11_133 (S.rowO 4 rfl) (by omega) rfl ?_
    refine R_eqi (y := nI (ρ 4).length) (by first | rfl | (simp only [ur_s, ur_ur])) ?_
    refine R_istore_n (pc := 7) (lv' := [(3, .int (nI (ρ 4).length)), (0, .ref 1), (1, .int 5), (2, .int u)]) dX11_dataFits_7 rfl (by decide) rfl ?_
    refine R_iload_n (pc := 8) 2 dX11_dataFits_8 rfl rfl ?_
    refine R_callSp (pc := 9) (μ' := mX11_isTagged) (As := [.int 5]) (st := []) dX11_dataFits_9 zX11_isTagged lX11_156 ⟨by decide, by decide⟩ rfl rfl ⟨by decide, by decide⟩ rfl (Nat.le_of_ble_eq_true rfl) (qX11_isTagged l w _ _ _) ?_
    refine R_if_eq (pc := 12) (tgt := 33) dX11_dataFits_12 (by decide) (fun c_1 => ?_) (fun c_1 => absurd (by decide) c_1)
    refine R_iload_n (pc := 33) 2 dX11_dataFits_33 rfl rfl ?_
    refine R_tableIn (pc := 34) (tgt := 248) dX11_dataFits_34 (by decide) (by decide) rfl (by decide) ?_
    refine R_iconst (pc := 248) (v := 1) dX11_dataFits_248 (by decide) ?_
    exact R_zreturn (pc := 249) dX11_dataFits_249 rfl rfl (by decide) (by decide) ⟨rfl, rfl, S, (Fr.rf _)⟩
  · skip
    refine R_aload_n (pc := 0) 0 dX11_dataFits_0 rfl rfl ?_
    refine R_get (pc := 1) dX11_dataFits_1 fX11_18 S.2.2.2.2.2.2.2.2.2.2 (by omega) rfl ?_
    skip
    refine R_get (pc := 4) dX11_dataFits_4 fX11_133 (S.rowO 4 rfl) (by omega) rfl ?_
    refine R_eqi (y := nI (ρ 4).length) (by first | rfl | (simp only [ur_s, ur_ur])) ?_
    refine R_istore_n (pc := 7) (lv' := [(3, .int (nI (ρ 4).length)), (0, .ref 1), (1, .int 6), (2, .int u)]) dX11_dataFits_7 rfl (by decide) rfl ?_
    refine R_iload_n (pc := 8) 2 dX11_dataFits_8 rfl rfl ?_
    refine R_callSp (pc := 9) (μ' := mX11_isTagged) (As := [.int 6]) (st := []) dX11_dataFits_9 zX11_isTagged lX11_156 ⟨by decide, by decide⟩ rfl rfl ⟨by decide, by decide⟩ rfl (Nat.le_of_ble_eq_true rfl) (qX11_isTagged l w _ _ _) ?_
    refine R_if_eq (pc := 12) (tgt := 33) dX11_dataFits_12 (by decide) (fun c_1 => ?_) (fun c_1 => absurd (by decide) c_1)
    refine R_iload_n (pc := 33) 2 dX11_dataFits_33 rfl rfl ?_
    refine R_tableIn (pc := 34) (tgt := 248) dX11_dataFits_34 (by decide) (by decide) rfl (by decide) ?_
    refine R_iconst (pc := 248) (v := 1) dX11_dataFits_248 (by decide) ?_
    exact R_zreturn (pc := 249) dX11_dataFits_249 rfl rfl (by decide) (by decide) ⟨rfl, rfl, S, (Fr.rf _)⟩
  · skip
    refine R_aload_n (pc := 0) 0 dX11_dataFits_0 rfl rfl ?_
    refine R_get (pc := 1) dX11_dataFits_1 fX11_18 S.2.2.2.2.2.2.2.2.2.2 (by omega) rfl ?_
    skip
    refine R_get (pc := 4) dX11_dataFits_4 fX11_133 (S.rowO 4 rfl) (by omega) rfl ?_
    refine R_eqi (y := nI (ρ 4).length) (by first | rfl | (simp only [ur_s, ur_ur])) ?_
    refine R_istore_n (pc := 7) (lv' := [(3, .int (nI (ρ 4).length)), (0, .ref 1), (1, .int 7), (2, .int u)]) dX11_dataFits_7 rfl (by decide) rfl ?_
    refine R_iload_n (pc := 8) 2 dX11_dataFits_8 rfl rfl ?_
    refine R_callSp (pc := 9) (μ' := mX11_isTagged) (As := [.int 7]) (st := []) dX11_dataFits_9 zX11_isTagged lX11_156 ⟨by decide, by decide⟩ rfl rfl ⟨by decide, by decide⟩ rfl (Nat.le_of_ble_eq_true rfl) (qX11_isTagged l w _ _ _) ?_
    refine R_if_eq (pc := 12) (tgt := 33) dX11_dataFits_12 (by decide) (fun c_1 => ?_) (fun c_1 => absurd (by decide) c_1)
    refine R_iload_n (pc := 33) 2 dX11_dataFits_33 rfl rfl ?_
    refine R_tableIn (pc := 34) (tgt := 248) dX11_dataFits_34 (by decide) (by decide) rfl (by decide) ?_
    refine R_iconst (pc := 248) (v := 1) dX11_dataFits_248 (by decide) ?_
    exact R_zreturn (pc := 249) dX11_dataFits_249 rfl rfl (by decide) (by decide) ⟨rfl, rfl, S, (Fr.rf _)⟩
  · skip
    refine R_aload_n (pc := 0) 0 dX11_dataFits_0 rfl rfl ?_
    refine R_get (pc := 1) dX11_dataFits_1 fX11_18 S.2.2.2.2.2.2.2.2.2.2 (by omega) rfl ?_
    skip
    refine R_get (pc := 4) dX11_dataFits_4 fX11_133 (S.rowO 4 rfl) (by omega) rfl ?_
    refine R_eqi (y := nI (ρ 4).length) (by first | rfl | (simp only [ur_s, ur_ur])) ?_
    refine R_istore_n (pc := 7) (lv' := [(3, .int (nI (ρ 4).length)), (0, .ref 1), (1, .int 8), (2, .int u)]) dX11_dataFits_7 rfl (by decide) rfl ?_
    refine R_iload_n (pc := 8) 2 dX11_dataFits_8 rfl rfl ?_
    refine R_callSp (pc := 9) (μ' := mX11_isTagged) (As := [.int 8]) (st := []) dX11_dataFits_9 zX11_isTagged lX11_156 ⟨by decide, by decide⟩ rfl rfl ⟨by decide, by decide⟩ rfl (Nat.le_of_ble_eq_true rfl) (qX11_isTagged l w _ _ _) ?_
    refine R_if_eq (pc := 12) (tgt := 33) dX11_dataFits_12 (by decide) (fun c_1 => ?_) (fun c_1 => absurd (by decide) c_1)
    refine R_iload_n (pc := 33) 2 dX11_dataFits_33 rfl rfl ?_
    refine R_tableIn (pc := 34) (tgt := 248) dX11_dataFits_34 (by decide) (by decide) rfl (by decide) ?_
    refine R_iconst (pc := 248) (v := 1) dX11_dataFits_248 (by decide) ?_
    exact R_zreturn (pc := 249) dX11_dataFits_249 rfl rfl (by decide) (by decide) ⟨rfl, rfl, S, (Fr.rf _)⟩
  · skip
    refine R_aload_n (pc := 0) 0 dX11_dataFits_0 rfl rfl ?_
    refine R_get (pc := 1) dX11_dataFits_1 fX11_18 S.2.2.2.2.2.2.2.2.2.2 (by omega) rfl ?_
    skip
    refine R_get (pc := 4) dX11_dataFits_4 fX11_133 (S.rowO 4 rfl) (by omega) rfl ?_
    refine R_eqi (y := nI (ρ 4).length) (by first | rfl | (simp only [ur_s, ur_ur])) ?_
    refine R_istore_n (pc := 7) (lv' := [(3, .int (nI (ρ 4).length)), (0, .ref 1), (1, .int 9), (2, .int u)]) dX11_dataFits_7 rfl (by decide) rfl ?_
    refine R_iload_n (pc := 8) 2 dX11_dataFits_8 rfl rfl ?_
    refine R_callSp (pc := 9) (μ' := mX11_isTagged) (As := [.int 9]) (st := []) dX11_dataFits_9 zX11_isTagged lX11_156 ⟨by decide, by decide⟩ rfl rfl ⟨by decide, by decide⟩ rfl (Nat.le_of_ble_eq_true rfl) (qX11_isTagged l w _ _ _) ?_
    refine R_if_eq (pc := 12) (tgt := 33) dX11_dataFits_12 (by decide) (fun c_1 => ?_) (fun c_1 => absurd (by decide) c_1)
    refine R_iload_n (pc := 33) 2 dX11_dataFits_33 rfl rfl ?_
    refine R_tableIn (pc := 34) (tgt := 156) dX11_dataFits_34 (by decide) (by decide) rfl (by decide) ?_
    refine R_iload_n (pc := 156) 0 dX11_dataFits_156 rfl rfl ?_
    refine R_bipush (pc := 157) (v := 16) dX11_dataFits_157 (by decide) ?_
    refine R_icmp_lt (pc := 159) (tgt := 166) dX11_dataFits_159 (by decide) (fun c_2 => ?_) (fun c_2 => ?_)
    · skip
      refine R_iconst (pc := 166) (v := 0) dX11_dataFits_166 (by decide) ?_
      exact R_zreturn (pc := 167) dX11_dataFits_167 rfl rfl (by decide) (by decide) ⟨rfl, by show some (Value.int 0) = some (Value.int (if nI (ρ 4).length < 16 then 0 else 1)); rw [if_pos c_2], S, (Fr.rf _)⟩
    · skip
      refine R_iconst (pc := 162) (v := 1) dX11_dataFits_162 (by decide) ?_
      refine R_goto (pc := 163) (tgt := 167) dX11_dataFits_163 (by decide) ?_
      exact R_zreturn (pc := 167) dX11_dataFits_167 rfl rfl (by decide) (by decide) ⟨rfl, by show some (Value.int 1) = some (Value.int (if nI (ρ 4).length < 16 then 0 else 1)); rw [if_neg c_2], S, (Fr.rf _)⟩
  · skip
    refine R_aload_n (pc := 0) 0 dX11_dataFits_0 rfl rfl ?_
    refine R_get (pc := 1) dX11_dataFits_1 fX11_18 S.2.2.2.2.2.2.2.2.2.2 (by omega) rfl ?_
    skip
    refine R_get (pc := 4) dX11_dataFits_4 fX11_133 (S.rowO 4 rfl) (by omega) rfl ?_
    refine R_eqi (y := nI (ρ 4).length) (by first | rfl | (simp only [ur_s, ur_ur])) ?_
    refine R_istore_n (pc := 7) (lv' := [(3, .int (nI (ρ 4).length)), (0, .ref 1), (1, .int 10), (2, .int u)]) dX11_dataFits_7 rfl (by decide) rfl ?_
    refine R_iload_n (pc := 8) 2 dX11_dataFits_8 rfl rfl ?_
    refine R_callSp (pc := 9) (μ' := mX11_isTagged) (As := [.int 10]) (st := []) dX11_dataFits_9 zX11_isTagged lX11_156 ⟨by decide, by decide⟩ rfl rfl ⟨by decide, by decide⟩ rfl (Nat.le_of_ble_eq_true rfl) (qX11_isTagged l w _ _ _) ?_
    refine R_if_eq (pc := 12) (tgt := 33) dX11_dataFits_12 (by decide) (fun c_1 => ?_) (fun c_1 => absurd (by decide) c_1)
    refine R_iload_n (pc := 33) 2 dX11_dataFits_33 rfl rfl ?_
    refine R_tableIn (pc := 34) (tgt := 168) dX11_dataFits_34 (by decide) (by decide) rfl (by decide) ?_
    refine R_iload_n (pc := 168) 0 dX11_dataFits_168 rfl rfl ?_
    refine R_bipush (pc := 169) (v := 7) dX11_dataFits_169 (by decide) ?_
    refine R_iand (pc := 171) dX11_dataFits_171 ?_
    refine R_if_ne (pc := 172) (tgt := 194) dX11_dataFits_172 (by decide) (fun c_2 => ?_) (fun c_2 => ?_)
    · skip
      refine R_iconst (pc := 194) (v := 0) dX11_dataFits_194 (by decide) ?_
      exact R_zreturn (pc := 195) dX11_dataFits_195 rfl rfl (by decide) (by decide) ⟨rfl, by show some (Value.int 0) = some (Value.int (if nI (ρ 4).length &&& 7 = 0 then (if u = 0 then (if nI (ρ 4).length < 16 then 0 else 1) else (if nI (ρ 4).length < 24 then 0 else 1)) else 0)); rw [if_neg c_2], S, (Fr.rf _)⟩
    · skip
      refine R_iload_n (pc := 175) 0 dX11_dataFits_175 rfl rfl ?_
      refine R_iload_n (pc := 176) 3 dX11_dataFits_176 rfl rfl ?_
      refine R_if_eq (pc := 177) (tgt := 185) dX11_dataFits_177 (by decide) (fun c_3 => ?_) (fun c_3 => ?_)
      · skip
        refine R_bipush (pc := 185) (v := 16) dX11_dataFits_185 (by decide) ?_
        refine R_icmp_lt (pc := 187) (tgt := 194) dX11_dataFits_187 (by decide) (fun c_4 => ?_) (fun c_4 => ?_)
        · skip
          refine R_iconst (pc := 194) (v := 0) dX11_dataFits_194 (by decide) ?_
          exact R_zreturn (pc := 195) dX11_dataFits_195 rfl rfl (by decide) (by decide) ⟨rfl, by show some (Value.int 0) = some (Value.int (if nI (ρ 4).length &&& 7 = 0 then (if u = 0 then (if nI (ρ 4).length < 16 then 0 else 1) else (if nI (ρ 4).length < 24 then 0 else 1)) else 0)); rw [if_pos c_2, if_pos c_3, if_pos c_4], S, (Fr.rf _)⟩
        · skip
          refine R_iconst (pc := 190) (v := 1) dX11_dataFits_190 (by decide) ?_
          refine R_goto (pc := 191) (tgt := 195) dX11_dataFits_191 (by decide) ?_
          exact R_zreturn (pc := 195) dX11_dataFits_195 rfl rfl (by decide) (by decide) ⟨rfl, by show some (Value.int 1) = some (Value.int (if nI (ρ 4).length &&& 7 = 0 then (if u = 0 then (if nI (ρ 4).length < 16 then 0 else 1) else (if nI (ρ 4).length < 24 then 0 else 1)) else 0)); rw [if_pos c_2, if_pos c_3, if_neg c_4], S, (Fr.rf _)⟩
      · skip
        refine R_bipush (pc := 180) (v := 24) dX11_dataFits_180 (by decide) ?_
        refine R_goto (pc := 182) (tgt := 187) dX11_dataFits_182 (by decide) ?_
        refine R_icmp_lt (pc := 187) (tgt := 194) dX11_dataFits_187 (by decide) (fun c_5 => ?_) (fun c_5 => ?_)
        · skip
          refine R_iconst (pc := 194) (v := 0) dX11_dataFits_194 (by decide) ?_
          exact R_zreturn (pc := 195) dX11_dataFits_195 rfl rfl (by decide) (by decide) ⟨rfl, by show some (Value.int 0) = some (Value.int (if nI (ρ 4).length &&& 7 = 0 then (if u = 0 then (if nI (ρ 4).length < 16 then 0 else 1) else (if nI (ρ 4).length < 24 then 0 else 1)) else 0)); rw [if_pos c_2, if_neg c_3, if_pos c_5], S, (Fr.rf _)⟩
        · skip
          refine R_iconst (pc := 190) (v := 1) dX11_dataFits_190 (by decide) ?_
          refine R_goto (pc := 191) (tgt := 195) dX11_dataFits_191 (by decide) ?_
          exact R_zreturn (pc := 195) dX11_dataFits_195 rfl rfl (by decide) (by decide) ⟨rfl, by show some (Value.int 1) = some (Value.int (if nI (ρ 4).length &&& 7 = 0 then (if u = 0 then (if nI (ρ 4).length < 16 then 0 else 1) else (if nI (ρ 4).length < 24 then 0 else 1)) else 0)); rw [if_pos c_2, if_neg c_3, if_neg c_5], S, (Fr.rf _)⟩
  · skip
    refine R_aload_n (pc := 0) 0 dX11_dataFits_0 rfl rfl ?_
    refine R_get (pc := 1) dX11_dataFits_1 fX11_18 S.2.2.2.2.2.2.2.2.2.2 (by omega) rfl ?_
    skip
    refine R_get (pc := 4) dX11_dataFits_4 fX11_133 (S.rowO 4 rfl) (by omega) rfl ?_
    refine R_eqi (y := nI (ρ 4).length) (by first | rfl | (simp only [ur_s, ur_ur])) ?_
    refine R_istore_n (pc := 7) (lv' := [(3, .int (nI (ρ 4).length)), (0, .ref 1), (1, .int 11), (2, .int u)]) dX11_dataFits_7 rfl (by decide) rfl ?_
    refine R_iload_n (pc := 8) 2 dX11_dataFits_8 rfl rfl ?_
    refine R_callSp (pc := 9) (μ' := mX11_isTagged) (As := [.int 11]) (st := []) dX11_dataFits_9 zX11_isTagged lX11_156 ⟨by decide, by decide⟩ rfl rfl ⟨by decide, by decide⟩ rfl (Nat.le_of_ble_eq_true rfl) (qX11_isTagged l w _ _ _) ?_
    refine R_if_eq (pc := 12) (tgt := 33) dX11_dataFits_12 (by decide) (fun c_1 => ?_) (fun c_1 => absurd (by decide) c_1)
    refine R_iload_n (pc := 33) 2 dX11_dataFits_33 rfl rfl ?_
    refine R_tableIn (pc := 34) (tgt := 196) dX11_dataFits_34 (by decide) (by decide) rfl (by decide) ?_
    refine R_iload_n (pc := 196) 3 dX11_dataFits_196 rfl rfl ?_
    refine R_if_eq (pc := 197) (tgt := 221) dX11_dataFits_197 (by decide) (fun c_2 => ?_) (fun c_2 => ?_)
    · skip
      refine R_iload_n (pc := 221) 0 dX11_dataFits_221 rfl rfl ?_
      refine R_iconst (pc := 222) (v := 1) dX11_dataFits_222 (by decide) ?_
      refine R_icmp_lt (pc := 223) (tgt := 230) dX11_dataFits_223 (by decide) (fun c_3 => ?_) (fun c_3 => ?_)
      · skip
        refine R_iconst (pc := 230) (v := 0) dX11_dataFits_230 (by decide) ?_
        exact R_zreturn (pc := 231) dX11_dataFits_231 rfl rfl (by decide) (by decide) ⟨rfl, by show some (Value.int 0) = some (Value.int (if u = 0 then (if nI (ρ 4).length < 1 then 0 else 1) else if nI (ρ 4).length &&& 7 = 0 then (if nI (ρ 4).length < 16 then 0 else 1) else 0)); rw [if_pos c_2, if_pos c_3], S, (Fr.rf _)⟩
      · skip
        refine R_iconst (pc := 226) (v := 1) dX11_dataFits_226 (by decide) ?_
        refine R_goto (pc := 227) (tgt := 231) dX11_dataFits_227 (by decide) ?_
        exact R_zreturn (pc := 231) dX11_dataFits_231 rfl rfl (by decide) (by decide) ⟨rfl, by show some (Value.int 1) = some (Value.int (if u = 0 then (if nI (ρ 4).length < 1 then 0 else 1) else if nI (ρ 4).length &&& 7 = 0 then (if nI (ρ 4).length < 16 then 0 else 1) else 0)); rw [if_pos c_2, if_neg c_3], S, (Fr.rf _)⟩
    · skip
      refine R_iload_n (pc := 200) 0 dX11_dataFits_200 rfl rfl ?_
      refine R_bipush (pc := 201) (v := 7) dX11_dataFits_201 (by decide) ?_
      refine R_iand (pc := 203) dX11_dataFits_203 ?_
      refine R_if_ne (pc := 204) (tgt := 217) dX11_dataFits_204 (by decide) (fun c_4 => ?_) (fun c_4 => ?_)
      · skip
        refine R_iconst (pc := 217) (v := 0) dX11_dataFits_217 (by decide) ?_
        refine R_goto (pc := 218) (tgt := 231) dX11_dataFits_218 (by decide) ?_
        exact R_zreturn (pc := 231) dX11_dataFits_231 rfl rfl (by decide) (by decide) ⟨rfl, by show some (Value.int 0) = some (Value.int (if u = 0 then (if nI (ρ 4).length < 1 then 0 else 1) else if nI (ρ 4).length &&& 7 = 0 then (if nI (ρ 4).length < 16 then 0 else 1) else 0)); rw [if_neg c_2, if_neg c_4], S, (Fr.rf _)⟩
      · skip
        refine R_iload_n (pc := 207) 0 dX11_dataFits_207 rfl rfl ?_
        refine R_bipush (pc := 208) (v := 16) dX11_dataFits_208 (by decide) ?_
        refine R_icmp_lt (pc := 210) (tgt := 217) dX11_dataFits_210 (by decide) (fun c_5 => ?_) (fun c_5 => ?_)
        · skip
          refine R_iconst (pc := 217) (v := 0) dX11_dataFits_217 (by decide) ?_
          refine R_goto (pc := 218) (tgt := 231) dX11_dataFits_218 (by decide) ?_
          exact R_zreturn (pc := 231) dX11_dataFits_231 rfl rfl (by decide) (by decide) ⟨rfl, by show some (Value.int 0) = some (Value.int (if u = 0 then (if nI (ρ 4).length < 1 then 0 else 1) else if nI (ρ 4).length &&& 7 = 0 then (if nI (ρ 4).length < 16 then 0 else 1) else 0)); rw [if_neg c_2, if_pos c_4, if_pos c_5], S, (Fr.rf _)⟩
        · skip
          refine R_iconst (pc := 213) (v := 1) dX11_dataFits_213 (by decide) ?_
          refine R_goto (pc := 214) (tgt := 231) dX11_dataFits_214 (by decide) ?_
          exact R_zreturn (pc := 231) dX11_dataFits_231 rfl rfl (by decide) (by decide) ⟨rfl, by show some (Value.int 1) = some (Value.int (if u = 0 then (if nI (ρ 4).length < 1 then 0 else 1) else if nI (ρ 4).length &&& 7 = 0 then (if nI (ρ 4).length < 16 then 0 else 1) else 0)); rw [if_neg c_2, if_pos c_4, if_neg c_5], S, (Fr.rf _)⟩
  · skip
    refine R_aload_n (pc := 0) 0 dX11_dataFits_0 rfl rfl ?_
    refine R_get (pc := 1) dX11_dataFits_1 fX11_18 S.2.2.2.2.2.2.2.2.2.2 (by omega) rfl ?_
    skip
    refine R_get (pc := 4) dX11_dataFits_4 fX11_133 (S.rowO 4 rfl) (by omega) rfl ?_
    refine R_eqi (y := nI (ρ 4).length) (by first | rfl | (simp only [ur_s, ur_ur])) ?_
    refine R_istore_n (pc := 7) (lv' := [(3, .int (nI (ρ 4).length)), (0, .ref 1), (1, .int 12), (2, .int u)]) dX11_dataFits_7 rfl (by decide) rfl ?_
    refine R_iload_n (pc := 8) 2 dX11_dataFits_8 rfl rfl ?_
    refine R_callSp (pc := 9) (μ' := mX11_isTagged) (As := [.int 12]) (st := []) dX11_dataFits_9 zX11_isTagged lX11_156 ⟨by decide, by decide⟩ rfl rfl ⟨by decide, by decide⟩ rfl (Nat.le_of_ble_eq_true rfl) (qX11_isTagged l w _ _ _) ?_
    refine R_if_eq (pc := 12) (tgt := 33) dX11_dataFits_12 (by decide) (fun c_1 => absurd c_1 (by decide)) (fun c_1 => ?_)
    refine R_iload_n (pc := 15) 3 dX11_dataFits_15 rfl rfl ?_
    refine R_if_eq (pc := 16) (tgt := 27) dX11_dataFits_16 (by decide) (fun c_2 => ?_) (fun c_2 => ?_)
    · skip
      refine R_iconst (pc := 27) (v := 1) dX11_dataFits_27 (by decide) ?_
      refine R_goto (pc := 28) (tgt := 32) dX11_dataFits_28 (by decide) ?_
      exact R_zreturn (pc := 32) dX11_dataFits_32 rfl rfl (by decide) (by decide) ⟨rfl, by show some (Value.int 1) = some (Value.int (if u = 0 then 1 else if nI (ρ 4).length < nI τ.2.2 then 0 else 1)); rw [if_pos c_2], S, (Fr.rf _)⟩
    · skip
      refine R_iload_n (pc := 19) 0 dX11_dataFits_19 rfl rfl ?_
      refine R_aload_n (pc := 20) 1 dX11_dataFits_20 rfl rfl ?_
      refine R_get (pc := 21) dX11_dataFits_21 fX11_36 S.2.2.2.2.2.2.2.2.2.2 (by omega) rfl ?_
      refine R_icmp_lt (pc := 24) (tgt := 31) dX11_dataFits_24 (by decide) (fun c_3 => ?_) (fun c_3 => ?_)
      · skip
        refine R_iconst (pc := 31) (v := 0) dX11_dataFits_31 (by decide) ?_
        exact R_zreturn (pc := 32) dX11_dataFits_32 rfl rfl (by decide) (by decide) ⟨rfl, by show some (Value.int 0) = some (Value.int (if u = 0 then 1 else if nI (ρ 4).length < nI τ.2.2 then 0 else 1)); rw [if_neg c_2, if_pos c_3], S, (Fr.rf _)⟩
      · skip
        refine R_iconst (pc := 27) (v := 1) dX11_dataFits_27 (by decide) ?_
        refine R_goto (pc := 28) (tgt := 32) dX11_dataFits_28 (by decide) ?_
        exact R_zreturn (pc := 32) dX11_dataFits_32 rfl rfl (by decide) (by decide) ⟨rfl, by show some (Value.int 1) = some (Value.int (if u = 0 then 1 else if nI (ρ 4).length < nI τ.2.2 then 0 else 1)); rw [if_neg c_2, if_neg c_3], S, (Fr.rf _)⟩
  · skip
    refine R_aload_n (pc := 0) 0 dX11_dataFits_0 rfl rfl ?_
    refine R_get (pc := 1) dX11_dataFits_1 fX11_18 S.2.2.2.2.2.2.2.2.2.2 (by omega) rfl ?_
    skip
    refine R_get (pc := 4) dX11_dataFits_4 fX11_133 (S.rowO 4 rfl) (by omega) rfl ?_
    refine R_eqi (y := nI (ρ 4).length) (by first | rfl | (simp only [ur_s, ur_ur])) ?_
    refine R_istore_n (pc := 7) (lv' := [(3, .int (nI (ρ 4).length)), (0, .ref 1), (1, .int 13), (2, .int u)]) dX11_dataFits_7 rfl (by decide) rfl ?_
    refine R_iload_n (pc := 8) 2 dX11_dataFits_8 rfl rfl ?_
    refine R_callSp (pc := 9) (μ' := mX11_isTagged) (As := [.int 13]) (st := []) dX11_dataFits_9 zX11_isTagged lX11_156 ⟨by decide, by decide⟩ rfl rfl ⟨by decide, by decide⟩ rfl (Nat.le_of_ble_eq_true rfl) (qX11_isTagged l w _ _ _) ?_
    refine R_if_eq (pc := 12) (tgt := 33) dX11_dataFits_12 (by decide) (fun c_1 => absurd c_1 (by decide)) (fun c_1 => ?_)
    refine R_iload_n (pc := 15) 3 dX11_dataFits_15 rfl rfl ?_
    refine R_if_eq (pc := 16) (tgt := 27) dX11_dataFits_16 (by decide) (fun c_2 => ?_) (fun c_2 => ?_)
    · skip
      refine R_iconst (pc := 27) (v := 1) dX11_dataFits_27 (by decide) ?_
      refine R_goto (pc := 28) (tgt := 32) dX11_dataFits_28 (by decide) ?_
      exact R_zreturn (pc := 32) dX11_dataFits_32 rfl rfl (by decide) (by decide) ⟨rfl, by show some (Value.int 1) = some (Value.int (if u = 0 then 1 else if nI (ρ 4).length < nI τ.2.2 then 0 else 1)); rw [if_pos c_2], S, (Fr.rf _)⟩
    · skip
      refine R_iload_n (pc := 19) 0 dX11_dataFits_19 rfl rfl ?_
      refine R_aload_n (pc := 20) 1 dX11_dataFits_20 rfl rfl ?_
      refine R_get (pc := 21) dX11_dataFits_21 fX11_36 S.2.2.2.2.2.2.2.2.2.2 (by omega) rfl ?_
      refine R_icmp_lt (pc := 24) (tgt := 31) dX11_dataFits_24 (by decide) (fun c_3 => ?_) (fun c_3 => ?_)
      · skip
        refine R_iconst (pc := 31) (v := 0) dX11_dataFits_31 (by decide) ?_
        exact R_zreturn (pc := 32) dX11_dataFits_32 rfl rfl (by decide) (by decide) ⟨rfl, by show some (Value.int 0) = some (Value.int (if u = 0 then 1 else if nI (ρ 4).length < nI τ.2.2 then 0 else 1)); rw [if_neg c_2, if_pos c_3], S, (Fr.rf _)⟩
      · skip
        refine R_iconst (pc := 27) (v := 1) dX11_dataFits_27 (by decide) ?_
        refine R_goto (pc := 28) (tgt := 32) dX11_dataFits_28 (by decide) ?_
        exact R_zreturn (pc := 32) dX11_dataFits_32 rfl rfl (by decide) (by decide) ⟨rfl, by show some (Value.int 1) = some (Value.int (if u = 0 then 1 else if nI (ρ 4).length < nI τ.2.2 then 0 else 1)); rw [if_neg c_2, if_neg c_3], S, (Fr.rf _)⟩
  · skip
    refine R_aload_n (pc := 0) 0 dX11_dataFits_0 rfl rfl ?_
    refine R_get (pc := 1) dX11_dataFits_1 fX11_18 S.2.2.2.2.2.2.2.2.2.2 (by omega) rfl ?_
    skip
    refine R_get (pc := 4) dX11_dataFits_4 fX11_133 (S.rowO 4 rfl) (by omega) rfl ?_
    refine R_eqi (y := nI (ρ 4).length) (by first | rfl | (simp only [ur_s, ur_ur])) ?_
    refine R_istore_n (pc := 7) (lv' := [(3, .int (nI (ρ 4).length)), (0, .ref 1), (1, .int 14), (2, .int u)]) dX11_dataFits_7 rfl (by decide) rfl ?_
    refine R_iload_n (pc := 8) 2 dX11_dataFits_8 rfl rfl ?_
    refine R_callSp (pc := 9) (μ' := mX11_isTagged) (As := [.int 14]) (st := []) dX11_dataFits_9 zX11_isTagged lX11_156 ⟨by decide, by decide⟩ rfl rfl ⟨by decide, by decide⟩ rfl (Nat.le_of_ble_eq_true rfl) (qX11_isTagged l w _ _ _) ?_
    refine R_if_eq (pc := 12) (tgt := 33) dX11_dataFits_12 (by decide) (fun c_1 => absurd c_1 (by decide)) (fun c_1 => ?_)
    refine R_iload_n (pc := 15) 3 dX11_dataFits_15 rfl rfl ?_
    refine R_if_eq (pc := 16) (tgt := 27) dX11_dataFits_16 (by decide) (fun c_2 => ?_) (fun c_2 => ?_)
    · skip
      refine R_iconst (pc := 27) (v := 1) dX11_dataFits_27 (by decide) ?_
      refine R_goto (pc := 28) (tgt := 32) dX11_dataFits_28 (by decide) ?_
      exact R_zreturn (pc := 32) dX11_dataFits_32 rfl rfl (by decide) (by decide) ⟨rfl, by show some (Value.int 1) = some (Value.int (if u = 0 then 1 else if nI (ρ 4).length < nI τ.2.2 then 0 else 1)); rw [if_pos c_2], S, (Fr.rf _)⟩
    · skip
      refine R_iload_n (pc := 19) 0 dX11_dataFits_19 rfl rfl ?_
      refine R_aload_n (pc := 20) 1 dX11_dataFits_20 rfl rfl ?_
      refine R_get (pc := 21) dX11_dataFits_21 fX11_36 S.2.2.2.2.2.2.2.2.2.2 (by omega) rfl ?_
      refine R_icmp_lt (pc := 24) (tgt := 31) dX11_dataFits_24 (by decide) (fun c_3 => ?_) (fun c_3 => ?_)
      · skip
        refine R_iconst (pc := 31) (v := 0) dX11_dataFits_31 (by decide) ?_
        exact R_zreturn (pc := 32) dX11_dataFits_32 rfl rfl (by decide) (by decide) ⟨rfl, by show some (Value.int 0) = some (Value.int (if u = 0 then 1 else if nI (ρ 4).length < nI τ.2.2 then 0 else 1)); rw [if_neg c_2, if_pos c_3], S, (Fr.rf _)⟩
      · skip
        refine R_iconst (pc := 27) (v := 1) dX11_dataFits_27 (by decide) ?_
        refine R_goto (pc := 28) (tgt := 32) dX11_dataFits_28 (by decide) ?_
        exact R_zreturn (pc := 32) dX11_dataFits_32 rfl rfl (by decide) (by decide) ⟨rfl, by show some (Value.int 1) = some (Value.int (if u = 0 then 1 else if nI (ρ 4).length < nI τ.2.2 then 0 else 1)); rw [if_neg c_2, if_neg c_3], S, (Fr.rf _)⟩
  · skip
    refine R_aload_n (pc := 0) 0 dX11_dataFits_0 rfl rfl ?_
    refine R_get (pc := 1) dX11_dataFits_1 fX11_18 S.2.2.2.2.2.2.2.2.2.2 (by omega) rfl ?_
    skip
    refine R_get (pc := 4) dX11_dataFits_4 fX11_133 (S.rowO 4 rfl) (by omega) rfl ?_
    refine R_eqi (y := nI (ρ 4).length) (by first | rfl | (simp only [ur_s, ur_ur])) ?_
    refine R_istore_n (pc := 7) (lv' := [(3, .int (nI (ρ 4).length)), (0, .ref 1), (1, .int 15), (2, .int u)]) dX11_dataFits_7 rfl (by decide) rfl ?_
    refine R_iload_n (pc := 8) 2 dX11_dataFits_8 rfl rfl ?_
    refine R_callSp (pc := 9) (μ' := mX11_isTagged) (As := [.int 15]) (st := []) dX11_dataFits_9 zX11_isTagged lX11_156 ⟨by decide, by decide⟩ rfl rfl ⟨by decide, by decide⟩ rfl (Nat.le_of_ble_eq_true rfl) (qX11_isTagged l w _ _ _) ?_
    refine R_if_eq (pc := 12) (tgt := 33) dX11_dataFits_12 (by decide) (fun c_1 => ?_) (fun c_1 => absurd (by decide) c_1)
    refine R_iload_n (pc := 33) 2 dX11_dataFits_33 rfl rfl ?_
    refine R_tableIn (pc := 34) (tgt := 232) dX11_dataFits_34 (by decide) (by decide) rfl (by decide) ?_
    refine R_iload_n (pc := 232) 3 dX11_dataFits_232 rfl rfl ?_
    refine R_if_eq (pc := 233) (tgt := 242) dX11_dataFits_233 (by decide) (fun c_2 => ?_) (fun c_2 => ?_)
    · skip
      refine R_iconst (pc := 242) (v := 1) dX11_dataFits_242 (by decide) ?_
      refine R_goto (pc := 243) (tgt := 247) dX11_dataFits_243 (by decide) ?_
      exact R_zreturn (pc := 247) dX11_dataFits_247 rfl rfl (by decide) (by decide) ⟨rfl, by show some (Value.int 1) = some (Value.int (if u = 0 then 1 else if nI (ρ 4).length < 16 then 0 else 1)); rw [if_pos c_2], S, (Fr.rf _)⟩
    · skip
      refine R_iload_n (pc := 236) 0 dX11_dataFits_236 rfl rfl ?_
      refine R_bipush (pc := 237) (v := 16) dX11_dataFits_237 (by decide) ?_
      refine R_icmp_lt (pc := 239) (tgt := 246) dX11_dataFits_239 (by decide) (fun c_3 => ?_) (fun c_3 => ?_)
      · skip
        refine R_iconst (pc := 246) (v := 0) dX11_dataFits_246 (by decide) ?_
        exact R_zreturn (pc := 247) dX11_dataFits_247 rfl rfl (by decide) (by decide) ⟨rfl, by show some (Value.int 0) = some (Value.int (if u = 0 then 1 else if nI (ρ 4).length < 16 then 0 else 1)); rw [if_neg c_2, if_pos c_3], S, (Fr.rf _)⟩
      · skip
        refine R_iconst (pc := 242) (v := 1) dX11_dataFits_242 (by decide) ?_
        refine R_goto (pc := 243) (tgt := 247) dX11_dataFits_243 (by decide) ?_
        exact R_zreturn (pc := 247) dX11_dataFits_247 rfl rfl (by decide) (by decide) ⟨rfl, by show some (Value.int 1) = some (Value.int (if u = 0 then 1 else if nI (ρ 4).length < 16 then 0 else 1)); rw [if_neg c_2, if_neg c_3], S, (Fr.rf _)⟩
  · skip
    refine R_aload_n (pc := 0) 0 dX11_dataFits_0 rfl rfl ?_
    refine R_get (pc := 1) dX11_dataFits_1 fX11_18 S.2.2.2.2.2.2.2.2.2.2 (by omega) rfl ?_
    skip
    refine R_get (pc := 4) dX11_dataFits_4 fX11_133 (S.rowO 4 rfl) (by omega) rfl ?_
    refine R_eqi (y := nI (ρ 4).length) (by first | rfl | (simp only [ur_s, ur_ur])) ?_
    refine R_istore_n (pc := 7) (lv' := [(3, .int (nI (ρ 4).length)), (0, .ref 1), (1, .int 16), (2, .int u)]) dX11_dataFits_7 rfl (by decide) rfl ?_
    refine R_iload_n (pc := 8) 2 dX11_dataFits_8 rfl rfl ?_
    refine R_callSp (pc := 9) (μ' := mX11_isTagged) (As := [.int 16]) (st := []) dX11_dataFits_9 zX11_isTagged lX11_156 ⟨by decide, by decide⟩ rfl rfl ⟨by decide, by decide⟩ rfl (Nat.le_of_ble_eq_true rfl) (qX11_isTagged l w _ _ _) ?_
    refine R_if_eq (pc := 12) (tgt := 33) dX11_dataFits_12 (by decide) (fun c_1 => absurd c_1 (by decide)) (fun c_1 => ?_)
    refine R_iload_n (pc := 15) 3 dX11_dataFits_15 rfl rfl ?_
    refine R_if_eq (pc := 16) (tgt := 27) dX11_dataFits_16 (by decide) (fun c_2 => ?_) (fun c_2 => ?_)
    · skip
      refine R_iconst (pc := 27) (v := 1) dX11_dataFits_27 (by decide) ?_
      refine R_goto (pc := 28) (tgt := 32) dX11_dataFits_28 (by decide) ?_
      exact R_zreturn (pc := 32) dX11_dataFits_32 rfl rfl (by decide) (by decide) ⟨rfl, by show some (Value.int 1) = some (Value.int (if u = 0 then 1 else if nI (ρ 4).length < nI τ.2.2 then 0 else 1)); rw [if_pos c_2], S, (Fr.rf _)⟩
    · skip
      refine R_iload_n (pc := 19) 0 dX11_dataFits_19 rfl rfl ?_
      refine R_aload_n (pc := 20) 1 dX11_dataFits_20 rfl rfl ?_
      refine R_get (pc := 21) dX11_dataFits_21 fX11_36 S.2.2.2.2.2.2.2.2.2.2 (by omega) rfl ?_
      refine R_icmp_lt (pc := 24) (tgt := 31) dX11_dataFits_24 (by decide) (fun c_3 => ?_) (fun c_3 => ?_)
      · skip
        refine R_iconst (pc := 31) (v := 0) dX11_dataFits_31 (by decide) ?_
        exact R_zreturn (pc := 32) dX11_dataFits_32 rfl rfl (by decide) (by decide) ⟨rfl, by show some (Value.int 0) = some (Value.int (if u = 0 then 1 else if nI (ρ 4).length < nI τ.2.2 then 0 else 1)); rw [if_neg c_2, if_pos c_3], S, (Fr.rf _)⟩
      · skip
        refine R_iconst (pc := 27) (v := 1) dX11_dataFits_27 (by decide) ?_
        refine R_goto (pc := 28) (tgt := 32) dX11_dataFits_28 (by decide) ?_
        exact R_zreturn (pc := 32) dX11_dataFits_32 rfl rfl (by decide) (by decide) ⟨rfl, by show some (Value.int 1) = some (Value.int (if u = 0 then 1 else if nI (ρ 4).length < nI τ.2.2 then 0 else 1)); rw [if_neg c_2, if_neg c_3], S, (Fr.rf _)⟩
def kyF (v : Int32) (m : Nat) : Int32 := if w2K v = 0 then isK (nI m) else if nI m &&& 1 = 0 then (if isK (nI m >>> (1 &&& 31)) = 0 then 0 else 1) else 0
def rfT (v u : Int32) (k St D t : Nat) : Int32 := if stF k St = 0 then -2 else if dtF k u D t = 0 then -2 else if v = 13 then (if nI t &&& 1 = 0 then 0 else -2) else 0
def rfV (v u : Int32) (K St D t : Nat) : Int32 := if v < 1 then -2 else if v ≤ 16 then (if kyF v K = 0 then -3 else rfT v u v.toNatClampNeg St D t) else -2
set_option maxHeartbeats 4000000 in
set_option maxRecDepth 100000 in
theorem qX11_refusalOf {l : Launch} {w : am_W} {h : am_H} {n : Nat} {ρ : Nat → List (BitVec 8)} {β : Nat → bP} {κ : Nat → kT} {τ : Nat × Nat × Nat} (S : Sys h ρ β κ τ) (hn : 60 ≤ n) (hτ : tOk τ) (v u : Int32) : RH l w mX11_refusalOf h n [.ref 1, .int v, .int u] (SQ h τ (some (.int (rfV v u (ρ 2).length (ρ 6).length (ρ 4).length τ.2.2))) ρ β κ) := by
  refine RC.of [(0, .ref 1), (1, .int v), (2, .int u)] (by decide +kernel) rfl (Nat.le_of_ble_eq_true rfl) ?_
  refine R_iload_n (pc := 0) 1 dX11_refusalOf_0 rfl rfl ?_
  refine R_iconst (pc := 1) (v := 1) dX11_refusalOf_1 (by decide) ?_
  refine R_icmp_lt (pc := 2) (tgt := 11) dX11_refusalOf_2 (by decide) (fun c_1 => ?_) (fun c_1 => ?_)
  · skip
    refine R_bipush (pc := 11) (v := (-2)) dX11_refusalOf_11 (by decide) ?_
    exact R_ireturn (pc := 13) dX11_refusalOf_13 rfl (by decide) (by decide) ⟨rfl, by unfold rfV; rw [if_pos c_1], S, (Fr.rf _)⟩
  · skip
    refine R_iload_n (pc := 5) 1 dX11_refusalOf_5 rfl rfl ?_
    refine R_bipush (pc := 6) (v := 16) dX11_refusalOf_6 (by decide) ?_
    refine R_icmp_le (pc := 8) (tgt := 14) dX11_refusalOf_8 (by decide) (fun c_2 => ?_) (fun c_2 => ?_)
    · skip
      obtain ⟨k, hk⟩ := kN_of c_1 c_2
      have hkc : v.toNatClampNeg = k := by rw [hk.eq.1]; exact nI_clamp (by have := hk.eq.2; omega)
      refine R_iload_n (pc := 14) 1 dX11_refusalOf_14 rfl rfl ?_
      refine R_callSp (pc := 15) (μ' := mX11_wantsTwoKeys) (As := [.int v]) (st := []) dX11_refusalOf_15 zX11_wantsTwoKeys lX11_225 ⟨by decide, by decide⟩ rfl rfl ⟨by decide, by decide⟩ rfl (Nat.le_of_ble_eq_true rfl) (qX11_wantsTwoKeys l w _ _ _) ?_
      refine R_if_eq (pc := 18) (tgt := 56) dX11_refusalOf_18 (by decide) (fun c_3 => ?_) (fun c_3 => ?_)
      · skip
        refine R_aload_n (pc := 56) 0 dX11_refusalOf_56 rfl rfl ?_
        refine R_get (pc := 57) dX11_refusalOf_57 fX11_14 S.2.2.2.2.2.2.2.2.2.2 (by omega) rfl ?_
        skip
        refine R_get (pc := 60) dX11_refusalOf_60 fX11_133 (S.rowO 2 rfl) (by omega) rfl ?_
        refine R_eqi (y := nI (ρ 2).length) (by first | rfl | (simp only [ur_s, ur_ur])) ?_
        refine R_callSp (pc := 63) (μ' := mX11_isKeySize) (As := [.int (nI (ρ 2).length)]) (st := []) dX11_refusalOf_63 zX11_isKeySize lX11_200 ⟨by decide, by decide⟩ rfl rfl ⟨by decide, by decide⟩ rfl (Nat.le_of_ble_eq_true rfl) (qX11_isKeySize l w _ _ _) ?_
        refine R_eqi (y := kyF v (ρ 2).length) (by unfold kyF; rw [if_pos c_3]) ?_
        refine R_istore_n (pc := 66) (lv' := [(3, .int (kyF v (ρ 2).length)), (0, .ref 1), (1, .int v), (2, .int u)]) dX11_refusalOf_66 rfl (by decide) rfl ?_
        refine R_iload_n (pc := 67) 0 dX11_refusalOf_67 rfl rfl ?_
        refine R_if_ne (pc := 68) (tgt := 74) dX11_refusalOf_68 (by decide) (fun c_4 => ?_) (fun c_4 => ?_)
        · skip
          refine R_aload_n (pc := 74) 1 dX11_refusalOf_74 rfl rfl ?_
          refine R_iload_n (pc := 75) 2 dX11_refusalOf_75 rfl rfl ?_
          refine R_callVh (pc := 76) (μ' := mX11_startFits) (As := [.int v]) (st := []) dX11_refusalOf_76 zX11_startFits lX11_228 ⟨by decide, by decide⟩ rfl rfl ⟨by decide, by decide⟩ S.2.2.2.2.2.2.2.2.2.2 (by omega) rfl (Nat.le_of_ble_eq_true rfl) (qX11_startFits S hn hτ _ k hk) (fun h_5 r_ q_6 => ?_)
          obtain ⟨rfl, S_7, F_9⟩ := q_6
          have S_8 : Sys h_5 ρ β κ τ := S_7
          refine R_if_eq (pc := 79) (tgt := 91) dX11_refusalOf_79 (by decide) (fun c_10 => ?_) (fun c_10 => ?_)
          · skip
            refine R_bipush (pc := 91) (v := (-2)) dX11_refusalOf_91 (by decide) ?_
            exact R_ireturn (pc := 93) dX11_refusalOf_93 rfl (by decide) (by decide) ⟨rfl, by unfold rfV rfT; rw [if_neg c_1, if_pos c_2, if_neg c_4, hkc, if_pos c_10], S_8, F_9⟩
          · skip
            refine R_aload_n (pc := 82) 1 dX11_refusalOf_82 rfl rfl ?_
            refine R_iload_n (pc := 83) 2 dX11_refusalOf_83 rfl rfl ?_
            refine R_iload_n (pc := 84) 3 dX11_refusalOf_84 rfl rfl ?_
            refine R_callVh (pc := 85) (μ' := mX11_dataFits) (As := [.int v, .int u]) (st := []) dX11_refusalOf_85 zX11_dataFits lX11_231 ⟨by decide, by decide⟩ rfl rfl ⟨by decide, by decide⟩ S_8.2.2.2.2.2.2.2.2.2.2 (by omega) rfl (Nat.le_of_ble_eq_true rfl) (qX11_dataFits S_8 hn hτ _ k hk _) (fun h_11 r_ q_12 => ?_)
            obtain ⟨rfl, S_13, F_15⟩ := q_12
            have S_14 : Sys h_11 ρ β κ τ := S_13
            refine R_if_ne (pc := 88) (tgt := 94) dX11_refusalOf_88 (by decide) (fun c_16 => ?_) (fun c_16 => ?_)
            · skip
              refine R_iload_n (pc := 94) 2 dX11_refusalOf_94 rfl rfl ?_
              refine R_bipush (pc := 95) (v := 13) dX11_refusalOf_95 (by decide) ?_
              refine R_icmp_ne (pc := 97) (tgt := 114) dX11_refusalOf_97 (by decide) (fun c_17 => ?_) (fun c_17 => ?_)
              · skip
                refine R_iconst (pc := 114) (v := 0) dX11_refusalOf_114 (by decide) ?_
                exact R_ireturn (pc := 115) dX11_refusalOf_115 rfl (by decide) (by decide) ⟨rfl, by unfold rfV rfT; rw [if_neg c_1, if_pos c_2, if_neg c_4, hkc, if_neg c_10, if_neg c_16, if_neg c_17], S_14, (F_9.tr F_15)⟩
              · skip
                refine R_aload_n (pc := 100) 1 dX11_refusalOf_100 rfl rfl ?_
                refine R_get (pc := 101) dX11_refusalOf_101 fX11_36 S_14.2.2.2.2.2.2.2.2.2.2 (by omega) rfl ?_
                refine R_iconst (pc := 104) (v := 1) dX11_refusalOf_104 (by decide) ?_
                refine R_iand (pc := 105) dX11_refusalOf_105 ?_
                refine R_if_eq (pc := 106) (tgt := 114) dX11_refusalOf_106 (by decide) (fun c_18 => ?_) (fun c_18 => ?_)
                · skip
                  refine R_iconst (pc := 114) (v := 0) dX11_refusalOf_114 (by decide) ?_
                  exact R_ireturn (pc := 115) dX11_refusalOf_115 rfl (by decide) (by decide) ⟨rfl, by unfold rfV rfT; rw [if_neg c_1, if_pos c_2, if_neg c_4, hkc, if_neg c_10, if_neg c_16, if_pos c_17, if_pos c_18], S_14, (F_9.tr F_15)⟩
                · skip
                  refine R_bipush (pc := 109) (v := (-2)) dX11_refusalOf_109 (by decide) ?_
                  refine R_goto (pc := 111) (tgt := 115) dX11_refusalOf_111 (by decide) ?_
                  exact R_ireturn (pc := 115) dX11_refusalOf_115 rfl (by decide) (by decide) ⟨rfl, by unfold rfV rfT; rw [if_neg c_1, if_pos c_2, if_neg c_4, hkc, if_neg c_10, if_neg c_16, if_pos c_17, if_neg c_18], S_14, (F_9.tr F_15)⟩
            · skip
              refine R_bipush (pc := 91) (v := (-2)) dX11_refusalOf_91 (by decide) ?_
              exact R_ireturn (pc := 93) dX11_refusalOf_93 rfl (by decide) (by decide) ⟨rfl, by unfold rfV rfT; rw [if_neg c_1, if_pos c_2, if_neg c_4, hkc, if_neg c_10, if_pos c_16], S_14, (F_9.tr F_15)⟩
        · skip
          refine R_bipush (pc := 71) (v := (-3)) dX11_refusalOf_71 (by decide) ?_
          exact R_ireturn (pc := 73) dX11_refusalOf_73 rfl (by decide) (by decide) ⟨rfl, by unfold rfV; rw [if_neg c_1, if_pos c_2, if_pos c_4], S, (Fr.rf _)⟩
      · skip
        refine R_aload_n (pc := 21) 0 dX11_refusalOf_21 rfl rfl ?_
        refine R_get (pc := 22) dX11_refusalOf_22 fX11_14 S.2.2.2.2.2.2.2.2.2.2 (by omega) rfl ?_
        skip
        refine R_get (pc := 25) dX11_refusalOf_25 fX11_133 (S.rowO 2 rfl) (by omega) rfl ?_
        refine R_eqi (y := nI (ρ 2).length) (by first | rfl | (simp only [ur_s, ur_ur])) ?_
        refine R_iconst (pc := 28) (v := 1) dX11_refusalOf_28 (by decide) ?_
        refine R_iand (pc := 29) dX11_refusalOf_29 ?_
        refine R_if_ne (pc := 30) (tgt := 52) dX11_refusalOf_30 (by decide) (fun c_19 => ?_) (fun c_19 => ?_)
        · skip
          refine R_iconst (pc := 52) (v := 0) dX11_refusalOf_52 (by decide) ?_
          refine R_goto (pc := 53) (tgt := 66) dX11_refusalOf_53 (by decide) ?_
          refine R_eqi (y := kyF v (ρ 2).length) (by unfold kyF; rw [if_neg c_3, if_neg c_19]) ?_
          refine R_istore_n (pc := 66) (lv' := [(3, .int (kyF v (ρ 2).length)), (0, .ref 1), (1, .int v), (2, .int u)]) dX11_refusalOf_66 rfl (by decide) rfl ?_
          refine R_iload_n (pc := 67) 0 dX11_refusalOf_67 rfl rfl ?_
          refine R_if_ne (pc := 68) (tgt := 74) dX11_refusalOf_68 (by decide) (fun c_20 => ?_) (fun c_20 => ?_)
          · skip
            refine R_aload_n (pc := 74) 1 dX11_refusalOf_74 rfl rfl ?_
            refine R_iload_n (pc := 75) 2 dX11_refusalOf_75 rfl rfl ?_
            refine R_callVh (pc := 76) (μ' := mX11_startFits) (As := [.int v]) (st := []) dX11_refusalOf_76 zX11_startFits lX11_228 ⟨by decide, by decide⟩ rfl rfl ⟨by decide, by decide⟩ S.2.2.2.2.2.2.2.2.2.2 (by omega) rfl (Nat.le_of_ble_eq_true rfl) (qX11_startFits S hn hτ _ k hk) (fun h_21 r_ q_22 => ?_)
            obtain ⟨rfl, S_23, F_25⟩ := q_22
            have S_24 : Sys h_21 ρ β κ τ := S_23
            refine R_if_eq (pc := 79) (tgt := 91) dX11_refusalOf_79 (by decide) (fun c_26 => ?_) (fun c_26 => ?_)
            · skip
              refine R_bipush (pc := 91) (v := (-2)) dX11_refusalOf_91 (by decide) ?_
              exact R_ireturn (pc := 93) dX11_refusalOf_93 rfl (by decide) (by decide) ⟨rfl, by unfold rfV rfT; rw [if_neg c_1, if_pos c_2, if_neg c_20, hkc, if_pos c_26], S_24, F_25⟩
            · skip
              refine R_aload_n (pc := 82) 1 dX11_refusalOf_82 rfl rfl ?_
              refine R_iload_n (pc := 83) 2 dX11_refusalOf_83 rfl rfl ?_
              refine R_iload_n (pc := 84) 3 dX11_refusalOf_84 rfl rfl ?_
              refine R_callVh (pc := 85) (μ' := mX11_dataFits) (As := [.int v, .int u]) (st := []) dX11_refusalOf_85 zX11_dataFits lX11_231 ⟨by decide, by decide⟩ rfl rfl ⟨by decide, by decide⟩ S_24.2.2.2.2.2.2.2.2.2.2 (by omega) rfl (Nat.le_of_ble_eq_true rfl) (qX11_dataFits S_24 hn hτ _ k hk _) (fun h_27 r_ q_28 => ?_)
              obtain ⟨rfl, S_29, F_31⟩ := q_28
              have S_30 : Sys h_27 ρ β κ τ := S_29
              refine R_if_ne (pc := 88) (tgt := 94) dX11_refusalOf_88 (by decide) (fun c_32 => ?_) (fun c_32 => ?_)
              · skip
                refine R_iload_n (pc := 94) 2 dX11_refusalOf_94 rfl rfl ?_
                refine R_bipush (pc := 95) (v := 13) dX11_refusalOf_95 (by decide) ?_
                refine R_icmp_ne (pc := 97) (tgt := 114) dX11_refusalOf_97 (by decide) (fun c_33 => ?_) (fun c_33 => ?_)
                · skip
                  refine R_iconst (pc := 114) (v := 0) dX11_refusalOf_114 (by decide) ?_
                  exact R_ireturn (pc := 115) dX11_refusalOf_115 rfl (by decide) (by decide) ⟨rfl, by unfold rfV rfT; rw [if_neg c_1, if_pos c_2, if_neg c_20, hkc, if_neg c_26, if_neg c_32, if_neg c_33], S_30, (F_25.tr F_31)⟩
                · skip
                  refine R_aload_n (pc := 100) 1 dX11_refusalOf_100 rfl rfl ?_
                  refine R_get (pc := 101) dX11_refusalOf_101 fX11_36 S_30.2.2.2.2.2.2.2.2.2.2 (by omega) rfl ?_
                  refine R_iconst (pc := 104) (v := 1) dX11_refusalOf_104 (by decide) ?_
                  refine R_iand (pc := 105) dX11_refusalOf_105 ?_
                  refine R_if_eq (pc := 106) (tgt := 114) dX11_refusalOf_106 (by decide) (fun c_34 => ?_) (fun c_34 => ?_)
                  · skip
                    refine R_iconst (pc := 114) (v := 0) dX11_refusalOf_114 (by decide) ?_
                    exact R_ireturn (pc := 115) dX11_refusalOf_115 rfl (by decide) (by decide) ⟨rfl, by unfold rfV rfT; rw [if_neg c_1, if_pos c_2, if_neg c_20, hkc, if_neg c_26, if_neg c_32, if_pos c_33, if_pos c_34], S_30, (F_25.tr F_31)⟩
                  · skip
                    refine R_bipush (pc := 109) (v := (-2)) dX11_refusalOf_109 (by decide) ?_
                    refine R_goto (pc := 111) (tgt := 115) dX11_refusalOf_111 (by decide) ?_
                    exact R_ireturn (pc := 115) dX11_refusalOf_115 rfl (by decide) (by decide) ⟨rfl, by unfold rfV rfT; rw [if_neg c_1, if_pos c_2, if_neg c_20, hkc, if_neg c_26, if_neg c_32, if_pos c_33, if_neg c_34], S_30, (F_25.tr F_31)⟩
              · skip
                refine R_bipush (pc := 91) (v := (-2)) dX11_refusalOf_91 (by decide) ?_
                exact R_ireturn (pc := 93) dX11_refusalOf_93 rfl (by decide) (by decide) ⟨rfl, by unfold rfV rfT; rw [if_neg c_1, if_pos c_2, if_neg c_20, hkc, if_neg c_26, if_pos c_32], S_30, (F_25.tr F_31)⟩
          · skip
            refine R_bipush (pc := 71) (v := (-3)) dX11_refusalOf_71 (by decide) ?_
            exact R_ireturn (pc := 73) dX11_refusalOf_73 rfl (by decide) (by decide) ⟨rfl, by unfold rfV; rw [if_neg c_1, if_pos c_2, if_pos c_20], S, (Fr.rf _)⟩
        · skip
          refine R_aload_n (pc := 33) 0 dX11_refusalOf_33 rfl rfl ?_
          refine R_get (pc := 34) dX11_refusalOf_34 fX11_14 S.2.2.2.2.2.2.2.2.2.2 (by omega) rfl ?_
          skip
          refine R_get (pc := 37) dX11_refusalOf_37 fX11_133 (S.rowO 2 rfl) (by omega) rfl ?_
          refine R_eqi (y := nI (ρ 2).length) (by first | rfl | (simp only [ur_s, ur_ur])) ?_
          refine R_iconst (pc := 40) (v := 1) dX11_refusalOf_40 (by decide) ?_
          refine R_ishr (pc := 41) dX11_refusalOf_41 ?_
          refine R_callSp (pc := 42) (μ' := mX11_isKeySize) (As := [.int ((nI (ρ 2).length) >>> (1 &&& 31))]) (st := []) dX11_refusalOf_42 zX11_isKeySize lX11_200 ⟨by decide, by decide⟩ rfl rfl ⟨by decide, by decide⟩ rfl (Nat.le_of_ble_eq_true rfl) (qX11_isKeySize l w _ _ _) ?_
          refine R_if_eq (pc := 45) (tgt := 52) dX11_refusalOf_45 (by decide) (fun c_35 => ?_) (fun c_35 => ?_)
          · skip
            refine R_iconst (pc := 52) (v := 0) dX11_refusalOf_52 (by decide) ?_
            refine R_goto (pc := 53) (tgt := 66) dX11_refusalOf_53 (by decide) ?_
            refine R_eqi (y := kyF v (ρ 2).length) (by unfold kyF; rw [if_neg c_3, if_pos c_19, if_pos c_35]) ?_
            refine R_istore_n (pc := 66) (lv' := [(3, .int (kyF v (ρ 2).length)), (0, .ref 1), (1, .int v), (2, .int u)]) dX11_refusalOf_66 rfl (by decide) rfl ?_
            refine R_iload_n (pc := 67) 0 dX11_refusalOf_67 rfl rfl ?_
            refine R_if_ne (pc := 68) (tgt := 74) dX11_refusalOf_68 (by decide) (fun c_36 => ?_) (fun c_36 => ?_)
            · skip
              refine R_aload_n (pc := 74) 1 dX11_refusalOf_74 rfl rfl ?_
              refine R_iload_n (pc := 75) 2 dX11_refusalOf_75 rfl rfl ?_
              refine R_callVh (pc := 76) (μ' := mX11_startFits) (As := [.int v]) (st := []) dX11_refusalOf_76 zX11_startFits lX11_228 ⟨by decide, by decide⟩ rfl rfl ⟨by decide, by decide⟩ S.2.2.2.2.2.2.2.2.2.2 (by omega) rfl (Nat.le_of_ble_eq_true rfl) (qX11_startFits S hn hτ _ k hk) (fun h_37 r_ q_38 => ?_)
              obtain ⟨rfl, S_39, F_41⟩ := q_38
              have S_40 : Sys h_37 ρ β κ τ := S_39
              refine R_if_eq (pc := 79) (tgt := 91) dX11_refusalOf_79 (by decide) (fun c_42 => ?_) (fun c_42 => ?_)
              · skip
                refine R_bipush (pc := 91) (v := (-2)) dX11_refusalOf_91 (by decide) ?_
                exact R_ireturn (pc := 93) dX11_refusalOf_93 rfl (by decide) (by decide) ⟨rfl, by unfold rfV rfT; rw [if_neg c_1, if_pos c_2, if_neg c_36, hkc, if_pos c_42], S_40, F_41⟩
              · skip
                refine R_aload_n (pc := 82) 1 dX11_refusalOf_82 rfl rfl ?_
                refine R_iload_n (pc := 83) 2 dX11_refusalOf_83 rfl rfl ?_
                refine R_iload_n (pc := 84) 3 dX11_refusalOf_84 rfl rfl ?_
                refine R_callVh (pc := 85) (μ' := mX11_dataFits) (As := [.int v, .int u]) (st := []) dX11_refusalOf_85 zX11_dataFits lX11_231 ⟨by decide, by decide⟩ rfl rfl ⟨by decide, by decide⟩ S_40.2.2.2.2.2.2.2.2.2.2 (by omega) rfl (Nat.le_of_ble_eq_true rfl) (qX11_dataFits S_40 hn hτ _ k hk _) (fun h_43 r_ q_44 => ?_)
                obtain ⟨rfl, S_45, F_47⟩ := q_44
                have S_46 : Sys h_43 ρ β κ τ := S_45
                refine R_if_ne (pc := 88) (tgt := 94) dX11_refusalOf_88 (by decide) (fun c_48 => ?_) (fun c_48 => ?_)
                · skip
                  refine R_iload_n (pc := 94) 2 dX11_refusalOf_94 rfl rfl ?_
                  refine R_bipush (pc := 95) (v := 13) dX11_refusalOf_95 (by decide) ?_
                  refine R_icmp_ne (pc := 97) (tgt := 114) dX11_refusalOf_97 (by decide) (fun c_49 => ?_) (fun c_49 => ?_)
                  · skip
                    refine R_iconst (pc := 114) (v := 0) dX11_refusalOf_114 (by decide) ?_
                    exact R_ireturn (pc := 115) dX11_refusalOf_115 rfl (by decide) (by decide) ⟨rfl, by unfold rfV rfT; rw [if_neg c_1, if_pos c_2, if_neg c_36, hkc, if_neg c_42, if_neg c_48, if_neg c_49], S_46, (F_41.tr F_47)⟩
                  · skip
                    refine R_aload_n (pc := 100) 1 dX11_refusalOf_100 rfl rfl ?_
                    refine R_get (pc := 101) dX11_refusalOf_101 fX11_36 S_46.2.2.2.2.2.2.2.2.2.2 (by omega) rfl ?_
                    refine R_iconst (pc := 104) (v := 1) dX11_refusalOf_104 (by decide) ?_
                    refine R_iand (pc := 105) dX11_refusalOf_105 ?_
                    refine R_if_eq (pc := 106) (tgt := 114) dX11_refusalOf_106 (by decide) (fun c_50 => ?_) (fun c_50 => ?_)
                    · skip
                      refine R_iconst (pc := 114) (v := 0) dX11_refusalOf_114 (by decide) ?_
                      exact R_ireturn (pc := 115) dX11_refusalOf_115 rfl (by decide) (by decide) ⟨rfl, by unfold rfV rfT; rw [if_neg c_1, if_pos c_2, if_neg c_36, hkc, if_neg c_42, if_neg c_48, if_pos c_49, if_pos c_50], S_46, (F_41.tr F_47)⟩
                    · skip
                      refine R_bipush (pc := 109) (v := (-2)) dX11_refusalOf_109 (by decide) ?_
                      refine R_goto (pc := 111) (tgt := 115) dX11_refusalOf_111 (by decide) ?_
                      exact R_ireturn (pc := 115) dX11_refusalOf_115 rfl (by decide) (by decide) ⟨rfl, by unfold rfV rfT; rw [if_neg c_1, if_pos c_2, if_neg c_36, hkc, if_neg c_42, if_neg c_48, if_pos c_49, if_neg c_50], S_46, (F_41.tr F_47)⟩
                · skip
                  refine R_bipush (pc := 91) (v := (-2)) dX11_refusalOf_91 (by decide) ?_
                  exact R_ireturn (pc := 93) dX11_refusalOf_93 rfl (by decide) (by decide) ⟨rfl, by unfold rfV rfT; rw [if_neg c_1, if_pos c_2, if_neg c_36, hkc, if_neg c_42, if_pos c_48], S_46, (F_41.tr F_47)⟩
            · skip
              refine R_bipush (pc := 71) (v := (-3)) dX11_refusalOf_71 (by decide) ?_
              exact R_ireturn (pc := 73) dX11_refusalOf_73 rfl (by decide) (by decide) ⟨rfl, by unfold rfV; rw [if_neg c_1, if_pos c_2, if_pos c_36], S, (Fr.rf _)⟩
          · skip
            refine R_iconst (pc := 48) (v := 1) dX11_refusalOf_48 (by decide) ?_
            refine R_goto (pc := 49) (tgt := 66) dX11_refusalOf_49 (by decide) ?_
            refine R_eqi (y := kyF v (ρ 2).length) (by unfold kyF; rw [if_neg c_3, if_pos c_19, if_neg c_35]) ?_
            refine R_istore_n (pc := 66) (lv' := [(3, .int (kyF v (ρ 2).length)), (0, .ref 1), (1, .int v), (2, .int u)]) dX11_refusalOf_66 rfl (by decide) rfl ?_
            refine R_iload_n (pc := 67) 0 dX11_refusalOf_67 rfl rfl ?_
            refine R_if_ne (pc := 68) (tgt := 74) dX11_refusalOf_68 (by decide) (fun c_51 => ?_) (fun c_51 => ?_)
            · skip
              refine R_aload_n (pc := 74) 1 dX11_refusalOf_74 rfl rfl ?_
              refine R_iload_n (pc := 75) 2 dX11_refusalOf_75 rfl rfl ?_
              refine R_callVh (pc := 76) (μ' := mX11_startFits) (As := [.int v]) (st := []) dX11_refusalOf_76 zX11_startFits lX11_228 ⟨by decide, by decide⟩ rfl rfl ⟨by decide, by decide⟩ S.2.2.2.2.2.2.2.2.2.2 (by omega) rfl (Nat.le_of_ble_eq_true rfl) (qX11_startFits S hn hτ _ k hk) (fun h_52 r_ q_53 => ?_)
              obtain ⟨rfl, S_54, F_56⟩ := q_53
              have S_55 : Sys h_52 ρ β κ τ := S_54
              refine R_if_eq (pc := 79) (tgt := 91) dX11_refusalOf_79 (by decide) (fun c_57 => ?_) (fun c_57 => ?_)
              · skip
                refine R_bipush (pc := 91) (v := (-2)) dX11_refusalOf_91 (by decide) ?_
                exact R_ireturn (pc := 93) dX11_refusalOf_93 rfl (by decide) (by decide) ⟨rfl, by unfold rfV rfT; rw [if_neg c_1, if_pos c_2, if_neg c_51, hkc, if_pos c_57], S_55, F_56⟩
              · skip
                refine R_aload_n (pc := 82) 1 dX11_refusalOf_82 rfl rfl ?_
                refine R_iload_n (pc := 83) 2 dX11_refusalOf_83 rfl rfl ?_
                refine R_iload_n (pc := 84) 3 dX11_refusalOf_84 rfl rfl ?_
                refine R_callVh (pc := 85) (μ' := mX11_dataFits) (As := [.int v, .int u]) (st := []) dX11_refusalOf_85 zX11_dataFits lX11_231 ⟨by decide, by decide⟩ rfl rfl ⟨by decide, by decide⟩ S_55.2.2.2.2.2.2.2.2.2.2 (by omega) rfl (Nat.le_of_ble_eq_true rfl) (qX11_dataFits S_55 hn hτ _ k hk _) (fun h_58 r_ q_59 => ?_)
                obtain ⟨rfl, S_60, F_62⟩ := q_59
                have S_61 : Sys h_58 ρ β κ τ := S_60
                refine R_if_ne (pc := 88) (tgt := 94) dX11_refusalOf_88 (by decide) (fun c_63 => ?_) (fun c_63 => ?_)
                · skip
                  refine R_iload_n (pc := 94) 2 dX11_refusalOf_94 rfl rfl ?_
                  refine R_bipush (pc := 95) (v := 13) dX11_refusalOf_95 (by decide) ?_
                  refine R_icmp_ne (pc := 97) (tgt := 114) dX11_refusalOf_97 (by decide) (fun c_64 => ?_) (fun c_64 => ?_)
                  · skip
                    refine R_iconst (pc := 114) (v := 0) dX11_refusalOf_114 (by decide) ?_
                    exact R_ireturn (pc := 115) dX11_refusalOf_115 rfl (by decide) (by decide) ⟨rfl, by unfold rfV rfT; rw [if_neg c_1, if_pos c_2, if_neg c_51, hkc, if_neg c_57, if_neg c_63, if_neg c_64], S_61, (F_56.tr F_62)⟩
                  · skip
                    refine R_aload_n (pc := 100) 1 dX11_refusalOf_100 rfl rfl ?_
                    refine R_get (pc := 101) dX11_refusalOf_101 fX11_36 S_61.2.2.2.2.2.2.2.2.2.2 (by omega) rfl ?_
                    refine R_iconst (pc := 104) (v := 1) dX11_refusalOf_104 (by decide) ?_
                    refine R_iand (pc := 105) dX11_refusalOf_105 ?_
                    refine R_if_eq (pc := 106) (tgt := 114) dX11_refusalOf_106 (by decide) (fun c_65 => ?_) (fun c_65 => ?_)
                    · skip
                      refine R_iconst (pc := 114) (v := 0) dX11_refusalOf_114 (by decide) ?_
                      exact R_ireturn (pc := 115) dX11_refusalOf_115 rfl (by decide) (by decide) ⟨rfl, by unfold rfV rfT; rw [if_neg c_1, if_pos c_2, if_neg c_51, hkc, if_neg c_57, if_neg c_63, if_pos c_64, if_pos c_65], S_61, (F_56.tr F_62)⟩
                    · skip
                      refine R_bipush (pc := 109) (v := (-2)) dX11_refusalOf_109 (by decide) ?_
                      refine R_goto (pc := 111) (tgt := 115) dX11_refusalOf_111 (by decide) ?_
                      exact R_ireturn (pc := 115) dX11_refusalOf_115 rfl (by decide) (by decide) ⟨rfl, by unfold rfV rfT; rw [if_neg c_1, if_pos c_2, if_neg c_51, hkc, if_neg c_57, if_neg c_63, if_pos c_64, if_neg c_65], S_61, (F_56.tr F_62)⟩
                · skip
                  refine R_bipush (pc := 91) (v := (-2)) dX11_refusalOf_91 (by decide) ?_
                  exact R_ireturn (pc := 93) dX11_refusalOf_93 rfl (by decide) (by decide) ⟨rfl, by unfold rfV rfT; rw [if_neg c_1, if_pos c_2, if_neg c_51, hkc, if_neg c_57, if_pos c_63], S_61, (F_56.tr F_62)⟩
            · skip
              refine R_bipush (pc := 71) (v := (-3)) dX11_refusalOf_71 (by decide) ?_
              exact R_ireturn (pc := 73) dX11_refusalOf_73 rfl (by decide) (by decide) ⟨rfl, by unfold rfV; rw [if_neg c_1, if_pos c_2, if_pos c_51], S, (Fr.rf _)⟩
    · skip
      refine R_bipush (pc := 11) (v := (-2)) dX11_refusalOf_11 (by decide) ?_
      exact R_ireturn (pc := 13) dX11_refusalOf_13 rfl (by decide) (by decide) ⟨rfl, by unfold rfV; rw [if_neg c_1, if_neg c_2], S, (Fr.rf _)⟩
