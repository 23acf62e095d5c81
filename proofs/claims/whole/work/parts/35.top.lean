def isT (v : Int32) : Int32 := if v = 12 then 1 else if v = 13 then 1 else if v = 14 then 1 else if v = 16 then 1 else 0
set_option maxHeartbeats 4000000 in
set_option maxRecDepth 100000 in
theorem qX11_isTagged (l : Launch) (w : am_W) (h : am_H) (n : Nat) (v : Int32) : RP l w mX11_isTagged h n [.int v] (.int (isT v)) := by
  refine RC.of [(0, .int v)] (by decide +kernel) rfl (Nat.le_of_ble_eq_true rfl) ?_
  refine R_iload_n (pc := 0) 0 dX11_isTagged_0 rfl rfl ?_
  refine R_bipush (pc := 1) (v := 12) dX11_isTagged_1 (by decide) ?_
  refine R_icmp_eq (pc := 3) (tgt := 24) dX11_isTagged_3 (by decide) (fun c_1 => ?_) (fun c_1 => ?_)
  · skip
    refine R_iconst (pc := 24) (v := 1) dX11_isTagged_24 (by decide) ?_
    refine R_goto (pc := 25) (tgt := 29) dX11_isTagged_25 (by decide) ?_
    exact R_zreturn (pc := 29) dX11_isTagged_29 rfl rfl (by decide) (by decide) ⟨rfl, rfl, by unfold isT; rw [if_pos c_1]⟩
  · skip
    refine R_iload_n (pc := 6) 0 dX11_isTagged_6 rfl rfl ?_
    refine R_bipush (pc := 7) (v := 13) dX11_isTagged_7 (by decide) ?_
    refine R_icmp_eq (pc := 9) (tgt := 24) dX11_isTagged_9 (by decide) (fun c_2 => ?_) (fun c_2 => ?_)
    · skip
      refine R_iconst (pc := 24) (v := 1) dX11_isTagged_24 (by decide) ?_
      refine R_goto (pc := 25) (tgt := 29) dX11_isTagged_25 (by decide) ?_
      exact R_zreturn (pc := 29) dX11_isTagged_29 rfl rfl (by decide) (by decide) ⟨rfl, rfl, by unfold isT; rw [if_neg c_1, if_pos c_2]⟩
    · skip
      refine R_iload_n (pc := 12) 0 dX11_isTagged_12 rfl rfl ?_
      refine R_bipush (pc := 13) (v := 14) dX11_isTagged_13 (by decide) ?_
      refine R_icmp_eq (pc := 15) (tgt := 24) dX11_isTagged_15 (by decide) (fun c_3 => ?_) (fun c_3 => ?_)
      · skip
        refine R_iconst (pc := 24) (v := 1) dX11_isTagged_24 (by decide) ?_
        refine R_goto (pc := 25) (tgt := 29) dX11_isTagged_25 (by decide) ?_
        exact R_zreturn (pc := 29) dX11_isTagged_29 rfl rfl (by decide) (by decide) ⟨rfl, rfl, by unfold isT; rw [if_neg c_1, if_neg c_2, if_pos c_3]⟩
      · skip
        refine R_iload_n (pc := 18) 0 dX11_isTagged_18 rfl rfl ?_
        refine R_bipush (pc := 19) (v := 16) dX11_isTagged_19 (by decide) ?_
        refine R_icmp_ne (pc := 21) (tgt := 28) dX11_isTagged_21 (by decide) (fun c_4 => ?_) (fun c_4 => ?_)
        · skip
          refine R_iconst (pc := 28) (v := 0) dX11_isTagged_28 (by decide) ?_
          exact R_zreturn (pc := 29) dX11_isTagged_29 rfl rfl (by decide) (by decide) ⟨rfl, rfl, by unfold isT; rw [if_neg c_1, if_neg c_2, if_neg c_3, if_neg c_4]⟩
        · skip
          refine R_iconst (pc := 24) (v := 1) dX11_isTagged_24 (by decide) ?_
          refine R_goto (pc := 25) (tgt := 29) dX11_isTagged_25 (by decide) ?_
          exact R_zreturn (pc := 29) dX11_isTagged_29 rfl rfl (by decide) (by decide) ⟨rfl, rfl, by unfold isT; rw [if_neg c_1, if_neg c_2, if_neg c_3, if_pos c_4]⟩
def w2K (v : Int32) : Int32 := if v = 9 then 1 else if v = 15 then 1 else 0
set_option maxHeartbeats 4000000 in
set_option maxRecDepth 100000 in
theorem qX11_wantsTwoKeys (l : Launch) (w : am_W) (h : am_H) (n : Nat) (v : Int32) : RP l w mX11_wantsTwoKeys h n [.int v] (.int (w2K v)) := by
  refine RC.of [(0, .int v)] (by decide +kernel) rfl (Nat.le_of_ble_eq_true rfl) ?_
  refine R_iload_n (pc := 0) 0 dX11_wantsTwoKeys_0 rfl rfl ?_
  refine R_bipush (pc := 1) (v := 9) dX11_wantsTwoKeys_1 (by decide) ?_
  refine R_icmp_eq (pc := 3) (tgt := 12) dX11_wantsTwoKeys_3 (by decide) (fun c_1 => ?_) (fun c_1 => ?_)
  · skip
    refine R_iconst (pc := 12) (v := 1) dX11_wantsTwoKeys_12 (by decide) ?_
    refine R_goto (pc := 13) (tgt := 17) dX11_wantsTwoKeys_13 (by decide) ?_
    exact R_zreturn (pc := 17) dX11_wantsTwoKeys_17 rfl rfl (by decide) (by decide) ⟨rfl, rfl, by unfold w2K; rw [if_pos c_1]⟩
  · skip
    refine R_iload_n (pc := 6) 0 dX11_wantsTwoKeys_6 rfl rfl ?_
    refine R_bipush (pc := 7) (v := 15) dX11_wantsTwoKeys_7 (by decide) ?_
    refine R_icmp_ne (pc := 9) (tgt := 16) dX11_wantsTwoKeys_9 (by decide) (fun c_2 => ?_) (fun c_2 => ?_)
    · skip
      refine R_iconst (pc := 16) (v := 0) dX11_wantsTwoKeys_16 (by decide) ?_
      exact R_zreturn (pc := 17) dX11_wantsTwoKeys_17 rfl rfl (by decide) (by decide) ⟨rfl, rfl, by unfold w2K; rw [if_neg c_1, if_neg c_2]⟩
    · skip
      refine R_iconst (pc := 12) (v := 1) dX11_wantsTwoKeys_12 (by decide) ?_
      refine R_goto (pc := 13) (tgt := 17) dX11_wantsTwoKeys_13 (by decide) ?_
      exact R_zreturn (pc := 17) dX11_wantsTwoKeys_17 rfl rfl (by decide) (by decide) ⟨rfl, rfl, by unfold w2K; rw [if_neg c_1, if_pos c_2]⟩
def isK (v : Int32) : Int32 := if v = 16 then 1 else if v = 24 then 1 else if v = 32 then 1 else 0
set_option maxHeartbeats 4000000 in
set_option maxRecDepth 100000 in
theorem qX11_isKeySize (l : Launch) (w : am_W) (h : am_H) (n : Nat) (v : Int32) : RP l w mX11_isKeySize h n [.int v] (.int (isK v)) := by
  refine RC.of [(0, .int v)] (by decide +kernel) rfl (Nat.le_of_ble_eq_true rfl) ?_
  refine R_iload_n (pc := 0) 0 dX11_isKeySize_0 rfl rfl ?_
  refine R_bipush (pc := 1) (v := 16) dX11_isKeySize_1 (by decide) ?_
  refine R_icmp_eq (pc := 3) (tgt := 18) dX11_isKeySize_3 (by decide) (fun c_1 => ?_) (fun c_1 => ?_)
  · skip
    refine R_iconst (pc := 18) (v := 1) dX11_isKeySize_18 (by decide) ?_
    refine R_goto (pc := 19) (tgt := 23) dX11_isKeySize_19 (by decide) ?_
    exact R_zreturn (pc := 23) dX11_isKeySize_23 rfl rfl (by decide) (by decide) ⟨rfl, rfl, by unfold isK; rw [if_pos c_1]⟩
  · skip
    refine R_iload_n (pc := 6) 0 dX11_isKeySize_6 rfl rfl ?_
    refine R_bipush (pc := 7) (v := 24) dX11_isKeySize_7 (by decide) ?_
    refine R_icmp_eq (pc := 9) (tgt := 18) dX11_isKeySize_9 (by decide) (fun c_2 => ?_) (fun c_2 => ?_)
    · skip
      refine R_iconst (pc := 18) (v := 1) dX11_isKeySize_18 (by decide) ?_
      refine R_goto (pc := 19) (tgt := 23) dX11_isKeySize_19 (by decide) ?_
      exact R_zreturn (pc := 23) dX11_isKeySize_23 rfl rfl (by decide) (by decide) ⟨rfl, rfl, by unfold isK; rw [if_neg c_1, if_pos c_2]⟩
    · skip
      refine R_iload_n (pc := 12) 0 dX11_isKeySize_12 rfl rfl ?_
      refine R_bipush (pc := 13) (v := 32) dX11_isKeySize_13 (by decide) ?_
      refine R_icmp_ne (pc := 15) (tgt := 22) dX11_isKeySize_15 (by decide) (fun c_3 => ?_) (fun c_3 => ?_)
      · skip
        refine R_iconst (pc := 22) (v := 0) dX11_isKeySize_22 (by decide) ?_
        exact R_zreturn (pc := 23) dX11_isKeySize_23 rfl rfl (by decide) (by decide) ⟨rfl, rfl, by unfold isK; rw [if_neg c_1, if_neg c_2, if_neg c_3]⟩
      · skip
        refine R_iconst (pc := 18) (v := 1) dX11_isKeySize_18 (by decide) ?_
        refine R_goto (pc := 19) (tgt := 23) dX11_isKeySize_19 (by decide) ?_
        exact R_zreturn (pc := 23) dX11_isKeySize_23 rfl rfl (by decide) (by decide) ⟨rfl, rfl, by unfold isK; rw [if_neg c_1, if_neg c_2, if_pos c_3]⟩
theorem Sys.setT {h h' : am_H} {ρ : Nat → List (BitVec 8)} {β : Nat → bP} {κ : Nat → kT} {τ τ' : Nat × Nat × Nat} (S : Sys h ρ β κ τ) (h1 : h' 1 = o1 τ') (hF : ∀ x, x ≠ 1 → h' x = h x) : Sys h' ρ β κ τ' := by
  obtain ⟨s1, s2, s3, s4⟩ := S
  obtain ⟨a1, a2, a3, a4, a5, a6, a7, a8⟩ := s4
  refine ⟨fun r hr => ?_, fun b hb => ?_, fun c hc => ?_, (hF 26 (by decide)).trans a1, (hF 30 (by decide)).trans a2, (hF 34 (by decide)).trans a3, (hF 39 (by decide)).trans a4, (hF 41 (by decide)).trans a5, (hF 47 (by decide)).trans a6, (hF 51 (by decide)).trans a7, h1⟩
  · have := rw_cases hr
    exact (s1 r hr).move (hF r (by omega)) (hF (r + 1) (by omega))
  · have := bk_cases hb
    exact (hF b (by omega)).trans (s2 b hb)
  · exact (s3 c hc).move (hF c (by omega)) (hF _ (by omega)) (hF _ (by omega)) (hF _ (by omega))
/-- result and spare are the two rows of OUT, the tag's size is within 4 .. 16 -/
def tOk (τ : Nat × Nat × Nat) : Prop := ((τ.1 = 12 ∧ τ.2.1 = 14) ∨ (τ.1 = 14 ∧ τ.2.1 = 12)) ∧ 4 ≤ τ.2.2 ∧ τ.2.2 ≤ 16
theorem tOk.r1 {τ : Nat × Nat × Nat} (h : tOk τ) : isRw τ.1 = true := by rcases h.1 with ⟨a, -⟩ | ⟨a, -⟩ <;> rw [a] <;> rfl
theorem tOk.r2 {τ : Nat × Nat × Nat} (h : tOk τ) : isRw τ.2.1 = true := by rcases h.1 with ⟨-, a⟩ | ⟨-, a⟩ <;> rw [a] <;> rfl
theorem ne_toInt {x c : Int32} (h : ¬ x = c) : x.toInt ≠ c.toInt := fun q => h (Int32.toInt_inj.mp q)
/-- the row that a number names -/
def rowN (v : Int32) (r : Nat) : Prop := (v = 0 ∧ r = 2) ∨ (v = 1 ∧ r = 4) ∨ (v = 2 ∧ r = 6) ∨ (v = 3 ∧ r = 8)
theorem rowN.rw {v : Int32} {r : Nat} (h : rowN v r) : isRw r = true := by rcases h with ⟨-, rfl⟩ | ⟨-, rfl⟩ | ⟨-, rfl⟩ | ⟨-, rfl⟩ <;> rfl
theorem rowN.lt {v : Int32} {r : Nat} (h : rowN v r) : r ≤ 8 := by rcases h with ⟨-, rfl⟩ | ⟨-, rfl⟩ | ⟨-, rfl⟩ | ⟨-, rfl⟩ <;> omega
def noRow (v : Int32) : Prop := ¬ v = 0 ∧ ¬ v = 1 ∧ ¬ v = 2 ∧ ¬ v = 3
theorem row_or (v : Int32) : noRow v ∨ ∃ r, rowN v r := by
  by_cases h0 : v = 0
  · exact Or.inr ⟨2, Or.inl ⟨h0, rfl⟩⟩
  · by_cases h1 : v = 1
    · exact Or.inr ⟨4, Or.inr (Or.inl ⟨h1, rfl⟩)⟩
    · by_cases h2 : v = 2
      · exact Or.inr ⟨6, Or.inr (Or.inr (Or.inl ⟨h2, rfl⟩))⟩
      · by_cases h3 : v = 3
        · exact Or.inr ⟨8, Or.inr (Or.inr (Or.inr ⟨h3, rfl⟩))⟩
        · exact Or.inl ⟨h0, h1, h2, h3⟩
set_option maxHeartbeats 4000000 in
set_option maxRecDepth 100000 in
theorem qX11_rowOf {l : Launch} {w : am_W} {h : am_H} {n : Nat} {ρ : Nat → List (BitVec 8)} {β : Nat → bP} {κ : Nat → kT} {τ : Nat × Nat × Nat} (S : Sys h ρ β κ τ) (hn : 60 ≤ n) (v : Int32) (r : Nat) (hv : rowN v r) : RH l w mX11_rowOf h n [.ref 1, .int v] (SQ h τ (some (.ref r)) ρ β κ) := by
  refine RC.of [(0, .ref 1), (1, .int v)] (by decide +kernel) rfl (Nat.le_of_ble_eq_true rfl) ?_
  rcases hv with ⟨rfl, rfl⟩ | ⟨rfl, rfl⟩ | ⟨rfl, rfl⟩ | ⟨rfl, rfl⟩
  · skip
    refine R_iload_n (pc := 0) 1 dX11_rowOf_0 rfl rfl ?_
    refine R_tableIn (pc := 1) (tgt := 32) dX11_rowOf_1 (by decide) (by decide) rfl (by decide) ?_
    refine R_aload_n (pc := 32) 0 dX11_rowOf_32 rfl rfl ?_
    refine R_get (pc := 33) dX11_rowOf_33 fX11_14 S.2.2.2.2.2.2.2.2.2.2 (by omega) rfl ?_
    exact R_areturn (pc := 36) dX11_rowOf_36 rfl (by decide) (by decide) ⟨rfl, rfl, S, Fr.rf h⟩
  · skip
    refine R_iload_n (pc := 0) 1 dX11_rowOf_0 rfl rfl ?_
    refine R_tableIn (pc := 1) (tgt := 37) dX11_rowOf_1 (by decide) (by decide) rfl (by decide) ?_
    refine R_aload_n (pc := 37) 0 dX11_rowOf_37 rfl rfl ?_
    refine R_get (pc := 38) dX11_rowOf_38 fX11_18 S.2.2.2.2.2.2.2.2.2.2 (by omega) rfl ?_
    exact R_areturn (pc := 41) dX11_rowOf_41 rfl (by decide) (by decide) ⟨rfl, rfl, S, Fr.rf h⟩
  · skip
    refine R_iload_n (pc := 0) 1 dX11_rowOf_0 rfl rfl ?_
    refine R_tableIn (pc := 1) (tgt := 42) dX11_rowOf_1 (by decide) (by decide) rfl (by decide) ?_
    refine R_aload_n (pc := 42) 0 dX11_rowOf_42 rfl rfl ?_
    refine R_get (pc := 43) dX11_rowOf_43 fX11_21 S.2.2.2.2.2.2.2.2.2.2 (by omega) rfl ?_
    exact R_areturn (pc := 46) dX11_rowOf_46 rfl (by decide) (by decide) ⟨rfl, rfl, S, Fr.rf h⟩
  · skip
    refine R_iload_n (pc := 0) 1 dX11_rowOf_0 rfl rfl ?_
    refine R_tableIn (pc := 1) (tgt := 47) dX11_rowOf_1 (by decide) (by decide) rfl (by decide) ?_
    refine R_aload_n (pc := 47) 0 dX11_rowOf_47 rfl rfl ?_
    refine R_get (pc := 48) dX11_rowOf_48 fX11_24 S.2.2.2.2.2.2.2.2.2.2 (by omega) rfl ?_
    exact R_areturn (pc := 51) dX11_rowOf_51 rfl (by decide) (by decide) ⟨rfl, rfl, S, Fr.rf h⟩
set_option maxHeartbeats 4000000 in
set_option maxRecDepth 100000 in
theorem qX11_rowOf_N {l : Launch} {w : am_W} {h : am_H} {n : Nat} {ρ : Nat → List (BitVec 8)} {β : Nat → bP} {κ : Nat → kT} {τ : Nat × Nat × Nat} (S : Sys h ρ β κ τ) (hn : 60 ≤ n) (v : Int32) (hv : noRow v) : RH l w mX11_rowOf h n [.ref 1, .int v] (SQ h τ (some .null) ρ β κ) := by
  refine RC.of [(0, .ref 1), (1, .int v)] (by decide +kernel) rfl (Nat.le_of_ble_eq_true rfl) ?_
  obtain ⟨h0, h1, h2, h3⟩ := hv
  have e0 := ne_toInt h0
  have e1 := ne_toInt h1
  have e2 := ne_toInt h2
  have e3 := ne_toInt h3
  rw [show (0 : Int32).toInt = 0 from rfl] at e0
  rw [show (1 : Int32).toInt = 1 from rfl] at e1
  rw [show (2 : Int32).toInt = 2 from rfl] at e2
  rw [show (3 : Int32).toInt = 3 from rfl] at e3
  refine R_iload_n (pc := 0) 1 dX11_rowOf_0 rfl rfl ?_
  refine R_tableOut (pc := 1) (tgt := 52) dX11_rowOf_1 (by omega) (by decide) ?_
  refine R_null (pc := 52) dX11_rowOf_52 ?_
  exact R_areturnN (pc := 53) dX11_rowOf_53 rfl (by decide) (by decide) ⟨rfl, rfl, S, Fr.rf h⟩
def hasI (L : List (BitVec 8)) (i : Int32) : Int32 := if i < 0 then 0 else if nI L.length ≤ i then 0 else 1
def rmI (N : Nat) (L : List (BitVec 8)) (i : Int32) : Int32 := if nI (N - L.length) < i then 0 else 1
set_option maxHeartbeats 4000000 in
set_option maxRecDepth 100000 in
theorem qX11_octet_N {l : Launch} {w : am_W} {h : am_H} {n : Nat} {ρ : Nat → List (BitVec 8)} {β : Nat → bP} {κ : Nat → kT} {τ : Nat × Nat × Nat} (S : Sys h ρ β κ τ) (hn : 60 ≤ n) (hτ : tOk τ) (v : Int32) (hv : noRow v) (i : Int32) : RH l w mX11_octet h n [.ref 1, .int v, .int i] (SQ h τ (some (.int (-2))) ρ β κ) := by
  refine RC.of [(0, .ref 1), (1, .int v), (2, .int i)] (by decide +kernel) rfl (Nat.le_of_ble_eq_true rfl) ?_
  refine R_aload_n (pc := 0) 0 dX11_octet_0 rfl rfl ?_
  refine R_iload_n (pc := 1) 1 dX11_octet_1 rfl rfl ?_
  refine R_callVh (pc := 2) (μ' := mX11_rowOf) (As := [.int v]) (st := []) dX11_octet_2 zX11_rowOf lX11_119 ⟨by decide, by decide⟩ rfl rfl ⟨by decide, by decide⟩ S.2.2.2.2.2.2.2.2.2.2 (by omega) rfl (Nat.le_of_ble_eq_true rfl) (qX11_rowOf_N S hn _ hv) (fun h_1 r_ q_2 => ?_)
  obtain ⟨rfl, S_3, F_5⟩ := q_2
  have S_4 : Sys h_1 ρ β κ τ := S_3
  refine R_astore_nN (pc := 5) (lv' := [(3, .null), (0, .ref 1), (1, .int v), (2, .int i)]) dX11_octet_5 rfl (by decide) rfl ?_
  refine R_aload_nN (pc := 6) 0 dX11_octet_6 rfl rfl ?_
  refine R_ifnullN (pc := 7) (tgt := 18) dX11_octet_7 (by decide) ?_
  refine R_bipush (pc := 18) (v := (-2)) dX11_octet_18 (by decide) ?_
  refine R_goto (pc := 20) (tgt := 28) dX11_octet_20 (by decide) ?_
  exact R_ireturn (pc := 28) dX11_octet_28 rfl (by decide) (by decide) ⟨rfl, rfl, S_4, F_5⟩
set_option maxHeartbeats 4000000 in
set_option maxRecDepth 100000 in
theorem qX11_octet {l : Launch} {w : am_W} {h : am_H} {n : Nat} {ρ : Nat → List (BitVec 8)} {β : Nat → bP} {κ : Nat → kT} {τ : Nat × Nat × Nat} (S : Sys h ρ β κ τ) (hn : 60 ≤ n) (hτ : tOk τ) (v : Int32) (r : Nat) (hv : rowN v r) (i : Int32) : RH l w mX11_octet h n [.ref 1, .int v, .int i] (SQ h τ (some (.int (if hasI (ρ r) i = 0 then -2 else atI (ρ r) i))) ρ β κ) := by
  refine RC.of [(0, .ref 1), (1, .int v), (2, .int i)] (by decide +kernel) rfl (Nat.le_of_ble_eq_true rfl) ?_
  have hr := hv.rw
  have hlt := S.len r hr
  have hrc := rw_cases hr
  refine R_aload_n (pc := 0) 0 dX11_octet_0 rfl rfl ?_
  refine R_iload_n (pc := 1) 1 dX11_octet_1 rfl rfl ?_
  refine R_callVh (pc := 2) (μ' := mX11_rowOf) (As := [.int v]) (st := []) dX11_octet_2 zX11_rowOf lX11_119 ⟨by decide, by decide⟩ rfl rfl ⟨by decide, by decide⟩ S.2.2.2.2.2.2.2.2.2.2 (by omega) rfl (Nat.le_of_ble_eq_true rfl) (qX11_rowOf S hn _ r hv) (fun h_1 r_ q_2 => ?_)
  obtain ⟨rfl, S_3, F_5⟩ := q_2
  have S_4 : Sys h_1 ρ β κ τ := S_3
  refine R_astore_n (pc := 5) (lv' := [(3, .ref r), (0, .ref 1), (1, .int v), (2, .int i)]) dX11_octet_5 rfl (by decide) rfl ?_
  refine R_aload_n (pc := 6) 0 dX11_octet_6 rfl rfl ?_
  refine R_ifnull (pc := 7) dX11_octet_7 ?_
  refine R_aload_n (pc := 10) 0 dX11_octet_10 rfl rfl ?_
  refine R_iload_n (pc := 11) 3 dX11_octet_11 rfl rfl ?_
  refine R_callVp (pc := 12) (μ' := mX6_has) (As := [.int i]) (st := []) dX11_octet_12 zX6_has lX11_138 ⟨by decide, by decide⟩ rfl rfl ⟨by decide, by decide⟩ (S_4.rowO r hr) (by omega) rfl (Nat.le_of_ble_eq_true rfl) (S_has S_4 hn hr _) ?_
  refine R_eqi (y := hasI (ρ r) i) (by first | rfl | (simp only [ur_s, ur_ur])) ?_
  refine R_if_ne (pc := 15) (tgt := 23) dX11_octet_15 (by decide) (fun c_6 => ?_) (fun c_6 => ?_)
  · skip
    refine R_aload_n (pc := 23) 0 dX11_octet_23 rfl rfl ?_
    refine R_iload_n (pc := 24) 3 dX11_octet_24 rfl rfl ?_
    refine R_callVp (pc := 25) (μ' := mX6_at) (As := [.int i]) (st := []) dX11_octet_25 zX6_at lX11_141 ⟨by decide, by decide⟩ rfl rfl ⟨by decide, by decide⟩ (S_4.rowO r hr) (by omega) rfl (Nat.le_of_ble_eq_true rfl) (S_at S_4 hn hr _) ?_
    refine R_eqi (y := atI (ρ r) i) (by first | rfl | (simp only [ur_s, ur_ur])) ?_
    exact R_ireturn (pc := 28) dX11_octet_28 rfl (by decide) (by decide) ⟨rfl, by rw [if_neg c_6], S_4, F_5⟩
  · skip
    refine R_bipush (pc := 18) (v := (-2)) dX11_octet_18 (by decide) ?_
    refine R_goto (pc := 20) (tgt := 28) dX11_octet_20 (by decide) ?_
    exact R_ireturn (pc := 28) dX11_octet_28 rfl (by decide) (by decide) ⟨rfl, by rw [if_pos c_6], S_4, F_5⟩
set_option maxHeartbeats 4000000 in
set_option maxRecDepth 100000 in
theorem qX11_out {l : Launch} {w : am_W} {h : am_H} {n : Nat} {ρ : Nat → List (BitVec 8)} {β : Nat → bP} {κ : Nat → kT} {τ : Nat × Nat × Nat} (S : Sys h ρ β κ τ) (hn : 60 ≤ n) (hτ : tOk τ) (i : Int32) : RH l w mX11_out h n [.ref 1, .int i] (SQ h τ (some (.int (if hasI (ρ τ.1) i = 0 then -2 else atI (ρ τ.1) i))) ρ β κ) := by
  refine RC.of [(0, .ref 1), (1, .int i)] (by decide +kernel) rfl (Nat.le_of_ble_eq_true rfl) ?_
  have hr1 := rw_cases hτ.r1
  refine R_aload_n (pc := 0) 0 dX11_out_0 rfl rfl ?_
  refine R_get (pc := 1) dX11_out_1 fX11_30 S.2.2.2.2.2.2.2.2.2.2 (by omega) rfl ?_
  refine R_iload_n (pc := 4) 1 dX11_out_4 rfl rfl ?_
  refine R_callVp (pc := 5) (μ' := mX6_has) (As := [.int i]) (st := []) dX11_out_5 zX6_has lX11_138 ⟨by decide, by decide⟩ rfl rfl ⟨by decide, by decide⟩ (S.rowO τ.1 hτ.r1) (by omega) rfl (Nat.le_of_ble_eq_true rfl) (S_has S hn hτ.r1 _) ?_
  refine R_eqi (y := hasI (ρ τ.1) i) (by first | rfl | (simp only [ur_s, ur_ur])) ?_
  refine R_if_eq (pc := 8) (tgt := 22) dX11_out_8 (by decide) (fun c_1 => ?_) (fun c_1 => ?_)
  · skip
    refine R_bipush (pc := 22) (v := (-2)) dX11_out_22 (by decide) ?_
    exact R_ireturn (pc := 24) dX11_out_24 rfl (by decide) (by decide) ⟨rfl, by rw [if_pos c_1], S, (Fr.rf _)⟩
  · skip
    refine R_aload_n (pc := 11) 0 dX11_out_11 rfl rfl ?_
    refine R_get (pc := 12) dX11_out_12 fX11_30 S.2.2.2.2.2.2.2.2.2.2 (by omega) rfl ?_
    refine R_iload_n (pc := 15) 1 dX11_out_15 rfl rfl ?_
    refine R_callVp (pc := 16) (μ' := mX6_at) (As := [.int i]) (st := []) dX11_out_16 zX6_at lX11_141 ⟨by decide, by decide⟩ rfl rfl ⟨by decide, by decide⟩ (S.rowO τ.1 hτ.r1) (by omega) rfl (Nat.le_of_ble_eq_true rfl) (S_at S hn hτ.r1 _) ?_
    refine R_eqi (y := atI (ρ τ.1) i) (by first | rfl | (simp only [ur_s, ur_ur])) ?_
    refine R_goto (pc := 19) (tgt := 24) dX11_out_19 (by decide) ?_
    exact R_ireturn (pc := 24) dX11_out_24 rfl (by decide) (by decide) ⟨rfl, by rw [if_neg c_1], S, (Fr.rf _)⟩
set_option maxHeartbeats 4000000 in
set_option maxRecDepth 100000 in
theorem qX11_cut_N {l : Launch} {w : am_W} {h : am_H} {n : Nat} {ρ : Nat → List (BitVec 8)} {β : Nat → bP} {κ : Nat → kT} {τ : Nat × Nat × Nat} (S : Sys h ρ β κ τ) (hn : 60 ≤ n) (hτ : tOk τ) (v : Int32) (hv : noRow v) (i : Int32) : RH l w mX11_cut h n [.ref 1, .int v, .int i] (SQ h τ (some (.int (-2))) ρ β κ) := by
  refine RC.of [(0, .ref 1), (1, .int v), (2, .int i)] (by decide +kernel) rfl (Nat.le_of_ble_eq_true rfl) ?_
  refine R_aload_n (pc := 0) 0 dX11_cut_0 rfl rfl ?_
  refine R_iload_n (pc := 1) 1 dX11_cut_1 rfl rfl ?_
  refine R_callVh (pc := 2) (μ' := mX11_rowOf) (As := [.int v]) (st := []) dX11_cut_2 zX11_rowOf lX11_119 ⟨by decide, by decide⟩ rfl rfl ⟨by decide, by decide⟩ S.2.2.2.2.2.2.2.2.2.2 (by omega) rfl (Nat.le_of_ble_eq_true rfl) (qX11_rowOf_N S hn _ hv) (fun h_1 r_ q_2 => ?_)
  obtain ⟨rfl, S_3, F_5⟩ := q_2
  have S_4 : Sys h_1 ρ β κ τ := S_3
  refine R_astore_nN (pc := 5) (lv' := [(3, .null), (0, .ref 1), (1, .int v), (2, .int i)]) dX11_cut_5 rfl (by decide) rfl ?_
  refine R_aload_nN (pc := 6) 0 dX11_cut_6 rfl rfl ?_
  refine R_ifnullN (pc := 7) (tgt := 22) dX11_cut_7 (by decide) ?_
  refine R_bipush (pc := 22) (v := (-2)) dX11_cut_22 (by decide) ?_
  exact R_ireturn (pc := 24) dX11_cut_24 rfl (by decide) (by decide) ⟨rfl, rfl, S_4, F_5⟩
def cutL (L : List (BitVec 8)) (i : Int32) : List (BitVec 8) := if i < 0 then L else if i ≤ nI L.length then L.take i.toNatClampNeg else L
def cutV (L : List (BitVec 8)) (i : Int32) : Int32 := if i < 0 then -2 else if i ≤ nI L.length then nI L.length else -2
set_option maxHeartbeats 4000000 in
set_option maxRecDepth 100000 in
theorem qX11_cut {l : Launch} {w : am_W} {h : am_H} {n : Nat} {ρ : Nat → List (BitVec 8)} {β : Nat → bP} {κ : Nat → kT} {τ : Nat × Nat × Nat} (S : Sys h ρ β κ τ) (hn : 60 ≤ n) (hτ : tOk τ) (v : Int32) (r : Nat) (hv : rowN v r) (i : Int32) : RH l w mX11_cut h n [.ref 1, .int v, .int i] (SQ h τ (some (.int (cutV (ρ r) i))) (ur ρ r (cutL (ρ r) i)) β κ) := by
  refine RC.of [(0, .ref 1), (1, .int v), (2, .int i)] (by decide +kernel) rfl (Nat.le_of_ble_eq_true rfl) ?_
  have hr := hv.rw
  have hlt := S.len r hr
  have hrc := rw_cases hr
  refine R_aload_n (pc := 0) 0 dX11_cut_0 rfl rfl ?_
  refine R_iload_n (pc := 1) 1 dX11_cut_1 rfl rfl ?_
  refine R_callVh (pc := 2) (μ' := mX11_rowOf) (As := [.int v]) (st := []) dX11_cut_2 zX11_rowOf lX11_119 ⟨by decide, by decide⟩ rfl rfl ⟨by decide, by decide⟩ S.2.2.2.2.2.2.2.2.2.2 (by omega) rfl (Nat.le_of_ble_eq_true rfl) (qX11_rowOf S hn _ r hv) (fun h_1 r_ q_2 => ?_)
  obtain ⟨rfl, S_3, F_5⟩ := q_2
  have S_4 : Sys h_1 ρ β κ τ := S_3
  refine R_astore_n (pc := 5) (lv' := [(3, .ref r), (0, .ref 1), (1, .int v), (2, .int i)]) dX11_cut_5 rfl (by decide) rfl ?_
  refine R_aload_n (pc := 6) 0 dX11_cut_6 rfl rfl ?_
  refine R_ifnull (pc := 7) dX11_cut_7 ?_
  refine R_iload_n (pc := 10) 3 dX11_cut_10 rfl rfl ?_
  refine R_if_lt (pc := 11) (tgt := 22) dX11_cut_11 (by decide) (fun c_6 => ?_) (fun c_6 => ?_)
  · skip
    refine R_bipush (pc := 22) (v := (-2)) dX11_cut_22 (by decide) ?_
    rw [show cutL (ρ r) i = ρ r from by unfold cutL; rw [if_pos c_6], ur_id]
    exact R_ireturn (pc := 24) dX11_cut_24 rfl (by decide) (by decide) ⟨rfl, by unfold cutV; rw [if_pos c_6], S_4, F_5⟩
  · skip
    refine R_iload_n (pc := 14) 3 dX11_cut_14 rfl rfl ?_
    refine R_aload_n (pc := 15) 0 dX11_cut_15 rfl rfl ?_
    have := rw_cases (r := r) hr
    refine R_get (pc := 16) dX11_cut_16 fX11_133 (S_4.rowO r hr) (by omega) rfl ?_
    refine R_eqi (y := nI (ρ r).length) (by first | rfl | (simp only [ur_s, ur_ur])) ?_
    refine R_icmp_le (pc := 19) (tgt := 25) dX11_cut_19 (by decide) (fun c_7 => ?_) (fun c_7 => ?_)
    · skip
      obtain ⟨j, hj, rfl⟩ := nI_of c_6
      refine R_aload_n (pc := 25) 0 dX11_cut_25 rfl rfl ?_
      have := rw_cases (r := r) hr
      refine R_get (pc := 26) dX11_cut_26 fX11_133 (S_4.rowO r hr) (by omega) rfl ?_
      refine R_eqi (y := nI (ρ r).length) (by first | rfl | (simp only [ur_s, ur_ur])) ?_
      refine R_istore (pc := 29) (lv' := [(4, .int (nI (ρ r).length)), (3, .ref r), (0, .ref 1), (1, .int v), (2, .int (nI j))]) dX11_cut_29 (by decide) rfl ?_
      refine R_aload_n (pc := 31) 1 dX11_cut_31 rfl rfl ?_
      refine R_iload_n (pc := 32) 4 dX11_cut_32 rfl rfl ?_
      refine R_callVh (pc := 33) (μ' := mX6_keep) (As := [.int (nI j)]) (st := []) dX11_cut_33 zX6_keep lX11_123 ⟨by decide, by decide⟩ rfl rfl ⟨by decide, by decide⟩ (S_4.rowO r hr) (by omega) rfl (Nat.le_of_ble_eq_true rfl) (S_keep S_4 hn hr j (by omega)) (fun h_8 r_ q_9 => ?_)
      obtain ⟨rfl, S_10, F_12⟩ := q_9
      have S_11 : Sys h_8 (ur ρ r ((ρ r).take j)) β κ τ := by have z_ := S_10; (try simp only [ur_s, ur_ur] at z_); exact z_
      refine R_iload (pc := 36) 0 dX11_cut_36 rfl ?_
      have eL_ : cutL (ρ r) (nI j) = (ρ r).take j := by unfold cutL; rw [if_neg c_6, if_pos c_7, nI_clamp hj]
      rw [eL_]
      exact R_ireturn (pc := 38) dX11_cut_38 rfl (by decide) (by decide) ⟨rfl, by unfold cutV; rw [if_neg c_6, if_pos c_7], S_11, (F_5.tr F_12)⟩
    · skip
      refine R_bipush (pc := 22) (v := (-2)) dX11_cut_22 (by decide) ?_
      rw [show cutL (ρ r) i = ρ r from by unfold cutL; rw [if_neg c_6, if_neg c_7], ur_id]
      exact R_ireturn (pc := 24) dX11_cut_24 rfl (by decide) (by decide) ⟨rfl, by unfold cutV; rw [if_neg c_6, if_neg c_7], S_4, F_5⟩
set_option maxHeartbeats 4000000 in
set_option maxRecDepth 100000 in
theorem qX11_alter_N {l : Launch} {w : am_W} {h : am_H} {n : Nat} {ρ : Nat → List (BitVec 8)} {β : Nat → bP} {κ : Nat → kT} {τ : Nat × Nat × Nat} (S : Sys h ρ β κ τ) (hn : 60 ≤ n) (hτ : tOk τ) (v : Int32) (hv : noRow v) (i x : Int32) : RH l w mX11_alter h n [.ref 1, .int v, .int i, .int x] (SQ h τ (some (.int (-2))) ρ β κ) := by
  refine RC.of [(0, .ref 1), (1, .int v), (2, .int i), (3, .int x)] (by decide +kernel) rfl (Nat.le_of_ble_eq_true rfl) ?_
  refine R_aload_n (pc := 0) 0 dX11_alter_0 rfl rfl ?_
  refine R_iload_n (pc := 1) 1 dX11_alter_1 rfl rfl ?_
  refine R_callVh (pc := 2) (μ' := mX11_rowOf) (As := [.int v]) (st := []) dX11_alter_2 zX11_rowOf lX11_119 ⟨by decide, by decide⟩ rfl rfl ⟨by decide, by decide⟩ S.2.2.2.2.2.2.2.2.2.2 (by omega) rfl (Nat.le_of_ble_eq_true rfl) (qX11_rowOf_N S hn _ hv) (fun h_1 r_ q_2 => ?_)
  obtain ⟨rfl, S_3, F_5⟩ := q_2
  have S_4 : Sys h_1 ρ β κ τ := S_3
  refine R_astoreN (pc := 5) (lv' := [(4, .null), (0, .ref 1), (1, .int v), (2, .int i), (3, .int x)]) dX11_alter_5 (by decide) rfl ?_
  refine R_aloadN (pc := 7) 0 dX11_alter_7 rfl ?_
  refine R_ifnullN (pc := 9) (tgt := 32) dX11_alter_9 (by decide) ?_
  refine R_bipush (pc := 32) (v := (-2)) dX11_alter_32 (by decide) ?_
  exact R_ireturn (pc := 34) dX11_alter_34 rfl (by decide) (by decide) ⟨rfl, rfl, S_4, F_5⟩
def altL (L : List (BitVec 8)) (i x : Int32) : List (BitVec 8) := if hasI L i = 0 then L else if x < 0 then L else if x ≤ 255 then rput L i (t8 x) else L
def altV (L : List (BitVec 8)) (i x : Int32) : Int32 := if hasI L i = 0 then -2 else if x < 0 then -2 else if x ≤ 255 then atI L i else -2
set_option maxHeartbeats 4000000 in
set_option maxRecDepth 100000 in
theorem qX11_alter {l : Launch} {w : am_W} {h : am_H} {n : Nat} {ρ : Nat → List (BitVec 8)} {β : Nat → bP} {κ : Nat → kT} {τ : Nat × Nat × Nat} (S : Sys h ρ β κ τ) (hn : 60 ≤ n) (hτ : tOk τ) (v : Int32) (r : Nat) (hv : rowN v r) (i x : Int32) : RH l w mX11_alter h n [.ref 1, .int v, .int i, .int x] (SQ h τ (some (.int (altV (ρ r) i x))) (ur ρ r (altL (ρ r) i x)) β κ) := by
  refine RC.of [(0, .ref 1), (1, .int v), (2, .int i), (3, .int x)] (by decide +kernel) rfl (Nat.le_of_ble_eq_true rfl) ?_
  have hr := hv.rw
  have hlt := S.len r hr
  have hrc := rw_cases hr
  refine R_aload_n (pc := 0) 0 dX11_alter_0 rfl rfl ?_
  refine R_iload_n (pc := 1) 1 dX11_alter_1 rfl rfl ?_
  refine R_callVh (pc := 2) (μ' := mX11_rowOf) (As := [.int v]) (st := []) dX11_alter_2 zX11_rowOf lX11_119 ⟨by decide, by decide⟩ rfl rfl ⟨by decide, by decide⟩ S.2.2.2.2.2.2.2.2.2.2 (by omega) rfl (Nat.le_of_ble_eq_true rfl) (qX11_rowOf S hn _ r hv) (fun h_1 r_ q_2 => ?_)
  obtain ⟨rfl, S_3, F_5⟩ := q_2
  have S_4 : Sys h_1 ρ β κ τ := S_3
  refine R_astore (pc := 5) (lv' := [(4, .ref r), (0, .ref 1), (1, .int v), (2, .int i), (3, .int x)]) dX11_alter_5 (by decide) rfl ?_
  refine R_aload (pc := 7) 0 dX11_alter_7 rfl ?_
  refine R_ifnull (pc := 9) dX11_alter_9 ?_
  refine R_aload (pc := 12) 0 dX11_alter_12 rfl ?_
  refine R_iload_n (pc := 14) 3 dX11_alter_14 rfl rfl ?_
  refine R_callVp (pc := 15) (μ' := mX6_has) (As := [.int i]) (st := []) dX11_alter_15 zX6_has lX11_138 ⟨by decide, by decide⟩ rfl rfl ⟨by decide, by decide⟩ (S_4.rowO r hr) (by omega) rfl (Nat.le_of_ble_eq_true rfl) (S_has S_4 hn hr _) ?_
  refine R_eqi (y := hasI (ρ r) i) (by first | rfl | (simp only [ur_s, ur_ur])) ?_
  refine R_if_eq (pc := 18) (tgt := 32) dX11_alter_18 (by decide) (fun c_6 => ?_) (fun c_6 => ?_)
  · skip
    refine R_bipush (pc := 32) (v := (-2)) dX11_alter_32 (by decide) ?_
    rw [show altL (ρ r) i x = ρ r from by unfold altL; rw [if_pos c_6], ur_id]
    exact R_ireturn (pc := 34) dX11_alter_34 rfl (by decide) (by decide) ⟨rfl, by unfold altV; rw [if_pos c_6], S_4, F_5⟩
  · skip
    refine R_iload_n (pc := 21) 4 dX11_alter_21 rfl rfl ?_
    refine R_if_lt (pc := 22) (tgt := 32) dX11_alter_22 (by decide) (fun c_7 => ?_) (fun c_7 => ?_)
    · skip
      refine R_bipush (pc := 32) (v := (-2)) dX11_alter_32 (by decide) ?_
      rw [show altL (ρ r) i x = ρ r from by unfold altL; rw [if_neg c_6, if_pos c_7], ur_id]
      exact R_ireturn (pc := 34) dX11_alter_34 rfl (by decide) (by decide) ⟨rfl, by unfold altV; rw [if_neg c_6, if_pos c_7], S_4, F_5⟩
    · skip
      refine R_iload_n (pc := 25) 4 dX11_alter_25 rfl rfl ?_
      refine R_sipush (pc := 26) (v := 255) dX11_alter_26 (by decide) ?_
      refine R_icmp_le (pc := 29) (tgt := 35) dX11_alter_29 (by decide) (fun c_8 => ?_) (fun c_8 => ?_)
      · skip
        refine R_aload (pc := 35) 0 dX11_alter_35 rfl ?_
        refine R_iload_n (pc := 37) 3 dX11_alter_37 rfl rfl ?_
        refine R_callVp (pc := 38) (μ' := mX6_at) (As := [.int i]) (st := []) dX11_alter_38 zX6_at lX11_141 ⟨by decide, by decide⟩ rfl rfl ⟨by decide, by decide⟩ (S_4.rowO r hr) (by omega) rfl (Nat.le_of_ble_eq_true rfl) (S_at S_4 hn hr _) ?_
        refine R_eqi (y := atI (ρ r) i) (by first | rfl | (simp only [ur_s, ur_ur])) ?_
        refine R_istore (pc := 41) (lv' := [(5, .int (atI (ρ r) i)), (4, .ref r), (0, .ref 1), (1, .int v), (2, .int i), (3, .int x)]) dX11_alter_41 (by decide) rfl ?_
        refine R_aload (pc := 43) 1 dX11_alter_43 rfl ?_
        refine R_iload_n (pc := 45) 4 dX11_alter_45 rfl rfl ?_
        refine R_iload_n (pc := 46) 5 dX11_alter_46 rfl rfl ?_
        refine R_callVh (pc := 47) (μ' := mX6_put) (As := [.int i, .int x]) (st := []) dX11_alter_47 zX6_put lX11_145 ⟨by decide, by decide⟩ rfl rfl ⟨by decide, by decide⟩ (S_4.rowO r hr) (by omega) rfl (Nat.le_of_ble_eq_true rfl) (S_put S_4 hn hr _ _) (fun h_9 r_ q_10 => ?_)
        obtain ⟨rfl, S_11, F_13⟩ := q_10
        have S_12 : Sys h_9 (ur ρ r (rput (ρ r) i (t8 x))) β κ τ := by have z_ := S_11; (try simp only [ur_s, ur_ur] at z_); exact z_
        refine R_iload (pc := 50) 0 dX11_alter_50 rfl ?_
        rw [show altL (ρ r) i x = rput (ρ r) i (t8 x) from by unfold altL; rw [if_neg c_6, if_neg c_7, if_pos c_8]]
        exact R_ireturn (pc := 52) dX11_alter_52 rfl (by decide) (by decide) ⟨rfl, by unfold altV; rw [if_neg c_6, if_neg c_7, if_pos c_8], S_12, (F_5.tr F_13)⟩
      · skip
        refine R_bipush (pc := 32) (v := (-2)) dX11_alter_32 (by decide) ?_
        rw [show altL (ρ r) i x = ρ r from by unfold altL; rw [if_neg c_6, if_neg c_7, if_neg c_8], ur_id]
        exact R_ireturn (pc := 34) dX11_alter_34 rfl (by decide) (by decide) ⟨rfl, by unfold altV; rw [if_neg c_6, if_neg c_7, if_neg c_8], S_4, F_5⟩
def tgV (i : Int32) (m : Nat) : Int32 := if i < 4 then -2 else if i ≤ 16 then nI m else -2
def tgN (i : Int32) (m : Nat) : Nat := if i < 4 then m else if i ≤ 16 then i.toNatClampNeg else m
set_option maxHeartbeats 4000000 in
set_option maxRecDepth 100000 in
theorem qX11_tag {l : Launch} {w : am_W} {h : am_H} {n : Nat} {ρ : Nat → List (BitVec 8)} {β : Nat → bP} {κ : Nat → kT} {τ : Nat × Nat × Nat} (S : Sys h ρ β κ τ) (hn : 60 ≤ n) (hτ : tOk τ) (i : Int32) : RH l w mX11_tag h n [.ref 1, .int i] (fun h' q => ∃ τ', tOk τ' ∧ τ'.1 = τ.1 ∧ τ'.2.1 = τ.2.1 ∧ (q = some (.int (tgV i τ.2.2)) ∧ τ'.2.2 = tgN i τ.2.2) ∧ Sys h' ρ β κ τ' ∧ Fr h h') := by
  refine RC.of [(0, .ref 1), (1, .int i)] (by decide +kernel) rfl (Nat.le_of_ble_eq_true rfl) ?_
  refine R_iload_n (pc := 0) 1 dX11_tag_0 rfl rfl ?_
  refine R_iconst (pc := 1) (v := 4) dX11_tag_1 (by decide) ?_
  refine R_icmp_lt (pc := 2) (tgt := 11) dX11_tag_2 (by decide) (fun c_1 => ?_) (fun c_1 => ?_)
  · skip
    refine R_bipush (pc := 11) (v := (-2)) dX11_tag_11 (by decide) ?_
    exact R_ireturn (pc := 13) dX11_tag_13 rfl (by decide) (by decide) ⟨rfl, τ, hτ, rfl, rfl, ⟨by unfold tgV; rw [if_pos c_1], by unfold tgN; rw [if_pos c_1]⟩, S, (Fr.rf _)⟩
  · skip
    refine R_iload_n (pc := 5) 1 dX11_tag_5 rfl rfl ?_
    refine R_bipush (pc := 6) (v := 16) dX11_tag_6 (by decide) ?_
    refine R_icmp_le (pc := 8) (tgt := 14) dX11_tag_8 (by decide) (fun c_2 => ?_) (fun c_2 => ?_)
    · skip
      obtain ⟨j, hj, rfl⟩ := nI_of (x := i) (fun q_ => c_1 (Int32.lt_trans q_ (by decide)))
      have hj4 : 4 ≤ j := by rcases Nat.lt_or_ge j 4 with q | q; exact absurd (nI_lt (b := 4) q (by omega)) c_1; exact q
      have hj16 : j ≤ 16 := (nI_leI (b := 16) hj (by omega)).mp c_2
      refine R_aload_n (pc := 14) 0 dX11_tag_14 rfl rfl ?_
      refine R_get (pc := 15) dX11_tag_15 fX11_36 S.2.2.2.2.2.2.2.2.2.2 (by omega) rfl ?_
      refine R_istore_n (pc := 18) (lv' := [(2, .int (nI τ.2.2)), (0, .ref 1), (1, .int (nI j))]) dX11_tag_18 rfl (by decide) rfl ?_
      refine R_aload_n (pc := 19) 1 dX11_tag_19 rfl rfl ?_
      refine R_iload_n (pc := 20) 2 dX11_tag_20 rfl rfl ?_
      refine R_put' (pc := 21) (fs' := [.ref 2, .ref 4, .ref 6, .ref 8, .ref 10, .ref τ.1, .ref τ.2.1, .int (nI j), .ref 16, .ref 20, .ref 26, .ref 30, .ref 34, .ref 39, .ref 41, .ref 47, .ref 51, .ref 59, .ref 60]) dX11_tag_21 fX11_36 tX11_7 rfl rfl S.2.2.2.2.2.2.2.2.2.2 (by omega) (Nat.le_of_ble_eq_true rfl) rfl (fun h_3 f_4 g_5 => ?_)
      have S_6 : Sys h_3 ρ β κ (τ.1, τ.2.1, j) := S.setT (τ' := (τ.1, τ.2.1, j)) f_4 g_5
      have F_7 : Fr h h_3 := fun x_ n_ => g_5 x_ (by omega)
      refine R_iload_n (pc := 24) 0 dX11_tag_24 rfl rfl ?_
      exact R_ireturn (pc := 25) dX11_tag_25 rfl (by decide) (by decide) ⟨rfl, (τ.1, τ.2.1, j), ⟨hτ.1, hj4, hj16⟩, rfl, rfl, ⟨by unfold tgV; rw [if_neg c_1, if_pos c_2], by unfold tgN; rw [if_neg c_1, if_pos c_2]; exact (nI_clamp hj).symm⟩, S_6, F_7⟩
    · skip
      refine R_bipush (pc := 11) (v := (-2)) dX11_tag_11 (by decide) ?_
      exact R_ireturn (pc := 13) dX11_tag_13 rfl (by decide) (by decide) ⟨rfl, τ, hτ, rfl, rfl, ⟨by unfold tgV; rw [if_neg c_1, if_neg c_2], by unfold tgN; rw [if_neg c_1, if_neg c_2]⟩, S, (Fr.rf _)⟩
