set_option maxHeartbeats 4000000 in
set_option maxRecDepth 100000 in
theorem qX11_publish {l : Launch} {w : am_W} {h : am_H} {n : Nat} {ρ : Nat → List (BitVec 8)} {β : Nat → bP} {κ : Nat → kT} {τ : Nat × Nat × Nat} (S : Sys h ρ β κ τ) (hn : 60 ≤ n) (hτ : tOk τ) : RH l w mX11_publish h n [.ref 1] (fun h' q => q = some (.int (nI (ρ τ.2.1).length)) ∧ Sys h' ρ β κ (τ.2.1, τ.1, τ.2.2) ∧ Fr h h') := by
  refine RC.of [(0, .ref 1)] (by decide +kernel) rfl (Nat.le_of_ble_eq_true rfl) ?_
  refine R_aload_n (pc := 0) 0 dX11_publish_0 rfl rfl ?_
  refine R_get (pc := 1) dX11_publish_1 fX11_30 S.2.2.2.2.2.2.2.2.2.2 (by omega) rfl ?_
  refine R_astore_n (pc := 4) (lv' := [(1, .ref τ.1), (0, .ref 1)]) dX11_publish_4 rfl (by decide) rfl ?_
  refine R_aload_n (pc := 5) 1 dX11_publish_5 rfl rfl ?_
  refine R_aload_n (pc := 6) 1 dX11_publish_6 rfl rfl ?_
  refine R_get (pc := 7) dX11_publish_7 fX11_33 S.2.2.2.2.2.2.2.2.2.2 (by omega) rfl ?_
  refine R_put' (pc := 10) (fs' := [.ref 2, .ref 4, .ref 6, .ref 8, .ref 10, .ref τ.2.1, .ref τ.2.1, .int (nI τ.2.2), .ref 16, .ref 20, .ref 26, .ref 30, .ref 34, .ref 39, .ref 41, .ref 47, .ref 51, .ref 59, .ref 60]) dX11_publish_10 fX11_30 tX11_5 rfl rfl S.2.2.2.2.2.2.2.2.2.2 (by omega) (Nat.le_of_ble_eq_true rfl) rfl (fun h_1 f_2 g_3 => ?_)
  have S_4 : Sys h_1 ρ β κ (τ.2.1, τ.2.1, τ.2.2) := S.setT (τ' := (τ.2.1, τ.2.1, τ.2.2)) f_2 g_3
  have F_5 : Fr h h_1 := fun x_ n_ => g_3 x_ (by omega)
  have S_6 : Sys h_1 ρ β κ (τ.2.1, τ.2.1, τ.2.2) := S_4
  refine R_aload_n (pc := 13) 1 dX11_publish_13 rfl rfl ?_
  refine R_aload_n (pc := 14) 0 dX11_publish_14 rfl rfl ?_
  refine R_put' (pc := 15) (fs' := [.ref 2, .ref 4, .ref 6, .ref 8, .ref 10, .ref τ.2.1, .ref τ.1, .int (nI τ.2.2), .ref 16, .ref 20, .ref 26, .ref 30, .ref 34, .ref 39, .ref 41, .ref 47, .ref 51, .ref 59, .ref 60]) dX11_publish_15 fX11_33 tX11_6 rfl rfl S_6.2.2.2.2.2.2.2.2.2.2 (by omega) (Nat.le_of_ble_eq_true rfl) rfl (fun h_7 f_8 g_9 => ?_)
  have S_10 : Sys h_7 ρ β κ ((τ.2.1, τ.2.1, τ.2.2).1, τ.1, (τ.2.1, τ.2.1, τ.2.2).2.2) := S_6.setT (τ' := ((τ.2.1, τ.2.1, τ.2.2).1, τ.1, (τ.2.1, τ.2.1, τ.2.2).2.2)) f_8 g_9
  have F_11 : Fr h_1 h_7 := fun x_ n_ => g_9 x_ (by omega)
  have S_12 : Sys h_7 ρ β κ (τ.2.1, τ.1, τ.2.2) := S_10
  refine R_aload_n (pc := 18) 1 dX11_publish_18 rfl rfl ?_
  refine R_get (pc := 19) dX11_publish_19 fX11_30 S_12.2.2.2.2.2.2.2.2.2.2 (by omega) rfl ?_
  have := rw_cases (r := τ.2.1) hτ.r2
  refine R_get (pc := 22) dX11_publish_22 fX11_133 (S_12.rowO τ.2.1 hτ.r2) (by omega) rfl ?_
  refine R_eqi (y := nI (ρ τ.2.1).length) (by first | rfl | (simp only [ur_s, ur_ur])) ?_
  exact R_ireturn (pc := 25) dX11_publish_25 rfl (by decide) (by decide) ⟨rfl, rfl, S_12, (F_5.tr F_11)⟩
set_option maxHeartbeats 4000000 in
set_option maxRecDepth 100000 in
theorem qX11_take_N {l : Launch} {w : am_W} {h : am_H} {n : Nat} {ρ : Nat → List (BitVec 8)} {β : Nat → bP} {κ : Nat → kT} {τ : Nat × Nat × Nat} (S : Sys h ρ β κ τ) (hn : 60 ≤ n) (hτ : tOk τ) (v : Int32) (hv : noRow v) : RH l w mX11_take h n [.ref 1, .int v] (SQ h τ (some (.int (-2))) ρ β κ) := by
  refine RC.of [(0, .ref 1), (1, .int v)] (by decide +kernel) rfl (Nat.le_of_ble_eq_true rfl) ?_
  refine R_aload_n (pc := 0) 0 dX11_take_0 rfl rfl ?_
  refine R_iload_n (pc := 1) 1 dX11_take_1 rfl rfl ?_
  refine R_callVh (pc := 2) (μ' := mX11_rowOf) (As := [.int v]) (st := []) dX11_take_2 zX11_rowOf lX11_119 ⟨by decide, by decide⟩ rfl rfl ⟨by decide, by decide⟩ S.2.2.2.2.2.2.2.2.2.2 (by omega) rfl (Nat.le_of_ble_eq_true rfl) (qX11_rowOf_N S hn _ hv) (fun h_1 r_ q_2 => ?_)
  obtain ⟨rfl, S_3, F_5⟩ := q_2
  have S_4 : Sys h_1 ρ β κ τ := S_3
  refine R_astore_nN (pc := 5) (lv' := [(2, .null), (0, .ref 1), (1, .int v)]) dX11_take_5 rfl (by decide) rfl ?_
  refine R_aload_nN (pc := 6) 0 dX11_take_6 rfl rfl ?_
  refine R_ifnonnullN (pc := 7) dX11_take_7 ?_
  refine R_bipush (pc := 10) (v := (-2)) dX11_take_10 (by decide) ?_
  exact R_ireturn (pc := 12) dX11_take_12 rfl (by decide) (by decide) ⟨rfl, rfl, S_4, F_5⟩
def tkV (N : Nat) (L : List (BitVec 8)) : Int32 := if L.length ≤ N then nI L.length else -4
def tkL (N : Nat) (L K : List (BitVec 8)) : List (BitVec 8) := if L.length ≤ N then L else K
set_option maxHeartbeats 4000000 in
set_option maxRecDepth 100000 in
theorem qX11_take {l : Launch} {w : am_W} {h : am_H} {n : Nat} {ρ : Nat → List (BitVec 8)} {β : Nat → bP} {κ : Nat → kT} {τ : Nat × Nat × Nat} (S : Sys h ρ β κ τ) (hn : 60 ≤ n) (hτ : tOk τ) (v : Int32) (r : Nat) (hv : rowN v r) : RH l w mX11_take h n [.ref 1, .int v] (SQ h τ (some (.int (tkV (rwN r) (ρ τ.1)))) (ur ρ r (tkL (rwN r) (ρ τ.1) (ρ r))) β κ) := by
  refine RC.of [(0, .ref 1), (1, .int v)] (by decide +kernel) rfl (Nat.le_of_ble_eq_true rfl) ?_
  have hr := hv.rw
  have hlt := S.len r hr
  have hrc := rw_cases hr
  have hr1 := rw_cases hτ.r1
  have ht1 := S.len τ.1 hτ.r1
  have hN1 := rwN_le τ.1
  have hNr := rwN_le r
  have h8 := hv.lt
  have hrt : τ.1 ≠ r := by rcases hτ.1 with ⟨a, -⟩ | ⟨a, -⟩ <;> omega
  refine R_aload_n (pc := 0) 0 dX11_take_0 rfl rfl ?_
  refine R_iload_n (pc := 1) 1 dX11_take_1 rfl rfl ?_
  refine R_callVh (pc := 2) (μ' := mX11_rowOf) (As := [.int v]) (st := []) dX11_take_2 zX11_rowOf lX11_119 ⟨by decide, by decide⟩ rfl rfl ⟨by decide, by decide⟩ S.2.2.2.2.2.2.2.2.2.2 (by omega) rfl (Nat.le_of_ble_eq_true rfl) (qX11_rowOf S hn _ r hv) (fun h_1 r_ q_2 => ?_)
  obtain ⟨rfl, S_3, F_5⟩ := q_2
  have S_4 : Sys h_1 ρ β κ τ := S_3
  refine R_astore_n (pc := 5) (lv' := [(2, .ref r), (0, .ref 1), (1, .int v)]) dX11_take_5 rfl (by decide) rfl ?_
  refine R_aload_n (pc := 6) 0 dX11_take_6 rfl rfl ?_
  refine R_ifnonnull (pc := 7) (tgt := 13) dX11_take_7 (by decide) ?_
  refine R_aload_n (pc := 13) 1 dX11_take_13 rfl rfl ?_
  refine R_get (pc := 14) dX11_take_14 fX11_30 S_4.2.2.2.2.2.2.2.2.2.2 (by omega) rfl ?_
  have := rw_cases (r := τ.1) hτ.r1
  refine R_get (pc := 17) dX11_take_17 fX11_133 (S_4.rowO τ.1 hτ.r1) (by omega) rfl ?_
  refine R_eqi (y := nI (ρ τ.1).length) (by first | rfl | (simp only [ur_s, ur_ur])) ?_
  refine R_aload_n (pc := 20) 0 dX11_take_20 rfl rfl ?_
  refine R_callVp (pc := 21) (μ' := mX6_room) (As := []) (st := [.int (nI (ρ τ.1).length)]) dX11_take_21 zX6_room lX11_216 ⟨by decide, by decide⟩ rfl rfl ⟨by decide, by decide⟩ (S_4.rowO r hr) (by omega) rfl (Nat.le_of_ble_eq_true rfl) (S_room S_4 hn hr) ?_
  refine R_eqi (y := nI (rwN r)) (by first | rfl | (simp only [ur_s, ur_ur])) ?_
  refine R_icmp_le (pc := 24) (tgt := 30) dX11_take_24 (by decide) (fun c_6 => ?_) (fun c_6 => ?_)
  · skip
    have hle : (ρ τ.1).length ≤ rwN r := (nI_leI (by omega) (by omega)).mp c_6
    refine R_aload_n (pc := 30) 0 dX11_take_30 rfl rfl ?_
    refine R_aload_n (pc := 31) 1 dX11_take_31 rfl rfl ?_
    refine R_get (pc := 32) dX11_take_32 fX11_30 S_4.2.2.2.2.2.2.2.2.2.2 (by omega) rfl ?_
    refine R_iconst (pc := 35) (v := 0) dX11_take_35 (by decide) ?_
    refine R_aload_n (pc := 36) 1 dX11_take_36 rfl rfl ?_
    refine R_get (pc := 37) dX11_take_37 fX11_30 S_4.2.2.2.2.2.2.2.2.2.2 (by omega) rfl ?_
    have := rw_cases (r := τ.1) hτ.r1
    refine R_get (pc := 40) dX11_take_40 fX11_133 (S_4.rowO τ.1 hτ.r1) (by omega) rfl ?_
    refine R_eqi (y := nI (ρ τ.1).length) (by first | rfl | (simp only [ur_s, ur_ur])) ?_
    refine R_eqi (y := nI (0 + (ρ τ.1).length)) (by rw [Nat.zero_add]) ?_
    refine R_callVh (pc := 43) (μ' := mX6_copyPart) (As := [.ref τ.1, .int (nI 0), .int (nI (0 + (ρ τ.1).length))]) (st := []) dX11_take_43 zX6_copyPart lX11_178 ⟨by decide, by decide⟩ rfl rfl ⟨by decide, by decide⟩ (S_4.rowO r hr) (by omega) rfl (Nat.le_of_ble_eq_true rfl) (S_copyPart S_4 hn hr hτ.r1 hrt 0 ((ρ τ.1).length) hle (by omega)) (fun h_7 r_ q_8 => ?_)
    obtain ⟨rfl, S_9, F_11⟩ := q_8
    have S_10 : Sys h_7 (ur ρ r (sl (ρ τ.1) 0 ((ρ τ.1).length))) β κ τ := by have z_ := S_9; (try simp only [ur_s, ur_ur, ur_n (x := τ.1) (r := r) hrt] at z_); exact z_
    refine R_aload_n (pc := 46) 0 dX11_take_46 rfl rfl ?_
    have := rw_cases (r := r) hr
    refine R_get (pc := 47) dX11_take_47 fX11_133 (S_10.rowO r hr) (by omega) rfl ?_
    refine R_eqi (y := nI (sl (ρ τ.1) 0 ((ρ τ.1).length)).length) (by first | rfl | (simp only [ur_s, ur_ur, ur_n (x := τ.1) (r := r) hrt])) ?_
    have eT_ : tkL (rwN r) (ρ τ.1) (ρ r) = sl (ρ τ.1) 0 (ρ τ.1).length := by unfold tkL; rw [if_pos hle, sl_all]
    rw [eT_]
    exact R_ireturn (pc := 50) dX11_take_50 rfl (by decide) (by decide) ⟨rfl, by unfold tkV; rw [if_pos hle, sl_len], S_10, (F_5.tr F_11)⟩
  · skip
    refine R_bipush (pc := 27) (v := (-4)) dX11_take_27 (by decide) ?_
    have hle : ¬ (ρ τ.1).length ≤ rwN r := fun q_ => c_6 ((nI_leI (by omega) (by omega)).mpr q_)
    rw [show tkL (rwN r) (ρ τ.1) (ρ r) = ρ r from if_neg hle, ur_id]
    exact R_ireturn (pc := 29) dX11_take_29 rfl (by decide) (by decide) ⟨rfl, by unfold tkV; rw [if_neg hle], S_4, F_5⟩
def xpK (κ : Nat → kT) (c : Nat) (L : List (BitVec 8)) (b nn : Nat) : Nat → kT := uk κ c (kexp (κ c).1 L b nn, kgs (kexp (κ c).1 L b nn) (κ c).2.1 15, nn + 6)
theorem isK_of {m : Nat} (hm : m ≤ 64) (h : ¬ isK (nI m) = 0) : ∃ nn, (nn = 4 ∨ nn = 6 ∨ nn = 8) ∧ m = 4 * nn := by
  unfold isK at h
  by_cases h1 : nI m = 16
  · exact ⟨4, by omega, by have := (nI_eq (a := m) (b := 16) (by omega) (by omega)).mp h1; omega⟩
  · by_cases h2 : nI m = 24
    · exact ⟨6, by omega, by have := (nI_eq (a := m) (b := 24) (by omega) (by omega)).mp h2; omega⟩
    · by_cases h3 : nI m = 32
      · exact ⟨8, by omega, by have := (nI_eq (a := m) (b := 32) (by omega) (by omega)).mp h3; omega⟩
      · rw [if_neg h1, if_neg h2, if_neg h3] at h
        exact absurd rfl h
def rkK (κ : Nat → kT) (L : List (BitVec 8)) : Nat → kT := if isK (nI L.length) = 0 then κ else xpK κ 16 L 0 (L.length / 4)
def rkV (κ : Nat → kT) (L : List (BitVec 8)) (i : Int32) : Int32 := if isK (nI L.length) = 0 then -3 else if i < 0 then -2 else if i < nI (16 * (L.length / 4 + 7)) then koc (kexp (κ 16).1 L 0 (L.length / 4)) i.toNatClampNeg else -2
theorem uk_s (κ : Nat → kT) (c : Nat) (v : kT) : uk κ c v c = v := if_pos rfl
set_option maxHeartbeats 4000000 in
set_option maxRecDepth 100000 in
theorem qX11_roundKey {l : Launch} {w : am_W} {h : am_H} {n : Nat} {ρ : Nat → List (BitVec 8)} {β : Nat → bP} {κ : Nat → kT} {τ : Nat × Nat × Nat} (S : Sys h ρ β κ τ) (hn : 60 ≤ n) (hτ : tOk τ) (i : Int32) : RH l w mX11_roundKey h n [.ref 1, .int i] (SQ h τ (some (.int (rkV κ (ρ 2) i))) ρ β (rkK κ (ρ 2))) := by
  refine RC.of [(0, .ref 1), (1, .int i)] (by decide +kernel) rfl (Nat.le_of_ble_eq_true rfl) ?_
  have hl2 : (ρ 2).length ≤ 64 := (S.1 2 rfl).1
  refine R_aload_n (pc := 0) 0 dX11_roundKey_0 rfl rfl ?_
  refine R_get (pc := 1) dX11_roundKey_1 fX11_14 S.2.2.2.2.2.2.2.2.2.2 (by omega) rfl ?_
  skip
  refine R_get (pc := 4) dX11_roundKey_4 fX11_133 (S.rowO 2 rfl) (by omega) rfl ?_
  refine R_eqi (y := nI (ρ 2).length) (by first | rfl | (simp only [ur_s, ur_ur])) ?_
  refine R_callSp (pc := 7) (μ' := mX11_isKeySize) (As := [.int (nI (ρ 2).length)]) (st := []) dX11_roundKey_7 zX11_isKeySize lX11_200 ⟨by decide, by decide⟩ rfl rfl ⟨by decide, by decide⟩ rfl (Nat.le_of_ble_eq_true rfl) (qX11_isKeySize l w _ _ _) ?_
  refine R_if_ne (pc := 10) (tgt := 16) dX11_roundKey_10 (by decide) (fun c_1 => ?_) (fun c_1 => ?_)
  · skip
    obtain ⟨nn, hnn, e⟩ := isK_of (by omega) c_1
    have e4 : (ρ 2).length / 4 = nn := by omega
    refine R_aload_n (pc := 16) 0 dX11_roundKey_16 rfl rfl ?_
    refine R_get (pc := 17) dX11_roundKey_17 fX11_43 S.2.2.2.2.2.2.2.2.2.2 (by omega) rfl ?_
    refine R_aload_n (pc := 20) 0 dX11_roundKey_20 rfl rfl ?_
    refine R_get (pc := 21) dX11_roundKey_21 fX11_14 S.2.2.2.2.2.2.2.2.2.2 (by omega) rfl ?_
    refine R_iconst (pc := 24) (v := 0) dX11_roundKey_24 (by decide) ?_
    refine R_aload_n (pc := 25) 0 dX11_roundKey_25 rfl rfl ?_
    refine R_get (pc := 26) dX11_roundKey_26 fX11_14 S.2.2.2.2.2.2.2.2.2.2 (by omega) rfl ?_
    skip
    refine R_get (pc := 29) dX11_roundKey_29 fX11_133 (S.rowO 2 rfl) (by omega) rfl ?_
    refine R_eqi (y := nI (ρ 2).length) (by first | rfl | (simp only [ur_s, ur_ur])) ?_
    refine R_eqi (y := nI (4 * nn)) (by rw [e]) ?_
    refine R_callVh (pc := 32) (μ' := mX2_expand) (As := [.ref 2, .int (nI 0), .int (nI (4 * nn))]) (st := []) dX11_roundKey_32 zX2_expand lX11_203 ⟨by decide, by decide⟩ rfl rfl ⟨by decide, by decide⟩ (S.2.2.1 16 (by decide)).1 (by omega) rfl (Nat.le_of_ble_eq_true rfl) (S_expand S hn (by decide) rfl 0 nn (by omega) hnn) (fun h_2 r_ q_3 => ?_)
    obtain ⟨rfl, S_4, F_6⟩ := q_3
    have S_5 : Sys h_2 ρ β (xpK κ 16 (ρ 2) 0 nn) τ := S_4
    refine R_iload_n (pc := 35) 1 dX11_roundKey_35 rfl rfl ?_
    refine R_if_lt (pc := 36) (tgt := 50) dX11_roundKey_36 (by decide) (fun c_7 => ?_) (fun c_7 => ?_)
    · skip
      refine R_bipush (pc := 50) (v := (-2)) dX11_roundKey_50 (by decide) ?_
      refine R_goto (pc := 52) (tgt := 63) dX11_roundKey_52 (by decide) ?_
      rw [show rkK κ (ρ 2) = xpK κ 16 (ρ 2) 0 nn from by unfold rkK; rw [if_neg c_1, e4]]
      exact R_ireturn (pc := 63) dX11_roundKey_63 rfl (by decide) (by decide) ⟨rfl, by unfold rkV; rw [e4, if_neg c_1, if_pos c_7], S_5, F_6⟩
    · skip
      refine R_iload_n (pc := 39) 1 dX11_roundKey_39 rfl rfl ?_
      refine R_aload_n (pc := 40) 0 dX11_roundKey_40 rfl rfl ?_
      refine R_get (pc := 41) dX11_roundKey_41 fX11_43 S_5.2.2.2.2.2.2.2.2.2.2 (by omega) rfl ?_
      refine R_callVp (pc := 44) (μ' := mX2_keyOctets) (As := []) (st := [.int i]) dX11_roundKey_44 zX2_keyOctets lX11_219 ⟨by decide, by decide⟩ rfl rfl ⟨by decide, by decide⟩ (S_5.2.2.1 16 (by decide)).1 (by omega) rfl (Nat.le_of_ble_eq_true rfl) (S_keyOctets S_5 hn (by decide)) ?_
      refine R_eqi (y := nI (16 * (nn + 7))) (by first | rfl | (simp only [ur_s, ur_ur])) ?_
      refine R_icmp_lt (pc := 47) (tgt := 55) dX11_roundKey_47 (by decide) (fun c_8 => ?_) (fun c_8 => ?_)
      · skip
        obtain ⟨j, hj, rfl⟩ := nI_of c_7
        have hj2 : j < 16 * (nn + 7) := (nI_ltI hj (by omega)).mp c_8
        refine R_aload_n (pc := 55) 0 dX11_roundKey_55 rfl rfl ?_
        refine R_get (pc := 56) dX11_roundKey_56 fX11_43 S_5.2.2.2.2.2.2.2.2.2.2 (by omega) rfl ?_
        refine R_iload_n (pc := 59) 1 dX11_roundKey_59 rfl rfl ?_
        refine R_callVp (pc := 60) (μ' := mX2_keyOctet) (As := [.int (nI j)]) (st := []) dX11_roundKey_60 zX2_keyOctet lX11_222 ⟨by decide, by decide⟩ rfl rfl ⟨by decide, by decide⟩ (S_5.2.2.1 16 (by decide)).1 (by omega) rfl (Nat.le_of_ble_eq_true rfl) (S_keyOctet S_5 hn (by decide) j (by omega)) ?_
        refine R_eqi (y := koc (kexp (κ 16).1 (ρ 2) 0 nn) j) (by first | rfl | (simp only [ur_s, ur_ur])) ?_
        rw [show rkK κ (ρ 2) = xpK κ 16 (ρ 2) 0 nn from by unfold rkK; rw [if_neg c_1, e4]]
        exact R_ireturn (pc := 63) dX11_roundKey_63 rfl (by decide) (by decide) ⟨rfl, by unfold rkV; rw [e4, if_neg c_1, if_neg c_7, if_pos c_8, nI_clamp hj], S_5, F_6⟩
      · skip
        refine R_bipush (pc := 50) (v := (-2)) dX11_roundKey_50 (by decide) ?_
        refine R_goto (pc := 52) (tgt := 63) dX11_roundKey_52 (by decide) ?_
        rw [show rkK κ (ρ 2) = xpK κ 16 (ρ 2) 0 nn from by unfold rkK; rw [if_neg c_1, e4]]
        exact R_ireturn (pc := 63) dX11_roundKey_63 rfl (by decide) (by decide) ⟨rfl, by unfold rkV; rw [e4, if_neg c_1, if_neg c_7, if_neg c_8], S_5, F_6⟩
  · skip
    refine R_bipush (pc := 13) (v := (-3)) dX11_roundKey_13 (by decide) ?_
    rw [show rkK κ (ρ 2) = κ from by unfold rkK; rw [if_pos c_1]]
    exact R_ireturn (pc := 15) dX11_roundKey_15 rfl (by decide) (by decide) ⟨rfl, by unfold rkV; rw [if_pos c_1], S, (Fr.rf _)⟩
set_option maxHeartbeats 4000000 in
set_option maxRecDepth 100000 in
theorem qX11_expandKeys1 {l : Launch} {w : am_W} {h : am_H} {n : Nat} {ρ : Nat → List (BitVec 8)} {β : Nat → bP} {κ : Nat → kT} {τ : Nat × Nat × Nat} (S : Sys h ρ β κ τ) (hn : 60 ≤ n) (hτ : tOk τ) (v : Int32) (hw : w2K v = 0) (nn : Nat) (hnn : nn = 4 ∨ nn = 6 ∨ nn = 8) (e : (ρ 2).length = 4 * nn) : RH l w mX11_expandKeys h n [.ref 1, .int v] (SQ h τ none ρ β (xpK κ 16 (ρ 2) 0 nn)) := by
  refine RC.of [(0, .ref 1), (1, .int v)] (by decide +kernel) rfl (Nat.le_of_ble_eq_true rfl) ?_
  refine R_iload_n (pc := 0) 1 dX11_expandKeys_0 rfl rfl ?_
  refine R_callSp (pc := 1) (μ' := mX11_wantsTwoKeys) (As := [.int v]) (st := []) dX11_expandKeys_1 zX11_wantsTwoKeys lX11_225 ⟨by decide, by decide⟩ rfl rfl ⟨by decide, by decide⟩ rfl (Nat.le_of_ble_eq_true rfl) (qX11_wantsTwoKeys l w _ _ _) ?_
  refine R_if_eq (pc := 4) (tgt := 46) dX11_expandKeys_4 (by decide) (fun c_1 => ?_) (fun c_1 => absurd (hw) c_1)
  refine R_aload_n (pc := 46) 0 dX11_expandKeys_46 rfl rfl ?_
  refine R_get (pc := 47) dX11_expandKeys_47 fX11_43 S.2.2.2.2.2.2.2.2.2.2 (by omega) rfl ?_
  refine R_aload_n (pc := 50) 0 dX11_expandKeys_50 rfl rfl ?_
  refine R_get (pc := 51) dX11_expandKeys_51 fX11_14 S.2.2.2.2.2.2.2.2.2.2 (by omega) rfl ?_
  refine R_iconst (pc := 54) (v := 0) dX11_expandKeys_54 (by decide) ?_
  refine R_aload_n (pc := 55) 0 dX11_expandKeys_55 rfl rfl ?_
  refine R_get (pc := 56) dX11_expandKeys_56 fX11_14 S.2.2.2.2.2.2.2.2.2.2 (by omega) rfl ?_
  skip
  refine R_get (pc := 59) dX11_expandKeys_59 fX11_133 (S.rowO 2 rfl) (by omega) rfl ?_
  refine R_eqi (y := nI (ρ 2).length) (by first | rfl | (simp only [ur_s, ur_ur])) ?_
  refine R_eqi (y := nI (4 * nn)) (by rw [e]) ?_
  refine R_callVh (pc := 62) (μ' := mX2_expand) (As := [.ref 2, .int (nI 0), .int (nI (4 * nn))]) (st := []) dX11_expandKeys_62 zX2_expand lX11_203 ⟨by decide, by decide⟩ rfl rfl ⟨by decide, by decide⟩ (S.2.2.1 16 (by decide)).1 (by omega) rfl (Nat.le_of_ble_eq_true rfl) (S_expand S hn (by decide) rfl 0 nn (by omega) hnn) (fun h_2 r_ q_3 => ?_)
  obtain ⟨rfl, S_4, F_6⟩ := q_3
  have S_5 : Sys h_2 ρ β (xpK κ 16 (ρ 2) 0 nn) τ := S_4
  exact R_vreturn (pc := 65) dX11_expandKeys_65 rfl (by decide) (by decide) ⟨rfl, rfl, S_5, F_6⟩
set_option maxHeartbeats 4000000 in
set_option maxRecDepth 100000 in
theorem qX11_expandKeys2 {l : Launch} {w : am_W} {h : am_H} {n : Nat} {ρ : Nat → List (BitVec 8)} {β : Nat → bP} {κ : Nat → kT} {τ : Nat × Nat × Nat} (S : Sys h ρ β κ τ) (hn : 60 ≤ n) (hτ : tOk τ) (v : Int32) (hw : ¬ w2K v = 0) (nn : Nat) (hnn : nn = 4 ∨ nn = 6 ∨ nn = 8) (e : (ρ 2).length = 8 * nn) : RH l w mX11_expandKeys h n [.ref 1, .int v] (SQ h τ none ρ β (xpK (xpK κ 16 (ρ 2) 0 nn) 20 (ρ 2) (4 * nn) nn)) := by
  refine RC.of [(0, .ref 1), (1, .int v)] (by decide +kernel) rfl (Nat.le_of_ble_eq_true rfl) ?_
  refine R_iload_n (pc := 0) 1 dX11_expandKeys_0 rfl rfl ?_
  refine R_callSp (pc := 1) (μ' := mX11_wantsTwoKeys) (As := [.int v]) (st := []) dX11_expandKeys_1 zX11_wantsTwoKeys lX11_225 ⟨by decide, by decide⟩ rfl rfl ⟨by decide, by decide⟩ rfl (Nat.le_of_ble_eq_true rfl) (qX11_wantsTwoKeys l w _ _ _) ?_
  refine R_if_eq (pc := 4) (tgt := 46) dX11_expandKeys_4 (by decide) (fun c_1 => absurd c_1 (hw)) (fun c_1 => ?_)
  refine R_aload_n (pc := 7) 0 dX11_expandKeys_7 rfl rfl ?_
  refine R_get (pc := 8) dX11_expandKeys_8 fX11_14 S.2.2.2.2.2.2.2.2.2.2 (by omega) rfl ?_
  skip
  refine R_get (pc := 11) dX11_expandKeys_11 fX11_133 (S.rowO 2 rfl) (by omega) rfl ?_
  refine R_eqi (y := nI (ρ 2).length) (by first | rfl | (simp only [ur_s, ur_ur])) ?_
  refine R_iconst (pc := 14) (v := 1) dX11_expandKeys_14 (by decide) ?_
  refine R_ishr (pc := 15) dX11_expandKeys_15 ?_
  refine R_eqi (y := nI (4 * nn)) (by rw [e]; rcases hnn with rfl | rfl | rfl <;> rfl) ?_
  refine R_istore_n (pc := 16) (lv' := [(2, .int (nI (4 * nn))), (0, .ref 1), (1, .int v)]) dX11_expandKeys_16 rfl (by decide) rfl ?_
  refine R_aload_n (pc := 17) 1 dX11_expandKeys_17 rfl rfl ?_
  refine R_get (pc := 18) dX11_expandKeys_18 fX11_43 S.2.2.2.2.2.2.2.2.2.2 (by omega) rfl ?_
  refine R_aload_n (pc := 21) 1 dX11_expandKeys_21 rfl rfl ?_
  refine R_get (pc := 22) dX11_expandKeys_22 fX11_14 S.2.2.2.2.2.2.2.2.2.2 (by omega) rfl ?_
  refine R_iconst (pc := 25) (v := 0) dX11_expandKeys_25 (by decide) ?_
  refine R_iload_n (pc := 26) 0 dX11_expandKeys_26 rfl rfl ?_
  refine R_callVh (pc := 27) (μ' := mX2_expand) (As := [.ref 2, .int (nI 0), .int (nI (4 * nn))]) (st := []) dX11_expandKeys_27 zX2_expand lX11_203 ⟨by decide, by decide⟩ rfl rfl ⟨by decide, by decide⟩ (S.2.2.1 16 (by decide)).1 (by omega) rfl (Nat.le_of_ble_eq_true rfl) (S_expand S hn (by decide) rfl 0 nn (by omega) hnn) (fun h_2 r_ q_3 => ?_)
  obtain ⟨rfl, S_4, F_6⟩ := q_3
  have S_5 : Sys h_2 ρ β (xpK κ 16 (ρ 2) 0 nn) τ := S_4
  refine R_aload_n (pc := 30) 1 dX11_expandKeys_30 rfl rfl ?_
  refine R_get (pc := 31) dX11_expandKeys_31 fX11_47 S_5.2.2.2.2.2.2.2.2.2.2 (by omega) rfl ?_
  refine R_aload_n (pc := 34) 1 dX11_expandKeys_34 rfl rfl ?_
  refine R_get (pc := 35) dX11_expandKeys_35 fX11_14 S_5.2.2.2.2.2.2.2.2.2.2 (by omega) rfl ?_
  refine R_iload_n (pc := 38) 0 dX11_expandKeys_38 rfl rfl ?_
  refine R_iload_n (pc := 39) 0 dX11_expandKeys_39 rfl rfl ?_
  refine R_callVh (pc := 40) (μ' := mX2_expand) (As := [.ref 2, .int (nI (4 * nn)), .int (nI (4 * nn))]) (st := []) dX11_expandKeys_40 zX2_expand lX11_203 ⟨by decide, by decide⟩ rfl rfl ⟨by decide, by decide⟩ (S_5.2.2.1 20 (by decide)).1 (by omega) rfl (Nat.le_of_ble_eq_true rfl) (S_expand S_5 hn (by decide) rfl (4 * nn) nn (by omega) hnn) (fun h_7 r_ q_8 => ?_)
  obtain ⟨rfl, S_9, F_11⟩ := q_8
  have S_10 : Sys h_7 ρ β (xpK (xpK κ 16 (ρ 2) 0 nn) 20 (ρ 2) (4 * nn) nn) τ := S_9
  refine R_goto (pc := 43) (tgt := 65) dX11_expandKeys_43 (by decide) ?_
  exact R_vreturn (pc := 65) dX11_expandKeys_65 rfl (by decide) (by decide) ⟨rfl, rfl, S_10, (F_6.tr F_11)⟩
set_option maxHeartbeats 4000000 in
set_option maxRecDepth 100000 in
theorem qX11_feed_N {l : Launch} {w : am_W} {h : am_H} {n : Nat} {ρ : Nat → List (BitVec 8)} {β : Nat → bP} {κ : Nat → kT} {τ : Nat × Nat × Nat} (S : Sys h ρ β κ τ) (hn : 60 ≤ n) (hτ : tOk τ) (v : Int32) (hv : noRow v) (x : Int64) (i : Int32) : RH l w mX11_feed h n [.ref 1, .int v, .long x, .int i] (SQ h τ (some (.int (-2))) ρ β κ) := by
  refine RC.of [(0, .ref 1), (1, .int v), (2, .long x), (4, .int i)] (by decide +kernel) rfl (Nat.le_of_ble_eq_true rfl) ?_
  refine R_aload_n (pc := 0) 0 dX11_feed_0 rfl rfl ?_
  refine R_iload_n (pc := 1) 1 dX11_feed_1 rfl rfl ?_
  refine R_callVh (pc := 2) (μ' := mX11_rowOf) (As := [.int v]) (st := []) dX11_feed_2 zX11_rowOf lX11_119 ⟨by decide, by decide⟩ rfl rfl ⟨by decide, by decide⟩ S.2.2.2.2.2.2.2.2.2.2 (by omega) rfl (Nat.le_of_ble_eq_true rfl) (qX11_rowOf_N S hn _ hv) (fun h_1 r_ q_2 => ?_)
  obtain ⟨rfl, S_3, F_5⟩ := q_2
  have S_4 : Sys h_1 ρ β κ τ := S_3
  refine R_astoreN (pc := 5) (lv' := [(5, .null), (0, .ref 1), (1, .int v), (2, .long x), (4, .int i)]) dX11_feed_5 (by decide) rfl ?_
  refine R_aloadN (pc := 7) 0 dX11_feed_7 rfl ?_
  refine R_ifnullN (pc := 9) (tgt := 24) dX11_feed_9 (by decide) ?_
  refine R_bipush (pc := 24) (v := (-2)) dX11_feed_24 (by decide) ?_
  exact R_ireturn (pc := 26) dX11_feed_26 rfl (by decide) (by decide) ⟨rfl, rfl, S_4, F_5⟩
theorem i_dec (y : Int32) : y + (-1) = y - 1 := (Int32.sub_eq_add_neg y 1).symm
theorem nI_dec (k : Nat) : nI (k + 1) - 1 + (-1) = nI k - 1 := by rw [nI_pred]; exact i_dec _
def fdL (x : Int64) : Nat → List (BitVec 8)
  | 0 => []
  | k + 1 => [t8 (jlushr x (8 * nI k)).toInt32] ++ fdL x k
def fdR (N : Nat) (L : List (BitVec 8)) (x : Int64) (i : Int32) : List (BitVec 8) := if i < 0 then L else if i ≤ 8 then (if i = 0 then [] else if rmI N L i = 0 then L else L ++ fdL x i.toNatClampNeg) else L
def fdV (N : Nat) (L : List (BitVec 8)) (x : Int64) (i : Int32) : Int32 := if i < 0 then -2 else if i ≤ 8 then (if i = 0 then 0 else if rmI N L i = 0 then -4 else nI (L ++ fdL x i.toNatClampNeg).length) else -2
theorem rmI_of {N j : Nat} {L : List (BitVec 8)} (hj : j < 2 ^ 31) (hN : N ≤ 1000) (hL : L.length ≤ N) (h : ¬ rmI N L (nI j) = 0) : L.length + j ≤ N := by
  unfold rmI at h
  by_cases q : nI (N - L.length) < nI j
  · rw [if_pos q] at h; exact absurd rfl h
  · have := mt (nI_ltI (by omega) hj).mpr q
    omega
set_option maxHeartbeats 4000000 in
set_option maxRecDepth 100000 in
theorem qX11_feed_loop {l : Launch} {w : am_W} {h : am_H} {n : Nat} {ρ : Nat → List (BitVec 8)} {β : Nat → bP} {κ : Nat → kT} {τ : Nat × Nat × Nat} (S : Sys h ρ β κ τ) (hn : 60 ≤ n) {r : Nat} (hr : isRw r = true) (v i : Int32) (x : Int64) : ∀ (k : Nat) h2 (L : List (BitVec 8)), Sys h2 (ur ρ r L) β κ τ → L.length + k ≤ rwN r → Fr h h2 → RW l w mX11_feed h2 n 0 0 59 [(6, .int (nI k - 1)), (5, .ref r), (0, .ref 1), (1, .int v), (2, .long x), (4, .int i)] [] (fun h' n' q => n' = n ∧ (SQ h τ (some (.int (nI (L ++ fdL x k).length))) (ur ρ r (L ++ fdL x k)) β κ) h' q) := by
  have hN := rwN_le r
  have hrc := rw_cases hr
  intro k
  induction k with
  | zero =>
    intro h2 L S2 hL hF
    refine R_iload (pc := 59) 0 dX11_feed_59 rfl ?_
    refine R_if_lt (pc := 61) (tgt := 83) dX11_feed_61 (by decide) (fun c_1 => ?_) (fun c_1 => absurd (by decide) c_1)
    refine R_aload (pc := 83) 1 dX11_feed_83 rfl ?_
    have := rw_cases (r := r) hr
    refine R_get (pc := 85) dX11_feed_85 fX11_133 (S2.rowO r hr) (by omega) rfl ?_
    refine R_eqi (y := nI (L).length) (by first | rfl | (simp only [ur_s, ur_ur])) ?_
    exact R_ireturn (pc := 88) dX11_feed_88 rfl (by decide) (by decide) ⟨rfl, by rw [show L ++ fdL x 0 = L from List.append_nil L], by rw [show L ++ fdL x 0 = L from List.append_nil L]; exact S2, hF⟩
  | succ k ih =>
    intro h2 L S2 hL hF
    refine R_iload (pc := 59) 0 dX11_feed_59 rfl ?_
    refine R_if_lt (pc := 61) (tgt := 83) dX11_feed_61 (by decide) (fun c_1 => absurd c_1 (by rw [nI_pred]; exact nI_pos (by omega))) (fun c_1 => ?_)
    refine R_aload (pc := 64) 1 dX11_feed_64 rfl ?_
    refine R_lload_n (pc := 66) 4 dX11_feed_66 rfl rfl ?_
    refine R_bipush (pc := 67) (v := 8) dX11_feed_67 (by decide) ?_
    refine R_iload (pc := 69) 0 dX11_feed_69 rfl ?_
    refine R_eqi (y := nI k) (nI_pred k) ?_
    refine R_imul (pc := 71) dX11_feed_71 ?_
    refine R_lushr (pc := 72) (v := jlushr x (8 * (nI k))) dX11_feed_72 rfl ?_
    refine R_l2i (pc := 73) (v := (jlushr x (8 * (nI k))).toInt32) dX11_feed_73 rfl ?_
    refine R_callVh (pc := 74) (μ' := mX6_append) (As := [.int ((jlushr x (8 * (nI k))).toInt32)]) (st := []) dX11_feed_74 zX6_append lX11_130 ⟨by decide, by decide⟩ rfl rfl ⟨by decide, by decide⟩ (S2.rowO r hr) (by omega) rfl (Nat.le_of_ble_eq_true rfl) (S_append S2 hn hr _ (by rw [ur_s]; omega)) (fun h_2 r_ q_3 => ?_)
    obtain ⟨rfl, S_4, F_6⟩ := q_3
    have S_5 : Sys h_2 (ur ρ r (L ++ [t8 ((jlushr x (8 * (nI k))).toInt32)])) β κ τ := by have z_ := S_4; (try simp only [ur_s, ur_ur] at z_); exact z_
    refine R_iinc (pc := 77) (j := 0) (v := nI k - 1) (lv' := [(6, .int (nI k - 1)), (5, .ref r), (0, .ref 1), (1, .int v), (2, .long x), (4, .int i)]) dX11_feed_77 rfl (nI_dec k) (by decide) rfl ?_
    refine R_goto (pc := 80) (tgt := 59) dX11_feed_80 (by decide) ?_
    refine R_sub [0, 1, 2, 3, 4, 5] rfl ?_
    have z_ := ih h_2 _ S_5 (by rw [List.length_append, List.length_singleton]; omega) (hF.tr F_6)
    rw [List.append_assoc] at z_
    exact z_
set_option maxHeartbeats 4000000 in
set_option maxRecDepth 100000 in
theorem qX11_feed {l : Launch} {w : am_W} {h : am_H} {n : Nat} {ρ : Nat → List (BitVec 8)} {β : Nat → bP} {κ : Nat → kT} {τ : Nat × Nat × Nat} (S : Sys h ρ β κ τ) (hn : 60 ≤ n) (hτ : tOk τ) (v : Int32) (r : Nat) (hv : rowN v r) (x : Int64) (i : Int32) : RH l w mX11_feed h n [.ref 1, .int v, .long x, .int i] (SQ h τ (some (.int (fdV (rwN r) (ρ r) x i))) (ur ρ r (fdR (rwN r) (ρ r) x i)) β κ) := by
  refine RC.of [(0, .ref 1), (1, .int v), (2, .long x), (4, .int i)] (by decide +kernel) rfl (Nat.le_of_ble_eq_true rfl) ?_
  have hr := hv.rw
  have hlt := S.len r hr
  have hrc := rw_cases hr
  refine R_aload_n (pc := 0) 0 dX11_feed_0 rfl rfl ?_
  refine R_iload_n (pc := 1) 1 dX11_feed_1 rfl rfl ?_
  refine R_callVh (pc := 2) (μ' := mX11_rowOf) (As := [.int v]) (st := []) dX11_feed_2 zX11_rowOf lX11_119 ⟨by decide, by decide⟩ rfl rfl ⟨by decide, by decide⟩ S.2.2.2.2.2.2.2.2.2.2 (by omega) rfl (Nat.le_of_ble_eq_true rfl) (qX11_rowOf S hn _ r hv) (fun h_1 r_ q_2 => ?_)
  obtain ⟨rfl, S_3, F_5⟩ := q_2
  have S_4 : Sys h_1 ρ β κ τ := S_3
  refine R_astore (pc := 5) (lv' := [(5, .ref r), (0, .ref 1), (1, .int v), (2, .long x), (4, .int i)]) dX11_feed_5 (by decide) rfl ?_
  refine R_aload (pc := 7) 0 dX11_feed_7 rfl ?_
  refine R_ifnull (pc := 9) dX11_feed_9 ?_
  refine R_iload (pc := 12) 4 dX11_feed_12 rfl ?_
  refine R_if_lt (pc := 14) (tgt := 24) dX11_feed_14 (by decide) (fun c_6 => ?_) (fun c_6 => ?_)
  · skip
    refine R_bipush (pc := 24) (v := (-2)) dX11_feed_24 (by decide) ?_
    rw [show fdR (rwN r) (ρ r) x i = ρ r from by unfold fdR; rw [if_pos c_6], ur_id]
    exact R_ireturn (pc := 26) dX11_feed_26 rfl (by decide) (by decide) ⟨rfl, by unfold fdV; rw [if_pos c_6], S_4, F_5⟩
  · skip
    refine R_iload (pc := 17) 4 dX11_feed_17 rfl ?_
    refine R_bipush (pc := 19) (v := 8) dX11_feed_19 (by decide) ?_
    refine R_icmp_le (pc := 21) (tgt := 27) dX11_feed_21 (by decide) (fun c_7 => ?_) (fun c_7 => ?_)
    · skip
      refine R_iload (pc := 27) 4 dX11_feed_27 rfl ?_
      refine R_if_ne (pc := 29) (tgt := 40) dX11_feed_29 (by decide) (fun c_8 => ?_) (fun c_8 => ?_)
      · skip
        refine R_aload (pc := 40) 0 dX11_feed_40 rfl ?_
        refine R_iload (pc := 42) 4 dX11_feed_42 rfl ?_
        refine R_callVp (pc := 44) (μ' := mX6_hasRoomFor) (As := [.int i]) (st := []) dX11_feed_44 zX6_hasRoomFor lX11_126 ⟨by decide, by decide⟩ rfl rfl ⟨by decide, by decide⟩ (S_4.rowO r hr) (by omega) rfl (Nat.le_of_ble_eq_true rfl) (S_hasRoomFor S_4 hn hr _) ?_
        refine R_eqi (y := rmI (rwN r) (ρ r) i) (by first | rfl | (simp only [ur_s, ur_ur])) ?_
        refine R_if_ne (pc := 47) (tgt := 53) dX11_feed_47 (by decide) (fun c_9 => ?_) (fun c_9 => ?_)
        · skip
          refine R_iload (pc := 53) 4 dX11_feed_53 rfl ?_
          refine R_iconst (pc := 55) (v := 1) dX11_feed_55 (by decide) ?_
          refine R_isub (pc := 56) dX11_feed_56 ?_
          refine R_istore (pc := 57) (lv' := [(6, .int (i - 1)), (5, .ref r), (0, .ref 1), (1, .int v), (2, .long x), (4, .int i)]) dX11_feed_57 (by decide) rfl ?_
          obtain ⟨j, hj, rfl⟩ := nI_of c_6
          have hjr := rmI_of hj (rwN_le r) (S.1 r hr).1 c_9
          rw [show fdR (rwN r) (ρ r) x (nI j) = ρ r ++ fdL x j from by unfold fdR; rw [if_neg c_6, if_pos c_7, if_neg c_8, if_neg c_9, nI_clamp hj], show fdV (rwN r) (ρ r) x (nI j) = nI (ρ r ++ fdL x j).length from by unfold fdV; rw [if_neg c_6, if_pos c_7, if_neg c_8, if_neg c_9, nI_clamp hj]]
          refine R_sub [0, 1, 2, 3, 4, 5] rfl ?_
          exact qX11_feed_loop S hn hr v (nI j) x j h_1 (ρ r) (by rw [ur_id]; exact S_4) hjr F_5
        · skip
          refine R_bipush (pc := 50) (v := (-4)) dX11_feed_50 (by decide) ?_
          rw [show fdR (rwN r) (ρ r) x i = ρ r from by unfold fdR; rw [if_neg c_6, if_pos c_7, if_neg c_8, if_pos c_9], ur_id]
          exact R_ireturn (pc := 52) dX11_feed_52 rfl (by decide) (by decide) ⟨rfl, by unfold fdV; rw [if_neg c_6, if_pos c_7, if_neg c_8, if_pos c_9], S_4, F_5⟩
      · skip
        refine R_aload (pc := 32) 0 dX11_feed_32 rfl ?_
        refine R_iconst (pc := 34) (v := 0) dX11_feed_34 (by decide) ?_
        refine R_callVh (pc := 35) (μ' := mX6_keep) (As := [.int (nI 0)]) (st := []) dX11_feed_35 zX6_keep lX11_123 ⟨by decide, by decide⟩ rfl rfl ⟨by decide, by decide⟩ (S_4.rowO r hr) (by omega) rfl (Nat.le_of_ble_eq_true rfl) (S_keep S_4 hn hr 0 (by omega)) (fun h_10 r_ q_11 => ?_)
        obtain ⟨rfl, S_12, F_14⟩ := q_11
        have S_13 : Sys h_10 (ur ρ r ((ρ r).take 0)) β κ τ := by have z_ := S_12; (try simp only [ur_s, ur_ur] at z_); exact z_
        refine R_iconst (pc := 38) (v := 0) dX11_feed_38 (by decide) ?_
        rw [show fdR (rwN r) (ρ r) x i = (ρ r).take 0 from by unfold fdR; rw [if_neg c_6, if_pos c_7, if_pos c_8]; rfl]
        exact R_ireturn (pc := 39) dX11_feed_39 rfl (by decide) (by decide) ⟨rfl, by unfold fdV; rw [if_neg c_6, if_pos c_7, if_pos c_8], S_13, (F_5.tr F_14)⟩
    · skip
      refine R_bipush (pc := 24) (v := (-2)) dX11_feed_24 (by decide) ?_
      rw [show fdR (rwN r) (ρ r) x i = ρ r from by unfold fdR; rw [if_neg c_6, if_neg c_7], ur_id]
      exact R_ireturn (pc := 26) dX11_feed_26 rfl (by decide) (by decide) ⟨rfl, by unfold fdV; rw [if_neg c_6, if_neg c_7], S_4, F_5⟩
set_option maxHeartbeats 4000000 in
set_option maxRecDepth 100000 in
theorem qX11_fill_N {l : Launch} {w : am_W} {h : am_H} {n : Nat} {ρ : Nat → List (BitVec 8)} {β : Nat → bP} {κ : Nat → kT} {τ : Nat × Nat × Nat} (S : Sys h ρ β κ τ) (hn : 60 ≤ n) (hτ : tOk τ) (v : Int32) (hv : noRow v) (i x : Int32) : RH l w mX11_fill h n [.ref 1, .int v, .int i, .int x] (SQ h τ (some (.int (-2))) ρ β κ) := by
  refine RC.of [(0, .ref 1), (1, .int v), (2, .int i), (3, .int x)] (by decide +kernel) rfl (Nat.le_of_ble_eq_true rfl) ?_
  refine R_aload_n (pc := 0) 0 dX11_fill_0 rfl rfl ?_
  refine R_iload_n (pc := 1) 1 dX11_fill_1 rfl rfl ?_
  refine R_callVh (pc := 2) (μ' := mX11_rowOf) (As := [.int v]) (st := []) dX11_fill_2 zX11_rowOf lX11_119 ⟨by decide, by decide⟩ rfl rfl ⟨by decide, by decide⟩ S.2.2.2.2.2.2.2.2.2.2 (by omega) rfl (Nat.le_of_ble_eq_true rfl) (qX11_rowOf_N S hn _ hv) (fun h_1 r_ q_2 => ?_)
  obtain ⟨rfl, S_3, F_5⟩ := q_2
  have S_4 : Sys h_1 ρ β κ τ := S_3
  refine R_astoreN (pc := 5) (lv' := [(4, .null), (0, .ref 1), (1, .int v), (2, .int i), (3, .int x)]) dX11_fill_5 (by decide) rfl ?_
  refine R_aloadN (pc := 7) 0 dX11_fill_7 rfl ?_
  refine R_ifnullN (pc := 9) (tgt := 16) dX11_fill_9 (by decide) ?_
  refine R_bipush (pc := 16) (v := (-2)) dX11_fill_16 (by decide) ?_
  exact R_ireturn (pc := 18) dX11_fill_18 rfl (by decide) (by decide) ⟨rfl, rfl, S_4, F_5⟩
def flS (x : Int32) : Nat → Int32
  | 0 => x
  | k + 1 => flS x k * 1664525 + 1013904223
def flL (x : Int32) : Nat → List (BitVec 8)
  | 0 => []
  | k + 1 => flL x k ++ [t8 (jushr (flS x (k + 1)) 24)]
theorem flL_len (x : Int32) : ∀ k, (flL x k).length = k
  | 0 => rfl
  | k + 1 => by unfold flL; rw [List.length_append, flL_len x k, List.length_singleton]
def flR (N : Nat) (L : List (BitVec 8)) (i x : Int32) : List (BitVec 8) := if 0 ≤ i then (if rmI N L i = 0 then L else L ++ flL x i.toNatClampNeg) else L
def flV (N : Nat) (L : List (BitVec 8)) (i x : Int32) : Int32 := if 0 ≤ i then (if rmI N L i = 0 then -4 else nI (L ++ flL x i.toNatClampNeg).length) else -2
set_option maxHeartbeats 4000000 in
set_option maxRecDepth 100000 in
theorem qX11_fill_loop {l : Launch} {w : am_W} {h : am_H} {n : Nat} {ρ : Nat → List (BitVec 8)} {β : Nat → bP} {κ : Nat → kT} {τ : Nat × Nat × Nat} (S : Sys h ρ β κ τ) (hn : 60 ≤ n) {r : Nat} (hr : isRw r = true) (v x : Int32) (j : Nat) (hj : (ρ r).length + j ≤ rwN r) : ∀ (d k : Nat), k + d = j → ∀ h2, Sys h2 (ur ρ r (ρ r ++ flL x k)) β κ τ → Fr h h2 → RW l w mX11_fill h2 n 0 0 37 [(6, .int (nI k)), (5, .int (flS x k)), (4, .ref r), (0, .ref 1), (1, .int v), (2, .int (nI j)), (3, .int x)] [] (fun h' n' q => n' = n ∧ (SQ h τ (some (.int (nI (ρ r ++ flL x j).length))) (ur ρ r (ρ r ++ flL x j)) β κ) h' q) := by
  have hN := rwN_le r
  have hrc := rw_cases hr
  intro d
  induction d with
  | zero =>
    intro k hd h2 S2 hF
    refine R_iload (pc := 37) 0 dX11_fill_37 rfl ?_
    refine R_iload_n (pc := 39) 5 dX11_fill_39 rfl rfl ?_
    refine R_icmp_ge (pc := 40) (tgt := 69) dX11_fill_40 (by decide) (fun c_1 => ?_) (fun c_1 => absurd (nI_le (by omega) (by omega)) c_1)
    refine R_aload (pc := 69) 2 dX11_fill_69 rfl ?_
    have := rw_cases (r := r) hr
    refine R_get (pc := 71) dX11_fill_71 fX11_133 (S2.rowO r hr) (by omega) rfl ?_
    refine R_eqi (y := nI (ρ r ++ flL x k).length) (by first | rfl | (simp only [ur_s, ur_ur])) ?_
    obtain rfl : k = j := by omega
    exact R_ireturn (pc := 74) dX11_fill_74 rfl (by decide) (by decide) ⟨rfl, rfl, S2, hF⟩
  | succ d ih =>
    intro k hd h2 S2 hF
    refine R_iload (pc := 37) 0 dX11_fill_37 rfl ?_
    refine R_iload_n (pc := 39) 5 dX11_fill_39 rfl rfl ?_
    refine R_icmp_ge (pc := 40) (tgt := 69) dX11_fill_40 (by decide) (fun c_1 => absurd c_1 (nI_ge (by omega) (by omega))) (fun c_1 => ?_)
    refine R_iload (pc := 43) 1 dX11_fill_43 rfl ?_
    refine R_ldc (pc := 45) dX11_fill_45 cX11_136 ?_
    refine R_imul (pc := 47) dX11_fill_47 ?_
    refine R_ldc (pc := 48) dX11_fill_48 cX11_137 ?_
    refine R_iadd (pc := 50) dX11_fill_50 ?_
    refine R_eqi (y := flS x (k + 1)) (rfl) ?_
    refine R_istore (pc := 51) (lv' := [(5, .int (flS x (k + 1))), (6, .int (nI k)), (4, .ref r), (0, .ref 1), (1, .int v), (2, .int (nI j)), (3, .int x)]) dX11_fill_51 (by decide) rfl ?_
    refine R_aload (pc := 53) 2 dX11_fill_53 rfl ?_
    refine R_iload (pc := 55) 0 dX11_fill_55 rfl ?_
    refine R_bipush (pc := 57) (v := 24) dX11_fill_57 (by decide) ?_
    refine R_iushr (pc := 59) (v := jushr (flS x (k + 1)) 24) dX11_fill_59 rfl ?_
    refine R_callVh (pc := 60) (μ' := mX6_append) (As := [.int (jushr (flS x (k + 1)) 24)]) (st := []) dX11_fill_60 zX6_append lX11_130 ⟨by decide, by decide⟩ rfl rfl ⟨by decide, by decide⟩ (S2.rowO r hr) (by omega) rfl (Nat.le_of_ble_eq_true rfl) (S_append S2 hn hr _ (by rw [ur_s, List.length_append, flL_len]; omega)) (fun h_2 r_ q_3 => ?_)
    obtain ⟨rfl, S_4, F_6⟩ := q_3
    have S_5 : Sys h_2 (ur ρ r ((ρ r ++ flL x k) ++ [t8 (jushr (flS x (k + 1)) 24)])) β κ τ := by have z_ := S_4; (try simp only [ur_s, ur_ur] at z_); exact z_
    refine R_iinc (pc := 63) (j := 1) (v := nI (k + 1)) (lv' := [(6, .int (nI (k + 1))), (5, .int (flS x (k + 1))), (4, .ref r), (0, .ref 1), (1, .int v), (2, .int (nI j)), (3, .int x)]) dX11_fill_63 rfl (nI_1 k) (by decide) rfl ?_
    refine R_goto (pc := 66) (tgt := 37) dX11_fill_66 (by decide) ?_
    refine R_sub [0, 1, 2, 3, 4, 5, 6] rfl ?_
    exact ih (k + 1) (by omega) h_2 (by have z_ := S_5; rw [List.append_assoc] at z_; exact z_) (hF.tr F_6)
set_option maxHeartbeats 4000000 in
set_option maxRecDepth 100000 in
theorem qX11_fill {l : Launch} {w : am_W} {h : am_H} {n : Nat} {ρ : Nat → List (BitVec 8)} {β : Nat → bP} {κ : Nat → kT} {τ : Nat × Nat × Nat} (S : Sys h ρ β κ τ) (hn : 60 ≤ n) (hτ : tOk τ) (v : Int32) (r : Nat) (hv : rowN v r) (i x : Int32) : RH l w mX11_fill h n [.ref 1, .int v, .int i, .int x] (SQ h τ (some (.int (flV (rwN r) (ρ r) i x))) (ur ρ r (flR (rwN r) (ρ r) i x)) β κ) := by
  refine RC.of [(0, .ref 1), (1, .int v), (2, .int i), (3, .int x)] (by decide +kernel) rfl (Nat.le_of_ble_eq_true rfl) ?_
  have hr := hv.rw
  have hlt := S.len r hr
  have hrc := rw_cases hr
  refine R_aload_n (pc := 0) 0 dX11_fill_0 rfl rfl ?_
  refine R_iload_n (pc := 1) 1 dX11_fill_1 rfl rfl ?_
  refine R_callVh (pc := 2) (μ' := mX11_rowOf) (As := [.int v]) (st := []) dX11_fill_2 zX11_rowOf lX11_119 ⟨by decide, by decide⟩ rfl rfl ⟨by decide, by decide⟩ S.2.2.2.2.2.2.2.2.2.2 (by omega) rfl (Nat.le_of_ble_eq_true rfl) (qX11_rowOf S hn _ r hv) (fun h_1 r_ q_2 => ?_)
  obtain ⟨rfl, S_3, F_5⟩ := q_2
  have S_4 : Sys h_1 ρ β κ τ := S_3
  refine R_astore (pc := 5) (lv' := [(4, .ref r), (0, .ref 1), (1, .int v), (2, .int i), (3, .int x)]) dX11_fill_5 (by decide) rfl ?_
  refine R_aload (pc := 7) 0 dX11_fill_7 rfl ?_
  refine R_ifnull (pc := 9) dX11_fill_9 ?_
  refine R_iload_n (pc := 12) 3 dX11_fill_12 rfl rfl ?_
  refine R_if_ge (pc := 13) (tgt := 19) dX11_fill_13 (by decide) (fun c_6 => ?_) (fun c_6 => ?_)
  · skip
    refine R_aload (pc := 19) 0 dX11_fill_19 rfl ?_
    refine R_iload_n (pc := 21) 3 dX11_fill_21 rfl rfl ?_
    refine R_callVp (pc := 22) (μ' := mX6_hasRoomFor) (As := [.int i]) (st := []) dX11_fill_22 zX6_hasRoomFor lX11_126 ⟨by decide, by decide⟩ rfl rfl ⟨by decide, by decide⟩ (S_4.rowO r hr) (by omega) rfl (Nat.le_of_ble_eq_true rfl) (S_hasRoomFor S_4 hn hr _) ?_
    refine R_eqi (y := rmI (rwN r) (ρ r) i) (by first | rfl | (simp only [ur_s, ur_ur])) ?_
    refine R_if_ne (pc := 25) (tgt := 31) dX11_fill_25 (by decide) (fun c_7 => ?_) (fun c_7 => ?_)
    · skip
      refine R_iload_n (pc := 31) 4 dX11_fill_31 rfl rfl ?_
      refine R_istore (pc := 32) (lv' := [(5, .int x), (4, .ref r), (0, .ref 1), (1, .int v), (2, .int i), (3, .int x)]) dX11_fill_32 (by decide) rfl ?_
      refine R_iconst (pc := 34) (v := 0) dX11_fill_34 (by decide) ?_
      refine R_istore (pc := 35) (lv' := [(6, .int 0), (5, .int x), (4, .ref r), (0, .ref 1), (1, .int v), (2, .int i), (3, .int x)]) dX11_fill_35 (by decide) rfl ?_
      obtain ⟨j, hj, rfl⟩ := nI_of (Int32.not_lt.mpr c_6)
      have hjr := rmI_of hj (rwN_le r) (S.1 r hr).1 c_7
      rw [show flR (rwN r) (ρ r) (nI j) x = ρ r ++ flL x j from by unfold flR; rw [if_pos c_6, if_neg c_7, nI_clamp hj], show flV (rwN r) (ρ r) (nI j) x = nI (ρ r ++ flL x j).length from by unfold flV; rw [if_pos c_6, if_neg c_7, nI_clamp hj]]
      refine R_sub [0, 1, 2, 3, 4, 5, 6] rfl ?_
      exact qX11_fill_loop S hn hr v x j hjr j 0 (by omega) h_1 (by have e_ : ρ r ++ flL x 0 = ρ r := List.append_nil _; rw [e_, ur_id]; exact S_4) F_5
    · skip
      refine R_bipush (pc := 28) (v := (-4)) dX11_fill_28 (by decide) ?_
      rw [show flR (rwN r) (ρ r) i x = ρ r from by unfold flR; rw [if_pos c_6, if_pos c_7], ur_id]
      exact R_ireturn (pc := 30) dX11_fill_30 rfl (by decide) (by decide) ⟨rfl, by unfold flV; rw [if_pos c_6, if_pos c_7], S_4, F_5⟩
  · skip
    refine R_bipush (pc := 16) (v := (-2)) dX11_fill_16 (by decide) ?_
    rw [show flR (rwN r) (ρ r) i x = ρ r from by unfold flR; rw [if_neg c_6], ur_id]
    exact R_ireturn (pc := 18) dX11_fill_18 rfl (by decide) (by decide) ⟨rfl, by unfold flV; rw [if_neg c_6], S_4, F_5⟩
