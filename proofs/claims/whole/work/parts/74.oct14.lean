theorem ui_ui (i : mI) (k : Nat) (a b : Int32) : ui (ui i k a) k b = ui i k b := by
  funext x
  unfold ui
  by_cases h : x = k <;> simp [h]
def IE (s : List Nat) (i i2 : mI) : Prop := ∀ k, k ∉ s → i2 k = i k
set_option maxHeartbeats 1000000 in
set_option maxRecDepth 100000 in
theorem oX12_more_73 {l : Launch} {w : am_W} {h : am_H} {n : Nat} {ψ : Nat → oA} {z : fA} {i : mI} (S : MO h ψ z i) (hn : 90 ≤ n) (L : List (BitVec 8)) (hL : L.length ≤ 64) (hs : sg (ψ 73) 0 L) {F G : bP → bP} (K0 : Kh ψ 0 F G) : RH l w mX12_more h n [.ref 61, .ref 73, .int (nI L.length)] (fun h2 q => ∃ ψ2 i2, q = none ∧ MO h2 ψ2 z i2 ∧ IE [7] i i2 ∧ FR [82, 83, 84, 86] ψ ψ2 ∧ gt (ψ2 86) 0 = vst F L (gt (ψ 86) 0) ∧ FM h h2) := by
  refine RC.of [(0, .ref 61), (1, .ref 73), (2, .int (nI L.length))] (by decide +kernel) rfl (Nat.le_of_ble_eq_true rfl) ?_
  refine R_iload_n (pc := 0) 2 dX12_more_0 rfl rfl ?_
  refine R_if_ne (pc := 1) (tgt := 5) dX12_more_1 (by decide) (fun c_1 => ?_) (fun c_1 => ?_)
  · skip
    have nc_1 : ¬ (L.length = 0) := fun q_ => c_1 ((nI_eq (a := L.length) (b := 0) (by omega) (by omega)).mpr q_)
    refine R_aload_n (pc := 5) 1 dX12_more_5 rfl rfl ?_
    refine R_iconst (pc := 6) (v := 0) dX12_more_6 (by decide) ?_
    refine R_aload_n (pc := 7) 0 dX12_more_7 rfl rfl ?_
    refine R_get (pc := 8) dX12_more_8 fX12_80 S.obj (by omega) rfl ?_
    refine R_iconst (pc := 11) (v := 0) dX12_more_11 (by decide) ?_
    refine R_iload_n (pc := 12) 2 dX12_more_12 rfl rfl ?_
    refine R_callSh (pc := 13) (μ' := mX12_copy) (As := [.ref 73, .int (nI 0), .ref 84, .int (nI 0), .int (nI L.length)]) (st := []) dX12_more_13 zX12_copy lX12_133 ⟨by decide, by decide⟩ rfl rfl ⟨by decide, by decide⟩ rfl (Nat.le_of_ble_eq_true rfl) (oX12_copy S hn (p := 73) (q := 84) rfl rfl 0 0 L.length (by show 0 + L.length ≤ 64; omega) (by show 0 + L.length ≤ 700; omega) (by decide)) (fun h_2 r_ q_3 => ?_)
    obtain ⟨rfl, S_4, F_5⟩ := q_3
    have S_6 : MO h_2 (uo ψ 84 (cpB (ψ 73) 0 (ψ 84) 0 L.length)) z i := S_4
    refine R_aload_n (pc := 16) 0 dX12_more_16 rfl rfl ?_
    refine R_iload_n (pc := 17) 2 dX12_more_17 rfl rfl ?_
    refine R_put' (pc := 18) (fs' := [.int (i 0), .ref 62, .ref 63, .int (i 1), .ref 64, .int (i 2), .ref 65, .ref 66, .ref 67, .ref 68, .ref 69, .ref 70, .ref 71, .int (i 3), .ref 72, .int (i 4), .ref 73, .int (i 5), .ref 74, .int (i 6), .ref 75, .ref 76, .ref 77, .ref 78, .ref 79, .ref 80, .ref 81, .ref 82, .ref 83, .ref 84, .int (nI L.length), .ref 85, .ref 86, .ref 87, .ref 88, .ref 89, .ref 90]) dX12_more_18 fX12_195 tX12_30 rfl rfl S_6.obj (by omega) (Nat.le_of_ble_eq_true rfl) rfl (fun h_7 f_8 g_9 => ?_)
    have S_10 : MO h_7 (uo ψ 84 (cpB (ψ 73) 0 (ψ 84) 0 L.length)) z (ui i 7 (nI L.length)) := MO.setI (j := (ui i 7 (nI L.length))) S_6 f_8 g_9
    have F_11 := fmI g_9
    refine R_aload_n (pc := 21) 0 dX12_more_21 rfl rfl ?_
    refine R_iconst (pc := 22) (v := 0) dX12_more_22 (by decide) ?_
    refine R_callVh (pc := 23) (μ' := mX12_macOf) (As := [.int (nI 0)]) (st := []) dX12_more_23 zX12_macOf lX12_211 ⟨by decide, by decide⟩ rfl rfl ⟨by decide, by decide⟩ S_10.obj (by omega) rfl (Nat.le_of_ble_eq_true rfl) (oX12_macOf S_10 hn 0 L (by omega) rfl (K0.uo (by decide)) (hs.cp (ψ 84) 0 rfl)) (fun h_12 r_ q_13 => ?_)
    obtain ⟨ψ_17, rfl, S_14, K_16, J_18, F_15⟩ := q_13
    have K_19 := (K0.uo (by decide)).fr K_16 (by decide) (by decide) (by decide) (by decide)
    refine R_aload_n (pc := 26) 0 dX12_more_26 rfl rfl ?_
    refine R_get (pc := 27) dX12_more_27 fX12_86 S_14.obj (by omega) rfl ?_
    refine R_callSh (pc := 30) (μ' := mX12_doubled) (As := [.ref 86]) (st := []) dX12_more_30 zX12_doubled lX12_192 ⟨by decide, by decide⟩ rfl rfl ⟨by decide, by decide⟩ rfl (Nat.le_of_ble_eq_true rfl) (oX12_doubled S_14 hn (q := 86) rfl (by decide)) (fun h_20 r_ q_21 => ?_)
    obtain ⟨rfl, S_22, F_23⟩ := q_21
    have S_24 : MO h_20 (uo ψ_17 86 (pt (ψ_17 86) 0 (dbl (gt (ψ_17 86) 0)))) z (ui i 7 (nI L.length)) := S_22
    refine R_aload_n (pc := 33) 0 dX12_more_33 rfl rfl ?_
    refine R_get (pc := 34) dX12_more_34 fX12_74 S_24.obj (by omega) rfl ?_
    refine R_iconst (pc := 37) (v := 0) dX12_more_37 (by decide) ?_
    refine R_aload_n (pc := 38) 0 dX12_more_38 rfl rfl ?_
    refine R_get (pc := 39) dX12_more_39 fX12_86 S_24.obj (by omega) rfl ?_
    refine R_iconst (pc := 42) (v := 0) dX12_more_42 (by decide) ?_
    refine R_bipush (pc := 43) (v := 16) dX12_more_43 (by decide) ?_
    refine R_callSh (pc := 45) (μ' := mX12_add) (As := [.ref 82, .int (nI 0), .ref 86, .int (nI 0), .int 16]) (st := []) dX12_more_45 zX12_add lX12_143 ⟨by decide, by decide⟩ rfl rfl ⟨by decide, by decide⟩ rfl (Nat.le_of_ble_eq_true rfl) (oX12_add16 S_24 hn (p := 82) (q := 86) rfl rfl 0 0 (by show 0 + 16 ≤ 16; omega) (by show 0 + 16 ≤ 16; omega) (by decide)) (fun h_25 r_ q_26 => ?_)
    obtain ⟨rfl, S_27, F_28⟩ := q_26
    have S_29 : MO h_25 (uo ψ_17 86 (pt (pt (ψ_17 86) 0 (dbl (gt (ψ_17 86) 0))) 0 (xb (gt (pt (ψ_17 86) 0 (dbl (gt (ψ_17 86) 0))) 0) (gt (ψ_17 82) 0)))) z (ui i 7 (nI L.length)) := by have z_ := S_27; rw [uo_uo] at z_; exact z_
    have hv : gt (pt (pt (ψ_17 86) 0 (dbl (gt (ψ_17 86) 0))) 0 (xb (gt (pt (ψ_17 86) 0 (dbl (gt (ψ_17 86) 0))) 0) (gt (ψ_17 82) 0))) 0 = vst F L (gt (ψ 86) 0) := by
      rw [show vst F L (gt (ψ 86) 0) = xb (dbl (gt (ψ 86) 0)) (macV F L) from if_neg (fun q_ => nc_1 (Nat.le_zero.mp ((nI_leI (a := L.length) (b := 0) (by omega) (by omega)).mp q_)))]
      simp only [gt_pt, pt_pt]
      rw [J_18, show ψ_17 86 = ψ 86 from K_16 86 (by decide)]
    exact R_vreturn (pc := 48) dX12_more_48 rfl (by decide) (by decide) ⟨rfl, _, _, rfl, S_29, fun k_ hk_ => ui_n (fun e_ => hk_ (by rw [e_]; decide)), ((((FR.rf _ _).up (by decide)).tr K_16 (by decide)).up (by decide)), hv, ((((F_5.tr F_11).tr F_15).tr F_23).tr F_28)⟩
  · skip
    have nc_1 : L.length = 0 := (nI_eq (a := L.length) (b := 0) (by omega) (by omega)).mp c_1
    have hv : vst F L (gt (ψ 86) 0) = gt (ψ 86) 0 := if_pos (by rw [c_1]; decide)
    exact R_vreturn (pc := 4) dX12_more_4 rfl (by decide) (by decide) ⟨rfl, ψ, i, rfl, S, fun _ _ => rfl, FR.rf _ _, hv.symm, FM.rf h⟩
set_option maxHeartbeats 1000000 in
set_option maxRecDepth 100000 in
theorem oX12_more_74 {l : Launch} {w : am_W} {h : am_H} {n : Nat} {ψ : Nat → oA} {z : fA} {i : mI} (S : MO h ψ z i) (hn : 90 ≤ n) (L : List (BitVec 8)) (hL : L.length ≤ 256) (hs : sg (ψ 74) 0 L) {F G : bP → bP} (K0 : Kh ψ 0 F G) : RH l w mX12_more h n [.ref 61, .ref 74, .int (nI L.length)] (fun h2 q => ∃ ψ2 i2, q = none ∧ MO h2 ψ2 z i2 ∧ IE [7] i i2 ∧ FR [82, 83, 84, 86] ψ ψ2 ∧ gt (ψ2 86) 0 = vst F L (gt (ψ 86) 0) ∧ FM h h2) := by
  refine RC.of [(0, .ref 61), (1, .ref 74), (2, .int (nI L.length))] (by decide +kernel) rfl (Nat.le_of_ble_eq_true rfl) ?_
  refine R_iload_n (pc := 0) 2 dX12_more_0 rfl rfl ?_
  refine R_if_ne (pc := 1) (tgt := 5) dX12_more_1 (by decide) (fun c_1 => ?_) (fun c_1 => ?_)
  · skip
    have nc_1 : ¬ (L.length = 0) := fun q_ => c_1 ((nI_eq (a := L.length) (b := 0) (by omega) (by omega)).mpr q_)
    refine R_aload_n (pc := 5) 1 dX12_more_5 rfl rfl ?_
    refine R_iconst (pc := 6) (v := 0) dX12_more_6 (by decide) ?_
    refine R_aload_n (pc := 7) 0 dX12_more_7 rfl rfl ?_
    refine R_get (pc := 8) dX12_more_8 fX12_80 S.obj (by omega) rfl ?_
    refine R_iconst (pc := 11) (v := 0) dX12_more_11 (by decide) ?_
    refine R_iload_n (pc := 12) 2 dX12_more_12 rfl rfl ?_
    refine R_callSh (pc := 13) (μ' := mX12_copy) (As := [.ref 74, .int (nI 0), .ref 84, .int (nI 0), .int (nI L.length)]) (st := []) dX12_more_13 zX12_copy lX12_133 ⟨by decide, by decide⟩ rfl rfl ⟨by decide, by decide⟩ rfl (Nat.le_of_ble_eq_true rfl) (oX12_copy S hn (p := 74) (q := 84) rfl rfl 0 0 L.length (by show 0 + L.length ≤ 256; omega) (by show 0 + L.length ≤ 700; omega) (by decide)) (fun h_2 r_ q_3 => ?_)
    obtain ⟨rfl, S_4, F_5⟩ := q_3
    have S_6 : MO h_2 (uo ψ 84 (cpB (ψ 74) 0 (ψ 84) 0 L.length)) z i := S_4
    refine R_aload_n (pc := 16) 0 dX12_more_16 rfl rfl ?_
    refine R_iload_n (pc := 17) 2 dX12_more_17 rfl rfl ?_
    refine R_put' (pc := 18) (fs' := [.int (i 0), .ref 62, .ref 63, .int (i 1), .ref 64, .int (i 2), .ref 65, .ref 66, .ref 67, .ref 68, .ref 69, .ref 70, .ref 71, .int (i 3), .ref 72, .int (i 4), .ref 73, .int (i 5), .ref 74, .int (i 6), .ref 75, .ref 76, .ref 77, .ref 78, .ref 79, .ref 80, .ref 81, .ref 82, .ref 83, .ref 84, .int (nI L.length), .ref 85, .ref 86, .ref 87, .ref 88, .ref 89, .ref 90]) dX12_more_18 fX12_195 tX12_30 rfl rfl S_6.obj (by omega) (Nat.le_of_ble_eq_true rfl) rfl (fun h_7 f_8 g_9 => ?_)
    have S_10 : MO h_7 (uo ψ 84 (cpB (ψ 74) 0 (ψ 84) 0 L.length)) z (ui i 7 (nI L.length)) := MO.setI (j := (ui i 7 (nI L.length))) S_6 f_8 g_9
    have F_11 := fmI g_9
    refine R_aload_n (pc := 21) 0 dX12_more_21 rfl rfl ?_
    refine R_iconst (pc := 22) (v := 0) dX12_more_22 (by decide) ?_
    refine R_callVh (pc := 23) (μ' := mX12_macOf) (As := [.int (nI 0)]) (st := []) dX12_more_23 zX12_macOf lX12_211 ⟨by decide, by decide⟩ rfl rfl ⟨by decide, by decide⟩ S_10.obj (by omega) rfl (Nat.le_of_ble_eq_true rfl) (oX12_macOf S_10 hn 0 L (by omega) rfl (K0.uo (by decide)) (hs.cp (ψ 84) 0 rfl)) (fun h_12 r_ q_13 => ?_)
    obtain ⟨ψ_17, rfl, S_14, K_16, J_18, F_15⟩ := q_13
    have K_19 := (K0.uo (by decide)).fr K_16 (by decide) (by decide) (by decide) (by decide)
    refine R_aload_n (pc := 26) 0 dX12_more_26 rfl rfl ?_
    refine R_get (pc := 27) dX12_more_27 fX12_86 S_14.obj (by omega) rfl ?_
    refine R_callSh (pc := 30) (μ' := mX12_doubled) (As := [.ref 86]) (st := []) dX12_more_30 zX12_doubled lX12_192 ⟨by decide, by decide⟩ rfl rfl ⟨by decide, by decide⟩ rfl (Nat.le_of_ble_eq_true rfl) (oX12_doubled S_14 hn (q := 86) rfl (by decide)) (fun h_20 r_ q_21 => ?_)
    obtain ⟨rfl, S_22, F_23⟩ := q_21
    have S_24 : MO h_20 (uo ψ_17 86 (pt (ψ_17 86) 0 (dbl (gt (ψ_17 86) 0)))) z (ui i 7 (nI L.length)) := S_22
    refine R_aload_n (pc := 33) 0 dX12_more_33 rfl rfl ?_
    refine R_get (pc := 34) dX12_more_34 fX12_74 S_24.obj (by omega) rfl ?_
    refine R_iconst (pc := 37) (v := 0) dX12_more_37 (by decide) ?_
    refine R_aload_n (pc := 38) 0 dX12_more_38 rfl rfl ?_
    refine R_get (pc := 39) dX12_more_39 fX12_86 S_24.obj (by omega) rfl ?_
    refine R_iconst (pc := 42) (v := 0) dX12_more_42 (by decide) ?_
    refine R_bipush (pc := 43) (v := 16) dX12_more_43 (by decide) ?_
    refine R_callSh (pc := 45) (μ' := mX12_add) (As := [.ref 82, .int (nI 0), .ref 86, .int (nI 0), .int 16]) (st := []) dX12_more_45 zX12_add lX12_143 ⟨by decide, by decide⟩ rfl rfl ⟨by decide, by decide⟩ rfl (Nat.le_of_ble_eq_true rfl) (oX12_add16 S_24 hn (p := 82) (q := 86) rfl rfl 0 0 (by show 0 + 16 ≤ 16; omega) (by show 0 + 16 ≤ 16; omega) (by decide)) (fun h_25 r_ q_26 => ?_)
    obtain ⟨rfl, S_27, F_28⟩ := q_26
    have S_29 : MO h_25 (uo ψ_17 86 (pt (pt (ψ_17 86) 0 (dbl (gt (ψ_17 86) 0))) 0 (xb (gt (pt (ψ_17 86) 0 (dbl (gt (ψ_17 86) 0))) 0) (gt (ψ_17 82) 0)))) z (ui i 7 (nI L.length)) := by have z_ := S_27; rw [uo_uo] at z_; exact z_
    have hv : gt (pt (pt (ψ_17 86) 0 (dbl (gt (ψ_17 86) 0))) 0 (xb (gt (pt (ψ_17 86) 0 (dbl (gt (ψ_17 86) 0))) 0) (gt (ψ_17 82) 0))) 0 = vst F L (gt (ψ 86) 0) := by
      rw [show vst F L (gt (ψ 86) 0) = xb (dbl (gt (ψ 86) 0)) (macV F L) from if_neg (fun q_ => nc_1 (Nat.le_zero.mp ((nI_leI (a := L.length) (b := 0) (by omega) (by omega)).mp q_)))]
      simp only [gt_pt, pt_pt]
      rw [J_18, show ψ_17 86 = ψ 86 from K_16 86 (by decide)]
    exact R_vreturn (pc := 48) dX12_more_48 rfl (by decide) (by decide) ⟨rfl, _, _, rfl, S_29, fun k_ hk_ => ui_n (fun e_ => hk_ (by rw [e_]; decide)), ((((FR.rf _ _).up (by decide)).tr K_16 (by decide)).up (by decide)), hv, ((((F_5.tr F_11).tr F_15).tr F_23).tr F_28)⟩
  · skip
    have nc_1 : L.length = 0 := (nI_eq (a := L.length) (b := 0) (by omega) (by omega)).mp c_1
    have hv : vst F L (gt (ψ 86) 0) = gt (ψ 86) 0 := if_pos (by rw [c_1]; decide)
    exact R_vreturn (pc := 4) dX12_more_4 rfl (by decide) (by decide) ⟨rfl, ψ, i, rfl, S, fun _ _ => rfl, FR.rf _ _, hv.symm, FM.rf h⟩
theorem v0_sg (f : oA) : sg (pt f 0 (0, 0)) 0 (pdd 4 [t8 0]) := by
  intro j hj
  have hl : (pdd 4 [t8 0]).length = 16 := by decide
  rw [hl] at hj
  rw [Nat.zero_add, pt_at0 _ _ hj, ob_0 hj]
  have : ∀ j, j < 16 → og (pdd 4 [t8 0]) j = 0 := by decide
  exact (this j hj).symm
theorem layE_hi {f : oA} {L : List (BitVec 8)} {d : bP} (h : sg f 0 L) (h16 : 16 ≤ L.length) (hL : L.length < 2 ^ 30) : sg (pt f (L.length - 16) (xb (gt f (L.length - 16)) d)) 0 (layE L d) ∧ (layE L d).length = L.length := by
  have c : (16 : Int32) ≤ nI L.length := (nI_leI (a := 16) (b := L.length) (by omega) (by omega)).mpr h16
  have eW : leW L = L := if_pos c
  have eD : leD L d = d := if_pos c
  have e : layE L d = L.take (L.length - 16) ++ bt (xb (gt f (L.length - 16)) d) 16 := by
    unfold layE leB
    rw [eW, eD, h.rd (show L.length - 16 + 16 ≤ L.length by omega), Nat.zero_add]
  have l1 : (L.take (L.length - 16)).length = L.length - 16 := by rw [List.length_take]; omega
  rw [e]
  refine ⟨sg.pt (fun j hj => ?_) _ (by rw [l1, Nat.zero_add]) rfl, by rw [List.length_append, l1, bt_len]; omega⟩
  rw [l1] at hj
  rw [og_take _ hj]
  exact h j (by omega)
theorem layE_lo {f : oA} {L : List (BitVec 8)} {d : bP} (h : ∀ j, j < L.length → f j = og L j) (h16 : L.length < 16) : sg (pt (updB (clB f L.length 16) L.length (t8 128)) 0 (xb (gt (updB (clB f L.length 16) L.length (t8 128)) 0) (dbl d))) 0 (layE L d) ∧ (layE L d).length = 16 := by
  have c : ¬ (16 : Int32) ≤ nI L.length := fun q => absurd ((nI_leI (a := 16) (b := L.length) (by omega) (by omega)).mp q) (by omega)
  have eW : leW L = pdd 4 (L ++ [t8 128]) := if_neg c
  have eD : leD L d = dbl d := if_neg c
  have lW : (leW L).length = 16 := by
    rw [eW]
    unfold pdd pad2
    rw [List.length_append, List.length_replicate, List.length_append]
    show L.length + 1 + (2 ^ 4 - (L.length + 1) % 2 ^ 4) % 2 ^ 4 = 16
    omega
  have eg : gt (updB (clB f L.length 16) L.length (t8 128)) 0 = rd (leW L) 0 := gt_of fun k hk => by
    rw [Nat.zero_add, eW]
    unfold pdd
    by_cases q : k < L.length
    · rw [updB_n (by omega), og_app_l (by rw [List.length_append]; omega), og_app_l q]
      unfold clB
      rw [if_neg (by omega), h k q]
    · by_cases q2 : k = L.length
      · rw [q2, updB_s, og_app_l (by rw [List.length_append]; show L.length < L.length + 1; omega), og_app_r (by omega), Nat.sub_self]
        rfl
      · rw [updB_n q2, og_app_r (by rw [List.length_append]; show L.length + 1 ≤ k; omega)]
        unfold clB
        rw [if_pos (by omega), og_rep _ _ (by rw [List.length_append]; show k - (L.length + 1) < pad2 (L.length + 1) 4; unfold pad2; omega)]
  have e : layE L d = [] ++ bt (xb (gt (updB (clB f L.length 16) L.length (t8 128)) 0) (dbl d)) 16 := by
    unfold layE leB
    rw [lW, eD, eg]
    rfl
  rw [e]
  refine ⟨sg.pt (sg.nil _ _) _ rfl rfl, by rw [List.length_append, bt_len]; rfl⟩
set_option maxHeartbeats 1000000 in
set_option maxRecDepth 100000 in
theorem oX12_made_71 {l : Launch} {w : am_W} {h : am_H} {n : Nat} {ψ : Nat → oA} {z : fA} {i : mI} (S : MO h ψ z i) (hn : 90 ≤ n) (A N P : List (BitVec 8)) (hA : A.length ≤ 256) (hN : N.length ≤ 64) (hP : P.length ≤ 528) (hi5 : i 5 = nI N.length) (hi6 : i 6 = nI A.length) (hsA : sg (ψ 74) 0 A) (hsN : sg (ψ 73) 0 N) (hsP : sg (ψ 71) 0 P) {F G : bP → bP} (K0 : Kh ψ 0 F G) : RH l w mX12_made h n [.ref 61, .ref 71, .int 0, .int (nI P.length)] (fun h2 q => ∃ ψ2 i2, q = none ∧ MO h2 ψ2 z i2 ∧ IE [7] i i2 ∧ FR [82, 83, 84, 86] ψ ψ2 ∧ gt (ψ2 82) 0 = mdV F A N P ∧ FM h h2) := by
  refine RC.of [(0, .ref 61), (1, .ref 71), (2, .int 0), (3, .int (nI P.length))] (by decide +kernel) rfl (Nat.le_of_ble_eq_true rfl) ?_
  refine R_aload_n (pc := 0) 0 dX12_made_0 rfl rfl ?_
  refine R_get (pc := 1) dX12_made_1 fX12_80 S.obj (by omega) rfl ?_
  refine R_iconst (pc := 4) (v := 0) dX12_made_4 (by decide) ?_
  refine R_bipush (pc := 5) (v := 16) dX12_made_5 (by decide) ?_
  refine R_callSh (pc := 7) (μ' := mX12_clear) (As := [.ref 84, .int 0, .int 16]) (st := []) dX12_made_7 zX12_clear lX12_164 ⟨by decide, by decide⟩ rfl rfl ⟨by decide, by decide⟩ rfl (Nat.le_of_ble_eq_true rfl) (oX12_clear16 S hn (q := 84) rfl (by decide)) (fun h_1 r_ q_2 => ?_)
  obtain ⟨rfl, S_3, F_4⟩ := q_2
  have S_5 : MO h_1 (uo ψ 84 (pt (ψ 84) 0 (0, 0))) z i := S_3
  refine R_aload_n (pc := 10) 0 dX12_made_10 rfl rfl ?_
  refine R_bipush (pc := 11) (v := 16) dX12_made_11 (by decide) ?_
  refine R_put' (pc := 13) (fs' := [.int (i 0), .ref 62, .ref 63, .int (i 1), .ref 64, .int (i 2), .ref 65, .ref 66, .ref 67, .ref 68, .ref 69, .ref 70, .ref 71, .int (i 3), .ref 72, .int (i 4), .ref 73, .int (i 5), .ref 74, .int (i 6), .ref 75, .ref 76, .ref 77, .ref 78, .ref 79, .ref 80, .ref 81, .ref 82, .ref 83, .ref 84, .int 16, .ref 85, .ref 86, .ref 87, .ref 88, .ref 89, .ref 90]) dX12_made_13 fX12_195 tX12_30 rfl rfl S_5.obj (by omega) (Nat.le_of_ble_eq_true rfl) rfl (fun h_6 f_7 g_8 => ?_)
  have S_9 : MO h_6 (uo ψ 84 (pt (ψ 84) 0 (0, 0))) z (ui i 7 16) := MO.setI (j := (ui i 7 16)) S_5 f_7 g_8
  have F_10 := fmI g_8
  refine R_aload_n (pc := 16) 0 dX12_made_16 rfl rfl ?_
  refine R_iconst (pc := 17) (v := 0) dX12_made_17 (by decide) ?_
  refine R_callVh (pc := 18) (μ' := mX12_macOf) (As := [.int (nI 0)]) (st := []) dX12_made_18 zX12_macOf lX12_211 ⟨by decide, by decide⟩ rfl rfl ⟨by decide, by decide⟩ S_9.obj (by omega) rfl (Nat.le_of_ble_eq_true rfl) (oX12_macOf S_9 hn 0 (pdd 4 [t8 0]) (by decide) rfl (K0.uo (by decide)) (v0_sg _)) (fun h_11 r_ q_12 => ?_)
  obtain ⟨ψ_16, rfl, S_13, K_15, J_17, F_14⟩ := q_12
  have K_18 := (K0.uo (by decide)).fr K_15 (by decide) (by decide) (by decide) (by decide)
  refine R_aload_n (pc := 21) 0 dX12_made_21 rfl rfl ?_
  refine R_get (pc := 22) dX12_made_22 fX12_74 S_13.obj (by omega) rfl ?_
  refine R_iconst (pc := 25) (v := 0) dX12_made_25 (by decide) ?_
  refine R_aload_n (pc := 26) 0 dX12_made_26 rfl rfl ?_
  refine R_get (pc := 27) dX12_made_27 fX12_86 S_13.obj (by omega) rfl ?_
  refine R_iconst (pc := 30) (v := 0) dX12_made_30 (by decide) ?_
  refine R_bipush (pc := 31) (v := 16) dX12_made_31 (by decide) ?_
  refine R_callSh (pc := 33) (μ' := mX12_copy) (As := [.ref 82, .int (nI 0), .ref 86, .int (nI 0), .int 16]) (st := []) dX12_made_33 zX12_copy lX12_133 ⟨by decide, by decide⟩ rfl rfl ⟨by decide, by decide⟩ rfl (Nat.le_of_ble_eq_true rfl) (oX12_copy16 S_13 hn (p := 82) (q := 86) rfl rfl 0 0 (by show 0 + 16 ≤ 16; omega) (by show 0 + 16 ≤ 16; omega) (by decide)) (fun h_19 r_ q_20 => ?_)
  obtain ⟨rfl, S_21, F_22⟩ := q_20
  have S_23 : MO h_19 (uo ψ_16 86 (pt (ψ_16 86) 0 (gt (ψ_16 82) 0))) z (ui i 7 16) := S_21
  refine R_aload_n (pc := 36) 0 dX12_made_36 rfl rfl ?_
  refine R_aload_n (pc := 37) 0 dX12_made_37 rfl rfl ?_
  refine R_get (pc := 38) dX12_made_38 fX12_50 S_23.obj (by omega) rfl ?_
  refine R_aload_n (pc := 41) 0 dX12_made_41 rfl rfl ?_
  refine R_get (pc := 42) dX12_made_42 fX12_140 S_23.obj (by omega) rfl ?_
  refine R_eqi (y := nI A.length) (hi6) ?_
  have hs45 : sg (ψ_16 74) 0 A := by rw [show ψ_16 74 = ψ 74 from (show FR [82, 83, 84, 86] ψ _ from (((FR.rf _ _).up (by decide)).tr K_15 (by decide))) 74 (by decide)]; exact hsA
  refine R_callVh (pc := 45) (μ' := mX12_more) (As := [.ref 74, .int (nI A.length)]) (st := []) dX12_made_45 zX12_more lX12_217 ⟨by decide, by decide⟩ rfl rfl ⟨by decide, by decide⟩ S_23.obj (by omega) rfl (Nat.le_of_ble_eq_true rfl) (oX12_more_74 S_23 hn A (by omega) hs45 (K_18.uo (by decide))) (fun h_24 r_ q_25 => ?_)
  obtain ⟨ψ_29, i_31, rfl, S_26, I_32, K_28, J_30, F_27⟩ := q_25
  have K_33 := (K_18.uo (by decide)).fr K_28 (by decide) (by decide) (by decide) (by decide)
  have d1 : gt (ψ_29 86) 0 = vst F A (v0 F) := by have z_ : gt (ψ_29 86) 0 = vst F A (gt (pt (ψ_16 86) 0 (gt (ψ_16 82) 0)) 0) := J_30; rw [show gt (pt (ψ_16 86) 0 (gt (ψ_16 82) 0)) 0 = v0 F from (gt_pt _ _ _).trans J_17] at z_; exact z_
  refine R_aload_n (pc := 48) 0 dX12_made_48 rfl rfl ?_
  refine R_aload_n (pc := 49) 0 dX12_made_49 rfl rfl ?_
  refine R_get (pc := 50) dX12_made_50 fX12_47 S_26.obj (by omega) rfl ?_
  refine R_aload_n (pc := 53) 0 dX12_made_53 rfl rfl ?_
  refine R_get (pc := 54) dX12_made_54 fX12_137 S_26.obj (by omega) rfl ?_
  refine R_eqi (y := nI N.length) ((I_32 5 (by decide)).trans (hi5)) ?_
  have hs57 : sg (ψ_29 73) 0 N := by rw [show ψ_29 73 = ψ 73 from (show FR [82, 83, 84, 86] ψ _ from (((((FR.rf _ _).up (by decide)).tr K_15 (by decide)).up (by decide)).tr K_28 (by decide))) 73 (by decide)]; exact hsN
  refine R_callVh (pc := 57) (μ' := mX12_more) (As := [.ref 73, .int (nI N.length)]) (st := []) dX12_made_57 zX12_more lX12_217 ⟨by decide, by decide⟩ rfl rfl ⟨by decide, by decide⟩ S_26.obj (by omega) rfl (Nat.le_of_ble_eq_true rfl) (oX12_more_73 S_26 hn N (by omega) hs57 K_33) (fun h_34 r_ q_35 => ?_)
  obtain ⟨ψ_39, i_41, rfl, S_36, I_42, K_38, J_40, F_37⟩ := q_35
  have K_43 := K_33.fr K_38 (by decide) (by decide) (by decide) (by decide)
  have d2 : gt (ψ_39 86) 0 = vst F N (vst F A (v0 F)) := by have z_ := J_40; rw [d1] at z_; exact z_
  refine R_aload_n (pc := 60) 1 dX12_made_60 rfl rfl ?_
  refine R_iload_n (pc := 61) 2 dX12_made_61 rfl rfl ?_
  refine R_aload_n (pc := 62) 0 dX12_made_62 rfl rfl ?_
  refine R_get (pc := 63) dX12_made_63 fX12_80 S_36.obj (by omega) rfl ?_
  refine R_iconst (pc := 66) (v := 0) dX12_made_66 (by decide) ?_
  refine R_iload_n (pc := 67) 3 dX12_made_67 rfl rfl ?_
  refine R_callSh (pc := 68) (μ' := mX12_copy) (As := [.ref 71, .int (nI 0), .ref 84, .int (nI 0), .int (nI P.length)]) (st := []) dX12_made_68 zX12_copy lX12_133 ⟨by decide, by decide⟩ rfl rfl ⟨by decide, by decide⟩ rfl (Nat.le_of_ble_eq_true rfl) (oX12_copy S_36 hn (p := 71) (q := 84) rfl rfl 0 0 P.length (by show 0 + P.length ≤ 700; omega) (by show 0 + P.length ≤ 700; omega) (by decide)) (fun h_44 r_ q_45 => ?_)
  obtain ⟨rfl, S_46, F_47⟩ := q_45
  have S_48 : MO h_44 (uo ψ_39 84 (cpB (ψ_39 71) 0 (ψ_39 84) 0 P.length)) z i_41 := S_46
  refine R_aload_n (pc := 71) 0 dX12_made_71 rfl rfl ?_
  refine R_iload_n (pc := 72) 3 dX12_made_72 rfl rfl ?_
  refine R_put' (pc := 73) (fs' := [.int (i_41 0), .ref 62, .ref 63, .int (i_41 1), .ref 64, .int (i_41 2), .ref 65, .ref 66, .ref 67, .ref 68, .ref 69, .ref 70, .ref 71, .int (i_41 3), .ref 72, .int (i_41 4), .ref 73, .int (i_41 5), .ref 74, .int (i_41 6), .ref 75, .ref 76, .ref 77, .ref 78, .ref 79, .ref 80, .ref 81, .ref 82, .ref 83, .ref 84, .int (nI P.length), .ref 85, .ref 86, .ref 87, .ref 88, .ref 89, .ref 90]) dX12_made_73 fX12_195 tX12_30 rfl rfl S_48.obj (by omega) (Nat.le_of_ble_eq_true rfl) rfl (fun h_49 f_50 g_51 => ?_)
  have S_52 : MO h_49 (uo ψ_39 84 (cpB (ψ_39 71) 0 (ψ_39 84) 0 P.length)) z (ui i_41 7 (nI P.length)) := MO.setI (j := (ui i_41 7 (nI P.length))) S_48 f_50 g_51
  have F_53 := fmI g_51
  refine R_iload_n (pc := 76) 3 dX12_made_76 rfl rfl ?_
  refine R_bipush (pc := 77) (v := 16) dX12_made_77 (by decide) ?_
  refine R_icmp_lt (pc := 79) (tgt := 103) dX12_made_79 (by decide) (fun c_54 => ?_) (fun c_54 => ?_)
  · skip
    have nc_54 : P.length < 16 := (nI_ltI (a := P.length) (b := 16) (by omega) (by omega)).mp c_54
    refine R_aload_n (pc := 103) 0 dX12_made_103 rfl rfl ?_
    refine R_get (pc := 104) dX12_made_104 fX12_80 S_52.obj (by omega) rfl ?_
    refine R_iload_n (pc := 107) 3 dX12_made_107 rfl rfl ?_
    refine R_bipush (pc := 108) (v := 16) dX12_made_108 (by decide) ?_
    refine R_callSh (pc := 110) (μ' := mX12_clear) (As := [.ref 84, .int (nI P.length), .int (nI 16)]) (st := []) dX12_made_110 zX12_clear lX12_164 ⟨by decide, by decide⟩ rfl rfl ⟨by decide, by decide⟩ rfl (Nat.le_of_ble_eq_true rfl) (oX12_clear S_52 hn (q := 84) rfl P.length 16 (by omega) (by show 16 ≤ 700; omega)) (fun h_55 r_ q_56 => ?_)
    obtain ⟨rfl, S_57, F_58⟩ := q_56
    have S_59 : MO h_55 (uo ψ_39 84 (clB (cpB (ψ_39 71) 0 (ψ_39 84) 0 P.length) P.length 16)) z (ui i_41 7 (nI P.length)) := by have z_ := S_57; rw [uo_uo] at z_; exact z_
    refine R_aload_n (pc := 113) 0 dX12_made_113 rfl rfl ?_
    refine R_get (pc := 114) dX12_made_114 fX12_80 S_59.obj (by omega) rfl ?_
    refine R_iload_n (pc := 117) 3 dX12_made_117 rfl rfl ?_
    refine R_sipush (pc := 118) (v := 128) dX12_made_118 (by decide) ?_
    refine R_eqi (y := oc (t8 128)) (by decide) ?_
    refine R_iast' (pc := 121) (j := P.length) dX12_made_121 (S_59.arr (p := 84) rfl) (by omega) ⟨rfl, by show P.length < 700; omega, by decide⟩ (fun h_60 f_61 g_62 => ?_)
    have S_64 : MO h_60 (uo ψ_39 84 (updB (clB (cpB (ψ_39 71) 0 (ψ_39 84) 0 P.length) P.length 16) P.length (t8 128))) z (ui i_41 7 (nI P.length)) := by have z_ := MO.setA (p := 84) S_59 rfl f_61 g_62 (fun j_ => congrFun (upd_oc _ _ _) j_); rw [uo_uo] at z_; exact z_
    have F_63 := fmA (p := 84) (okA_c (by decide)).1 g_62
    refine R_aload_n (pc := 122) 0 dX12_made_122 rfl rfl ?_
    refine R_get (pc := 123) dX12_made_123 fX12_86 S_64.obj (by omega) rfl ?_
    refine R_callSh (pc := 126) (μ' := mX12_doubled) (As := [.ref 86]) (st := []) dX12_made_126 zX12_doubled lX12_192 ⟨by decide, by decide⟩ rfl rfl ⟨by decide, by decide⟩ rfl (Nat.le_of_ble_eq_true rfl) (oX12_doubled S_64 hn (q := 86) rfl (by decide)) (fun h_65 r_ q_66 => ?_)
    obtain ⟨rfl, S_67, F_68⟩ := q_66
    have S_69 : MO h_65 (uo (uo ψ_39 84 (updB (clB (cpB (ψ_39 71) 0 (ψ_39 84) 0 P.length) P.length 16) P.length (t8 128))) 86 (pt (ψ_39 86) 0 (dbl (gt (ψ_39 86) 0)))) z (ui i_41 7 (nI P.length)) := S_67
    refine R_aload_n (pc := 129) 0 dX12_made_129 rfl rfl ?_
    refine R_get (pc := 130) dX12_made_130 fX12_86 S_69.obj (by omega) rfl ?_
    refine R_iconst (pc := 133) (v := 0) dX12_made_133 (by decide) ?_
    refine R_aload_n (pc := 134) 0 dX12_made_134 rfl rfl ?_
    refine R_get (pc := 135) dX12_made_135 fX12_80 S_69.obj (by omega) rfl ?_
    refine R_iconst (pc := 138) (v := 0) dX12_made_138 (by decide) ?_
    refine R_bipush (pc := 139) (v := 16) dX12_made_139 (by decide) ?_
    refine R_callSh (pc := 141) (μ' := mX12_add) (As := [.ref 86, .int (nI 0), .ref 84, .int (nI 0), .int 16]) (st := []) dX12_made_141 zX12_add lX12_143 ⟨by decide, by decide⟩ rfl rfl ⟨by decide, by decide⟩ rfl (Nat.le_of_ble_eq_true rfl) (oX12_add16 S_69 hn (p := 86) (q := 84) rfl rfl 0 0 (by show 0 + 16 ≤ 16; omega) (by show 0 + 16 ≤ 700; omega) (by decide)) (fun h_70 r_ q_71 => ?_)
    obtain ⟨rfl, S_72, F_73⟩ := q_71
    have S_74 : MO h_70 (uo (uo (uo ψ_39 84 (updB (clB (cpB (ψ_39 71) 0 (ψ_39 84) 0 P.length) P.length 16) P.length (t8 128))) 86 (pt (ψ_39 86) 0 (dbl (gt (ψ_39 86) 0)))) 84 (pt (updB (clB (cpB (ψ_39 71) 0 (ψ_39 84) 0 P.length) P.length 16) P.length (t8 128)) 0 (xb (gt (updB (clB (cpB (ψ_39 71) 0 (ψ_39 84) 0 P.length) P.length 16) P.length (t8 128)) 0) (gt (pt (ψ_39 86) 0 (dbl (gt (ψ_39 86) 0))) 0)))) z (ui i_41 7 (nI P.length)) := S_72
    refine R_aload_n (pc := 144) 0 dX12_made_144 rfl rfl ?_
    refine R_bipush (pc := 145) (v := 16) dX12_made_145 (by decide) ?_
    refine R_put' (pc := 147) (fs' := [.int (i_41 0), .ref 62, .ref 63, .int (i_41 1), .ref 64, .int (i_41 2), .ref 65, .ref 66, .ref 67, .ref 68, .ref 69, .ref 70, .ref 71, .int (i_41 3), .ref 72, .int (i_41 4), .ref 73, .int (i_41 5), .ref 74, .int (i_41 6), .ref 75, .ref 76, .ref 77, .ref 78, .ref 79, .ref 80, .ref 81, .ref 82, .ref 83, .ref 84, .int 16, .ref 85, .ref 86, .ref 87, .ref 88, .ref 89, .ref 90]) dX12_made_147 fX12_195 tX12_30 rfl rfl S_74.obj (by omega) (Nat.le_of_ble_eq_true rfl) rfl (fun h_75 f_76 g_77 => ?_)
    have S_78 : MO h_75 (uo (uo (uo ψ_39 84 (updB (clB (cpB (ψ_39 71) 0 (ψ_39 84) 0 P.length) P.length 16) P.length (t8 128))) 86 (pt (ψ_39 86) 0 (dbl (gt (ψ_39 86) 0)))) 84 (pt (updB (clB (cpB (ψ_39 71) 0 (ψ_39 84) 0 P.length) P.length 16) P.length (t8 128)) 0 (xb (gt (updB (clB (cpB (ψ_39 71) 0 (ψ_39 84) 0 P.length) P.length 16) P.length (t8 128)) 0) (gt (pt (ψ_39 86) 0 (dbl (gt (ψ_39 86) 0))) 0)))) z (ui i_41 7 16) := MO.setI (j := (ui i_41 7 16)) S_74 f_76 g_77
    have F_79 := fmI g_77
    refine R_aload_n (pc := 150) 0 dX12_made_150 rfl rfl ?_
    refine R_iconst (pc := 151) (v := 0) dX12_made_151 (by decide) ?_
    have eP : ∀ g : oA, sg (cpB (ψ_39 71) 0 g 0 P.length) 0 P := fun g => sg.cp (by rw [show ψ_39 71 = ψ 71 from (show FR [82, 83, 84, 86] ψ _ from ((((((FR.rf _ _).up (by decide)).tr K_15 (by decide)).up (by decide)).tr K_28 (by decide)).tr K_38 (by decide))) 71 (by decide)]; exact hsP) g 0 rfl
    have lay := layE_lo (f := cpB (ψ_39 71) 0 (ψ_39 84) 0 P.length) (L := P) (d := gt (ψ_39 86) 0) (fun j_ hj_ => sg0 (eP _) hj_) (by omega)
    have sM : sg (pt (updB (clB (cpB (ψ_39 71) 0 (ψ_39 84) 0 P.length) P.length 16) P.length (t8 128)) 0 (xb (gt (updB (clB (cpB (ψ_39 71) 0 (ψ_39 84) 0 P.length) P.length 16) P.length (t8 128)) 0) (gt (pt (ψ_39 86) 0 (dbl (gt (ψ_39 86) 0))) 0))) 0 (layE P (gt (ψ_39 86) 0)) := by have z_ := lay.1; simp only [gt_pt]; exact z_
    have S9 : MO h_75 (uo (uo (uo ψ_39 84 (updB (clB (cpB (ψ_39 71) 0 (ψ_39 84) 0 P.length) P.length 16) P.length (t8 128))) 86 (pt (ψ_39 86) 0 (dbl (gt (ψ_39 86) 0)))) 84 (pt (updB (clB (cpB (ψ_39 71) 0 (ψ_39 84) 0 P.length) P.length 16) P.length (t8 128)) 0 (xb (gt (updB (clB (cpB (ψ_39 71) 0 (ψ_39 84) 0 P.length) P.length 16) P.length (t8 128)) 0) (gt (pt (ψ_39 86) 0 (dbl (gt (ψ_39 86) 0))) 0)))) z (ui i_41 7 (nI (layE P (gt (ψ_39 86) 0)).length)) := by rw [lay.2]; exact S_78
    refine R_callVh (pc := 152) (μ' := mX12_macOf) (As := [.int (nI 0)]) (st := []) dX12_made_152 zX12_macOf lX12_211 ⟨by decide, by decide⟩ rfl rfl ⟨by decide, by decide⟩ S9.obj (by omega) rfl (Nat.le_of_ble_eq_true rfl) (oX12_macOf S9 hn 0 (layE P (gt (ψ_39 86) 0)) (by rw [lay.2]; omega) rfl (((K_43.uo (by decide)).uo (by decide)).uo (by decide)) sM) (fun h_80 r_ q_81 => ?_)
    obtain ⟨ψ_85, rfl, S_82, K_84, J_86, F_83⟩ := q_81
    have K_87 := (((K_43.uo (by decide)).uo (by decide)).uo (by decide)).fr K_84 (by decide) (by decide) (by decide) (by decide)
    have hy : gt (ψ_85 82) 0 = mdV F A N P := by have z_ := J_86; rw [d2] at z_; exact z_
    have hI : IE [7] i (ui i_41 7 (nI (layE P (gt (ψ_39 86) 0)).length)) := fun k_ hk_ => by rw [ui_n (fun e_ => hk_ (by rw [e_]; decide)), I_42 k_ hk_, I_32 k_ hk_]; exact ui_n (fun e_ => hk_ (by rw [e_]; decide))
    exact R_vreturn (pc := 155) dX12_made_155 rfl (by decide) (by decide) ⟨rfl, _, _, rfl, S_82, hI, ((((((((((FR.rf _ _).up (by decide)).tr K_15 (by decide)).up (by decide)).tr K_28 (by decide)).tr K_38 (by decide)).up (by decide)).up (by decide)).up (by decide)).tr K_84 (by decide)), hy, (((((((((((((F_4.tr F_10).tr F_14).tr F_22).tr F_27).tr F_37).tr F_47).tr F_53).tr F_58).tr F_63).tr F_68).tr F_73).tr F_79).tr F_83)⟩
  · skip
    have nc_54 : ¬ (P.length < 16) := fun q_ => c_54 ((nI_ltI (a := P.length) (b := 16) (by omega) (by omega)).mpr q_)
    refine R_aload_n (pc := 82) 0 dX12_made_82 rfl rfl ?_
    refine R_get (pc := 83) dX12_made_83 fX12_86 S_52.obj (by omega) rfl ?_
    refine R_iconst (pc := 86) (v := 0) dX12_made_86 (by decide) ?_
    refine R_aload_n (pc := 87) 0 dX12_made_87 rfl rfl ?_
    refine R_get (pc := 88) dX12_made_88 fX12_80 S_52.obj (by omega) rfl ?_
    refine R_iload_n (pc := 91) 3 dX12_made_91 rfl rfl ?_
    refine R_bipush (pc := 92) (v := 16) dX12_made_92 (by decide) ?_
    refine R_isub (pc := 94) dX12_made_94 ?_
    refine R_eqi (y := nI (P.length - 16)) (nI_sb (a := P.length) (b := 16) (by omega)) ?_
    refine R_bipush (pc := 95) (v := 16) dX12_made_95 (by decide) ?_
    refine R_callSh (pc := 97) (μ' := mX12_add) (As := [.ref 86, .int (nI 0), .ref 84, .int (nI (P.length - 16)), .int 16]) (st := []) dX12_made_97 zX12_add lX12_143 ⟨by decide, by decide⟩ rfl rfl ⟨by decide, by decide⟩ rfl (Nat.le_of_ble_eq_true rfl) (oX12_add16 S_52 hn (p := 86) (q := 84) rfl rfl 0 (P.length - 16) (by show 0 + 16 ≤ 16; omega) (by show P.length - 16 + 16 ≤ 700; omega) (by decide)) (fun h_88 r_ q_89 => ?_)
    obtain ⟨rfl, S_90, F_91⟩ := q_89
    have S_92 : MO h_88 (uo ψ_39 84 (pt (cpB (ψ_39 71) 0 (ψ_39 84) 0 P.length) (P.length - 16) (xb (gt (cpB (ψ_39 71) 0 (ψ_39 84) 0 P.length) (P.length - 16)) (gt (ψ_39 86) 0)))) z (ui i_41 7 (nI P.length)) := by have z_ := S_90; rw [uo_uo] at z_; exact z_
    refine R_goto (pc := 100) (tgt := 150) dX12_made_100 (by decide) ?_
    refine R_aload_n (pc := 150) 0 dX12_made_150 rfl rfl ?_
    refine R_iconst (pc := 151) (v := 0) dX12_made_151 (by decide) ?_
    have eP : ∀ g : oA, sg (cpB (ψ_39 71) 0 g 0 P.length) 0 P := fun g => sg.cp (by rw [show ψ_39 71 = ψ 71 from (show FR [82, 83, 84, 86] ψ _ from ((((((FR.rf _ _).up (by decide)).tr K_15 (by decide)).up (by decide)).tr K_28 (by decide)).tr K_38 (by decide))) 71 (by decide)]; exact hsP) g 0 rfl
    have lay := layE_hi (d := gt (ψ_39 86) 0) (eP (ψ_39 84)) (by omega) (by omega)
    have sM : sg (pt (cpB (ψ_39 71) 0 (ψ_39 84) 0 P.length) (P.length - 16) (xb (gt (cpB (ψ_39 71) 0 (ψ_39 84) 0 P.length) (P.length - 16)) (gt (ψ_39 86) 0))) 0 (layE P (gt (ψ_39 86) 0)) := by have z_ := lay.1; exact z_
    have S9 : MO h_88 (uo ψ_39 84 (pt (cpB (ψ_39 71) 0 (ψ_39 84) 0 P.length) (P.length - 16) (xb (gt (cpB (ψ_39 71) 0 (ψ_39 84) 0 P.length) (P.length - 16)) (gt (ψ_39 86) 0)))) z (ui i_41 7 (nI (layE P (gt (ψ_39 86) 0)).length)) := by rw [lay.2]; exact S_92
    refine R_callVh (pc := 152) (μ' := mX12_macOf) (As := [.int (nI 0)]) (st := []) dX12_made_152 zX12_macOf lX12_211 ⟨by decide, by decide⟩ rfl rfl ⟨by decide, by decide⟩ S9.obj (by omega) rfl (Nat.le_of_ble_eq_true rfl) (oX12_macOf S9 hn 0 (layE P (gt (ψ_39 86) 0)) (by rw [lay.2]; omega) rfl (K_43.uo (by decide)) sM) (fun h_93 r_ q_94 => ?_)
    obtain ⟨ψ_98, rfl, S_95, K_97, J_99, F_96⟩ := q_94
    have K_100 := (K_43.uo (by decide)).fr K_97 (by decide) (by decide) (by decide) (by decide)
    have hy : gt (ψ_98 82) 0 = mdV F A N P := by have z_ := J_99; rw [d2] at z_; exact z_
    have hI : IE [7] i (ui i_41 7 (nI (layE P (gt (ψ_39 86) 0)).length)) := fun k_ hk_ => by rw [ui_n (fun e_ => hk_ (by rw [e_]; decide)), I_42 k_ hk_, I_32 k_ hk_]; exact ui_n (fun e_ => hk_ (by rw [e_]; decide))
    exact R_vreturn (pc := 155) dX12_made_155 rfl (by decide) (by decide) ⟨rfl, _, _, rfl, S_95, hI, ((((((((FR.rf _ _).up (by decide)).tr K_15 (by decide)).up (by decide)).tr K_28 (by decide)).tr K_38 (by decide)).up (by decide)).tr K_97 (by decide)), hy, (((((((((F_4.tr F_10).tr F_14).tr F_22).tr F_27).tr F_37).tr F_47).tr F_53).tr F_91).tr F_96)⟩
set_option maxHeartbeats 1000000 in
set_option maxRecDepth 100000 in
theorem oX12_made_72 {l : Launch} {w : am_W} {h : am_H} {n : Nat} {ψ : Nat → oA} {z : fA} {i : mI} (S : MO h ψ z i) (hn : 90 ≤ n) (A N P : List (BitVec 8)) (hA : A.length ≤ 256) (hN : N.length ≤ 64) (hP : P.length ≤ 528) (hi5 : i 5 = nI N.length) (hi6 : i 6 = nI A.length) (hsA : sg (ψ 74) 0 A) (hsN : sg (ψ 73) 0 N) (hsP : sg (ψ 72) 0 P) {F G : bP → bP} (K0 : Kh ψ 0 F G) : RH l w mX12_made h n [.ref 61, .ref 72, .int 0, .int (nI P.length)] (fun h2 q => ∃ ψ2 i2, q = none ∧ MO h2 ψ2 z i2 ∧ IE [7] i i2 ∧ FR [82, 83, 84, 86] ψ ψ2 ∧ gt (ψ2 82) 0 = mdV F A N P ∧ FM h h2) := by
  refine RC.of [(0, .ref 61), (1, .ref 72), (2, .int 0), (3, .int (nI P.length))] (by decide +kernel) rfl (Nat.le_of_ble_eq_true rfl) ?_
  refine R_aload_n (pc := 0) 0 dX12_made_0 rfl rfl ?_
  refine R_get (pc := 1) dX12_made_1 fX12_80 S.obj (by omega) rfl ?_
  refine R_iconst (pc := 4) (v := 0) dX12_made_4 (by decide) ?_
  refine R_bipush (pc := 5) (v := 16) dX12_made_5 (by decide) ?_
  refine R_callSh (pc := 7) (μ' := mX12_clear) (As := [.ref 84, .int 0, .int 16]) (st := []) dX12_made_7 zX12_clear lX12_164 ⟨by decide, by decide⟩ rfl rfl ⟨by decide, by decide⟩ rfl (Nat.le_of_ble_eq_true rfl) (oX12_clear16 S hn (q := 84) rfl (by decide)) (fun h_1 r_ q_2 => ?_)
  obtain ⟨rfl, S_3, F_4⟩ := q_2
  have S_5 : MO h_1 (uo ψ 84 (pt (ψ 84) 0 (0, 0))) z i := S_3
  refine R_aload_n (pc := 10) 0 dX12_made_10 rfl rfl ?_
  refine R_bipush (pc := 11) (v := 16) dX12_made_11 (by decide) ?_
  refine R_put' (pc := 13) (fs' := [.int (i 0), .ref 62, .ref 63, .int (i 1), .ref 64, .int (i 2), .ref 65, .ref 66, .ref 67, .ref 68, .ref 69, .ref 70, .ref 71, .int (i 3), .ref 72, .int (i 4), .ref 73, .int (i 5), .ref 74, .int (i 6), .ref 75, .ref 76, .ref 77, .ref 78, .ref 79, .ref 80, .ref 81, .ref 82, .ref 83, .ref 84, .int 16, .ref 85, .ref 86, .ref 87, .ref 88, .ref 89, .ref 90]) dX12_made_13 fX12_195 tX12_30 rfl rfl S_5.obj (by omega) (Nat.le_of_ble_eq_true rfl) rfl (fun h_6 f_7 g_8 => ?_)
  have S_9 : MO h_6 (uo ψ 84 (pt (ψ 84) 0 (0, 0))) z (ui i 7 16) := MO.setI (j := (ui i 7 16)) S_5 f_7 g_8
  have F_10 := fmI g_8
  refine R_aload_n (pc := 16) 0 dX12_made_16 rfl rfl ?_
  refine R_iconst (pc := 17) (v := 0) dX12_made_17 (by decide) ?_
  refine R_callVh (pc := 18) (μ' := mX12_macOf) (As := [.int (nI 0)]) (st := []) dX12_made_18 zX12_macOf lX12_211 ⟨by decide, by decide⟩ rfl rfl ⟨by decide, by decide⟩ S_9.obj (by omega) rfl (Nat.le_of_ble_eq_true rfl) (oX12_macOf S_9 hn 0 (pdd 4 [t8 0]) (by decide) rfl (K0.uo (by decide)) (v0_sg _)) (fun h_11 r_ q_12 => ?_)
  obtain ⟨ψ_16, rfl, S_13, K_15, J_17, F_14⟩ := q_12
  have K_18 := (K0.uo (by decide)).fr K_15 (by decide) (by decide) (by decide) (by decide)
  refine R_aload_n (pc := 21) 0 dX12_made_21 rfl rfl ?_
  refine R_get (pc := 22) dX12_made_22 fX12_74 S_13.obj (by omega) rfl ?_
  refine R_iconst (pc := 25) (v := 0) dX12_made_25 (by decide) ?_
  refine R_aload_n (pc := 26) 0 dX12_made_26 rfl rfl ?_
  refine R_get (pc := 27) dX12_made_27 fX12_86 S_13.obj (by omega) rfl ?_
  refine R_iconst (pc := 30) (v := 0) dX12_made_30 (by decide) ?_
  refine R_bipush (pc := 31) (v := 16) dX12_made_31 (by decide) ?_
  refine R_callSh (pc := 33) (μ' := mX12_copy) (As := [.ref 82, .int (nI 0), .ref 86, .int (nI 0), .int 16]) (st := []) dX12_made_33 zX12_copy lX12_133 ⟨by decide, by decide⟩ rfl rfl ⟨by decide, by decide⟩ rfl (Nat.le_of_ble_eq_true rfl) (oX12_copy16 S_13 hn (p := 82) (q := 86) rfl rfl 0 0 (by show 0 + 16 ≤ 16; omega) (by show 0 + 16 ≤ 16; omega) (by decide)) (fun h_19 r_ q_20 => ?_)
  obtain ⟨rfl, S_21, F_22⟩ := q_20
  have S_23 : MO h_19 (uo ψ_16 86 (pt (ψ_16 86) 0 (gt (ψ_16 82) 0))) z (ui i 7 16) := S_21
  refine R_aload_n (pc := 36) 0 dX12_made_36 rfl rfl ?_
  refine R_aload_n (pc := 37) 0 dX12_made_37 rfl rfl ?_
  refine R_get (pc := 38) dX12_made_38 fX12_50 S_23.obj (by omega) rfl ?_
  refine R_aload_n (pc := 41) 0 dX12_made_41 rfl rfl ?_
  refine R_get (pc := 42) dX12_made_42 fX12_140 S_23.obj (by omega) rfl ?_
  refine R_eqi (y := nI A.length) (hi6) ?_
  have hs45 : sg (ψ_16 74) 0 A := by rw [show ψ_16 74 = ψ 74 from (show FR [82, 83, 84, 86] ψ _ from (((FR.rf _ _).up (by decide)).tr K_15 (by decide))) 74 (by decide)]; exact hsA
  refine R_callVh (pc := 45) (μ' := mX12_more) (As := [.ref 74, .int (nI A.length)]) (st := []) dX12_made_45 zX12_more lX12_217 ⟨by decide, by decide⟩ rfl rfl ⟨by decide, by decide⟩ S_23.obj (by omega) rfl (Nat.le_of_ble_eq_true rfl) (oX12_more_74 S_23 hn A (by omega) hs45 (K_18.uo (by decide))) (fun h_24 r_ q_25 => ?_)
  obtain ⟨ψ_29, i_31, rfl, S_26, I_32, K_28, J_30, F_27⟩ := q_25
  have K_33 := (K_18.uo (by decide)).fr K_28 (by decide) (by decide) (by decide) (by decide)
  have d1 : gt (ψ_29 86) 0 = vst F A (v0 F) := by have z_ : gt (ψ_29 86) 0 = vst F A (gt (pt (ψ_16 86) 0 (gt (ψ_16 82) 0)) 0) := J_30; rw [show gt (pt (ψ_16 86) 0 (gt (ψ_16 82) 0)) 0 = v0 F from (gt_pt _ _ _).trans J_17] at z_; exact z_
  refine R_aload_n (pc := 48) 0 dX12_made_48 rfl rfl ?_
  refine R_aload_n (pc := 49) 0 dX12_made_49 rfl rfl ?_
  refine R_get (pc := 50) dX12_made_50 fX12_47 S_26.obj (by omega) rfl ?_
  refine R_aload_n (pc := 53) 0 dX12_made_53 rfl rfl ?_
  refine R_get (pc := 54) dX12_made_54 fX12_137 S_26.obj (by omega) rfl ?_
  refine R_eqi (y := nI N.length) ((I_32 5 (by decide)).trans (hi5)) ?_
  have hs57 : sg (ψ_29 73) 0 N := by rw [show ψ_29 73 = ψ 73 from (show FR [82, 83, 84, 86] ψ _ from (((((FR.rf _ _).up (by decide)).tr K_15 (by decide)).up (by decide)).tr K_28 (by decide))) 73 (by decide)]; exact hsN
  refine R_callVh (pc := 57) (μ' := mX12_more) (As := [.ref 73, .int (nI N.length)]) (st := []) dX12_made_57 zX12_more lX12_217 ⟨by decide, by decide⟩ rfl rfl ⟨by decide, by decide⟩ S_26.obj (by omega) rfl (Nat.le_of_ble_eq_true rfl) (oX12_more_73 S_26 hn N (by omega) hs57 K_33) (fun h_34 r_ q_35 => ?_)
  obtain ⟨ψ_39, i_41, rfl, S_36, I_42, K_38, J_40, F_37⟩ := q_35
  have K_43 := K_33.fr K_38 (by decide) (by decide) (by decide) (by decide)
  have d2 : gt (ψ_39 86) 0 = vst F N (vst F A (v0 F)) := by have z_ := J_40; rw [d1] at z_; exact z_
  refine R_aload_n (pc := 60) 1 dX12_made_60 rfl rfl ?_
  refine R_iload_n (pc := 61) 2 dX12_made_61 rfl rfl ?_
  refine R_aload_n (pc := 62) 0 dX12_made_62 rfl rfl ?_
  refine R_get (pc := 63) dX12_made_63 fX12_80 S_36.obj (by omega) rfl ?_
  refine R_iconst (pc := 66) (v := 0) dX12_made_66 (by decide) ?_
  refine R_iload_n (pc := 67) 3 dX12_made_67 rfl rfl ?_
  refine R_callSh (pc := 68) (μ' := mX12_copy) (As := [.ref 72, .int (nI 0), .ref 84, .int (nI 0), .int (nI P.length)]) (st := []) dX12_made_68 zX12_copy lX12_133 ⟨by decide, by decide⟩ rfl rfl ⟨by decide, by decide⟩ rfl (Nat.le_of_ble_eq_true rfl) (oX12_copy S_36 hn (p := 72) (q := 84) rfl rfl 0 0 P.length (by show 0 + P.length ≤ 700; omega) (by show 0 + P.length ≤ 700; omega) (by decide)) (fun h_44 r_ q_45 => ?_)
  obtain ⟨rfl, S_46, F_47⟩ := q_45
  have S_48 : MO h_44 (uo ψ_39 84 (cpB (ψ_39 72) 0 (ψ_39 84) 0 P.length)) z i_41 := S_46
  refine R_aload_n (pc := 71) 0 dX12_made_71 rfl rfl ?_
  refine R_iload_n (pc := 72) 3 dX12_made_72 rfl rfl ?_
  refine R_put' (pc := 73) (fs' := [.int (i_41 0), .ref 62, .ref 63, .int (i_41 1), .ref 64, .int (i_41 2), .ref 65, .ref 66, .ref 67, .ref 68, .ref 69, .ref 70, .ref 71, .int (i_41 3), .ref 72, .int (i_41 4), .ref 73, .int (i_41 5), .ref 74, .int (i_41 6), .ref 75, .ref 76, .ref 77, .ref 78, .ref 79, .ref 80, .ref 81, .ref 82, .ref 83, .ref 84, .int (nI P.length), .ref 85, .ref 86, .ref 87, .ref 88, .ref 89, .ref 90]) dX12_made_73 fX12_195 tX12_30 rfl rfl S_48.obj (by omega) (Nat.le_of_ble_eq_true rfl) rfl (fun h_49 f_50 g_51 => ?_)
  have S_52 : MO h_49 (uo ψ_39 84 (cpB (ψ_39 72) 0 (ψ_39 84) 0 P.length)) z (ui i_41 7 (nI P.length)) := MO.setI (j := (ui i_41 7 (nI P.length))) S_48 f_50 g_51
  have F_53 := fmI g_51
  refine R_iload_n (pc := 76) 3 dX12_made_76 rfl rfl ?_
  refine R_bipush (pc := 77) (v := 16) dX12_made_77 (by decide) ?_
  refine R_icmp_lt (pc := 79) (tgt := 103) dX12_made_79 (by decide) (fun c_54 => ?_) (fun c_54 => ?_)
  · skip
    have nc_54 : P.length < 16 := (nI_ltI (a := P.length) (b := 16) (by omega) (by omega)).mp c_54
    refine R_aload_n (pc := 103) 0 dX12_made_103 rfl rfl ?_
    refine R_get (pc := 104) dX12_made_104 fX12_80 S_52.obj (by omega) rfl ?_
    refine R_iload_n (pc := 107) 3 dX12_made_107 rfl rfl ?_
    refine R_bipush (pc := 108) (v := 16) dX12_made_108 (by decide) ?_
    refine R_callSh (pc := 110) (μ' := mX12_clear) (As := [.ref 84, .int (nI P.length), .int (nI 16)]) (st := []) dX12_made_110 zX12_clear lX12_164 ⟨by decide, by decide⟩ rfl rfl ⟨by decide, by decide⟩ rfl (Nat.le_of_ble_eq_true rfl) (oX12_clear S_52 hn (q := 84) rfl P.length 16 (by omega) (by show 16 ≤ 700; omega)) (fun h_55 r_ q_56 => ?_)
    obtain ⟨rfl, S_57, F_58⟩ := q_56
    have S_59 : MO h_55 (uo ψ_39 84 (clB (cpB (ψ_39 72) 0 (ψ_39 84) 0 P.length) P.length 16)) z (ui i_41 7 (nI P.length)) := by have z_ := S_57; rw [uo_uo] at z_; exact z_
    refine R_aload_n (pc := 113) 0 dX12_made_113 rfl rfl ?_
    refine R_get (pc := 114) dX12_made_114 fX12_80 S_59.obj (by omega) rfl ?_
    refine R_iload_n (pc := 117) 3 dX12_made_117 rfl rfl ?_
    refine R_sipush (pc := 118) (v := 128) dX12_made_118 (by decide) ?_
    refine R_eqi (y := oc (t8 128)) (by decide) ?_
    refine R_iast' (pc := 121) (j := P.length) dX12_made_121 (S_59.arr (p := 84) rfl) (by omega) ⟨rfl, by show P.length < 700; omega, by decide⟩ (fun h_60 f_61 g_62 => ?_)
    have S_64 : MO h_60 (uo ψ_39 84 (updB (clB (cpB (ψ_39 72) 0 (ψ_39 84) 0 P.length) P.length 16) P.length (t8 128))) z (ui i_41 7 (nI P.length)) := by have z_ := MO.setA (p := 84) S_59 rfl f_61 g_62 (fun j_ => congrFun (upd_oc _ _ _) j_); rw [uo_uo] at z_; exact z_
    have F_63 := fmA (p := 84) (okA_c (by decide)).1 g_62
    refine R_aload_n (pc := 122) 0 dX12_made_122 rfl rfl ?_
    refine R_get (pc := 123) dX12_made_123 fX12_86 S_64.obj (by omega) rfl ?_
    refine R_callSh (pc := 126) (μ' := mX12_doubled) (As := [.ref 86]) (st := []) dX12_made_126 zX12_doubled lX12_192 ⟨by decide, by decide⟩ rfl rfl ⟨by decide, by decide⟩ rfl (Nat.le_of_ble_eq_true rfl) (oX12_doubled S_64 hn (q := 86) rfl (by decide)) (fun h_65 r_ q_66 => ?_)
    obtain ⟨rfl, S_67, F_68⟩ := q_66
    have S_69 : MO h_65 (uo (uo ψ_39 84 (updB (clB (cpB (ψ_39 72) 0 (ψ_39 84) 0 P.length) P.length 16) P.length (t8 128))) 86 (pt (ψ_39 86) 0 (dbl (gt (ψ_39 86) 0)))) z (ui i_41 7 (nI P.length)) := S_67
    refine R_aload_n (pc := 129) 0 dX12_made_129 rfl rfl ?_
    refine R_get (pc := 130) dX12_made_130 fX12_86 S_69.obj (by omega) rfl ?_
    refine R_iconst (pc := 133) (v := 0) dX12_made_133 (by decide) ?_
    refine R_aload_n (pc := 134) 0 dX12_made_134 rfl rfl ?_
    refine R_get (pc := 135) dX12_made_135 fX12_80 S_69.obj (by omega) rfl ?_
    refine R_iconst (pc := 138) (v := 0) dX12_made_138 (by decide) ?_
    refine R_bipush (pc := 139) (v := 16) dX12_made_139 (by decide) ?_
    refine R_callSh (pc := 141) (μ' := mX12_add) (As := [.ref 86, .int (nI 0), .ref 84, .int (nI 0), .int 16]) (st := []) dX12_made_141 zX12_add lX12_143 ⟨by decide, by decide⟩ rfl rfl ⟨by decide, by decide⟩ rfl (Nat.le_of_ble_eq_true rfl) (oX12_add16 S_69 hn (p := 86) (q := 84) rfl rfl 0 0 (by show 0 + 16 ≤ 16; omega) (by show 0 + 16 ≤ 700; omega) (by decide)) (fun h_70 r_ q_71 => ?_)
    obtain ⟨rfl, S_72, F_73⟩ := q_71
    have S_74 : MO h_70 (uo (uo (uo ψ_39 84 (updB (clB (cpB (ψ_39 72) 0 (ψ_39 84) 0 P.length) P.length 16) P.length (t8 128))) 86 (pt (ψ_39 86) 0 (dbl (gt (ψ_39 86) 0)))) 84 (pt (updB (clB (cpB (ψ_39 72) 0 (ψ_39 84) 0 P.length) P.length 16) P.length (t8 128)) 0 (xb (gt (updB (clB (cpB (ψ_39 72) 0 (ψ_39 84) 0 P.length) P.length 16) P.length (t8 128)) 0) (gt (pt (ψ_39 86) 0 (dbl (gt (ψ_39 86) 0))) 0)))) z (ui i_41 7 (nI P.length)) := S_72
    refine R_aload_n (pc := 144) 0 dX12_made_144 rfl rfl ?_
    refine R_bipush (pc := 145) (v := 16) dX12_made_145 (by decide) ?_
    refine R_put' (pc := 147) (fs' := [.int (i_41 0), .ref 62, .ref 63, .int (i_41 1), .ref 64, .int (i_41 2), .ref 65, .ref 66, .ref 67, .ref 68, .ref 69, .ref 70, .ref 71, .int (i_41 3), .ref 72, .int (i_41 4), .ref 73, .int (i_41 5), .ref 74, .int (i_41 6), .ref 75, .ref 76, .ref 77, .ref 78, .ref 79, .ref 80, .ref 81, .ref 82, .ref 83, .ref 84, .int 16, .ref 85, .ref 86, .ref 87, .ref 88, .ref 89, .ref 90]) dX12_made_147 fX12_195 tX12_30 rfl rfl S_74.obj (by omega) (Nat.le_of_ble_eq_true rfl) rfl (fun h_75 f_76 g_77 => ?_)
    have S_78 : MO h_75 (uo (uo (uo ψ_39 84 (updB (clB (cpB (ψ_39 72) 0 (ψ_39 84) 0 P.length) P.length 16) P.length (t8 128))) 86 (pt (ψ_39 86) 0 (dbl (gt (ψ_39 86) 0)))) 84 (pt (updB (clB (cpB (ψ_39 72) 0 (ψ_39 84) 0 P.length) P.length 16) P.length (t8 128)) 0 (xb (gt (updB (clB (cpB (ψ_39 72) 0 (ψ_39 84) 0 P.length) P.length 16) P.length (t8 128)) 0) (gt (pt (ψ_39 86) 0 (dbl (gt (ψ_39 86) 0))) 0)))) z (ui i_41 7 16) := MO.setI (j := (ui i_41 7 16)) S_74 f_76 g_77
    have F_79 := fmI g_77
    refine R_aload_n (pc := 150) 0 dX12_made_150 rfl rfl ?_
    refine R_iconst (pc := 151) (v := 0) dX12_made_151 (by decide) ?_
    have eP : ∀ g : oA, sg (cpB (ψ_39 72) 0 g 0 P.length) 0 P := fun g => sg.cp (by rw [show ψ_39 72 = ψ 72 from (show FR [82, 83, 84, 86] ψ _ from ((((((FR.rf _ _).up (by decide)).tr K_15 (by decide)).up (by decide)).tr K_28 (by decide)).tr K_38 (by decide))) 72 (by decide)]; exact hsP) g 0 rfl
    have lay := layE_lo (f := cpB (ψ_39 72) 0 (ψ_39 84) 0 P.length) (L := P) (d := gt (ψ_39 86) 0) (fun j_ hj_ => sg0 (eP _) hj_) (by omega)
    have sM : sg (pt (updB (clB (cpB (ψ_39 72) 0 (ψ_39 84) 0 P.length) P.length 16) P.length (t8 128)) 0 (xb (gt (updB (clB (cpB (ψ_39 72) 0 (ψ_39 84) 0 P.length) P.length 16) P.length (t8 128)) 0) (gt (pt (ψ_39 86) 0 (dbl (gt (ψ_39 86) 0))) 0))) 0 (layE P (gt (ψ_39 86) 0)) := by have z_ := lay.1; simp only [gt_pt]; exact z_
    have S9 : MO h_75 (uo (uo (uo ψ_39 84 (updB (clB (cpB (ψ_39 72) 0 (ψ_39 84) 0 P.length) P.length 16) P.length (t8 128))) 86 (pt (ψ_39 86) 0 (dbl (gt (ψ_39 86) 0)))) 84 (pt (updB (clB (cpB (ψ_39 72) 0 (ψ_39 84) 0 P.length) P.length 16) P.length (t8 128)) 0 (xb (gt (updB (clB (cpB (ψ_39 72) 0 (ψ_39 84) 0 P.length) P.length 16) P.length (t8 128)) 0) (gt (pt (ψ_39 86) 0 (dbl (gt (ψ_39 86) 0))) 0)))) z (ui i_41 7 (nI (layE P (gt (ψ_39 86) 0)).length)) := by rw [lay.2]; exact S_78
    refine R_callVh (pc := 152) (μ' := mX12_macOf) (As := [.int (nI 0)]) (st := []) dX12_made_152 zX12_macOf lX12_211 ⟨by decide, by decide⟩ rfl rfl ⟨by decide, by decide⟩ S9.obj (by omega) rfl (Nat.le_of_ble_eq_true rfl) (oX12_macOf S9 hn 0 (layE P (gt (ψ_39 86) 0)) (by rw [lay.2]; omega) rfl (((K_43.uo (by decide)).uo (by decide)).uo (by decide)) sM) (fun h_80 r_ q_81 => ?_)
    obtain ⟨ψ_85, rfl, S_82, K_84, J_86, F_83⟩ := q_81
    have K_87 := (((K_43.uo (by decide)).uo (by decide)).uo (by decide)).fr K_84 (by decide) (by decide) (by decide) (by decide)
    have hy : gt (ψ_85 82) 0 = mdV F A N P := by have z_ := J_86; rw [d2] at z_; exact z_
    have hI : IE [7] i (ui i_41 7 (nI (layE P (gt (ψ_39 86) 0)).length)) := fun k_ hk_ => by rw [ui_n (fun e_ => hk_ (by rw [e_]; decide)), I_42 k_ hk_, I_32 k_ hk_]; exact ui_n (fun e_ => hk_ (by rw [e_]; decide))
    exact R_vreturn (pc := 155) dX12_made_155 rfl (by decide) (by decide) ⟨rfl, _, _, rfl, S_82, hI, ((((((((((FR.rf _ _).up (by decide)).tr K_15 (by decide)).up (by decide)).tr K_28 (by decide)).tr K_38 (by decide)).up (by decide)).up (by decide)).up (by decide)).tr K_84 (by decide)), hy, (((((((((((((F_4.tr F_10).tr F_14).tr F_22).tr F_27).tr F_37).tr F_47).tr F_53).tr F_58).tr F_63).tr F_68).tr F_73).tr F_79).tr F_83)⟩
  · skip
    have nc_54 : ¬ (P.length < 16) := fun q_ => c_54 ((nI_ltI (a := P.length) (b := 16) (by omega) (by omega)).mpr q_)
    refine R_aload_n (pc := 82) 0 dX12_made_82 rfl rfl ?_
    refine R_get (pc := 83) dX12_made_83 fX12_86 S_52.obj (by omega) rfl ?_
    refine R_iconst (pc := 86) (v := 0) dX12_made_86 (by decide) ?_
    refine R_aload_n (pc := 87) 0 dX12_made_87 rfl rfl ?_
    refine R_get (pc := 88) dX12_made_88 fX12_80 S_52.obj (by omega) rfl ?_
    refine R_iload_n (pc := 91) 3 dX12_made_91 rfl rfl ?_
    refine R_bipush (pc := 92) (v := 16) dX12_made_92 (by decide) ?_
    refine R_isub (pc := 94) dX12_made_94 ?_
    refine R_eqi (y := nI (P.length - 16)) (nI_sb (a := P.length) (b := 16) (by omega)) ?_
    refine R_bipush (pc := 95) (v := 16) dX12_made_95 (by decide) ?_
    refine R_callSh (pc := 97) (μ' := mX12_add) (As := [.ref 86, .int (nI 0), .ref 84, .int (nI (P.length - 16)), .int 16]) (st := []) dX12_made_97 zX12_add lX12_143 ⟨by decide, by decide⟩ rfl rfl ⟨by decide, by decide⟩ rfl (Nat.le_of_ble_eq_true rfl) (oX12_add16 S_52 hn (p := 86) (q := 84) rfl rfl 0 (P.length - 16) (by show 0 + 16 ≤ 16; omega) (by show P.length - 16 + 16 ≤ 700; omega) (by decide)) (fun h_88 r_ q_89 => ?_)
    obtain ⟨rfl, S_90, F_91⟩ := q_89
    have S_92 : MO h_88 (uo ψ_39 84 (pt (cpB (ψ_39 72) 0 (ψ_39 84) 0 P.length) (P.length - 16) (xb (gt (cpB (ψ_39 72) 0 (ψ_39 84) 0 P.length) (P.length - 16)) (gt (ψ_39 86) 0)))) z (ui i_41 7 (nI P.length)) := by have z_ := S_90; rw [uo_uo] at z_; exact z_
    refine R_goto (pc := 100) (tgt := 150) dX12_made_100 (by decide) ?_
    refine R_aload_n (pc := 150) 0 dX12_made_150 rfl rfl ?_
    refine R_iconst (pc := 151) (v := 0) dX12_made_151 (by decide) ?_
    have eP : ∀ g : oA, sg (cpB (ψ_39 72) 0 g 0 P.length) 0 P := fun g => sg.cp (by rw [show ψ_39 72 = ψ 72 from (show FR [82, 83, 84, 86] ψ _ from ((((((FR.rf _ _).up (by decide)).tr K_15 (by decide)).up (by decide)).tr K_28 (by decide)).tr K_38 (by decide))) 72 (by decide)]; exact hsP) g 0 rfl
    have lay := layE_hi (d := gt (ψ_39 86) 0) (eP (ψ_39 84)) (by omega) (by omega)
    have sM : sg (pt (cpB (ψ_39 72) 0 (ψ_39 84) 0 P.length) (P.length - 16) (xb (gt (cpB (ψ_39 72) 0 (ψ_39 84) 0 P.length) (P.length - 16)) (gt (ψ_39 86) 0))) 0 (layE P (gt (ψ_39 86) 0)) := by have z_ := lay.1; exact z_
    have S9 : MO h_88 (uo ψ_39 84 (pt (cpB (ψ_39 72) 0 (ψ_39 84) 0 P.length) (P.length - 16) (xb (gt (cpB (ψ_39 72) 0 (ψ_39 84) 0 P.length) (P.length - 16)) (gt (ψ_39 86) 0)))) z (ui i_41 7 (nI (layE P (gt (ψ_39 86) 0)).length)) := by rw [lay.2]; exact S_92
    refine R_callVh (pc := 152) (μ' := mX12_macOf) (As := [.int (nI 0)]) (st := []) dX12_made_152 zX12_macOf lX12_211 ⟨by decide, by decide⟩ rfl rfl ⟨by decide, by decide⟩ S9.obj (by omega) rfl (Nat.le_of_ble_eq_true rfl) (oX12_macOf S9 hn 0 (layE P (gt (ψ_39 86) 0)) (by rw [lay.2]; omega) rfl (K_43.uo (by decide)) sM) (fun h_93 r_ q_94 => ?_)
    obtain ⟨ψ_98, rfl, S_95, K_97, J_99, F_96⟩ := q_94
    have K_100 := (K_43.uo (by decide)).fr K_97 (by decide) (by decide) (by decide) (by decide)
    have hy : gt (ψ_98 82) 0 = mdV F A N P := by have z_ := J_99; rw [d2] at z_; exact z_
    have hI : IE [7] i (ui i_41 7 (nI (layE P (gt (ψ_39 86) 0)).length)) := fun k_ hk_ => by rw [ui_n (fun e_ => hk_ (by rw [e_]; decide)), I_42 k_ hk_, I_32 k_ hk_]; exact ui_n (fun e_ => hk_ (by rw [e_]; decide))
    exact R_vreturn (pc := 155) dX12_made_155 rfl (by decide) (by decide) ⟨rfl, _, _, rfl, S_95, hI, ((((((((FR.rf _ _).up (by decide)).tr K_15 (by decide)).up (by decide)).tr K_28 (by decide)).tr K_38 (by decide)).up (by decide)).tr K_97 (by decide)), hy, (((((((((F_4.tr F_10).tr F_14).tr F_22).tr F_27).tr F_37).tr F_47).tr F_53).tr F_91).tr F_96)⟩
set_option maxHeartbeats 1000000 in
set_option maxRecDepth 100000 in
theorem oX12_twice_s {l : Launch} {w : am_W} {h : am_H} {n : Nat} {ψ : Nat → oA} {z : fA} {i : mI} (S : MO h ψ z i) (hn : 90 ≤ n) (A N D : List (BitVec 8)) (hA : A.length ≤ 256) (hN : N.length ≤ 64) (hD : D.length ≤ 512) (hi5 : i 5 = nI N.length) (hi6 : i 6 = nI A.length) (hsA : sg (ψ 74) 0 A) (hsN : sg (ψ 73) 0 N) (hsD : sg (ψ 71) 0 D) {F G : bP → bP} (K0 : Kh ψ 0 F G) : RH l w mX12_twice h n [.ref 61, .int 0, .int (nI D.length)] (fun h2 q => ∃ ψ2 i2, q = none ∧ MO h2 ψ2 z i2 ∧ IE [7] i i2 ∧ FR [72, 75, 76, 82, 83, 84, 85] ψ ψ2 ∧ (sg (ψ2 72) 0 (ctO F D (macV F (layN 0 N))) ∧ gt (ψ2 85) 0 = twT F A N (ctO F D (macV F (layN 0 N)))) ∧ FM h h2) := by
  refine RC.of [(0, .ref 61), (1, .int 0), (2, .int (nI D.length))] (by decide +kernel) rfl (Nat.le_of_ble_eq_true rfl) ?_
  refine R_aload_n (pc := 0) 0 dX12_twice_0 rfl rfl ?_
  refine R_iconst (pc := 1) (v := 0) dX12_twice_1 (by decide) ?_
  refine R_aload_n (pc := 2) 0 dX12_twice_2 rfl rfl ?_
  refine R_get (pc := 3) dX12_twice_3 fX12_47 S.obj (by omega) rfl ?_
  refine R_aload_n (pc := 6) 0 dX12_twice_6 rfl rfl ?_
  refine R_get (pc := 7) dX12_twice_7 fX12_137 S.obj (by omega) rfl ?_
  refine R_eqi (y := nI N.length) (hi5) ?_
  refine R_callVh (pc := 10) (μ' := mX12_sumOf) (As := [.int (nI 0), .ref 73, .int (nI N.length)]) (st := []) dX12_twice_10 zX12_sumOf lX12_214 ⟨by decide, by decide⟩ rfl rfl ⟨by decide, by decide⟩ S.obj (by omega) rfl (Nat.le_of_ble_eq_true rfl) (oX12_sumOf S hn 0 (by omega) (p := 73) rfl (by decide) N (by omega) (by show N.length ≤ 64; omega) hsN K0) (fun h_1 r_ q_2 => ?_)
  obtain ⟨ψ_6, rfl, S_3, K_5, J_7, F_4⟩ := q_2
  have K_8 := K0.fr K_5 (by decide) (by decide) (by decide) (by decide)
  have t10 : ψ_6 85 = ψ 85 := K_5 85 (by decide)
  have m0 : gt (ψ_6 82) 0 = (macV F (layN 0 N)) := J_7
  refine R_aload_n (pc := 13) 0 dX12_twice_13 rfl rfl ?_
  refine R_get (pc := 14) dX12_twice_14 fX12_74 S_3.obj (by omega) rfl ?_
  refine R_iconst (pc := 17) (v := 0) dX12_twice_17 (by decide) ?_
  refine R_aload_n (pc := 18) 0 dX12_twice_18 rfl rfl ?_
  refine R_get (pc := 19) dX12_twice_19 fX12_83 S_3.obj (by omega) rfl ?_
  refine R_iconst (pc := 22) (v := 0) dX12_twice_22 (by decide) ?_
  refine R_bipush (pc := 23) (v := 16) dX12_twice_23 (by decide) ?_
  refine R_callSh (pc := 25) (μ' := mX12_copy) (As := [.ref 82, .int (nI 0), .ref 85, .int (nI 0), .int 16]) (st := []) dX12_twice_25 zX12_copy lX12_133 ⟨by decide, by decide⟩ rfl rfl ⟨by decide, by decide⟩ rfl (Nat.le_of_ble_eq_true rfl) (oX12_copy16 S_3 hn (p := 82) (q := 85) rfl rfl 0 0 (by show 0 + 16 ≤ 16; omega) (by show 0 + 16 ≤ 16; omega) (by decide)) (fun h_9 r_ q_10 => ?_)
  obtain ⟨rfl, S_11, F_12⟩ := q_10
  have S_13 : MO h_9 (uo ψ_6 85 (pt (ψ_6 85) 0 (gt (ψ_6 82) 0))) z (ui i 7 (nI (16 + N.length))) := S_11
  refine R_aload_n (pc := 28) 0 dX12_twice_28 rfl rfl ?_
  refine R_get (pc := 29) dX12_twice_29 fX12_74 S_13.obj (by omega) rfl ?_
  refine R_iconst (pc := 32) (v := 0) dX12_twice_32 (by decide) ?_
  refine R_aload_n (pc := 33) 0 dX12_twice_33 rfl rfl ?_
  refine R_get (pc := 34) dX12_twice_34 fX12_53 S_13.obj (by omega) rfl ?_
  refine R_iconst (pc := 37) (v := 0) dX12_twice_37 (by decide) ?_
  refine R_bipush (pc := 38) (v := 16) dX12_twice_38 (by decide) ?_
  refine R_callSh (pc := 40) (μ' := mX12_copy) (As := [.ref 82, .int (nI 0), .ref 75, .int (nI 0), .int 16]) (st := []) dX12_twice_40 zX12_copy lX12_133 ⟨by decide, by decide⟩ rfl rfl ⟨by decide, by decide⟩ rfl (Nat.le_of_ble_eq_true rfl) (oX12_copy16 S_13 hn (p := 82) (q := 75) rfl rfl 0 0 (by show 0 + 16 ≤ 16; omega) (by show 0 + 16 ≤ 16; omega) (by decide)) (fun h_14 r_ q_15 => ?_)
  obtain ⟨rfl, S_16, F_17⟩ := q_15
  have S_18 : MO h_14 (uo (uo ψ_6 85 (pt (ψ_6 85) 0 (gt (ψ_6 82) 0))) 75 (pt (ψ_6 75) 0 (gt (ψ_6 82) 0))) z (ui i 7 (nI (16 + N.length))) := S_16
  refine R_aload_n (pc := 43) 0 dX12_twice_43 rfl rfl ?_
  refine R_iconst (pc := 44) (v := 0) dX12_twice_44 (by decide) ?_
  refine R_iconst (pc := 45) (v := 0) dX12_twice_45 (by decide) ?_
  refine R_iconst (pc := 46) (v := 0) dX12_twice_46 (by decide) ?_
  refine R_iload_n (pc := 47) 2 dX12_twice_47 rfl rfl ?_
  refine R_iconst (pc := 48) (v := 0) dX12_twice_48 (by decide) ?_
  have e71 : ψ_6 71 = ψ 71 := (show FR [72, 75, 76, 82, 83, 84, 85] ψ _ from ((FR.rf _ _).tr K_5 (by decide))) 71 (by decide)
  refine R_callVh (pc := 49) (μ' := mX12_count) (As := [.int (nI 0), .int (nI 0), .int (nI 0), .int (nI D.length), .int (nI 0)]) (st := []) dX12_twice_49 zX12_count lX12_204 ⟨by decide, by decide⟩ rfl rfl ⟨by decide, by decide⟩ S_18.obj (by omega) rfl (Nat.le_of_ble_eq_true rfl) (oX12_count S_18 hn 0 0 0 D.length 0 (by omega) (by omega) (by omega) ((K_8.uo (by decide)).uo (by decide)) (fun j => (stN (ctS F D) (macV F (layN 0 N)) j).1) (fun j_ f_ _ e_ => by rw [om_one1 f_ (by omega) (Or.inl rfl), e_]; rfl) ((gt_pt _ _ _).trans m0)) (fun h_19 r_ q_20 => ?_)
  obtain ⟨ψ_24, rfl, S_21, K_23, J_25, F_22⟩ := q_20
  have K_26 := ((K_8.uo (by decide)).uo (by decide)).fr K_23 (by decide) (by decide) (by decide) (by decide)
  have t49 : ψ_24 85 = pt (ψ_6 85) 0 (gt (ψ_6 82) 0) := K_23 85 (by decide)
  have lO : (ctO F D (macV F (layN 0 N))).length = D.length := by unfold ctO; rw [stN_lenM D (fun j_ y_ => ctS_len F D j_ y_)]; have := nbk_b D; omega
  have yC : sg (ψ_24 72) 0 (ctO F D (macV F (layN 0 N))) := by
    refine stN_sg (H := F) (fun _ _ => rfl) (fun j_ hj_ => ?_)
    have c_ : ψ_24 72 = _ := J_25
    rw [c_, pgB_in _ _ (by omega) (by omega), Nat.zero_add, Nat.sub_zero, Nat.zero_add]
    exact congrArg (fun v_ => v_ ^^^ _) (by show ψ_6 71 j_ = _; rw [e71]; exact sg0 hsD hj_)
  refine R_aload_n (pc := 52) 0 dX12_twice_52 rfl rfl ?_
  refine R_iconst (pc := 53) (v := 1) dX12_twice_53 (by decide) ?_
  refine R_aload_n (pc := 54) 0 dX12_twice_54 rfl rfl ?_
  refine R_get (pc := 55) dX12_twice_55 fX12_50 S_21.obj (by omega) rfl ?_
  refine R_aload_n (pc := 58) 0 dX12_twice_58 rfl rfl ?_
  refine R_get (pc := 59) dX12_twice_59 fX12_140 S_21.obj (by omega) rfl ?_
  refine R_eqi (y := nI A.length) (hi6) ?_
  refine R_callVh (pc := 62) (μ' := mX12_sumOf) (As := [.int (nI 1), .ref 74, .int (nI A.length)]) (st := []) dX12_twice_62 zX12_sumOf lX12_214 ⟨by decide, by decide⟩ rfl rfl ⟨by decide, by decide⟩ S_21.obj (by omega) rfl (Nat.le_of_ble_eq_true rfl) (oX12_sumOf S_21 hn 1 (by omega) (p := 74) rfl (by decide) A (by omega) (by show A.length ≤ 256; omega) (show sg (ψ_24 74) 0 A by rw [show ψ_24 74 = ψ 74 from (show FR [72, 75, 76, 82, 83, 84, 85] ψ _ from (((((FR.rf _ _).tr K_5 (by decide)).up (by decide)).up (by decide)).tr K_23 (by decide))) 74 (by decide)]; exact hsA) K_26) (fun h_27 r_ q_28 => ?_)
  obtain ⟨ψ_32, rfl, S_29, K_31, J_33, F_30⟩ := q_28
  have K_34 := K_26.fr K_31 (by decide) (by decide) (by decide) (by decide)
  have S_35 : MO h_27 ψ_32 z (ui i 7 (nI (16 + A.length))) := by have z_ := S_29; rw [ui_ui] at z_; exact z_
  have t62 : ψ_32 85 = ψ_24 85 := K_31 85 (by decide)
  have m1 : gt (ψ_32 82) 0 = macV F (layN 1 A) := J_33
  have y62 : ψ_32 72 = ψ_24 72 := K_31 72 (by decide)
  refine R_aload_n (pc := 65) 0 dX12_twice_65 rfl rfl ?_
  refine R_get (pc := 66) dX12_twice_66 fX12_74 S_35.obj (by omega) rfl ?_
  refine R_iconst (pc := 69) (v := 0) dX12_twice_69 (by decide) ?_
  refine R_aload_n (pc := 70) 0 dX12_twice_70 rfl rfl ?_
  refine R_get (pc := 71) dX12_twice_71 fX12_83 S_35.obj (by omega) rfl ?_
  refine R_iconst (pc := 74) (v := 0) dX12_twice_74 (by decide) ?_
  refine R_bipush (pc := 75) (v := 16) dX12_twice_75 (by decide) ?_
  refine R_callSh (pc := 77) (μ' := mX12_add) (As := [.ref 82, .int (nI 0), .ref 85, .int (nI 0), .int 16]) (st := []) dX12_twice_77 zX12_add lX12_143 ⟨by decide, by decide⟩ rfl rfl ⟨by decide, by decide⟩ rfl (Nat.le_of_ble_eq_true rfl) (oX12_add16 S_35 hn (p := 82) (q := 85) rfl rfl 0 0 (by show 0 + 16 ≤ 16; omega) (by show 0 + 16 ≤ 16; omega) (by decide)) (fun h_36 r_ q_37 => ?_)
  obtain ⟨rfl, S_38, F_39⟩ := q_37
  have S_40 : MO h_36 (uo ψ_32 85 (pt (ψ_32 85) 0 (xb (gt (ψ_32 85) 0) (gt (ψ_32 82) 0)))) z (ui i 7 (nI (16 + A.length))) := S_38
  have yO : sg (ψ_32 72) 0 (ctO F D (macV F (layN 0 N))) := by rw [y62]; exact yC
  refine R_aload_n (pc := 80) 0 dX12_twice_80 rfl rfl ?_
  refine R_iconst (pc := 81) (v := 2) dX12_twice_81 (by decide) ?_
  refine R_iload_n (pc := 82) 1 dX12_twice_82 rfl rfl ?_
  refine R_if_eq (pc := 83) (tgt := 93) dX12_twice_83 (by decide) (fun c_41 => ?_) (fun c_41 => absurd (rfl) c_41)
  refine R_aload_n (pc := 93) 0 dX12_twice_93 rfl rfl ?_
  refine R_get (pc := 94) dX12_twice_94 fX12_44 S_40.obj (by omega) rfl ?_
  refine R_iload_n (pc := 97) 2 dX12_twice_97 rfl rfl ?_
  refine R_eqi (y := nI (ctO F D (macV F (layN 0 N))).length) (by rw [lO]) ?_
  refine R_callVh (pc := 98) (μ' := mX12_sumOf) (As := [.int (nI 2), .ref 72, .int (nI (ctO F D (macV F (layN 0 N))).length)]) (st := []) dX12_twice_98 zX12_sumOf lX12_214 ⟨by decide, by decide⟩ rfl rfl ⟨by decide, by decide⟩ S_40.obj (by omega) rfl (Nat.le_of_ble_eq_true rfl) (oX12_sumOf S_40 hn 2 (by omega) (p := 72) rfl (by decide) (ctO F D (macV F (layN 0 N))) (by rw [lO]; omega) (by rw [lO]; show D.length ≤ 700; omega) yO (K_34.uo (by decide))) (fun h_42 r_ q_43 => ?_)
  obtain ⟨ψ_47, rfl, S_44, K_46, J_48, F_45⟩ := q_43
  have K_49 := (K_34.uo (by decide)).fr K_46 (by decide) (by decide) (by decide) (by decide)
  have S_50 : MO h_42 ψ_47 z (ui i 7 (nI (16 + (ctO F D (macV F (layN 0 N))).length))) := by have z_ := S_44; rw [ui_ui] at z_; exact z_
  have t98 : ψ_47 85 = pt (ψ_32 85) 0 (xb (gt (ψ_32 85) 0) (gt (ψ_32 82) 0)) := K_46 85 (by decide)
  have m2 : gt (ψ_47 82) 0 = macV F (layN 2 (ctO F D (macV F (layN 0 N)))) := J_48
  have y98 : ψ_47 72 = ψ_32 72 := K_46 72 (by decide)
  refine R_aload_n (pc := 101) 0 dX12_twice_101 rfl rfl ?_
  refine R_get (pc := 102) dX12_twice_102 fX12_74 S_50.obj (by omega) rfl ?_
  refine R_iconst (pc := 105) (v := 0) dX12_twice_105 (by decide) ?_
  refine R_aload_n (pc := 106) 0 dX12_twice_106 rfl rfl ?_
  refine R_get (pc := 107) dX12_twice_107 fX12_83 S_50.obj (by omega) rfl ?_
  refine R_iconst (pc := 110) (v := 0) dX12_twice_110 (by decide) ?_
  refine R_bipush (pc := 111) (v := 16) dX12_twice_111 (by decide) ?_
  refine R_callSh (pc := 113) (μ' := mX12_add) (As := [.ref 82, .int (nI 0), .ref 85, .int (nI 0), .int 16]) (st := []) dX12_twice_113 zX12_add lX12_143 ⟨by decide, by decide⟩ rfl rfl ⟨by decide, by decide⟩ rfl (Nat.le_of_ble_eq_true rfl) (oX12_add16 S_50 hn (p := 82) (q := 85) rfl rfl 0 0 (by show 0 + 16 ≤ 16; omega) (by show 0 + 16 ≤ 16; omega) (by decide)) (fun h_51 r_ q_52 => ?_)
  obtain ⟨rfl, S_53, F_54⟩ := q_52
  have S_55 : MO h_51 (uo ψ_47 85 (pt (ψ_47 85) 0 (xb (gt (ψ_47 85) 0) (gt (ψ_47 82) 0)))) z (ui i 7 (nI (16 + (ctO F D (macV F (layN 0 N))).length))) := S_53
  have hy : gt (pt (ψ_47 85) 0 (xb (gt (ψ_47 85) 0) (gt (ψ_47 82) 0))) 0 = twT F A N (ctO F D (macV F (layN 0 N))) := by
    unfold twT
    simp only [gt_pt, pt_pt]
    rw [m2, t98]
    simp only [gt_pt, pt_pt]
    rw [m1, t62, t49]
    simp only [gt_pt, pt_pt]
    rw [m0]
  have hz : sg (ψ_47 72) 0 (ctO F D (macV F (layN 0 N))) := by rw [y98]; exact yO
  have hI : IE [7] i (ui i 7 (nI (16 + (ctO F D (macV F (layN 0 N))).length))) := fun k_ hk_ => ui_n (fun e_ => hk_ (by rw [e_]; decide))
  exact R_vreturn (pc := 116) dX12_twice_116 rfl (by decide) (by decide) ⟨rfl, _, _, rfl, S_55, hI, (((((((((FR.rf _ _).tr K_5 (by decide)).up (by decide)).up (by decide)).tr K_23 (by decide)).tr K_31 (by decide)).up (by decide)).tr K_46 (by decide)).up (by decide)), ⟨hz, hy⟩, (((((((F_4.tr F_12).tr F_17).tr F_22).tr F_30).tr F_39).tr F_45).tr F_54)⟩
set_option maxHeartbeats 1000000 in
set_option maxRecDepth 100000 in
theorem oX12_twice_o {l : Launch} {w : am_W} {h : am_H} {n : Nat} {ψ : Nat → oA} {z : fA} {i : mI} (S : MO h ψ z i) (hn : 90 ≤ n) (A N D : List (BitVec 8)) (hA : A.length ≤ 256) (hN : N.length ≤ 64) (hD : D.length ≤ 512) (hi5 : i 5 = nI N.length) (hi6 : i 6 = nI A.length) (hsA : sg (ψ 74) 0 A) (hsN : sg (ψ 73) 0 N) (hsD : sg (ψ 71) 0 D) {F G : bP → bP} (K0 : Kh ψ 0 F G) : RH l w mX12_twice h n [.ref 61, .int 1, .int (nI D.length)] (fun h2 q => ∃ ψ2 i2, q = none ∧ MO h2 ψ2 z i2 ∧ IE [7] i i2 ∧ FR [72, 75, 76, 82, 83, 84, 85] ψ ψ2 ∧ (sg (ψ2 72) 0 (ctO F D (macV F (layN 0 N))) ∧ gt (ψ2 85) 0 = twT F A N D) ∧ FM h h2) := by
  refine RC.of [(0, .ref 61), (1, .int 1), (2, .int (nI D.length))] (by decide +kernel) rfl (Nat.le_of_ble_eq_true rfl) ?_
  refine R_aload_n (pc := 0) 0 dX12_twice_0 rfl rfl ?_
  refine R_iconst (pc := 1) (v := 0) dX12_twice_1 (by decide) ?_
  refine R_aload_n (pc := 2) 0 dX12_twice_2 rfl rfl ?_
  refine R_get (pc := 3) dX12_twice_3 fX12_47 S.obj (by omega) rfl ?_
  refine R_aload_n (pc := 6) 0 dX12_twice_6 rfl rfl ?_
  refine R_get (pc := 7) dX12_twice_7 fX12_137 S.obj (by omega) rfl ?_
  refine R_eqi (y := nI N.length) (hi5) ?_
  refine R_callVh (pc := 10) (μ' := mX12_sumOf) (As := [.int (nI 0), .ref 73, .int (nI N.length)]) (st := []) dX12_twice_10 zX12_sumOf lX12_214 ⟨by decide, by decide⟩ rfl rfl ⟨by decide, by decide⟩ S.obj (by omega) rfl (Nat.le_of_ble_eq_true rfl) (oX12_sumOf S hn 0 (by omega) (p := 73) rfl (by decide) N (by omega) (by show N.length ≤ 64; omega) hsN K0) (fun h_1 r_ q_2 => ?_)
  obtain ⟨ψ_6, rfl, S_3, K_5, J_7, F_4⟩ := q_2
  have K_8 := K0.fr K_5 (by decide) (by decide) (by decide) (by decide)
  have t10 : ψ_6 85 = ψ 85 := K_5 85 (by decide)
  have m0 : gt (ψ_6 82) 0 = (macV F (layN 0 N)) := J_7
  refine R_aload_n (pc := 13) 0 dX12_twice_13 rfl rfl ?_
  refine R_get (pc := 14) dX12_twice_14 fX12_74 S_3.obj (by omega) rfl ?_
  refine R_iconst (pc := 17) (v := 0) dX12_twice_17 (by decide) ?_
  refine R_aload_n (pc := 18) 0 dX12_twice_18 rfl rfl ?_
  refine R_get (pc := 19) dX12_twice_19 fX12_83 S_3.obj (by omega) rfl ?_
  refine R_iconst (pc := 22) (v := 0) dX12_twice_22 (by decide) ?_
  refine R_bipush (pc := 23) (v := 16) dX12_twice_23 (by decide) ?_
  refine R_callSh (pc := 25) (μ' := mX12_copy) (As := [.ref 82, .int (nI 0), .ref 85, .int (nI 0), .int 16]) (st := []) dX12_twice_25 zX12_copy lX12_133 ⟨by decide, by decide⟩ rfl rfl ⟨by decide, by decide⟩ rfl (Nat.le_of_ble_eq_true rfl) (oX12_copy16 S_3 hn (p := 82) (q := 85) rfl rfl 0 0 (by show 0 + 16 ≤ 16; omega) (by show 0 + 16 ≤ 16; omega) (by decide)) (fun h_9 r_ q_10 => ?_)
  obtain ⟨rfl, S_11, F_12⟩ := q_10
  have S_13 : MO h_9 (uo ψ_6 85 (pt (ψ_6 85) 0 (gt (ψ_6 82) 0))) z (ui i 7 (nI (16 + N.length))) := S_11
  refine R_aload_n (pc := 28) 0 dX12_twice_28 rfl rfl ?_
  refine R_get (pc := 29) dX12_twice_29 fX12_74 S_13.obj (by omega) rfl ?_
  refine R_iconst (pc := 32) (v := 0) dX12_twice_32 (by decide) ?_
  refine R_aload_n (pc := 33) 0 dX12_twice_33 rfl rfl ?_
  refine R_get (pc := 34) dX12_twice_34 fX12_53 S_13.obj (by omega) rfl ?_
  refine R_iconst (pc := 37) (v := 0) dX12_twice_37 (by decide) ?_
  refine R_bipush (pc := 38) (v := 16) dX12_twice_38 (by decide) ?_
  refine R_callSh (pc := 40) (μ' := mX12_copy) (As := [.ref 82, .int (nI 0), .ref 75, .int (nI 0), .int 16]) (st := []) dX12_twice_40 zX12_copy lX12_133 ⟨by decide, by decide⟩ rfl rfl ⟨by decide, by decide⟩ rfl (Nat.le_of_ble_eq_true rfl) (oX12_copy16 S_13 hn (p := 82) (q := 75) rfl rfl 0 0 (by show 0 + 16 ≤ 16; omega) (by show 0 + 16 ≤ 16; omega) (by decide)) (fun h_14 r_ q_15 => ?_)
  obtain ⟨rfl, S_16, F_17⟩ := q_15
  have S_18 : MO h_14 (uo (uo ψ_6 85 (pt (ψ_6 85) 0 (gt (ψ_6 82) 0))) 75 (pt (ψ_6 75) 0 (gt (ψ_6 82) 0))) z (ui i 7 (nI (16 + N.length))) := S_16
  refine R_aload_n (pc := 43) 0 dX12_twice_43 rfl rfl ?_
  refine R_iconst (pc := 44) (v := 0) dX12_twice_44 (by decide) ?_
  refine R_iconst (pc := 45) (v := 0) dX12_twice_45 (by decide) ?_
  refine R_iconst (pc := 46) (v := 0) dX12_twice_46 (by decide) ?_
  refine R_iload_n (pc := 47) 2 dX12_twice_47 rfl rfl ?_
  refine R_iconst (pc := 48) (v := 0) dX12_twice_48 (by decide) ?_
  have e71 : ψ_6 71 = ψ 71 := (show FR [72, 75, 76, 82, 83, 84, 85] ψ _ from ((FR.rf _ _).tr K_5 (by decide))) 71 (by decide)
  refine R_callVh (pc := 49) (μ' := mX12_count) (As := [.int (nI 0), .int (nI 0), .int (nI 0), .int (nI D.length), .int (nI 0)]) (st := []) dX12_twice_49 zX12_count lX12_204 ⟨by decide, by decide⟩ rfl rfl ⟨by decide, by decide⟩ S_18.obj (by omega) rfl (Nat.le_of_ble_eq_true rfl) (oX12_count S_18 hn 0 0 0 D.length 0 (by omega) (by omega) (by omega) ((K_8.uo (by decide)).uo (by decide)) (fun j => (stN (ctS F D) (macV F (layN 0 N)) j).1) (fun j_ f_ _ e_ => by rw [om_one1 f_ (by omega) (Or.inl rfl), e_]; rfl) ((gt_pt _ _ _).trans m0)) (fun h_19 r_ q_20 => ?_)
  obtain ⟨ψ_24, rfl, S_21, K_23, J_25, F_22⟩ := q_20
  have K_26 := ((K_8.uo (by decide)).uo (by decide)).fr K_23 (by decide) (by decide) (by decide) (by decide)
  have t49 : ψ_24 85 = pt (ψ_6 85) 0 (gt (ψ_6 82) 0) := K_23 85 (by decide)
  have lO : (ctO F D (macV F (layN 0 N))).length = D.length := by unfold ctO; rw [stN_lenM D (fun j_ y_ => ctS_len F D j_ y_)]; have := nbk_b D; omega
  have yC : sg (ψ_24 72) 0 (ctO F D (macV F (layN 0 N))) := by
    refine stN_sg (H := F) (fun _ _ => rfl) (fun j_ hj_ => ?_)
    have c_ : ψ_24 72 = _ := J_25
    rw [c_, pgB_in _ _ (by omega) (by omega), Nat.zero_add, Nat.sub_zero, Nat.zero_add]
    exact congrArg (fun v_ => v_ ^^^ _) (by show ψ_6 71 j_ = _; rw [e71]; exact sg0 hsD hj_)
  refine R_aload_n (pc := 52) 0 dX12_twice_52 rfl rfl ?_
  refine R_iconst (pc := 53) (v := 1) dX12_twice_53 (by decide) ?_
  refine R_aload_n (pc := 54) 0 dX12_twice_54 rfl rfl ?_
  refine R_get (pc := 55) dX12_twice_55 fX12_50 S_21.obj (by omega) rfl ?_
  refine R_aload_n (pc := 58) 0 dX12_twice_58 rfl rfl ?_
  refine R_get (pc := 59) dX12_twice_59 fX12_140 S_21.obj (by omega) rfl ?_
  refine R_eqi (y := nI A.length) (hi6) ?_
  refine R_callVh (pc := 62) (μ' := mX12_sumOf) (As := [.int (nI 1), .ref 74, .int (nI A.length)]) (st := []) dX12_twice_62 zX12_sumOf lX12_214 ⟨by decide, by decide⟩ rfl rfl ⟨by decide, by decide⟩ S_21.obj (by omega) rfl (Nat.le_of_ble_eq_true rfl) (oX12_sumOf S_21 hn 1 (by omega) (p := 74) rfl (by decide) A (by omega) (by show A.length ≤ 256; omega) (show sg (ψ_24 74) 0 A by rw [show ψ_24 74 = ψ 74 from (show FR [72, 75, 76, 82, 83, 84, 85] ψ _ from (((((FR.rf _ _).tr K_5 (by decide)).up (by decide)).up (by decide)).tr K_23 (by decide))) 74 (by decide)]; exact hsA) K_26) (fun h_27 r_ q_28 => ?_)
  obtain ⟨ψ_32, rfl, S_29, K_31, J_33, F_30⟩ := q_28
  have K_34 := K_26.fr K_31 (by decide) (by decide) (by decide) (by decide)
  have S_35 : MO h_27 ψ_32 z (ui i 7 (nI (16 + A.length))) := by have z_ := S_29; rw [ui_ui] at z_; exact z_
  have t62 : ψ_32 85 = ψ_24 85 := K_31 85 (by decide)
  have m1 : gt (ψ_32 82) 0 = macV F (layN 1 A) := J_33
  have y62 : ψ_32 72 = ψ_24 72 := K_31 72 (by decide)
  refine R_aload_n (pc := 65) 0 dX12_twice_65 rfl rfl ?_
  refine R_get (pc := 66) dX12_twice_66 fX12_74 S_35.obj (by omega) rfl ?_
  refine R_iconst (pc := 69) (v := 0) dX12_twice_69 (by decide) ?_
  refine R_aload_n (pc := 70) 0 dX12_twice_70 rfl rfl ?_
  refine R_get (pc := 71) dX12_twice_71 fX12_83 S_35.obj (by omega) rfl ?_
  refine R_iconst (pc := 74) (v := 0) dX12_twice_74 (by decide) ?_
  refine R_bipush (pc := 75) (v := 16) dX12_twice_75 (by decide) ?_
  refine R_callSh (pc := 77) (μ' := mX12_add) (As := [.ref 82, .int (nI 0), .ref 85, .int (nI 0), .int 16]) (st := []) dX12_twice_77 zX12_add lX12_143 ⟨by decide, by decide⟩ rfl rfl ⟨by decide, by decide⟩ rfl (Nat.le_of_ble_eq_true rfl) (oX12_add16 S_35 hn (p := 82) (q := 85) rfl rfl 0 0 (by show 0 + 16 ≤ 16; omega) (by show 0 + 16 ≤ 16; omega) (by decide)) (fun h_36 r_ q_37 => ?_)
  obtain ⟨rfl, S_38, F_39⟩ := q_37
  have S_40 : MO h_36 (uo ψ_32 85 (pt (ψ_32 85) 0 (xb (gt (ψ_32 85) 0) (gt (ψ_32 82) 0)))) z (ui i 7 (nI (16 + A.length))) := S_38
  have yO : sg (ψ_32 72) 0 (ctO F D (macV F (layN 0 N))) := by rw [y62]; exact yC
  refine R_aload_n (pc := 80) 0 dX12_twice_80 rfl rfl ?_
  refine R_iconst (pc := 81) (v := 2) dX12_twice_81 (by decide) ?_
  refine R_iload_n (pc := 82) 1 dX12_twice_82 rfl rfl ?_
  refine R_if_eq (pc := 83) (tgt := 93) dX12_twice_83 (by decide) (fun c_41 => absurd c_41 (by decide)) (fun c_41 => ?_)
  refine R_aload_n (pc := 86) 0 dX12_twice_86 rfl rfl ?_
  refine R_get (pc := 87) dX12_twice_87 fX12_41 S_40.obj (by omega) rfl ?_
  refine R_goto (pc := 90) (tgt := 97) dX12_twice_90 (by decide) ?_
  refine R_iload_n (pc := 97) 2 dX12_twice_97 rfl rfl ?_
  refine R_callVh (pc := 98) (μ' := mX12_sumOf) (As := [.int (nI 2), .ref 71, .int (nI D.length)]) (st := []) dX12_twice_98 zX12_sumOf lX12_214 ⟨by decide, by decide⟩ rfl rfl ⟨by decide, by decide⟩ S_40.obj (by omega) rfl (Nat.le_of_ble_eq_true rfl) (oX12_sumOf S_40 hn 2 (by omega) (p := 71) rfl (by decide) D (by omega) (by show D.length ≤ 700; omega) (show sg (ψ_32 71) 0 D by rw [show ψ_32 71 = ψ 71 from (show FR [72, 75, 76, 82, 83, 84, 85] ψ _ from ((((((FR.rf _ _).tr K_5 (by decide)).up (by decide)).up (by decide)).tr K_23 (by decide)).tr K_31 (by decide))) 71 (by decide)]; exact hsD) (K_34.uo (by decide))) (fun h_42 r_ q_43 => ?_)
  obtain ⟨ψ_47, rfl, S_44, K_46, J_48, F_45⟩ := q_43
  have K_49 := (K_34.uo (by decide)).fr K_46 (by decide) (by decide) (by decide) (by decide)
  have S_50 : MO h_42 ψ_47 z (ui i 7 (nI (16 + D.length))) := by have z_ := S_44; rw [ui_ui] at z_; exact z_
  have t98 : ψ_47 85 = pt (ψ_32 85) 0 (xb (gt (ψ_32 85) 0) (gt (ψ_32 82) 0)) := K_46 85 (by decide)
  have m2 : gt (ψ_47 82) 0 = macV F (layN 2 D) := J_48
  have y98 : ψ_47 72 = ψ_32 72 := K_46 72 (by decide)
  refine R_aload_n (pc := 101) 0 dX12_twice_101 rfl rfl ?_
  refine R_get (pc := 102) dX12_twice_102 fX12_74 S_50.obj (by omega) rfl ?_
  refine R_iconst (pc := 105) (v := 0) dX12_twice_105 (by decide) ?_
  refine R_aload_n (pc := 106) 0 dX12_twice_106 rfl rfl ?_
  refine R_get (pc := 107) dX12_twice_107 fX12_83 S_50.obj (by omega) rfl ?_
  refine R_iconst (pc := 110) (v := 0) dX12_twice_110 (by decide) ?_
  refine R_bipush (pc := 111) (v := 16) dX12_twice_111 (by decide) ?_
  refine R_callSh (pc := 113) (μ' := mX12_add) (As := [.ref 82, .int (nI 0), .ref 85, .int (nI 0), .int 16]) (st := []) dX12_twice_113 zX12_add lX12_143 ⟨by decide, by decide⟩ rfl rfl ⟨by decide, by decide⟩ rfl (Nat.le_of_ble_eq_true rfl) (oX12_add16 S_50 hn (p := 82) (q := 85) rfl rfl 0 0 (by show 0 + 16 ≤ 16; omega) (by show 0 + 16 ≤ 16; omega) (by decide)) (fun h_51 r_ q_52 => ?_)
  obtain ⟨rfl, S_53, F_54⟩ := q_52
  have S_55 : MO h_51 (uo ψ_47 85 (pt (ψ_47 85) 0 (xb (gt (ψ_47 85) 0) (gt (ψ_47 82) 0)))) z (ui i 7 (nI (16 + D.length))) := S_53
  have hy : gt (pt (ψ_47 85) 0 (xb (gt (ψ_47 85) 0) (gt (ψ_47 82) 0))) 0 = twT F A N D := by
    unfold twT
    simp only [gt_pt, pt_pt]
    rw [m2, t98]
    simp only [gt_pt, pt_pt]
    rw [m1, t62, t49]
    simp only [gt_pt, pt_pt]
    rw [m0]
  have hz : sg (ψ_47 72) 0 (ctO F D (macV F (layN 0 N))) := by rw [y98]; exact yO
  have hI : IE [7] i (ui i 7 (nI (16 + D.length))) := fun k_ hk_ => ui_n (fun e_ => hk_ (by rw [e_]; decide))
  exact R_vreturn (pc := 116) dX12_twice_116 rfl (by decide) (by decide) ⟨rfl, _, _, rfl, S_55, hI, (((((((((FR.rf _ _).tr K_5 (by decide)).up (by decide)).up (by decide)).tr K_23 (by decide)).tr K_31 (by decide)).up (by decide)).tr K_46 (by decide)).up (by decide)), ⟨hz, hy⟩, (((((((F_4.tr F_12).tr F_17).tr F_22).tr F_30).tr F_39).tr F_45).tr F_54)⟩
