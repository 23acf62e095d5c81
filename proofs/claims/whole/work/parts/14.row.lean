set_option maxHeartbeats 4000000 in
set_option maxRecDepth 100000 in
theorem qX6_room (l : Launch) (w : am_W) (h : am_H) (n r N : Nat) (L : List (BitVec 8)) (hR : rowAt h r N L) (hn : 0 < r ∧ r + 1 ≤ n) : RP l w mX6_room h n [.ref r] (.int (nI N)) := by
  obtain ⟨hLN, hN, hr, f, ha, hf⟩ := id hR
  refine RC.of [(0, .ref r)] (by decide +kernel) rfl (Nat.le_of_ble_eq_true rfl) ?_
  refine R_aload_n (pc := 0) 0 dX6_room_0 rfl rfl ?_
  refine R_get (pc := 1) dX6_room_1 fX6_13 hr (by omega) rfl ?_
  refine R_alenI (pc := 4) dX6_room_4 ha (by omega) ?_
  exact R_ireturn (pc := 5) dX6_room_5 rfl (by decide) (by decide) ⟨rfl, rfl, rfl⟩
set_option maxHeartbeats 4000000 in
set_option maxRecDepth 100000 in
theorem qX6_has (l : Launch) (w : am_W) (h : am_H) (n r N : Nat) (L : List (BitVec 8)) (hR : rowAt h r N L) (hn : 0 < r ∧ r + 1 ≤ n) (i : Int32) : RP l w mX6_has h n [.ref r, .int i] (.int (if i < 0 then 0 else if nI L.length ≤ i then 0 else 1)) := by
  obtain ⟨hLN, hN, hr, f, ha, hf⟩ := id hR
  refine RC.of [(0, .ref r), (1, .int i)] (by decide +kernel) rfl (Nat.le_of_ble_eq_true rfl) ?_
  refine R_iload_n (pc := 0) 1 dX6_has_0 rfl rfl ?_
  refine R_if_lt (pc := 1) (tgt := 16) dX6_has_1 (by decide) (fun c_1 => ?_) (fun c_1 => ?_)
  · skip
    refine R_iconst (pc := 16) (v := 0) dX6_has_16 (by decide) ?_
    exact R_zreturn (pc := 17) dX6_has_17 rfl rfl (by decide) (by decide) ⟨rfl, rfl, by rw [if_pos c_1]⟩
  · skip
    refine R_iload_n (pc := 4) 1 dX6_has_4 rfl rfl ?_
    refine R_aload_n (pc := 5) 0 dX6_has_5 rfl rfl ?_
    refine R_get (pc := 6) dX6_has_6 fX6_19 hr (by omega) rfl ?_
    refine R_icmp_ge (pc := 9) (tgt := 16) dX6_has_9 (by decide) (fun c_2 => ?_) (fun c_2 => ?_)
    · skip
      refine R_iconst (pc := 16) (v := 0) dX6_has_16 (by decide) ?_
      exact R_zreturn (pc := 17) dX6_has_17 rfl rfl (by decide) (by decide) ⟨rfl, rfl, by rw [if_neg c_1, if_pos c_2]⟩
    · skip
      refine R_iconst (pc := 12) (v := 1) dX6_has_12 (by decide) ?_
      refine R_goto (pc := 13) (tgt := 17) dX6_has_13 (by decide) ?_
      exact R_zreturn (pc := 17) dX6_has_17 rfl rfl (by decide) (by decide) ⟨rfl, rfl, by rw [if_neg c_1, if_neg c_2]⟩
set_option maxHeartbeats 4000000 in
set_option maxRecDepth 100000 in
theorem qX6_hasRoomFor (l : Launch) (w : am_W) (h : am_H) (n r N : Nat) (L : List (BitVec 8)) (hR : rowAt h r N L) (hn : 0 < r ∧ r + 1 ≤ n) (i : Int32) : RP l w mX6_hasRoomFor h n [.ref r, .int i] (.int (if nI (N - L.length) < i then 0 else 1)) := by
  obtain ⟨hLN, hN, hr, f, ha, hf⟩ := id hR
  refine RC.of [(0, .ref r), (1, .int i)] (by decide +kernel) rfl (Nat.le_of_ble_eq_true rfl) ?_
  refine R_iload_n (pc := 0) 1 dX6_hasRoomFor_0 rfl rfl ?_
  refine R_aload_n (pc := 1) 0 dX6_hasRoomFor_1 rfl rfl ?_
  refine R_get (pc := 2) dX6_hasRoomFor_2 fX6_13 hr (by omega) rfl ?_
  refine R_alenI (pc := 5) dX6_hasRoomFor_5 ha (by omega) ?_
  refine R_aload_n (pc := 6) 0 dX6_hasRoomFor_6 rfl rfl ?_
  refine R_get (pc := 7) dX6_hasRoomFor_7 fX6_19 hr (by omega) rfl ?_
  refine R_isub (pc := 10) dX6_hasRoomFor_10 ?_
  refine R_eqi (y := nI (N - L.length)) (pk_sub hLN) ?_
  refine R_icmp_gt (pc := 11) (tgt := 18) dX6_hasRoomFor_11 (by decide) (fun c_1 => ?_) (fun c_1 => ?_)
  · skip
    refine R_iconst (pc := 18) (v := 0) dX6_hasRoomFor_18 (by decide) ?_
    exact R_zreturn (pc := 19) dX6_hasRoomFor_19 rfl rfl (by decide) (by decide) ⟨rfl, rfl, by rw [if_pos c_1]⟩
  · skip
    refine R_iconst (pc := 14) (v := 1) dX6_hasRoomFor_14 (by decide) ?_
    refine R_goto (pc := 15) (tgt := 19) dX6_hasRoomFor_15 (by decide) ?_
    exact R_zreturn (pc := 19) dX6_hasRoomFor_19 rfl rfl (by decide) (by decide) ⟨rfl, rfl, by rw [if_neg c_1]⟩
set_option maxHeartbeats 4000000 in
set_option maxRecDepth 100000 in
theorem qX6_at (l : Launch) (w : am_W) (h : am_H) (n r N : Nat) (L : List (BitVec 8)) (hR : rowAt h r N L) (hn : 0 < r ∧ r + 1 ≤ n) (i : Int32) : RP l w mX6_at h n [.ref r, .int i] (.int (atI L i)) := by
  obtain ⟨hLN, hN, hr, f, ha, hf⟩ := id hR
  refine RC.of [(0, .ref r), (1, .int i)] (by decide +kernel) rfl (Nat.le_of_ble_eq_true rfl) ?_
  refine R_iload_n (pc := 0) 1 dX6_at_0 rfl rfl ?_
  refine R_if_lt (pc := 1) (tgt := 30) dX6_at_1 (by decide) (fun c_1 => ?_) (fun c_1 => ?_)
  · skip
    refine R_iconst (pc := 30) (v := 0) dX6_at_30 (by decide) ?_
    exact R_ireturn (pc := 31) dX6_at_31 rfl (by decide) (by decide) ⟨rfl, rfl, by simp_all [atI]⟩
  · skip
    refine R_iload_n (pc := 4) 1 dX6_at_4 rfl rfl ?_
    refine R_aload_n (pc := 5) 0 dX6_at_5 rfl rfl ?_
    refine R_get (pc := 6) dX6_at_6 fX6_19 hr (by omega) rfl ?_
    refine R_icmp_ge (pc := 9) (tgt := 30) dX6_at_9 (by decide) (fun c_2 => ?_) (fun c_2 => ?_)
    · skip
      refine R_iconst (pc := 30) (v := 0) dX6_at_30 (by decide) ?_
      exact R_ireturn (pc := 31) dX6_at_31 rfl (by decide) (by decide) ⟨rfl, rfl, by simp_all [atI]⟩
    · skip
      refine R_iload_n (pc := 12) 1 dX6_at_12 rfl rfl ?_
      refine R_aload_n (pc := 13) 0 dX6_at_13 rfl rfl ?_
      refine R_get (pc := 14) dX6_at_14 fX6_13 hr (by omega) rfl ?_
      refine R_alenI (pc := 17) dX6_at_17 ha (by omega) ?_
      refine R_icmp_ge (pc := 18) (tgt := 30) dX6_at_18 (by decide) (fun c_3 => absurd c_3 (fun q => c_2 (Int32.le_trans (nI_le hLN (by omega)) q))) (fun c_3 => ?_)
      refine R_aload_n (pc := 21) 0 dX6_at_21 rfl rfl ?_
      refine R_get (pc := 22) dX6_at_22 fX6_13 hr (by omega) rfl ?_
      refine R_iload_n (pc := 25) 1 dX6_at_25 rfl rfl ?_
      refine R_iald' (pc := 26) (j := i.toNatClampNeg) dX6_at_26 ha (by omega) ⟨(am_pos (by omega) c_1 c_2).1, Nat.lt_of_lt_of_le (am_pos (by omega) c_1 c_2).2 hLN, by omega⟩ ?_
      refine R_goto (pc := 27) (tgt := 31) dX6_at_27 (by decide) ?_
      exact R_ireturn (pc := 31) dX6_at_31 rfl (by decide) (by decide) ⟨rfl, rfl, by unfold atI; rw [if_neg c_1, if_neg c_2, hf _ (am_pos (by omega) c_1 c_2).2]⟩
theorem row_app (f : Nat → Int32) (L : List (BitVec 8)) (b : BitVec 8) (hf : ∀ j, j < L.length → f j = oc (og L j)) : ∀ j, j < (L ++ [b]).length → upd f L.length (oc b) j = oc (og (L ++ [b]) j) := by
  intro j hj
  rw [List.length_append] at hj
  by_cases h : j = L.length
  · subst h
    simp [upd, og]
  · have h2 : j < L.length := by simp at hj; omega
    rw [show upd f L.length (oc b) j = f j from if_neg h, hf j h2]
    simp [og, List.getElem?_append_left h2]
set_option maxHeartbeats 4000000 in
set_option maxRecDepth 100000 in
theorem qX6_append (l : Launch) (w : am_W) (h : am_H) (n r N : Nat) (L : List (BitVec 8)) (hR : rowAt h r N L) (hn : 0 < r ∧ r + 1 ≤ n) (v : Int32) (hlt : L.length < N) : RH l w mX6_append h n [.ref r, .int v] (fun h' q => q = none ∧ rowAt h' r N (L ++ [t8 v]) ∧ ∀ x, x ≠ r → x ≠ r + 1 → h' x = h x) := by
  obtain ⟨hLN, hN, hr, f, ha, hf⟩ := id hR
  refine RC.of [(0, .ref r), (1, .int v)] (by decide +kernel) rfl (Nat.le_of_ble_eq_true rfl) ?_
  refine R_aload_n (pc := 0) 0 dX6_append_0 rfl rfl ?_
  refine R_get (pc := 1) dX6_append_1 fX6_19 hr (by omega) rfl ?_
  refine R_if_lt (pc := 4) (tgt := 43) dX6_append_4 (by decide) (fun c_1 => absurd c_1 (nI_pos (by omega))) (fun c_1 => ?_)
  refine R_aload_n (pc := 7) 0 dX6_append_7 rfl rfl ?_
  refine R_get (pc := 8) dX6_append_8 fX6_19 hr (by omega) rfl ?_
  refine R_aload_n (pc := 11) 0 dX6_append_11 rfl rfl ?_
  refine R_get (pc := 12) dX6_append_12 fX6_13 hr (by omega) rfl ?_
  refine R_alenI (pc := 15) dX6_append_15 ha (by omega) ?_
  refine R_icmp_ge (pc := 16) (tgt := 43) dX6_append_16 (by decide) (fun c_2 => absurd c_2 (nI_ge hlt (by omega))) (fun c_2 => ?_)
  refine R_aload_n (pc := 19) 0 dX6_append_19 rfl rfl ?_
  refine R_get (pc := 20) dX6_append_20 fX6_13 hr (by omega) rfl ?_
  refine R_aload_n (pc := 23) 0 dX6_append_23 rfl rfl ?_
  refine R_get (pc := 24) dX6_append_24 fX6_19 hr (by omega) rfl ?_
  refine R_iload_n (pc := 27) 1 dX6_append_27 rfl rfl ?_
  refine R_sipush (pc := 28) (v := 255) dX6_append_28 (by decide) ?_
  refine R_iand (pc := 31) dX6_append_31 ?_
  refine R_eqi (y := oc (t8 v)) (oc_t8 v) ?_
  refine R_iast' (pc := 32) (j := L.length) dX6_append_32 ha (by omega) ⟨rfl, hlt, by omega⟩ (fun h_3 f_4 g_5 => ?_)
  have f_6 := (g_5 r (by omega)).trans hr
  refine R_aload_n (pc := 33) 0 dX6_append_33 rfl rfl ?_
  refine R_dup (pc := 34) dX6_append_34 rfl ?_
  refine R_get (pc := 35) dX6_append_35 fX6_19 f_6 (by omega) rfl ?_
  refine R_iconst (pc := 38) (v := 1) dX6_append_38 (by decide) ?_
  refine R_iadd (pc := 39) dX6_append_39 ?_
  refine R_eqi (y := nI (L.length + 1)) (nI_1 L.length) ?_
  refine R_put' (pc := 40) (fs' := [.ref (r + 1), .int (nI (L.length + 1))]) dX6_append_40 fX6_19 tX6_1 rfl rfl f_6 (by omega) (Nat.le_of_ble_eq_true rfl) rfl (fun h_7 f_8 g_9 => ?_)
  have f_10 := (g_9 (r + 1) (by omega)).trans f_4
  refine R_vreturn (pc := 43) dX6_append_43 rfl (by decide) (by decide) ⟨rfl, rfl, ⟨by simp; omega, hN, ?_, _, f_10, ?_⟩, (fun x_ n0_ n1_ => ((g_9 x_ n0_).trans (g_5 x_ n1_)))⟩
  · rw [f_8, List.length_append]; rfl
  · exact row_app f L (t8 v) hf
def rput (L : List (BitVec 8)) (i : Int32) (b : BitVec 8) : List (BitVec 8) := if i < 0 ∨ nI L.length ≤ i then L else L.set i.toNatClampNeg b
theorem row_putl (L : List (BitVec 8)) (i : Int32) (b : BitVec 8) : (rput L i b).length = L.length := by
  unfold rput
  by_cases h : i < 0 ∨ nI L.length ≤ i
  · rw [if_pos h]
  · rw [if_neg h, List.length_set]
theorem row_put0 {L : List (BitVec 8)} {i : Int32} {b : BitVec 8} (h : i < 0 ∨ nI L.length ≤ i) : rput L i b = L := if_pos h
theorem row_put1 (f : Nat → Int32) (L : List (BitVec 8)) (b : BitVec 8) (hf : ∀ j, j < L.length → f j = oc (og L j)) {i : Int32} (h1 : ¬ i < 0) (h2 : ¬ nI L.length ≤ i) (hL : L.length < 2 ^ 31) : ∀ j, j < (rput L i b).length → upd f i.toNatClampNeg (oc b) j = oc (og (rput L i b) j) := by
  intro j hj
  rw [row_putl] at hj
  have hp := am_pos hL h1 h2
  have e : rput L i b = L.set i.toNatClampNeg b := if_neg (fun q => q.elim h1 h2)
  rw [e]
  by_cases h : j = i.toNatClampNeg
  · rw [← h]
    simp [upd, og, hj]
  · rw [show upd f i.toNatClampNeg (oc b) j = f j from if_neg h, hf j hj]
    unfold og
    rw [List.getD_eq_getElem?_getD, List.getD_eq_getElem?_getD, List.getElem?_set_ne (fun q => h q.symm)]
theorem rput_nI (L : List (BitVec 8)) {j : Nat} (b : BitVec 8) (hj : j < 2 ^ 31) (hL : L.length < 2 ^ 31) : rput L (nI j) b = L.set j b := by
  unfold rput
  rw [nI_clamp hj]
  by_cases h : L.length ≤ j
  · rw [if_pos (Or.inr ((nI_leI hL hj).mpr h)), List.set_eq_of_length_le h]
  · rw [if_neg (fun q => q.elim (nI_pos hj) (fun z => h ((nI_leI hL hj).mp z)))]
set_option maxHeartbeats 4000000 in
set_option maxRecDepth 100000 in
theorem qX6_put (l : Launch) (w : am_W) (h : am_H) (n r N : Nat) (L : List (BitVec 8)) (hR : rowAt h r N L) (hn : 0 < r ∧ r + 1 ≤ n) (i v : Int32) : RH l w mX6_put h n [.ref r, .int i, .int v] (fun h' q => q = none ∧ rowAt h' r N (rput L i (t8 v)) ∧ ∀ x, x ≠ r + 1 → h' x = h x) := by
  obtain ⟨hLN, hN, hr, f, ha, hf⟩ := id hR
  refine RC.of [(0, .ref r), (1, .int i), (2, .int v)] (by decide +kernel) rfl (Nat.le_of_ble_eq_true rfl) ?_
  refine R_iload_n (pc := 0) 1 dX6_put_0 rfl rfl ?_
  refine R_if_lt (pc := 1) (tgt := 32) dX6_put_1 (by decide) (fun c_1 => ?_) (fun c_1 => ?_)
  · skip
    exact R_vreturn (pc := 32) dX6_put_32 rfl (by decide) (by decide) ⟨rfl, rfl, by rw [row_put0 (by simp_all)]; exact hR, fun _ _ => rfl⟩
  · skip
    refine R_iload_n (pc := 4) 1 dX6_put_4 rfl rfl ?_
    refine R_aload_n (pc := 5) 0 dX6_put_5 rfl rfl ?_
    refine R_get (pc := 6) dX6_put_6 fX6_19 hr (by omega) rfl ?_
    refine R_icmp_ge (pc := 9) (tgt := 32) dX6_put_9 (by decide) (fun c_2 => ?_) (fun c_2 => ?_)
    · skip
      exact R_vreturn (pc := 32) dX6_put_32 rfl (by decide) (by decide) ⟨rfl, rfl, by rw [row_put0 (by simp_all)]; exact hR, fun _ _ => rfl⟩
    · skip
      refine R_iload_n (pc := 12) 1 dX6_put_12 rfl rfl ?_
      refine R_aload_n (pc := 13) 0 dX6_put_13 rfl rfl ?_
      refine R_get (pc := 14) dX6_put_14 fX6_13 hr (by omega) rfl ?_
      refine R_alenI (pc := 17) dX6_put_17 ha (by omega) ?_
      refine R_icmp_ge (pc := 18) (tgt := 32) dX6_put_18 (by decide) (fun c_3 => absurd c_3 (fun q => c_2 (Int32.le_trans (nI_le hLN (by omega)) q))) (fun c_3 => ?_)
      refine R_aload_n (pc := 21) 0 dX6_put_21 rfl rfl ?_
      refine R_get (pc := 22) dX6_put_22 fX6_13 hr (by omega) rfl ?_
      refine R_iload_n (pc := 25) 1 dX6_put_25 rfl rfl ?_
      refine R_iload_n (pc := 26) 2 dX6_put_26 rfl rfl ?_
      refine R_sipush (pc := 27) (v := 255) dX6_put_27 (by decide) ?_
      refine R_iand (pc := 30) dX6_put_30 ?_
      refine R_eqi (y := oc (t8 v)) (oc_t8 v) ?_
      refine R_iast' (pc := 31) (j := i.toNatClampNeg) dX6_put_31 ha (by omega) ⟨(am_pos (by omega) c_1 c_2).1, Nat.lt_of_lt_of_le (am_pos (by omega) c_1 c_2).2 hLN, by omega⟩ (fun h_4 f_5 g_6 => ?_)
      have f_7 := (g_6 r (by omega)).trans hr
      refine R_vreturn (pc := 32) dX6_put_32 rfl (by decide) (by decide) ⟨rfl, rfl, ⟨by rw [row_putl]; exact hLN, hN, ?_, _, f_5, ?_⟩, (fun x_ n0_ => (g_6 x_ n0_))⟩
      · rw [f_7, row_putl]
      · exact row_put1 f L (t8 v) hf c_1 c_2 (by omega)
set_option maxHeartbeats 4000000 in
set_option maxRecDepth 100000 in
theorem qX6_keep (l : Launch) (w : am_W) (h : am_H) (n r N : Nat) (L : List (BitVec 8)) (hR : rowAt h r N L) (hn : 0 < r ∧ r + 1 ≤ n) (j : Nat) (hj : j < 2 ^ 31) : RH l w mX6_keep h n [.ref r, .int (nI j)] (fun h' q => q = none ∧ rowAt h' r N (L.take j) ∧ ∀ x, x ≠ r → h' x = h x) := by
  obtain ⟨hLN, hN, hr, f, ha, hf⟩ := id hR
  refine RC.of [(0, .ref r), (1, .int (nI j))] (by decide +kernel) rfl (Nat.le_of_ble_eq_true rfl) ?_
  refine R_iload_n (pc := 0) 1 dX6_keep_0 rfl rfl ?_
  refine R_if_lt (pc := 1) (tgt := 17) dX6_keep_1 (by decide) (fun c_1 => absurd c_1 (nI_pos hj)) (fun c_1 => ?_)
  refine R_iload_n (pc := 4) 1 dX6_keep_4 rfl rfl ?_
  refine R_aload_n (pc := 5) 0 dX6_keep_5 rfl rfl ?_
  refine R_get (pc := 6) dX6_keep_6 fX6_19 hr (by omega) rfl ?_
  refine R_icmp_ge (pc := 9) (tgt := 17) dX6_keep_9 (by decide) (fun c_2 => ?_) (fun c_2 => ?_)
  · skip
    exact R_vreturn (pc := 17) dX6_keep_17 rfl (by decide) (by decide) ⟨rfl, rfl, by rw [List.take_of_length_le ((nI_leI (by omega) hj).mp c_2)]; exact hR, fun _ _ => rfl⟩
  · skip
    refine R_aload_n (pc := 12) 0 dX6_keep_12 rfl rfl ?_
    refine R_iload_n (pc := 13) 1 dX6_keep_13 rfl rfl ?_
    refine R_put' (pc := 14) (fs' := [.ref (r + 1), .int (nI j)]) dX6_keep_14 fX6_19 tX6_1 rfl rfl hr (by omega) (Nat.le_of_ble_eq_true rfl) rfl (fun h_3 f_4 g_5 => ?_)
    have f_6 := (g_5 (r + 1) (by omega)).trans ha
    have hjl : j < L.length := by rcases Nat.lt_or_ge j L.length with q | q; exact q; exact absurd ((nI_leI (by omega) hj).mpr q) c_2
    refine R_vreturn (pc := 17) dX6_keep_17 rfl (by decide) (by decide) ⟨rfl, rfl, ⟨by rw [List.length_take]; omega, hN, ?_, f, f_6, ?_⟩, (fun x_ n0_ => (g_5 x_ n0_))⟩
    · rw [f_4, List.length_take, Nat.min_eq_left (Nat.le_of_lt hjl)]
    · intro i hi; rw [List.length_take] at hi; rw [hf i (by omega)]; simp [og, List.getElem?_take, show i < j by omega]
