/-- WRAP's row before it is mixed -/
def lay8 (L : List (BitVec 8)) : List (BitVec 8) := pdd 3 (List.replicate 8 0 ++ L)
theorem pad2_lt (n k : Nat) : pad2 n k < 2 ^ k := Nat.mod_lt _ (Nat.two_pow_pos k)
theorem pdd_len (k : Nat) (L : List (BitVec 8)) : (pdd k L).length = L.length + pad2 L.length k := by simp [pdd]
theorem lay8_len (L : List (BitVec 8)) : (lay8 L).length = 8 + (L.length + 7) / 8 * 8 := by
  unfold lay8
  rw [pdd_len]
  unfold pad2
  simp only [List.length_append, List.length_replicate]
  omega
set_option maxHeartbeats 4000000 in
set_option maxRecDepth 100000 in
theorem qX10_layBehind_loop {l : Launch} {w : am_W} {h : am_H} {n : Nat} {ρ : Nat → List (BitVec 8)} {β : Nat → bP} {κ : Nat → kT} {τ : Nat × Nat × Nat} (S : Sys h ρ β κ τ) (hn : 60 ≤ n) {t m : Nat} (ht : isRw t = true) (hm : isRw m = true) (htm : t ≠ m) (hm0 : ρ m = []) (hr : (ρ t).length + 16 ≤ rwN m) (kk : ∀ h2 β2, Sys h2 (ur ρ m (List.replicate (8) 0)) β2 κ τ → (∀ a, a ∉ [] → β2 a = β a) → Fr h h2 → RW l w mX10_layBehind h2 n 0 0 19 [(2, .int (nI (8))), (0, .ref t), (1, .ref m)] [] (fun h' n' r_ => n' = n ∧ (SX h τ none (ur ρ m (lay8 (ρ t))) β κ []) h' r_)) : ∀ (d i : Nat), i + d = 8 → ∀ h2 β2, Sys h2 (ur ρ m (List.replicate i 0)) β2 κ τ → (∀ a, a ∉ [] → β2 a = β a) → Fr h h2 → RW l w mX10_layBehind h2 n 0 0 2 [(2, .int (nI i)), (0, .ref t), (1, .ref m)] [] (fun h' n' r_ => n' = n ∧ (SX h τ none (ur ρ m (lay8 (ρ t))) β κ []) h' r_) := by
  have hlm := S.len m hm
  have hmc := rw_cases hm
  intro d
  induction d with
  | zero =>
    intro i hd h2 β2 S2 hB hF
    refine R_iload_n (pc := 2) 0 dX10_layBehind_2 rfl rfl ?_
    refine R_bipush (pc := 3) (v := 8) dX10_layBehind_3 (by decide) ?_
    refine R_icmp_ge (pc := 5) (tgt := 19) dX10_layBehind_5 (by decide) (fun c_1 => ?_) (fun c_1 => absurd (nI_le (a := 8) (by omega) (by omega)) c_1)
    obtain rfl : i = 8 := by omega
    exact kk h2 β2 S2 hB hF
  | succ d ih =>
    intro i hd h2 β2 S2 hB hF
    refine R_iload_n (pc := 2) 0 dX10_layBehind_2 rfl rfl ?_
    refine R_bipush (pc := 3) (v := 8) dX10_layBehind_3 (by decide) ?_
    refine R_icmp_ge (pc := 5) (tgt := 19) dX10_layBehind_5 (by decide) (fun c_1 => absurd c_1 (nI_ge (b := 8) (by omega) (by omega))) (fun c_1 => ?_)
    refine R_aload_n (pc := 8) 2 dX10_layBehind_8 rfl rfl ?_
    refine R_iconst (pc := 9) (v := 0) dX10_layBehind_9 (by decide) ?_
    refine R_callVh (pc := 10) (μ' := mX6_append) (As := [.int 0]) (st := []) dX10_layBehind_10 zX6_append lX10_101 ⟨by decide, by decide⟩ rfl rfl ⟨by decide, by decide⟩ (S2.rowO m hm) (by omega) rfl (Nat.le_of_ble_eq_true rfl) (S_append S2 hn hm _ (by simp only [ur_s, List.length_replicate]; omega)) (fun h_2 r_ q_3 => ?_)
    obtain ⟨rfl, S_4, F_6⟩ := q_3
    have S_5 : Sys h_2 (ur ρ m ((List.replicate i 0) ++ [t8 0])) β2 κ τ := by have z_ := S_4; (try simp only [ur_s, ur_ur, ur_n (x := t) (r := m) htm] at z_); exact z_
    refine R_iinc (pc := 13) (j := 0) (v := nI (i + 1)) (lv' := [(2, .int (nI (i + 1))), (0, .ref t), (1, .ref m)]) dX10_layBehind_13 rfl (nI_1 i) (by decide) rfl ?_
    refine R_goto (pc := 16) (tgt := 2) dX10_layBehind_16 (by decide) ?_
    refine R_sub [0, 1, 2] rfl ?_
    refine ih (i + 1) (by omega) h_2 β2 (by have z_ := S_5; rw [show t8 0 = (0 : BitVec 8) from by decide, ← List.replicate_succ'] at z_; exact z_)  (fun a_ n_ => ?_) (hF.tr F_6)
    have q_ := hB a_ n_; simp only [List.mem_cons, List.not_mem_nil, or_false, not_or] at n_
    (try simp only [ub, if_neg, n_, if_false])
    first | exact q_ | (simp only [ub_k]; exact q_) | (rw [q_]; simp only [ub_k]) | (repeat' split) <;> first | exact q_ | (rename_i e_; rw [e_])
set_option maxHeartbeats 4000000 in
set_option maxRecDepth 100000 in
theorem qX10_layBehind {l : Launch} {w : am_W} {h : am_H} {n : Nat} {ρ : Nat → List (BitVec 8)} {β : Nat → bP} {κ : Nat → kT} {τ : Nat × Nat × Nat} (S : Sys h ρ β κ τ) (hn : 60 ≤ n) {t m : Nat} (ht : isRw t = true) (hm : isRw m = true) (htm : t ≠ m) (hm0 : ρ m = []) (hr : (ρ t).length + 16 ≤ rwN m) : RH l w mX10_layBehind h n [.ref t, .ref m] (SX h τ none (ur ρ m (lay8 (ρ t))) β κ []) := by
  refine RC.of [(0, .ref t), (1, .ref m)] (by decide +kernel) rfl (Nat.le_of_ble_eq_true rfl) ?_
  have hlm := S.len m hm
  have hmc := rw_cases hm
  refine R_iconst (pc := 0) (v := 0) dX10_layBehind_0 (by decide) ?_
  refine R_istore_n (pc := 1) (lv' := [(2, .int 0), (0, .ref t), (1, .ref m)]) dX10_layBehind_1 rfl (by decide) rfl ?_
  refine R_sub [0, 1, 2] rfl ?_
  refine qX10_layBehind_loop S hn ht hm htm hm0 hr ?_ 8 0 (by omega) h β (by rw [show List.replicate 0 (0 : BitVec 8) = ρ m from hm0.symm, ur_id]; exact S) (fun _ _ => rfl) (Fr.rf h)
  intro h2 β2 S2 hB hF
  refine R_aload_n (pc := 19) 2 dX10_layBehind_19 rfl rfl ?_
  refine R_aload_n (pc := 20) 1 dX10_layBehind_20 rfl rfl ?_
  refine R_callVh (pc := 21) (μ' := mX6_appendRow) (As := [.ref t]) (st := []) dX10_layBehind_21 zX6_appendRow lX10_30 ⟨by decide, by decide⟩ rfl rfl ⟨by decide, by decide⟩ (S2.rowO m hm) (by omega) rfl (Nat.le_of_ble_eq_true rfl) (S_appendRow S2 hn hm ht htm (by simp only [ur_s, ur_n (x := t) (r := m) htm, List.length_replicate]; omega)) (fun h_1 r_ q_2 => ?_)
  obtain ⟨rfl, S_3, F_5⟩ := q_2
  have S_4 : Sys h_1 (ur ρ m ((List.replicate 8 0) ++ (ρ t))) β2 κ τ := by have z_ := S_3; (try simp only [ur_s, ur_ur, ur_n (x := t) (r := m) htm] at z_); exact z_
  refine R_aload_n (pc := 24) 2 dX10_layBehind_24 rfl rfl ?_
  refine R_bipush (pc := 25) (v := 8) dX10_layBehind_25 (by decide) ?_
  refine R_callVh (pc := 27) (μ' := mX6_padTo) (As := [.int (nI (2 ^ 3))]) (st := []) dX10_layBehind_27 zX6_padTo lX10_104 ⟨by decide, by decide⟩ rfl rfl ⟨by decide, by decide⟩ (S_4.rowO m hm) (by omega) rfl (Nat.le_of_ble_eq_true rfl) (S_padTo S_4 hn hm 3 (by omega) (by simp only [ur_s]; rw [List.length_append, List.length_replicate]; have := pad2_lt (8 + (ρ t).length) 3; omega)) (fun h_6 r_ q_7 => ?_)
  obtain ⟨rfl, S_8, F_10⟩ := q_7
  have S_9 : Sys h_6 (ur ρ m (pdd 3 ((List.replicate 8 0) ++ (ρ t)))) β2 κ τ := by have z_ := S_8; (try simp only [ur_s, ur_ur, ur_n (x := t) (r := m) htm] at z_); exact z_
  exact R_vreturn (pc := 30) dX10_layBehind_30 rfl (by decide) (by decide) ⟨rfl, β2, hB, rfl, S_9, ((hF.tr F_5).tr F_10)⟩
def tkN (L : List (BitVec 8)) : Nat → List (BitVec 8)
  | 0 => L
  | i + 1 => rput (tkN L i) (nI i) (t8 (atI (tkN L i) (nI (8 + i))))
theorem tkN_len (L : List (BitVec 8)) : ∀ i, (tkN L i).length = L.length
  | 0 => rfl
  | i + 1 => by
    show (rput (tkN L i) _ _).length = _
    rw [row_putl, tkN_len L i]
/-- the first eight octets off -/
def tk8 (L : List (BitVec 8)) : List (BitVec 8) := (tkN L (L.length - 8)).take (L.length - 8)
theorem tk8_len (L : List (BitVec 8)) : (tk8 L).length = L.length - 8 := by
  unfold tk8
  rw [List.length_take, tkN_len]
  omega
set_option maxHeartbeats 4000000 in
set_option maxRecDepth 100000 in
theorem qX10_takeOff_loop {l : Launch} {w : am_W} {h : am_H} {n : Nat} {ρ : Nat → List (BitVec 8)} {β : Nat → bP} {κ : Nat → kT} {τ : Nat × Nat × Nat} (S : Sys h ρ β κ τ) (hn : 60 ≤ n) {m : Nat} (hm : isRw m = true) (hlen : 8 ≤ (ρ m).length) (kk : ∀ h2 β2, Sys h2 (ur ρ m (tkN (ρ m) ((ρ m).length - 8))) β2 κ τ → (∀ a, a ∉ [] → β2 a = β a) → Fr h h2 → RW l w mX10_takeOff h2 n 0 0 30 [(1, .int (nI (8 + ((ρ m).length - 8)))), (0, .ref m)] [] (fun h' n' r_ => n' = n ∧ (SX h τ none (ur ρ m (tk8 (ρ m))) β κ []) h' r_)) : ∀ (d i : Nat), i + d = (ρ m).length - 8 → ∀ h2 β2, Sys h2 (ur ρ m (tkN (ρ m) i)) β2 κ τ → (∀ a, a ∉ [] → β2 a = β a) → Fr h h2 → RW l w mX10_takeOff h2 n 0 0 3 [(1, .int (nI (8 + i))), (0, .ref m)] [] (fun h' n' r_ => n' = n ∧ (SX h τ none (ur ρ m (tk8 (ρ m))) β κ []) h' r_) := by
  have hlm := S.len m hm
  have hmc := rw_cases hm
  intro d
  induction d with
  | zero =>
    intro i hd h2 β2 S2 hB hF
    refine R_iload_n (pc := 3) 0 dX10_takeOff_3 rfl rfl ?_
    refine R_aload_n (pc := 4) 1 dX10_takeOff_4 rfl rfl ?_
    have := rw_cases (r := m) hm
    refine R_get (pc := 5) dX10_takeOff_5 fX10_45 (S2.rowO m hm) (by omega) rfl ?_
    refine R_eqi (y := nI (tkN (ρ m) i).length) (by first | rfl | (simp only [ur_s, ur_ur])) ?_
    refine R_eqi (y := nI (ρ m).length) (by rw [tkN_len]) ?_
    refine R_icmp_ge (pc := 8) (tgt := 30) dX10_takeOff_8 (by decide) (fun c_1 => ?_) (fun c_1 => absurd (nI_le (by omega) (by omega)) c_1)
    obtain rfl : i = (ρ m).length - 8 := by omega
    exact kk h2 β2 S2 hB hF
  | succ d ih =>
    intro i hd h2 β2 S2 hB hF
    refine R_iload_n (pc := 3) 0 dX10_takeOff_3 rfl rfl ?_
    refine R_aload_n (pc := 4) 1 dX10_takeOff_4 rfl rfl ?_
    have := rw_cases (r := m) hm
    refine R_get (pc := 5) dX10_takeOff_5 fX10_45 (S2.rowO m hm) (by omega) rfl ?_
    refine R_eqi (y := nI (tkN (ρ m) i).length) (by first | rfl | (simp only [ur_s, ur_ur])) ?_
    refine R_eqi (y := nI (ρ m).length) (by rw [tkN_len]) ?_
    refine R_icmp_ge (pc := 8) (tgt := 30) dX10_takeOff_8 (by decide) (fun c_1 => absurd c_1 (nI_ge (by omega) (by omega))) (fun c_1 => ?_)
    refine R_aload_n (pc := 11) 1 dX10_takeOff_11 rfl rfl ?_
    refine R_iload_n (pc := 12) 0 dX10_takeOff_12 rfl rfl ?_
    refine R_bipush (pc := 13) (v := 8) dX10_takeOff_13 (by decide) ?_
    refine R_isub (pc := 15) dX10_takeOff_15 ?_
    refine R_eqi (y := nI i) ((pk_sub (a := 8 + i) (b := 8) (by omega)).trans (by rw [show 8 + i - 8 = i by omega])) ?_
    refine R_aload_n (pc := 16) 1 dX10_takeOff_16 rfl rfl ?_
    refine R_iload_n (pc := 17) 0 dX10_takeOff_17 rfl rfl ?_
    refine R_callVp (pc := 18) (μ' := mX6_at) (As := [.int (nI (8 + i))]) (st := [.int (nI i), .ref m]) dX10_takeOff_18 zX6_at lX10_97 ⟨by decide, by decide⟩ rfl rfl ⟨by decide, by decide⟩ (S2.rowO m hm) (by omega) rfl (Nat.le_of_ble_eq_true rfl) (S_at S2 hn hm _) ?_
    refine R_eqi (y := atI (tkN (ρ m) i) (nI (8 + i))) (by first | rfl | (simp only [ur_s, ur_ur])) ?_
    refine R_callVh (pc := 21) (μ' := mX6_put) (As := [.int (nI i), .int (atI (tkN (ρ m) i) (nI (8 + i)))]) (st := []) dX10_takeOff_21 zX6_put lX10_107 ⟨by decide, by decide⟩ rfl rfl ⟨by decide, by decide⟩ (S2.rowO m hm) (by omega) rfl (Nat.le_of_ble_eq_true rfl) (S_put S2 hn hm _ _) (fun h_2 r_ q_3 => ?_)
    obtain ⟨rfl, S_4, F_6⟩ := q_3
    have S_5 : Sys h_2 (ur ρ m (rput (tkN (ρ m) i) (nI i) (t8 (atI (tkN (ρ m) i) (nI (8 + i)))))) β2 κ τ := by have z_ := S_4; (try simp only [ur_s, ur_ur] at z_); exact z_
    refine R_iinc (pc := 24) (j := 0) (v := nI (8 + (i + 1))) (lv' := [(1, .int (nI (8 + (i + 1)))), (0, .ref m)]) dX10_takeOff_24 rfl (nI_1 (8 + i)) (by decide) rfl ?_
    refine R_goto (pc := 27) (tgt := 3) dX10_takeOff_27 (by decide) ?_
    refine R_sub [0, 1] rfl ?_
    refine ih (i + 1) (by omega) h_2 β2 (by have z_ := S_5; skip; exact z_)  (fun a_ n_ => ?_) (hF.tr F_6)
    have q_ := hB a_ n_; simp only [List.mem_cons, List.not_mem_nil, or_false, not_or] at n_
    (try simp only [ub, if_neg, n_, if_false])
    first | exact q_ | (simp only [ub_k]; exact q_) | (rw [q_]; simp only [ub_k]) | (repeat' split) <;> first | exact q_ | (rename_i e_; rw [e_])
set_option maxHeartbeats 4000000 in
set_option maxRecDepth 100000 in
theorem qX10_takeOff {l : Launch} {w : am_W} {h : am_H} {n : Nat} {ρ : Nat → List (BitVec 8)} {β : Nat → bP} {κ : Nat → kT} {τ : Nat × Nat × Nat} (S : Sys h ρ β κ τ) (hn : 60 ≤ n) {m : Nat} (hm : isRw m = true) (hlen : 8 ≤ (ρ m).length) : RH l w mX10_takeOff h n [.ref m] (SX h τ none (ur ρ m (tk8 (ρ m))) β κ []) := by
  refine RC.of [(0, .ref m)] (by decide +kernel) rfl (Nat.le_of_ble_eq_true rfl) ?_
  have hlm := S.len m hm
  have hmc := rw_cases hm
  refine R_bipush (pc := 0) (v := 8) dX10_takeOff_0 (by decide) ?_
  refine R_eqi (y := nI (8 + 0)) (rfl) ?_
  refine R_istore_n (pc := 2) (lv' := [(1, .int (nI (8 + 0))), (0, .ref m)]) dX10_takeOff_2 rfl (by decide) rfl ?_
  refine R_sub [0, 1] rfl ?_
  refine qX10_takeOff_loop S hn hm hlen ?_ ((ρ m).length - 8) 0 (by omega) h β (by rw [show tkN (ρ m) 0 = ρ m from rfl, ur_id]; exact S) (fun _ _ => rfl) (Fr.rf h)
  intro h2 β2 S2 hB hF
  refine R_aload_n (pc := 30) 1 dX10_takeOff_30 rfl rfl ?_
  refine R_aload_n (pc := 31) 1 dX10_takeOff_31 rfl rfl ?_
  have := rw_cases (r := m) hm
  refine R_get (pc := 32) dX10_takeOff_32 fX10_45 (S2.rowO m hm) (by omega) rfl ?_
  refine R_eqi (y := nI (tkN (ρ m) ((ρ m).length - 8)).length) (by first | rfl | (simp only [ur_s, ur_ur])) ?_
  refine R_bipush (pc := 35) (v := 8) dX10_takeOff_35 (by decide) ?_
  refine R_isub (pc := 37) dX10_takeOff_37 ?_
  refine R_eqi (y := nI ((ρ m).length - 8)) (by rw [tkN_len]; exact pk_sub (b := 8) (by omega)) ?_
  refine R_callVh (pc := 38) (μ' := mX6_keep) (As := [.int (nI ((ρ m).length - 8))]) (st := []) dX10_takeOff_38 zX6_keep lX10_63 ⟨by decide, by decide⟩ rfl rfl ⟨by decide, by decide⟩ (S2.rowO m hm) (by omega) rfl (Nat.le_of_ble_eq_true rfl) (S_keep S2 hn hm ((ρ m).length - 8) (by omega)) (fun h_1 r_ q_2 => ?_)
  obtain ⟨rfl, S_3, F_5⟩ := q_2
  have S_4 : Sys h_1 (ur ρ m ((tkN (ρ m) ((ρ m).length - 8)).take ((ρ m).length - 8))) β2 κ τ := by have z_ := S_3; (try simp only [ur_s, ur_ur] at z_); exact z_
  exact R_vreturn (pc := 41) dX10_takeOff_41 rfl (by decide) (by decide) ⟨rfl, β2, hB, rfl, S_4, (hF.tr F_5)⟩
def we0 (a : Int64) (len : Nat) : Int64 := ((jlushr a 32) ^^^ 2790873510) ||| (jlshr (((a &&& 4294967295) - (nI (len - 7)).toInt64) ||| ((nI len).toInt64 - (a &&& 4294967295))) 63)
def weN (a : Int64) (L : List (BitVec 8)) : Nat → Int64
  | 0 => we0 a L.length
  | i + 1 => weN a L i ||| ((jlshr (((a &&& 4294967295) - 1) - (nI (L.length - 8 + i)).toInt64) 63) &&& (oc (og L (L.length - 8 + i))).toInt64)
set_option maxHeartbeats 4000000 in
set_option maxRecDepth 100000 in
theorem qX10_wrongEnd_loop {l : Launch} {w : am_W} {h : am_H} {n : Nat} {ρ : Nat → List (BitVec 8)} {β : Nat → bP} {κ : Nat → kT} {τ : Nat × Nat × Nat} (S : Sys h ρ β κ τ) (hn : 60 ≤ n) {m : Nat} (hm : isRw m = true) (a : Int64) (hlen : 8 ≤ (ρ m).length) (kk : ∀ h2 β2, Sys h2 ρ β2 κ τ → (∀ a, a ∉ [] → β2 a = β a) → Fr h h2 → RW l w mX10_wrongEnd h2 n 0 0 93 [(7, .int (nI ((ρ m).length - 8 + (8)))), (5, .long (weN a (ρ m) (8))), (3, .long (a &&& 4294967295)), (0, .long a), (2, .ref m)] [] (fun h' n' r_ => n' = n ∧ (SX h τ (some (.long (weN a (ρ m) 8))) ρ β κ []) h' r_)) : ∀ (d i : Nat), i + d = 8 → ∀ h2 β2, Sys h2 ρ β2 κ τ → (∀ a, a ∉ [] → β2 a = β a) → Fr h h2 → RW l w mX10_wrongEnd h2 n 0 0 51 [(7, .int (nI ((ρ m).length - 8 + i))), (5, .long (weN a (ρ m) i)), (3, .long (a &&& 4294967295)), (0, .long a), (2, .ref m)] [] (fun h' n' r_ => n' = n ∧ (SX h τ (some (.long (weN a (ρ m) 8))) ρ β κ []) h' r_) := by
  have hlm := S.len m hm
  have hmc := rw_cases hm
  intro d
  induction d with
  | zero =>
    intro i hd h2 β2 S2 hB hF
    refine R_iload (pc := 51) 0 dX10_wrongEnd_51 rfl ?_
    refine R_aload_n (pc := 53) 4 dX10_wrongEnd_53 rfl rfl ?_
    have := rw_cases (r := m) hm
    refine R_get (pc := 54) dX10_wrongEnd_54 fX10_45 (S2.rowO m hm) (by omega) rfl ?_
    refine R_eqi (y := nI (ρ m).length) (by first | rfl | (simp only [ur_s, ur_ur])) ?_
    refine R_icmp_ge (pc := 57) (tgt := 93) dX10_wrongEnd_57 (by decide) (fun c_1 => ?_) (fun c_1 => absurd (nI_le (by omega) (by omega)) c_1)
    obtain rfl : i = 8 := by omega
    exact kk h2 β2 S2 hB hF
  | succ d ih =>
    intro i hd h2 β2 S2 hB hF
    refine R_iload (pc := 51) 0 dX10_wrongEnd_51 rfl ?_
    refine R_aload_n (pc := 53) 4 dX10_wrongEnd_53 rfl rfl ?_
    have := rw_cases (r := m) hm
    refine R_get (pc := 54) dX10_wrongEnd_54 fX10_45 (S2.rowO m hm) (by omega) rfl ?_
    refine R_eqi (y := nI (ρ m).length) (by first | rfl | (simp only [ur_s, ur_ur])) ?_
    refine R_icmp_ge (pc := 57) (tgt := 93) dX10_wrongEnd_57 (by decide) (fun c_1 => absurd c_1 (nI_ge (by omega) (by omega))) (fun c_1 => ?_)
    refine R_lload_n (pc := 60) 2 dX10_wrongEnd_60 rfl rfl ?_
    refine R_lconst (pc := 61) (v := 1) dX10_wrongEnd_61 (by decide) ?_
    refine R_lsub (pc := 62) dX10_wrongEnd_62 ?_
    refine R_iload (pc := 63) 0 dX10_wrongEnd_63 rfl ?_
    refine R_i2l (pc := 65) (v := (nI ((ρ m).length - 8 + i)).toInt64) dX10_wrongEnd_65 rfl ?_
    refine R_lsub (pc := 66) dX10_wrongEnd_66 ?_
    refine R_bipush (pc := 67) (v := 63) dX10_wrongEnd_67 (by decide) ?_
    refine R_lshr (pc := 69) (v := jlshr (((a &&& 4294967295) - 1) - ((nI ((ρ m).length - 8 + i)).toInt64)) 63) dX10_wrongEnd_69 rfl ?_
    refine R_lstore (pc := 70) (lv' := [(8, .long (jlshr (((a &&& 4294967295) - 1) - ((nI ((ρ m).length - 8 + i)).toInt64)) 63)), (7, .int (nI ((ρ m).length - 8 + i))), (5, .long (weN a (ρ m) i)), (3, .long (a &&& 4294967295)), (0, .long a), (2, .ref m)]) dX10_wrongEnd_70 (by decide) rfl ?_
    refine R_lload (pc := 72) 2 dX10_wrongEnd_72 rfl ?_
    refine R_lload (pc := 74) 0 dX10_wrongEnd_74 rfl ?_
    refine R_aload_n (pc := 76) 5 dX10_wrongEnd_76 rfl rfl ?_
    refine R_iload (pc := 77) 1 dX10_wrongEnd_77 rfl ?_
    refine R_callVp (pc := 79) (μ' := mX6_at) (As := [.int (nI ((ρ m).length - 8 + i))]) (st := [.long (jlshr (((a &&& 4294967295) - 1) - ((nI ((ρ m).length - 8 + i)).toInt64)) 63), .long (weN a (ρ m) i)]) dX10_wrongEnd_79 zX6_at lX10_97 ⟨by decide, by decide⟩ rfl rfl ⟨by decide, by decide⟩ (S2.rowO m hm) (by omega) rfl (Nat.le_of_ble_eq_true rfl) (S_at S2 hn hm _) ?_
    refine R_eqi (y := atI (ρ m) (nI ((ρ m).length - 8 + i))) (by first | rfl | (simp only [ur_s, ur_ur])) ?_
    refine R_eqi (y := oc (og (ρ m) ((ρ m).length - 8 + i))) (atI_nI (ρ m) (by omega) (by omega)) ?_
    refine R_i2l (pc := 82) (v := (oc (og (ρ m) ((ρ m).length - 8 + i))).toInt64) dX10_wrongEnd_82 rfl ?_
    refine R_land (pc := 83) dX10_wrongEnd_83 ?_
    refine R_lor (pc := 84) dX10_wrongEnd_84 ?_
    refine R_lstore (pc := 85) (lv' := [(5, .long ((weN a (ρ m) i) ||| ((jlshr (((a &&& 4294967295) - 1) - ((nI ((ρ m).length - 8 + i)).toInt64)) 63) &&& ((oc (og (ρ m) ((ρ m).length - 8 + i))).toInt64)))), (8, .long (jlshr (((a &&& 4294967295) - 1) - ((nI ((ρ m).length - 8 + i)).toInt64)) 63)), (7, .int (nI ((ρ m).length - 8 + i))), (3, .long (a &&& 4294967295)), (0, .long a), (2, .ref m)]) dX10_wrongEnd_85 (by decide) rfl ?_
    refine R_iinc (pc := 87) (j := 2) (v := nI ((ρ m).length - 8 + (i + 1))) (lv' := [(7, .int (nI ((ρ m).length - 8 + (i + 1)))), (5, .long ((weN a (ρ m) i) ||| ((jlshr (((a &&& 4294967295) - 1) - ((nI ((ρ m).length - 8 + i)).toInt64)) 63) &&& ((oc (og (ρ m) ((ρ m).length - 8 + i))).toInt64)))), (8, .long (jlshr (((a &&& 4294967295) - 1) - ((nI ((ρ m).length - 8 + i)).toInt64)) 63)), (3, .long (a &&& 4294967295)), (0, .long a), (2, .ref m)]) dX10_wrongEnd_87 rfl (nI_1 ((ρ m).length - 8 + i)) (by decide) rfl ?_
    refine R_goto (pc := 90) (tgt := 51) dX10_wrongEnd_90 (by decide) ?_
    refine R_sub [0, 1, 3, 4, 5] rfl ?_
    refine ih (i + 1) (by omega) h2 β2 (by have z_ := S2; skip; exact z_)  (fun a_ n_ => ?_) (hF.tr (Fr.rf _))
    have q_ := hB a_ n_; simp only [List.mem_cons, List.not_mem_nil, or_false, not_or] at n_
    (try simp only [ub, if_neg, n_, if_false])
    first | exact q_ | (simp only [ub_k]; exact q_) | (rw [q_]; simp only [ub_k]) | (repeat' split) <;> first | exact q_ | (rename_i e_; rw [e_])
set_option maxHeartbeats 4000000 in
set_option maxRecDepth 100000 in
theorem qX10_wrongEnd {l : Launch} {w : am_W} {h : am_H} {n : Nat} {ρ : Nat → List (BitVec 8)} {β : Nat → bP} {κ : Nat → kT} {τ : Nat × Nat × Nat} (S : Sys h ρ β κ τ) (hn : 60 ≤ n) {m : Nat} (hm : isRw m = true) (a : Int64) (hlen : 8 ≤ (ρ m).length) : RH l w mX10_wrongEnd h n [.long a, .ref m] (SX h τ (some (.long (weN a (ρ m) 8))) ρ β κ []) := by
  refine RC.of [(0, .long a), (2, .ref m)] (by decide +kernel) rfl (Nat.le_of_ble_eq_true rfl) ?_
  have hlm := S.len m hm
  have hmc := rw_cases hm
  refine R_lload_n (pc := 0) 0 dX10_wrongEnd_0 rfl rfl ?_
  refine R_ldc2 (pc := 1) dX10_wrongEnd_1 cX10_93 ?_
  refine R_land (pc := 4) dX10_wrongEnd_4 ?_
  refine R_eql (y := a &&& 4294967295) (rfl) ?_
  refine R_lstore_n (pc := 5) (lv' := [(3, .long (a &&& 4294967295)), (0, .long a), (2, .ref m)]) dX10_wrongEnd_5 rfl (by decide) rfl ?_
  refine R_lload_n (pc := 6) 1 dX10_wrongEnd_6 rfl rfl ?_
  refine R_bipush (pc := 7) (v := 32) dX10_wrongEnd_7 (by decide) ?_
  refine R_lushr (pc := 9) (v := jlushr a 32) dX10_wrongEnd_9 rfl ?_
  refine R_ldc2 (pc := 10) dX10_wrongEnd_10 cX10_95 ?_
  refine R_lxor (pc := 13) dX10_wrongEnd_13 ?_
  refine R_lstore (pc := 14) (lv' := [(5, .long ((jlushr a 32) ^^^ (2790873510 : Int64))), (3, .long (a &&& 4294967295)), (0, .long a), (2, .ref m)]) dX10_wrongEnd_14 (by decide) rfl ?_
  refine R_lload (pc := 16) 0 dX10_wrongEnd_16 rfl ?_
  refine R_lload_n (pc := 18) 1 dX10_wrongEnd_18 rfl rfl ?_
  refine R_aload_n (pc := 19) 3 dX10_wrongEnd_19 rfl rfl ?_
  have := rw_cases (r := m) hm
  refine R_get (pc := 20) dX10_wrongEnd_20 fX10_45 (S.rowO m hm) (by omega) rfl ?_
  refine R_eqi (y := nI (ρ m).length) (by first | rfl | (simp only [ur_s, ur_ur])) ?_
  refine R_bipush (pc := 23) (v := 7) dX10_wrongEnd_23 (by decide) ?_
  refine R_isub (pc := 25) dX10_wrongEnd_25 ?_
  refine R_eqi (y := nI ((ρ m).length - 7)) (pk_sub (b := 7) (by omega)) ?_
  refine R_i2l (pc := 26) (v := (nI ((ρ m).length - 7)).toInt64) dX10_wrongEnd_26 rfl ?_
  refine R_lsub (pc := 27) dX10_wrongEnd_27 ?_
  refine R_aload_n (pc := 28) 3 dX10_wrongEnd_28 rfl rfl ?_
  have := rw_cases (r := m) hm
  refine R_get (pc := 29) dX10_wrongEnd_29 fX10_45 (S.rowO m hm) (by omega) rfl ?_
  refine R_eqi (y := nI (ρ m).length) (by first | rfl | (simp only [ur_s, ur_ur])) ?_
  refine R_i2l (pc := 32) (v := (nI (ρ m).length).toInt64) dX10_wrongEnd_32 rfl ?_
  refine R_lload_n (pc := 33) 1 dX10_wrongEnd_33 rfl rfl ?_
  refine R_lsub (pc := 34) dX10_wrongEnd_34 ?_
  refine R_lor (pc := 35) dX10_wrongEnd_35 ?_
  refine R_bipush (pc := 36) (v := 63) dX10_wrongEnd_36 (by decide) ?_
  refine R_lshr (pc := 38) (v := jlshr (((a &&& 4294967295) - ((nI ((ρ m).length - 7)).toInt64)) ||| (((nI (ρ m).length).toInt64) - (a &&& 4294967295))) 63) dX10_wrongEnd_38 rfl ?_
  refine R_lor (pc := 39) dX10_wrongEnd_39 ?_
  refine R_lstore (pc := 40) (lv' := [(5, .long (((jlushr a 32) ^^^ (2790873510 : Int64)) ||| (jlshr (((a &&& 4294967295) - ((nI ((ρ m).length - 7)).toInt64)) ||| (((nI (ρ m).length).toInt64) - (a &&& 4294967295))) 63))), (3, .long (a &&& 4294967295)), (0, .long a), (2, .ref m)]) dX10_wrongEnd_40 (by decide) rfl ?_
  refine R_aload_n (pc := 42) 3 dX10_wrongEnd_42 rfl rfl ?_
  have := rw_cases (r := m) hm
  refine R_get (pc := 43) dX10_wrongEnd_43 fX10_45 (S.rowO m hm) (by omega) rfl ?_
  refine R_eqi (y := nI (ρ m).length) (by first | rfl | (simp only [ur_s, ur_ur])) ?_
  refine R_bipush (pc := 46) (v := 8) dX10_wrongEnd_46 (by decide) ?_
  refine R_isub (pc := 48) dX10_wrongEnd_48 ?_
  refine R_eqi (y := nI ((ρ m).length - 8 + 0)) (pk_sub (b := 8) (by omega)) ?_
  refine R_istore (pc := 49) (lv' := [(7, .int (nI ((ρ m).length - 8 + 0))), (5, .long (((jlushr a 32) ^^^ (2790873510 : Int64)) ||| (jlshr (((a &&& 4294967295) - ((nI ((ρ m).length - 7)).toInt64)) ||| (((nI (ρ m).length).toInt64) - (a &&& 4294967295))) 63))), (3, .long (a &&& 4294967295)), (0, .long a), (2, .ref m)]) dX10_wrongEnd_49 (by decide) rfl ?_
  refine R_sub [0, 1, 2, 3, 4] rfl ?_
  refine qX10_wrongEnd_loop S hn hm a hlen ?_ 8 0 (by omega) h β S (fun _ _ => rfl) (Fr.rf h)
  intro h2 β2 S2 hB hF
  refine R_lload (pc := 93) 1 dX10_wrongEnd_93 rfl ?_
  exact R_lreturn (pc := 95) dX10_wrongEnd_95 rfl (by decide) (by decide) ⟨rfl, β2, hB, rfl, S2, hF⟩
set_option maxHeartbeats 4000000 in
set_option maxRecDepth 100000 in
theorem qX10_lockWrap {l : Launch} {w : am_W} {h : am_H} {n : Nat} {ρ : Nat → List (BitVec 8)} {β : Nat → bP} {κ : Nat → kT} {τ : Nat × Nat × Nat} (S : Sys h ρ β κ τ) (hn : 60 ≤ n) {t m : Nat} (ht : isRw t = true) (hm : isRw m = true) (htm : t ≠ m) (hk : kOk (κ 16)) (hm0 : ρ m = []) (hr : (ρ t).length + 16 ≤ rwN m) : RH l w mX10_lockWrap h n [.ref 39, .ref t, .ref m] (SX h τ none (ur ρ m (wMx (eK (κ 16)) ((lay8 (ρ t)).length / 8 - 1) ((-6438275382588823898 : Int64), lay8 (ρ t)))) β κ [40]) := by
  refine RC.of [(0, .ref 39), (1, .ref t), (2, .ref m)] (by decide +kernel) rfl (Nat.le_of_ble_eq_true rfl) ?_
  have hlm := S.len m hm
  have hmc := rw_cases hm
  have hlt := S.len t ht
  have hl8 := lay8_len (ρ t)
  have hrm := rwN_le m
  refine R_aload_n (pc := 0) 1 dX10_lockWrap_0 rfl rfl ?_
  refine R_aload_n (pc := 1) 2 dX10_lockWrap_1 rfl rfl ?_
  refine R_callSh (pc := 2) (μ' := mX10_layBehind) (As := [.ref t, .ref m]) (st := []) dX10_lockWrap_2 zX10_layBehind lX10_20 ⟨by decide, by decide⟩ rfl rfl ⟨by decide, by decide⟩ rfl (Nat.le_of_ble_eq_true rfl) (qX10_layBehind S hn ht hm htm hm0 hr) (fun h_1 r_ q_2 => ?_)
  obtain ⟨β_6, B_7, rfl, S_3, F_5⟩ := q_2
  have S_4 : Sys h_1 (ur ρ m (lay8 (ρ t))) β_6 κ τ := by have z_ := S_3; (try simp only [ub, Nat.reduceEqDiff, ↓reduceIte, ur_s, ur_ur, ur_n (x := t) (r := m) htm] at z_); exact z_
  refine R_aload_n (pc := 5) 0 dX10_lockWrap_5 rfl rfl ?_
  refine R_ldc2 (pc := 6) dX10_lockWrap_6 cX10_24 ?_
  refine R_aload_n (pc := 9) 2 dX10_lockWrap_9 rfl rfl ?_
  refine R_callVh (pc := 10) (μ' := mX10_mixIn) (As := [.long (-6438275382588823898 : Int64), .ref m]) (st := []) dX10_lockWrap_10 zX10_mixIn lX10_26 ⟨by decide, by decide⟩ rfl rfl ⟨by decide, by decide⟩ S_4.2.2.2.2.2.2.1 (by omega) rfl (Nat.le_of_ble_eq_true rfl) (qX10_mixIn S_4 hn hm _ ((lay8 (ρ t)).length / 8 - 1) (by simp only [ur_s]) (by simp only [ur_s]; omega) (by omega) hk) (fun h_8 r_ q_9 => ?_)
  obtain ⟨β_13, B_14, rfl, S_10, F_12⟩ := q_9
  have S_11 : Sys h_8 (ur ρ m (wMx (eK (κ 16)) ((lay8 (ρ t)).length / 8 - 1) ((-6438275382588823898 : Int64), lay8 (ρ t)))) β_13 κ τ := by have z_ := S_10; (try simp only [ub, Nat.reduceEqDiff, ↓reduceIte, ur_s, ur_ur, ur_n (x := t) (r := m) htm] at z_); exact z_
  have hBB : ∀ a, a ∉ [40] → β_13 a = β a := by
    intro a_ n_
    simp only [List.mem_cons, List.not_mem_nil, or_false, not_or] at n_
    (try simp only [ub, if_neg, n_, if_false])
    rw [B_14 a_ (by simp [n_])]
    (try simp only [ub, if_neg, n_, if_false])
    rw [B_7 a_ (by simp [n_])]
    (try simp only [ub, if_neg, n_, if_false])
  exact R_vreturn (pc := 13) dX10_lockWrap_13 rfl (by decide) (by decide) ⟨rfl, _, hBB, rfl, S_11, (F_5.tr F_12)⟩
set_option maxHeartbeats 4000000 in
set_option maxRecDepth 100000 in
theorem qX10_unlockWrap {l : Launch} {w : am_W} {h : am_H} {n : Nat} {ρ : Nat → List (BitVec 8)} {β : Nat → bP} {κ : Nat → kT} {τ : Nat × Nat × Nat} (S : Sys h ρ β κ τ) (hn : 60 ≤ n) {t m : Nat} (ht : isRw t = true) (hm : isRw m = true) (htm : t ≠ m) (hk : kOk (κ 16)) (hm0 : ρ m = []) (hlen : 16 ≤ (ρ t).length) (hr : (ρ t).length ≤ rwN m) : RH l w mX10_unlockWrap h n [.ref 39, .ref t, .ref m] (SX h τ (some (.int (if lg_cmp (uOut (dK (κ 16)) ((ρ t).length / 8 - 1) (e8 (ρ t) 0, ρ t) 6).1 (-6438275382588823898) = 0 then 1 else 0))) (ur ρ m (tk8 (uOut (dK (κ 16)) ((ρ t).length / 8 - 1) (e8 (ρ t) 0, ρ t) 6).2)) β κ [40]) := by
  refine RC.of [(0, .ref 39), (1, .ref t), (2, .ref m)] (by decide +kernel) rfl (Nat.le_of_ble_eq_true rfl) ?_
  have hlm := S.len m hm
  have hmc := rw_cases hm
  have hlt := S.len t ht
  have hul := uOut_len (dK (κ 16)) ((ρ t).length / 8 - 1) (e8 (ρ t) 0, ρ t) 6
  refine R_aload_n (pc := 0) 2 dX10_unlockWrap_0 rfl rfl ?_
  refine R_aload_n (pc := 1) 1 dX10_unlockWrap_1 rfl rfl ?_
  refine R_callVh (pc := 2) (μ' := mX6_appendRow) (As := [.ref t]) (st := []) dX10_unlockWrap_2 zX6_appendRow lX10_30 ⟨by decide, by decide⟩ rfl rfl ⟨by decide, by decide⟩ (S.rowO m hm) (by omega) rfl (Nat.le_of_ble_eq_true rfl) (S_appendRow S hn hm ht htm (by rw [hm0]; simp only [List.length_nil]; omega)) (fun h_1 r_ q_2 => ?_)
  obtain ⟨rfl, S_3, F_5⟩ := q_2
  have S_4 : Sys h_1 (ur ρ m ((ρ m) ++ (ρ t))) β κ τ := by have z_ := S_3; (try simp only [ur_s, ur_ur, ur_n (x := t) (r := m) htm] at z_); exact z_
  rw [hm0, List.nil_append] at S_4
  refine R_aload_n (pc := 5) 0 dX10_unlockWrap_5 rfl rfl ?_
  refine R_aload_n (pc := 6) 2 dX10_unlockWrap_6 rfl rfl ?_
  refine R_callVh (pc := 7) (μ' := mX10_mixOut) (As := [.ref m]) (st := []) dX10_unlockWrap_7 zX10_mixOut lX10_36 ⟨by decide, by decide⟩ rfl rfl ⟨by decide, by decide⟩ S_4.2.2.2.2.2.2.1 (by omega) rfl (Nat.le_of_ble_eq_true rfl) (qX10_mixOut S_4 hn hm ((ρ t).length / 8 - 1) (by simp only [ur_s]) (by simp only [ur_s]; omega) (by omega) hk) (fun h_6 r_ q_7 => ?_)
  obtain ⟨β_11, B_12, rfl, S_8, F_10⟩ := q_7
  have S_9 : Sys h_6 (ur ρ m ((uOut (dK (κ 16)) ((ρ t).length / 8 - 1) (e8 (ρ t) 0, ρ t) 6).2)) β_11 κ τ := by have z_ := S_8; (try simp only [ub, Nat.reduceEqDiff, ↓reduceIte, ur_s, ur_ur, ur_n (x := t) (r := m) htm] at z_); exact z_
  refine R_eql (y := (uOut (dK (κ 16)) ((ρ t).length / 8 - 1) (e8 (ρ t) 0, ρ t) 6).1) (by first | rfl | (simp only [ur_s, ur_ur, ur_n (x := t) (r := m) htm]) | (simp only [ur_s, ur_ur, ur_n (x := t) (r := m) htm]; rfl)) ?_
  refine R_lstore_n (pc := 10) (lv' := [(3, .long ((uOut (dK (κ 16)) ((ρ t).length / 8 - 1) (e8 (ρ t) 0, ρ t) 6).1)), (0, .ref 39), (1, .ref t), (2, .ref m)]) dX10_unlockWrap_10 rfl (by decide) rfl ?_
  refine R_aload_n (pc := 11) 3 dX10_unlockWrap_11 rfl rfl ?_
  refine R_callSh (pc := 12) (μ' := mX10_takeOff) (As := [.ref m]) (st := []) dX10_unlockWrap_12 zX10_takeOff lX10_40 ⟨by decide, by decide⟩ rfl rfl ⟨by decide, by decide⟩ rfl (Nat.le_of_ble_eq_true rfl) (qX10_takeOff S_9 hn hm (by simp only [ur_s]; rw [hul]; show 8 ≤ (ρ t).length; omega)) (fun h_13 r_ q_14 => ?_)
  obtain ⟨β_18, B_19, rfl, S_15, F_17⟩ := q_14
  have S_16 : Sys h_13 (ur ρ m (tk8 ((uOut (dK (κ 16)) ((ρ t).length / 8 - 1) (e8 (ρ t) 0, ρ t) 6).2))) β_18 κ τ := by have z_ := S_15; (try simp only [ub, Nat.reduceEqDiff, ↓reduceIte, ur_s, ur_ur, ur_n (x := t) (r := m) htm] at z_); exact z_
  refine R_lload_n (pc := 15) 0 dX10_unlockWrap_15 rfl rfl ?_
  refine R_ldc2 (pc := 16) dX10_unlockWrap_16 cX10_24 ?_
  refine R_lcmp (pc := 19) dX10_unlockWrap_19 ?_
  refine R_if_ne (pc := 20) (tgt := 27) dX10_unlockWrap_20 (by decide) (fun c_20 => ?_) (fun c_20 => ?_)
  · skip
    refine R_iconst (pc := 27) (v := 0) dX10_unlockWrap_27 (by decide) ?_
    have hBB : ∀ a, a ∉ [40] → β_18 a = β a := by
      intro a_ n_
      simp only [List.mem_cons, List.not_mem_nil, or_false, not_or] at n_
      (try simp only [ub, if_neg, n_, if_false])
      rw [B_19 a_ (by simp [n_])]
      (try simp only [ub, if_neg, n_, if_false])
      rw [B_12 a_ (by simp [n_])]
      (try simp only [ub, if_neg, n_, if_false])
    exact R_zreturn (pc := 28) dX10_unlockWrap_28 rfl rfl (by decide) (by decide) ⟨rfl, _, hBB, by rw [if_neg c_20], S_16, ((F_5.tr F_10).tr F_17)⟩
  · skip
    refine R_iconst (pc := 23) (v := 1) dX10_unlockWrap_23 (by decide) ?_
    refine R_goto (pc := 24) (tgt := 28) dX10_unlockWrap_24 (by decide) ?_
    have hBB : ∀ a, a ∉ [40] → β_18 a = β a := by
      intro a_ n_
      simp only [List.mem_cons, List.not_mem_nil, or_false, not_or] at n_
      (try simp only [ub, if_neg, n_, if_false])
      rw [B_19 a_ (by simp [n_])]
      (try simp only [ub, if_neg, n_, if_false])
      rw [B_12 a_ (by simp [n_])]
      (try simp only [ub, if_neg, n_, if_false])
    exact R_zreturn (pc := 28) dX10_unlockWrap_28 rfl rfl (by decide) (by decide) ⟨rfl, _, hBB, by rw [if_pos c_20], S_16, ((F_5.tr F_10).tr F_17)⟩
def pwA (L : List (BitVec 8)) : Int64 := (-6460033620986822656 : Int64) ||| (nI L.length).toInt64
def pwE (F : bP → bP) (L : List (BitVec 8)) : List (BitVec 8) := if nI (lay8 L).length = 16 then bt (F (pwA L, e8 (lay8 L) 8)) 16 else wMx F ((lay8 L).length / 8 - 1) (pwA L, lay8 L)
set_option maxHeartbeats 4000000 in
set_option maxRecDepth 100000 in
theorem qX10_lockPaddedWrap {l : Launch} {w : am_W} {h : am_H} {n : Nat} {ρ : Nat → List (BitVec 8)} {β : Nat → bP} {κ : Nat → kT} {τ : Nat × Nat × Nat} (S : Sys h ρ β κ τ) (hn : 60 ≤ n) {t m : Nat} (ht : isRw t = true) (hm : isRw m = true) (htm : t ≠ m) (hk : kOk (κ 16)) (hm0 : ρ m = []) (hr : (ρ t).length + 16 ≤ rwN m) : RH l w mX10_lockPaddedWrap h n [.ref 39, .ref t, .ref m] (SX h τ none (ur ρ m (pwE (eK (κ 16)) (ρ t))) β κ [40]) := by
  refine RC.of [(0, .ref 39), (1, .ref t), (2, .ref m)] (by decide +kernel) rfl (Nat.le_of_ble_eq_true rfl) ?_
  have hlm := S.len m hm
  have hmc := rw_cases hm
  have hlt := S.len t ht
  have hl8 := lay8_len (ρ t)
  have hrm := rwN_le m
  refine R_aload_n (pc := 0) 1 dX10_lockPaddedWrap_0 rfl rfl ?_
  refine R_aload_n (pc := 1) 2 dX10_lockPaddedWrap_1 rfl rfl ?_
  refine R_callSh (pc := 2) (μ' := mX10_layBehind) (As := [.ref t, .ref m]) (st := []) dX10_lockPaddedWrap_2 zX10_layBehind lX10_20 ⟨by decide, by decide⟩ rfl rfl ⟨by decide, by decide⟩ rfl (Nat.le_of_ble_eq_true rfl) (qX10_layBehind S hn ht hm htm hm0 hr) (fun h_1 r_ q_2 => ?_)
  obtain ⟨β_6, B_7, rfl, S_3, F_5⟩ := q_2
  have S_4 : Sys h_1 (ur ρ m (lay8 (ρ t))) β_6 κ τ := by have z_ := S_3; (try simp only [ub, Nat.reduceEqDiff, ↓reduceIte, ur_s, ur_ur, ur_n (x := t) (r := m) htm] at z_); exact z_
  refine R_ldc2 (pc := 5) dX10_lockPaddedWrap_5 cX10_43 ?_
  refine R_aload_n (pc := 8) 1 dX10_lockPaddedWrap_8 rfl rfl ?_
  have := rw_cases (r := t) ht
  refine R_get (pc := 9) dX10_lockPaddedWrap_9 fX10_45 (S_4.rowO t ht) (by omega) rfl ?_
  refine R_eqi (y := nI (ρ t).length) (by first | rfl | (simp only [ur_s, ur_ur, ur_n (x := t) (r := m) htm])) ?_
  refine R_i2l (pc := 12) (v := (nI (ρ t).length).toInt64) dX10_lockPaddedWrap_12 rfl ?_
  refine R_lor (pc := 13) dX10_lockPaddedWrap_13 ?_
  refine R_eql (y := pwA (ρ t)) (rfl) ?_
  refine R_lstore_n (pc := 14) (lv' := [(3, .long (pwA (ρ t))), (0, .ref 39), (1, .ref t), (2, .ref m)]) dX10_lockPaddedWrap_14 rfl (by decide) rfl ?_
  refine R_aload_n (pc := 15) 3 dX10_lockPaddedWrap_15 rfl rfl ?_
  have := rw_cases (r := m) hm
  refine R_get (pc := 16) dX10_lockPaddedWrap_16 fX10_45 (S_4.rowO m hm) (by omega) rfl ?_
  refine R_eqi (y := nI (lay8 (ρ t)).length) (by first | rfl | (simp only [ur_s, ur_ur, ur_n (x := t) (r := m) htm])) ?_
  refine R_bipush (pc := 19) (v := 16) dX10_lockPaddedWrap_19 (by decide) ?_
  refine R_icmp_ne (pc := 21) (tgt := 67) dX10_lockPaddedWrap_21 (by decide) (fun c_8 => ?_) (fun c_8 => ?_)
  · skip
    refine R_aload_n (pc := 67) 1 dX10_lockPaddedWrap_67 rfl rfl ?_
    refine R_lload_n (pc := 68) 0 dX10_lockPaddedWrap_68 rfl rfl ?_
    refine R_aload_n (pc := 69) 3 dX10_lockPaddedWrap_69 rfl rfl ?_
    refine R_callVh (pc := 70) (μ' := mX10_mixIn) (As := [.long (pwA (ρ t)), .ref m]) (st := []) dX10_lockPaddedWrap_70 zX10_mixIn lX10_26 ⟨by decide, by decide⟩ rfl rfl ⟨by decide, by decide⟩ S_4.2.2.2.2.2.2.1 (by omega) rfl (Nat.le_of_ble_eq_true rfl) (qX10_mixIn S_4 hn hm _ ((lay8 (ρ t)).length / 8 - 1) (by simp only [ur_s]) (by simp only [ur_s]; omega) (by omega) hk) (fun h_9 r_ q_10 => ?_)
    obtain ⟨β_14, B_15, rfl, S_11, F_13⟩ := q_10
    have S_12 : Sys h_9 (ur ρ m (wMx (eK (κ 16)) ((lay8 (ρ t)).length / 8 - 1) (pwA (ρ t), lay8 (ρ t)))) β_14 κ τ := by have z_ := S_11; (try simp only [ub, Nat.reduceEqDiff, ↓reduceIte, ur_s, ur_ur, ur_n (x := t) (r := m) htm] at z_); exact z_
    have hBB : ∀ a, a ∉ [40] → β_14 a = β a := by
      intro a_ n_
      simp only [List.mem_cons, List.not_mem_nil, or_false, not_or] at n_
      (try simp only [ub, if_neg, n_, if_false])
      rw [B_15 a_ (by simp [n_])]
      (try simp only [ub, if_neg, n_, if_false])
      rw [B_7 a_ (by simp [n_])]
      (try simp only [ub, if_neg, n_, if_false])
    rw [show pwE (eK (κ 16)) (ρ t) = wMx (eK (κ 16)) ((lay8 (ρ t)).length / 8 - 1) (pwA (ρ t), lay8 (ρ t)) from if_neg c_8]
    exact R_vreturn (pc := 73) dX10_lockPaddedWrap_73 rfl (by decide) (by decide) ⟨rfl, _, hBB, rfl, S_12, (F_5.tr F_13)⟩
  · skip
    refine R_aload_n (pc := 24) 1 dX10_lockPaddedWrap_24 rfl rfl ?_
    refine R_get (pc := 25) dX10_lockPaddedWrap_25 fX10_16 S_4.2.2.2.2.2.2.1 (by omega) rfl ?_
    refine R_lload_n (pc := 28) 0 dX10_lockPaddedWrap_28 rfl rfl ?_
    refine R_aload_n (pc := 29) 3 dX10_lockPaddedWrap_29 rfl rfl ?_
    refine R_bipush (pc := 30) (v := 8) dX10_lockPaddedWrap_30 (by decide) ?_
    refine R_callVp (pc := 32) (μ' := mX6_eightAt) (As := [.int (nI 8)]) (st := [.long (pwA (ρ t)), .ref 40]) dX10_lockPaddedWrap_32 zX6_eightAt lX10_49 ⟨by decide, by decide⟩ rfl rfl ⟨by decide, by decide⟩ (S_4.rowO m hm) (by omega) rfl (Nat.le_of_ble_eq_true rfl) (S_eightAt S_4 hn hm 8 (by omega)) ?_
    refine R_eql (y := e8 (lay8 (ρ t)) 8) (by first | rfl | (simp only [ur_s, ur_ur, ur_n (x := t) (r := m) htm])) ?_
    refine R_callVh (pc := 35) (μ' := mX0_become) (As := [.long (pwA (ρ t)), .long (e8 (lay8 (ρ t)) 8)]) (st := []) dX10_lockPaddedWrap_35 zX0_become lX10_53 ⟨by decide, by decide⟩ rfl rfl ⟨by decide, by decide⟩ (S_4.blk 40 rfl) (by omega) rfl (Nat.le_of_ble_eq_true rfl) (S_become S_4 hn rfl _ _) (fun h_16 r_ q_17 => ?_)
    obtain ⟨rfl, S_18, F_20⟩ := q_17
    have S_19 : Sys h_16 (ur ρ m (lay8 (ρ t))) (ub β_6 40 (pwA (ρ t), e8 (lay8 (ρ t)) 8)) κ τ := S_18
    refine R_aload_n (pc := 38) 1 dX10_lockPaddedWrap_38 rfl rfl ?_
    refine R_get (pc := 39) dX10_lockPaddedWrap_39 fX10_7 S_19.2.2.2.2.2.2.1 (by omega) rfl ?_
    refine R_aload_n (pc := 42) 1 dX10_lockPaddedWrap_42 rfl rfl ?_
    refine R_get (pc := 43) dX10_lockPaddedWrap_43 fX10_16 S_19.2.2.2.2.2.2.1 (by omega) rfl ?_
    refine R_callVh (pc := 46) (μ' := mX2_encrypt) (As := [.ref 40]) (st := []) dX10_lockPaddedWrap_46 zX2_encrypt lX10_57 ⟨by decide, by decide⟩ rfl rfl ⟨by decide, by decide⟩ (S_19.2.2.1 16 (by decide)).1 (by omega) rfl (Nat.le_of_ble_eq_true rfl) (S_encrypt S_19 hn (by decide) rfl hk.1 hk.2) (fun h_21 r_ q_22 => ?_)
    obtain ⟨rfl, S_23, F_25⟩ := q_22
    have S_24 : Sys h_21 (ur ρ m (lay8 (ρ t))) (ub (ub β_6 40 (pwA (ρ t), e8 (lay8 (ρ t)) 8)) 40 (eK (κ 16) (pwA (ρ t), e8 (lay8 (ρ t)) 8))) κ τ := S_23
    refine R_aload_n (pc := 49) 3 dX10_lockPaddedWrap_49 rfl rfl ?_
    refine R_iconst (pc := 50) (v := 0) dX10_lockPaddedWrap_50 (by decide) ?_
    refine R_callVh (pc := 51) (μ' := mX6_keep) (As := [.int (nI 0)]) (st := []) dX10_lockPaddedWrap_51 zX6_keep lX10_63 ⟨by decide, by decide⟩ rfl rfl ⟨by decide, by decide⟩ (S_24.rowO m hm) (by omega) rfl (Nat.le_of_ble_eq_true rfl) (S_keep S_24 hn hm 0 (by omega)) (fun h_26 r_ q_27 => ?_)
    obtain ⟨rfl, S_28, F_30⟩ := q_27
    have S_29 : Sys h_26 (ur ρ m ((lay8 (ρ t)).take 0)) (ub (ub β_6 40 (pwA (ρ t), e8 (lay8 (ρ t)) 8)) 40 (eK (κ 16) (pwA (ρ t), e8 (lay8 (ρ t)) 8))) κ τ := by have z_ := S_28; (try simp only [ur_s, ur_ur, ur_n (x := t) (r := m) htm] at z_); exact z_
    refine R_aload_n (pc := 54) 3 dX10_lockPaddedWrap_54 rfl rfl ?_
    refine R_aload_n (pc := 55) 1 dX10_lockPaddedWrap_55 rfl rfl ?_
    refine R_get (pc := 56) dX10_lockPaddedWrap_56 fX10_16 S_29.2.2.2.2.2.2.1 (by omega) rfl ?_
    refine R_bipush (pc := 59) (v := 16) dX10_lockPaddedWrap_59 (by decide) ?_
    refine R_callVh (pc := 61) (μ' := mX6_appendBlock) (As := [.ref 40, .int (nI 16)]) (st := []) dX10_lockPaddedWrap_61 zX6_appendBlock lX10_67 ⟨by decide, by decide⟩ rfl rfl ⟨by decide, by decide⟩ (S_29.rowO m hm) (by omega) rfl (Nat.le_of_ble_eq_true rfl) (S_appendBlock S_29 hn hm rfl 16 (by simp only [ur_s, List.take_zero, List.length_nil]; omega)) (fun h_31 r_ q_32 => ?_)
    obtain ⟨rfl, S_33, F_35⟩ := q_32
    have S_34 : Sys h_31 (ur ρ m (((lay8 (ρ t)).take 0) ++ bt (eK (κ 16) (pwA (ρ t), e8 (lay8 (ρ t)) 8)) 16)) (ub (ub β_6 40 (pwA (ρ t), e8 (lay8 (ρ t)) 8)) 40 (eK (κ 16) (pwA (ρ t), e8 (lay8 (ρ t)) 8))) κ τ := by have z_ := S_33; (try simp only [ur_s, ur_ur, ur_n (x := t) (r := m) htm] at z_); exact z_
    rw [List.take_zero, List.nil_append] at S_34
    refine R_goto (pc := 64) (tgt := 73) dX10_lockPaddedWrap_64 (by decide) ?_
    have hBB : ∀ a, a ∉ [40] → (ub (ub β_6 40 (pwA (ρ t), e8 (lay8 (ρ t)) 8)) 40 (eK (κ 16) (pwA (ρ t), e8 (lay8 (ρ t)) 8))) a = β a := by
      intro a_ n_
      simp only [List.mem_cons, List.not_mem_nil, or_false, not_or] at n_
      (try simp only [ub, if_neg, n_, if_false])
      rw [B_7 a_ (by simp [n_])]
      (try simp only [ub, if_neg, n_, if_false])
    rw [show pwE (eK (κ 16)) (ρ t) = bt (eK (κ 16) (pwA (ρ t), e8 (lay8 (ρ t)) 8)) 16 from if_pos c_8]
    exact R_vreturn (pc := 73) dX10_lockPaddedWrap_73 rfl (by decide) (by decide) ⟨rfl, _, hBB, rfl, S_34, ((((F_5.tr F_20).tr F_25).tr F_30).tr F_35)⟩
