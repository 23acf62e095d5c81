theorem ocN {m : Nat} (h : m < 256) : nI m = oc (t8 (nI m)) := by
  have e : ∀ m, m < 256 → nI m &&& 255 = nI m := by decide +kernel
  rw [← oc_t8, e m h]
theorem sg.cpl {f : oA} {t : Nat} {L : List (BitVec 8)} {n : Nat} {v : BitVec 8} (h : sg f t L) (k : ∀ j, j < n → f (t + L.length + j) = v) : sg f t (L ++ List.replicate n v) := h.app fun j hj => by
  rw [List.length_replicate] at hj
  rw [og_rep _ _ hj, k j hj]
/-- a flag that falls where f fails -/
def allI (g : Int32) (f : Nat → Bool) : Nat → Int32
  | 0 => g
  | k + 1 => if f k then allI g f k else 0
theorem allI_0 {g : Int32} {f : Nat → Bool} {k : Nat} (h : allI g f k = 0) : ∀ d, allI g f (k + d) = 0
  | 0 => h
  | d + 1 => by
    show (if f (k + d) then allI g f (k + d) else 0) = 0
    rw [allI_0 h d, ite_self]
theorem allI_iff {f : Nat → Bool} : ∀ k, allI 1 f k = if (∀ j, j < k → f j = true) then 1 else 0
  | 0 => by rw [if_pos (fun j hj => absurd hj (Nat.not_lt_zero j))]; rfl
  | k + 1 => by
    show (if f k then allI 1 f k else 0) = _
    rw [allI_iff k]
    by_cases h1 : f k = true
    · rw [if_pos h1]
      by_cases h2 : ∀ j, j < k → f j = true
      · rw [if_pos h2, if_pos (fun j hj => by rcases Nat.lt_or_ge j k with q | q; exact h2 j q; rw [show j = k by omega]; exact h1)]
      · rw [if_neg h2, if_neg (fun q => h2 (fun j hj => q j (by omega)))]
    · rw [if_neg h1, if_neg (fun q => h1 (q k (by omega)))]
theorem allI_g0 {f : Nat → Bool} : ∀ k, allI 0 f k = 0
  | 0 => rfl
  | k + 1 => by
    show (if f k then allI 0 f k else 0) = 0
    rw [allI_g0 k, ite_self]
theorem allI_up {g : Int32} {f : Nat → Bool} {k : Nat} (h : allI g f k = 1) : allI g f (k + 1) = if f k then 1 else 0 := by
  show (if f k then allI g f k else 0) = _
  rw [h]
theorem allI_01 {g : Int32} (hg : g = 0 ∨ g = 1) (f : Nat → Bool) : ∀ k, allI g f k = 0 ∨ allI g f k = 1
  | 0 => hg
  | k + 1 => by
    show (if f k then allI g f k else 0) = 0 ∨ (if f k then allI g f k else 0) = 1
    by_cases h : f k = true
    · rw [if_pos h]; exact allI_01 hg f k
    · rw [if_neg h]; exact Or.inl rfl
def pdJ (D : List (BitVec 8)) (ψ ψ2 : Nat → oA) (k : Nat) : Prop := (∀ j, j < k → ψ2 72 (D.length + j) = t8 (nI (16 - D.length % 16))) ∧ ∀ j, j < D.length ∨ D.length + k ≤ j → ψ2 72 j = ψ 72 j
set_option maxHeartbeats 4000000 in
set_option maxRecDepth 100000 in
theorem qX12_padded_sloop {l : Launch} {w : am_W} {h : am_H} {n : Nat} {ψ : Nat → oA} {z : fA} {i : mI} (hn : 90 ≤ n) (D : List (BitVec 8)) (hD : D.length ≤ 512) (hi3 : i 3 = nI D.length) {Q : am_H → Nat → Option Value → Prop} (kk : ∀ h2 ψ2, MO h2 ψ2 z i → FR [72] ψ ψ2 → pdJ D ψ ψ2 (16 - D.length % 16) → FM h h2 → RW l w mX12_padded h2 n 0 0 167 [(3, .int (nI (16 - D.length % 16))), (2, .int (nI (16 - D.length % 16))), (0, .ref 61), (1, .int 0)] [] Q) : ∀ (dd k : Nat), k + dd = 16 - D.length % 16 → ∀ h2 ψ2, MO h2 ψ2 z i → FR [72] ψ ψ2 → pdJ D ψ ψ2 k → FM h h2 → RW l w mX12_padded h2 n 0 0 144 [(3, .int (nI k)), (2, .int (nI (16 - D.length % 16))), (0, .ref 61), (1, .int 0)] [] Q := by
  intro dd
  induction dd with
  | zero =>
    intro k hd h2 ψ2 S2 hK hJ hF
    refine R_iload_n (pc := 144) 0 dX12_padded_144 rfl rfl ?_
    refine R_iload_n (pc := 145) 1 dX12_padded_145 rfl rfl ?_
    refine R_icmp_ge (pc := 146) (tgt := 167) dX12_padded_146 (by decide) (fun c_1 => ?_) (fun c_1 => absurd (nI_le (a := 16 - D.length % 16) (b := k) (by omega) (by omega)) c_1)
    obtain rfl : k = 16 - D.length % 16 := by omega
    exact kk h2 ψ2 S2 hK hJ hF
  | succ dd ih =>
    intro k hd h2 ψ2 S2 hK hJ hF
    refine R_iload_n (pc := 144) 0 dX12_padded_144 rfl rfl ?_
    refine R_iload_n (pc := 145) 1 dX12_padded_145 rfl rfl ?_
    refine R_icmp_ge (pc := 146) (tgt := 167) dX12_padded_146 (by decide) (fun c_1 => absurd c_1 (nI_ge (a := k) (b := 16 - D.length % 16) (by omega) (by omega))) (fun c_1 => ?_)
    refine R_aload_n (pc := 149) 2 dX12_padded_149 rfl rfl ?_
    refine R_get (pc := 150) dX12_padded_150 fX12_44 S2.obj (by omega) rfl ?_
    refine R_aload_n (pc := 153) 2 dX12_padded_153 rfl rfl ?_
    refine R_get (pc := 154) dX12_padded_154 fX12_130 S2.obj (by omega) rfl ?_
    refine R_eqi (y := nI D.length) (hi3) ?_
    refine R_iload_n (pc := 157) 0 dX12_padded_157 rfl rfl ?_
    refine R_iadd (pc := 158) dX12_padded_158 ?_
    refine R_eqi (y := nI (D.length + k)) (nI_add D.length k) ?_
    refine R_iload_n (pc := 159) 1 dX12_padded_159 rfl rfl ?_
    refine R_eqi (y := oc (t8 (nI (16 - D.length % 16)))) (ocN (by omega)) ?_
    refine R_iast' (pc := 160) (j := D.length + k) dX12_padded_160 (S2.arr (p := 72) rfl) (by omega) ⟨rfl, by show D.length + k < 700; omega, by decide⟩ (fun h_2 f_3 g_4 => ?_)
    have S_6 : MO h_2 (uo ψ2 72 (updB (ψ2 72) (D.length + k) (t8 (nI (16 - D.length % 16))))) z i := MO.setA (p := 72) S2 rfl f_3 g_4 (fun j_ => congrFun (upd_oc _ _ _) j_)
    have F_5 := fmA (p := 72) (okA_c (by decide)).1 g_4
    refine R_iinc (pc := 161) (j := 0) (v := nI (k + 1)) (lv' := [(3, .int (nI (k + 1))), (2, .int (nI (16 - D.length % 16))), (0, .ref 61), (1, .int 0)]) dX12_padded_161 rfl (nI_add _ _) (by decide) rfl ?_
    refine R_goto (pc := 164) (tgt := 144) dX12_padded_164 (by decide) ?_
    refine R_sub [0, 1, 2, 3] rfl ?_
    have j1 : ∀ j, j < k + 1 → (updB (ψ2 72) (D.length + k) (t8 (nI (16 - D.length % 16)))) (D.length + j) = t8 (nI (16 - D.length % 16)) := by
      intro j_ hj_
      rcases Nat.lt_or_ge j_ k with q_ | q_
      · rw [updB_n (by omega)]; exact hJ.1 j_ q_
      · rw [show j_ = k by omega, updB_s]
    have j2 : ∀ j, j < D.length ∨ D.length + (k + 1) ≤ j → (updB (ψ2 72) (D.length + k) (t8 (nI (16 - D.length % 16)))) j = ψ 72 j := fun j_ hj_ => by rw [updB_n (by omega)]; exact hJ.2 j_ (by omega)
    exact ih (k + 1) (by omega) h_2 _ S_6 (hK.up (by decide)) (⟨j1, j2⟩) (hF.tr F_5)
set_option maxHeartbeats 4000000 in
set_option maxRecDepth 100000 in
theorem oX12_padded_s {l : Launch} {w : am_W} {h : am_H} {n : Nat} {ψ : Nat → oA} {z : fA} {i : mI} (S : MO h ψ z i) (hn : 90 ≤ n) (D : List (BitVec 8)) (hD : D.length ≤ 512) (hi3 : i 3 = nI D.length) {F G : bP → bP} (K0 : Kh ψ 0 F G) (hs : sg (ψ 71) 0 D) : RH l w mX12_padded h n [.ref 61, .int 0] (fun h2 q => ∃ ψ2, q = some (.int 0) ∧ MO h2 ψ2 z (ui i 4 (nI (D.length + (16 - D.length % 16)))) ∧ FR [72, 75] ψ ψ2 ∧ sg (ψ2 72) 0 (chE F (gt (ψ 73) 0) (pdP D)) ∧ FM h h2) := by
  refine RC.of [(0, .ref 61), (1, .int 0)] (by decide +kernel) rfl (Nat.le_of_ble_eq_true rfl) ?_
  refine R_aload_n (pc := 0) 0 dX12_padded_0 rfl rfl ?_
  refine R_get (pc := 1) dX12_padded_1 fX12_47 S.obj (by omega) rfl ?_
  refine R_iconst (pc := 4) (v := 0) dX12_padded_4 (by decide) ?_
  refine R_aload_n (pc := 5) 0 dX12_padded_5 rfl rfl ?_
  refine R_get (pc := 6) dX12_padded_6 fX12_53 S.obj (by omega) rfl ?_
  refine R_iconst (pc := 9) (v := 0) dX12_padded_9 (by decide) ?_
  refine R_bipush (pc := 10) (v := 16) dX12_padded_10 (by decide) ?_
  refine R_callSh (pc := 12) (μ' := mX12_copy) (As := [.ref 73, .int (nI 0), .ref 75, .int (nI 0), .int 16]) (st := []) dX12_padded_12 zX12_copy lX12_133 ⟨by decide, by decide⟩ rfl rfl ⟨by decide, by decide⟩ rfl (Nat.le_of_ble_eq_true rfl) (oX12_copy16 S hn (p := 73) (q := 75) rfl rfl 0 0 (by show 0 + 16 ≤ 64; omega) (by show 0 + 16 ≤ 16; omega) (by decide)) (fun h_1 r_ q_2 => ?_)
  obtain ⟨rfl, S_3, F_4⟩ := q_2
  have S_5 : MO h_1 (uo ψ 75 (pt (ψ 75) 0 (gt (ψ 73) 0))) z i := S_3
  refine R_iload_n (pc := 15) 1 dX12_padded_15 rfl rfl ?_
  refine R_if_eq (pc := 16) (tgt := 114) dX12_padded_16 (by decide) (fun c_6 => ?_) (fun c_6 => absurd (rfl) c_6)
  refine R_aload_n (pc := 114) 0 dX12_padded_114 rfl rfl ?_
  refine R_get (pc := 115) dX12_padded_115 fX12_41 S_5.obj (by omega) rfl ?_
  refine R_iconst (pc := 118) (v := 0) dX12_padded_118 (by decide) ?_
  refine R_aload_n (pc := 119) 0 dX12_padded_119 rfl rfl ?_
  refine R_get (pc := 120) dX12_padded_120 fX12_44 S_5.obj (by omega) rfl ?_
  refine R_iconst (pc := 123) (v := 0) dX12_padded_123 (by decide) ?_
  refine R_aload_n (pc := 124) 0 dX12_padded_124 rfl rfl ?_
  refine R_get (pc := 125) dX12_padded_125 fX12_130 S_5.obj (by omega) rfl ?_
  refine R_eqi (y := nI D.length) (hi3) ?_
  refine R_callSh (pc := 128) (μ' := mX12_copy) (As := [.ref 71, .int (nI 0), .ref 72, .int (nI 0), .int (nI D.length)]) (st := []) dX12_padded_128 zX12_copy lX12_133 ⟨by decide, by decide⟩ rfl rfl ⟨by decide, by decide⟩ rfl (Nat.le_of_ble_eq_true rfl) (oX12_copy S_5 hn (p := 71) (q := 72) rfl rfl 0 0 D.length (by show 0 + D.length ≤ 700; omega) (by show 0 + D.length ≤ 700; omega) (by decide)) (fun h_7 r_ q_8 => ?_)
  obtain ⟨rfl, S_9, F_10⟩ := q_8
  have S_11 : MO h_7 (uo (uo ψ 75 (pt (ψ 75) 0 (gt (ψ 73) 0))) 72 (cpB (ψ 71) 0 (ψ 72) 0 D.length)) z i := S_9
  refine R_bipush (pc := 131) (v := 16) dX12_padded_131 (by decide) ?_
  refine R_aload_n (pc := 133) 0 dX12_padded_133 rfl rfl ?_
  refine R_get (pc := 134) dX12_padded_134 fX12_130 S_11.obj (by omega) rfl ?_
  refine R_eqi (y := nI D.length) (hi3) ?_
  refine R_bipush (pc := 137) (v := 16) dX12_padded_137 (by decide) ?_
  refine R_irem (pc := 139) dX12_padded_139 (by decide) ?_
  refine R_eqi (y := nI (D.length % 16)) (nI_rem (a := D.length) (b := 16) (by omega) (by omega)) ?_
  refine R_isub (pc := 140) dX12_padded_140 ?_
  refine R_eqi (y := nI (16 - (D.length % 16))) (nI_sb (a := 16) (b := D.length % 16) (by omega)) ?_
  refine R_istore_n (pc := 141) (lv' := [(2, .int (nI (16 - (D.length % 16)))), (0, .ref 61), (1, .int 0)]) dX12_padded_141 rfl (by decide) rfl ?_
  refine R_iconst (pc := 142) (v := 0) dX12_padded_142 (by decide) ?_
  refine R_istore_n (pc := 143) (lv' := [(3, .int 0), (2, .int (nI (16 - (D.length % 16)))), (0, .ref 61), (1, .int 0)]) dX12_padded_143 rfl (by decide) rfl ?_
  refine R_sub [0, 1, 2, 3] rfl ?_
  refine qX12_padded_sloop (h := h) (ψ := (uo (uo ψ 75 (pt (ψ 75) 0 (gt (ψ 73) 0))) 72 (cpB (ψ 71) 0 (ψ 72) 0 D.length))) hn D hD hi3 (fun h2 ψ2 S2 hK hJ hF => ?_) (16 - D.length % 16) 0 (by omega) h_7 _ S_11 (FR.rf _ _) ⟨fun j_ hj_ => absurd hj_ (Nat.not_lt_zero j_), fun _ _ => rfl⟩ (F_4.tr F_10)
  have K_12 := ((K0.uo (by decide)).uo (by decide)).fr hK (by decide) (by decide) (by decide) (by decide)
  have e0 : (cpB (ψ 71) 0 (ψ 72) 0 D.length) = cpB (ψ 71) 0 (ψ 72) 0 D.length := rfl
  have sD : sg (ψ2 72) 0 (pdP D) := sg.cpl ((hs.cp (ψ 72) 0 rfl).mv fun j_ hj_ => hJ.2 _ (by omega)) (fun j_ hj_ => by rw [Nat.zero_add]; exact hJ.1 j_ hj_)
  have lD : (pdP D).length = D.length + (16 - D.length % 16) := by unfold pdP; rw [List.length_append, List.length_replicate]
  have xD : gt (ψ2 75) 0 = gt (ψ 73) 0 := by rw [hK 75 (by decide)]; exact gt_pt _ _ _
  refine R_aload_n (pc := 167) 2 dX12_padded_167 rfl rfl ?_
  refine R_aload_n (pc := 168) 2 dX12_padded_168 rfl rfl ?_
  refine R_get (pc := 169) dX12_padded_169 fX12_130 S2.obj (by omega) rfl ?_
  refine R_eqi (y := nI D.length) (hi3) ?_
  refine R_iload_n (pc := 172) 1 dX12_padded_172 rfl rfl ?_
  refine R_iadd (pc := 173) dX12_padded_173 ?_
  refine R_eqi (y := nI (D.length + (16 - D.length % 16))) (nI_add D.length (16 - D.length % 16)) ?_
  refine R_put' (pc := 174) (fs' := [.int (i 0), .ref 62, .ref 63, .int (i 1), .ref 64, .int (i 2), .ref 65, .ref 66, .ref 67, .ref 68, .ref 69, .ref 70, .ref 71, .int (i 3), .ref 72, .int (nI (D.length + (16 - D.length % 16))), .ref 73, .int (i 5), .ref 74, .int (i 6), .ref 75, .ref 76, .ref 77, .ref 78, .ref 79, .ref 80, .ref 81, .ref 82, .ref 83, .ref 84, .int (i 7), .ref 85, .ref 86, .ref 87, .ref 88, .ref 89, .ref 90]) dX12_padded_174 fX12_153 tX12_15 rfl rfl S2.obj (by omega) (Nat.le_of_ble_eq_true rfl) rfl (fun h_13 f_14 g_15 => ?_)
  have S_16 : MO h_13 ψ2 z (ui i 4 (nI (D.length + (16 - D.length % 16)))) := MO.setI (j := (ui i 4 (nI (D.length + (16 - D.length % 16))))) S2 f_14 g_15
  have F_17 := fmI g_15
  refine R_aload_n (pc := 177) 2 dX12_padded_177 rfl rfl ?_
  refine R_iconst (pc := 178) (v := 0) dX12_padded_178 (by decide) ?_
  refine R_iconst (pc := 179) (v := 0) dX12_padded_179 (by decide) ?_
  refine R_aload_n (pc := 180) 2 dX12_padded_180 rfl rfl ?_
  refine R_get (pc := 181) dX12_padded_181 fX12_153 S_16.obj (by omega) rfl ?_
  refine R_eqi (y := nI (D.length + (16 - D.length % 16))) rfl ?_
  refine R_bipush (pc := 184) (v := 16) dX12_padded_184 (by decide) ?_
  refine R_idiv (pc := 186) dX12_padded_186 (by decide) ?_
  refine R_eqi (y := nI ((D.length + (16 - D.length % 16)) / 16)) (nI_div (a := D.length + (16 - D.length % 16)) (b := 16) (by omega) (by omega)) ?_
  refine R_callVh (pc := 187) (μ' := mX12_chain) (As := [.int (nI 0), .int (nI 0), .int (nI ((D.length + (16 - D.length % 16)) / 16))]) (st := []) dX12_padded_187 zX12_chain lX12_160 ⟨by decide, by decide⟩ rfl rfl ⟨by decide, by decide⟩ S_16.obj (by omega) rfl (Nat.le_of_ble_eq_true rfl) (oX12_chain S_16 hn 0 0 ((D.length + (16 - D.length % 16)) / 16) (by omega) K_12 (pdP D) (fun j_ hj_ => sD j_ (by rw [lD]; omega)) (gt (ψ 73) 0) (xD)) (fun h_18 r_ q_19 => ?_)
  obtain ⟨ψ_23, rfl, S_20, K_22, J_24, F_21⟩ := q_19
  have K_25 := K_12.fr K_22 (by decide) (by decide) (by decide) (by decide)
  refine R_iconst (pc := 190) (v := 0) dX12_padded_190 (by decide) ?_
  have eb : (D.length + (16 - D.length % 16)) / 16 = nbk (pdP D) := by unfold nbk; rw [lD]; omega
  exact R_ireturn (pc := 191) dX12_padded_191 rfl (by decide) (by decide) ⟨rfl, ψ_23, rfl, S_20, (((((FR.rf _ _).up (by decide)).up (by decide)).tr hK (by decide)).tr K_22 (by decide)), by have z_ := J_24.2.1; rw [eb] at z_; exact z_, (hF.tr (F_17.tr F_21))⟩
