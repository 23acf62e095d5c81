set_option maxHeartbeats 4000000 in
set_option maxRecDepth 100000 in
theorem qX12_load {l : Launch} {w : am_W} {h : am_H} {n : Nat} {φ : Nat → fA} {i : mI} (S : MS h φ i) (hn : 90 ≤ n) (d s a : Nat) (hd : φ 63 1 = nI d) (hs : φ 63 2 = nI s) (ha : φ 63 3 = nI a) (hd5 : d ≤ 512) (hs6 : s ≤ 64) (ha2 : a ≤ 256) : RH l w mX12_load h n [.ref 61] (mQ h none (uf (uf (uf φ 71 (cpF (φ 62) 512 (φ 71) 0 d)) 73 (cpF (φ 62) 1024 (φ 73) 0 s)) 74 (cpF (φ 62) 1536 (φ 74) 0 a)) (ui (ui (ui i 3 (nI d)) 5 (nI s)) 6 (nI a))) := by
  refine RC.of [(0, .ref 61)] (by decide +kernel) rfl (Nat.le_of_ble_eq_true rfl) ?_
  refine R_aload_n (pc := 0) 0 dX12_load_0 rfl rfl ?_
  refine R_aload_n (pc := 1) 0 dX12_load_1 rfl rfl ?_
  refine R_get (pc := 2) dX12_load_2 fX12_13 S.2 (by omega) rfl ?_
  refine R_iconst (pc := 5) (v := 1) dX12_load_5 (by decide) ?_
  refine R_iald' (pc := 6) (j := 1) dX12_load_6 (S.1 63 rfl) (by omega) ⟨rfl, by decide, by decide⟩ ?_
  refine R_eqi (y := nI d) (hd) ?_
  refine R_put' (pc := 7) (fs' := [.int (i 0), .ref 62, .ref 63, .int (i 1), .ref 64, .int (i 2), .ref 65, .ref 66, .ref 67, .ref 68, .ref 69, .ref 70, .ref 71, .int (nI d), .ref 72, .int (i 4), .ref 73, .int (i 5), .ref 74, .int (i 6), .ref 75, .ref 76, .ref 77, .ref 78, .ref 79, .ref 80, .ref 81, .ref 82, .ref 83, .ref 84, .int (i 7), .ref 85, .ref 86, .ref 87, .ref 88, .ref 89, .ref 90]) dX12_load_7 fX12_130 tX12_13 rfl rfl S.2 (by omega) (Nat.le_of_ble_eq_true rfl) rfl (fun h_1 f_2 g_3 => ?_)
  have S_4 : MS h_1 φ (ui i 3 (nI d)) := MS.setI (j := (ui i 3 (nI d))) S f_2 g_3
  have F_5 := fmI g_3
  refine R_aload_n (pc := 10) 0 dX12_load_10 rfl rfl ?_
  refine R_get (pc := 11) dX12_load_11 fX12_7 S_4.2 (by omega) rfl ?_
  refine R_sipush (pc := 14) (v := 512) dX12_load_14 (by decide) ?_
  refine R_aload_n (pc := 17) 0 dX12_load_17 rfl rfl ?_
  refine R_get (pc := 18) dX12_load_18 fX12_41 S_4.2 (by omega) rfl ?_
  refine R_iconst (pc := 21) (v := 0) dX12_load_21 (by decide) ?_
  refine R_aload_n (pc := 22) 0 dX12_load_22 rfl rfl ?_
  refine R_get (pc := 23) dX12_load_23 fX12_130 S_4.2 (by omega) rfl ?_
  refine R_eqi (y := nI d) rfl ?_
  refine R_callSh (pc := 26) (μ' := mX12_copy) (As := [.ref 62, .int (nI 512), .ref 71, .int (nI 0), .int (nI d)]) (st := []) dX12_load_26 zX12_copy lX12_133 ⟨by decide, by decide⟩ rfl rfl ⟨by decide, by decide⟩ rfl (Nat.le_of_ble_eq_true rfl) (qX12_copy S_4 hn rfl rfl 512 0 d (by show 512 + d ≤ 2048; omega) (by show 0 + d ≤ 700; omega) (by decide)) (fun h_6 r_ q_7 => ?_)
  obtain ⟨rfl, S_8, F_9⟩ := q_7
  have S_10 : MS h_6 (uf φ 71 (cpF (φ 62) 512 (φ 71) 0 d)) (ui i 3 (nI d)) := S_8
  refine R_aload_n (pc := 29) 0 dX12_load_29 rfl rfl ?_
  refine R_aload_n (pc := 30) 0 dX12_load_30 rfl rfl ?_
  refine R_get (pc := 31) dX12_load_31 fX12_13 S_10.2 (by omega) rfl ?_
  refine R_iconst (pc := 34) (v := 2) dX12_load_34 (by decide) ?_
  refine R_iald' (pc := 35) (j := 2) dX12_load_35 (S_10.1 63 rfl) (by omega) ⟨rfl, by decide, by decide⟩ ?_
  refine R_eqi (y := φ 63 2) (by first | rfl | (simp only [uf_s, uf_n, ne_eq])) ?_
  refine R_eqi (y := nI s) (hs) ?_
  refine R_put' (pc := 36) (fs' := [.int (i 0), .ref 62, .ref 63, .int (i 1), .ref 64, .int (i 2), .ref 65, .ref 66, .ref 67, .ref 68, .ref 69, .ref 70, .ref 71, .int (nI d), .ref 72, .int (i 4), .ref 73, .int (nI s), .ref 74, .int (i 6), .ref 75, .ref 76, .ref 77, .ref 78, .ref 79, .ref 80, .ref 81, .ref 82, .ref 83, .ref 84, .int (i 7), .ref 85, .ref 86, .ref 87, .ref 88, .ref 89, .ref 90]) dX12_load_36 fX12_137 tX12_17 rfl rfl S_10.2 (by omega) (Nat.le_of_ble_eq_true rfl) rfl (fun h_11 f_12 g_13 => ?_)
  have S_14 : MS h_11 (uf φ 71 (cpF (φ 62) 512 (φ 71) 0 d)) (ui (ui i 3 (nI d)) 5 (nI s)) := MS.setI (j := (ui (ui i 3 (nI d)) 5 (nI s))) S_10 f_12 g_13
  have F_15 := fmI g_13
  refine R_aload_n (pc := 39) 0 dX12_load_39 rfl rfl ?_
  refine R_get (pc := 40) dX12_load_40 fX12_7 S_14.2 (by omega) rfl ?_
  refine R_sipush (pc := 43) (v := 1024) dX12_load_43 (by decide) ?_
  refine R_aload_n (pc := 46) 0 dX12_load_46 rfl rfl ?_
  refine R_get (pc := 47) dX12_load_47 fX12_47 S_14.2 (by omega) rfl ?_
  refine R_iconst (pc := 50) (v := 0) dX12_load_50 (by decide) ?_
  refine R_aload_n (pc := 51) 0 dX12_load_51 rfl rfl ?_
  refine R_get (pc := 52) dX12_load_52 fX12_137 S_14.2 (by omega) rfl ?_
  refine R_eqi (y := nI s) rfl ?_
  refine R_callSh (pc := 55) (μ' := mX12_copy) (As := [.ref 62, .int (nI 1024), .ref 73, .int (nI 0), .int (nI s)]) (st := []) dX12_load_55 zX12_copy lX12_133 ⟨by decide, by decide⟩ rfl rfl ⟨by decide, by decide⟩ rfl (Nat.le_of_ble_eq_true rfl) (qX12_copy S_14 hn rfl rfl 1024 0 s (by show 1024 + s ≤ 2048; omega) (by show 0 + s ≤ 64; omega) (by decide)) (fun h_16 r_ q_17 => ?_)
  obtain ⟨rfl, S_18, F_19⟩ := q_17
  have S_20 : MS h_16 (uf (uf φ 71 (cpF (φ 62) 512 (φ 71) 0 d)) 73 (cpF (φ 62) 1024 (φ 73) 0 s)) (ui (ui i 3 (nI d)) 5 (nI s)) := S_18
  refine R_aload_n (pc := 58) 0 dX12_load_58 rfl rfl ?_
  refine R_aload_n (pc := 59) 0 dX12_load_59 rfl rfl ?_
  refine R_get (pc := 60) dX12_load_60 fX12_13 S_20.2 (by omega) rfl ?_
  refine R_iconst (pc := 63) (v := 3) dX12_load_63 (by decide) ?_
  refine R_iald' (pc := 64) (j := 3) dX12_load_64 (S_20.1 63 rfl) (by omega) ⟨rfl, by decide, by decide⟩ ?_
  refine R_eqi (y := φ 63 3) (by first | rfl | (simp only [uf_s, uf_n, ne_eq])) ?_
  refine R_eqi (y := nI a) (ha) ?_
  refine R_put' (pc := 65) (fs' := [.int (i 0), .ref 62, .ref 63, .int (i 1), .ref 64, .int (i 2), .ref 65, .ref 66, .ref 67, .ref 68, .ref 69, .ref 70, .ref 71, .int (nI d), .ref 72, .int (i 4), .ref 73, .int (nI s), .ref 74, .int (nI a), .ref 75, .ref 76, .ref 77, .ref 78, .ref 79, .ref 80, .ref 81, .ref 82, .ref 83, .ref 84, .int (i 7), .ref 85, .ref 86, .ref 87, .ref 88, .ref 89, .ref 90]) dX12_load_65 fX12_140 tX12_19 rfl rfl S_20.2 (by omega) (Nat.le_of_ble_eq_true rfl) rfl (fun h_21 f_22 g_23 => ?_)
  have S_24 : MS h_21 (uf (uf φ 71 (cpF (φ 62) 512 (φ 71) 0 d)) 73 (cpF (φ 62) 1024 (φ 73) 0 s)) (ui (ui (ui i 3 (nI d)) 5 (nI s)) 6 (nI a)) := MS.setI (j := (ui (ui (ui i 3 (nI d)) 5 (nI s)) 6 (nI a))) S_20 f_22 g_23
  have F_25 := fmI g_23
  refine R_aload_n (pc := 68) 0 dX12_load_68 rfl rfl ?_
  refine R_get (pc := 69) dX12_load_69 fX12_7 S_24.2 (by omega) rfl ?_
  refine R_sipush (pc := 72) (v := 1536) dX12_load_72 (by decide) ?_
  refine R_aload_n (pc := 75) 0 dX12_load_75 rfl rfl ?_
  refine R_get (pc := 76) dX12_load_76 fX12_50 S_24.2 (by omega) rfl ?_
  refine R_iconst (pc := 79) (v := 0) dX12_load_79 (by decide) ?_
  refine R_aload_n (pc := 80) 0 dX12_load_80 rfl rfl ?_
  refine R_get (pc := 81) dX12_load_81 fX12_140 S_24.2 (by omega) rfl ?_
  refine R_eqi (y := nI a) rfl ?_
  refine R_callSh (pc := 84) (μ' := mX12_copy) (As := [.ref 62, .int (nI 1536), .ref 74, .int (nI 0), .int (nI a)]) (st := []) dX12_load_84 zX12_copy lX12_133 ⟨by decide, by decide⟩ rfl rfl ⟨by decide, by decide⟩ rfl (Nat.le_of_ble_eq_true rfl) (qX12_copy S_24 hn rfl rfl 1536 0 a (by show 1536 + a ≤ 2048; omega) (by show 0 + a ≤ 256; omega) (by decide)) (fun h_26 r_ q_27 => ?_)
  obtain ⟨rfl, S_28, F_29⟩ := q_27
  have S_30 : MS h_26 (uf (uf (uf φ 71 (cpF (φ 62) 512 (φ 71) 0 d)) 73 (cpF (φ 62) 1024 (φ 73) 0 s)) 74 (cpF (φ 62) 1536 (φ 74) 0 a)) (ui (ui (ui i 3 (nI d)) 5 (nI s)) 6 (nI a)) := S_28
  exact R_vreturn (pc := 87) dX12_load_87 rfl (by decide) (by decide) ⟨rfl, rfl, S_30, (((((F_5.tr F_9).tr F_15).tr F_19).tr F_25).tr F_29)⟩
def omF (t : Nat) : Nat → fA → fA
  | 0, f => f
  | k + 1, f => if k < t then f else if (f k + 1) &&& 255 = 0 then omF t k (upd f k ((f k + 1) &&& 255)) else upd f k ((f k + 1) &&& 255)
theorem m1_lt (t : Nat) (ht : t < 2 ^ 31) : nI 0 - 1 < nI t := by
  rw [Int32.lt_iff_toInt_lt, nI_toInt ht]
  have e : (nI 0 - 1).toInt = -1 := by decide
  rw [e]
  omega
theorem upd_s (f : fA) (k : Nat) (v : Int32) : upd f k v k = v := if_pos rfl
set_option maxHeartbeats 4000000 in
set_option maxRecDepth 100000 in
theorem qX12_oneMore_loop {l : Launch} {w : am_W} {h : am_H} {n : Nat} {φ : Nat → fA} {i : mI} (hn : 90 ≤ n) {p : Nat} (hp : isA p = true) (h16p : 16 ≤ mN p) (t : Nat) (ht : t ≤ 16) : ∀ (k : Nat), k ≤ 16 → ∀ h2 f, MS h2 (uf φ p f) i → FM h h2 → RW l w mX12_oneMore h2 n 0 0 5 [(3, .int 1), (2, .int (nI k - 1)), (0, .ref p), (1, .int (nI t))] [] (fun h' n' r => n' = n ∧ mQ h none (uf φ p (omF t k f)) i h' r) := by
  have hNp := mN_le p
  have hpb := isA_b hp
  intro k
  induction k with
  | zero =>
    intro hk h2 f S2 hF
    refine R_iload_n (pc := 5) 0 dX12_oneMore_5 rfl rfl ?_
    refine R_if_eq (pc := 6) (tgt := 44) dX12_oneMore_6 (by decide) (fun c_1 => absurd c_1 (by decide)) (fun c_1 => ?_)
    refine R_iload_n (pc := 9) 1 dX12_oneMore_9 rfl rfl ?_
    refine R_iload_n (pc := 10) 3 dX12_oneMore_10 rfl rfl ?_
    refine R_icmp_lt (pc := 11) (tgt := 44) dX12_oneMore_11 (by decide) (fun c_2 => ?_) (fun c_2 => absurd (m1_lt t (by omega)) c_2)
    exact R_vreturn (pc := 44) dX12_oneMore_44 rfl (by decide) (by decide) ⟨rfl, rfl, S2, hF⟩
  | succ k ih =>
    intro hk h2 f S2 hF
    refine R_iload_n (pc := 5) 0 dX12_oneMore_5 rfl rfl ?_
    refine R_if_eq (pc := 6) (tgt := 44) dX12_oneMore_6 (by decide) (fun c_1 => absurd c_1 (by decide)) (fun c_1 => ?_)
    refine R_iload_n (pc := 9) 1 dX12_oneMore_9 rfl rfl ?_
    refine R_eqi (y := nI k) (nI_pred k) ?_
    refine R_iload_n (pc := 10) 3 dX12_oneMore_10 rfl rfl ?_
    refine R_icmp_lt (pc := 11) (tgt := 44) dX12_oneMore_11 (by decide) (fun c_2 => ?_) (fun c_2 => ?_)
    · skip
      have hkt : k < t := (nI_ltI (by omega) (by omega)).mp c_2
      have eO : omF t (k + 1) f = f := by show (if k < t then f else _) = _; rw [if_pos hkt]
      rw [eO]
      exact R_vreturn (pc := 44) dX12_oneMore_44 rfl (by decide) (by decide) ⟨rfl, rfl, S2, hF⟩
    · skip
      refine R_aload_n (pc := 14) 2 dX12_oneMore_14 rfl rfl ?_
      refine R_iload_n (pc := 15) 1 dX12_oneMore_15 rfl rfl ?_
      refine R_eqi (y := nI k) (nI_pred k) ?_
      refine R_aload_n (pc := 16) 2 dX12_oneMore_16 rfl rfl ?_
      refine R_iload_n (pc := 17) 1 dX12_oneMore_17 rfl rfl ?_
      refine R_eqi (y := nI k) (nI_pred k) ?_
      refine R_iald' (pc := 18) (j := k) dX12_oneMore_18 (S2.1 p hp) (by omega) ⟨rfl, by omega, by omega⟩ ?_
      refine R_eqi (y := f k) (by first | rfl | (simp only [uf_s, uf_n, ne_eq])) ?_
      refine R_iconst (pc := 19) (v := 1) dX12_oneMore_19 (by decide) ?_
      refine R_iadd (pc := 20) dX12_oneMore_20 ?_
      refine R_sipush (pc := 21) (v := 255) dX12_oneMore_21 (by decide) ?_
      refine R_iand (pc := 24) dX12_oneMore_24 ?_
      refine R_iast' (pc := 25) (j := k) dX12_oneMore_25 (S2.1 p hp) (by omega) ⟨rfl, by omega, by omega⟩ (fun h_3 f_4 g_5 => ?_)
      have f_6 : h_3 p = .inl (mN p, upd f k (((f k) + 1) &&& 255)) := by first | exact f_4 | (simp only [uf_s] at f_4; exact f_4)
      have S_7 : MS h_3 (uf φ p (upd f k (((f k) + 1) &&& 255))) i := by have z_ := MS.setA (p := p) (f := upd f k (((f k) + 1) &&& 255)) S2 hp f_6 g_5; rw [uf_uf] at z_; exact z_
      have F_8 := fmA (p := p) hp g_5
      refine R_aload_n (pc := 26) 2 dX12_oneMore_26 rfl rfl ?_
      refine R_iload_n (pc := 27) 1 dX12_oneMore_27 rfl rfl ?_
      refine R_eqi (y := nI k) (nI_pred k) ?_
      refine R_iald' (pc := 28) (j := k) dX12_oneMore_28 (S_7.1 p hp) (by omega) ⟨rfl, by omega, by omega⟩ ?_
      refine R_eqi (y := (upd f k (((f k) + 1) &&& 255)) k) (by first | rfl | (simp only [uf_s, uf_n, ne_eq])) ?_
      refine R_eqi (y := (f k + 1) &&& 255) (upd_s _ _ _) ?_
      refine R_if_ne (pc := 29) (tgt := 36) dX12_oneMore_29 (by decide) (fun c_9 => ?_) (fun c_9 => ?_)
      · skip
        refine R_iconst (pc := 36) (v := 0) dX12_oneMore_36 (by decide) ?_
        refine R_istore_n (pc := 37) (lv' := [(3, .int 0), (2, .int (nI (k + 1) - 1)), (0, .ref p), (1, .int (nI t))]) dX12_oneMore_37 rfl (by decide) rfl ?_
        refine R_iinc (pc := 38) (j := 1) (v := nI k - 1) (lv' := [(2, .int (nI k - 1)), (3, .int 0), (0, .ref p), (1, .int (nI t))]) dX12_oneMore_38 rfl (nI_dec k) (by decide) rfl ?_
        refine R_goto (pc := 41) (tgt := 5) dX12_oneMore_41 (by decide) ?_
        refine R_iload_n (pc := 5) 1 dX12_oneMore_5 rfl rfl ?_
        refine R_if_eq (pc := 6) (tgt := 44) dX12_oneMore_6 (by decide) (fun c_10 => ?_) (fun c_10 => absurd (rfl) c_10)
        have hkt : ¬ k < t := fun q_ => c_2 (nI_lt q_ (by omega))
        have eO : omF t (k + 1) f = upd f k ((f k + 1) &&& 255) := by show (if k < t then f else if (f k + 1) &&& 255 = 0 then _ else _) = _; rw [if_neg hkt, if_neg c_9]
        rw [eO]
        exact R_vreturn (pc := 44) dX12_oneMore_44 rfl (by decide) (by decide) ⟨rfl, rfl, S_7, (hF.tr F_8)⟩
      · skip
        refine R_iconst (pc := 32) (v := 1) dX12_oneMore_32 (by decide) ?_
        refine R_goto (pc := 33) (tgt := 37) dX12_oneMore_33 (by decide) ?_
        refine R_istore_n (pc := 37) (lv' := [(3, .int 1), (2, .int (nI (k + 1) - 1)), (0, .ref p), (1, .int (nI t))]) dX12_oneMore_37 rfl (by decide) rfl ?_
        refine R_iinc (pc := 38) (j := 1) (v := nI k - 1) (lv' := [(2, .int (nI k - 1)), (3, .int 1), (0, .ref p), (1, .int (nI t))]) dX12_oneMore_38 rfl (nI_dec k) (by decide) rfl ?_
        refine R_goto (pc := 41) (tgt := 5) dX12_oneMore_41 (by decide) ?_
        refine R_sub [1, 0, 2, 3] rfl ?_
        have hkt : ¬ k < t := fun q_ => c_2 (nI_lt q_ (by omega))
        have eO : omF t (k + 1) f = omF t k (upd f k ((f k + 1) &&& 255)) := by show (if k < t then f else if (f k + 1) &&& 255 = 0 then _ else _) = _; rw [if_neg hkt, if_pos c_9]
        rw [eO]
        exact ih (by omega) h_3 _ S_7 (hF.tr F_8)
set_option maxHeartbeats 4000000 in
set_option maxRecDepth 100000 in
theorem qX12_oneMore {l : Launch} {w : am_W} {h : am_H} {n : Nat} {φ : Nat → fA} {i : mI} (S : MS h φ i) (hn : 90 ≤ n) {p : Nat} (hp : isA p = true) (h16p : 16 ≤ mN p) (t : Nat) (ht : t ≤ 16) : RH l w mX12_oneMore h n [.ref p, .int (nI t)] (mQ h none (uf φ p (omF t 16 (φ p))) i) := by
  refine RC.of [(0, .ref p), (1, .int (nI t))] (by decide +kernel) rfl (Nat.le_of_ble_eq_true rfl) ?_
  refine R_bipush (pc := 0) (v := 15) dX12_oneMore_0 (by decide) ?_
  refine R_eqi (y := nI 16 - 1) (by decide) ?_
  refine R_istore_n (pc := 2) (lv' := [(2, .int (nI 16 - 1)), (0, .ref p), (1, .int (nI t))]) dX12_oneMore_2 rfl (by decide) rfl ?_
  refine R_iconst (pc := 3) (v := 1) dX12_oneMore_3 (by decide) ?_
  refine R_istore_n (pc := 4) (lv' := [(3, .int 1), (2, .int (nI 16 - 1)), (0, .ref p), (1, .int (nI t))]) dX12_oneMore_4 rfl (by decide) rfl ?_
  refine R_sub [0, 1, 2, 3] rfl ?_
  exact qX12_oneMore_loop (h := h) (φ := φ) hn hp h16p t ht 16 (by omega) h (φ p) (by rw [uf_id]; exact S) (FM.rf h)
