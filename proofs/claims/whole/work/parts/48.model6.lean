theorem pgF_ge (G g : fA) {k j : Nat} (h : k ≤ j) : pgF G g 0 k j = g j := by
  unfold pgF
  rw [if_neg (by omega)]
def dbG (f : fA) : fA := fun k => ((f k <<< ((1 : Int32) &&& 31)) ||| (if 15 ≤ nI k then 0 else f (k + 1) >>> ((7 : Int32) &&& 31))) &&& 255
def dbF (f : fA) : fA := upd (pgF (dbG f) f 0 16) 15 (dbG f 15 ^^^ (f 0 >>> ((7 : Int32) &&& 31)) * 135)
set_option maxHeartbeats 4000000 in
set_option maxRecDepth 100000 in
theorem qX12_doubled_loop {l : Launch} {w : am_W} {h : am_H} {n : Nat} {φ : Nat → fA} {i : mI} (hn : 90 ≤ n) {p : Nat} (hp : isA p = true) (h16p : 16 ≤ mN p) (z : Int32) {Q : am_H → Nat → Option Value → Prop} (kk : ∀ h2, MS h2 (uf φ p (pgF (dbG (φ p)) (φ p) 0 16)) i → FM h h2 → RW l w mX12_doubled h2 n 0 0 52 [(2, .int (nI 16)), (1, .int z), (0, .ref p)] [] Q) : ∀ (dd k : Nat), k + dd = 16 → ∀ h2, MS h2 (uf φ p (pgF (dbG (φ p)) (φ p) 0 k)) i → FM h h2 → RW l w mX12_doubled h2 n 0 0 9 [(2, .int (nI k)), (1, .int z), (0, .ref p)] [] Q := by
  have hNp := mN_le p
  have hpb := isA_b hp
  intro dd
  induction dd with
  | zero =>
    intro k hd h2 S2 hF
    refine R_iload_n (pc := 9) 0 dX12_doubled_9 rfl rfl ?_
    refine R_bipush (pc := 10) (v := 16) dX12_doubled_10 (by decide) ?_
    refine R_icmp_ge (pc := 12) (tgt := 52) dX12_doubled_12 (by decide) (fun c_1 => ?_) (fun c_1 => absurd (nI_le (a := 16) (b := k) (by omega) (by omega)) c_1)
    obtain rfl : k = 16 := by omega
    exact kk h2 S2 hF
  | succ dd ih =>
    intro k hd h2 S2 hF
    refine R_iload_n (pc := 9) 0 dX12_doubled_9 rfl rfl ?_
    refine R_bipush (pc := 10) (v := 16) dX12_doubled_10 (by decide) ?_
    refine R_icmp_ge (pc := 12) (tgt := 52) dX12_doubled_12 (by decide) (fun c_1 => absurd c_1 (nI_ge (a := k) (b := 16) (by omega) (by omega))) (fun c_1 => ?_)
    refine R_aload_n (pc := 15) 2 dX12_doubled_15 rfl rfl ?_
    refine R_iload_n (pc := 16) 0 dX12_doubled_16 rfl rfl ?_
    refine R_aload_n (pc := 17) 2 dX12_doubled_17 rfl rfl ?_
    refine R_iload_n (pc := 18) 0 dX12_doubled_18 rfl rfl ?_
    refine R_iald' (pc := 19) (j := k) dX12_doubled_19 (S2.1 p hp) (by omega) ⟨rfl, by omega, by omega⟩ ?_
    refine R_eqi (y := (pgF (dbG (φ p)) (φ p) 0 k) k) (by first | rfl | (simp only [uf_s, uf_n, ne_eq])) ?_
    refine R_eqi (y := φ p k) (pgF_ge _ _ (Nat.le_refl k)) ?_
    refine R_iconst (pc := 20) (v := 1) dX12_doubled_20 (by decide) ?_
    refine R_ishl (pc := 21) dX12_doubled_21 ?_
    refine R_iload_n (pc := 22) 0 dX12_doubled_22 rfl rfl ?_
    refine R_bipush (pc := 23) (v := 15) dX12_doubled_23 (by decide) ?_
    refine R_icmp_ge (pc := 25) (tgt := 39) dX12_doubled_25 (by decide) (fun c_2 => ?_) (fun c_2 => ?_)
    · skip
      refine R_iconst (pc := 39) (v := 0) dX12_doubled_39 (by decide) ?_
      refine R_eqi (y := if 15 ≤ nI k then 0 else φ p (k + 1) >>> ((7 : Int32) &&& 31)) (by rw [if_pos c_2]) ?_
      refine R_ior (pc := 40) dX12_doubled_40 ?_
      refine R_sipush (pc := 41) (v := 255) dX12_doubled_41 (by decide) ?_
      refine R_iand (pc := 44) dX12_doubled_44 ?_
      refine R_eqi (y := dbG (φ p) k) (rfl) ?_
      refine R_iast' (pc := 45) (j := k) dX12_doubled_45 (S2.1 p hp) (by omega) ⟨rfl, by omega, by omega⟩ (fun h_3 f_4 g_5 => ?_)
      have f_6 : h_3 p = .inl (mN p, upd (pgF (dbG (φ p)) (φ p) 0 k) k (dbG (φ p) k)) := by first | exact f_4 | (simp only [uf_s] at f_4; exact f_4)
      have S_7 : MS h_3 (uf φ p (upd (pgF (dbG (φ p)) (φ p) 0 k) k (dbG (φ p) k))) i := by have z_ := MS.setA (p := p) (f := upd (pgF (dbG (φ p)) (φ p) 0 k) k (dbG (φ p) k)) S2 hp f_6 g_5; rw [uf_uf] at z_; exact z_
      have F_8 := fmA (p := p) hp g_5
      refine R_iinc (pc := 46) (j := 0) (v := nI (k + 1)) (lv' := [(2, .int (nI (k + 1))), (1, .int z), (0, .ref p)]) dX12_doubled_46 rfl (nI_1 k) (by decide) rfl ?_
      refine R_goto (pc := 49) (tgt := 9) dX12_doubled_49 (by decide) ?_
      refine R_sub [0, 1, 2] rfl ?_
      exact ih (k + 1) (by omega) h_3 (by have z_ := S_7; rw [pgF_up0 (dbG (φ p)) (φ p) k rfl] at z_; exact z_) (hF.tr F_8)
    · skip
      have hk15 : k < 15 := by rcases Nat.lt_or_ge k 15 with q_ | q_; exact q_; exact absurd (nI_le q_ (by omega)) c_2
      refine R_aload_n (pc := 28) 2 dX12_doubled_28 rfl rfl ?_
      refine R_iload_n (pc := 29) 0 dX12_doubled_29 rfl rfl ?_
      refine R_iconst (pc := 30) (v := 1) dX12_doubled_30 (by decide) ?_
      refine R_iadd (pc := 31) dX12_doubled_31 ?_
      refine R_iald' (pc := 32) (j := k + 1) dX12_doubled_32 (S2.1 p hp) (by omega) ⟨nI_1 k, by omega, by omega⟩ ?_
      refine R_eqi (y := (pgF (dbG (φ p)) (φ p) 0 k) (k + 1)) (by first | rfl | (simp only [uf_s, uf_n, ne_eq])) ?_
      refine R_eqi (y := φ p (k + 1)) (pgF_ge _ _ (by omega)) ?_
      refine R_bipush (pc := 33) (v := 7) dX12_doubled_33 (by decide) ?_
      refine R_ishr (pc := 35) dX12_doubled_35 ?_
      refine R_goto (pc := 36) (tgt := 40) dX12_doubled_36 (by decide) ?_
      refine R_eqi (y := if 15 ≤ nI k then 0 else φ p (k + 1) >>> ((7 : Int32) &&& 31)) (by rw [if_neg c_2]) ?_
      refine R_ior (pc := 40) dX12_doubled_40 ?_
      refine R_sipush (pc := 41) (v := 255) dX12_doubled_41 (by decide) ?_
      refine R_iand (pc := 44) dX12_doubled_44 ?_
      refine R_eqi (y := dbG (φ p) k) (rfl) ?_
      refine R_iast' (pc := 45) (j := k) dX12_doubled_45 (S2.1 p hp) (by omega) ⟨rfl, by omega, by omega⟩ (fun h_9 f_10 g_11 => ?_)
      have f_12 : h_9 p = .inl (mN p, upd (pgF (dbG (φ p)) (φ p) 0 k) k (dbG (φ p) k)) := by first | exact f_10 | (simp only [uf_s] at f_10; exact f_10)
      have S_13 : MS h_9 (uf φ p (upd (pgF (dbG (φ p)) (φ p) 0 k) k (dbG (φ p) k))) i := by have z_ := MS.setA (p := p) (f := upd (pgF (dbG (φ p)) (φ p) 0 k) k (dbG (φ p) k)) S2 hp f_12 g_11; rw [uf_uf] at z_; exact z_
      have F_14 := fmA (p := p) hp g_11
      refine R_iinc (pc := 46) (j := 0) (v := nI (k + 1)) (lv' := [(2, .int (nI (k + 1))), (1, .int z), (0, .ref p)]) dX12_doubled_46 rfl (nI_1 k) (by decide) rfl ?_
      refine R_goto (pc := 49) (tgt := 9) dX12_doubled_49 (by decide) ?_
      refine R_sub [0, 1, 2] rfl ?_
      exact ih (k + 1) (by omega) h_9 (by have z_ := S_13; rw [pgF_up0 (dbG (φ p)) (φ p) k rfl] at z_; exact z_) (hF.tr F_14)
set_option maxHeartbeats 4000000 in
set_option maxRecDepth 100000 in
theorem qX12_doubled {l : Launch} {w : am_W} {h : am_H} {n : Nat} {φ : Nat → fA} {i : mI} (S : MS h φ i) (hn : 90 ≤ n) {p : Nat} (hp : isA p = true) (h16p : 16 ≤ mN p) : RH l w mX12_doubled h n [.ref p] (mQ h none (uf φ p (dbF (φ p))) i) := by
  refine RC.of [(0, .ref p)] (by decide +kernel) rfl (Nat.le_of_ble_eq_true rfl) ?_
  have hNp := mN_le p
  have hpb := isA_b hp
  refine R_aload_n (pc := 0) 0 dX12_doubled_0 rfl rfl ?_
  refine R_iconst (pc := 1) (v := 0) dX12_doubled_1 (by decide) ?_
  refine R_iald' (pc := 2) (j := 0) dX12_doubled_2 (S.1 p hp) (by omega) ⟨rfl, by omega, by omega⟩ ?_
  refine R_bipush (pc := 3) (v := 7) dX12_doubled_3 (by decide) ?_
  refine R_ishr (pc := 5) dX12_doubled_5 ?_
  refine R_istore_n (pc := 6) (lv' := [(1, .int ((φ p 0) >>> (7 &&& 31))), (0, .ref p)]) dX12_doubled_6 rfl (by decide) rfl ?_
  refine R_iconst (pc := 7) (v := 0) dX12_doubled_7 (by decide) ?_
  refine R_istore_n (pc := 8) (lv' := [(2, .int 0), (1, .int ((φ p 0) >>> (7 &&& 31))), (0, .ref p)]) dX12_doubled_8 rfl (by decide) rfl ?_
  refine R_sub [0, 1, 2] rfl ?_
  refine qX12_doubled_loop (h := h) (φ := φ) hn hp h16p ((φ p 0) >>> (7 &&& 31)) (fun h2 S2 hF => ?_) 16 0 (by omega) h (by rw [pgF_0, uf_id]; exact S) (FM.rf h)
  refine R_aload_n (pc := 52) 2 dX12_doubled_52 rfl rfl ?_
  refine R_bipush (pc := 53) (v := 15) dX12_doubled_53 (by decide) ?_
  refine R_dup2 (pc := 55) dX12_doubled_55 rfl rfl ?_
  refine R_iald' (pc := 56) (j := 15) dX12_doubled_56 (S2.1 p hp) (by omega) ⟨rfl, by omega, by omega⟩ ?_
  refine R_eqi (y := (pgF (dbG (φ p)) (φ p) 0 16) 15) (by first | rfl | (simp only [uf_s, uf_n, ne_eq])) ?_
  refine R_eqi (y := dbG (φ p) 15) (pgF_lt _ _ (by omega)) ?_
  refine R_iload_n (pc := 57) 1 dX12_doubled_57 rfl rfl ?_
  refine R_sipush (pc := 58) (v := 135) dX12_doubled_58 (by decide) ?_
  refine R_imul (pc := 61) dX12_doubled_61 ?_
  refine R_ixor (pc := 62) dX12_doubled_62 ?_
  refine R_iast' (pc := 63) (j := 15) dX12_doubled_63 (S2.1 p hp) (by omega) ⟨rfl, by omega, by omega⟩ (fun h_1 f_2 g_3 => ?_)
  have f_4 : h_1 p = .inl (mN p, upd (pgF (dbG (φ p)) (φ p) 0 16) 15 ((dbG (φ p) 15) ^^^ (((φ p 0) >>> (7 &&& 31)) * 135))) := by first | exact f_2 | (simp only [uf_s] at f_2; exact f_2)
  have S_5 : MS h_1 (uf φ p (upd (pgF (dbG (φ p)) (φ p) 0 16) 15 ((dbG (φ p) 15) ^^^ (((φ p 0) >>> (7 &&& 31)) * 135)))) i := by have z_ := MS.setA (p := p) (f := upd (pgF (dbG (φ p)) (φ p) 0 16) 15 ((dbG (φ p) 15) ^^^ (((φ p 0) >>> (7 &&& 31)) * 135))) S2 hp f_4 g_3; rw [uf_uf] at z_; exact z_
  have F_6 := fmA (p := p) hp g_3
  exact R_vreturn (pc := 64) dX12_doubled_64 rfl (by decide) (by decide) ⟨rfl, rfl, S_5, (hF.tr F_6)⟩
set_option maxHeartbeats 4000000 in
set_option maxRecDepth 100000 in
theorem qX12_come {l : Launch} {w : am_W} {h : am_H} {n : Nat} {φ : Nat → fA} {i : mI} (S : MS h φ i) (hn : 90 ≤ n) {p : Nat} (hp : isA p = true) (hpr : p ≠ 64) (m : Nat) (hm : m ≤ mN p) (hm7 : m ≤ 700) : RH l w mX12_come h n [.ref 61, .ref p, .int (nI m)] (mQ h (some (.int (nI m))) (uf φ 64 (cpF (φ p) 0 (φ 64) 0 m)) (ui i 2 (nI m))) := by
  refine RC.of [(0, .ref 61), (1, .ref p), (2, .int (nI m))] (by decide +kernel) rfl (Nat.le_of_ble_eq_true rfl) ?_
  refine R_aload_n (pc := 0) 1 dX12_come_0 rfl rfl ?_
  refine R_iconst (pc := 1) (v := 0) dX12_come_1 (by decide) ?_
  refine R_aload_n (pc := 2) 0 dX12_come_2 rfl rfl ?_
  refine R_get (pc := 3) dX12_come_3 fX12_20 S.2 (by omega) rfl ?_
  refine R_iconst (pc := 6) (v := 0) dX12_come_6 (by decide) ?_
  refine R_iload_n (pc := 7) 2 dX12_come_7 rfl rfl ?_
  refine R_callSh (pc := 8) (μ' := mX12_copy) (As := [.ref p, .int (nI 0), .ref 64, .int (nI 0), .int (nI m)]) (st := []) dX12_come_8 zX12_copy lX12_133 ⟨by decide, by decide⟩ rfl rfl ⟨by decide, by decide⟩ rfl (Nat.le_of_ble_eq_true rfl) (qX12_copy S hn hp rfl 0 0 m (by omega) (by show 0 + m ≤ 700; omega) hpr) (fun h_1 r_ q_2 => ?_)
  obtain ⟨rfl, S_3, F_4⟩ := q_2
  have S_5 : MS h_1 (uf φ 64 (cpF (φ p) 0 (φ 64) 0 m)) i := S_3
  refine R_aload_n (pc := 11) 0 dX12_come_11 rfl rfl ?_
  refine R_iload_n (pc := 12) 2 dX12_come_12 rfl rfl ?_
  refine R_put' (pc := 13) (fs' := [.int (i 0), .ref 62, .ref 63, .int (i 1), .ref 64, .int (nI m), .ref 65, .ref 66, .ref 67, .ref 68, .ref 69, .ref 70, .ref 71, .int (i 3), .ref 72, .int (i 4), .ref 73, .int (i 5), .ref 74, .int (i 6), .ref 75, .ref 76, .ref 77, .ref 78, .ref 79, .ref 80, .ref 81, .ref 82, .ref 83, .ref 84, .int (i 7), .ref 85, .ref 86, .ref 87, .ref 88, .ref 89, .ref 90]) dX12_come_13 fX12_301 tX12_5 rfl rfl S_5.2 (by omega) (Nat.le_of_ble_eq_true rfl) rfl (fun h_6 f_7 g_8 => ?_)
  have S_9 : MS h_6 (uf φ 64 (cpF (φ p) 0 (φ 64) 0 m)) (ui i 2 (nI m)) := MS.setI (j := (ui i 2 (nI m))) S_5 f_7 g_8
  have F_10 := fmI g_8
  refine R_iload_n (pc := 16) 2 dX12_come_16 rfl rfl ?_
  exact R_ireturn (pc := 17) dX12_come_17 rfl (by decide) (by decide) ⟨rfl, rfl, S_9, (F_4.tr F_10)⟩
