def sdF (G g : fA) (c : Nat) : fA := fun i => if c ≤ i ∧ i < 16 then G i else g i
theorem sdF_16 (G g : fA) : sdF G g 16 = g := by
  funext i
  unfold sdF
  rw [if_neg (by omega)]
theorem sdF_lt (G g : fA) {c j : Nat} (h : j < c) : sdF G g c j = g j := by
  unfold sdF
  rw [if_neg (by omega)]
theorem sdF_up (G g : fA) {c : Nat} (hc : c < 16) : upd (sdF G g (c + 1)) c (G c) = sdF G g c := by
  funext i
  unfold upd sdF
  by_cases e : i = c
  · rw [if_pos e, if_pos (by omega), e]
  · rw [if_neg e]
    by_cases e2 : c + 1 ≤ i ∧ i < 16
    · rw [if_pos e2, if_pos (by omega)]
    · rw [if_neg e2, if_neg (by omega)]
def nsG (f : fA) : fA := fun k => ((f k <<< ((1 : Int32) &&& 31)) ||| (if nI k ≤ 0 then 0 else f (k - 1) >>> ((7 : Int32) &&& 31))) &&& 255
def nsF (f : fA) : fA := upd (sdF (nsG f) f 0) 0 (nsG f 0 ^^^ (f 15 >>> ((7 : Int32) &&& 31)) * 135)
set_option maxHeartbeats 4000000 in
set_option maxRecDepth 100000 in
theorem qX12_nextSector_loop {l : Launch} {w : am_W} {h : am_H} {n : Nat} {φ : Nat → fA} {i : mI} (hn : 90 ≤ n) {p : Nat} (hp : isA p = true) (h16p : 16 ≤ mN p) (z : Int32) {Q : am_H → Nat → Option Value → Prop} (kk : ∀ h2, MS h2 (uf φ p (sdF (nsG (φ p)) (φ p) 0)) i → FM h h2 → RW l w mX12_nextSector h2 n 0 0 50 [(3, .int (nI 0 - 1)), (2, .int z), (0, .ref 61), (1, .ref p)] [] Q) : ∀ (c : Nat), c ≤ 16 → ∀ h2, MS h2 (uf φ p (sdF (nsG (φ p)) (φ p) c)) i → FM h h2 → RW l w mX12_nextSector h2 n 0 0 11 [(3, .int (nI c - 1)), (2, .int z), (0, .ref 61), (1, .ref p)] [] Q := by
  have hNp := mN_le p
  have hpb := isA_b hp
  intro c
  induction c with
  | zero =>
    intro hc h2 S2 hF
    refine R_iload_n (pc := 11) 0 dX12_nextSector_11 rfl rfl ?_
    refine R_if_lt (pc := 12) (tgt := 50) dX12_nextSector_12 (by decide) (fun c_1 => ?_) (fun c_1 => absurd (by decide) c_1)
    exact kk h2 S2 hF
  | succ c ih =>
    intro hc h2 S2 hF
    refine R_iload_n (pc := 11) 0 dX12_nextSector_11 rfl rfl ?_
    refine R_if_lt (pc := 12) (tgt := 50) dX12_nextSector_12 (by decide) (fun c_1 => absurd c_1 (by rw [nI_pred]; exact nI_pos (by omega))) (fun c_1 => ?_)
    refine R_aload_n (pc := 15) 3 dX12_nextSector_15 rfl rfl ?_
    refine R_iload_n (pc := 16) 0 dX12_nextSector_16 rfl rfl ?_
    refine R_eqi (y := nI c) (nI_pred c) ?_
    refine R_aload_n (pc := 17) 3 dX12_nextSector_17 rfl rfl ?_
    refine R_iload_n (pc := 18) 0 dX12_nextSector_18 rfl rfl ?_
    refine R_eqi (y := nI c) (nI_pred c) ?_
    refine R_iald' (pc := 19) (j := c) dX12_nextSector_19 (S2.1 p hp) (by omega) ⟨rfl, by omega, by omega⟩ ?_
    refine R_eqi (y := (sdF (nsG (φ p)) (φ p) (c + 1)) c) (by first | rfl | (simp only [uf_s, uf_n, ne_eq])) ?_
    refine R_eqi (y := φ p c) (sdF_lt _ _ (by omega)) ?_
    refine R_iconst (pc := 20) (v := 1) dX12_nextSector_20 (by decide) ?_
    refine R_ishl (pc := 21) dX12_nextSector_21 ?_
    refine R_iload_n (pc := 22) 0 dX12_nextSector_22 rfl rfl ?_
    refine R_eqi (y := nI c) (nI_pred c) ?_
    refine R_if_le (pc := 23) (tgt := 37) dX12_nextSector_23 (by decide) (fun c_2 => ?_) (fun c_2 => ?_)
    · skip
      refine R_iconst (pc := 37) (v := 0) dX12_nextSector_37 (by decide) ?_
      refine R_eqi (y := if nI c ≤ 0 then 0 else φ p (c - 1) >>> ((7 : Int32) &&& 31)) (by rw [if_pos c_2]) ?_
      refine R_ior (pc := 38) dX12_nextSector_38 ?_
      refine R_sipush (pc := 39) (v := 255) dX12_nextSector_39 (by decide) ?_
      refine R_iand (pc := 42) dX12_nextSector_42 ?_
      refine R_eqi (y := nsG (φ p) c) (rfl) ?_
      refine R_iast' (pc := 43) (j := c) dX12_nextSector_43 (S2.1 p hp) (by omega) ⟨rfl, by omega, by omega⟩ (fun h_3 f_4 g_5 => ?_)
      have f_6 : h_3 p = .inl (mN p, upd (sdF (nsG (φ p)) (φ p) (c + 1)) c (nsG (φ p) c)) := by first | exact f_4 | (simp only [uf_s] at f_4; exact f_4)
      have S_7 : MS h_3 (uf φ p (upd (sdF (nsG (φ p)) (φ p) (c + 1)) c (nsG (φ p) c))) i := by have z_ := MS.setA (p := p) (f := upd (sdF (nsG (φ p)) (φ p) (c + 1)) c (nsG (φ p) c)) S2 hp f_6 g_5; rw [uf_uf] at z_; exact z_
      have F_8 := fmA (p := p) hp g_5
      refine R_iinc (pc := 44) (j := 0) (v := nI c - 1) (lv' := [(3, .int (nI c - 1)), (2, .int z), (0, .ref 61), (1, .ref p)]) dX12_nextSector_44 rfl (nI_dec c) (by decide) rfl ?_
      refine R_goto (pc := 47) (tgt := 11) dX12_nextSector_47 (by decide) ?_
      refine R_sub [0, 1, 2, 3] rfl ?_
      exact ih (by omega) h_3 (by have z_ := S_7; rw [sdF_up (nsG (φ p)) (φ p) (by omega)] at z_; exact z_) (hF.tr F_8)
    · skip
      have hc1 : 1 ≤ c := by rcases Nat.lt_or_ge c 1 with q_ | q_; exact absurd (show nI c ≤ 0 from nI_le (a := c) (b := 0) (by omega) (by omega)) c_2; exact q_
      refine R_aload_n (pc := 26) 3 dX12_nextSector_26 rfl rfl ?_
      refine R_iload_n (pc := 27) 0 dX12_nextSector_27 rfl rfl ?_
      refine R_eqi (y := nI c) (nI_pred c) ?_
      refine R_iconst (pc := 28) (v := 1) dX12_nextSector_28 (by decide) ?_
      refine R_isub (pc := 29) dX12_nextSector_29 ?_
      refine R_eqi (y := nI (c - 1)) (nI_sub (b := 1) hc1) ?_
      refine R_iald' (pc := 30) (j := c - 1) dX12_nextSector_30 (S2.1 p hp) (by omega) ⟨rfl, by omega, by omega⟩ ?_
      refine R_eqi (y := (sdF (nsG (φ p)) (φ p) (c + 1)) (c - 1)) (by first | rfl | (simp only [uf_s, uf_n, ne_eq])) ?_
      refine R_eqi (y := φ p (c - 1)) (sdF_lt _ _ (by omega)) ?_
      refine R_bipush (pc := 31) (v := 7) dX12_nextSector_31 (by decide) ?_
      refine R_ishr (pc := 33) dX12_nextSector_33 ?_
      refine R_goto (pc := 34) (tgt := 38) dX12_nextSector_34 (by decide) ?_
      refine R_eqi (y := if nI c ≤ 0 then 0 else φ p (c - 1) >>> ((7 : Int32) &&& 31)) (by rw [if_neg c_2]) ?_
      refine R_ior (pc := 38) dX12_nextSector_38 ?_
      refine R_sipush (pc := 39) (v := 255) dX12_nextSector_39 (by decide) ?_
      refine R_iand (pc := 42) dX12_nextSector_42 ?_
      refine R_eqi (y := nsG (φ p) c) (rfl) ?_
      refine R_iast' (pc := 43) (j := c) dX12_nextSector_43 (S2.1 p hp) (by omega) ⟨rfl, by omega, by omega⟩ (fun h_9 f_10 g_11 => ?_)
      have f_12 : h_9 p = .inl (mN p, upd (sdF (nsG (φ p)) (φ p) (c + 1)) c (nsG (φ p) c)) := by first | exact f_10 | (simp only [uf_s] at f_10; exact f_10)
      have S_13 : MS h_9 (uf φ p (upd (sdF (nsG (φ p)) (φ p) (c + 1)) c (nsG (φ p) c))) i := by have z_ := MS.setA (p := p) (f := upd (sdF (nsG (φ p)) (φ p) (c + 1)) c (nsG (φ p) c)) S2 hp f_12 g_11; rw [uf_uf] at z_; exact z_
      have F_14 := fmA (p := p) hp g_11
      refine R_iinc (pc := 44) (j := 0) (v := nI c - 1) (lv' := [(3, .int (nI c - 1)), (2, .int z), (0, .ref 61), (1, .ref p)]) dX12_nextSector_44 rfl (nI_dec c) (by decide) rfl ?_
      refine R_goto (pc := 47) (tgt := 11) dX12_nextSector_47 (by decide) ?_
      refine R_sub [0, 1, 2, 3] rfl ?_
      exact ih (by omega) h_9 (by have z_ := S_13; rw [sdF_up (nsG (φ p)) (φ p) (by omega)] at z_; exact z_) (hF.tr F_14)
set_option maxHeartbeats 4000000 in
set_option maxRecDepth 100000 in
theorem qX12_nextSector {l : Launch} {w : am_W} {h : am_H} {n : Nat} {φ : Nat → fA} {i : mI} (S : MS h φ i) (hn : 90 ≤ n) {p : Nat} (hp : isA p = true) (h16p : 16 ≤ mN p) : RH l w mX12_nextSector h n [.ref 61, .ref p] (mQ h none (uf φ p (nsF (φ p))) i) := by
  refine RC.of [(0, .ref 61), (1, .ref p)] (by decide +kernel) rfl (Nat.le_of_ble_eq_true rfl) ?_
  have hNp := mN_le p
  have hpb := isA_b hp
  refine R_aload_n (pc := 0) 1 dX12_nextSector_0 rfl rfl ?_
  refine R_bipush (pc := 1) (v := 15) dX12_nextSector_1 (by decide) ?_
  refine R_iald' (pc := 3) (j := 15) dX12_nextSector_3 (S.1 p hp) (by omega) ⟨rfl, by omega, by omega⟩ ?_
  refine R_bipush (pc := 4) (v := 7) dX12_nextSector_4 (by decide) ?_
  refine R_ishr (pc := 6) dX12_nextSector_6 ?_
  refine R_istore_n (pc := 7) (lv' := [(2, .int ((φ p 15) >>> (7 &&& 31))), (0, .ref 61), (1, .ref p)]) dX12_nextSector_7 rfl (by decide) rfl ?_
  refine R_bipush (pc := 8) (v := 15) dX12_nextSector_8 (by decide) ?_
  refine R_eqi (y := nI 16 - 1) (by decide) ?_
  refine R_istore_n (pc := 10) (lv' := [(3, .int (nI 16 - 1)), (2, .int ((φ p 15) >>> (7 &&& 31))), (0, .ref 61), (1, .ref p)]) dX12_nextSector_10 rfl (by decide) rfl ?_
  refine R_sub [0, 1, 2, 3] rfl ?_
  refine qX12_nextSector_loop (h := h) (φ := φ) hn hp h16p ((φ p 15) >>> (7 &&& 31)) (fun h2 S2 hF => ?_) 16 (by omega) h (by rw [sdF_16, uf_id]; exact S) (FM.rf h)
  refine R_aload_n (pc := 50) 3 dX12_nextSector_50 rfl rfl ?_
  refine R_iconst (pc := 51) (v := 0) dX12_nextSector_51 (by decide) ?_
  refine R_dup2 (pc := 52) dX12_nextSector_52 rfl rfl ?_
  refine R_iald' (pc := 53) (j := 0) dX12_nextSector_53 (S2.1 p hp) (by omega) ⟨rfl, by omega, by omega⟩ ?_
  refine R_eqi (y := (sdF (nsG (φ p)) (φ p) 0) 0) (by first | rfl | (simp only [uf_s, uf_n, ne_eq])) ?_
  refine R_eqi (y := nsG (φ p) 0) (if_pos (by omega)) ?_
  refine R_iload_n (pc := 54) 1 dX12_nextSector_54 rfl rfl ?_
  refine R_sipush (pc := 55) (v := 135) dX12_nextSector_55 (by decide) ?_
  refine R_imul (pc := 58) dX12_nextSector_58 ?_
  refine R_ixor (pc := 59) dX12_nextSector_59 ?_
  refine R_iast' (pc := 60) (j := 0) dX12_nextSector_60 (S2.1 p hp) (by omega) ⟨rfl, by omega, by omega⟩ (fun h_1 f_2 g_3 => ?_)
  have f_4 : h_1 p = .inl (mN p, upd (sdF (nsG (φ p)) (φ p) 0) 0 ((nsG (φ p) 0) ^^^ (((φ p 15) >>> (7 &&& 31)) * 135))) := by first | exact f_2 | (simp only [uf_s] at f_2; exact f_2)
  have S_5 : MS h_1 (uf φ p (upd (sdF (nsG (φ p)) (φ p) 0) 0 ((nsG (φ p) 0) ^^^ (((φ p 15) >>> (7 &&& 31)) * 135)))) i := by have z_ := MS.setA (p := p) (f := upd (sdF (nsG (φ p)) (φ p) 0) 0 ((nsG (φ p) 0) ^^^ (((φ p 15) >>> (7 &&& 31)) * 135))) S2 hp f_4 g_3; rw [uf_uf] at z_; exact z_
  have F_6 := fmA (p := p) hp g_3
  exact R_vreturn (pc := 61) dX12_nextSector_61 rfl (by decide) (by decide) ⟨rfl, rfl, S_5, (hF.tr F_6)⟩
