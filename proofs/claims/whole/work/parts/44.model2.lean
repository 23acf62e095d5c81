theorem nI_div {a b : Nat} (ha : a < 2 ^ 31) (hb : b < 2 ^ 31) : nI a / nI b = nI (a / b) := by
  have hd : a / b < 2 ^ 31 := Nat.lt_of_le_of_lt (Nat.div_le_self a b) ha
  apply Int32.toInt_inj.mp
  rw [Int32.toInt_div, nI_toInt ha, nI_toInt hb, nI_toInt hd, ← Int.ofNat_tdiv]
  obtain ⟨c, hc⟩ : ∃ c, c = a / b := ⟨_, rfl⟩
  rw [← hc] at hd ⊢
  exact Int.bmod_eq_of_le (by omega) (by omega)
theorem nI_mul (a b : Nat) : nI a * nI b = nI (a * b) := (Int32.ofNat_mul a b).symm
theorem nI_sb {a b : Nat} (h : b ≤ a) : nI a - nI b = nI (a - b) := nI_sub h
theorem nI_rem {a b : Nat} (ha : a < 2 ^ 31) (hb : b < 2 ^ 31) : nI a - nI a / nI b * nI b = nI (a % b) := by
  rw [nI_div ha hb, nI_mul, nI_sb (Nat.div_mul_le_self a b)]
  congr 1
  have := Nat.div_add_mod a b
  rw [Nat.mul_comm] at this
  omega
def pgF (G : fA) (g : fA) (t k : Nat) : fA := fun i => if t ≤ i ∧ i < t + k then G (i - t) else g i
theorem pgF_0 (G g : fA) (t : Nat) : pgF G g t 0 = g := by
  funext i
  unfold pgF
  rw [if_neg (by omega)]
theorem pgF_up (G g : fA) (t k : Nat) {v : Int32} (hv : v = G k) : upd (pgF G g t k) (t + k) v = pgF G g t (k + 1) := by
  funext i
  unfold upd pgF
  by_cases e : i = t + k
  · rw [if_pos e, if_pos (by omega), hv, show i - t = k by omega]
  · rw [if_neg e]
    by_cases e2 : t ≤ i ∧ i < t + k
    · rw [if_pos e2, if_pos (by omega)]
    · rw [if_neg e2, if_neg (by omega)]
theorem pgF_up0 (G g : fA) (k : Nat) {v : Int32} (hv : v = G k) : upd (pgF G g 0 k) k v = pgF G g 0 (k + 1) := by
  have := pgF_up G g 0 k hv
  rw [Nat.zero_add] at this
  exact this
theorem adF_up0 (f : fA) (b : Nat) (g : fA) (k : Nat) : upd (adF f b g 0 k) k (adF f b g 0 k k ^^^ f (b + k)) = adF f b g 0 (k + 1) := by
  have := adF_up f b g 0 k
  rw [Nat.zero_add] at this
  exact this
set_option maxHeartbeats 4000000 in
set_option maxRecDepth 100000 in
theorem qX12_addRound_loop {l : Launch} {w : am_W} {h : am_H} {n : Nat} {φ : Nat → fA} {i : mI} (hn : 90 ≤ n) (u r : Nat) (hu : 240 * u + 16 * r + 16 ≤ 480) {Q : am_H → Nat → Option Value → Prop} (kk : ∀ h2, MS h2 (uf φ 69 (adF (φ 67) (240 * u + 16 * r) (φ 69) 0 16)) i → FM h h2 → RW l w mX12_addRound h2 n 0 0 40 [(3, .int (nI 16)), (0, .ref 61), (1, .int (nI u)), (2, .int (nI r))] [] Q) : ∀ (dd k : Nat), k + dd = 16 → ∀ h2, MS h2 (uf φ 69 (adF (φ 67) (240 * u + 16 * r) (φ 69) 0 k)) i → FM h h2 → RW l w mX12_addRound h2 n 0 0 2 [(3, .int (nI k)), (0, .ref 61), (1, .int (nI u)), (2, .int (nI r))] [] Q := by
  intro dd
  induction dd with
  | zero =>
    intro k hd h2 S2 hF
    refine R_iload_n (pc := 2) 0 dX12_addRound_2 rfl rfl ?_
    refine R_bipush (pc := 3) (v := 16) dX12_addRound_3 (by decide) ?_
    refine R_icmp_ge (pc := 5) (tgt := 40) dX12_addRound_5 (by decide) (fun c_1 => ?_) (fun c_1 => absurd (nI_le (a := 16) (b := k) (by omega) (by omega)) c_1)
    obtain rfl : k = 16 := by omega
    exact kk h2 S2 hF
  | succ dd ih =>
    intro k hd h2 S2 hF
    refine R_iload_n (pc := 2) 0 dX12_addRound_2 rfl rfl ?_
    refine R_bipush (pc := 3) (v := 16) dX12_addRound_3 (by decide) ?_
    refine R_icmp_ge (pc := 5) (tgt := 40) dX12_addRound_5 (by decide) (fun c_1 => absurd c_1 (nI_ge (a := k) (b := 16) (by omega) (by omega))) (fun c_1 => ?_)
    refine R_aload_n (pc := 8) 1 dX12_addRound_8 rfl rfl ?_
    refine R_get (pc := 9) dX12_addRound_9 fX12_35 S2.2 (by omega) rfl ?_
    refine R_iload_n (pc := 12) 0 dX12_addRound_12 rfl rfl ?_
    refine R_dup2 (pc := 13) dX12_addRound_13 rfl rfl ?_
    refine R_iald' (pc := 14) (j := k) dX12_addRound_14 (S2.1 69 rfl) (by omega) ⟨rfl, by show k < 16; omega, by decide⟩ ?_
    refine R_eqi (y := (adF (φ 67) (240 * u + 16 * r) (φ 69) 0 k) k) (by first | rfl | (simp only [uf_s, uf_n, ne_eq])) ?_
    refine R_aload_n (pc := 15) 1 dX12_addRound_15 rfl rfl ?_
    refine R_get (pc := 16) dX12_addRound_16 fX12_29 S2.2 (by omega) rfl ?_
    refine R_sipush (pc := 19) (v := 240) dX12_addRound_19 (by decide) ?_
    refine R_iload_n (pc := 22) 2 dX12_addRound_22 rfl rfl ?_
    refine R_imul (pc := 23) dX12_addRound_23 ?_
    refine R_eqi (y := nI (240 * u)) (nI_mul 240 u) ?_
    refine R_bipush (pc := 24) (v := 16) dX12_addRound_24 (by decide) ?_
    refine R_iload_n (pc := 26) 3 dX12_addRound_26 rfl rfl ?_
    refine R_imul (pc := 27) dX12_addRound_27 ?_
    refine R_eqi (y := nI (16 * r)) (nI_mul 16 r) ?_
    refine R_iadd (pc := 28) dX12_addRound_28 ?_
    refine R_eqi (y := nI (240 * u + 16 * r)) (nI_add _ _) ?_
    refine R_iload_n (pc := 29) 0 dX12_addRound_29 rfl rfl ?_
    refine R_iadd (pc := 30) dX12_addRound_30 ?_
    refine R_eqi (y := nI (240 * u + 16 * r + k)) (nI_add _ _) ?_
    refine R_iald' (pc := 31) (j := 240 * u + 16 * r + k) dX12_addRound_31 (S2.1 67 rfl) (by omega) ⟨rfl, by show 240 * u + 16 * r + k < 480; omega, by decide⟩ ?_
    refine R_eqi (y := φ 67 (240 * u + 16 * r + k)) (by first | rfl | (simp only [uf_s, uf_n, ne_eq])) ?_
    refine R_ixor (pc := 32) dX12_addRound_32 ?_
    refine R_iast' (pc := 33) (j := k) dX12_addRound_33 (S2.1 69 rfl) (by omega) ⟨rfl, by show k < 16; omega, by decide⟩ (fun h_2 f_3 g_4 => ?_)
    have f_5 : h_2 69 = .inl (mN 69, upd (adF (φ 67) (240 * u + 16 * r) (φ 69) 0 k) k (((adF (φ 67) (240 * u + 16 * r) (φ 69) 0 k) k) ^^^ (φ 67 (240 * u + 16 * r + k)))) := by first | exact f_3 | (simp only [uf_s] at f_3; exact f_3)
    have S_6 : MS h_2 (uf φ 69 (upd (adF (φ 67) (240 * u + 16 * r) (φ 69) 0 k) k (((adF (φ 67) (240 * u + 16 * r) (φ 69) 0 k) k) ^^^ (φ 67 (240 * u + 16 * r + k))))) i := by have z_ := MS.setA (p := 69) (f := upd (adF (φ 67) (240 * u + 16 * r) (φ 69) 0 k) k (((adF (φ 67) (240 * u + 16 * r) (φ 69) 0 k) k) ^^^ (φ 67 (240 * u + 16 * r + k)))) S2 rfl f_5 g_4; rw [uf_uf] at z_; exact z_
    have F_7 := fmA (p := 69) rfl g_4
    refine R_iinc (pc := 34) (j := 0) (v := nI (k + 1)) (lv' := [(3, .int (nI (k + 1))), (0, .ref 61), (1, .int (nI u)), (2, .int (nI r))]) dX12_addRound_34 rfl (nI_1 k) (by decide) rfl ?_
    refine R_goto (pc := 37) (tgt := 2) dX12_addRound_37 (by decide) ?_
    refine R_sub [0, 1, 2, 3] rfl ?_
    exact ih (k + 1) (by omega) h_2 (by have z_ := S_6; rw [adF_up0] at z_; exact z_) (hF.tr F_7)
set_option maxHeartbeats 4000000 in
set_option maxRecDepth 100000 in
theorem qX12_addRound {l : Launch} {w : am_W} {h : am_H} {n : Nat} {φ : Nat → fA} {i : mI} (S : MS h φ i) (hn : 90 ≤ n) (u r : Nat) (hu : 240 * u + 16 * r + 16 ≤ 480) : RH l w mX12_addRound h n [.ref 61, .int (nI u), .int (nI r)] (mQ h none (uf φ 69 (adF (φ 67) (240 * u + 16 * r) (φ 69) 0 16)) i) := by
  refine RC.of [(0, .ref 61), (1, .int (nI u)), (2, .int (nI r))] (by decide +kernel) rfl (Nat.le_of_ble_eq_true rfl) ?_
  refine R_iconst (pc := 0) (v := 0) dX12_addRound_0 (by decide) ?_
  refine R_istore_n (pc := 1) (lv' := [(3, .int 0), (0, .ref 61), (1, .int (nI u)), (2, .int (nI r))]) dX12_addRound_1 rfl (by decide) rfl ?_
  refine R_sub [0, 1, 2, 3] rfl ?_
  refine qX12_addRound_loop hn u r hu (fun h2 S2 hF => ?_) 16 0 (by omega) h (by rw [adF_0, uf_id]; exact S) (FM.rf h)
  exact R_vreturn (pc := 40) dX12_addRound_40 rfl (by decide) (by decide) ⟨rfl, rfl, S2, hF⟩
def mxG (s : fA) (a b c d : Int32) : fA := fun j => tmP (s j) a 8 ^^^ tmP (s (4 * (j / 4) + (j % 4 + 1) % 4)) b 8 ^^^ tmP (s (4 * (j / 4) + (j % 4 + 2) % 4)) c 8 ^^^ tmP (s (4 * (j / 4) + (j % 4 + 3) % 4)) d 8
theorem mxG_at (s : fA) (a b c d : Int32) (u k : Nat) (hk : k < 4) : tmP (s (4 * u + k)) a 8 ^^^ tmP (s (4 * u + (k + 1) % 4)) b 8 ^^^ tmP (s (4 * u + (k + 2) % 4)) c 8 ^^^ tmP (s (4 * u + (k + 3) % 4)) d 8 = mxG s a b c d (4 * u + k) := by
  unfold mxG
  rw [show (4 * u + k) / 4 = u by omega, show (4 * u + k) % 4 = k by omega]
set_option maxHeartbeats 4000000 in
set_option maxRecDepth 100000 in
theorem qX12_mix_in {l : Launch} {w : am_W} {h : am_H} {n : Nat} {φ : Nat → fA} {i : mI} (hn : 90 ≤ n) (a b c d : Int32) (u : Nat) (hu : u < 4) {Q : am_H → Nat → Option Value → Prop} (kk : ∀ h2, MS h2 (uf φ 70 (pgF (mxG (φ 69) a b c d) (φ 70) 0 (4 * u + 4))) i → FM h h2 → RW l w mX12_mix h2 n 0 0 107 [(6, .int (nI 4)), (5, .int (nI (4 * u))), (0, .ref 61), (1, .int a), (2, .int b), (3, .int c), (4, .int d)] [] Q) : ∀ (dd k : Nat), k + dd = 4 → ∀ h2, MS h2 (uf φ 70 (pgF (mxG (φ 69) a b c d) (φ 70) 0 (4 * u + k))) i → FM h h2 → RW l w mX12_mix h2 n 0 0 13 [(6, .int (nI k)), (5, .int (nI (4 * u))), (0, .ref 61), (1, .int a), (2, .int b), (3, .int c), (4, .int d)] [] Q := by
  intro dd
  induction dd with
  | zero =>
    intro k hd h2 S2 hF
    refine R_iload (pc := 13) 0 dX12_mix_13 rfl ?_
    refine R_iconst (pc := 15) (v := 4) dX12_mix_15 (by decide) ?_
    refine R_icmp_ge (pc := 16) (tgt := 107) dX12_mix_16 (by decide) (fun c_1 => ?_) (fun c_1 => absurd (nI_le (a := 4) (b := k) (by omega) (by omega)) c_1)
    obtain rfl : k = 4 := by omega
    exact kk h2 S2 hF
  | succ dd ih =>
    intro k hd h2 S2 hF
    refine R_iload (pc := 13) 0 dX12_mix_13 rfl ?_
    refine R_iconst (pc := 15) (v := 4) dX12_mix_15 (by decide) ?_
    refine R_icmp_ge (pc := 16) (tgt := 107) dX12_mix_16 (by decide) (fun c_1 => absurd c_1 (nI_ge (a := k) (b := 4) (by omega) (by omega))) (fun c_1 => ?_)
    refine R_aload_n (pc := 19) 2 dX12_mix_19 rfl rfl ?_
    refine R_get (pc := 20) dX12_mix_20 fX12_38 S2.2 (by omega) rfl ?_
    refine R_iload (pc := 23) 1 dX12_mix_23 rfl ?_
    refine R_iload (pc := 25) 0 dX12_mix_25 rfl ?_
    refine R_iadd (pc := 27) dX12_mix_27 ?_
    refine R_eqi (y := nI (4 * u + k)) (nI_add _ _) ?_
    refine R_aload_n (pc := 28) 2 dX12_mix_28 rfl rfl ?_
    refine R_get (pc := 29) dX12_mix_29 fX12_35 S2.2 (by omega) rfl ?_
    refine R_iload (pc := 32) 1 dX12_mix_32 rfl ?_
    refine R_iload (pc := 34) 0 dX12_mix_34 rfl ?_
    refine R_iadd (pc := 36) dX12_mix_36 ?_
    refine R_eqi (y := nI (4 * u + k)) (nI_add _ _) ?_
    refine R_iald' (pc := 37) (j := 4 * u + k) dX12_mix_37 (S2.1 69 rfl) (by omega) ⟨rfl, by show 4 * u + k < 16; omega, by decide⟩ ?_
    refine R_eqi (y := φ 69 (4 * u + k)) (by first | rfl | (simp only [uf_s, uf_n, ne_eq])) ?_
    refine R_iload_n (pc := 38) 3 dX12_mix_38 rfl rfl ?_
    refine R_callSp (pc := 39) (μ' := mX12_times) (As := [.int (φ 69 (4 * u + k)), .int a]) (st := [.int (nI (4 * u + k)), .ref 70]) dX12_mix_39 zX12_times lX12_101 ⟨by decide, by decide⟩ rfl rfl ⟨by decide, by decide⟩ rfl (Nat.le_of_ble_eq_true rfl) (qX12_times l w _ _ _ _) ?_
    refine R_aload_n (pc := 42) 2 dX12_mix_42 rfl rfl ?_
    refine R_get (pc := 43) dX12_mix_43 fX12_35 S2.2 (by omega) rfl ?_
    refine R_iload (pc := 46) 1 dX12_mix_46 rfl ?_
    refine R_iload (pc := 48) 0 dX12_mix_48 rfl ?_
    refine R_iconst (pc := 50) (v := 1) dX12_mix_50 (by decide) ?_
    refine R_iadd (pc := 51) dX12_mix_51 ?_
    refine R_eqi (y := nI (k + 1)) (nI_add k 1) ?_
    refine R_iconst (pc := 52) (v := 4) dX12_mix_52 (by decide) ?_
    refine R_irem (pc := 53) dX12_mix_53 (by decide) ?_
    refine R_eqi (y := nI ((k + 1) % 4)) (nI_rem (a := k + 1) (b := 4) (by omega) (by omega)) ?_
    refine R_iadd (pc := 54) dX12_mix_54 ?_
    refine R_eqi (y := nI (4 * u + (k + 1) % 4)) (nI_add _ _) ?_
    refine R_iald' (pc := 55) (j := 4 * u + (k + 1) % 4) dX12_mix_55 (S2.1 69 rfl) (by omega) ⟨rfl, by show 4 * u + (k + 1) % 4 < 16; omega, by decide⟩ ?_
    refine R_eqi (y := φ 69 (4 * u + (k + 1) % 4)) (by first | rfl | (simp only [uf_s, uf_n, ne_eq])) ?_
    refine R_iload_n (pc := 56) 4 dX12_mix_56 rfl rfl ?_
    refine R_callSp (pc := 57) (μ' := mX12_times) (As := [.int (φ 69 (4 * u + (k + 1) % 4)), .int b]) (st := [.int (tmP (φ 69 (4 * u + k)) a 8), .int (nI (4 * u + k)), .ref 70]) dX12_mix_57 zX12_times lX12_101 ⟨by decide, by decide⟩ rfl rfl ⟨by decide, by decide⟩ rfl (Nat.le_of_ble_eq_true rfl) (qX12_times l w _ _ _ _) ?_
    refine R_ixor (pc := 60) dX12_mix_60 ?_
    refine R_aload_n (pc := 61) 2 dX12_mix_61 rfl rfl ?_
    refine R_get (pc := 62) dX12_mix_62 fX12_35 S2.2 (by omega) rfl ?_
    refine R_iload (pc := 65) 1 dX12_mix_65 rfl ?_
    refine R_iload (pc := 67) 0 dX12_mix_67 rfl ?_
    refine R_iconst (pc := 69) (v := 2) dX12_mix_69 (by decide) ?_
    refine R_iadd (pc := 70) dX12_mix_70 ?_
    refine R_eqi (y := nI (k + 2)) (nI_add k 2) ?_
    refine R_iconst (pc := 71) (v := 4) dX12_mix_71 (by decide) ?_
    refine R_irem (pc := 72) dX12_mix_72 (by decide) ?_
    refine R_eqi (y := nI ((k + 2) % 4)) (nI_rem (a := k + 2) (b := 4) (by omega) (by omega)) ?_
    refine R_iadd (pc := 73) dX12_mix_73 ?_
    refine R_eqi (y := nI (4 * u + (k + 2) % 4)) (nI_add _ _) ?_
    refine R_iald' (pc := 74) (j := 4 * u + (k + 2) % 4) dX12_mix_74 (S2.1 69 rfl) (by omega) ⟨rfl, by show 4 * u + (k + 2) % 4 < 16; omega, by decide⟩ ?_
    refine R_eqi (y := φ 69 (4 * u + (k + 2) % 4)) (by first | rfl | (simp only [uf_s, uf_n, ne_eq])) ?_
    refine R_iload_n (pc := 75) 5 dX12_mix_75 rfl rfl ?_
    refine R_callSp (pc := 76) (μ' := mX12_times) (As := [.int (φ 69 (4 * u + (k + 2) % 4)), .int c]) (st := [.int ((tmP (φ 69 (4 * u + k)) a 8) ^^^ (tmP (φ 69 (4 * u + (k + 1) % 4)) b 8)), .int (nI (4 * u + k)), .ref 70]) dX12_mix_76 zX12_times lX12_101 ⟨by decide, by decide⟩ rfl rfl ⟨by decide, by decide⟩ rfl (Nat.le_of_ble_eq_true rfl) (qX12_times l w _ _ _ _) ?_
    refine R_ixor (pc := 79) dX12_mix_79 ?_
    refine R_aload_n (pc := 80) 2 dX12_mix_80 rfl rfl ?_
    refine R_get (pc := 81) dX12_mix_81 fX12_35 S2.2 (by omega) rfl ?_
    refine R_iload (pc := 84) 1 dX12_mix_84 rfl ?_
    refine R_iload (pc := 86) 0 dX12_mix_86 rfl ?_
    refine R_iconst (pc := 88) (v := 3) dX12_mix_88 (by decide) ?_
    refine R_iadd (pc := 89) dX12_mix_89 ?_
    refine R_eqi (y := nI (k + 3)) (nI_add k 3) ?_
    refine R_iconst (pc := 90) (v := 4) dX12_mix_90 (by decide) ?_
    refine R_irem (pc := 91) dX12_mix_91 (by decide) ?_
    refine R_eqi (y := nI ((k + 3) % 4)) (nI_rem (a := k + 3) (b := 4) (by omega) (by omega)) ?_
    refine R_iadd (pc := 92) dX12_mix_92 ?_
    refine R_eqi (y := nI (4 * u + (k + 3) % 4)) (nI_add _ _) ?_
    refine R_iald' (pc := 93) (j := 4 * u + (k + 3) % 4) dX12_mix_93 (S2.1 69 rfl) (by omega) ⟨rfl, by show 4 * u + (k + 3) % 4 < 16; omega, by decide⟩ ?_
    refine R_eqi (y := φ 69 (4 * u + (k + 3) % 4)) (by first | rfl | (simp only [uf_s, uf_n, ne_eq])) ?_
    refine R_iload (pc := 94) 6 dX12_mix_94 rfl ?_
    refine R_callSp (pc := 96) (μ' := mX12_times) (As := [.int (φ 69 (4 * u + (k + 3) % 4)), .int d]) (st := [.int (((tmP (φ 69 (4 * u + k)) a 8) ^^^ (tmP (φ 69 (4 * u + (k + 1) % 4)) b 8)) ^^^ (tmP (φ 69 (4 * u + (k + 2) % 4)) c 8)), .int (nI (4 * u + k)), .ref 70]) dX12_mix_96 zX12_times lX12_101 ⟨by decide, by decide⟩ rfl rfl ⟨by decide, by decide⟩ rfl (Nat.le_of_ble_eq_true rfl) (qX12_times l w _ _ _ _) ?_
    refine R_ixor (pc := 99) dX12_mix_99 ?_
    refine R_iast' (pc := 100) (j := 4 * u + k) dX12_mix_100 (S2.1 70 rfl) (by omega) ⟨rfl, by show 4 * u + k < 16; omega, by decide⟩ (fun h_2 f_3 g_4 => ?_)
    have f_5 : h_2 70 = .inl (mN 70, upd (pgF (mxG (φ 69) a b c d) (φ 70) 0 (4 * u + k)) (4 * u + k) ((((tmP (φ 69 (4 * u + k)) a 8) ^^^ (tmP (φ 69 (4 * u + (k + 1) % 4)) b 8)) ^^^ (tmP (φ 69 (4 * u + (k + 2) % 4)) c 8)) ^^^ (tmP (φ 69 (4 * u + (k + 3) % 4)) d 8))) := by first | exact f_3 | (simp only [uf_s] at f_3; exact f_3)
    have S_6 : MS h_2 (uf φ 70 (upd (pgF (mxG (φ 69) a b c d) (φ 70) 0 (4 * u + k)) (4 * u + k) ((((tmP (φ 69 (4 * u + k)) a 8) ^^^ (tmP (φ 69 (4 * u + (k + 1) % 4)) b 8)) ^^^ (tmP (φ 69 (4 * u + (k + 2) % 4)) c 8)) ^^^ (tmP (φ 69 (4 * u + (k + 3) % 4)) d 8)))) i := by have z_ := MS.setA (p := 70) (f := upd (pgF (mxG (φ 69) a b c d) (φ 70) 0 (4 * u + k)) (4 * u + k) ((((tmP (φ 69 (4 * u + k)) a 8) ^^^ (tmP (φ 69 (4 * u + (k + 1) % 4)) b 8)) ^^^ (tmP (φ 69 (4 * u + (k + 2) % 4)) c 8)) ^^^ (tmP (φ 69 (4 * u + (k + 3) % 4)) d 8))) S2 rfl f_5 g_4; rw [uf_uf] at z_; exact z_
    have F_7 := fmA (p := 70) rfl g_4
    refine R_iinc (pc := 101) (j := 0) (v := nI (k + 1)) (lv' := [(6, .int (nI (k + 1))), (5, .int (nI (4 * u))), (0, .ref 61), (1, .int a), (2, .int b), (3, .int c), (4, .int d)]) dX12_mix_101 rfl (nI_1 k) (by decide) rfl ?_
    refine R_goto (pc := 104) (tgt := 13) dX12_mix_104 (by decide) ?_
    refine R_sub [0, 1, 2, 3, 4, 5, 6] rfl ?_
    exact ih (k + 1) (by omega) h_2 (by have z_ := S_6; rw [pgF_up0 _ _ _ (mxG_at _ _ _ _ _ _ _ (by omega))] at z_; exact z_) (hF.tr F_7)
set_option maxHeartbeats 4000000 in
set_option maxRecDepth 100000 in
theorem qX12_mix_out {l : Launch} {w : am_W} {h : am_H} {n : Nat} {φ : Nat → fA} {i : mI} (hn : 90 ≤ n) (a b c d : Int32) {Q : am_H → Nat → Option Value → Prop} (kk : ∀ h2, MS h2 (uf φ 70 (pgF (mxG (φ 69) a b c d) (φ 70) 0 (4 * 4))) i → FM h h2 → RW l w mX12_mix h2 n 0 0 113 [(5, .int (nI (4 * 4))), (0, .ref 61), (1, .int a), (2, .int b), (3, .int c), (4, .int d)] [] Q) : ∀ (dd k : Nat), k + dd = 4 → ∀ h2, MS h2 (uf φ 70 (pgF (mxG (φ 69) a b c d) (φ 70) 0 (4 * k))) i → FM h h2 → RW l w mX12_mix h2 n 0 0 3 [(5, .int (nI (4 * k))), (0, .ref 61), (1, .int a), (2, .int b), (3, .int c), (4, .int d)] [] Q := by
  intro dd
  induction dd with
  | zero =>
    intro k hd h2 S2 hF
    refine R_iload (pc := 3) 0 dX12_mix_3 rfl ?_
    refine R_bipush (pc := 5) (v := 16) dX12_mix_5 (by decide) ?_
    refine R_icmp_ge (pc := 7) (tgt := 113) dX12_mix_7 (by decide) (fun c_1 => ?_) (fun c_1 => absurd (nI_le (a := 16) (b := 4 * k) (by omega) (by omega)) c_1)
    obtain rfl : k = 4 := by omega
    exact kk h2 S2 hF
  | succ dd ih =>
    intro k hd h2 S2 hF
    refine R_iload (pc := 3) 0 dX12_mix_3 rfl ?_
    refine R_bipush (pc := 5) (v := 16) dX12_mix_5 (by decide) ?_
    refine R_icmp_ge (pc := 7) (tgt := 113) dX12_mix_7 (by decide) (fun c_1 => absurd c_1 (nI_ge (a := 4 * k) (b := 16) (by omega) (by omega))) (fun c_1 => ?_)
    refine R_iconst (pc := 10) (v := 0) dX12_mix_10 (by decide) ?_
    refine R_istore (pc := 11) (lv' := [(6, .int 0), (5, .int (nI (4 * k))), (0, .ref 61), (1, .int a), (2, .int b), (3, .int c), (4, .int d)]) dX12_mix_11 (by decide) rfl ?_
    refine R_sub [0, 1, 2, 3, 4, 5, 6] rfl ?_
    refine qX12_mix_in (h := h) (φ := φ) hn a b c d k (by omega) (fun h3 S3 F3 => ?_) 4 0 (by omega) h2 S2 hF
    refine R_iinc (pc := 107) (j := 1) (v := nI (4 * (k + 1))) (lv' := [(5, .int (nI (4 * (k + 1)))), (6, .int (nI 4)), (0, .ref 61), (1, .int a), (2, .int b), (3, .int c), (4, .int d)]) dX12_mix_107 rfl (nI_add (4 * k) 4) (by decide) rfl ?_
    refine R_goto (pc := 110) (tgt := 3) dX12_mix_110 (by decide) ?_
    refine R_sub [0, 2, 3, 4, 5, 6] rfl ?_
    exact ih (k + 1) (by omega) h3 (by have z_ := S3; skip; exact z_) F3
set_option maxHeartbeats 4000000 in
set_option maxRecDepth 100000 in
theorem qX12_mix_cp {l : Launch} {w : am_W} {h : am_H} {n : Nat} {φ : Nat → fA} {i : mI} (hn : 90 ≤ n) (a b c d : Int32) {Q : am_H → Nat → Option Value → Prop} (kk : ∀ h2, MS h2 (uf φ 69 (pgF (φ 70) (φ 69) 0 16)) i → FM h h2 → RW l w mX12_mix h2 n 0 0 143 [(5, .int (nI 16)), (0, .ref 61), (1, .int a), (2, .int b), (3, .int c), (4, .int d)] [] Q) : ∀ (dd k : Nat), k + dd = 16 → ∀ h2, MS h2 (uf φ 69 (pgF (φ 70) (φ 69) 0 k)) i → FM h h2 → RW l w mX12_mix h2 n 0 0 116 [(5, .int (nI k)), (0, .ref 61), (1, .int a), (2, .int b), (3, .int c), (4, .int d)] [] Q := by
  intro dd
  induction dd with
  | zero =>
    intro k hd h2 S2 hF
    refine R_iload (pc := 116) 0 dX12_mix_116 rfl ?_
    refine R_bipush (pc := 118) (v := 16) dX12_mix_118 (by decide) ?_
    refine R_icmp_ge (pc := 120) (tgt := 143) dX12_mix_120 (by decide) (fun c_1 => ?_) (fun c_1 => absurd (nI_le (a := 16) (b := k) (by omega) (by omega)) c_1)
    obtain rfl : k = 16 := by omega
    exact kk h2 S2 hF
  | succ dd ih =>
    intro k hd h2 S2 hF
    refine R_iload (pc := 116) 0 dX12_mix_116 rfl ?_
    refine R_bipush (pc := 118) (v := 16) dX12_mix_118 (by decide) ?_
    refine R_icmp_ge (pc := 120) (tgt := 143) dX12_mix_120 (by decide) (fun c_1 => absurd c_1 (nI_ge (a := k) (b := 16) (by omega) (by omega))) (fun c_1 => ?_)
    refine R_aload_n (pc := 123) 1 dX12_mix_123 rfl rfl ?_
    refine R_get (pc := 124) dX12_mix_124 fX12_35 S2.2 (by omega) rfl ?_
    refine R_iload (pc := 127) 0 dX12_mix_127 rfl ?_
    refine R_aload_n (pc := 129) 1 dX12_mix_129 rfl rfl ?_
    refine R_get (pc := 130) dX12_mix_130 fX12_38 S2.2 (by omega) rfl ?_
    refine R_iload (pc := 133) 0 dX12_mix_133 rfl ?_
    refine R_iald' (pc := 135) (j := k) dX12_mix_135 (S2.1 70 rfl) (by omega) ⟨rfl, by show k < 16; omega, by decide⟩ ?_
    refine R_eqi (y := φ 70 k) (by first | rfl | (simp only [uf_s, uf_n, ne_eq])) ?_
    refine R_iast' (pc := 136) (j := k) dX12_mix_136 (S2.1 69 rfl) (by omega) ⟨rfl, by show k < 16; omega, by decide⟩ (fun h_2 f_3 g_4 => ?_)
    have f_5 : h_2 69 = .inl (mN 69, upd (pgF (φ 70) (φ 69) 0 k) k (φ 70 k)) := by first | exact f_3 | (simp only [uf_s] at f_3; exact f_3)
    have S_6 : MS h_2 (uf φ 69 (upd (pgF (φ 70) (φ 69) 0 k) k (φ 70 k))) i := by have z_ := MS.setA (p := 69) (f := upd (pgF (φ 70) (φ 69) 0 k) k (φ 70 k)) S2 rfl f_5 g_4; rw [uf_uf] at z_; exact z_
    have F_7 := fmA (p := 69) rfl g_4
    refine R_iinc (pc := 137) (j := 0) (v := nI (k + 1)) (lv' := [(5, .int (nI (k + 1))), (0, .ref 61), (1, .int a), (2, .int b), (3, .int c), (4, .int d)]) dX12_mix_137 rfl (nI_1 k) (by decide) rfl ?_
    refine R_goto (pc := 140) (tgt := 116) dX12_mix_140 (by decide) ?_
    refine R_sub [0, 1, 2, 3, 4, 5] rfl ?_
    exact ih (k + 1) (by omega) h_2 (by have z_ := S_6; rw [pgF_up0 _ _ _ rfl] at z_; exact z_) (hF.tr F_7)
set_option maxHeartbeats 4000000 in
set_option maxRecDepth 100000 in
theorem qX12_mix {l : Launch} {w : am_W} {h : am_H} {n : Nat} {φ : Nat → fA} {i : mI} (S : MS h φ i) (hn : 90 ≤ n) (a b c d : Int32) : RH l w mX12_mix h n [.ref 61, .int a, .int b, .int c, .int d] (mQ h none (uf (uf φ 70 (pgF (mxG (φ 69) a b c d) (φ 70) 0 16)) 69 (pgF (pgF (mxG (φ 69) a b c d) (φ 70) 0 16) (φ 69) 0 16)) i) := by
  refine RC.of [(0, .ref 61), (1, .int a), (2, .int b), (3, .int c), (4, .int d)] (by decide +kernel) rfl (Nat.le_of_ble_eq_true rfl) ?_
  refine R_iconst (pc := 0) (v := 0) dX12_mix_0 (by decide) ?_
  refine R_istore (pc := 1) (lv' := [(5, .int 0), (0, .ref 61), (1, .int a), (2, .int b), (3, .int c), (4, .int d)]) dX12_mix_1 (by decide) rfl ?_
  refine R_sub [0, 1, 2, 3, 4, 5] rfl ?_
  refine qX12_mix_out (h := h) (φ := φ) hn a b c d (fun h2 S2 F2 => ?_) 4 0 (by omega) h (by rw [show 4 * 0 = 0 from rfl, pgF_0, uf_id]; exact S) (FM.rf h)
  refine R_iconst (pc := 113) (v := 0) dX12_mix_113 (by decide) ?_
  refine R_istore (pc := 114) (lv' := [(5, .int 0), (0, .ref 61), (1, .int a), (2, .int b), (3, .int c), (4, .int d)]) dX12_mix_114 (by decide) rfl ?_
  refine R_sub [0, 1, 2, 3, 4, 5] rfl ?_
  refine qX12_mix_cp (h := h) (φ := uf φ 70 (pgF (mxG (φ 69) a b c d) (φ 70) 0 16)) hn a b c d (fun h3 S3 F3 => ?_) 16 0 (by omega) h2 (by rw [pgF_0, uf_id]; exact S2) F2
  exact R_vreturn (pc := 143) dX12_mix_143 rfl (by decide) (by decide) ⟨rfl, rfl, S3, F3⟩
