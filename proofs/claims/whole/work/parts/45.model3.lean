theorem pgF_lt (G g : fA) {k m : Nat} (h : k < m) : pgF G g 0 m k = G k := by
  unfold pgF
  rw [if_pos (by omega)]
  rfl
theorem adF_lt (f : fA) (b : Nat) (g : fA) {k m : Nat} (h : k < m) : adF f b g 0 m k = g k ^^^ f (b + k) := by
  unfold adF
  rw [if_pos (by omega)]
  rfl
def ok8 (f : fA) : Prop := ∀ k, k < 16 → ∃ v : BitVec 8, f k = oc v
theorem ok_ix {x : Int32} (h : ∃ v : BitVec 8, x = oc v) : x = nI x.toNatClampNeg ∧ x.toNatClampNeg < 256 := by
  obtain ⟨v, rfl⟩ := h
  have hv := v.isLt
  rw [oc_nI, nI_clamp (by omega)]
  exact ⟨rfl, by omega⟩
def shG (B s : fA) : fA := fun k => B (s ((k + 4 * (k % 4)) % 16)).toNatClampNeg
set_option maxHeartbeats 4000000 in
set_option maxRecDepth 100000 in
theorem qX12_sealBlock_in {l : Launch} {w : am_W} {h : am_H} {n : Nat} {φ : Nat → fA} {i : mI} (hn : 90 ≤ n) {p : Nat} (hp : isA p = true) (hp69 : p ≠ 69) (u t : Nat) (ht : t + 16 ≤ mN p) {Q : am_H → Nat → Option Value → Prop} (kk : ∀ h2, MS h2 (uf φ 69 (pgF (fun j => φ p (t + j)) (φ 69) 0 16)) i → FM h h2 → RW l w mX12_sealBlock h2 n 0 0 29 [(4, .int (nI 16)), (0, .ref 61), (1, .int (nI u)), (2, .ref p), (3, .int (nI t))] [] Q) : ∀ (dd k : Nat), k + dd = 16 → ∀ h2, MS h2 (uf φ 69 (pgF (fun j => φ p (t + j)) (φ 69) 0 k)) i → FM h h2 → RW l w mX12_sealBlock h2 n 0 0 3 [(4, .int (nI k)), (0, .ref 61), (1, .int (nI u)), (2, .ref p), (3, .int (nI t))] [] Q := by
  have hNp := mN_le p
  have hpb := isA_b hp
  intro dd
  induction dd with
  | zero =>
    intro k hd h2 S2 hF
    refine R_iload (pc := 3) 0 dX12_sealBlock_3 rfl ?_
    refine R_bipush (pc := 5) (v := 16) dX12_sealBlock_5 (by decide) ?_
    refine R_icmp_ge (pc := 7) (tgt := 29) dX12_sealBlock_7 (by decide) (fun c_1 => ?_) (fun c_1 => absurd (nI_le (a := 16) (b := k) (by omega) (by omega)) c_1)
    obtain rfl : k = 16 := by omega
    exact kk h2 S2 hF
  | succ dd ih =>
    intro k hd h2 S2 hF
    refine R_iload (pc := 3) 0 dX12_sealBlock_3 rfl ?_
    refine R_bipush (pc := 5) (v := 16) dX12_sealBlock_5 (by decide) ?_
    refine R_icmp_ge (pc := 7) (tgt := 29) dX12_sealBlock_7 (by decide) (fun c_1 => absurd c_1 (nI_ge (a := k) (b := 16) (by omega) (by omega))) (fun c_1 => ?_)
    refine R_aload_n (pc := 10) 1 dX12_sealBlock_10 rfl rfl ?_
    refine R_get (pc := 11) dX12_sealBlock_11 fX12_35 S2.2 (by omega) rfl ?_
    refine R_iload (pc := 14) 0 dX12_sealBlock_14 rfl ?_
    refine R_aload_n (pc := 16) 3 dX12_sealBlock_16 rfl rfl ?_
    refine R_iload_n (pc := 17) 4 dX12_sealBlock_17 rfl rfl ?_
    refine R_iload (pc := 18) 0 dX12_sealBlock_18 rfl ?_
    refine R_iadd (pc := 20) dX12_sealBlock_20 ?_
    refine R_iald' (pc := 21) (j := t + k) dX12_sealBlock_21 (S2.1 p hp) (by omega) ⟨nI_add t k, by omega, by omega⟩ ?_
    refine R_eqi (y := φ p (t + k)) (by first | rfl | (simp only [uf_s, uf_n, ne_eq, uf_n (x := p) (p := 69) hp69])) ?_
    refine R_iast' (pc := 22) (j := k) dX12_sealBlock_22 (S2.1 69 rfl) (by omega) ⟨rfl, by show k < 16; omega, by decide⟩ (fun h_2 f_3 g_4 => ?_)
    have f_5 : h_2 69 = .inl (mN 69, upd (pgF (fun j => φ p (t + j)) (φ 69) 0 k) k (φ p (t + k))) := by first | exact f_3 | (simp only [uf_s, uf_n (x := p) (p := 69) hp69] at f_3; exact f_3)
    have S_6 : MS h_2 (uf φ 69 (upd (pgF (fun j => φ p (t + j)) (φ 69) 0 k) k (φ p (t + k)))) i := by have z_ := MS.setA (p := 69) (f := upd (pgF (fun j => φ p (t + j)) (φ 69) 0 k) k (φ p (t + k))) S2 rfl f_5 g_4; rw [uf_uf] at z_; exact z_
    have F_7 := fmA (p := 69) rfl g_4
    refine R_iinc (pc := 23) (j := 0) (v := nI (k + 1)) (lv' := [(4, .int (nI (k + 1))), (0, .ref 61), (1, .int (nI u)), (2, .ref p), (3, .int (nI t))]) dX12_sealBlock_23 rfl (nI_1 k) (by decide) rfl ?_
    refine R_goto (pc := 26) (tgt := 3) dX12_sealBlock_26 (by decide) ?_
    refine R_sub [0, 1, 2, 3, 4] rfl ?_
    exact ih (k + 1) (by omega) h_2 (by have z_ := S_6; rw [pgF_up0 _ _ _ rfl] at z_; exact z_) (hF.tr F_7)
set_option maxHeartbeats 4000000 in
set_option maxRecDepth 100000 in
theorem qX12_sealBlock_out {l : Launch} {w : am_W} {h : am_H} {n : Nat} {φ : Nat → fA} {i : mI} (hn : 90 ≤ n) {p : Nat} (hp : isA p = true) (hp69 : p ≠ 69) (u t : Nat) (ht : t + 16 ≤ mN p) {Q : am_H → Nat → Option Value → Prop} (kk : ∀ h2, MS h2 (uf φ p (pgF (φ 69) (φ p) t 16)) i → FM h h2 → RW l w mX12_sealBlock h2 n 0 0 185 [(4, .int (nI 16)), (0, .ref 61), (1, .int (nI u)), (2, .ref p), (3, .int (nI t))] [] Q) : ∀ (dd k : Nat), k + dd = 16 → ∀ h2, MS h2 (uf φ p (pgF (φ 69) (φ p) t k)) i → FM h h2 → RW l w mX12_sealBlock h2 n 0 0 159 [(4, .int (nI k)), (0, .ref 61), (1, .int (nI u)), (2, .ref p), (3, .int (nI t))] [] Q := by
  have hNp := mN_le p
  have hpb := isA_b hp
  intro dd
  induction dd with
  | zero =>
    intro k hd h2 S2 hF
    refine R_iload (pc := 159) 0 dX12_sealBlock_159 rfl ?_
    refine R_bipush (pc := 161) (v := 16) dX12_sealBlock_161 (by decide) ?_
    refine R_icmp_ge (pc := 163) (tgt := 185) dX12_sealBlock_163 (by decide) (fun c_1 => ?_) (fun c_1 => absurd (nI_le (a := 16) (b := k) (by omega) (by omega)) c_1)
    obtain rfl : k = 16 := by omega
    exact kk h2 S2 hF
  | succ dd ih =>
    intro k hd h2 S2 hF
    refine R_iload (pc := 159) 0 dX12_sealBlock_159 rfl ?_
    refine R_bipush (pc := 161) (v := 16) dX12_sealBlock_161 (by decide) ?_
    refine R_icmp_ge (pc := 163) (tgt := 185) dX12_sealBlock_163 (by decide) (fun c_1 => absurd c_1 (nI_ge (a := k) (b := 16) (by omega) (by omega))) (fun c_1 => ?_)
    refine R_aload_n (pc := 166) 3 dX12_sealBlock_166 rfl rfl ?_
    refine R_iload_n (pc := 167) 4 dX12_sealBlock_167 rfl rfl ?_
    refine R_iload (pc := 168) 0 dX12_sealBlock_168 rfl ?_
    refine R_iadd (pc := 170) dX12_sealBlock_170 ?_
    refine R_aload_n (pc := 171) 1 dX12_sealBlock_171 rfl rfl ?_
    refine R_get (pc := 172) dX12_sealBlock_172 fX12_35 S2.2 (by omega) rfl ?_
    refine R_iload (pc := 175) 0 dX12_sealBlock_175 rfl ?_
    refine R_iald' (pc := 177) (j := k) dX12_sealBlock_177 (S2.1 69 rfl) (by omega) ⟨rfl, by show k < 16; omega, by decide⟩ ?_
    refine R_eqi (y := φ 69 k) (by first | rfl | (simp only [uf_s, uf_n, ne_eq, uf_n (x := 69) (p := p) (Ne.symm hp69)])) ?_
    refine R_iast' (pc := 178) (j := t + k) dX12_sealBlock_178 (S2.1 p hp) (by omega) ⟨nI_add t k, by omega, by omega⟩ (fun h_2 f_3 g_4 => ?_)
    have f_5 : h_2 p = .inl (mN p, upd (pgF (φ 69) (φ p) t k) (t + k) (φ 69 k)) := by first | exact f_3 | (simp only [uf_s, uf_n (x := 69) (p := p) (Ne.symm hp69)] at f_3; exact f_3)
    have S_6 : MS h_2 (uf φ p (upd (pgF (φ 69) (φ p) t k) (t + k) (φ 69 k))) i := by have z_ := MS.setA (p := p) (f := upd (pgF (φ 69) (φ p) t k) (t + k) (φ 69 k)) S2 hp f_5 g_4; rw [uf_uf] at z_; exact z_
    have F_7 := fmA (p := p) hp g_4
    refine R_iinc (pc := 179) (j := 0) (v := nI (k + 1)) (lv' := [(4, .int (nI (k + 1))), (0, .ref 61), (1, .int (nI u)), (2, .ref p), (3, .int (nI t))]) dX12_sealBlock_179 rfl (nI_1 k) (by decide) rfl ?_
    refine R_goto (pc := 182) (tgt := 159) dX12_sealBlock_182 (by decide) ?_
    refine R_sub [0, 1, 2, 3, 4] rfl ?_
    exact ih (k + 1) (by omega) h_2 (by have z_ := S_6; rw [pgF_up _ _ _ _ rfl] at z_; exact z_) (hF.tr F_7)
set_option maxHeartbeats 4000000 in
set_option maxRecDepth 100000 in
theorem qX12_sealBlock_sub {l : Launch} {w : am_W} {h : am_H} {n : Nat} {φ : Nat → fA} {i : mI} (hn : 90 ≤ n) (p u t : Nat) (rI : Int32) (hok : ok8 (φ 69)) {Q : am_H → Nat → Option Value → Prop} (kk : ∀ h2, MS h2 (uf φ 70 (pgF (shG (φ 65) (φ 69)) (φ 70) 0 16)) i → FM h h2 → RW l w mX12_sealBlock h2 n 0 0 94 [(5, .int (nI 16)), (4, .int rI), (0, .ref 61), (1, .int (nI u)), (2, .ref p), (3, .int (nI t))] [] Q) : ∀ (dd k : Nat), k + dd = 16 → ∀ h2, MS h2 (uf φ 70 (pgF (shG (φ 65) (φ 69)) (φ 70) 0 k)) i → FM h h2 → RW l w mX12_sealBlock h2 n 0 0 52 [(5, .int (nI k)), (4, .int rI), (0, .ref 61), (1, .int (nI u)), (2, .ref p), (3, .int (nI t))] [] Q := by
  intro dd
  induction dd with
  | zero =>
    intro k hd h2 S2 hF
    refine R_iload (pc := 52) 0 dX12_sealBlock_52 rfl ?_
    refine R_bipush (pc := 54) (v := 16) dX12_sealBlock_54 (by decide) ?_
    refine R_icmp_ge (pc := 56) (tgt := 94) dX12_sealBlock_56 (by decide) (fun c_1 => ?_) (fun c_1 => absurd (nI_le (a := 16) (b := k) (by omega) (by omega)) c_1)
    obtain rfl : k = 16 := by omega
    exact kk h2 S2 hF
  | succ dd ih =>
    intro k hd h2 S2 hF
    refine R_iload (pc := 52) 0 dX12_sealBlock_52 rfl ?_
    refine R_bipush (pc := 54) (v := 16) dX12_sealBlock_54 (by decide) ?_
    refine R_icmp_ge (pc := 56) (tgt := 94) dX12_sealBlock_56 (by decide) (fun c_1 => absurd c_1 (nI_ge (a := k) (b := 16) (by omega) (by omega))) (fun c_1 => ?_)
    refine R_aload_n (pc := 59) 2 dX12_sealBlock_59 rfl rfl ?_
    refine R_get (pc := 60) dX12_sealBlock_60 fX12_38 S2.2 (by omega) rfl ?_
    refine R_iload (pc := 63) 0 dX12_sealBlock_63 rfl ?_
    refine R_aload_n (pc := 65) 2 dX12_sealBlock_65 rfl rfl ?_
    refine R_get (pc := 66) dX12_sealBlock_66 fX12_23 S2.2 (by omega) rfl ?_
    refine R_aload_n (pc := 69) 2 dX12_sealBlock_69 rfl rfl ?_
    refine R_get (pc := 70) dX12_sealBlock_70 fX12_35 S2.2 (by omega) rfl ?_
    refine R_iload (pc := 73) 0 dX12_sealBlock_73 rfl ?_
    refine R_iconst (pc := 75) (v := 4) dX12_sealBlock_75 (by decide) ?_
    refine R_iload (pc := 76) 0 dX12_sealBlock_76 rfl ?_
    refine R_iconst (pc := 78) (v := 4) dX12_sealBlock_78 (by decide) ?_
    refine R_irem (pc := 79) dX12_sealBlock_79 (by decide) ?_
    refine R_eqi (y := nI (k % 4)) (nI_rem (a := k) (b := 4) (by omega) (by omega)) ?_
    refine R_imul (pc := 80) dX12_sealBlock_80 ?_
    refine R_eqi (y := nI (4 * (k % 4))) (nI_mul 4 _) ?_
    refine R_iadd (pc := 81) dX12_sealBlock_81 ?_
    refine R_eqi (y := nI (k + 4 * (k % 4))) (nI_add _ _) ?_
    refine R_bipush (pc := 82) (v := 16) dX12_sealBlock_82 (by decide) ?_
    refine R_irem (pc := 84) dX12_sealBlock_84 (by decide) ?_
    refine R_eqi (y := nI ((k + 4 * (k % 4)) % 16)) (nI_rem (a := k + 4 * (k % 4)) (b := 16) (by omega) (by omega)) ?_
    refine R_iald' (pc := 85) (j := (k + 4 * (k % 4)) % 16) dX12_sealBlock_85 (S2.1 69 rfl) (by omega) ⟨rfl, by show (k + 4 * (k % 4)) % 16 < 16; omega, by decide⟩ ?_
    refine R_eqi (y := φ 69 ((k + 4 * (k % 4)) % 16)) (by first | rfl | (simp only [uf_s, uf_n, ne_eq])) ?_
    refine R_iald' (pc := 86) (j := (φ 69 ((k + 4 * (k % 4)) % 16)).toNatClampNeg) dX12_sealBlock_86 (S2.1 65 rfl) (by omega) ⟨(ok_ix (hok _ (by omega))).1, (ok_ix (hok _ (by omega))).2, by decide⟩ ?_
    refine R_eqi (y := φ 65 ((φ 69 ((k + 4 * (k % 4)) % 16)).toNatClampNeg)) (by first | rfl | (simp only [uf_s, uf_n, ne_eq])) ?_
    refine R_iast' (pc := 87) (j := k) dX12_sealBlock_87 (S2.1 70 rfl) (by omega) ⟨rfl, by show k < 16; omega, by decide⟩ (fun h_2 f_3 g_4 => ?_)
    have f_5 : h_2 70 = .inl (mN 70, upd (pgF (shG (φ 65) (φ 69)) (φ 70) 0 k) k (φ 65 ((φ 69 ((k + 4 * (k % 4)) % 16)).toNatClampNeg))) := by first | exact f_3 | (simp only [uf_s] at f_3; exact f_3)
    have S_6 : MS h_2 (uf φ 70 (upd (pgF (shG (φ 65) (φ 69)) (φ 70) 0 k) k (φ 65 ((φ 69 ((k + 4 * (k % 4)) % 16)).toNatClampNeg)))) i := by have z_ := MS.setA (p := 70) (f := upd (pgF (shG (φ 65) (φ 69)) (φ 70) 0 k) k (φ 65 ((φ 69 ((k + 4 * (k % 4)) % 16)).toNatClampNeg))) S2 rfl f_5 g_4; rw [uf_uf] at z_; exact z_
    have F_7 := fmA (p := 70) rfl g_4
    refine R_iinc (pc := 88) (j := 0) (v := nI (k + 1)) (lv' := [(5, .int (nI (k + 1))), (4, .int rI), (0, .ref 61), (1, .int (nI u)), (2, .ref p), (3, .int (nI t))]) dX12_sealBlock_88 rfl (nI_1 k) (by decide) rfl ?_
    refine R_goto (pc := 91) (tgt := 52) dX12_sealBlock_91 (by decide) ?_
    refine R_sub [0, 1, 2, 3, 4, 5] rfl ?_
    exact ih (k + 1) (by omega) h_2 (by have z_ := S_6; rw [pgF_up0 (shG (φ 65) (φ 69)) (φ 70) k (v := φ 65 (φ 69 ((k + 4 * (k % 4)) % 16)).toNatClampNeg) rfl] at z_; exact z_) (hF.tr F_7)
set_option maxHeartbeats 4000000 in
set_option maxRecDepth 100000 in
theorem qX12_sealBlock_cp {l : Launch} {w : am_W} {h : am_H} {n : Nat} {φ : Nat → fA} {i : mI} (hn : 90 ≤ n) (p u t : Nat) (rI : Int32) {Q : am_H → Nat → Option Value → Prop} (kk : ∀ h2, MS h2 (uf φ 69 (pgF (φ 70) (φ 69) 0 16)) i → FM h h2 → RW l w mX12_sealBlock h2 n 0 0 124 [(5, .int (nI 16)), (4, .int rI), (0, .ref 61), (1, .int (nI u)), (2, .ref p), (3, .int (nI t))] [] Q) : ∀ (dd k : Nat), k + dd = 16 → ∀ h2, MS h2 (uf φ 69 (pgF (φ 70) (φ 69) 0 k)) i → FM h h2 → RW l w mX12_sealBlock h2 n 0 0 97 [(5, .int (nI k)), (4, .int rI), (0, .ref 61), (1, .int (nI u)), (2, .ref p), (3, .int (nI t))] [] Q := by
  intro dd
  induction dd with
  | zero =>
    intro k hd h2 S2 hF
    refine R_iload (pc := 97) 0 dX12_sealBlock_97 rfl ?_
    refine R_bipush (pc := 99) (v := 16) dX12_sealBlock_99 (by decide) ?_
    refine R_icmp_ge (pc := 101) (tgt := 124) dX12_sealBlock_101 (by decide) (fun c_1 => ?_) (fun c_1 => absurd (nI_le (a := 16) (b := k) (by omega) (by omega)) c_1)
    obtain rfl : k = 16 := by omega
    exact kk h2 S2 hF
  | succ dd ih =>
    intro k hd h2 S2 hF
    refine R_iload (pc := 97) 0 dX12_sealBlock_97 rfl ?_
    refine R_bipush (pc := 99) (v := 16) dX12_sealBlock_99 (by decide) ?_
    refine R_icmp_ge (pc := 101) (tgt := 124) dX12_sealBlock_101 (by decide) (fun c_1 => absurd c_1 (nI_ge (a := k) (b := 16) (by omega) (by omega))) (fun c_1 => ?_)
    refine R_aload_n (pc := 104) 2 dX12_sealBlock_104 rfl rfl ?_
    refine R_get (pc := 105) dX12_sealBlock_105 fX12_35 S2.2 (by omega) rfl ?_
    refine R_iload (pc := 108) 0 dX12_sealBlock_108 rfl ?_
    refine R_aload_n (pc := 110) 2 dX12_sealBlock_110 rfl rfl ?_
    refine R_get (pc := 111) dX12_sealBlock_111 fX12_38 S2.2 (by omega) rfl ?_
    refine R_iload (pc := 114) 0 dX12_sealBlock_114 rfl ?_
    refine R_iald' (pc := 116) (j := k) dX12_sealBlock_116 (S2.1 70 rfl) (by omega) ⟨rfl, by show k < 16; omega, by decide⟩ ?_
    refine R_eqi (y := φ 70 k) (by first | rfl | (simp only [uf_s, uf_n, ne_eq])) ?_
    refine R_iast' (pc := 117) (j := k) dX12_sealBlock_117 (S2.1 69 rfl) (by omega) ⟨rfl, by show k < 16; omega, by decide⟩ (fun h_2 f_3 g_4 => ?_)
    have f_5 : h_2 69 = .inl (mN 69, upd (pgF (φ 70) (φ 69) 0 k) k (φ 70 k)) := by first | exact f_3 | (simp only [uf_s] at f_3; exact f_3)
    have S_6 : MS h_2 (uf φ 69 (upd (pgF (φ 70) (φ 69) 0 k) k (φ 70 k))) i := by have z_ := MS.setA (p := 69) (f := upd (pgF (φ 70) (φ 69) 0 k) k (φ 70 k)) S2 rfl f_5 g_4; rw [uf_uf] at z_; exact z_
    have F_7 := fmA (p := 69) rfl g_4
    refine R_iinc (pc := 118) (j := 0) (v := nI (k + 1)) (lv' := [(5, .int (nI (k + 1))), (4, .int rI), (0, .ref 61), (1, .int (nI u)), (2, .ref p), (3, .int (nI t))]) dX12_sealBlock_118 rfl (nI_1 k) (by decide) rfl ?_
    refine R_goto (pc := 121) (tgt := 97) dX12_sealBlock_121 (by decide) ?_
    refine R_sub [0, 1, 2, 3, 4, 5] rfl ?_
    exact ih (k + 1) (by omega) h_2 (by have z_ := S_6; rw [pgF_up0 _ _ _ rfl] at z_; exact z_) (hF.tr F_7)
set_option maxHeartbeats 4000000 in
set_option maxRecDepth 100000 in
theorem qX12_openBlock_in {l : Launch} {w : am_W} {h : am_H} {n : Nat} {φ : Nat → fA} {i : mI} (hn : 90 ≤ n) {p : Nat} (hp : isA p = true) (hp69 : p ≠ 69) (u t : Nat) (ht : t + 16 ≤ mN p) {Q : am_H → Nat → Option Value → Prop} (kk : ∀ h2, MS h2 (uf φ 69 (pgF (fun j => φ p (t + j)) (φ 69) 0 16)) i → FM h h2 → RW l w mX12_openBlock h2 n 0 0 29 [(4, .int (nI 16)), (0, .ref 61), (1, .int (nI u)), (2, .ref p), (3, .int (nI t))] [] Q) : ∀ (dd k : Nat), k + dd = 16 → ∀ h2, MS h2 (uf φ 69 (pgF (fun j => φ p (t + j)) (φ 69) 0 k)) i → FM h h2 → RW l w mX12_openBlock h2 n 0 0 3 [(4, .int (nI k)), (0, .ref 61), (1, .int (nI u)), (2, .ref p), (3, .int (nI t))] [] Q := by
  have hNp := mN_le p
  have hpb := isA_b hp
  intro dd
  induction dd with
  | zero =>
    intro k hd h2 S2 hF
    refine R_iload (pc := 3) 0 dX12_openBlock_3 rfl ?_
    refine R_bipush (pc := 5) (v := 16) dX12_openBlock_5 (by decide) ?_
    refine R_icmp_ge (pc := 7) (tgt := 29) dX12_openBlock_7 (by decide) (fun c_1 => ?_) (fun c_1 => absurd (nI_le (a := 16) (b := k) (by omega) (by omega)) c_1)
    obtain rfl : k = 16 := by omega
    exact kk h2 S2 hF
  | succ dd ih =>
    intro k hd h2 S2 hF
    refine R_iload (pc := 3) 0 dX12_openBlock_3 rfl ?_
    refine R_bipush (pc := 5) (v := 16) dX12_openBlock_5 (by decide) ?_
    refine R_icmp_ge (pc := 7) (tgt := 29) dX12_openBlock_7 (by decide) (fun c_1 => absurd c_1 (nI_ge (a := k) (b := 16) (by omega) (by omega))) (fun c_1 => ?_)
    refine R_aload_n (pc := 10) 1 dX12_openBlock_10 rfl rfl ?_
    refine R_get (pc := 11) dX12_openBlock_11 fX12_35 S2.2 (by omega) rfl ?_
    refine R_iload (pc := 14) 0 dX12_openBlock_14 rfl ?_
    refine R_aload_n (pc := 16) 3 dX12_openBlock_16 rfl rfl ?_
    refine R_iload_n (pc := 17) 4 dX12_openBlock_17 rfl rfl ?_
    refine R_iload (pc := 18) 0 dX12_openBlock_18 rfl ?_
    refine R_iadd (pc := 20) dX12_openBlock_20 ?_
    refine R_iald' (pc := 21) (j := t + k) dX12_openBlock_21 (S2.1 p hp) (by omega) ⟨nI_add t k, by omega, by omega⟩ ?_
    refine R_eqi (y := φ p (t + k)) (by first | rfl | (simp only [uf_s, uf_n, ne_eq, uf_n (x := p) (p := 69) hp69])) ?_
    refine R_iast' (pc := 22) (j := k) dX12_openBlock_22 (S2.1 69 rfl) (by omega) ⟨rfl, by show k < 16; omega, by decide⟩ (fun h_2 f_3 g_4 => ?_)
    have f_5 : h_2 69 = .inl (mN 69, upd (pgF (fun j => φ p (t + j)) (φ 69) 0 k) k (φ p (t + k))) := by first | exact f_3 | (simp only [uf_s, uf_n (x := p) (p := 69) hp69] at f_3; exact f_3)
    have S_6 : MS h_2 (uf φ 69 (upd (pgF (fun j => φ p (t + j)) (φ 69) 0 k) k (φ p (t + k)))) i := by have z_ := MS.setA (p := 69) (f := upd (pgF (fun j => φ p (t + j)) (φ 69) 0 k) k (φ p (t + k))) S2 rfl f_5 g_4; rw [uf_uf] at z_; exact z_
    have F_7 := fmA (p := 69) rfl g_4
    refine R_iinc (pc := 23) (j := 0) (v := nI (k + 1)) (lv' := [(4, .int (nI (k + 1))), (0, .ref 61), (1, .int (nI u)), (2, .ref p), (3, .int (nI t))]) dX12_openBlock_23 rfl (nI_1 k) (by decide) rfl ?_
    refine R_goto (pc := 26) (tgt := 3) dX12_openBlock_26 (by decide) ?_
    refine R_sub [0, 1, 2, 3, 4] rfl ?_
    exact ih (k + 1) (by omega) h_2 (by have z_ := S_6; rw [pgF_up0 _ _ _ rfl] at z_; exact z_) (hF.tr F_7)
set_option maxHeartbeats 4000000 in
set_option maxRecDepth 100000 in
theorem qX12_openBlock_out {l : Launch} {w : am_W} {h : am_H} {n : Nat} {φ : Nat → fA} {i : mI} (hn : 90 ≤ n) {p : Nat} (hp : isA p = true) (hp69 : p ≠ 69) (u t : Nat) (ht : t + 16 ≤ mN p) {Q : am_H → Nat → Option Value → Prop} (kk : ∀ h2, MS h2 (uf φ p (pgF (φ 69) (φ p) t 16)) i → FM h h2 → RW l w mX12_openBlock h2 n 0 0 189 [(4, .int (nI 16)), (0, .ref 61), (1, .int (nI u)), (2, .ref p), (3, .int (nI t))] [] Q) : ∀ (dd k : Nat), k + dd = 16 → ∀ h2, MS h2 (uf φ p (pgF (φ 69) (φ p) t k)) i → FM h h2 → RW l w mX12_openBlock h2 n 0 0 163 [(4, .int (nI k)), (0, .ref 61), (1, .int (nI u)), (2, .ref p), (3, .int (nI t))] [] Q := by
  have hNp := mN_le p
  have hpb := isA_b hp
  intro dd
  induction dd with
  | zero =>
    intro k hd h2 S2 hF
    refine R_iload (pc := 163) 0 dX12_openBlock_163 rfl ?_
    refine R_bipush (pc := 165) (v := 16) dX12_openBlock_165 (by decide) ?_
    refine R_icmp_ge (pc := 167) (tgt := 189) dX12_openBlock_167 (by decide) (fun c_1 => ?_) (fun c_1 => absurd (nI_le (a := 16) (b := k) (by omega) (by omega)) c_1)
    obtain rfl : k = 16 := by omega
    exact kk h2 S2 hF
  | succ dd ih =>
    intro k hd h2 S2 hF
    refine R_iload (pc := 163) 0 dX12_openBlock_163 rfl ?_
    refine R_bipush (pc := 165) (v := 16) dX12_openBlock_165 (by decide) ?_
    refine R_icmp_ge (pc := 167) (tgt := 189) dX12_openBlock_167 (by decide) (fun c_1 => absurd c_1 (nI_ge (a := k) (b := 16) (by omega) (by omega))) (fun c_1 => ?_)
    refine R_aload_n (pc := 170) 3 dX12_openBlock_170 rfl rfl ?_
    refine R_iload_n (pc := 171) 4 dX12_openBlock_171 rfl rfl ?_
    refine R_iload (pc := 172) 0 dX12_openBlock_172 rfl ?_
    refine R_iadd (pc := 174) dX12_openBlock_174 ?_
    refine R_aload_n (pc := 175) 1 dX12_openBlock_175 rfl rfl ?_
    refine R_get (pc := 176) dX12_openBlock_176 fX12_35 S2.2 (by omega) rfl ?_
    refine R_iload (pc := 179) 0 dX12_openBlock_179 rfl ?_
    refine R_iald' (pc := 181) (j := k) dX12_openBlock_181 (S2.1 69 rfl) (by omega) ⟨rfl, by show k < 16; omega, by decide⟩ ?_
    refine R_eqi (y := φ 69 k) (by first | rfl | (simp only [uf_s, uf_n, ne_eq, uf_n (x := 69) (p := p) (Ne.symm hp69)])) ?_
    refine R_iast' (pc := 182) (j := t + k) dX12_openBlock_182 (S2.1 p hp) (by omega) ⟨nI_add t k, by omega, by omega⟩ (fun h_2 f_3 g_4 => ?_)
    have f_5 : h_2 p = .inl (mN p, upd (pgF (φ 69) (φ p) t k) (t + k) (φ 69 k)) := by first | exact f_3 | (simp only [uf_s, uf_n (x := 69) (p := p) (Ne.symm hp69)] at f_3; exact f_3)
    have S_6 : MS h_2 (uf φ p (upd (pgF (φ 69) (φ p) t k) (t + k) (φ 69 k))) i := by have z_ := MS.setA (p := p) (f := upd (pgF (φ 69) (φ p) t k) (t + k) (φ 69 k)) S2 hp f_5 g_4; rw [uf_uf] at z_; exact z_
    have F_7 := fmA (p := p) hp g_4
    refine R_iinc (pc := 183) (j := 0) (v := nI (k + 1)) (lv' := [(4, .int (nI (k + 1))), (0, .ref 61), (1, .int (nI u)), (2, .ref p), (3, .int (nI t))]) dX12_openBlock_183 rfl (nI_1 k) (by decide) rfl ?_
    refine R_goto (pc := 186) (tgt := 163) dX12_openBlock_186 (by decide) ?_
    refine R_sub [0, 1, 2, 3, 4] rfl ?_
    exact ih (k + 1) (by omega) h_2 (by have z_ := S_6; rw [pgF_up _ _ _ _ rfl] at z_; exact z_) (hF.tr F_7)
def iv (j : Nat) : Nat := (j + 12 * (j % 4)) % 16
def bkP (G g : fA) (k : Nat) : fA := fun j => if j < 16 ∧ iv j < k then G (iv j) else g j
theorem iv_pi : ∀ k, k < 16 → iv ((k + 4 * (k % 4)) % 16) = k := by decide
theorem pi_iv : ∀ j, j < 16 → (iv j + 4 * (iv j % 4)) % 16 = j := by decide
theorem bkP_0 (G g : fA) : bkP G g 0 = g := by
  funext j
  unfold bkP
  rw [if_neg (by omega)]
theorem bkP_up (G g : fA) {k : Nat} (hk : k < 16) {v : Int32} (hv : v = G k) : upd (bkP G g k) ((k + 4 * (k % 4)) % 16) v = bkP G g (k + 1) := by
  have e1 := iv_pi k hk
  funext j
  unfold upd bkP
  by_cases e : j = (k + 4 * (k % 4)) % 16
  · rw [if_pos e, if_pos (by rw [e]; exact ⟨by omega, by omega⟩), hv, e, e1]
  · rw [if_neg e]
    by_cases e2 : j < 16 ∧ iv j < k
    · rw [if_pos e2, if_pos ⟨e2.1, by omega⟩]
    · rw [if_neg e2, if_neg (fun q => ?_)]
      have q2 : iv j = k := by
        have := q.2
        have := fun z => e2 ⟨q.1, z⟩
        omega
      exact e (by rw [← q2]; exact (pi_iv j q.1).symm)
def uhG (B s : fA) : fA := fun k => B (s k).toNatClampNeg
set_option maxHeartbeats 4000000 in
set_option maxRecDepth 100000 in
theorem qX12_openBlock_sub {l : Launch} {w : am_W} {h : am_H} {n : Nat} {φ : Nat → fA} {i : mI} (hn : 90 ≤ n) (p u t : Nat) (rI : Int32) (hok : ok8 (φ 69)) {Q : am_H → Nat → Option Value → Prop} (kk : ∀ h2, MS h2 (uf φ 70 (bkP (uhG (φ 66) (φ 69)) (φ 70) 16)) i → FM h h2 → RW l w mX12_openBlock h2 n 0 0 118 [(5, .int (nI 16)), (4, .int rI), (0, .ref 61), (1, .int (nI u)), (2, .ref p), (3, .int (nI t))] [] Q) : ∀ (dd k : Nat), k + dd = 16 → ∀ h2, MS h2 (uf φ 70 (bkP (uhG (φ 66) (φ 69)) (φ 70) k)) i → FM h h2 → RW l w mX12_openBlock h2 n 0 0 76 [(5, .int (nI k)), (4, .int rI), (0, .ref 61), (1, .int (nI u)), (2, .ref p), (3, .int (nI t))] [] Q := by
  intro dd
  induction dd with
  | zero =>
    intro k hd h2 S2 hF
    refine R_iload (pc := 76) 0 dX12_openBlock_76 rfl ?_
    refine R_bipush (pc := 78) (v := 16) dX12_openBlock_78 (by decide) ?_
    refine R_icmp_ge (pc := 80) (tgt := 118) dX12_openBlock_80 (by decide) (fun c_1 => ?_) (fun c_1 => absurd (nI_le (a := 16) (b := k) (by omega) (by omega)) c_1)
    obtain rfl : k = 16 := by omega
    exact kk h2 S2 hF
  | succ dd ih =>
    intro k hd h2 S2 hF
    refine R_iload (pc := 76) 0 dX12_openBlock_76 rfl ?_
    refine R_bipush (pc := 78) (v := 16) dX12_openBlock_78 (by decide) ?_
    refine R_icmp_ge (pc := 80) (tgt := 118) dX12_openBlock_80 (by decide) (fun c_1 => absurd c_1 (nI_ge (a := k) (b := 16) (by omega) (by omega))) (fun c_1 => ?_)
    refine R_aload_n (pc := 83) 2 dX12_openBlock_83 rfl rfl ?_
    refine R_get (pc := 84) dX12_openBlock_84 fX12_38 S2.2 (by omega) rfl ?_
    refine R_iload (pc := 87) 0 dX12_openBlock_87 rfl ?_
    refine R_iconst (pc := 89) (v := 4) dX12_openBlock_89 (by decide) ?_
    refine R_iload (pc := 90) 0 dX12_openBlock_90 rfl ?_
    refine R_iconst (pc := 92) (v := 4) dX12_openBlock_92 (by decide) ?_
    refine R_irem (pc := 93) dX12_openBlock_93 (by decide) ?_
    refine R_eqi (y := nI (k % 4)) (nI_rem (a := k) (b := 4) (by omega) (by omega)) ?_
    refine R_imul (pc := 94) dX12_openBlock_94 ?_
    refine R_eqi (y := nI (4 * (k % 4))) (nI_mul 4 _) ?_
    refine R_iadd (pc := 95) dX12_openBlock_95 ?_
    refine R_eqi (y := nI (k + 4 * (k % 4))) (nI_add _ _) ?_
    refine R_bipush (pc := 96) (v := 16) dX12_openBlock_96 (by decide) ?_
    refine R_irem (pc := 98) dX12_openBlock_98 (by decide) ?_
    refine R_eqi (y := nI ((k + 4 * (k % 4)) % 16)) (nI_rem (a := k + 4 * (k % 4)) (b := 16) (by omega) (by omega)) ?_
    refine R_aload_n (pc := 99) 2 dX12_openBlock_99 rfl rfl ?_
    refine R_get (pc := 100) dX12_openBlock_100 fX12_26 S2.2 (by omega) rfl ?_
    refine R_aload_n (pc := 103) 2 dX12_openBlock_103 rfl rfl ?_
    refine R_get (pc := 104) dX12_openBlock_104 fX12_35 S2.2 (by omega) rfl ?_
    refine R_iload (pc := 107) 0 dX12_openBlock_107 rfl ?_
    refine R_iald' (pc := 109) (j := k) dX12_openBlock_109 (S2.1 69 rfl) (by omega) ⟨rfl, by show k < 16; omega, by decide⟩ ?_
    refine R_eqi (y := φ 69 k) (by first | rfl | (simp only [uf_s, uf_n, ne_eq])) ?_
    refine R_iald' (pc := 110) (j := (φ 69 k).toNatClampNeg) dX12_openBlock_110 (S2.1 66 rfl) (by omega) ⟨(ok_ix (hok _ (by omega))).1, (ok_ix (hok _ (by omega))).2, by decide⟩ ?_
    refine R_eqi (y := φ 66 ((φ 69 k).toNatClampNeg)) (by first | rfl | (simp only [uf_s, uf_n, ne_eq])) ?_
    refine R_iast' (pc := 111) (j := (k + 4 * (k % 4)) % 16) dX12_openBlock_111 (S2.1 70 rfl) (by omega) ⟨rfl, by show (k + 4 * (k % 4)) % 16 < 16; omega, by decide⟩ (fun h_2 f_3 g_4 => ?_)
    have f_5 : h_2 70 = .inl (mN 70, upd (bkP (uhG (φ 66) (φ 69)) (φ 70) k) ((k + 4 * (k % 4)) % 16) (φ 66 ((φ 69 k).toNatClampNeg))) := by first | exact f_3 | (simp only [uf_s] at f_3; exact f_3)
    have S_6 : MS h_2 (uf φ 70 (upd (bkP (uhG (φ 66) (φ 69)) (φ 70) k) ((k + 4 * (k % 4)) % 16) (φ 66 ((φ 69 k).toNatClampNeg)))) i := by have z_ := MS.setA (p := 70) (f := upd (bkP (uhG (φ 66) (φ 69)) (φ 70) k) ((k + 4 * (k % 4)) % 16) (φ 66 ((φ 69 k).toNatClampNeg))) S2 rfl f_5 g_4; rw [uf_uf] at z_; exact z_
    have F_7 := fmA (p := 70) rfl g_4
    refine R_iinc (pc := 112) (j := 0) (v := nI (k + 1)) (lv' := [(5, .int (nI (k + 1))), (4, .int rI), (0, .ref 61), (1, .int (nI u)), (2, .ref p), (3, .int (nI t))]) dX12_openBlock_112 rfl (nI_1 k) (by decide) rfl ?_
    refine R_goto (pc := 115) (tgt := 76) dX12_openBlock_115 (by decide) ?_
    refine R_sub [0, 1, 2, 3, 4, 5] rfl ?_
    exact ih (k + 1) (by omega) h_2 (by have z_ := S_6; rw [bkP_up (uhG (φ 66) (φ 69)) (φ 70) (k := k) (by omega) (v := φ 66 (φ 69 k).toNatClampNeg) rfl] at z_; exact z_) (hF.tr F_7)
set_option maxHeartbeats 4000000 in
set_option maxRecDepth 100000 in
theorem qX12_openBlock_cp {l : Launch} {w : am_W} {h : am_H} {n : Nat} {φ : Nat → fA} {i : mI} (hn : 90 ≤ n) (p u t : Nat) (rI : Int32) {Q : am_H → Nat → Option Value → Prop} (kk : ∀ h2, MS h2 (uf φ 69 (pgF (φ 70) (φ 69) 0 16)) i → FM h h2 → RW l w mX12_openBlock h2 n 0 0 148 [(5, .int (nI 16)), (4, .int rI), (0, .ref 61), (1, .int (nI u)), (2, .ref p), (3, .int (nI t))] [] Q) : ∀ (dd k : Nat), k + dd = 16 → ∀ h2, MS h2 (uf φ 69 (pgF (φ 70) (φ 69) 0 k)) i → FM h h2 → RW l w mX12_openBlock h2 n 0 0 121 [(5, .int (nI k)), (4, .int rI), (0, .ref 61), (1, .int (nI u)), (2, .ref p), (3, .int (nI t))] [] Q := by
  intro dd
  induction dd with
  | zero =>
    intro k hd h2 S2 hF
    refine R_iload (pc := 121) 0 dX12_openBlock_121 rfl ?_
    refine R_bipush (pc := 123) (v := 16) dX12_openBlock_123 (by decide) ?_
    refine R_icmp_ge (pc := 125) (tgt := 148) dX12_openBlock_125 (by decide) (fun c_1 => ?_) (fun c_1 => absurd (nI_le (a := 16) (b := k) (by omega) (by omega)) c_1)
    obtain rfl : k = 16 := by omega
    exact kk h2 S2 hF
  | succ dd ih =>
    intro k hd h2 S2 hF
    refine R_iload (pc := 121) 0 dX12_openBlock_121 rfl ?_
    refine R_bipush (pc := 123) (v := 16) dX12_openBlock_123 (by decide) ?_
    refine R_icmp_ge (pc := 125) (tgt := 148) dX12_openBlock_125 (by decide) (fun c_1 => absurd c_1 (nI_ge (a := k) (b := 16) (by omega) (by omega))) (fun c_1 => ?_)
    refine R_aload_n (pc := 128) 2 dX12_openBlock_128 rfl rfl ?_
    refine R_get (pc := 129) dX12_openBlock_129 fX12_35 S2.2 (by omega) rfl ?_
    refine R_iload (pc := 132) 0 dX12_openBlock_132 rfl ?_
    refine R_aload_n (pc := 134) 2 dX12_openBlock_134 rfl rfl ?_
    refine R_get (pc := 135) dX12_openBlock_135 fX12_38 S2.2 (by omega) rfl ?_
    refine R_iload (pc := 138) 0 dX12_openBlock_138 rfl ?_
    refine R_iald' (pc := 140) (j := k) dX12_openBlock_140 (S2.1 70 rfl) (by omega) ⟨rfl, by show k < 16; omega, by decide⟩ ?_
    refine R_eqi (y := φ 70 k) (by first | rfl | (simp only [uf_s, uf_n, ne_eq])) ?_
    refine R_iast' (pc := 141) (j := k) dX12_openBlock_141 (S2.1 69 rfl) (by omega) ⟨rfl, by show k < 16; omega, by decide⟩ (fun h_2 f_3 g_4 => ?_)
    have f_5 : h_2 69 = .inl (mN 69, upd (pgF (φ 70) (φ 69) 0 k) k (φ 70 k)) := by first | exact f_3 | (simp only [uf_s] at f_3; exact f_3)
    have S_6 : MS h_2 (uf φ 69 (upd (pgF (φ 70) (φ 69) 0 k) k (φ 70 k))) i := by have z_ := MS.setA (p := 69) (f := upd (pgF (φ 70) (φ 69) 0 k) k (φ 70 k)) S2 rfl f_5 g_4; rw [uf_uf] at z_; exact z_
    have F_7 := fmA (p := 69) rfl g_4
    refine R_iinc (pc := 142) (j := 0) (v := nI (k + 1)) (lv' := [(5, .int (nI (k + 1))), (4, .int rI), (0, .ref 61), (1, .int (nI u)), (2, .ref p), (3, .int (nI t))]) dX12_openBlock_142 rfl (nI_1 k) (by decide) rfl ?_
    refine R_goto (pc := 145) (tgt := 121) dX12_openBlock_145 (by decide) ?_
    refine R_sub [0, 1, 2, 3, 4, 5] rfl ?_
    exact ih (k + 1) (by omega) h_2 (by have z_ := S_6; rw [pgF_up0 _ _ _ rfl] at z_; exact z_) (hF.tr F_7)
