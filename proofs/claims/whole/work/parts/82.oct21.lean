def pwN (m : Nat) : Nat → BitVec 8
  | 0 => 1
  | i + 1 => if m ≤ i ∧ i % m = 0 then gB (pwN m i) 2 else pwN m i
def exV (B : BitVec 8 → BitVec 8) (key : oA) (m : Nat) (p : BitVec 8) (i : Nat) (f : oA) (k : Nat) : BitVec 8 :=
  if i < m then key (4 * i + k) else f (4 * i + k - 4 * m) ^^^ (if i % m = 0 then B (f (4 * (i - 1) + (k + 1) % 4)) ^^^ (if k = 0 then p else 0) else if m = 8 ∧ i % 8 = 4 then B (f (4 * i + k - 4)) else f (4 * i + k - 4))
def exN (B : BitVec 8 → BitVec 8) (key : oA) (m : Nat) : Nat → oA
  | 0 => fun _ => 0
  | i + 1 => pgB (exV B key m (pwN m i) i (exN B key m i)) (exN B key m i) (4 * i) 4
theorem exV_cg (B : BitVec 8 → BitVec 8) (key : oA) {m : Nat} (hm : 1 ≤ m) (p : BitVec 8) {i : Nat} {f g : oA} (h : ∀ j, j < 4 * i → f j = g j) {k : Nat} (hk : k < 4) : exV B key m p i f k = exV B key m p i g k := by
  unfold exV
  by_cases hi : i < m
  · rw [if_pos hi, if_pos hi]
  · rw [if_neg hi, if_neg hi, h (4 * i + k - 4 * m) (by omega), h (4 * (i - 1) + (k + 1) % 4) (by omega), h (4 * i + k - 4) (by omega)]
set_option maxHeartbeats 1000000 in
set_option maxRecDepth 100000 in
theorem qX12_expand_in {l : Launch} {w : am_W} {h : am_H} {n : Nat} {ψ : Nat → oA} {z : fA} {i : mI} (hn : 90 ≤ n) (u a m : Nat) (hu : u < 2) (ha : a ≤ 32) (hm : m = 4 ∨ m = 6 ∨ m = 8) (B : BitVec 8 → BitVec 8) (hB : ∀ v : BitVec 8, ψ 65 v.toNat = B v) (p : BitVec 8) (q : Nat) (hq : q < 4 * (m + 7)) {Q : am_H → Nat → Option Value → Prop} (kk : ∀ h2 ψ2, MO h2 ψ2 z i → FR [67] ψ ψ2 → ψ2 67 = pgB (exV B (fun j => ψ 62 (a + j)) m p q (fun o => ψ 67 (240 * u + o))) (ψ 67) (240 * u + 4 * q) 4 → FM h h2 → RW l w mX12_expand h2 n 0 0 212 [(9, .int (nI 4)), (8, .int (nI q)), (7, .int (oc p)), (6, .int (nI (4 * (m + 7)))), (5, .int (nI (240 * u))), (4, .int (nI m)), (0, .ref 61), (1, .int (nI u)), (2, .int (nI a)), (3, .int (nI (4 * m)))] [] Q) : ∀ (dd k : Nat), k + dd = 4 → ∀ h2 ψ2, MO h2 ψ2 z i → FR [67] ψ ψ2 → ψ2 67 = pgB (exV B (fun j => ψ 62 (a + j)) m p q (fun o => ψ 67 (240 * u + o))) (ψ 67) (240 * u + 4 * q) k → FM h h2 → RW l w mX12_expand h2 n 0 0 48 [(9, .int (nI k)), (8, .int (nI q)), (7, .int (oc p)), (6, .int (nI (4 * (m + 7)))), (5, .int (nI (240 * u))), (4, .int (nI m)), (0, .ref 61), (1, .int (nI u)), (2, .int (nI a)), (3, .int (nI (4 * m)))] [] Q := by
  have hm8 : 4 ≤ m ∧ m ≤ 8 := by omega
  intro dd
  induction dd with
  | zero =>
    intro k hd h2 ψ2 S2 hK hJ hF
    refine R_iload (pc := 48) 0 dX12_expand_48 rfl ?_
    refine R_iconst (pc := 50) (v := 4) dX12_expand_50 (by decide) ?_
    refine R_icmp_ge (pc := 51) (tgt := 212) dX12_expand_51 (by decide) (fun c_1 => ?_) (fun c_1 => absurd (nI_le (a := 4) (b := k) (by omega) (by omega)) c_1)
    obtain rfl : k = 4 := by omega
    exact kk h2 ψ2 S2 hK hJ hF
  | succ dd ih =>
    intro k hd h2 ψ2 S2 hK hJ hF
    have hqm : q % m < m := Nat.mod_lt _ (by omega)
    refine R_iload (pc := 48) 0 dX12_expand_48 rfl ?_
    refine R_iconst (pc := 50) (v := 4) dX12_expand_50 (by decide) ?_
    refine R_icmp_ge (pc := 51) (tgt := 212) dX12_expand_51 (by decide) (fun c_1 => absurd c_1 (nI_ge (a := k) (b := 4) (by omega) (by omega))) (fun c_1 => ?_)
    refine R_iload (pc := 54) 4 dX12_expand_54 rfl ?_
    refine R_iconst (pc := 56) (v := 4) dX12_expand_56 (by decide) ?_
    refine R_iload (pc := 57) 1 dX12_expand_57 rfl ?_
    refine R_imul (pc := 59) dX12_expand_59 ?_
    refine R_eqi (y := nI (4 * q)) (nI_mul 4 q) ?_
    refine R_iadd (pc := 60) dX12_expand_60 ?_
    refine R_eqi (y := nI (240 * u + (4 * q))) (nI_add (240 * u) (4 * q)) ?_
    refine R_iload (pc := 61) 0 dX12_expand_61 rfl ?_
    refine R_iadd (pc := 63) dX12_expand_63 ?_
    refine R_eqi (y := nI (240 * u + (4 * q) + k)) (nI_add (240 * u + (4 * q)) k) ?_
    refine R_istore (pc := 64) (lv' := [(10, .int (nI (240 * u + (4 * q) + k))), (9, .int (nI k)), (8, .int (nI q)), (7, .int (oc p)), (6, .int (nI (4 * (m + 7)))), (5, .int (nI (240 * u))), (4, .int (nI m)), (0, .ref 61), (1, .int (nI u)), (2, .int (nI a)), (3, .int (nI (4 * m)))]) dX12_expand_64 (by decide) rfl ?_
    refine R_iload (pc := 66) 2 dX12_expand_66 rfl ?_
    refine R_iload (pc := 68) 6 dX12_expand_68 rfl ?_
    refine R_icmp_ge (pc := 70) (tgt := 97) dX12_expand_70 (by decide) (fun c_2 => ?_) (fun c_2 => ?_)
    · skip
      have nc_2 : m ≤ q := (nI_leI (a := m) (b := q) (by omega) (by omega)).mp c_2
      refine R_aload_n (pc := 97) 7 dX12_expand_97 rfl rfl ?_
      refine R_get (pc := 98) dX12_expand_98 fX12_29 S2.obj (by omega) rfl ?_
      refine R_iload (pc := 101) 0 dX12_expand_101 rfl ?_
      refine R_iconst (pc := 103) (v := 4) dX12_expand_103 (by decide) ?_
      refine R_isub (pc := 104) dX12_expand_104 ?_
      refine R_eqi (y := nI (240 * u + (4 * q) + k - 4)) (nI_sb (a := 240 * u + (4 * q) + k) (b := 4) (by omega)) ?_
      refine R_iald' (pc := 105) (j := 240 * u + (4 * q) + k - 4) dX12_expand_105 (S2.arr (p := 67) rfl) (by omega) ⟨rfl, by show 240 * u + (4 * q) + k - 4 < 480; omega, by decide⟩ ?_
      refine R_eqi (y := oc (ψ2 67 (240 * u + (4 * q) + k - 4))) rfl ?_
      refine R_istore (pc := 106) (lv' := [(11, .int (oc (ψ2 67 (240 * u + (4 * q) + k - 4)))), (10, .int (nI (240 * u + (4 * q) + k))), (9, .int (nI k)), (8, .int (nI q)), (7, .int (oc p)), (6, .int (nI (4 * (m + 7)))), (5, .int (nI (240 * u))), (4, .int (nI m)), (0, .ref 61), (1, .int (nI u)), (2, .int (nI a)), (3, .int (nI (4 * m)))]) dX12_expand_106 (by decide) rfl ?_
      refine R_iload (pc := 108) 3 dX12_expand_108 rfl ?_
      refine R_iload (pc := 110) 7 dX12_expand_110 rfl ?_
      refine R_irem (pc := 112) dX12_expand_112 (nI_ne0 (by omega) (by omega)) ?_
      refine R_eqi (y := nI (q % m)) (nI_rem (a := q) (b := m) (by omega) (by omega)) ?_
      refine R_if_ne (pc := 113) (tgt := 159) dX12_expand_113 (by decide) (fun c_3 => ?_) (fun c_3 => ?_)
      · skip
        have nc_3 : ¬ (q % m = 0) := fun q_ => c_3 ((nI_eq (a := q % m) (b := 0) (by omega) (by omega)).mpr q_)
        refine R_iload (pc := 159) 7 dX12_expand_159 rfl ?_
        refine R_bipush (pc := 161) (v := 8) dX12_expand_161 (by decide) ?_
        refine R_icmp_ne (pc := 163) (tgt := 184) dX12_expand_163 (by decide) (fun c_4 => ?_) (fun c_4 => ?_)
        · skip
          have nc_4 : ¬ (m = 8) := fun q_ => c_4 ((nI_eq (a := m) (b := 8) (by omega) (by omega)).mpr q_)
          refine R_aload_n (pc := 184) 8 dX12_expand_184 rfl rfl ?_
          refine R_get (pc := 185) dX12_expand_185 fX12_29 S2.obj (by omega) rfl ?_
          refine R_iload (pc := 188) 1 dX12_expand_188 rfl ?_
          refine R_aload_n (pc := 190) 8 dX12_expand_190 rfl rfl ?_
          refine R_get (pc := 191) dX12_expand_191 fX12_29 S2.obj (by omega) rfl ?_
          refine R_iload (pc := 194) 1 dX12_expand_194 rfl ?_
          refine R_iconst (pc := 196) (v := 4) dX12_expand_196 (by decide) ?_
          refine R_iload (pc := 197) 7 dX12_expand_197 rfl ?_
          refine R_imul (pc := 199) dX12_expand_199 ?_
          refine R_eqi (y := nI (4 * m)) (nI_mul 4 m) ?_
          refine R_isub (pc := 200) dX12_expand_200 ?_
          refine R_eqi (y := nI (240 * u + (4 * q) + k - (4 * m))) (nI_sb (a := 240 * u + (4 * q) + k) (b := 4 * m) (by omega)) ?_
          refine R_iald' (pc := 201) (j := 240 * u + (4 * q) + k - (4 * m)) dX12_expand_201 (S2.arr (p := 67) rfl) (by omega) ⟨rfl, by show 240 * u + (4 * q) + k - (4 * m) < 480; omega, by decide⟩ ?_
          refine R_eqi (y := oc (ψ2 67 (240 * u + (4 * q) + k - (4 * m)))) rfl ?_
          refine R_iload (pc := 202) 0 dX12_expand_202 rfl ?_
          refine R_ixor (pc := 204) dX12_expand_204 ?_
          refine R_eqi (y := oc ((ψ2 67 (240 * u + (4 * q) + k - (4 * m))) ^^^ (ψ2 67 (240 * u + (4 * q) + k - 4)))) (oc_xor _ _) ?_
          refine R_iast' (pc := 205) (j := 240 * u + (4 * q) + k) dX12_expand_205 (S2.arr (p := 67) rfl) (by omega) ⟨rfl, by show 240 * u + (4 * q) + k < 480; omega, by decide⟩ (fun h_5 f_6 g_7 => ?_)
          have S_9 : MO h_5 (uo ψ2 67 (updB (ψ2 67) (240 * u + (4 * q) + k) ((ψ2 67 (240 * u + (4 * q) + k - (4 * m))) ^^^ (ψ2 67 (240 * u + (4 * q) + k - 4))))) z i := MO.setA (p := 67) S2 rfl f_6 g_7 (fun j_ => congrFun (upd_oc _ _ _) j_)
          have F_8 := fmA (p := 67) (okA_c (by decide)).1 g_7
          refine R_iinc (pc := 206) (j := 2) (v := nI (k + 1)) (lv' := [(9, .int (nI (k + 1))), (11, .int (oc (ψ2 67 (240 * u + (4 * q) + k - 4)))), (10, .int (nI (240 * u + (4 * q) + k))), (8, .int (nI q)), (7, .int (oc p)), (6, .int (nI (4 * (m + 7)))), (5, .int (nI (240 * u))), (4, .int (nI m)), (0, .ref 61), (1, .int (nI u)), (2, .int (nI a)), (3, .int (nI (4 * m)))]) dX12_expand_206 rfl (nI_add _ _) (by decide) rfl ?_
          refine R_goto (pc := 209) (tgt := 48) dX12_expand_209 (by decide) ?_
          refine R_sub [0, 3, 4, 5, 6, 7, 8, 9, 10, 11] rfl ?_
          have e62 : ψ2 62 = ψ 62 := hK 62 (by decide)
          have rd67 : ∀ x, x < 240 * u + 4 * q → ψ2 67 x = ψ 67 x := fun x_ hx_ => by rw [hJ, pgB_out _ _ (by omega)]
          have j1 : updB (ψ2 67) (240 * u + (4 * q) + k) ((ψ2 67 (240 * u + (4 * q) + k - (4 * m))) ^^^ (ψ2 67 (240 * u + (4 * q) + k - 4))) = pgB (exV B (fun j => ψ 62 (a + j)) m p q (fun o => ψ 67 (240 * u + o))) (ψ 67) (240 * u + 4 * q) (k + 1) := by
            have v_ : ((ψ2 67 (240 * u + (4 * q) + k - (4 * m))) ^^^ (ψ2 67 (240 * u + (4 * q) + k - 4))) = (exV B (fun j => ψ 62 (a + j)) m p q (fun o => ψ 67 (240 * u + o))) k := by
              unfold exV
              rw [if_neg (show ¬ q < m by omega)]
              rw [if_neg nc_3, rd67 _ (by omega), rd67 _ (by omega), if_neg (by omega)]
              rw [show 240 * u + 4 * q + k - 4 * m = 240 * u + (4 * q + k - 4 * m) by omega, show 240 * u + 4 * q + k - 4 = 240 * u + (4 * q + k - 4) by omega]
            rw [← pgB_up _ _ rfl v_, ← hJ]
          exact ih (k + 1) (by omega) h_5 _ S_9 (hK.up (by decide)) (j1) (hF.tr F_8)
        · skip
          have nc_4 : m = 8 := (nI_eq (a := m) (b := 8) (by omega) (by omega)).mp c_4
          refine R_iload (pc := 166) 3 dX12_expand_166 rfl ?_
          refine R_bipush (pc := 168) (v := 8) dX12_expand_168 (by decide) ?_
          refine R_irem (pc := 170) dX12_expand_170 (by decide) ?_
          refine R_eqi (y := nI (q % 8)) (nI_rem (a := q) (b := 8) (by omega) (by omega)) ?_
          refine R_iconst (pc := 171) (v := 4) dX12_expand_171 (by decide) ?_
          refine R_icmp_ne (pc := 172) (tgt := 184) dX12_expand_172 (by decide) (fun c_10 => ?_) (fun c_10 => ?_)
          · skip
            have nc_10 : ¬ (q % 8 = 4) := fun q_ => c_10 ((nI_eq (a := q % 8) (b := 4) (by omega) (by omega)).mpr q_)
            refine R_aload_n (pc := 184) 8 dX12_expand_184 rfl rfl ?_
            refine R_get (pc := 185) dX12_expand_185 fX12_29 S2.obj (by omega) rfl ?_
            refine R_iload (pc := 188) 1 dX12_expand_188 rfl ?_
            refine R_aload_n (pc := 190) 8 dX12_expand_190 rfl rfl ?_
            refine R_get (pc := 191) dX12_expand_191 fX12_29 S2.obj (by omega) rfl ?_
            refine R_iload (pc := 194) 1 dX12_expand_194 rfl ?_
            refine R_iconst (pc := 196) (v := 4) dX12_expand_196 (by decide) ?_
            refine R_iload (pc := 197) 7 dX12_expand_197 rfl ?_
            refine R_imul (pc := 199) dX12_expand_199 ?_
            refine R_eqi (y := nI (4 * m)) (nI_mul 4 m) ?_
            refine R_isub (pc := 200) dX12_expand_200 ?_
            refine R_eqi (y := nI (240 * u + (4 * q) + k - (4 * m))) (nI_sb (a := 240 * u + (4 * q) + k) (b := 4 * m) (by omega)) ?_
            refine R_iald' (pc := 201) (j := 240 * u + (4 * q) + k - (4 * m)) dX12_expand_201 (S2.arr (p := 67) rfl) (by omega) ⟨rfl, by show 240 * u + (4 * q) + k - (4 * m) < 480; omega, by decide⟩ ?_
            refine R_eqi (y := oc (ψ2 67 (240 * u + (4 * q) + k - (4 * m)))) rfl ?_
            refine R_iload (pc := 202) 0 dX12_expand_202 rfl ?_
            refine R_ixor (pc := 204) dX12_expand_204 ?_
            refine R_eqi (y := oc ((ψ2 67 (240 * u + (4 * q) + k - (4 * m))) ^^^ (ψ2 67 (240 * u + (4 * q) + k - 4)))) (oc_xor _ _) ?_
            refine R_iast' (pc := 205) (j := 240 * u + (4 * q) + k) dX12_expand_205 (S2.arr (p := 67) rfl) (by omega) ⟨rfl, by show 240 * u + (4 * q) + k < 480; omega, by decide⟩ (fun h_11 f_12 g_13 => ?_)
            have S_15 : MO h_11 (uo ψ2 67 (updB (ψ2 67) (240 * u + (4 * q) + k) ((ψ2 67 (240 * u + (4 * q) + k - (4 * m))) ^^^ (ψ2 67 (240 * u + (4 * q) + k - 4))))) z i := MO.setA (p := 67) S2 rfl f_12 g_13 (fun j_ => congrFun (upd_oc _ _ _) j_)
            have F_14 := fmA (p := 67) (okA_c (by decide)).1 g_13
            refine R_iinc (pc := 206) (j := 2) (v := nI (k + 1)) (lv' := [(9, .int (nI (k + 1))), (11, .int (oc (ψ2 67 (240 * u + (4 * q) + k - 4)))), (10, .int (nI (240 * u + (4 * q) + k))), (8, .int (nI q)), (7, .int (oc p)), (6, .int (nI (4 * (m + 7)))), (5, .int (nI (240 * u))), (4, .int (nI m)), (0, .ref 61), (1, .int (nI u)), (2, .int (nI a)), (3, .int (nI (4 * m)))]) dX12_expand_206 rfl (nI_add _ _) (by decide) rfl ?_
            refine R_goto (pc := 209) (tgt := 48) dX12_expand_209 (by decide) ?_
            refine R_sub [0, 3, 4, 5, 6, 7, 8, 9, 10, 11] rfl ?_
            have e62 : ψ2 62 = ψ 62 := hK 62 (by decide)
            have rd67 : ∀ x, x < 240 * u + 4 * q → ψ2 67 x = ψ 67 x := fun x_ hx_ => by rw [hJ, pgB_out _ _ (by omega)]
            have j1 : updB (ψ2 67) (240 * u + (4 * q) + k) ((ψ2 67 (240 * u + (4 * q) + k - (4 * m))) ^^^ (ψ2 67 (240 * u + (4 * q) + k - 4))) = pgB (exV B (fun j => ψ 62 (a + j)) m p q (fun o => ψ 67 (240 * u + o))) (ψ 67) (240 * u + 4 * q) (k + 1) := by
              have v_ : ((ψ2 67 (240 * u + (4 * q) + k - (4 * m))) ^^^ (ψ2 67 (240 * u + (4 * q) + k - 4))) = (exV B (fun j => ψ 62 (a + j)) m p q (fun o => ψ 67 (240 * u + o))) k := by
                unfold exV
                rw [if_neg (show ¬ q < m by omega)]
                rw [if_neg nc_3, rd67 _ (by omega), rd67 _ (by omega), if_neg (by omega)]
                rw [show 240 * u + 4 * q + k - 4 * m = 240 * u + (4 * q + k - 4 * m) by omega, show 240 * u + 4 * q + k - 4 = 240 * u + (4 * q + k - 4) by omega]
              rw [← pgB_up _ _ rfl v_, ← hJ]
            exact ih (k + 1) (by omega) h_11 _ S_15 (hK.up (by decide)) (j1) (hF.tr F_14)
          · skip
            have nc_10 : q % 8 = 4 := (nI_eq (a := q % 8) (b := 4) (by omega) (by omega)).mp c_10
            refine R_aload_n (pc := 175) 8 dX12_expand_175 rfl rfl ?_
            refine R_get (pc := 176) dX12_expand_176 fX12_23 S2.obj (by omega) rfl ?_
            refine R_iload (pc := 179) 0 dX12_expand_179 rfl ?_
            refine R_iald' (pc := 181) (j := (ψ2 67 (240 * u + (4 * q) + k - 4)).toNat) dX12_expand_181 (S2.arr (p := 65) rfl) (by omega) ⟨oc_nI _, (ψ2 67 (240 * u + (4 * q) + k - 4)).isLt, by decide⟩ ?_
            refine R_eqi (y := oc (ψ2 65 ((ψ2 67 (240 * u + (4 * q) + k - 4)).toNat))) rfl ?_
            refine R_eqi (y := oc (B (ψ2 67 (240 * u + (4 * q) + k - 4)))) (by rw [hK 65 (by decide)]; exact congrArg oc (hB _)) ?_
            refine R_istore (pc := 182) (lv' := [(11, .int (oc (B (ψ2 67 (240 * u + (4 * q) + k - 4))))), (10, .int (nI (240 * u + (4 * q) + k))), (9, .int (nI k)), (8, .int (nI q)), (7, .int (oc p)), (6, .int (nI (4 * (m + 7)))), (5, .int (nI (240 * u))), (4, .int (nI m)), (0, .ref 61), (1, .int (nI u)), (2, .int (nI a)), (3, .int (nI (4 * m)))]) dX12_expand_182 (by decide) rfl ?_
            refine R_aload_n (pc := 184) 8 dX12_expand_184 rfl rfl ?_
            refine R_get (pc := 185) dX12_expand_185 fX12_29 S2.obj (by omega) rfl ?_
            refine R_iload (pc := 188) 1 dX12_expand_188 rfl ?_
            refine R_aload_n (pc := 190) 8 dX12_expand_190 rfl rfl ?_
            refine R_get (pc := 191) dX12_expand_191 fX12_29 S2.obj (by omega) rfl ?_
            refine R_iload (pc := 194) 1 dX12_expand_194 rfl ?_
            refine R_iconst (pc := 196) (v := 4) dX12_expand_196 (by decide) ?_
            refine R_iload (pc := 197) 7 dX12_expand_197 rfl ?_
            refine R_imul (pc := 199) dX12_expand_199 ?_
            refine R_eqi (y := nI (4 * m)) (nI_mul 4 m) ?_
            refine R_isub (pc := 200) dX12_expand_200 ?_
            refine R_eqi (y := nI (240 * u + (4 * q) + k - (4 * m))) (nI_sb (a := 240 * u + (4 * q) + k) (b := 4 * m) (by omega)) ?_
            refine R_iald' (pc := 201) (j := 240 * u + (4 * q) + k - (4 * m)) dX12_expand_201 (S2.arr (p := 67) rfl) (by omega) ⟨rfl, by show 240 * u + (4 * q) + k - (4 * m) < 480; omega, by decide⟩ ?_
            refine R_eqi (y := oc (ψ2 67 (240 * u + (4 * q) + k - (4 * m)))) rfl ?_
            refine R_iload (pc := 202) 0 dX12_expand_202 rfl ?_
            refine R_ixor (pc := 204) dX12_expand_204 ?_
            refine R_eqi (y := oc ((ψ2 67 (240 * u + (4 * q) + k - (4 * m))) ^^^ (B (ψ2 67 (240 * u + (4 * q) + k - 4))))) (oc_xor _ _) ?_
            refine R_iast' (pc := 205) (j := 240 * u + (4 * q) + k) dX12_expand_205 (S2.arr (p := 67) rfl) (by omega) ⟨rfl, by show 240 * u + (4 * q) + k < 480; omega, by decide⟩ (fun h_16 f_17 g_18 => ?_)
            have S_20 : MO h_16 (uo ψ2 67 (updB (ψ2 67) (240 * u + (4 * q) + k) ((ψ2 67 (240 * u + (4 * q) + k - (4 * m))) ^^^ (B (ψ2 67 (240 * u + (4 * q) + k - 4)))))) z i := MO.setA (p := 67) S2 rfl f_17 g_18 (fun j_ => congrFun (upd_oc _ _ _) j_)
            have F_19 := fmA (p := 67) (okA_c (by decide)).1 g_18
            refine R_iinc (pc := 206) (j := 2) (v := nI (k + 1)) (lv' := [(9, .int (nI (k + 1))), (11, .int (oc (B (ψ2 67 (240 * u + (4 * q) + k - 4))))), (10, .int (nI (240 * u + (4 * q) + k))), (8, .int (nI q)), (7, .int (oc p)), (6, .int (nI (4 * (m + 7)))), (5, .int (nI (240 * u))), (4, .int (nI m)), (0, .ref 61), (1, .int (nI u)), (2, .int (nI a)), (3, .int (nI (4 * m)))]) dX12_expand_206 rfl (nI_add _ _) (by decide) rfl ?_
            refine R_goto (pc := 209) (tgt := 48) dX12_expand_209 (by decide) ?_
            refine R_sub [0, 3, 4, 5, 6, 7, 8, 9, 10, 11] rfl ?_
            have e62 : ψ2 62 = ψ 62 := hK 62 (by decide)
            have rd67 : ∀ x, x < 240 * u + 4 * q → ψ2 67 x = ψ 67 x := fun x_ hx_ => by rw [hJ, pgB_out _ _ (by omega)]
            have j1 : updB (ψ2 67) (240 * u + (4 * q) + k) ((ψ2 67 (240 * u + (4 * q) + k - (4 * m))) ^^^ (B (ψ2 67 (240 * u + (4 * q) + k - 4)))) = pgB (exV B (fun j => ψ 62 (a + j)) m p q (fun o => ψ 67 (240 * u + o))) (ψ 67) (240 * u + 4 * q) (k + 1) := by
              have v_ : ((ψ2 67 (240 * u + (4 * q) + k - (4 * m))) ^^^ (B (ψ2 67 (240 * u + (4 * q) + k - 4)))) = (exV B (fun j => ψ 62 (a + j)) m p q (fun o => ψ 67 (240 * u + o))) k := by
                unfold exV
                rw [if_neg (show ¬ q < m by omega)]
                rw [if_neg nc_3, rd67 _ (by omega), rd67 _ (by omega), if_pos (by omega)]
                rw [show 240 * u + 4 * q + k - 4 * m = 240 * u + (4 * q + k - 4 * m) by omega, show 240 * u + 4 * q + k - 4 = 240 * u + (4 * q + k - 4) by omega]
              rw [← pgB_up _ _ rfl v_, ← hJ]
            exact ih (k + 1) (by omega) h_16 _ S_20 (hK.up (by decide)) (j1) (hF.tr F_19)
      · skip
        have nc_3 : q % m = 0 := (nI_eq (a := q % m) (b := 0) (by omega) (by omega)).mp c_3
        refine R_aload_n (pc := 116) 8 dX12_expand_116 rfl rfl ?_
        refine R_get (pc := 117) dX12_expand_117 fX12_23 S2.obj (by omega) rfl ?_
        refine R_aload_n (pc := 120) 8 dX12_expand_120 rfl rfl ?_
        refine R_get (pc := 121) dX12_expand_121 fX12_29 S2.obj (by omega) rfl ?_
        refine R_iload (pc := 124) 6 dX12_expand_124 rfl ?_
        refine R_iconst (pc := 126) (v := 4) dX12_expand_126 (by decide) ?_
        refine R_iload (pc := 127) 3 dX12_expand_127 rfl ?_
        refine R_iconst (pc := 129) (v := 1) dX12_expand_129 (by decide) ?_
        refine R_isub (pc := 130) dX12_expand_130 ?_
        refine R_eqi (y := nI (q - 1)) (nI_sb (a := q) (b := 1) (by omega)) ?_
        refine R_imul (pc := 131) dX12_expand_131 ?_
        refine R_eqi (y := nI (4 * (q - 1))) (nI_mul 4 (q - 1)) ?_
        refine R_iadd (pc := 132) dX12_expand_132 ?_
        refine R_eqi (y := nI (240 * u + (4 * (q - 1)))) (nI_add (240 * u) (4 * (q - 1))) ?_
        refine R_iload (pc := 133) 2 dX12_expand_133 rfl ?_
        refine R_iconst (pc := 135) (v := 1) dX12_expand_135 (by decide) ?_
        refine R_iadd (pc := 136) dX12_expand_136 ?_
        refine R_eqi (y := nI (k + 1)) (nI_add k 1) ?_
        refine R_iconst (pc := 137) (v := 4) dX12_expand_137 (by decide) ?_
        refine R_irem (pc := 138) dX12_expand_138 (by decide) ?_
        refine R_eqi (y := nI ((k + 1) % 4)) (nI_rem (a := k + 1) (b := 4) (by omega) (by omega)) ?_
        refine R_iadd (pc := 139) dX12_expand_139 ?_
        refine R_eqi (y := nI (240 * u + (4 * (q - 1)) + ((k + 1) % 4))) (nI_add (240 * u + (4 * (q - 1))) ((k + 1) % 4)) ?_
        refine R_iald' (pc := 140) (j := 240 * u + (4 * (q - 1)) + ((k + 1) % 4)) dX12_expand_140 (S2.arr (p := 67) rfl) (by omega) ⟨rfl, by show 240 * u + (4 * (q - 1)) + ((k + 1) % 4) < 480; omega, by decide⟩ ?_
        refine R_eqi (y := oc (ψ2 67 (240 * u + (4 * (q - 1)) + ((k + 1) % 4)))) rfl ?_
        refine R_iald' (pc := 141) (j := (ψ2 67 (240 * u + (4 * (q - 1)) + ((k + 1) % 4))).toNat) dX12_expand_141 (S2.arr (p := 65) rfl) (by omega) ⟨oc_nI _, (ψ2 67 (240 * u + (4 * (q - 1)) + ((k + 1) % 4))).isLt, by decide⟩ ?_
        refine R_eqi (y := oc (ψ2 65 ((ψ2 67 (240 * u + (4 * (q - 1)) + ((k + 1) % 4))).toNat))) rfl ?_
        refine R_eqi (y := oc (B (ψ2 67 (240 * u + (4 * (q - 1)) + ((k + 1) % 4))))) (by rw [hK 65 (by decide)]; exact congrArg oc (hB _)) ?_
        refine R_iload (pc := 142) 2 dX12_expand_142 rfl ?_
        refine R_if_ne (pc := 144) (tgt := 152) dX12_expand_144 (by decide) (fun c_21 => ?_) (fun c_21 => ?_)
        · skip
          have nc_21 : ¬ (k = 0) := fun q_ => c_21 ((nI_eq (a := k) (b := 0) (by omega) (by omega)).mpr q_)
          refine R_iconst (pc := 152) (v := 0) dX12_expand_152 (by decide) ?_
          refine R_eqi (y := oc 0) (oc_0.symm) ?_
          refine R_ixor (pc := 153) dX12_expand_153 ?_
          refine R_eqi (y := oc ((B (ψ2 67 (240 * u + (4 * (q - 1)) + ((k + 1) % 4)))) ^^^ 0)) (oc_xor _ _) ?_
          refine R_istore (pc := 154) (lv' := [(11, .int (oc ((B (ψ2 67 (240 * u + (4 * (q - 1)) + ((k + 1) % 4)))) ^^^ 0))), (10, .int (nI (240 * u + (4 * q) + k))), (9, .int (nI k)), (8, .int (nI q)), (7, .int (oc p)), (6, .int (nI (4 * (m + 7)))), (5, .int (nI (240 * u))), (4, .int (nI m)), (0, .ref 61), (1, .int (nI u)), (2, .int (nI a)), (3, .int (nI (4 * m)))]) dX12_expand_154 (by decide) rfl ?_
          refine R_goto (pc := 156) (tgt := 184) dX12_expand_156 (by decide) ?_
          refine R_aload_n (pc := 184) 8 dX12_expand_184 rfl rfl ?_
          refine R_get (pc := 185) dX12_expand_185 fX12_29 S2.obj (by omega) rfl ?_
          refine R_iload (pc := 188) 1 dX12_expand_188 rfl ?_
          refine R_aload_n (pc := 190) 8 dX12_expand_190 rfl rfl ?_
          refine R_get (pc := 191) dX12_expand_191 fX12_29 S2.obj (by omega) rfl ?_
          refine R_iload (pc := 194) 1 dX12_expand_194 rfl ?_
          refine R_iconst (pc := 196) (v := 4) dX12_expand_196 (by decide) ?_
          refine R_iload (pc := 197) 7 dX12_expand_197 rfl ?_
          refine R_imul (pc := 199) dX12_expand_199 ?_
          refine R_eqi (y := nI (4 * m)) (nI_mul 4 m) ?_
          refine R_isub (pc := 200) dX12_expand_200 ?_
          refine R_eqi (y := nI (240 * u + (4 * q) + k - (4 * m))) (nI_sb (a := 240 * u + (4 * q) + k) (b := 4 * m) (by omega)) ?_
          refine R_iald' (pc := 201) (j := 240 * u + (4 * q) + k - (4 * m)) dX12_expand_201 (S2.arr (p := 67) rfl) (by omega) ⟨rfl, by show 240 * u + (4 * q) + k - (4 * m) < 480; omega, by decide⟩ ?_
          refine R_eqi (y := oc (ψ2 67 (240 * u + (4 * q) + k - (4 * m)))) rfl ?_
          refine R_iload (pc := 202) 0 dX12_expand_202 rfl ?_
          refine R_ixor (pc := 204) dX12_expand_204 ?_
          refine R_eqi (y := oc ((ψ2 67 (240 * u + (4 * q) + k - (4 * m))) ^^^ ((B (ψ2 67 (240 * u + (4 * (q - 1)) + ((k + 1) % 4)))) ^^^ 0))) (oc_xor _ _) ?_
          refine R_iast' (pc := 205) (j := 240 * u + (4 * q) + k) dX12_expand_205 (S2.arr (p := 67) rfl) (by omega) ⟨rfl, by show 240 * u + (4 * q) + k < 480; omega, by decide⟩ (fun h_22 f_23 g_24 => ?_)
          have S_26 : MO h_22 (uo ψ2 67 (updB (ψ2 67) (240 * u + (4 * q) + k) ((ψ2 67 (240 * u + (4 * q) + k - (4 * m))) ^^^ ((B (ψ2 67 (240 * u + (4 * (q - 1)) + ((k + 1) % 4)))) ^^^ 0)))) z i := MO.setA (p := 67) S2 rfl f_23 g_24 (fun j_ => congrFun (upd_oc _ _ _) j_)
          have F_25 := fmA (p := 67) (okA_c (by decide)).1 g_24
          refine R_iinc (pc := 206) (j := 2) (v := nI (k + 1)) (lv' := [(9, .int (nI (k + 1))), (11, .int (oc ((B (ψ2 67 (240 * u + (4 * (q - 1)) + ((k + 1) % 4)))) ^^^ 0))), (10, .int (nI (240 * u + (4 * q) + k))), (8, .int (nI q)), (7, .int (oc p)), (6, .int (nI (4 * (m + 7)))), (5, .int (nI (240 * u))), (4, .int (nI m)), (0, .ref 61), (1, .int (nI u)), (2, .int (nI a)), (3, .int (nI (4 * m)))]) dX12_expand_206 rfl (nI_add _ _) (by decide) rfl ?_
          refine R_goto (pc := 209) (tgt := 48) dX12_expand_209 (by decide) ?_
          refine R_sub [0, 3, 4, 5, 6, 7, 8, 9, 10, 11] rfl ?_
          have e62 : ψ2 62 = ψ 62 := hK 62 (by decide)
          have rd67 : ∀ x, x < 240 * u + 4 * q → ψ2 67 x = ψ 67 x := fun x_ hx_ => by rw [hJ, pgB_out _ _ (by omega)]
          have j1 : updB (ψ2 67) (240 * u + (4 * q) + k) ((ψ2 67 (240 * u + (4 * q) + k - (4 * m))) ^^^ ((B (ψ2 67 (240 * u + (4 * (q - 1)) + ((k + 1) % 4)))) ^^^ 0)) = pgB (exV B (fun j => ψ 62 (a + j)) m p q (fun o => ψ 67 (240 * u + o))) (ψ 67) (240 * u + 4 * q) (k + 1) := by
            have v_ : ((ψ2 67 (240 * u + (4 * q) + k - (4 * m))) ^^^ ((B (ψ2 67 (240 * u + (4 * (q - 1)) + ((k + 1) % 4)))) ^^^ 0)) = (exV B (fun j => ψ 62 (a + j)) m p q (fun o => ψ 67 (240 * u + o))) k := by
              unfold exV
              rw [if_neg (show ¬ q < m by omega)]
              rw [if_pos nc_3, rd67 _ (by omega), rd67 _ (by omega), if_neg nc_21]
              rw [show 240 * u + 4 * q + k - 4 * m = 240 * u + (4 * q + k - 4 * m) by omega, show 240 * u + 4 * (q - 1) + (k + 1) % 4 = 240 * u + (4 * (q - 1) + (k + 1) % 4) by omega]
            rw [← pgB_up _ _ rfl v_, ← hJ]
          exact ih (k + 1) (by omega) h_22 _ S_26 (hK.up (by decide)) (j1) (hF.tr F_25)
        · skip
          have nc_21 : k = 0 := (nI_eq (a := k) (b := 0) (by omega) (by omega)).mp c_21
          refine R_iload (pc := 147) 4 dX12_expand_147 rfl ?_
          refine R_goto (pc := 149) (tgt := 153) dX12_expand_149 (by decide) ?_
          refine R_ixor (pc := 153) dX12_expand_153 ?_
          refine R_eqi (y := oc ((B (ψ2 67 (240 * u + (4 * (q - 1)) + ((k + 1) % 4)))) ^^^ p)) (oc_xor _ _) ?_
          refine R_istore (pc := 154) (lv' := [(11, .int (oc ((B (ψ2 67 (240 * u + (4 * (q - 1)) + ((k + 1) % 4)))) ^^^ p))), (10, .int (nI (240 * u + (4 * q) + k))), (9, .int (nI k)), (8, .int (nI q)), (7, .int (oc p)), (6, .int (nI (4 * (m + 7)))), (5, .int (nI (240 * u))), (4, .int (nI m)), (0, .ref 61), (1, .int (nI u)), (2, .int (nI a)), (3, .int (nI (4 * m)))]) dX12_expand_154 (by decide) rfl ?_
          refine R_goto (pc := 156) (tgt := 184) dX12_expand_156 (by decide) ?_
          refine R_aload_n (pc := 184) 8 dX12_expand_184 rfl rfl ?_
          refine R_get (pc := 185) dX12_expand_185 fX12_29 S2.obj (by omega) rfl ?_
          refine R_iload (pc := 188) 1 dX12_expand_188 rfl ?_
          refine R_aload_n (pc := 190) 8 dX12_expand_190 rfl rfl ?_
          refine R_get (pc := 191) dX12_expand_191 fX12_29 S2.obj (by omega) rfl ?_
          refine R_iload (pc := 194) 1 dX12_expand_194 rfl ?_
          refine R_iconst (pc := 196) (v := 4) dX12_expand_196 (by decide) ?_
          refine R_iload (pc := 197) 7 dX12_expand_197 rfl ?_
          refine R_imul (pc := 199) dX12_expand_199 ?_
          refine R_eqi (y := nI (4 * m)) (nI_mul 4 m) ?_
          refine R_isub (pc := 200) dX12_expand_200 ?_
          refine R_eqi (y := nI (240 * u + (4 * q) + k - (4 * m))) (nI_sb (a := 240 * u + (4 * q) + k) (b := 4 * m) (by omega)) ?_
          refine R_iald' (pc := 201) (j := 240 * u + (4 * q) + k - (4 * m)) dX12_expand_201 (S2.arr (p := 67) rfl) (by omega) ⟨rfl, by show 240 * u + (4 * q) + k - (4 * m) < 480; omega, by decide⟩ ?_
          refine R_eqi (y := oc (ψ2 67 (240 * u + (4 * q) + k - (4 * m)))) rfl ?_
          refine R_iload (pc := 202) 0 dX12_expand_202 rfl ?_
          refine R_ixor (pc := 204) dX12_expand_204 ?_
          refine R_eqi (y := oc ((ψ2 67 (240 * u + (4 * q) + k - (4 * m))) ^^^ ((B (ψ2 67 (240 * u + (4 * (q - 1)) + ((k + 1) % 4)))) ^^^ p))) (oc_xor _ _) ?_
          refine R_iast' (pc := 205) (j := 240 * u + (4 * q) + k) dX12_expand_205 (S2.arr (p := 67) rfl) (by omega) ⟨rfl, by show 240 * u + (4 * q) + k < 480; omega, by decide⟩ (fun h_27 f_28 g_29 => ?_)
          have S_31 : MO h_27 (uo ψ2 67 (updB (ψ2 67) (240 * u + (4 * q) + k) ((ψ2 67 (240 * u + (4 * q) + k - (4 * m))) ^^^ ((B (ψ2 67 (240 * u + (4 * (q - 1)) + ((k + 1) % 4)))) ^^^ p)))) z i := MO.setA (p := 67) S2 rfl f_28 g_29 (fun j_ => congrFun (upd_oc _ _ _) j_)
          have F_30 := fmA (p := 67) (okA_c (by decide)).1 g_29
          refine R_iinc (pc := 206) (j := 2) (v := nI (k + 1)) (lv' := [(9, .int (nI (k + 1))), (11, .int (oc ((B (ψ2 67 (240 * u + (4 * (q - 1)) + ((k + 1) % 4)))) ^^^ p))), (10, .int (nI (240 * u + (4 * q) + k))), (8, .int (nI q)), (7, .int (oc p)), (6, .int (nI (4 * (m + 7)))), (5, .int (nI (240 * u))), (4, .int (nI m)), (0, .ref 61), (1, .int (nI u)), (2, .int (nI a)), (3, .int (nI (4 * m)))]) dX12_expand_206 rfl (nI_add _ _) (by decide) rfl ?_
          refine R_goto (pc := 209) (tgt := 48) dX12_expand_209 (by decide) ?_
          refine R_sub [0, 3, 4, 5, 6, 7, 8, 9, 10, 11] rfl ?_
          have e62 : ψ2 62 = ψ 62 := hK 62 (by decide)
          have rd67 : ∀ x, x < 240 * u + 4 * q → ψ2 67 x = ψ 67 x := fun x_ hx_ => by rw [hJ, pgB_out _ _ (by omega)]
          have j1 : updB (ψ2 67) (240 * u + (4 * q) + k) ((ψ2 67 (240 * u + (4 * q) + k - (4 * m))) ^^^ ((B (ψ2 67 (240 * u + (4 * (q - 1)) + ((k + 1) % 4)))) ^^^ p)) = pgB (exV B (fun j => ψ 62 (a + j)) m p q (fun o => ψ 67 (240 * u + o))) (ψ 67) (240 * u + 4 * q) (k + 1) := by
            have v_ : ((ψ2 67 (240 * u + (4 * q) + k - (4 * m))) ^^^ ((B (ψ2 67 (240 * u + (4 * (q - 1)) + ((k + 1) % 4)))) ^^^ p)) = (exV B (fun j => ψ 62 (a + j)) m p q (fun o => ψ 67 (240 * u + o))) k := by
              unfold exV
              rw [if_neg (show ¬ q < m by omega)]
              rw [if_pos nc_3, rd67 _ (by omega), rd67 _ (by omega), if_pos nc_21]
              rw [show 240 * u + 4 * q + k - 4 * m = 240 * u + (4 * q + k - 4 * m) by omega, show 240 * u + 4 * (q - 1) + (k + 1) % 4 = 240 * u + (4 * (q - 1) + (k + 1) % 4) by omega]
            rw [← pgB_up _ _ rfl v_, ← hJ]
          exact ih (k + 1) (by omega) h_27 _ S_31 (hK.up (by decide)) (j1) (hF.tr F_30)
    · skip
      have nc_2 : ¬ (m ≤ q) := fun q_ => c_2 ((nI_leI (a := m) (b := q) (by omega) (by omega)).mpr q_)
      refine R_aload_n (pc := 73) 7 dX12_expand_73 rfl rfl ?_
      refine R_get (pc := 74) dX12_expand_74 fX12_29 S2.obj (by omega) rfl ?_
      refine R_iload (pc := 77) 0 dX12_expand_77 rfl ?_
      refine R_aload_n (pc := 79) 7 dX12_expand_79 rfl rfl ?_
      refine R_get (pc := 80) dX12_expand_80 fX12_7 S2.obj (by omega) rfl ?_
      refine R_iload_n (pc := 83) 9 dX12_expand_83 rfl rfl ?_
      refine R_iconst (pc := 84) (v := 4) dX12_expand_84 (by decide) ?_
      refine R_iload (pc := 85) 2 dX12_expand_85 rfl ?_
      refine R_imul (pc := 87) dX12_expand_87 ?_
      refine R_eqi (y := nI (4 * q)) (nI_mul 4 q) ?_
      refine R_iadd (pc := 88) dX12_expand_88 ?_
      refine R_eqi (y := nI (a + (4 * q))) (nI_add a (4 * q)) ?_
      refine R_iload (pc := 89) 1 dX12_expand_89 rfl ?_
      refine R_iadd (pc := 91) dX12_expand_91 ?_
      refine R_eqi (y := nI (a + (4 * q) + k)) (nI_add (a + (4 * q)) k) ?_
      refine R_iald' (pc := 92) (j := a + (4 * q) + k) dX12_expand_92 (S2.arr (p := 62) rfl) (by omega) ⟨rfl, by show a + (4 * q) + k < 2048; omega, by decide⟩ ?_
      refine R_eqi (y := oc (ψ2 62 (a + (4 * q) + k))) rfl ?_
      refine R_iast' (pc := 93) (j := 240 * u + (4 * q) + k) dX12_expand_93 (S2.arr (p := 67) rfl) (by omega) ⟨rfl, by show 240 * u + (4 * q) + k < 480; omega, by decide⟩ (fun h_32 f_33 g_34 => ?_)
      have S_36 : MO h_32 (uo ψ2 67 (updB (ψ2 67) (240 * u + (4 * q) + k) (ψ2 62 (a + (4 * q) + k)))) z i := MO.setA (p := 67) S2 rfl f_33 g_34 (fun j_ => congrFun (upd_oc _ _ _) j_)
      have F_35 := fmA (p := 67) (okA_c (by decide)).1 g_34
      refine R_goto (pc := 94) (tgt := 206) dX12_expand_94 (by decide) ?_
      refine R_iinc (pc := 206) (j := 1) (v := nI (k + 1)) (lv' := [(9, .int (nI (k + 1))), (10, .int (nI (240 * u + (4 * q) + k))), (8, .int (nI q)), (7, .int (oc p)), (6, .int (nI (4 * (m + 7)))), (5, .int (nI (240 * u))), (4, .int (nI m)), (0, .ref 61), (1, .int (nI u)), (2, .int (nI a)), (3, .int (nI (4 * m)))]) dX12_expand_206 rfl (nI_add _ _) (by decide) rfl ?_
      refine R_goto (pc := 209) (tgt := 48) dX12_expand_209 (by decide) ?_
      refine R_sub [0, 2, 3, 4, 5, 6, 7, 8, 9, 10] rfl ?_
      have e62 : ψ2 62 = ψ 62 := hK 62 (by decide)
      have rd67 : ∀ x, x < 240 * u + 4 * q → ψ2 67 x = ψ 67 x := fun x_ hx_ => by rw [hJ, pgB_out _ _ (by omega)]
      have j1 : updB (ψ2 67) (240 * u + (4 * q) + k) (ψ2 62 (a + (4 * q) + k)) = pgB (exV B (fun j => ψ 62 (a + j)) m p q (fun o => ψ 67 (240 * u + o))) (ψ 67) (240 * u + 4 * q) (k + 1) := by
        have v_ : (ψ2 62 (a + (4 * q) + k)) = (exV B (fun j => ψ 62 (a + j)) m p q (fun o => ψ 67 (240 * u + o))) k := by
          unfold exV
          rw [if_pos (by omega), e62, Nat.add_assoc]
        rw [← pgB_up _ _ rfl v_, ← hJ]
      exact ih (k + 1) (by omega) h_32 _ S_36 (hK.up (by decide)) (j1) (hF.tr F_35)
set_option maxHeartbeats 1000000 in
set_option maxRecDepth 100000 in
theorem qX12_expand_out {l : Launch} {w : am_W} {h : am_H} {n : Nat} {ψ : Nat → oA} {z : fA} {i : mI} (hn : 90 ≤ n) (u a m : Nat) (hu : u < 2) (ha : a ≤ 32) (hm : m = 4 ∨ m = 6 ∨ m = 8) (B : BitVec 8 → BitVec 8) (hB : ∀ v : BitVec 8, ψ 65 v.toNat = B v) {Q : am_H → Nat → Option Value → Prop} (kk : ∀ h2 ψ2, MO h2 ψ2 z i → FR [67] ψ ψ2 → ψ2 67 = pgB (exN B (fun j => ψ 62 (a + j)) m (4 * (m + 7))) (ψ 67) (240 * u) (4 * (4 * (m + 7))) → FM h h2 → RW l w mX12_expand h2 n 0 0 246 [(8, .int (nI (4 * (m + 7)))), (7, .int (oc (pwN m (4 * (m + 7))))), (6, .int (nI (4 * (m + 7)))), (5, .int (nI (240 * u))), (4, .int (nI m)), (0, .ref 61), (1, .int (nI u)), (2, .int (nI a)), (3, .int (nI (4 * m)))] [] Q) : ∀ (dd k : Nat), k + dd = 4 * (m + 7) → ∀ h2 ψ2, MO h2 ψ2 z i → FR [67] ψ ψ2 → ψ2 67 = pgB (exN B (fun j => ψ 62 (a + j)) m k) (ψ 67) (240 * u) (4 * k) → FM h h2 → RW l w mX12_expand h2 n 0 0 38 [(8, .int (nI k)), (7, .int (oc (pwN m k))), (6, .int (nI (4 * (m + 7)))), (5, .int (nI (240 * u))), (4, .int (nI m)), (0, .ref 61), (1, .int (nI u)), (2, .int (nI a)), (3, .int (nI (4 * m)))] [] Q := by
  have hm8 : 4 ≤ m ∧ m ≤ 8 := by omega
  intro dd
  induction dd with
  | zero =>
    intro k hd h2 ψ2 S2 hK hJ hF
    refine R_iload (pc := 38) 0 dX12_expand_38 rfl ?_
    refine R_iload (pc := 40) 2 dX12_expand_40 rfl ?_
    refine R_icmp_ge (pc := 42) (tgt := 246) dX12_expand_42 (by decide) (fun c_1 => ?_) (fun c_1 => absurd (nI_le (a := 4 * (m + 7)) (b := k) (by omega) (by omega)) c_1)
    obtain rfl : k = 4 * (m + 7) := by omega
    exact kk h2 ψ2 S2 hK hJ hF
  | succ dd ih =>
    intro k hd h2 ψ2 S2 hK hJ hF
    have hkm : k % m < m := Nat.mod_lt _ (by omega)
    refine R_iload (pc := 38) 0 dX12_expand_38 rfl ?_
    refine R_iload (pc := 40) 2 dX12_expand_40 rfl ?_
    refine R_icmp_ge (pc := 42) (tgt := 246) dX12_expand_42 (by decide) (fun c_1 => absurd c_1 (nI_ge (a := k) (b := 4 * (m + 7)) (by omega) (by omega))) (fun c_1 => ?_)
    refine R_iconst (pc := 45) (v := 0) dX12_expand_45 (by decide) ?_
    refine R_istore (pc := 46) (lv' := [(9, .int 0), (8, .int (nI k)), (7, .int (oc (pwN m k))), (6, .int (nI (4 * (m + 7)))), (5, .int (nI (240 * u))), (4, .int (nI m)), (0, .ref 61), (1, .int (nI u)), (2, .int (nI a)), (3, .int (nI (4 * m)))]) dX12_expand_46 (by decide) rfl ?_
    refine R_sub [0, 1, 2, 3, 4, 5, 6, 7, 8, 9] rfl ?_
    refine qX12_expand_in (h := h) (ψ := ψ2) hn u a m hu ha hm B (fun v_ => by rw [hK 65 (by decide)]; exact hB v_) (pwN m k) k (by omega) (fun h3 ψ3 S3 hK3 hJ3 hF3 => ?_) 4 0 (by omega) h2 ψ2 S2 (FR.rf _ _) (pgB_0 _ _ _).symm hF
    have j3 : ψ3 67 = pgB (exN B (fun j => ψ 62 (a + j)) m (k + 1)) (ψ 67) (240 * u) (4 * (k + 1)) := by
      have e62 : ψ2 62 = ψ 62 := hK 62 (by decide)
      rw [hJ3, e62, hJ]
      funext x_
      by_cases c1 : 240 * u + 4 * k ≤ x_ ∧ x_ < 240 * u + 4 * k + 4
      · rw [pgB_in _ _ c1.1 c1.2, pgB_in _ _ (by omega) (by omega)]
        show _ = pgB _ _ (4 * k) 4 (x_ - 240 * u)
        rw [pgB_in _ _ (by omega) (by omega), show x_ - 240 * u - 4 * k = x_ - (240 * u + 4 * k) by omega]
        exact exV_cg B _ (by omega) _ (fun j_ hj_ => by rw [pgB_in _ _ (by omega) (by omega), Nat.add_sub_cancel_left]) (by omega)
      · rw [pgB_out _ _ (by omega)]
        by_cases c2 : 240 * u ≤ x_ ∧ x_ < 240 * u + 4 * k
        · rw [pgB_in _ _ c2.1 c2.2, pgB_in _ _ (by omega) (by omega)]
          show _ = pgB _ _ (4 * k) 4 (x_ - 240 * u)
          rw [pgB_out _ _ (by omega)]
        · rw [pgB_out _ _ (by omega), pgB_out _ _ (by omega)]
    refine R_iload (pc := 212) 1 dX12_expand_212 rfl ?_
    refine R_iload (pc := 214) 5 dX12_expand_214 rfl ?_
    refine R_icmp_lt (pc := 216) (tgt := 236) dX12_expand_216 (by decide) (fun c_2 => ?_) (fun c_2 => ?_)
    · skip
      have nc_2 : k < m := (nI_ltI (a := k) (b := m) (by omega) (by omega)).mp c_2
      refine R_iload (pc := 236) 2 dX12_expand_236 rfl ?_
      refine R_eqi (y := oc (pwN m (k + 1))) (by
        rw [show pwN m (k + 1) = pwN m k from if_neg (by omega)]) ?_
      refine R_istore (pc := 238) (lv' := [(7, .int (oc (pwN m (k + 1)))), (9, .int (nI 4)), (8, .int (nI k)), (6, .int (nI (4 * (m + 7)))), (5, .int (nI (240 * u))), (4, .int (nI m)), (0, .ref 61), (1, .int (nI u)), (2, .int (nI a)), (3, .int (nI (4 * m)))]) dX12_expand_238 (by decide) rfl ?_
      refine R_iinc (pc := 240) (j := 2) (v := nI (k + 1)) (lv' := [(8, .int (nI (k + 1))), (7, .int (oc (pwN m (k + 1)))), (9, .int (nI 4)), (6, .int (nI (4 * (m + 7)))), (5, .int (nI (240 * u))), (4, .int (nI m)), (0, .ref 61), (1, .int (nI u)), (2, .int (nI a)), (3, .int (nI (4 * m)))]) dX12_expand_240 rfl (nI_add _ _) (by decide) rfl ?_
      refine R_goto (pc := 243) (tgt := 38) dX12_expand_243 (by decide) ?_
      refine R_sub [0, 1, 3, 4, 5, 6, 7, 8, 9] rfl ?_
      exact ih (k + 1) (by omega) h3 _ S3 (hK.tr hK3 (by decide)) (j3) hF3
    · skip
      have nc_2 : ¬ (k < m) := fun q_ => c_2 ((nI_ltI (a := k) (b := m) (by omega) (by omega)).mpr q_)
      refine R_iload (pc := 219) 1 dX12_expand_219 rfl ?_
      refine R_iload (pc := 221) 5 dX12_expand_221 rfl ?_
      refine R_irem (pc := 223) dX12_expand_223 (nI_ne0 (by omega) (by omega)) ?_
      refine R_eqi (y := nI (k % m)) (nI_rem (a := k) (b := m) (by omega) (by omega)) ?_
      refine R_if_ne (pc := 224) (tgt := 236) dX12_expand_224 (by decide) (fun c_3 => ?_) (fun c_3 => ?_)
      · skip
        have nc_3 : ¬ (k % m = 0) := fun q_ => c_3 ((nI_eq (a := k % m) (b := 0) (by omega) (by omega)).mpr q_)
        refine R_iload (pc := 236) 2 dX12_expand_236 rfl ?_
        refine R_eqi (y := oc (pwN m (k + 1))) (by
          rw [show pwN m (k + 1) = pwN m k from if_neg (fun q_ => nc_3 q_.2)]) ?_
        refine R_istore (pc := 238) (lv' := [(7, .int (oc (pwN m (k + 1)))), (9, .int (nI 4)), (8, .int (nI k)), (6, .int (nI (4 * (m + 7)))), (5, .int (nI (240 * u))), (4, .int (nI m)), (0, .ref 61), (1, .int (nI u)), (2, .int (nI a)), (3, .int (nI (4 * m)))]) dX12_expand_238 (by decide) rfl ?_
        refine R_iinc (pc := 240) (j := 2) (v := nI (k + 1)) (lv' := [(8, .int (nI (k + 1))), (7, .int (oc (pwN m (k + 1)))), (9, .int (nI 4)), (6, .int (nI (4 * (m + 7)))), (5, .int (nI (240 * u))), (4, .int (nI m)), (0, .ref 61), (1, .int (nI u)), (2, .int (nI a)), (3, .int (nI (4 * m)))]) dX12_expand_240 rfl (nI_add _ _) (by decide) rfl ?_
        refine R_goto (pc := 243) (tgt := 38) dX12_expand_243 (by decide) ?_
        refine R_sub [0, 1, 3, 4, 5, 6, 7, 8, 9] rfl ?_
        exact ih (k + 1) (by omega) h3 _ S3 (hK.tr hK3 (by decide)) (j3) hF3
      · skip
        have nc_3 : k % m = 0 := (nI_eq (a := k % m) (b := 0) (by omega) (by omega)).mp c_3
        refine R_iload (pc := 227) 2 dX12_expand_227 rfl ?_
        refine R_iconst (pc := 229) (v := 2) dX12_expand_229 (by decide) ?_
        refine R_callSp (pc := 230) (μ' := mX12_times) (As := [.int (oc (pwN m k)), .int 2]) (st := []) dX12_expand_230 zX12_times lX12_101 ⟨by decide, by decide⟩ rfl rfl ⟨by decide, by decide⟩ rfl (Nat.le_of_ble_eq_true rfl) (qX12_times l w _ _ _ _) ?_
        refine R_eqi (y := oc (gB (pwN m k) 2)) (tm_ok _ (by unfold cOk; decide)) ?_
        refine R_goto (pc := 233) (tgt := 238) dX12_expand_233 (by decide) ?_
        refine R_eqi (y := oc (pwN m (k + 1))) (by
          rw [show pwN m (k + 1) = gB (pwN m k) 2 from if_pos ⟨by omega, nc_3⟩]) ?_
        refine R_istore (pc := 238) (lv' := [(7, .int (oc (pwN m (k + 1)))), (9, .int (nI 4)), (8, .int (nI k)), (6, .int (nI (4 * (m + 7)))), (5, .int (nI (240 * u))), (4, .int (nI m)), (0, .ref 61), (1, .int (nI u)), (2, .int (nI a)), (3, .int (nI (4 * m)))]) dX12_expand_238 (by decide) rfl ?_
        refine R_iinc (pc := 240) (j := 2) (v := nI (k + 1)) (lv' := [(8, .int (nI (k + 1))), (7, .int (oc (pwN m (k + 1)))), (9, .int (nI 4)), (6, .int (nI (4 * (m + 7)))), (5, .int (nI (240 * u))), (4, .int (nI m)), (0, .ref 61), (1, .int (nI u)), (2, .int (nI a)), (3, .int (nI (4 * m)))]) dX12_expand_240 rfl (nI_add _ _) (by decide) rfl ?_
        refine R_goto (pc := 243) (tgt := 38) dX12_expand_243 (by decide) ?_
        refine R_sub [0, 1, 3, 4, 5, 6, 7, 8, 9] rfl ?_
        exact ih (k + 1) (by omega) h3 _ S3 (hK.tr hK3 (by decide)) (j3) hF3
set_option maxHeartbeats 1000000 in
set_option maxRecDepth 100000 in
theorem oX12_expand {l : Launch} {w : am_W} {h : am_H} {n : Nat} {ψ : Nat → oA} {z : fA} {i : mI} (S : MO h ψ z i) (hn : 90 ≤ n) (u a m : Nat) (hu : u < 2) (ha : a ≤ 32) (hm : m = 4 ∨ m = 6 ∨ m = 8) (B : BitVec 8 → BitVec 8) (hB : ∀ v : BitVec 8, ψ 65 v.toNat = B v) : RH l w mX12_expand h n [.ref 61, .int (nI u), .int (nI a), .int (nI (4 * m))] (fun h2 q => ∃ ψ2, q = none ∧ MO h2 ψ2 z i ∧ FR [67, 68] ψ ψ2 ∧ (ψ2 67 = pgB (exN B (fun j => ψ 62 (a + j)) m (4 * (m + 7))) (ψ 67) (240 * u) (4 * (4 * (m + 7))) ∧ ψ2 68 = updB (ψ 68) u (t8 (nI (m + 6)))) ∧ FM h h2) := by
  refine RC.of [(0, .ref 61), (1, .int (nI u)), (2, .int (nI a)), (3, .int (nI (4 * m)))] (by decide +kernel) rfl (Nat.le_of_ble_eq_true rfl) ?_
  have hm8 : 4 ≤ m ∧ m ≤ 8 := by omega
  refine R_iload_n (pc := 0) 3 dX12_expand_0 rfl rfl ?_
  refine R_iconst (pc := 1) (v := 4) dX12_expand_1 (by decide) ?_
  refine R_idiv (pc := 2) dX12_expand_2 (by decide) ?_
  refine R_eqi (y := nI m) ((nI_div (a := 4 * m) (b := 4) (by omega) (by omega)).trans (congrArg nI (by omega))) ?_
  refine R_istore (pc := 3) (lv' := [(4, .int (nI m)), (0, .ref 61), (1, .int (nI u)), (2, .int (nI a)), (3, .int (nI (4 * m)))]) dX12_expand_3 (by decide) rfl ?_
  refine R_sipush (pc := 5) (v := 240) dX12_expand_5 (by decide) ?_
  refine R_iload_n (pc := 8) 2 dX12_expand_8 rfl rfl ?_
  refine R_imul (pc := 9) dX12_expand_9 ?_
  refine R_eqi (y := nI (240 * u)) (nI_mul 240 u) ?_
  refine R_istore (pc := 10) (lv' := [(5, .int (nI (240 * u))), (4, .int (nI m)), (0, .ref 61), (1, .int (nI u)), (2, .int (nI a)), (3, .int (nI (4 * m)))]) dX12_expand_10 (by decide) rfl ?_
  refine R_aload_n (pc := 12) 2 dX12_expand_12 rfl rfl ?_
  refine R_get (pc := 13) dX12_expand_13 fX12_32 S.obj (by omega) rfl ?_
  refine R_iload_n (pc := 16) 3 dX12_expand_16 rfl rfl ?_
  refine R_iload (pc := 17) 1 dX12_expand_17 rfl ?_
  refine R_bipush (pc := 19) (v := 6) dX12_expand_19 (by decide) ?_
  refine R_iadd (pc := 21) dX12_expand_21 ?_
  refine R_eqi (y := oc (t8 (nI (m + 6)))) ((nI_add m 6).trans (ocN (by omega))) ?_
  refine R_iast' (pc := 22) (j := u) dX12_expand_22 (S.arr (p := 68) rfl) (by omega) ⟨rfl, by show u < 2; omega, by decide⟩ (fun h_1 f_2 g_3 => ?_)
  have S_5 : MO h_1 (uo ψ 68 (updB (ψ 68) u (t8 (nI (m + 6))))) z i := MO.setA (p := 68) S rfl f_2 g_3 (fun j_ => congrFun (upd_oc _ _ _) j_)
  have F_4 := fmA (p := 68) (okA_c (by decide)).1 g_3
  refine R_iconst (pc := 23) (v := 4) dX12_expand_23 (by decide) ?_
  refine R_iload (pc := 24) 1 dX12_expand_24 rfl ?_
  refine R_bipush (pc := 26) (v := 7) dX12_expand_26 (by decide) ?_
  refine R_iadd (pc := 28) dX12_expand_28 ?_
  refine R_eqi (y := nI (m + 7)) (nI_add m 7) ?_
  refine R_imul (pc := 29) dX12_expand_29 ?_
  refine R_eqi (y := nI (4 * (m + 7))) (nI_mul 4 (m + 7)) ?_
  refine R_istore (pc := 30) (lv' := [(6, .int (nI (4 * (m + 7)))), (5, .int (nI (240 * u))), (4, .int (nI m)), (0, .ref 61), (1, .int (nI u)), (2, .int (nI a)), (3, .int (nI (4 * m)))]) dX12_expand_30 (by decide) rfl ?_
  refine R_iconst (pc := 32) (v := 1) dX12_expand_32 (by decide) ?_
  refine R_eqi (y := oc (pwN m 0)) (show (1 : Int32) = oc 1 by decide) ?_
  refine R_istore (pc := 33) (lv' := [(7, .int (oc (pwN m 0))), (6, .int (nI (4 * (m + 7)))), (5, .int (nI (240 * u))), (4, .int (nI m)), (0, .ref 61), (1, .int (nI u)), (2, .int (nI a)), (3, .int (nI (4 * m)))]) dX12_expand_33 (by decide) rfl ?_
  refine R_iconst (pc := 35) (v := 0) dX12_expand_35 (by decide) ?_
  refine R_istore (pc := 36) (lv' := [(8, .int 0), (7, .int (oc (pwN m 0))), (6, .int (nI (4 * (m + 7)))), (5, .int (nI (240 * u))), (4, .int (nI m)), (0, .ref 61), (1, .int (nI u)), (2, .int (nI a)), (3, .int (nI (4 * m)))]) dX12_expand_36 (by decide) rfl ?_
  refine R_sub [0, 1, 2, 3, 4, 5, 6, 7, 8] rfl ?_
  refine qX12_expand_out (h := h) (ψ := (uo ψ 68 (updB (ψ 68) u (t8 (nI (m + 6)))))) hn u a m hu ha hm B hB (fun h2 ψ2 S2 hK hJ hF => ?_) (4 * (m + 7)) 0 (by omega) h_1 _ S_5 (FR.rf _ _) (by rw [Nat.mul_zero]; exact (pgB_0 _ _ _).symm) F_4
  have j1 : ψ2 67 = pgB (exN B (fun j => ψ 62 (a + j)) m (4 * (m + 7))) (ψ 67) (240 * u) (4 * (4 * (m + 7))) := hJ
  have j2 : ψ2 68 = updB (ψ 68) u (t8 (nI (m + 6))) := hK 68 (by decide)
  exact R_vreturn (pc := 246) dX12_expand_246 rfl (by decide) (by decide) ⟨rfl, ψ2, rfl, S2, ((FR.rf [67, 68] _).up (by decide)).tr hK (by decide), ⟨j1, j2⟩, hF⟩
