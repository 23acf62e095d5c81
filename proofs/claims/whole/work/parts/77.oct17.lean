theorem cn_ob (st : List (BitVec 8)) (x : bP) : ∀ m, m ≤ 15 → ∀ k, k < 16 → ob (cyN (cnS st) x m) k = if 1 ≤ k ∧ k ≤ m then ob x k ^^^ og st (k - 1) else ob x k
  | 0, _, k, _ => by rw [if_neg (by omega)]; rfl
  | m + 1, hm, k, hk => by
    show ob (aoc (cyN (cnS st) x m) (nI (1 + m)) (oc (og st m))) k = _
    rw [ob_aoc _ (by omega) _ hk, t8_oc, cn_ob st x m (by omega) k hk]
    by_cases h : k = 1 + m
    · rw [if_pos h, if_neg (by omega), if_pos (by omega), show k - 1 = m by omega]
    · rw [if_neg h]
      by_cases h2 : 1 ≤ k ∧ k ≤ m
      · rw [if_pos h2, if_pos (by omega)]
      · rw [if_neg h2, if_neg (by omega)]
theorem cnB_ob (st : List (BitVec 8)) (q : Nat) (hs : st.length ≤ 15) {k : Nat} (hk : k < 16) : ob (cnB st q) k = if k = 0 then t8 (nI (q - 1)) else if k ≤ st.length then og st (k - 1) else 0 := by
  unfold cnB
  rw [cn_ob _ _ _ hs k hk, show (0 : Int32) = nI 0 from rfl, ob_aoc _ (by omega) _ hk, ob_0 hk]
  by_cases h0 : k = 0
  · rw [if_neg (by omega), if_pos h0, if_pos h0]
    simp
  · rw [if_neg h0, if_neg h0]
    by_cases h1 : k ≤ st.length
    · rw [if_pos (by omega), if_pos h1]
      simp
    · rw [if_neg (by omega), if_neg h1]
theorem cn_gt {f r : oA} {st : List (BitVec 8)} {q : Nat} (hs : st.length ≤ 15) (h : sg f 0 st) : gt (cpB f 0 (updB (pt r 0 (0, 0)) 0 (t8 (nI (q - 1)))) 1 st.length) 0 = cnB st q := ob_ext fun k hk => by
  rw [ob_gt _ _ hk, Nat.zero_add, cnB_ob st q hs hk]
  unfold cpB
  by_cases h0 : k = 0
  · rw [if_neg (by omega), if_pos h0, h0, updB_s]
  · rw [if_neg h0]
    by_cases h1 : k ≤ st.length
    · rw [if_pos (by omega), if_pos h1, Nat.zero_add]
      exact sg0 h (by omega)
    · rw [if_neg (by omega), if_neg h1, updB_n h0, pt_at0 _ _ hk, ob_0 hk]
theorem gt_ob (B : bP) : gt (ob B) 0 = B := ob_ext fun k hk => by rw [ob_gt _ _ hk, Nat.zero_add]
theorem nv_blk {f : oA} {B : bP} (h : gt f 0 = B) {c : Nat} (hc : c ≤ 16) : nv f c (16 - c) = nv (ob B) c (16 - c) := nv_eq _ (fun j hj => gt_at0 h (by omega))
theorem nv_one1 (B : bP) {c : Nat} (hc : c ≤ 16) (h : nv (ob B) c (16 - c) + 1 < 256 ^ (16 - c)) : nv (ob (one1 B)) c (16 - c) = nv (ob B) c (16 - c) + 1 := by
  have e := om_one1 (ob B) hc (Or.inr h)
  rw [gt_ob] at e
  rw [← nv_blk e hc]
  have := nv_om c (16 - c) (ob B)
  rw [show c + (16 - c) = 16 by omega] at this
  rw [this, Nat.mod_eq_of_lt h]
theorem nv_ct (F : bP → bP) (D : List (BitVec 8)) {B : bP} {c : Nat} (hc : c ≤ 14) (h : nv (ob B) c (16 - c) = 1) : ∀ j, j ≤ 60 → nv (ob (stN (ctS F D) B j).1) c (16 - c) = j + 1
  | 0, _ => h
  | j + 1, hj => by
    have ih := nv_ct F D hc h j (by omega)
    have hp : 256 ^ 2 ≤ 256 ^ (16 - c) := Nat.pow_le_pow_right (by decide) (by omega)
    have e2 : (256 : Nat) ^ 2 = 65536 := by decide
    show nv (ob (one1 (stN (ctS F D) B j).1)) c (16 - c) = _
    rw [nv_one1 _ (by omega) (by omega), ih]
theorem nv_z {f : oA} {t : Nat} : ∀ k, (∀ j, j < k → f (t + j) = 0) → nv f t k = 0
  | 0, _ => rfl
  | k + 1, h => by
    show 256 * nv f t k + (f (t + k)).toNat = 0
    rw [nv_z k (fun j hj => h j (by omega)), h k (by omega)]
    rfl
theorem sh8_512 : ∀ n, n < 601 → nI n >>> ((8 : Int32) &&& 31) = oc (t8 (nI n >>> ((8 : Int32) &&& 31))) := by decide +kernel
theorem sh16_512 : ∀ n, n < 601 → t8 (nI n >>> ((8 * nI 2) &&& 31)) = 0 ∧ t8 (nI n >>> ((8 * nI 3) &&& 31)) = 0 := by decide +kernel
theorem lq_og (len q : Nat) : ∀ m j, j < m → og (lqN len q m) j = t8 (jlushr (nI len).toInt64 (8 * nI (q - 1 - j))).toInt32
  | 0, j, h => absurd h (Nat.not_lt_zero j)
  | m + 1, j, h => by
    have hl : ∀ m, (lqN len q m).length = m := fun m => by
      induction m with
      | zero => rfl
      | succ m ih =>
        show (lqN len q m ++ [_]).length = _
        rw [List.length_append, ih]
        rfl
    show og (lqN len q m ++ [_]) j = _
    by_cases e : j < m
    · rw [og_app_l (by rw [hl]; exact e), lq_og len q m j e]
    · rw [og_app_r (by rw [hl]; omega), hl, show j = m by omega, Nat.sub_self]
      rfl
theorem lq_len (len q : Nat) : ∀ m, (lqN len q m).length = m
  | 0 => rfl
  | m + 1 => by
    show (lqN len q m ++ [_]).length = _
    rw [List.length_append, lq_len len q m]
    rfl
theorem e8s : ∀ e, e < 8 → (8 : Int32) * nI e = 56 - 8 * nI (7 - e) := by decide
theorem lq_v (len : Nat) (hl : len ≤ 600) {e : Nat} (he : e < 8) : t8 (jlushr (nI len).toInt64 (8 * nI e)).toInt32 = if e = 0 then t8 (nI len) else if e = 1 then t8 (nI len >>> ((8 : Int32) &&& 31)) else 0 := by
  rw [e8s e he, p8_oct _ (by omega), ob_num (by omega) (by omega)]
  have s := sh16_512 len (by omega)
  rcases (show e = 0 ∨ e = 1 ∨ e = 2 ∨ e = 3 ∨ 4 ≤ e by omega) with rfl | rfl | rfl | rfl | h4
  · rw [if_pos (by omega), if_pos rfl]
    congr 1
    have : ∀ x : Int32, x >>> ((8 * nI (7 - (7 - 0))) &&& 31) = x := fun x => by
      apply Int32.toBitVec_inj.mp
      rw [Int32.toBitVec_shiftRight]
      rw [show ((8 * nI (7 - (7 - 0))) &&& 31).toBitVec.smod 32 = 0#32 by decide]
      rw [BitVec.sshiftRight_eq']
      simp
    exact this _
  · rw [if_pos (by omega), if_neg (by omega), if_pos rfl]
    rfl
  · rw [if_pos (by omega), if_neg (by omega), if_neg (by omega)]
    exact s.1
  · rw [if_pos (by omega), if_neg (by omega), if_neg (by omega)]
    exact s.2
  · rw [if_neg (by omega), if_neg (by omega), if_neg (by omega)]
theorem lcB_og {A st : List (BitVec 8)} {len q mm : Nat} (hs : st.length + q = 15) (hq : 2 ≤ q ∧ q ≤ 8) (hl : len ≤ 600) {k : Nat} (hk : k < 16) : og (lcB A st len q mm) k = if k = 0 then t8 (lcF A q mm) else if k ≤ st.length then og st (k - 1) else if k = 15 then t8 (nI len) else if k = 14 then t8 (nI len >>> ((8 : Int32) &&& 31)) else 0 := by
  unfold lcB
  by_cases h0 : k = 0
  · subst h0
    rw [if_pos rfl, List.append_assoc]
    rfl
  · rw [if_neg h0]
    by_cases h1 : k ≤ st.length
    · rw [if_pos h1, og_app_l (by rw [List.length_append]; show k < 1 + st.length; omega), og_app_r (by show 1 ≤ k; omega)]
      rfl
    · rw [if_neg h1, og_app_r (by rw [List.length_append]; show 1 + st.length ≤ k; omega), List.length_append, lq_og _ _ _ _ (by show k - (1 + st.length) < q; omega)]
      have e : q - 1 - (k - ([t8 (lcF A q mm)].length + st.length)) = 15 - k := by
        show q - 1 - (k - (1 + st.length)) = 15 - k
        omega
      rw [e, lq_v len hl (by omega)]
      by_cases c15 : k = 15
      · rw [if_pos (by omega), if_pos c15]
      · rw [if_neg (by omega), if_neg c15]
        by_cases c14 : k = 14
        · rw [if_pos (by omega), if_pos c14]
        · rw [if_neg (by omega), if_neg c14]
theorem lcB_len {A st : List (BitVec 8)} {len q mm : Nat} (hs : st.length + q = 15) : (lcB A st len q mm).length = 16 := by
  unfold lcB
  rw [List.length_append, List.length_append, lq_len]
  show 1 + st.length + q = 16
  omega
theorem lc_gt {f r : oA} {A st : List (BitVec 8)} {len q mm : Nat} (hs : st.length + q = 15) (hq : 2 ≤ q ∧ q ≤ 8) (hl : len ≤ 600) (h : sg f 0 st) {m1 : oA} (e1 : m1 = cpB f 0 (updB (pt r 0 (0, 0)) 0 (t8 (lcF A q mm))) 1 st.length) : gt (updB (updB m1 14 (m1 14 ^^^ t8 (nI len >>> ((8 : Int32) &&& 31)))) 15 (updB m1 14 (m1 14 ^^^ t8 (nI len >>> ((8 : Int32) &&& 31))) 15 ^^^ t8 (nI len))) 0 = rd (lcB A st len q mm) 0 := ob_ext fun k hk => by
  rw [ob_gt _ _ hk, Nat.zero_add, ob_rd _ _ hk, Nat.zero_add, lcB_og hs hq hl hk]
  have z : ∀ k, k < 16 → st.length < k → m1 k = 0 := fun k hk h1 => by
    rw [e1]
    unfold cpB
    rw [if_neg (by omega), updB_n (by omega), pt_at0 _ _ hk, ob_0 hk]
  by_cases c15 : k = 15
  · subst c15
    rw [updB_s, updB_n (by omega), z 15 (by omega) (by omega), if_neg (by omega), if_neg (by omega), if_pos rfl]
    simp
  · rw [updB_n c15]
    by_cases c14 : k = 14
    · subst c14
      rw [updB_s, z 14 (by omega) (by omega), if_neg (by omega), if_neg (by omega), if_neg (by omega), if_pos rfl]
      simp
    · rw [updB_n c14]
      by_cases h1 : st.length < k
      · rw [z k hk h1, if_neg (by omega), if_neg (by omega), if_neg c15, if_neg c14]
      · rw [e1]
        unfold cpB
        by_cases h0 : k = 0
        · rw [if_neg (by omega), if_pos h0, h0, updB_s]
        · rw [if_pos (by omega), if_neg h0, if_pos (by omega), Nat.zero_add]
          exact sg0 h (by omega)
theorem lcF_n {A : List (BitVec 8)} {q mm : Nat} (h : ¬ nI A.length ≤ 0) (h2 : 2 ≤ mm ∧ mm ≤ 16) (hq : 1 ≤ q ∧ q ≤ 8) : nI (64 + 8 * ((mm - 2) / 2) + q - 1) = oc (t8 (lcF A q mm)) := by
  have e : lcF A q mm = nI (64 + 8 * ((mm - 2) / 2) + q - 1) := by
    unfold lcF
    rw [if_neg h, show (2 : Int32) = nI 2 from rfl, nI_sb h2.1, nI_div (by omega) (by omega), show (8 : Int32) = nI 8 from rfl, nI_mul, show (64 : Int32) = nI 64 from rfl, nI_add, nI_add, show (1 : Int32) = nI 1 from rfl, nI_sb (by omega)]
  rw [e]
  exact ocN (by omega)
theorem lcF_0 {A : List (BitVec 8)} {q mm : Nat} (h : nI A.length ≤ 0) (h2 : 2 ≤ mm ∧ mm ≤ 16) (hq : 1 ≤ q ∧ q ≤ 8) : nI (8 * ((mm - 2) / 2) + q - 1) = oc (t8 (lcF A q mm)) := by
  have e : lcF A q mm = nI (8 * ((mm - 2) / 2) + q - 1) := by
    unfold lcF
    rw [if_pos h, show (2 : Int32) = nI 2 from rfl, nI_sb h2.1, nI_div (by omega) (by omega), show (8 : Int32) = nI 8 from rfl, nI_mul, show (0 : Int32) = nI 0 from rfl, nI_add, nI_add, show (1 : Int32) = nI 1 from rfl, nI_sb (by omega), Nat.zero_add]
  rw [e]
  exact ocN (by omega)
theorem og_pdd (k : Nat) (L : List (BitVec 8)) (j : Nat) : og (pdd k L) j = og L j := by
  unfold pdd
  by_cases h : j < L.length
  · exact og_app_l h
  · rw [og_app_r (by omega), og_out (show L.length ≤ j by omega)]
    by_cases h2 : j - L.length < pad2 L.length k
    · exact og_rep _ _ h2
    · exact og_out (by rw [List.length_replicate]; omega)
theorem cyN_cg {f g : Nat → bP → bP} {x : bP} : ∀ k, (∀ i y, i < k → f i y = g i y) → cyN f x k = cyN g x k
  | 0, _ => rfl
  | k + 1, h => by
    show f k (cyN f x k) = g k (cyN g x k)
    rw [cyN_cg k (fun i y hi => h i y (by omega)), h k _ (by omega)]
theorem cy_pdd (F : bP → bP) (L : List (BitVec 8)) (x : bP) (n : Nat) : cyN (csS F (pdd 4 L)) x n = cyN (csS F L) x n := cyN_cg n (fun i y _ => by
  unfold csS
  rw [show rd (pdd 4 L) (16 * i) = rd L (16 * i) from rd_cg (fun k _ => og_pdd 4 L _)])
theorem cy_app (F : bP → bP) (X Y : List (BitVec 8)) (x : bP) {a : Nat} (ha : X.length = 16 * a) : ∀ b, cyN (csS F (X ++ Y)) x (a + b) = cyN (csS F Y) (cyN (csS F X) x a) b
  | 0 => cyN_cg a (fun i y hi => by
    unfold csS
    rw [show rd (X ++ Y) (16 * i) = rd X (16 * i) from rd_cg (fun k hk => og_app_l (by omega))])
  | b + 1 => by
    show csS F (X ++ Y) (a + b) (cyN (csS F (X ++ Y)) x (a + b)) = csS F Y b (cyN (csS F Y) (cyN (csS F X) x a) b)
    rw [cy_app F X Y x ha b]
    unfold csS
    rw [show rd (X ++ Y) (16 * (a + b)) = rd Y (16 * b) from rd_cg (fun k hk => by rw [og_app_r (by omega)]; congr 1; omega)]
theorem nbk_app {X Y : List (BitVec 8)} {a : Nat} (ha : X.length = 16 * a) : nbk (X ++ Y) = a + nbk Y := by
  unfold nbk
  rw [List.length_append]
  omega
theorem nbk_pdd (L : List (BitVec 8)) : nbk (pdd 4 L) = nbk L ∧ (pdd 4 L).length = 16 * nbk L := by
  unfold nbk pdd pad2
  rw [List.length_append, List.length_replicate]
  omega
theorem xb_00 (q : bP) : xb (0, 0) q = q := by
  unfold xb
  rw [Int64.zero_xor, Int64.zero_xor]
def lcM (A : List (BitVec 8)) : List (BitVec 8) := [t8 (nI A.length >>> ((8 : Int32) &&& 31))] ++ [t8 (nI A.length)] ++ A
theorem csm_0 (F : bP → bP) {A st : List (BitVec 8)} (P : List (BitVec 8)) {q mm : Nat} (hs : st.length + q = 15) (h : nI A.length ≤ 0) : csm F (lcW A st P q mm) = cyN (csS F P) (F (rd (lcB A st P.length q mm) 0)) (nbk P) := by
  have hl : (lcB A st P.length q mm).length = 16 * 1 := lcB_len hs
  have e : lcC A (lcB A st P.length q mm) = lcB A st P.length q mm := if_pos h
  unfold csm lcW
  rw [cy_pdd, (nbk_pdd _).1, e, nbk_app hl, cy_app F _ _ _ hl]
  congr 1
  show F (xb (0, 0) (rd (lcB A st P.length q mm) (16 * 0))) = _
  rw [xb_00]
theorem csm_n (F : bP → bP) {A st : List (BitVec 8)} (P : List (BitVec 8)) {q mm : Nat} (hs : st.length + q = 15) (h : ¬ nI A.length ≤ 0) : csm F (lcW A st P q mm) = cyN (csS F P) (cyN (csS F (lcM A)) (F (rd (lcB A st P.length q mm) 0)) (nbk (lcM A))) (nbk P) := by
  have hl : (lcB A st P.length q mm).length = 16 * 1 := lcB_len hs
  have e : lcC A (lcB A st P.length q mm) = pdd 4 (lcB A st P.length q mm ++ lcM A) := by
    unfold lcC lcM
    rw [if_neg h, List.append_assoc, List.append_assoc, List.append_assoc]
  have h2 := (nbk_pdd (lcB A st P.length q mm ++ lcM A)).2
  unfold csm lcW
  rw [cy_pdd, (nbk_pdd _).1, e, nbk_app h2, cy_app F _ _ _ h2, cy_pdd, nbk_app hl, cy_app F _ _ _ hl]
  congr 2
  show F (xb (0, 0) (rd (lcB A st P.length q mm) (16 * 0))) = _
  rw [xb_00]
set_option maxHeartbeats 1000000 in
set_option maxRecDepth 100000 in
theorem oX12_counted_s {l : Launch} {w : am_W} {h : am_H} {n : Nat} {ψ : Nat → oA} {z : fA} {i : mI} (S : MO h ψ z i) (hn : 90 ≤ n) (A N D : List (BitVec 8)) (mm : Nat) (hA : A.length ≤ 256) (hN7 : 7 ≤ N.length) (hN : N.length ≤ 13) (hD : D.length ≤ 512) (hmm : 4 ≤ mm) (hmm16 : mm ≤ 16) (hi1 : i 1 = nI mm) (hi5 : i 5 = nI N.length) (hi6 : i 6 = nI A.length) (hsA : sg (ψ 74) 0 A) (hsN : sg (ψ 73) 0 N) (hsD : sg (ψ 71) 0 D) {F G : bP → bP} (K0 : Kh ψ 0 F G) : RH l w mX12_counted h n [.ref 61, .int 0, .int (nI D.length)] (fun h2 q => ∃ ψ2, q = none ∧ MO h2 ψ2 z i ∧ FR [72, 75, 76, 82, 84, 85] ψ ψ2 ∧ (sg (ψ2 72) 0 (ctO F D (one1 (cnB N (15 - N.length)))) ∧ gt (ψ2 85) 0 = cnT F A N D (15 - N.length) mm) ∧ FM h h2) := by
  refine RC.of [(0, .ref 61), (1, .int 0), (2, .int (nI D.length))] (by decide +kernel) rfl (Nat.le_of_ble_eq_true rfl) ?_
  refine R_bipush (pc := 0) (v := 15) dX12_counted_0 (by decide) ?_
  refine R_aload_n (pc := 2) 0 dX12_counted_2 rfl rfl ?_
  refine R_get (pc := 3) dX12_counted_3 fX12_137 S.obj (by omega) rfl ?_
  refine R_eqi (y := nI N.length) (hi5) ?_
  refine R_isub (pc := 6) dX12_counted_6 ?_
  refine R_eqi (y := nI (15 - N.length)) (nI_sb (a := 15) (b := N.length) (by omega)) ?_
  refine R_istore_n (pc := 7) (lv' := [(3, .int (nI (15 - N.length))), (0, .ref 61), (1, .int 0), (2, .int (nI D.length))]) dX12_counted_7 rfl (by decide) rfl ?_
  refine R_aload_n (pc := 8) 1 dX12_counted_8 rfl rfl ?_
  refine R_get (pc := 9) dX12_counted_9 fX12_53 S.obj (by omega) rfl ?_
  refine R_iconst (pc := 12) (v := 0) dX12_counted_12 (by decide) ?_
  refine R_bipush (pc := 13) (v := 16) dX12_counted_13 (by decide) ?_
  refine R_callSh (pc := 15) (μ' := mX12_clear) (As := [.ref 75, .int 0, .int 16]) (st := []) dX12_counted_15 zX12_clear lX12_164 ⟨by decide, by decide⟩ rfl rfl ⟨by decide, by decide⟩ rfl (Nat.le_of_ble_eq_true rfl) (oX12_clear16 S hn (q := 75) rfl (by decide)) (fun h_1 r_ q_2 => ?_)
  obtain ⟨rfl, S_3, F_4⟩ := q_2
  have S_5 : MO h_1 (uo ψ 75 (pt (ψ 75) 0 (0, 0))) z i := S_3
  refine R_aload_n (pc := 18) 1 dX12_counted_18 rfl rfl ?_
  refine R_get (pc := 19) dX12_counted_19 fX12_53 S_5.obj (by omega) rfl ?_
  refine R_iconst (pc := 22) (v := 0) dX12_counted_22 (by decide) ?_
  refine R_iload_n (pc := 23) 0 dX12_counted_23 rfl rfl ?_
  refine R_iconst (pc := 24) (v := 1) dX12_counted_24 (by decide) ?_
  refine R_isub (pc := 25) dX12_counted_25 ?_
  refine R_eqi (y := oc (t8 (nI (15 - N.length - 1)))) ((nI_sb (a := 15 - N.length) (b := 1) (by omega)).trans (ocN (by omega))) ?_
  refine R_iast' (pc := 26) (j := 0) dX12_counted_26 (S_5.arr (p := 75) rfl) (by omega) ⟨rfl, by show 0 < 16; omega, by decide⟩ (fun h_6 f_7 g_8 => ?_)
  have S_10 : MO h_6 (uo ψ 75 (updB (pt (ψ 75) 0 (0, 0)) 0 (t8 (nI (15 - N.length - 1))))) z i := by have z_ := MO.setA (p := 75) S_5 rfl f_7 g_8 (fun j_ => congrFun (upd_oc _ _ _) j_); rw [uo_uo] at z_; exact z_
  have F_9 := fmA (p := 75) (okA_c (by decide)).1 g_8
  refine R_aload_n (pc := 27) 1 dX12_counted_27 rfl rfl ?_
  refine R_get (pc := 28) dX12_counted_28 fX12_47 S_10.obj (by omega) rfl ?_
  refine R_iconst (pc := 31) (v := 0) dX12_counted_31 (by decide) ?_
  refine R_aload_n (pc := 32) 1 dX12_counted_32 rfl rfl ?_
  refine R_get (pc := 33) dX12_counted_33 fX12_53 S_10.obj (by omega) rfl ?_
  refine R_iconst (pc := 36) (v := 1) dX12_counted_36 (by decide) ?_
  refine R_aload_n (pc := 37) 1 dX12_counted_37 rfl rfl ?_
  refine R_get (pc := 38) dX12_counted_38 fX12_137 S_10.obj (by omega) rfl ?_
  refine R_eqi (y := nI N.length) (hi5) ?_
  refine R_callSh (pc := 41) (μ' := mX12_copy) (As := [.ref 73, .int (nI 0), .ref 75, .int (nI 1), .int (nI N.length)]) (st := []) dX12_counted_41 zX12_copy lX12_133 ⟨by decide, by decide⟩ rfl rfl ⟨by decide, by decide⟩ rfl (Nat.le_of_ble_eq_true rfl) (oX12_copy S_10 hn (p := 73) (q := 75) rfl rfl 0 1 N.length (by show 0 + N.length ≤ 64; omega) (by show 1 + N.length ≤ 16; omega) (by decide)) (fun h_11 r_ q_12 => ?_)
  obtain ⟨rfl, S_13, F_14⟩ := q_12
  have S_15 : MO h_11 (uo ψ 75 (cpB (ψ 73) 0 (updB (pt (ψ 75) 0 (0, 0)) 0 (t8 (nI (15 - N.length - 1)))) 1 N.length)) z i := by have z_ := S_13; rw [uo_uo] at z_; exact z_
  have eC : gt (cpB (ψ 73) 0 (updB (pt (ψ 75) 0 (0, 0)) 0 (t8 (nI (15 - N.length - 1)))) 1 N.length) 0 = (cnB N (15 - N.length)) := cn_gt (by omega) hsN
  have zC : nv (ob (cnB N (15 - N.length))) (1 + N.length) (16 - (1 + N.length)) = 0 := nv_z _ (fun j_ hj_ => by rw [cnB_ob _ _ (by omega) (by omega), if_neg (by omega), if_neg (by omega)])
  have hp2 : 256 ^ 2 ≤ 256 ^ (16 - (1 + N.length)) := Nat.pow_le_pow_right (by decide) (by omega)
  have e2_ : (256 : Nat) ^ 2 = 65536 := by decide
  have zO : nv (ob (one1 (cnB N (15 - N.length)))) (1 + N.length) (16 - (1 + N.length)) = 1 := by rw [nv_one1 _ (by omega) (by omega), zC]
  have eO : gt (omB (1 + N.length) 16 (cpB (ψ 73) 0 (updB (pt (ψ 75) 0 (0, 0)) 0 (t8 (nI (15 - N.length - 1)))) 1 N.length)) 0 = one1 (cnB N (15 - N.length)) := by rw [om_one1 _ (by omega) (Or.inr (by rw [nv_blk eC (by omega)]; omega)), eC]
  refine R_aload_n (pc := 44) 1 dX12_counted_44 rfl rfl ?_
  refine R_get (pc := 45) dX12_counted_45 fX12_53 S_15.obj (by omega) rfl ?_
  refine R_iconst (pc := 48) (v := 0) dX12_counted_48 (by decide) ?_
  refine R_aload_n (pc := 49) 1 dX12_counted_49 rfl rfl ?_
  refine R_get (pc := 50) dX12_counted_50 fX12_83 S_15.obj (by omega) rfl ?_
  refine R_iconst (pc := 53) (v := 0) dX12_counted_53 (by decide) ?_
  refine R_bipush (pc := 54) (v := 16) dX12_counted_54 (by decide) ?_
  refine R_callSh (pc := 56) (μ' := mX12_copy) (As := [.ref 75, .int (nI 0), .ref 85, .int (nI 0), .int 16]) (st := []) dX12_counted_56 zX12_copy lX12_133 ⟨by decide, by decide⟩ rfl rfl ⟨by decide, by decide⟩ rfl (Nat.le_of_ble_eq_true rfl) (oX12_copy16 S_15 hn (p := 75) (q := 85) rfl rfl 0 0 (by show 0 + 16 ≤ 16; omega) (by show 0 + 16 ≤ 16; omega) (by decide)) (fun h_16 r_ q_17 => ?_)
  obtain ⟨rfl, S_18, F_19⟩ := q_17
  have S_20 : MO h_16 (uo (uo ψ 75 (cpB (ψ 73) 0 (updB (pt (ψ 75) 0 (0, 0)) 0 (t8 (nI (15 - N.length - 1)))) 1 N.length)) 85 (pt (ψ 85) 0 (gt (cpB (ψ 73) 0 (updB (pt (ψ 75) 0 (0, 0)) 0 (t8 (nI (15 - N.length - 1)))) 1 N.length) 0))) z i := S_18
  refine R_aload_n (pc := 59) 1 dX12_counted_59 rfl rfl ?_
  refine R_iconst (pc := 60) (v := 0) dX12_counted_60 (by decide) ?_
  refine R_aload_n (pc := 61) 1 dX12_counted_61 rfl rfl ?_
  refine R_get (pc := 62) dX12_counted_62 fX12_83 S_20.obj (by omega) rfl ?_
  refine R_iconst (pc := 65) (v := 0) dX12_counted_65 (by decide) ?_
  refine R_callVh (pc := 66) (μ' := mX12_sealBlock) (As := [.int (nI 0), .ref 85, .int (nI 0)]) (st := []) dX12_counted_66 zX12_sealBlock lX12_146 ⟨by decide, by decide⟩ rfl rfl ⟨by decide, by decide⟩ S_20.obj (by omega) rfl (Nat.le_of_ble_eq_true rfl) (oX12_sealBlock S_20 hn ((K0.uo (by decide)).uo (by decide)) (p := 85) rfl 0 (by show 0 + 16 ≤ 16; omega)) (fun h_21 r_ q_22 => ?_)
  obtain ⟨rfl, S_23, F_24⟩ := q_22
  have S_25 : MO h_21 (uo (uo ψ 75 (cpB (ψ 73) 0 (updB (pt (ψ 75) 0 (0, 0)) 0 (t8 (nI (15 - N.length - 1)))) 1 N.length)) 85 (pt (pt (ψ 85) 0 (gt (cpB (ψ 73) 0 (updB (pt (ψ 75) 0 (0, 0)) 0 (t8 (nI (15 - N.length - 1)))) 1 N.length) 0)) 0 (F (gt (pt (ψ 85) 0 (gt (cpB (ψ 73) 0 (updB (pt (ψ 75) 0 (0, 0)) 0 (t8 (nI (15 - N.length - 1)))) 1 N.length) 0)) 0)))) z i := by have z_ := S_23; rw [uo_uo] at z_; exact z_
  refine R_aload_n (pc := 69) 1 dX12_counted_69 rfl rfl ?_
  refine R_get (pc := 70) dX12_counted_70 fX12_53 S_25.obj (by omega) rfl ?_
  refine R_iconst (pc := 73) (v := 1) dX12_counted_73 (by decide) ?_
  refine R_aload_n (pc := 74) 1 dX12_counted_74 rfl rfl ?_
  refine R_get (pc := 75) dX12_counted_75 fX12_137 S_25.obj (by omega) rfl ?_
  refine R_eqi (y := nI N.length) (hi5) ?_
  refine R_iadd (pc := 78) dX12_counted_78 ?_
  refine R_eqi (y := nI (1 + N.length)) (nI_add 1 N.length) ?_
  refine R_callSh (pc := 79) (μ' := mX12_oneMore) (As := [.ref 75, .int (nI (1 + N.length))]) (st := []) dX12_counted_79 zX12_oneMore lX12_168 ⟨by decide, by decide⟩ rfl rfl ⟨by decide, by decide⟩ rfl (Nat.le_of_ble_eq_true rfl) (oX12_oneMore S_25 hn (q := 75) rfl (by decide) (1 + N.length) (by omega)) (fun h_26 r_ q_27 => ?_)
  obtain ⟨rfl, S_28, F_29⟩ := q_27
  have S_30 : MO h_26 (uo (uo (uo ψ 75 (cpB (ψ 73) 0 (updB (pt (ψ 75) 0 (0, 0)) 0 (t8 (nI (15 - N.length - 1)))) 1 N.length)) 85 (pt (pt (ψ 85) 0 (gt (cpB (ψ 73) 0 (updB (pt (ψ 75) 0 (0, 0)) 0 (t8 (nI (15 - N.length - 1)))) 1 N.length) 0)) 0 (F (gt (pt (ψ 85) 0 (gt (cpB (ψ 73) 0 (updB (pt (ψ 75) 0 (0, 0)) 0 (t8 (nI (15 - N.length - 1)))) 1 N.length) 0)) 0)))) 75 (omB (1 + N.length) 16 (cpB (ψ 73) 0 (updB (pt (ψ 75) 0 (0, 0)) 0 (t8 (nI (15 - N.length - 1)))) 1 N.length))) z i := S_28
  refine R_aload_n (pc := 82) 1 dX12_counted_82 rfl rfl ?_
  refine R_iconst (pc := 83) (v := 0) dX12_counted_83 (by decide) ?_
  refine R_iconst (pc := 84) (v := 0) dX12_counted_84 (by decide) ?_
  refine R_iconst (pc := 85) (v := 0) dX12_counted_85 (by decide) ?_
  refine R_iload_n (pc := 86) 3 dX12_counted_86 rfl rfl ?_
  refine R_iconst (pc := 87) (v := 1) dX12_counted_87 (by decide) ?_
  refine R_aload_n (pc := 88) 1 dX12_counted_88 rfl rfl ?_
  refine R_get (pc := 89) dX12_counted_89 fX12_137 S_30.obj (by omega) rfl ?_
  refine R_eqi (y := nI N.length) (hi5) ?_
  refine R_iadd (pc := 92) dX12_counted_92 ?_
  refine R_eqi (y := nI (1 + N.length)) (nI_add 1 N.length) ?_
  refine R_callVh (pc := 93) (μ' := mX12_count) (As := [.int (nI 0), .int (nI 0), .int (nI 0), .int (nI D.length), .int (nI (1 + N.length))]) (st := []) dX12_counted_93 zX12_count lX12_204 ⟨by decide, by decide⟩ rfl rfl ⟨by decide, by decide⟩ S_30.obj (by omega) rfl (Nat.le_of_ble_eq_true rfl) (oX12_count S_30 hn 0 0 0 D.length (1 + N.length) (by omega) (by omega) (by omega) (((K0.uo (by decide)).uo (by decide)).uo (by decide)) (fun j => (stN (ctS F D) (one1 (cnB N (15 - N.length))) j).1) (fun j_ f_ h_ e_ => by rw [om_one1 f_ (by omega) (Or.inr (by rw [nv_blk e_ (by omega), nv_ct F D (by omega) zO j_ (by omega)]; omega)), e_]; rfl) eO) (fun h_31 r_ q_32 => ?_)
  obtain ⟨ψ_36, rfl, S_33, K_35, J_37, F_34⟩ := q_32
  have K_38 := (((K0.uo (by decide)).uo (by decide)).uo (by decide)).fr K_35 (by decide) (by decide) (by decide) (by decide)
  have t93 : ψ_36 85 = pt (pt (ψ 85) 0 (gt (cpB (ψ 73) 0 (updB (pt (ψ 75) 0 (0, 0)) 0 (t8 (nI (15 - N.length - 1)))) 1 N.length) 0)) 0 (F (gt (pt (ψ 85) 0 (gt (cpB (ψ 73) 0 (updB (pt (ψ 75) 0 (0, 0)) 0 (t8 (nI (15 - N.length - 1)))) 1 N.length) 0)) 0)) := K_35 85 (by decide)
  have lO : (ctO F D (one1 (cnB N (15 - N.length)))).length = D.length := by unfold ctO; rw [stN_lenM D (fun j_ y_ => ctS_len F D j_ y_)]; have := nbk_b D; omega
  have c_ : ψ_36 72 = pgB _ _ 0 D.length := J_37
  have yC : sg (ψ_36 72) 0 (ctO F D (one1 (cnB N (15 - N.length)))) := by
    refine stN_sg (H := F) (fun _ _ => rfl) (fun j_ hj_ => ?_)
    rw [c_, pgB_in _ _ (by omega) (by omega), Nat.zero_add, Nat.sub_zero, Nat.zero_add]
    exact congrArg (fun v_ => v_ ^^^ _) (by show ψ 71 j_ = _; exact sg0 hsD hj_)
  refine R_aload_n (pc := 96) 1 dX12_counted_96 rfl rfl ?_
  refine R_get (pc := 97) dX12_counted_97 fX12_74 S_33.obj (by omega) rfl ?_
  refine R_iconst (pc := 100) (v := 0) dX12_counted_100 (by decide) ?_
  refine R_bipush (pc := 101) (v := 16) dX12_counted_101 (by decide) ?_
  refine R_callSh (pc := 103) (μ' := mX12_clear) (As := [.ref 82, .int 0, .int 16]) (st := []) dX12_counted_103 zX12_clear lX12_164 ⟨by decide, by decide⟩ rfl rfl ⟨by decide, by decide⟩ rfl (Nat.le_of_ble_eq_true rfl) (oX12_clear16 S_33 hn (q := 82) rfl (by decide)) (fun h_39 r_ q_40 => ?_)
  obtain ⟨rfl, S_41, F_42⟩ := q_40
  have S_43 : MO h_39 (uo ψ_36 82 (pt (ψ_36 82) 0 (0, 0))) z i := S_41
  refine R_aload_n (pc := 106) 1 dX12_counted_106 rfl rfl ?_
  refine R_get (pc := 107) dX12_counted_107 fX12_74 S_43.obj (by omega) rfl ?_
  refine R_iconst (pc := 110) (v := 0) dX12_counted_110 (by decide) ?_
  refine R_aload_n (pc := 111) 1 dX12_counted_111 rfl rfl ?_
  refine R_get (pc := 112) dX12_counted_112 fX12_140 S_43.obj (by omega) rfl ?_
  refine R_eqi (y := nI A.length) (hi6) ?_
  refine R_if_le (pc := 115) (tgt := 123) dX12_counted_115 (by decide) (fun c_44 => ?_) (fun c_44 => ?_)
  · skip
    have nc_44 : A.length ≤ 0 := (nI_leI (a := A.length) (b := 0) (by omega) (by omega)).mp c_44
    refine R_iconst (pc := 123) (v := 0) dX12_counted_123 (by decide) ?_
    refine R_bipush (pc := 124) (v := 8) dX12_counted_124 (by decide) ?_
    refine R_aload_n (pc := 126) 1 dX12_counted_126 rfl rfl ?_
    refine R_get (pc := 127) dX12_counted_127 fX12_16 S_43.obj (by omega) rfl ?_
    refine R_eqi (y := nI mm) (hi1) ?_
    refine R_iconst (pc := 130) (v := 2) dX12_counted_130 (by decide) ?_
    refine R_isub (pc := 131) dX12_counted_131 ?_
    refine R_eqi (y := nI (mm - 2)) (nI_sb (a := mm) (b := 2) (by omega)) ?_
    refine R_iconst (pc := 132) (v := 2) dX12_counted_132 (by decide) ?_
    refine R_idiv (pc := 133) dX12_counted_133 (by decide) ?_
    refine R_eqi (y := nI ((mm - 2) / 2)) (nI_div (a := mm - 2) (b := 2) (by omega) (by omega)) ?_
    refine R_imul (pc := 134) dX12_counted_134 ?_
    refine R_eqi (y := nI (8 * ((mm - 2) / 2))) (nI_mul 8 ((mm - 2) / 2)) ?_
    refine R_iadd (pc := 135) dX12_counted_135 ?_
    refine R_eqi (y := nI (8 * ((mm - 2) / 2))) ((nI_add _ _).trans (by rw [Nat.zero_add])) ?_
    refine R_iload_n (pc := 136) 0 dX12_counted_136 rfl rfl ?_
    refine R_iadd (pc := 137) dX12_counted_137 ?_
    refine R_eqi (y := nI (8 * ((mm - 2) / 2) + (15 - N.length))) (nI_add (8 * ((mm - 2) / 2)) (15 - N.length)) ?_
    refine R_iconst (pc := 138) (v := 1) dX12_counted_138 (by decide) ?_
    refine R_isub (pc := 139) dX12_counted_139 ?_
    refine R_eqi (y := oc (t8 (lcF A (15 - N.length) mm))) ((nI_sb (a := 8 * ((mm - 2) / 2) + (15 - N.length)) (b := 1) (by omega)).trans (lcF_0 (q := 15 - N.length) (mm := mm) c_44 (by omega) (by omega))) ?_
    refine R_iast' (pc := 140) (j := 0) dX12_counted_140 (S_43.arr (p := 82) rfl) (by omega) ⟨rfl, by show 0 < 16; omega, by decide⟩ (fun h_45 f_46 g_47 => ?_)
    have S_49 : MO h_45 (uo ψ_36 82 (updB (pt (ψ_36 82) 0 (0, 0)) 0 (t8 (lcF A (15 - N.length) mm)))) z i := by have z_ := MO.setA (p := 82) S_43 rfl f_46 g_47 (fun j_ => congrFun (upd_oc _ _ _) j_); rw [uo_uo] at z_; exact z_
    have F_48 := fmA (p := 82) (okA_c (by decide)).1 g_47
    refine R_aload_n (pc := 141) 1 dX12_counted_141 rfl rfl ?_
    refine R_get (pc := 142) dX12_counted_142 fX12_47 S_49.obj (by omega) rfl ?_
    refine R_iconst (pc := 145) (v := 0) dX12_counted_145 (by decide) ?_
    refine R_aload_n (pc := 146) 1 dX12_counted_146 rfl rfl ?_
    refine R_get (pc := 147) dX12_counted_147 fX12_74 S_49.obj (by omega) rfl ?_
    refine R_iconst (pc := 150) (v := 1) dX12_counted_150 (by decide) ?_
    refine R_aload_n (pc := 151) 1 dX12_counted_151 rfl rfl ?_
    refine R_get (pc := 152) dX12_counted_152 fX12_137 S_49.obj (by omega) rfl ?_
    refine R_eqi (y := nI N.length) (hi5) ?_
    refine R_callSh (pc := 155) (μ' := mX12_copy) (As := [.ref 73, .int (nI 0), .ref 82, .int (nI 1), .int (nI N.length)]) (st := []) dX12_counted_155 zX12_copy lX12_133 ⟨by decide, by decide⟩ rfl rfl ⟨by decide, by decide⟩ rfl (Nat.le_of_ble_eq_true rfl) (oX12_copy S_49 hn (p := 73) (q := 82) rfl rfl 0 1 N.length (by show 0 + N.length ≤ 64; omega) (by show 1 + N.length ≤ 16; omega) (by decide)) (fun h_50 r_ q_51 => ?_)
    obtain ⟨rfl, S_52, F_53⟩ := q_51
    have S_54 : MO h_50 (uo ψ_36 82 (cpB (ψ_36 73) 0 (updB (pt (ψ_36 82) 0 (0, 0)) 0 (t8 (lcF A (15 - N.length) mm))) 1 N.length)) z i := by have z_ := S_52; rw [uo_uo] at z_; exact z_
    refine R_aload_n (pc := 158) 1 dX12_counted_158 rfl rfl ?_
    refine R_get (pc := 159) dX12_counted_159 fX12_74 S_54.obj (by omega) rfl ?_
    refine R_bipush (pc := 162) (v := 14) dX12_counted_162 (by decide) ?_
    refine R_dup2 (pc := 164) dX12_counted_164 rfl rfl ?_
    refine R_iald' (pc := 165) (j := 14) dX12_counted_165 (S_54.arr (p := 82) rfl) (by omega) ⟨rfl, by show 14 < 16; omega, by decide⟩ ?_
    refine R_eqi (y := oc ((cpB (ψ_36 73) 0 (updB (pt (ψ_36 82) 0 (0, 0)) 0 (t8 (lcF A (15 - N.length) mm))) 1 N.length) 14)) rfl ?_
    refine R_iload_n (pc := 166) 3 dX12_counted_166 rfl rfl ?_
    refine R_bipush (pc := 167) (v := 8) dX12_counted_167 (by decide) ?_
    refine R_ishr (pc := 169) dX12_counted_169 ?_
    refine R_eqi (y := oc (t8 (nI D.length >>> ((8 : Int32) &&& 31)))) (sh8_512 _ (by omega)) ?_
    refine R_ixor (pc := 170) dX12_counted_170 ?_
    refine R_eqi (y := oc (((cpB (ψ_36 73) 0 (updB (pt (ψ_36 82) 0 (0, 0)) 0 (t8 (lcF A (15 - N.length) mm))) 1 N.length) 14) ^^^ (t8 (nI D.length >>> ((8 : Int32) &&& 31))))) (oc_xor _ _) ?_
    refine R_iast' (pc := 171) (j := 14) dX12_counted_171 (S_54.arr (p := 82) rfl) (by omega) ⟨rfl, by show 14 < 16; omega, by decide⟩ (fun h_55 f_56 g_57 => ?_)
    have S_59 : MO h_55 (uo ψ_36 82 (updB (cpB (ψ_36 73) 0 (updB (pt (ψ_36 82) 0 (0, 0)) 0 (t8 (lcF A (15 - N.length) mm))) 1 N.length) 14 (((cpB (ψ_36 73) 0 (updB (pt (ψ_36 82) 0 (0, 0)) 0 (t8 (lcF A (15 - N.length) mm))) 1 N.length) 14) ^^^ (t8 (nI D.length >>> ((8 : Int32) &&& 31)))))) z i := by have z_ := MO.setA (p := 82) S_54 rfl f_56 g_57 (fun j_ => congrFun (upd_oc _ _ _) j_); rw [uo_uo] at z_; exact z_
    have F_58 := fmA (p := 82) (okA_c (by decide)).1 g_57
    refine R_aload_n (pc := 172) 1 dX12_counted_172 rfl rfl ?_
    refine R_get (pc := 173) dX12_counted_173 fX12_74 S_59.obj (by omega) rfl ?_
    refine R_bipush (pc := 176) (v := 15) dX12_counted_176 (by decide) ?_
    refine R_dup2 (pc := 178) dX12_counted_178 rfl rfl ?_
    refine R_iald' (pc := 179) (j := 15) dX12_counted_179 (S_59.arr (p := 82) rfl) (by omega) ⟨rfl, by show 15 < 16; omega, by decide⟩ ?_
    refine R_eqi (y := oc ((updB (cpB (ψ_36 73) 0 (updB (pt (ψ_36 82) 0 (0, 0)) 0 (t8 (lcF A (15 - N.length) mm))) 1 N.length) 14 (((cpB (ψ_36 73) 0 (updB (pt (ψ_36 82) 0 (0, 0)) 0 (t8 (lcF A (15 - N.length) mm))) 1 N.length) 14) ^^^ (t8 (nI D.length >>> ((8 : Int32) &&& 31))))) 15)) rfl ?_
    refine R_iload_n (pc := 180) 3 dX12_counted_180 rfl rfl ?_
    refine R_sipush (pc := 181) (v := 255) dX12_counted_181 (by decide) ?_
    refine R_iand (pc := 184) dX12_counted_184 ?_
    refine R_eqi (y := oc (t8 (nI D.length))) (oc_t8 _) ?_
    refine R_ixor (pc := 185) dX12_counted_185 ?_
    refine R_eqi (y := oc (((updB (cpB (ψ_36 73) 0 (updB (pt (ψ_36 82) 0 (0, 0)) 0 (t8 (lcF A (15 - N.length) mm))) 1 N.length) 14 (((cpB (ψ_36 73) 0 (updB (pt (ψ_36 82) 0 (0, 0)) 0 (t8 (lcF A (15 - N.length) mm))) 1 N.length) 14) ^^^ (t8 (nI D.length >>> ((8 : Int32) &&& 31))))) 15) ^^^ (t8 (nI D.length)))) (oc_xor _ _) ?_
    refine R_iast' (pc := 186) (j := 15) dX12_counted_186 (S_59.arr (p := 82) rfl) (by omega) ⟨rfl, by show 15 < 16; omega, by decide⟩ (fun h_60 f_61 g_62 => ?_)
    have S_64 : MO h_60 (uo ψ_36 82 (updB (updB (cpB (ψ_36 73) 0 (updB (pt (ψ_36 82) 0 (0, 0)) 0 (t8 (lcF A (15 - N.length) mm))) 1 N.length) 14 (((cpB (ψ_36 73) 0 (updB (pt (ψ_36 82) 0 (0, 0)) 0 (t8 (lcF A (15 - N.length) mm))) 1 N.length) 14) ^^^ (t8 (nI D.length >>> ((8 : Int32) &&& 31))))) 15 (((updB (cpB (ψ_36 73) 0 (updB (pt (ψ_36 82) 0 (0, 0)) 0 (t8 (lcF A (15 - N.length) mm))) 1 N.length) 14 (((cpB (ψ_36 73) 0 (updB (pt (ψ_36 82) 0 (0, 0)) 0 (t8 (lcF A (15 - N.length) mm))) 1 N.length) 14) ^^^ (t8 (nI D.length >>> ((8 : Int32) &&& 31))))) 15) ^^^ (t8 (nI D.length))))) z i := by have z_ := MO.setA (p := 82) S_59 rfl f_61 g_62 (fun j_ => congrFun (upd_oc _ _ _) j_); rw [uo_uo] at z_; exact z_
    have F_63 := fmA (p := 82) (okA_c (by decide)).1 g_62
    have e73 : ψ_36 73 = ψ 73 := (show FR [72, 75, 76, 82, 84, 85] ψ _ from (((((FR.rf _ _).up (by decide)).up (by decide)).up (by decide)).tr K_35 (by decide))) 73 (by decide)
    have eB : gt (updB (updB (cpB (ψ_36 73) 0 (updB (pt (ψ_36 82) 0 (0, 0)) 0 (t8 (lcF A (15 - N.length) mm))) 1 N.length) 14 (((cpB (ψ_36 73) 0 (updB (pt (ψ_36 82) 0 (0, 0)) 0 (t8 (lcF A (15 - N.length) mm))) 1 N.length) 14) ^^^ (t8 (nI D.length >>> ((8 : Int32) &&& 31))))) 15 (((updB (cpB (ψ_36 73) 0 (updB (pt (ψ_36 82) 0 (0, 0)) 0 (t8 (lcF A (15 - N.length) mm))) 1 N.length) 14 (((cpB (ψ_36 73) 0 (updB (pt (ψ_36 82) 0 (0, 0)) 0 (t8 (lcF A (15 - N.length) mm))) 1 N.length) 14) ^^^ (t8 (nI D.length >>> ((8 : Int32) &&& 31))))) 15) ^^^ (t8 (nI D.length)))) 0 = rd (lcB A N D.length (15 - N.length) mm) 0 := lc_gt (by omega) (by omega) (by omega) (by rw [e73]; exact hsN) rfl
    refine R_aload_n (pc := 187) 1 dX12_counted_187 rfl rfl ?_
    refine R_iconst (pc := 188) (v := 0) dX12_counted_188 (by decide) ?_
    refine R_aload_n (pc := 189) 1 dX12_counted_189 rfl rfl ?_
    refine R_get (pc := 190) dX12_counted_190 fX12_74 S_64.obj (by omega) rfl ?_
    refine R_iconst (pc := 193) (v := 0) dX12_counted_193 (by decide) ?_
    refine R_callVh (pc := 194) (μ' := mX12_sealBlock) (As := [.int (nI 0), .ref 82, .int (nI 0)]) (st := []) dX12_counted_194 zX12_sealBlock lX12_146 ⟨by decide, by decide⟩ rfl rfl ⟨by decide, by decide⟩ S_64.obj (by omega) rfl (Nat.le_of_ble_eq_true rfl) (oX12_sealBlock S_64 hn (K_38.uo (by decide)) (p := 82) rfl 0 (by show 0 + 16 ≤ 16; omega)) (fun h_65 r_ q_66 => ?_)
    obtain ⟨rfl, S_67, F_68⟩ := q_66
    have S_69 : MO h_65 (uo ψ_36 82 (pt (updB (updB (cpB (ψ_36 73) 0 (updB (pt (ψ_36 82) 0 (0, 0)) 0 (t8 (lcF A (15 - N.length) mm))) 1 N.length) 14 (((cpB (ψ_36 73) 0 (updB (pt (ψ_36 82) 0 (0, 0)) 0 (t8 (lcF A (15 - N.length) mm))) 1 N.length) 14) ^^^ (t8 (nI D.length >>> ((8 : Int32) &&& 31))))) 15 (((updB (cpB (ψ_36 73) 0 (updB (pt (ψ_36 82) 0 (0, 0)) 0 (t8 (lcF A (15 - N.length) mm))) 1 N.length) 14 (((cpB (ψ_36 73) 0 (updB (pt (ψ_36 82) 0 (0, 0)) 0 (t8 (lcF A (15 - N.length) mm))) 1 N.length) 14) ^^^ (t8 (nI D.length >>> ((8 : Int32) &&& 31))))) 15) ^^^ (t8 (nI D.length)))) 0 (F (gt (updB (updB (cpB (ψ_36 73) 0 (updB (pt (ψ_36 82) 0 (0, 0)) 0 (t8 (lcF A (15 - N.length) mm))) 1 N.length) 14 (((cpB (ψ_36 73) 0 (updB (pt (ψ_36 82) 0 (0, 0)) 0 (t8 (lcF A (15 - N.length) mm))) 1 N.length) 14) ^^^ (t8 (nI D.length >>> ((8 : Int32) &&& 31))))) 15 (((updB (cpB (ψ_36 73) 0 (updB (pt (ψ_36 82) 0 (0, 0)) 0 (t8 (lcF A (15 - N.length) mm))) 1 N.length) 14 (((cpB (ψ_36 73) 0 (updB (pt (ψ_36 82) 0 (0, 0)) 0 (t8 (lcF A (15 - N.length) mm))) 1 N.length) 14) ^^^ (t8 (nI D.length >>> ((8 : Int32) &&& 31))))) 15) ^^^ (t8 (nI D.length)))) 0)))) z i := by have z_ := S_67; rw [uo_uo] at z_; exact z_
    refine R_aload_n (pc := 197) 1 dX12_counted_197 rfl rfl ?_
    refine R_get (pc := 198) dX12_counted_198 fX12_140 S_69.obj (by omega) rfl ?_
    refine R_eqi (y := nI A.length) (hi6) ?_
    refine R_if_le (pc := 201) (tgt := 262) dX12_counted_201 (by decide) (fun c_70 => ?_) (fun c_70 => absurd (c_44) c_70)
    refine R_aload_n (pc := 262) 1 dX12_counted_262 rfl rfl ?_
    refine R_iload_n (pc := 263) 2 dX12_counted_263 rfl rfl ?_
    refine R_if_eq (pc := 264) (tgt := 274) dX12_counted_264 (by decide) (fun c_71 => ?_) (fun c_71 => absurd (rfl) c_71)
    refine R_aload_n (pc := 274) 1 dX12_counted_274 rfl rfl ?_
    refine R_get (pc := 275) dX12_counted_275 fX12_41 S_69.obj (by omega) rfl ?_
    refine R_iload_n (pc := 278) 3 dX12_counted_278 rfl rfl ?_
    refine R_callVh (pc := 279) (μ' := mX12_chained) (As := [.ref 71, .int (nI D.length)]) (st := []) dX12_counted_279 zX12_chained lX12_208 ⟨by decide, by decide⟩ rfl rfl ⟨by decide, by decide⟩ S_69.obj (by omega) rfl (Nat.le_of_ble_eq_true rfl) (oX12_chained S_69 hn (p := 71) rfl (by decide) D (by omega) (by show D.length ≤ 700; omega) (show sg (ψ_36 71) 0 D by rw [show ψ_36 71 = ψ 71 from (show FR [72, 75, 76, 82, 84, 85] ψ _ from (((((FR.rf _ _).up (by decide)).up (by decide)).up (by decide)).tr K_35 (by decide))) 71 (by decide)]; exact hsD) (K_38.uo (by decide))) (fun h_72 r_ q_73 => ?_)
    obtain ⟨ψ_77, rfl, S_74, K_76, J_78, F_75⟩ := q_73
    have K_79 := (K_38.uo (by decide)).fr K_76 (by decide) (by decide) (by decide) (by decide)
    have s279 : gt (ψ_77 82) 0 = cyN (csS F D) (gt (pt (updB (updB (cpB (ψ_36 73) 0 (updB (pt (ψ_36 82) 0 (0, 0)) 0 (t8 (lcF A (15 - N.length) mm))) 1 N.length) 14 (((cpB (ψ_36 73) 0 (updB (pt (ψ_36 82) 0 (0, 0)) 0 (t8 (lcF A (15 - N.length) mm))) 1 N.length) 14) ^^^ (t8 (nI D.length >>> ((8 : Int32) &&& 31))))) 15 (((updB (cpB (ψ_36 73) 0 (updB (pt (ψ_36 82) 0 (0, 0)) 0 (t8 (lcF A (15 - N.length) mm))) 1 N.length) 14 (((cpB (ψ_36 73) 0 (updB (pt (ψ_36 82) 0 (0, 0)) 0 (t8 (lcF A (15 - N.length) mm))) 1 N.length) 14) ^^^ (t8 (nI D.length >>> ((8 : Int32) &&& 31))))) 15) ^^^ (t8 (nI D.length)))) 0 (F (gt (updB (updB (cpB (ψ_36 73) 0 (updB (pt (ψ_36 82) 0 (0, 0)) 0 (t8 (lcF A (15 - N.length) mm))) 1 N.length) 14 (((cpB (ψ_36 73) 0 (updB (pt (ψ_36 82) 0 (0, 0)) 0 (t8 (lcF A (15 - N.length) mm))) 1 N.length) 14) ^^^ (t8 (nI D.length >>> ((8 : Int32) &&& 31))))) 15 (((updB (cpB (ψ_36 73) 0 (updB (pt (ψ_36 82) 0 (0, 0)) 0 (t8 (lcF A (15 - N.length) mm))) 1 N.length) 14 (((cpB (ψ_36 73) 0 (updB (pt (ψ_36 82) 0 (0, 0)) 0 (t8 (lcF A (15 - N.length) mm))) 1 N.length) 14) ^^^ (t8 (nI D.length >>> ((8 : Int32) &&& 31))))) 15) ^^^ (t8 (nI D.length)))) 0))) 0) (nbk D) := J_78
    have t279 : ψ_77 85 = ψ_36 85 := K_76 85 (by decide)
    have y279 : ψ_77 72 = ψ_36 72 := K_76 72 (by decide)
    refine R_aload_n (pc := 282) 1 dX12_counted_282 rfl rfl ?_
    refine R_get (pc := 283) dX12_counted_283 fX12_74 S_74.obj (by omega) rfl ?_
    refine R_iconst (pc := 286) (v := 0) dX12_counted_286 (by decide) ?_
    refine R_aload_n (pc := 287) 1 dX12_counted_287 rfl rfl ?_
    refine R_get (pc := 288) dX12_counted_288 fX12_83 S_74.obj (by omega) rfl ?_
    refine R_iconst (pc := 291) (v := 0) dX12_counted_291 (by decide) ?_
    refine R_bipush (pc := 292) (v := 16) dX12_counted_292 (by decide) ?_
    refine R_callSh (pc := 294) (μ' := mX12_add) (As := [.ref 82, .int (nI 0), .ref 85, .int (nI 0), .int 16]) (st := []) dX12_counted_294 zX12_add lX12_143 ⟨by decide, by decide⟩ rfl rfl ⟨by decide, by decide⟩ rfl (Nat.le_of_ble_eq_true rfl) (oX12_add16 S_74 hn (p := 82) (q := 85) rfl rfl 0 0 (by show 0 + 16 ≤ 16; omega) (by show 0 + 16 ≤ 16; omega) (by decide)) (fun h_80 r_ q_81 => ?_)
    obtain ⟨rfl, S_82, F_83⟩ := q_81
    have S_84 : MO h_80 (uo ψ_77 85 (pt (ψ_77 85) 0 (xb (gt (ψ_77 85) 0) (gt (ψ_77 82) 0)))) z i := S_82
    have hlen : (D).length = D.length := rfl
    have hy : gt (pt (ψ_77 85) 0 (xb (gt (ψ_77 85) 0) (gt (ψ_77 82) 0))) 0 = cnT F A N D (15 - N.length) mm := by
      unfold cnT
      rw [csm_0 F D (by omega) c_44, hlen, gt_pt, s279]
      simp only [gt_pt, pt_pt]
      rw [eB, t279, t93]
      simp only [gt_pt, pt_pt]
      rw [eC, xb_comm]
    have hz : sg (ψ_77 72) 0 (ctO F D (one1 (cnB N (15 - N.length)))) := by rw [y279]; exact yC
    exact R_vreturn (pc := 297) dX12_counted_297 rfl (by decide) (by decide) ⟨rfl, _, rfl, S_84, ((((((((FR.rf _ _).up (by decide)).up (by decide)).up (by decide)).tr K_35 (by decide)).up (by decide)).tr K_76 (by decide)).up (by decide)), ⟨hz, hy⟩, ((((((((((((((F_4.tr F_9).tr F_14).tr F_19).tr F_24).tr F_29).tr F_34).tr F_42).tr F_48).tr F_53).tr F_58).tr F_63).tr F_68).tr F_75).tr F_83)⟩
  · skip
    have nc_44 : ¬ (A.length ≤ 0) := fun q_ => c_44 ((nI_leI (a := A.length) (b := 0) (by omega) (by omega)).mpr q_)
    refine R_bipush (pc := 118) (v := 64) dX12_counted_118 (by decide) ?_
    refine R_goto (pc := 120) (tgt := 124) dX12_counted_120 (by decide) ?_
    refine R_bipush (pc := 124) (v := 8) dX12_counted_124 (by decide) ?_
    refine R_aload_n (pc := 126) 1 dX12_counted_126 rfl rfl ?_
    refine R_get (pc := 127) dX12_counted_127 fX12_16 S_43.obj (by omega) rfl ?_
    refine R_eqi (y := nI mm) (hi1) ?_
    refine R_iconst (pc := 130) (v := 2) dX12_counted_130 (by decide) ?_
    refine R_isub (pc := 131) dX12_counted_131 ?_
    refine R_eqi (y := nI (mm - 2)) (nI_sb (a := mm) (b := 2) (by omega)) ?_
    refine R_iconst (pc := 132) (v := 2) dX12_counted_132 (by decide) ?_
    refine R_idiv (pc := 133) dX12_counted_133 (by decide) ?_
    refine R_eqi (y := nI ((mm - 2) / 2)) (nI_div (a := mm - 2) (b := 2) (by omega) (by omega)) ?_
    refine R_imul (pc := 134) dX12_counted_134 ?_
    refine R_eqi (y := nI (8 * ((mm - 2) / 2))) (nI_mul 8 ((mm - 2) / 2)) ?_
    refine R_iadd (pc := 135) dX12_counted_135 ?_
    refine R_eqi (y := nI (64 + (8 * ((mm - 2) / 2)))) (nI_add 64 (8 * ((mm - 2) / 2))) ?_
    refine R_iload_n (pc := 136) 0 dX12_counted_136 rfl rfl ?_
    refine R_iadd (pc := 137) dX12_counted_137 ?_
    refine R_eqi (y := nI (64 + (8 * ((mm - 2) / 2)) + (15 - N.length))) (nI_add (64 + (8 * ((mm - 2) / 2))) (15 - N.length)) ?_
    refine R_iconst (pc := 138) (v := 1) dX12_counted_138 (by decide) ?_
    refine R_isub (pc := 139) dX12_counted_139 ?_
    refine R_eqi (y := oc (t8 (lcF A (15 - N.length) mm))) ((nI_sb (a := 64 + 8 * ((mm - 2) / 2) + (15 - N.length)) (b := 1) (by omega)).trans (lcF_n (q := 15 - N.length) (mm := mm) c_44 (by omega) (by omega))) ?_
    refine R_iast' (pc := 140) (j := 0) dX12_counted_140 (S_43.arr (p := 82) rfl) (by omega) ⟨rfl, by show 0 < 16; omega, by decide⟩ (fun h_85 f_86 g_87 => ?_)
    have S_89 : MO h_85 (uo ψ_36 82 (updB (pt (ψ_36 82) 0 (0, 0)) 0 (t8 (lcF A (15 - N.length) mm)))) z i := by have z_ := MO.setA (p := 82) S_43 rfl f_86 g_87 (fun j_ => congrFun (upd_oc _ _ _) j_); rw [uo_uo] at z_; exact z_
    have F_88 := fmA (p := 82) (okA_c (by decide)).1 g_87
    refine R_aload_n (pc := 141) 1 dX12_counted_141 rfl rfl ?_
    refine R_get (pc := 142) dX12_counted_142 fX12_47 S_89.obj (by omega) rfl ?_
    refine R_iconst (pc := 145) (v := 0) dX12_counted_145 (by decide) ?_
    refine R_aload_n (pc := 146) 1 dX12_counted_146 rfl rfl ?_
    refine R_get (pc := 147) dX12_counted_147 fX12_74 S_89.obj (by omega) rfl ?_
    refine R_iconst (pc := 150) (v := 1) dX12_counted_150 (by decide) ?_
    refine R_aload_n (pc := 151) 1 dX12_counted_151 rfl rfl ?_
    refine R_get (pc := 152) dX12_counted_152 fX12_137 S_89.obj (by omega) rfl ?_
    refine R_eqi (y := nI N.length) (hi5) ?_
    refine R_callSh (pc := 155) (μ' := mX12_copy) (As := [.ref 73, .int (nI 0), .ref 82, .int (nI 1), .int (nI N.length)]) (st := []) dX12_counted_155 zX12_copy lX12_133 ⟨by decide, by decide⟩ rfl rfl ⟨by decide, by decide⟩ rfl (Nat.le_of_ble_eq_true rfl) (oX12_copy S_89 hn (p := 73) (q := 82) rfl rfl 0 1 N.length (by show 0 + N.length ≤ 64; omega) (by show 1 + N.length ≤ 16; omega) (by decide)) (fun h_90 r_ q_91 => ?_)
    obtain ⟨rfl, S_92, F_93⟩ := q_91
    have S_94 : MO h_90 (uo ψ_36 82 (cpB (ψ_36 73) 0 (updB (pt (ψ_36 82) 0 (0, 0)) 0 (t8 (lcF A (15 - N.length) mm))) 1 N.length)) z i := by have z_ := S_92; rw [uo_uo] at z_; exact z_
    refine R_aload_n (pc := 158) 1 dX12_counted_158 rfl rfl ?_
    refine R_get (pc := 159) dX12_counted_159 fX12_74 S_94.obj (by omega) rfl ?_
    refine R_bipush (pc := 162) (v := 14) dX12_counted_162 (by decide) ?_
    refine R_dup2 (pc := 164) dX12_counted_164 rfl rfl ?_
    refine R_iald' (pc := 165) (j := 14) dX12_counted_165 (S_94.arr (p := 82) rfl) (by omega) ⟨rfl, by show 14 < 16; omega, by decide⟩ ?_
    refine R_eqi (y := oc ((cpB (ψ_36 73) 0 (updB (pt (ψ_36 82) 0 (0, 0)) 0 (t8 (lcF A (15 - N.length) mm))) 1 N.length) 14)) rfl ?_
    refine R_iload_n (pc := 166) 3 dX12_counted_166 rfl rfl ?_
    refine R_bipush (pc := 167) (v := 8) dX12_counted_167 (by decide) ?_
    refine R_ishr (pc := 169) dX12_counted_169 ?_
    refine R_eqi (y := oc (t8 (nI D.length >>> ((8 : Int32) &&& 31)))) (sh8_512 _ (by omega)) ?_
    refine R_ixor (pc := 170) dX12_counted_170 ?_
    refine R_eqi (y := oc (((cpB (ψ_36 73) 0 (updB (pt (ψ_36 82) 0 (0, 0)) 0 (t8 (lcF A (15 - N.length) mm))) 1 N.length) 14) ^^^ (t8 (nI D.length >>> ((8 : Int32) &&& 31))))) (oc_xor _ _) ?_
    refine R_iast' (pc := 171) (j := 14) dX12_counted_171 (S_94.arr (p := 82) rfl) (by omega) ⟨rfl, by show 14 < 16; omega, by decide⟩ (fun h_95 f_96 g_97 => ?_)
    have S_99 : MO h_95 (uo ψ_36 82 (updB (cpB (ψ_36 73) 0 (updB (pt (ψ_36 82) 0 (0, 0)) 0 (t8 (lcF A (15 - N.length) mm))) 1 N.length) 14 (((cpB (ψ_36 73) 0 (updB (pt (ψ_36 82) 0 (0, 0)) 0 (t8 (lcF A (15 - N.length) mm))) 1 N.length) 14) ^^^ (t8 (nI D.length >>> ((8 : Int32) &&& 31)))))) z i := by have z_ := MO.setA (p := 82) S_94 rfl f_96 g_97 (fun j_ => congrFun (upd_oc _ _ _) j_); rw [uo_uo] at z_; exact z_
    have F_98 := fmA (p := 82) (okA_c (by decide)).1 g_97
    refine R_aload_n (pc := 172) 1 dX12_counted_172 rfl rfl ?_
    refine R_get (pc := 173) dX12_counted_173 fX12_74 S_99.obj (by omega) rfl ?_
    refine R_bipush (pc := 176) (v := 15) dX12_counted_176 (by decide) ?_
    refine R_dup2 (pc := 178) dX12_counted_178 rfl rfl ?_
    refine R_iald' (pc := 179) (j := 15) dX12_counted_179 (S_99.arr (p := 82) rfl) (by omega) ⟨rfl, by show 15 < 16; omega, by decide⟩ ?_
    refine R_eqi (y := oc ((updB (cpB (ψ_36 73) 0 (updB (pt (ψ_36 82) 0 (0, 0)) 0 (t8 (lcF A (15 - N.length) mm))) 1 N.length) 14 (((cpB (ψ_36 73) 0 (updB (pt (ψ_36 82) 0 (0, 0)) 0 (t8 (lcF A (15 - N.length) mm))) 1 N.length) 14) ^^^ (t8 (nI D.length >>> ((8 : Int32) &&& 31))))) 15)) rfl ?_
    refine R_iload_n (pc := 180) 3 dX12_counted_180 rfl rfl ?_
    refine R_sipush (pc := 181) (v := 255) dX12_counted_181 (by decide) ?_
    refine R_iand (pc := 184) dX12_counted_184 ?_
    refine R_eqi (y := oc (t8 (nI D.length))) (oc_t8 _) ?_
    refine R_ixor (pc := 185) dX12_counted_185 ?_
    refine R_eqi (y := oc (((updB (cpB (ψ_36 73) 0 (updB (pt (ψ_36 82) 0 (0, 0)) 0 (t8 (lcF A (15 - N.length) mm))) 1 N.length) 14 (((cpB (ψ_36 73) 0 (updB (pt (ψ_36 82) 0 (0, 0)) 0 (t8 (lcF A (15 - N.length) mm))) 1 N.length) 14) ^^^ (t8 (nI D.length >>> ((8 : Int32) &&& 31))))) 15) ^^^ (t8 (nI D.length)))) (oc_xor _ _) ?_
    refine R_iast' (pc := 186) (j := 15) dX12_counted_186 (S_99.arr (p := 82) rfl) (by omega) ⟨rfl, by show 15 < 16; omega, by decide⟩ (fun h_100 f_101 g_102 => ?_)
    have S_104 : MO h_100 (uo ψ_36 82 (updB (updB (cpB (ψ_36 73) 0 (updB (pt (ψ_36 82) 0 (0, 0)) 0 (t8 (lcF A (15 - N.length) mm))) 1 N.length) 14 (((cpB (ψ_36 73) 0 (updB (pt (ψ_36 82) 0 (0, 0)) 0 (t8 (lcF A (15 - N.length) mm))) 1 N.length) 14) ^^^ (t8 (nI D.length >>> ((8 : Int32) &&& 31))))) 15 (((updB (cpB (ψ_36 73) 0 (updB (pt (ψ_36 82) 0 (0, 0)) 0 (t8 (lcF A (15 - N.length) mm))) 1 N.length) 14 (((cpB (ψ_36 73) 0 (updB (pt (ψ_36 82) 0 (0, 0)) 0 (t8 (lcF A (15 - N.length) mm))) 1 N.length) 14) ^^^ (t8 (nI D.length >>> ((8 : Int32) &&& 31))))) 15) ^^^ (t8 (nI D.length))))) z i := by have z_ := MO.setA (p := 82) S_99 rfl f_101 g_102 (fun j_ => congrFun (upd_oc _ _ _) j_); rw [uo_uo] at z_; exact z_
    have F_103 := fmA (p := 82) (okA_c (by decide)).1 g_102
    have e73 : ψ_36 73 = ψ 73 := (show FR [72, 75, 76, 82, 84, 85] ψ _ from (((((FR.rf _ _).up (by decide)).up (by decide)).up (by decide)).tr K_35 (by decide))) 73 (by decide)
    have eB : gt (updB (updB (cpB (ψ_36 73) 0 (updB (pt (ψ_36 82) 0 (0, 0)) 0 (t8 (lcF A (15 - N.length) mm))) 1 N.length) 14 (((cpB (ψ_36 73) 0 (updB (pt (ψ_36 82) 0 (0, 0)) 0 (t8 (lcF A (15 - N.length) mm))) 1 N.length) 14) ^^^ (t8 (nI D.length >>> ((8 : Int32) &&& 31))))) 15 (((updB (cpB (ψ_36 73) 0 (updB (pt (ψ_36 82) 0 (0, 0)) 0 (t8 (lcF A (15 - N.length) mm))) 1 N.length) 14 (((cpB (ψ_36 73) 0 (updB (pt (ψ_36 82) 0 (0, 0)) 0 (t8 (lcF A (15 - N.length) mm))) 1 N.length) 14) ^^^ (t8 (nI D.length >>> ((8 : Int32) &&& 31))))) 15) ^^^ (t8 (nI D.length)))) 0 = rd (lcB A N D.length (15 - N.length) mm) 0 := lc_gt (by omega) (by omega) (by omega) (by rw [e73]; exact hsN) rfl
    refine R_aload_n (pc := 187) 1 dX12_counted_187 rfl rfl ?_
    refine R_iconst (pc := 188) (v := 0) dX12_counted_188 (by decide) ?_
    refine R_aload_n (pc := 189) 1 dX12_counted_189 rfl rfl ?_
    refine R_get (pc := 190) dX12_counted_190 fX12_74 S_104.obj (by omega) rfl ?_
    refine R_iconst (pc := 193) (v := 0) dX12_counted_193 (by decide) ?_
    refine R_callVh (pc := 194) (μ' := mX12_sealBlock) (As := [.int (nI 0), .ref 82, .int (nI 0)]) (st := []) dX12_counted_194 zX12_sealBlock lX12_146 ⟨by decide, by decide⟩ rfl rfl ⟨by decide, by decide⟩ S_104.obj (by omega) rfl (Nat.le_of_ble_eq_true rfl) (oX12_sealBlock S_104 hn (K_38.uo (by decide)) (p := 82) rfl 0 (by show 0 + 16 ≤ 16; omega)) (fun h_105 r_ q_106 => ?_)
    obtain ⟨rfl, S_107, F_108⟩ := q_106
    have S_109 : MO h_105 (uo ψ_36 82 (pt (updB (updB (cpB (ψ_36 73) 0 (updB (pt (ψ_36 82) 0 (0, 0)) 0 (t8 (lcF A (15 - N.length) mm))) 1 N.length) 14 (((cpB (ψ_36 73) 0 (updB (pt (ψ_36 82) 0 (0, 0)) 0 (t8 (lcF A (15 - N.length) mm))) 1 N.length) 14) ^^^ (t8 (nI D.length >>> ((8 : Int32) &&& 31))))) 15 (((updB (cpB (ψ_36 73) 0 (updB (pt (ψ_36 82) 0 (0, 0)) 0 (t8 (lcF A (15 - N.length) mm))) 1 N.length) 14 (((cpB (ψ_36 73) 0 (updB (pt (ψ_36 82) 0 (0, 0)) 0 (t8 (lcF A (15 - N.length) mm))) 1 N.length) 14) ^^^ (t8 (nI D.length >>> ((8 : Int32) &&& 31))))) 15) ^^^ (t8 (nI D.length)))) 0 (F (gt (updB (updB (cpB (ψ_36 73) 0 (updB (pt (ψ_36 82) 0 (0, 0)) 0 (t8 (lcF A (15 - N.length) mm))) 1 N.length) 14 (((cpB (ψ_36 73) 0 (updB (pt (ψ_36 82) 0 (0, 0)) 0 (t8 (lcF A (15 - N.length) mm))) 1 N.length) 14) ^^^ (t8 (nI D.length >>> ((8 : Int32) &&& 31))))) 15 (((updB (cpB (ψ_36 73) 0 (updB (pt (ψ_36 82) 0 (0, 0)) 0 (t8 (lcF A (15 - N.length) mm))) 1 N.length) 14 (((cpB (ψ_36 73) 0 (updB (pt (ψ_36 82) 0 (0, 0)) 0 (t8 (lcF A (15 - N.length) mm))) 1 N.length) 14) ^^^ (t8 (nI D.length >>> ((8 : Int32) &&& 31))))) 15) ^^^ (t8 (nI D.length)))) 0)))) z i := by have z_ := S_107; rw [uo_uo] at z_; exact z_
    refine R_aload_n (pc := 197) 1 dX12_counted_197 rfl rfl ?_
    refine R_get (pc := 198) dX12_counted_198 fX12_140 S_109.obj (by omega) rfl ?_
    refine R_eqi (y := nI A.length) (hi6) ?_
    refine R_if_le (pc := 201) (tgt := 262) dX12_counted_201 (by decide) (fun c_110 => absurd c_110 (c_44)) (fun c_110 => ?_)
    refine R_aload_n (pc := 204) 1 dX12_counted_204 rfl rfl ?_
    refine R_get (pc := 205) dX12_counted_205 fX12_80 S_109.obj (by omega) rfl ?_
    refine R_iconst (pc := 208) (v := 0) dX12_counted_208 (by decide) ?_
    refine R_aload_n (pc := 209) 1 dX12_counted_209 rfl rfl ?_
    refine R_get (pc := 210) dX12_counted_210 fX12_140 S_109.obj (by omega) rfl ?_
    refine R_eqi (y := nI A.length) (hi6) ?_
    refine R_bipush (pc := 213) (v := 8) dX12_counted_213 (by decide) ?_
    refine R_ishr (pc := 215) dX12_counted_215 ?_
    refine R_eqi (y := oc (t8 (nI A.length >>> ((8 : Int32) &&& 31)))) (sh8_512 _ (by omega)) ?_
    refine R_iast' (pc := 216) (j := 0) dX12_counted_216 (S_109.arr (p := 84) rfl) (by omega) ⟨rfl, by show 0 < 700; omega, by decide⟩ (fun h_111 f_112 g_113 => ?_)
    have S_115 : MO h_111 (uo (uo ψ_36 82 (pt (updB (updB (cpB (ψ_36 73) 0 (updB (pt (ψ_36 82) 0 (0, 0)) 0 (t8 (lcF A (15 - N.length) mm))) 1 N.length) 14 (((cpB (ψ_36 73) 0 (updB (pt (ψ_36 82) 0 (0, 0)) 0 (t8 (lcF A (15 - N.length) mm))) 1 N.length) 14) ^^^ (t8 (nI D.length >>> ((8 : Int32) &&& 31))))) 15 (((updB (cpB (ψ_36 73) 0 (updB (pt (ψ_36 82) 0 (0, 0)) 0 (t8 (lcF A (15 - N.length) mm))) 1 N.length) 14 (((cpB (ψ_36 73) 0 (updB (pt (ψ_36 82) 0 (0, 0)) 0 (t8 (lcF A (15 - N.length) mm))) 1 N.length) 14) ^^^ (t8 (nI D.length >>> ((8 : Int32) &&& 31))))) 15) ^^^ (t8 (nI D.length)))) 0 (F (gt (updB (updB (cpB (ψ_36 73) 0 (updB (pt (ψ_36 82) 0 (0, 0)) 0 (t8 (lcF A (15 - N.length) mm))) 1 N.length) 14 (((cpB (ψ_36 73) 0 (updB (pt (ψ_36 82) 0 (0, 0)) 0 (t8 (lcF A (15 - N.length) mm))) 1 N.length) 14) ^^^ (t8 (nI D.length >>> ((8 : Int32) &&& 31))))) 15 (((updB (cpB (ψ_36 73) 0 (updB (pt (ψ_36 82) 0 (0, 0)) 0 (t8 (lcF A (15 - N.length) mm))) 1 N.length) 14 (((cpB (ψ_36 73) 0 (updB (pt (ψ_36 82) 0 (0, 0)) 0 (t8 (lcF A (15 - N.length) mm))) 1 N.length) 14) ^^^ (t8 (nI D.length >>> ((8 : Int32) &&& 31))))) 15) ^^^ (t8 (nI D.length)))) 0)))) 84 (updB (ψ_36 84) 0 (t8 (nI A.length >>> ((8 : Int32) &&& 31))))) z i := MO.setA (p := 84) S_109 rfl f_112 g_113 (fun j_ => congrFun (upd_oc _ _ _) j_)
    have F_114 := fmA (p := 84) (okA_c (by decide)).1 g_113
    refine R_aload_n (pc := 217) 1 dX12_counted_217 rfl rfl ?_
    refine R_get (pc := 218) dX12_counted_218 fX12_80 S_115.obj (by omega) rfl ?_
    refine R_iconst (pc := 221) (v := 1) dX12_counted_221 (by decide) ?_
    refine R_aload_n (pc := 222) 1 dX12_counted_222 rfl rfl ?_
    refine R_get (pc := 223) dX12_counted_223 fX12_140 S_115.obj (by omega) rfl ?_
    refine R_eqi (y := nI A.length) (hi6) ?_
    refine R_sipush (pc := 226) (v := 255) dX12_counted_226 (by decide) ?_
    refine R_iand (pc := 229) dX12_counted_229 ?_
    refine R_eqi (y := oc (t8 (nI A.length))) (oc_t8 _) ?_
    refine R_iast' (pc := 230) (j := 1) dX12_counted_230 (S_115.arr (p := 84) rfl) (by omega) ⟨rfl, by show 1 < 700; omega, by decide⟩ (fun h_116 f_117 g_118 => ?_)
    have S_120 : MO h_116 (uo (uo ψ_36 82 (pt (updB (updB (cpB (ψ_36 73) 0 (updB (pt (ψ_36 82) 0 (0, 0)) 0 (t8 (lcF A (15 - N.length) mm))) 1 N.length) 14 (((cpB (ψ_36 73) 0 (updB (pt (ψ_36 82) 0 (0, 0)) 0 (t8 (lcF A (15 - N.length) mm))) 1 N.length) 14) ^^^ (t8 (nI D.length >>> ((8 : Int32) &&& 31))))) 15 (((updB (cpB (ψ_36 73) 0 (updB (pt (ψ_36 82) 0 (0, 0)) 0 (t8 (lcF A (15 - N.length) mm))) 1 N.length) 14 (((cpB (ψ_36 73) 0 (updB (pt (ψ_36 82) 0 (0, 0)) 0 (t8 (lcF A (15 - N.length) mm))) 1 N.length) 14) ^^^ (t8 (nI D.length >>> ((8 : Int32) &&& 31))))) 15) ^^^ (t8 (nI D.length)))) 0 (F (gt (updB (updB (cpB (ψ_36 73) 0 (updB (pt (ψ_36 82) 0 (0, 0)) 0 (t8 (lcF A (15 - N.length) mm))) 1 N.length) 14 (((cpB (ψ_36 73) 0 (updB (pt (ψ_36 82) 0 (0, 0)) 0 (t8 (lcF A (15 - N.length) mm))) 1 N.length) 14) ^^^ (t8 (nI D.length >>> ((8 : Int32) &&& 31))))) 15 (((updB (cpB (ψ_36 73) 0 (updB (pt (ψ_36 82) 0 (0, 0)) 0 (t8 (lcF A (15 - N.length) mm))) 1 N.length) 14 (((cpB (ψ_36 73) 0 (updB (pt (ψ_36 82) 0 (0, 0)) 0 (t8 (lcF A (15 - N.length) mm))) 1 N.length) 14) ^^^ (t8 (nI D.length >>> ((8 : Int32) &&& 31))))) 15) ^^^ (t8 (nI D.length)))) 0)))) 84 (updB (updB (ψ_36 84) 0 (t8 (nI A.length >>> ((8 : Int32) &&& 31)))) 1 (t8 (nI A.length)))) z i := by have z_ := MO.setA (p := 84) S_115 rfl f_117 g_118 (fun j_ => congrFun (upd_oc _ _ _) j_); rw [uo_uo] at z_; exact z_
    have F_119 := fmA (p := 84) (okA_c (by decide)).1 g_118
    refine R_aload_n (pc := 231) 1 dX12_counted_231 rfl rfl ?_
    refine R_get (pc := 232) dX12_counted_232 fX12_50 S_120.obj (by omega) rfl ?_
    refine R_iconst (pc := 235) (v := 0) dX12_counted_235 (by decide) ?_
    refine R_aload_n (pc := 236) 1 dX12_counted_236 rfl rfl ?_
    refine R_get (pc := 237) dX12_counted_237 fX12_80 S_120.obj (by omega) rfl ?_
    refine R_iconst (pc := 240) (v := 2) dX12_counted_240 (by decide) ?_
    refine R_aload_n (pc := 241) 1 dX12_counted_241 rfl rfl ?_
    refine R_get (pc := 242) dX12_counted_242 fX12_140 S_120.obj (by omega) rfl ?_
    refine R_eqi (y := nI A.length) (hi6) ?_
    refine R_callSh (pc := 245) (μ' := mX12_copy) (As := [.ref 74, .int (nI 0), .ref 84, .int (nI 2), .int (nI A.length)]) (st := []) dX12_counted_245 zX12_copy lX12_133 ⟨by decide, by decide⟩ rfl rfl ⟨by decide, by decide⟩ rfl (Nat.le_of_ble_eq_true rfl) (oX12_copy S_120 hn (p := 74) (q := 84) rfl rfl 0 2 A.length (by show 0 + A.length ≤ 256; omega) (by show 2 + A.length ≤ 700; omega) (by decide)) (fun h_121 r_ q_122 => ?_)
    obtain ⟨rfl, S_123, F_124⟩ := q_122
    have S_125 : MO h_121 (uo (uo ψ_36 82 (pt (updB (updB (cpB (ψ_36 73) 0 (updB (pt (ψ_36 82) 0 (0, 0)) 0 (t8 (lcF A (15 - N.length) mm))) 1 N.length) 14 (((cpB (ψ_36 73) 0 (updB (pt (ψ_36 82) 0 (0, 0)) 0 (t8 (lcF A (15 - N.length) mm))) 1 N.length) 14) ^^^ (t8 (nI D.length >>> ((8 : Int32) &&& 31))))) 15 (((updB (cpB (ψ_36 73) 0 (updB (pt (ψ_36 82) 0 (0, 0)) 0 (t8 (lcF A (15 - N.length) mm))) 1 N.length) 14 (((cpB (ψ_36 73) 0 (updB (pt (ψ_36 82) 0 (0, 0)) 0 (t8 (lcF A (15 - N.length) mm))) 1 N.length) 14) ^^^ (t8 (nI D.length >>> ((8 : Int32) &&& 31))))) 15) ^^^ (t8 (nI D.length)))) 0 (F (gt (updB (updB (cpB (ψ_36 73) 0 (updB (pt (ψ_36 82) 0 (0, 0)) 0 (t8 (lcF A (15 - N.length) mm))) 1 N.length) 14 (((cpB (ψ_36 73) 0 (updB (pt (ψ_36 82) 0 (0, 0)) 0 (t8 (lcF A (15 - N.length) mm))) 1 N.length) 14) ^^^ (t8 (nI D.length >>> ((8 : Int32) &&& 31))))) 15 (((updB (cpB (ψ_36 73) 0 (updB (pt (ψ_36 82) 0 (0, 0)) 0 (t8 (lcF A (15 - N.length) mm))) 1 N.length) 14 (((cpB (ψ_36 73) 0 (updB (pt (ψ_36 82) 0 (0, 0)) 0 (t8 (lcF A (15 - N.length) mm))) 1 N.length) 14) ^^^ (t8 (nI D.length >>> ((8 : Int32) &&& 31))))) 15) ^^^ (t8 (nI D.length)))) 0)))) 84 (cpB (ψ_36 74) 0 (updB (updB (ψ_36 84) 0 (t8 (nI A.length >>> ((8 : Int32) &&& 31)))) 1 (t8 (nI A.length))) 2 A.length)) z i := by have z_ := S_123; rw [uo_uo] at z_; exact z_
    refine R_aload_n (pc := 248) 1 dX12_counted_248 rfl rfl ?_
    refine R_aload_n (pc := 249) 1 dX12_counted_249 rfl rfl ?_
    refine R_get (pc := 250) dX12_counted_250 fX12_80 S_125.obj (by omega) rfl ?_
    refine R_aload_n (pc := 253) 1 dX12_counted_253 rfl rfl ?_
    refine R_get (pc := 254) dX12_counted_254 fX12_140 S_125.obj (by omega) rfl ?_
    refine R_eqi (y := nI A.length) (hi6) ?_
    refine R_iconst (pc := 257) (v := 2) dX12_counted_257 (by decide) ?_
    refine R_iadd (pc := 258) dX12_counted_258 ?_
    refine R_eqi (y := nI (A.length + 2)) (nI_add A.length 2) ?_
    have lM : (lcM A).length = A.length + 2 := by unfold lcM; rw [List.length_append, List.length_append]; show 1 + 1 + A.length = _; omega
    have e74 : ψ_36 74 = ψ 74 := (show FR [72, 75, 76, 82, 84, 85] ψ _ from (((((FR.rf _ _).up (by decide)).up (by decide)).up (by decide)).tr K_35 (by decide))) 74 (by decide)
    have sM : sg (cpB (ψ_36 74) 0 (updB (updB (ψ_36 84) 0 (t8 (nI A.length >>> ((8 : Int32) &&& 31)))) 1 (t8 (nI A.length))) 2 A.length) 0 (lcM A) := by
      intro j_ hj_
      rw [lM] at hj_
      rw [Nat.zero_add]
      unfold lcM
      by_cases q_ : j_ < 2
      · rw [cpB_out _ _ _ (by omega), og_app_l (by rw [List.length_append]; exact q_)]
        rcases (show j_ = 0 ∨ j_ = 1 by omega) with rfl | rfl
        · rw [updB_n (by omega), updB_s]; rfl
        · rw [updB_s]; rfl
      · rw [og_app_r (by rw [List.length_append]; show 1 + 1 ≤ j_; omega)]
        have := (show sg (ψ_36 74) 0 A by rw [e74]; exact hsA).cp (updB (updB (ψ_36 84) 0 (t8 (nI A.length >>> ((8 : Int32) &&& 31)))) 1 (t8 (nI A.length))) 2 rfl (j_ - 2) (by omega)
        rw [show 2 + (j_ - 2) = j_ by omega] at this
        exact this
    refine R_eqi (y := nI (lcM A).length) (by rw [lM]) ?_
    refine R_callVh (pc := 259) (μ' := mX12_chained) (As := [.ref 84, .int (nI (lcM A).length)]) (st := []) dX12_counted_259 zX12_chained lX12_208 ⟨by decide, by decide⟩ rfl rfl ⟨by decide, by decide⟩ S_125.obj (by omega) rfl (Nat.le_of_ble_eq_true rfl) (oX12_chained S_125 hn (p := 84) rfl (by decide) (lcM A) (by rw [lM]; omega) (by rw [lM]; show A.length + 2 ≤ 700; omega) sM ((K_38.uo (by decide)).uo (by decide))) (fun h_126 r_ q_127 => ?_)
    obtain ⟨ψ_131, rfl, S_128, K_130, J_132, F_129⟩ := q_127
    have K_133 := ((K_38.uo (by decide)).uo (by decide)).fr K_130 (by decide) (by decide) (by decide) (by decide)
    have s259 : gt (ψ_131 82) 0 = cyN (csS F (lcM A)) (gt (pt (updB (updB (cpB (ψ_36 73) 0 (updB (pt (ψ_36 82) 0 (0, 0)) 0 (t8 (lcF A (15 - N.length) mm))) 1 N.length) 14 (((cpB (ψ_36 73) 0 (updB (pt (ψ_36 82) 0 (0, 0)) 0 (t8 (lcF A (15 - N.length) mm))) 1 N.length) 14) ^^^ (t8 (nI D.length >>> ((8 : Int32) &&& 31))))) 15 (((updB (cpB (ψ_36 73) 0 (updB (pt (ψ_36 82) 0 (0, 0)) 0 (t8 (lcF A (15 - N.length) mm))) 1 N.length) 14 (((cpB (ψ_36 73) 0 (updB (pt (ψ_36 82) 0 (0, 0)) 0 (t8 (lcF A (15 - N.length) mm))) 1 N.length) 14) ^^^ (t8 (nI D.length >>> ((8 : Int32) &&& 31))))) 15) ^^^ (t8 (nI D.length)))) 0 (F (gt (updB (updB (cpB (ψ_36 73) 0 (updB (pt (ψ_36 82) 0 (0, 0)) 0 (t8 (lcF A (15 - N.length) mm))) 1 N.length) 14 (((cpB (ψ_36 73) 0 (updB (pt (ψ_36 82) 0 (0, 0)) 0 (t8 (lcF A (15 - N.length) mm))) 1 N.length) 14) ^^^ (t8 (nI D.length >>> ((8 : Int32) &&& 31))))) 15 (((updB (cpB (ψ_36 73) 0 (updB (pt (ψ_36 82) 0 (0, 0)) 0 (t8 (lcF A (15 - N.length) mm))) 1 N.length) 14 (((cpB (ψ_36 73) 0 (updB (pt (ψ_36 82) 0 (0, 0)) 0 (t8 (lcF A (15 - N.length) mm))) 1 N.length) 14) ^^^ (t8 (nI D.length >>> ((8 : Int32) &&& 31))))) 15) ^^^ (t8 (nI D.length)))) 0))) 0) (nbk (lcM A)) := J_132
    have t259 : ψ_131 85 = ψ_36 85 := K_130 85 (by decide)
    have y259 : ψ_131 72 = ψ_36 72 := K_130 72 (by decide)
    refine R_aload_n (pc := 262) 1 dX12_counted_262 rfl rfl ?_
    refine R_iload_n (pc := 263) 2 dX12_counted_263 rfl rfl ?_
    refine R_if_eq (pc := 264) (tgt := 274) dX12_counted_264 (by decide) (fun c_134 => ?_) (fun c_134 => absurd (rfl) c_134)
    refine R_aload_n (pc := 274) 1 dX12_counted_274 rfl rfl ?_
    refine R_get (pc := 275) dX12_counted_275 fX12_41 S_128.obj (by omega) rfl ?_
    refine R_iload_n (pc := 278) 3 dX12_counted_278 rfl rfl ?_
    refine R_callVh (pc := 279) (μ' := mX12_chained) (As := [.ref 71, .int (nI D.length)]) (st := []) dX12_counted_279 zX12_chained lX12_208 ⟨by decide, by decide⟩ rfl rfl ⟨by decide, by decide⟩ S_128.obj (by omega) rfl (Nat.le_of_ble_eq_true rfl) (oX12_chained S_128 hn (p := 71) rfl (by decide) D (by omega) (by show D.length ≤ 700; omega) (show sg (ψ_131 71) 0 D by rw [show ψ_131 71 = ψ 71 from (show FR [72, 75, 76, 82, 84, 85] ψ _ from ((((((((FR.rf _ _).up (by decide)).up (by decide)).up (by decide)).tr K_35 (by decide)).up (by decide)).up (by decide)).tr K_130 (by decide))) 71 (by decide)]; exact hsD) K_133) (fun h_135 r_ q_136 => ?_)
    obtain ⟨ψ_140, rfl, S_137, K_139, J_141, F_138⟩ := q_136
    have K_142 := K_133.fr K_139 (by decide) (by decide) (by decide) (by decide)
    have s279 : gt (ψ_140 82) 0 = cyN (csS F D) (gt (ψ_131 82) 0) (nbk D) := J_141
    have t279 : ψ_140 85 = ψ_131 85 := K_139 85 (by decide)
    have y279 : ψ_140 72 = ψ_131 72 := K_139 72 (by decide)
    refine R_aload_n (pc := 282) 1 dX12_counted_282 rfl rfl ?_
    refine R_get (pc := 283) dX12_counted_283 fX12_74 S_137.obj (by omega) rfl ?_
    refine R_iconst (pc := 286) (v := 0) dX12_counted_286 (by decide) ?_
    refine R_aload_n (pc := 287) 1 dX12_counted_287 rfl rfl ?_
    refine R_get (pc := 288) dX12_counted_288 fX12_83 S_137.obj (by omega) rfl ?_
    refine R_iconst (pc := 291) (v := 0) dX12_counted_291 (by decide) ?_
    refine R_bipush (pc := 292) (v := 16) dX12_counted_292 (by decide) ?_
    refine R_callSh (pc := 294) (μ' := mX12_add) (As := [.ref 82, .int (nI 0), .ref 85, .int (nI 0), .int 16]) (st := []) dX12_counted_294 zX12_add lX12_143 ⟨by decide, by decide⟩ rfl rfl ⟨by decide, by decide⟩ rfl (Nat.le_of_ble_eq_true rfl) (oX12_add16 S_137 hn (p := 82) (q := 85) rfl rfl 0 0 (by show 0 + 16 ≤ 16; omega) (by show 0 + 16 ≤ 16; omega) (by decide)) (fun h_143 r_ q_144 => ?_)
    obtain ⟨rfl, S_145, F_146⟩ := q_144
    have S_147 : MO h_143 (uo ψ_140 85 (pt (ψ_140 85) 0 (xb (gt (ψ_140 85) 0) (gt (ψ_140 82) 0)))) z i := S_145
    have hlen : (D).length = D.length := rfl
    have hy : gt (pt (ψ_140 85) 0 (xb (gt (ψ_140 85) 0) (gt (ψ_140 82) 0))) 0 = cnT F A N D (15 - N.length) mm := by
      unfold cnT
      rw [csm_n F D (by omega) c_44, hlen, gt_pt, s279, s259]
      simp only [gt_pt, pt_pt]
      rw [eB, t279, t259, t93]
      simp only [gt_pt, pt_pt]
      rw [eC, xb_comm]
    have hz : sg (ψ_140 72) 0 (ctO F D (one1 (cnB N (15 - N.length)))) := by rw [y279, y259]; exact yC
    exact R_vreturn (pc := 297) dX12_counted_297 rfl (by decide) (by decide) ⟨rfl, _, rfl, S_147, ((((((((((FR.rf _ _).up (by decide)).up (by decide)).up (by decide)).tr K_35 (by decide)).up (by decide)).up (by decide)).tr K_130 (by decide)).tr K_139 (by decide)).up (by decide)), ⟨hz, hy⟩, ((((((((((((((((((F_4.tr F_9).tr F_14).tr F_19).tr F_24).tr F_29).tr F_34).tr F_42).tr F_88).tr F_93).tr F_98).tr F_103).tr F_108).tr F_114).tr F_119).tr F_124).tr F_129).tr F_138).tr F_146)⟩
set_option maxHeartbeats 1000000 in
set_option maxRecDepth 100000 in
theorem oX12_counted_o {l : Launch} {w : am_W} {h : am_H} {n : Nat} {ψ : Nat → oA} {z : fA} {i : mI} (S : MO h ψ z i) (hn : 90 ≤ n) (A N D : List (BitVec 8)) (mm : Nat) (hA : A.length ≤ 256) (hN7 : 7 ≤ N.length) (hN : N.length ≤ 13) (hD : D.length ≤ 512) (hmm : 4 ≤ mm) (hmm16 : mm ≤ 16) (hi1 : i 1 = nI mm) (hi5 : i 5 = nI N.length) (hi6 : i 6 = nI A.length) (hsA : sg (ψ 74) 0 A) (hsN : sg (ψ 73) 0 N) (hsD : sg (ψ 71) 0 D) {F G : bP → bP} (K0 : Kh ψ 0 F G) : RH l w mX12_counted h n [.ref 61, .int 1, .int (nI D.length)] (fun h2 q => ∃ ψ2, q = none ∧ MO h2 ψ2 z i ∧ FR [72, 75, 76, 82, 84, 85] ψ ψ2 ∧ (sg (ψ2 72) 0 (ctO F D (one1 (cnB N (15 - N.length)))) ∧ gt (ψ2 85) 0 = cnT F A N (ctO F D (one1 (cnB N (15 - N.length)))) (15 - N.length) mm) ∧ FM h h2) := by
  refine RC.of [(0, .ref 61), (1, .int 1), (2, .int (nI D.length))] (by decide +kernel) rfl (Nat.le_of_ble_eq_true rfl) ?_
  refine R_bipush (pc := 0) (v := 15) dX12_counted_0 (by decide) ?_
  refine R_aload_n (pc := 2) 0 dX12_counted_2 rfl rfl ?_
  refine R_get (pc := 3) dX12_counted_3 fX12_137 S.obj (by omega) rfl ?_
  refine R_eqi (y := nI N.length) (hi5) ?_
  refine R_isub (pc := 6) dX12_counted_6 ?_
  refine R_eqi (y := nI (15 - N.length)) (nI_sb (a := 15) (b := N.length) (by omega)) ?_
  refine R_istore_n (pc := 7) (lv' := [(3, .int (nI (15 - N.length))), (0, .ref 61), (1, .int 1), (2, .int (nI D.length))]) dX12_counted_7 rfl (by decide) rfl ?_
  refine R_aload_n (pc := 8) 1 dX12_counted_8 rfl rfl ?_
  refine R_get (pc := 9) dX12_counted_9 fX12_53 S.obj (by omega) rfl ?_
  refine R_iconst (pc := 12) (v := 0) dX12_counted_12 (by decide) ?_
  refine R_bipush (pc := 13) (v := 16) dX12_counted_13 (by decide) ?_
  refine R_callSh (pc := 15) (μ' := mX12_clear) (As := [.ref 75, .int 0, .int 16]) (st := []) dX12_counted_15 zX12_clear lX12_164 ⟨by decide, by decide⟩ rfl rfl ⟨by decide, by decide⟩ rfl (Nat.le_of_ble_eq_true rfl) (oX12_clear16 S hn (q := 75) rfl (by decide)) (fun h_1 r_ q_2 => ?_)
  obtain ⟨rfl, S_3, F_4⟩ := q_2
  have S_5 : MO h_1 (uo ψ 75 (pt (ψ 75) 0 (0, 0))) z i := S_3
  refine R_aload_n (pc := 18) 1 dX12_counted_18 rfl rfl ?_
  refine R_get (pc := 19) dX12_counted_19 fX12_53 S_5.obj (by omega) rfl ?_
  refine R_iconst (pc := 22) (v := 0) dX12_counted_22 (by decide) ?_
  refine R_iload_n (pc := 23) 0 dX12_counted_23 rfl rfl ?_
  refine R_iconst (pc := 24) (v := 1) dX12_counted_24 (by decide) ?_
  refine R_isub (pc := 25) dX12_counted_25 ?_
  refine R_eqi (y := oc (t8 (nI (15 - N.length - 1)))) ((nI_sb (a := 15 - N.length) (b := 1) (by omega)).trans (ocN (by omega))) ?_
  refine R_iast' (pc := 26) (j := 0) dX12_counted_26 (S_5.arr (p := 75) rfl) (by omega) ⟨rfl, by show 0 < 16; omega, by decide⟩ (fun h_6 f_7 g_8 => ?_)
  have S_10 : MO h_6 (uo ψ 75 (updB (pt (ψ 75) 0 (0, 0)) 0 (t8 (nI (15 - N.length - 1))))) z i := by have z_ := MO.setA (p := 75) S_5 rfl f_7 g_8 (fun j_ => congrFun (upd_oc _ _ _) j_); rw [uo_uo] at z_; exact z_
  have F_9 := fmA (p := 75) (okA_c (by decide)).1 g_8
  refine R_aload_n (pc := 27) 1 dX12_counted_27 rfl rfl ?_
  refine R_get (pc := 28) dX12_counted_28 fX12_47 S_10.obj (by omega) rfl ?_
  refine R_iconst (pc := 31) (v := 0) dX12_counted_31 (by decide) ?_
  refine R_aload_n (pc := 32) 1 dX12_counted_32 rfl rfl ?_
  refine R_get (pc := 33) dX12_counted_33 fX12_53 S_10.obj (by omega) rfl ?_
  refine R_iconst (pc := 36) (v := 1) dX12_counted_36 (by decide) ?_
  refine R_aload_n (pc := 37) 1 dX12_counted_37 rfl rfl ?_
  refine R_get (pc := 38) dX12_counted_38 fX12_137 S_10.obj (by omega) rfl ?_
  refine R_eqi (y := nI N.length) (hi5) ?_
  refine R_callSh (pc := 41) (μ' := mX12_copy) (As := [.ref 73, .int (nI 0), .ref 75, .int (nI 1), .int (nI N.length)]) (st := []) dX12_counted_41 zX12_copy lX12_133 ⟨by decide, by decide⟩ rfl rfl ⟨by decide, by decide⟩ rfl (Nat.le_of_ble_eq_true rfl) (oX12_copy S_10 hn (p := 73) (q := 75) rfl rfl 0 1 N.length (by show 0 + N.length ≤ 64; omega) (by show 1 + N.length ≤ 16; omega) (by decide)) (fun h_11 r_ q_12 => ?_)
  obtain ⟨rfl, S_13, F_14⟩ := q_12
  have S_15 : MO h_11 (uo ψ 75 (cpB (ψ 73) 0 (updB (pt (ψ 75) 0 (0, 0)) 0 (t8 (nI (15 - N.length - 1)))) 1 N.length)) z i := by have z_ := S_13; rw [uo_uo] at z_; exact z_
  have eC : gt (cpB (ψ 73) 0 (updB (pt (ψ 75) 0 (0, 0)) 0 (t8 (nI (15 - N.length - 1)))) 1 N.length) 0 = (cnB N (15 - N.length)) := cn_gt (by omega) hsN
  have zC : nv (ob (cnB N (15 - N.length))) (1 + N.length) (16 - (1 + N.length)) = 0 := nv_z _ (fun j_ hj_ => by rw [cnB_ob _ _ (by omega) (by omega), if_neg (by omega), if_neg (by omega)])
  have hp2 : 256 ^ 2 ≤ 256 ^ (16 - (1 + N.length)) := Nat.pow_le_pow_right (by decide) (by omega)
  have e2_ : (256 : Nat) ^ 2 = 65536 := by decide
  have zO : nv (ob (one1 (cnB N (15 - N.length)))) (1 + N.length) (16 - (1 + N.length)) = 1 := by rw [nv_one1 _ (by omega) (by omega), zC]
  have eO : gt (omB (1 + N.length) 16 (cpB (ψ 73) 0 (updB (pt (ψ 75) 0 (0, 0)) 0 (t8 (nI (15 - N.length - 1)))) 1 N.length)) 0 = one1 (cnB N (15 - N.length)) := by rw [om_one1 _ (by omega) (Or.inr (by rw [nv_blk eC (by omega)]; omega)), eC]
  refine R_aload_n (pc := 44) 1 dX12_counted_44 rfl rfl ?_
  refine R_get (pc := 45) dX12_counted_45 fX12_53 S_15.obj (by omega) rfl ?_
  refine R_iconst (pc := 48) (v := 0) dX12_counted_48 (by decide) ?_
  refine R_aload_n (pc := 49) 1 dX12_counted_49 rfl rfl ?_
  refine R_get (pc := 50) dX12_counted_50 fX12_83 S_15.obj (by omega) rfl ?_
  refine R_iconst (pc := 53) (v := 0) dX12_counted_53 (by decide) ?_
  refine R_bipush (pc := 54) (v := 16) dX12_counted_54 (by decide) ?_
  refine R_callSh (pc := 56) (μ' := mX12_copy) (As := [.ref 75, .int (nI 0), .ref 85, .int (nI 0), .int 16]) (st := []) dX12_counted_56 zX12_copy lX12_133 ⟨by decide, by decide⟩ rfl rfl ⟨by decide, by decide⟩ rfl (Nat.le_of_ble_eq_true rfl) (oX12_copy16 S_15 hn (p := 75) (q := 85) rfl rfl 0 0 (by show 0 + 16 ≤ 16; omega) (by show 0 + 16 ≤ 16; omega) (by decide)) (fun h_16 r_ q_17 => ?_)
  obtain ⟨rfl, S_18, F_19⟩ := q_17
  have S_20 : MO h_16 (uo (uo ψ 75 (cpB (ψ 73) 0 (updB (pt (ψ 75) 0 (0, 0)) 0 (t8 (nI (15 - N.length - 1)))) 1 N.length)) 85 (pt (ψ 85) 0 (gt (cpB (ψ 73) 0 (updB (pt (ψ 75) 0 (0, 0)) 0 (t8 (nI (15 - N.length - 1)))) 1 N.length) 0))) z i := S_18
  refine R_aload_n (pc := 59) 1 dX12_counted_59 rfl rfl ?_
  refine R_iconst (pc := 60) (v := 0) dX12_counted_60 (by decide) ?_
  refine R_aload_n (pc := 61) 1 dX12_counted_61 rfl rfl ?_
  refine R_get (pc := 62) dX12_counted_62 fX12_83 S_20.obj (by omega) rfl ?_
  refine R_iconst (pc := 65) (v := 0) dX12_counted_65 (by decide) ?_
  refine R_callVh (pc := 66) (μ' := mX12_sealBlock) (As := [.int (nI 0), .ref 85, .int (nI 0)]) (st := []) dX12_counted_66 zX12_sealBlock lX12_146 ⟨by decide, by decide⟩ rfl rfl ⟨by decide, by decide⟩ S_20.obj (by omega) rfl (Nat.le_of_ble_eq_true rfl) (oX12_sealBlock S_20 hn ((K0.uo (by decide)).uo (by decide)) (p := 85) rfl 0 (by show 0 + 16 ≤ 16; omega)) (fun h_21 r_ q_22 => ?_)
  obtain ⟨rfl, S_23, F_24⟩ := q_22
  have S_25 : MO h_21 (uo (uo ψ 75 (cpB (ψ 73) 0 (updB (pt (ψ 75) 0 (0, 0)) 0 (t8 (nI (15 - N.length - 1)))) 1 N.length)) 85 (pt (pt (ψ 85) 0 (gt (cpB (ψ 73) 0 (updB (pt (ψ 75) 0 (0, 0)) 0 (t8 (nI (15 - N.length - 1)))) 1 N.length) 0)) 0 (F (gt (pt (ψ 85) 0 (gt (cpB (ψ 73) 0 (updB (pt (ψ 75) 0 (0, 0)) 0 (t8 (nI (15 - N.length - 1)))) 1 N.length) 0)) 0)))) z i := by have z_ := S_23; rw [uo_uo] at z_; exact z_
  refine R_aload_n (pc := 69) 1 dX12_counted_69 rfl rfl ?_
  refine R_get (pc := 70) dX12_counted_70 fX12_53 S_25.obj (by omega) rfl ?_
  refine R_iconst (pc := 73) (v := 1) dX12_counted_73 (by decide) ?_
  refine R_aload_n (pc := 74) 1 dX12_counted_74 rfl rfl ?_
  refine R_get (pc := 75) dX12_counted_75 fX12_137 S_25.obj (by omega) rfl ?_
  refine R_eqi (y := nI N.length) (hi5) ?_
  refine R_iadd (pc := 78) dX12_counted_78 ?_
  refine R_eqi (y := nI (1 + N.length)) (nI_add 1 N.length) ?_
  refine R_callSh (pc := 79) (μ' := mX12_oneMore) (As := [.ref 75, .int (nI (1 + N.length))]) (st := []) dX12_counted_79 zX12_oneMore lX12_168 ⟨by decide, by decide⟩ rfl rfl ⟨by decide, by decide⟩ rfl (Nat.le_of_ble_eq_true rfl) (oX12_oneMore S_25 hn (q := 75) rfl (by decide) (1 + N.length) (by omega)) (fun h_26 r_ q_27 => ?_)
  obtain ⟨rfl, S_28, F_29⟩ := q_27
  have S_30 : MO h_26 (uo (uo (uo ψ 75 (cpB (ψ 73) 0 (updB (pt (ψ 75) 0 (0, 0)) 0 (t8 (nI (15 - N.length - 1)))) 1 N.length)) 85 (pt (pt (ψ 85) 0 (gt (cpB (ψ 73) 0 (updB (pt (ψ 75) 0 (0, 0)) 0 (t8 (nI (15 - N.length - 1)))) 1 N.length) 0)) 0 (F (gt (pt (ψ 85) 0 (gt (cpB (ψ 73) 0 (updB (pt (ψ 75) 0 (0, 0)) 0 (t8 (nI (15 - N.length - 1)))) 1 N.length) 0)) 0)))) 75 (omB (1 + N.length) 16 (cpB (ψ 73) 0 (updB (pt (ψ 75) 0 (0, 0)) 0 (t8 (nI (15 - N.length - 1)))) 1 N.length))) z i := S_28
  refine R_aload_n (pc := 82) 1 dX12_counted_82 rfl rfl ?_
  refine R_iconst (pc := 83) (v := 0) dX12_counted_83 (by decide) ?_
  refine R_iconst (pc := 84) (v := 0) dX12_counted_84 (by decide) ?_
  refine R_iconst (pc := 85) (v := 0) dX12_counted_85 (by decide) ?_
  refine R_iload_n (pc := 86) 3 dX12_counted_86 rfl rfl ?_
  refine R_iconst (pc := 87) (v := 1) dX12_counted_87 (by decide) ?_
  refine R_aload_n (pc := 88) 1 dX12_counted_88 rfl rfl ?_
  refine R_get (pc := 89) dX12_counted_89 fX12_137 S_30.obj (by omega) rfl ?_
  refine R_eqi (y := nI N.length) (hi5) ?_
  refine R_iadd (pc := 92) dX12_counted_92 ?_
  refine R_eqi (y := nI (1 + N.length)) (nI_add 1 N.length) ?_
  refine R_callVh (pc := 93) (μ' := mX12_count) (As := [.int (nI 0), .int (nI 0), .int (nI 0), .int (nI D.length), .int (nI (1 + N.length))]) (st := []) dX12_counted_93 zX12_count lX12_204 ⟨by decide, by decide⟩ rfl rfl ⟨by decide, by decide⟩ S_30.obj (by omega) rfl (Nat.le_of_ble_eq_true rfl) (oX12_count S_30 hn 0 0 0 D.length (1 + N.length) (by omega) (by omega) (by omega) (((K0.uo (by decide)).uo (by decide)).uo (by decide)) (fun j => (stN (ctS F D) (one1 (cnB N (15 - N.length))) j).1) (fun j_ f_ h_ e_ => by rw [om_one1 f_ (by omega) (Or.inr (by rw [nv_blk e_ (by omega), nv_ct F D (by omega) zO j_ (by omega)]; omega)), e_]; rfl) eO) (fun h_31 r_ q_32 => ?_)
  obtain ⟨ψ_36, rfl, S_33, K_35, J_37, F_34⟩ := q_32
  have K_38 := (((K0.uo (by decide)).uo (by decide)).uo (by decide)).fr K_35 (by decide) (by decide) (by decide) (by decide)
  have t93 : ψ_36 85 = pt (pt (ψ 85) 0 (gt (cpB (ψ 73) 0 (updB (pt (ψ 75) 0 (0, 0)) 0 (t8 (nI (15 - N.length - 1)))) 1 N.length) 0)) 0 (F (gt (pt (ψ 85) 0 (gt (cpB (ψ 73) 0 (updB (pt (ψ 75) 0 (0, 0)) 0 (t8 (nI (15 - N.length - 1)))) 1 N.length) 0)) 0)) := K_35 85 (by decide)
  have lO : (ctO F D (one1 (cnB N (15 - N.length)))).length = D.length := by unfold ctO; rw [stN_lenM D (fun j_ y_ => ctS_len F D j_ y_)]; have := nbk_b D; omega
  have c_ : ψ_36 72 = pgB _ _ 0 D.length := J_37
  have yC : sg (ψ_36 72) 0 (ctO F D (one1 (cnB N (15 - N.length)))) := by
    refine stN_sg (H := F) (fun _ _ => rfl) (fun j_ hj_ => ?_)
    rw [c_, pgB_in _ _ (by omega) (by omega), Nat.zero_add, Nat.sub_zero, Nat.zero_add]
    exact congrArg (fun v_ => v_ ^^^ _) (by show ψ 71 j_ = _; exact sg0 hsD hj_)
  refine R_aload_n (pc := 96) 1 dX12_counted_96 rfl rfl ?_
  refine R_get (pc := 97) dX12_counted_97 fX12_74 S_33.obj (by omega) rfl ?_
  refine R_iconst (pc := 100) (v := 0) dX12_counted_100 (by decide) ?_
  refine R_bipush (pc := 101) (v := 16) dX12_counted_101 (by decide) ?_
  refine R_callSh (pc := 103) (μ' := mX12_clear) (As := [.ref 82, .int 0, .int 16]) (st := []) dX12_counted_103 zX12_clear lX12_164 ⟨by decide, by decide⟩ rfl rfl ⟨by decide, by decide⟩ rfl (Nat.le_of_ble_eq_true rfl) (oX12_clear16 S_33 hn (q := 82) rfl (by decide)) (fun h_39 r_ q_40 => ?_)
  obtain ⟨rfl, S_41, F_42⟩ := q_40
  have S_43 : MO h_39 (uo ψ_36 82 (pt (ψ_36 82) 0 (0, 0))) z i := S_41
  refine R_aload_n (pc := 106) 1 dX12_counted_106 rfl rfl ?_
  refine R_get (pc := 107) dX12_counted_107 fX12_74 S_43.obj (by omega) rfl ?_
  refine R_iconst (pc := 110) (v := 0) dX12_counted_110 (by decide) ?_
  refine R_aload_n (pc := 111) 1 dX12_counted_111 rfl rfl ?_
  refine R_get (pc := 112) dX12_counted_112 fX12_140 S_43.obj (by omega) rfl ?_
  refine R_eqi (y := nI A.length) (hi6) ?_
  refine R_if_le (pc := 115) (tgt := 123) dX12_counted_115 (by decide) (fun c_44 => ?_) (fun c_44 => ?_)
  · skip
    have nc_44 : A.length ≤ 0 := (nI_leI (a := A.length) (b := 0) (by omega) (by omega)).mp c_44
    refine R_iconst (pc := 123) (v := 0) dX12_counted_123 (by decide) ?_
    refine R_bipush (pc := 124) (v := 8) dX12_counted_124 (by decide) ?_
    refine R_aload_n (pc := 126) 1 dX12_counted_126 rfl rfl ?_
    refine R_get (pc := 127) dX12_counted_127 fX12_16 S_43.obj (by omega) rfl ?_
    refine R_eqi (y := nI mm) (hi1) ?_
    refine R_iconst (pc := 130) (v := 2) dX12_counted_130 (by decide) ?_
    refine R_isub (pc := 131) dX12_counted_131 ?_
    refine R_eqi (y := nI (mm - 2)) (nI_sb (a := mm) (b := 2) (by omega)) ?_
    refine R_iconst (pc := 132) (v := 2) dX12_counted_132 (by decide) ?_
    refine R_idiv (pc := 133) dX12_counted_133 (by decide) ?_
    refine R_eqi (y := nI ((mm - 2) / 2)) (nI_div (a := mm - 2) (b := 2) (by omega) (by omega)) ?_
    refine R_imul (pc := 134) dX12_counted_134 ?_
    refine R_eqi (y := nI (8 * ((mm - 2) / 2))) (nI_mul 8 ((mm - 2) / 2)) ?_
    refine R_iadd (pc := 135) dX12_counted_135 ?_
    refine R_eqi (y := nI (8 * ((mm - 2) / 2))) ((nI_add _ _).trans (by rw [Nat.zero_add])) ?_
    refine R_iload_n (pc := 136) 0 dX12_counted_136 rfl rfl ?_
    refine R_iadd (pc := 137) dX12_counted_137 ?_
    refine R_eqi (y := nI (8 * ((mm - 2) / 2) + (15 - N.length))) (nI_add (8 * ((mm - 2) / 2)) (15 - N.length)) ?_
    refine R_iconst (pc := 138) (v := 1) dX12_counted_138 (by decide) ?_
    refine R_isub (pc := 139) dX12_counted_139 ?_
    refine R_eqi (y := oc (t8 (lcF A (15 - N.length) mm))) ((nI_sb (a := 8 * ((mm - 2) / 2) + (15 - N.length)) (b := 1) (by omega)).trans (lcF_0 (q := 15 - N.length) (mm := mm) c_44 (by omega) (by omega))) ?_
    refine R_iast' (pc := 140) (j := 0) dX12_counted_140 (S_43.arr (p := 82) rfl) (by omega) ⟨rfl, by show 0 < 16; omega, by decide⟩ (fun h_45 f_46 g_47 => ?_)
    have S_49 : MO h_45 (uo ψ_36 82 (updB (pt (ψ_36 82) 0 (0, 0)) 0 (t8 (lcF A (15 - N.length) mm)))) z i := by have z_ := MO.setA (p := 82) S_43 rfl f_46 g_47 (fun j_ => congrFun (upd_oc _ _ _) j_); rw [uo_uo] at z_; exact z_
    have F_48 := fmA (p := 82) (okA_c (by decide)).1 g_47
    refine R_aload_n (pc := 141) 1 dX12_counted_141 rfl rfl ?_
    refine R_get (pc := 142) dX12_counted_142 fX12_47 S_49.obj (by omega) rfl ?_
    refine R_iconst (pc := 145) (v := 0) dX12_counted_145 (by decide) ?_
    refine R_aload_n (pc := 146) 1 dX12_counted_146 rfl rfl ?_
    refine R_get (pc := 147) dX12_counted_147 fX12_74 S_49.obj (by omega) rfl ?_
    refine R_iconst (pc := 150) (v := 1) dX12_counted_150 (by decide) ?_
    refine R_aload_n (pc := 151) 1 dX12_counted_151 rfl rfl ?_
    refine R_get (pc := 152) dX12_counted_152 fX12_137 S_49.obj (by omega) rfl ?_
    refine R_eqi (y := nI N.length) (hi5) ?_
    refine R_callSh (pc := 155) (μ' := mX12_copy) (As := [.ref 73, .int (nI 0), .ref 82, .int (nI 1), .int (nI N.length)]) (st := []) dX12_counted_155 zX12_copy lX12_133 ⟨by decide, by decide⟩ rfl rfl ⟨by decide, by decide⟩ rfl (Nat.le_of_ble_eq_true rfl) (oX12_copy S_49 hn (p := 73) (q := 82) rfl rfl 0 1 N.length (by show 0 + N.length ≤ 64; omega) (by show 1 + N.length ≤ 16; omega) (by decide)) (fun h_50 r_ q_51 => ?_)
    obtain ⟨rfl, S_52, F_53⟩ := q_51
    have S_54 : MO h_50 (uo ψ_36 82 (cpB (ψ_36 73) 0 (updB (pt (ψ_36 82) 0 (0, 0)) 0 (t8 (lcF A (15 - N.length) mm))) 1 N.length)) z i := by have z_ := S_52; rw [uo_uo] at z_; exact z_
    refine R_aload_n (pc := 158) 1 dX12_counted_158 rfl rfl ?_
    refine R_get (pc := 159) dX12_counted_159 fX12_74 S_54.obj (by omega) rfl ?_
    refine R_bipush (pc := 162) (v := 14) dX12_counted_162 (by decide) ?_
    refine R_dup2 (pc := 164) dX12_counted_164 rfl rfl ?_
    refine R_iald' (pc := 165) (j := 14) dX12_counted_165 (S_54.arr (p := 82) rfl) (by omega) ⟨rfl, by show 14 < 16; omega, by decide⟩ ?_
    refine R_eqi (y := oc ((cpB (ψ_36 73) 0 (updB (pt (ψ_36 82) 0 (0, 0)) 0 (t8 (lcF A (15 - N.length) mm))) 1 N.length) 14)) rfl ?_
    refine R_iload_n (pc := 166) 3 dX12_counted_166 rfl rfl ?_
    refine R_bipush (pc := 167) (v := 8) dX12_counted_167 (by decide) ?_
    refine R_ishr (pc := 169) dX12_counted_169 ?_
    refine R_eqi (y := oc (t8 (nI D.length >>> ((8 : Int32) &&& 31)))) (sh8_512 _ (by omega)) ?_
    refine R_ixor (pc := 170) dX12_counted_170 ?_
    refine R_eqi (y := oc (((cpB (ψ_36 73) 0 (updB (pt (ψ_36 82) 0 (0, 0)) 0 (t8 (lcF A (15 - N.length) mm))) 1 N.length) 14) ^^^ (t8 (nI D.length >>> ((8 : Int32) &&& 31))))) (oc_xor _ _) ?_
    refine R_iast' (pc := 171) (j := 14) dX12_counted_171 (S_54.arr (p := 82) rfl) (by omega) ⟨rfl, by show 14 < 16; omega, by decide⟩ (fun h_55 f_56 g_57 => ?_)
    have S_59 : MO h_55 (uo ψ_36 82 (updB (cpB (ψ_36 73) 0 (updB (pt (ψ_36 82) 0 (0, 0)) 0 (t8 (lcF A (15 - N.length) mm))) 1 N.length) 14 (((cpB (ψ_36 73) 0 (updB (pt (ψ_36 82) 0 (0, 0)) 0 (t8 (lcF A (15 - N.length) mm))) 1 N.length) 14) ^^^ (t8 (nI D.length >>> ((8 : Int32) &&& 31)))))) z i := by have z_ := MO.setA (p := 82) S_54 rfl f_56 g_57 (fun j_ => congrFun (upd_oc _ _ _) j_); rw [uo_uo] at z_; exact z_
    have F_58 := fmA (p := 82) (okA_c (by decide)).1 g_57
    refine R_aload_n (pc := 172) 1 dX12_counted_172 rfl rfl ?_
    refine R_get (pc := 173) dX12_counted_173 fX12_74 S_59.obj (by omega) rfl ?_
    refine R_bipush (pc := 176) (v := 15) dX12_counted_176 (by decide) ?_
    refine R_dup2 (pc := 178) dX12_counted_178 rfl rfl ?_
    refine R_iald' (pc := 179) (j := 15) dX12_counted_179 (S_59.arr (p := 82) rfl) (by omega) ⟨rfl, by show 15 < 16; omega, by decide⟩ ?_
    refine R_eqi (y := oc ((updB (cpB (ψ_36 73) 0 (updB (pt (ψ_36 82) 0 (0, 0)) 0 (t8 (lcF A (15 - N.length) mm))) 1 N.length) 14 (((cpB (ψ_36 73) 0 (updB (pt (ψ_36 82) 0 (0, 0)) 0 (t8 (lcF A (15 - N.length) mm))) 1 N.length) 14) ^^^ (t8 (nI D.length >>> ((8 : Int32) &&& 31))))) 15)) rfl ?_
    refine R_iload_n (pc := 180) 3 dX12_counted_180 rfl rfl ?_
    refine R_sipush (pc := 181) (v := 255) dX12_counted_181 (by decide) ?_
    refine R_iand (pc := 184) dX12_counted_184 ?_
    refine R_eqi (y := oc (t8 (nI D.length))) (oc_t8 _) ?_
    refine R_ixor (pc := 185) dX12_counted_185 ?_
    refine R_eqi (y := oc (((updB (cpB (ψ_36 73) 0 (updB (pt (ψ_36 82) 0 (0, 0)) 0 (t8 (lcF A (15 - N.length) mm))) 1 N.length) 14 (((cpB (ψ_36 73) 0 (updB (pt (ψ_36 82) 0 (0, 0)) 0 (t8 (lcF A (15 - N.length) mm))) 1 N.length) 14) ^^^ (t8 (nI D.length >>> ((8 : Int32) &&& 31))))) 15) ^^^ (t8 (nI D.length)))) (oc_xor _ _) ?_
    refine R_iast' (pc := 186) (j := 15) dX12_counted_186 (S_59.arr (p := 82) rfl) (by omega) ⟨rfl, by show 15 < 16; omega, by decide⟩ (fun h_60 f_61 g_62 => ?_)
    have S_64 : MO h_60 (uo ψ_36 82 (updB (updB (cpB (ψ_36 73) 0 (updB (pt (ψ_36 82) 0 (0, 0)) 0 (t8 (lcF A (15 - N.length) mm))) 1 N.length) 14 (((cpB (ψ_36 73) 0 (updB (pt (ψ_36 82) 0 (0, 0)) 0 (t8 (lcF A (15 - N.length) mm))) 1 N.length) 14) ^^^ (t8 (nI D.length >>> ((8 : Int32) &&& 31))))) 15 (((updB (cpB (ψ_36 73) 0 (updB (pt (ψ_36 82) 0 (0, 0)) 0 (t8 (lcF A (15 - N.length) mm))) 1 N.length) 14 (((cpB (ψ_36 73) 0 (updB (pt (ψ_36 82) 0 (0, 0)) 0 (t8 (lcF A (15 - N.length) mm))) 1 N.length) 14) ^^^ (t8 (nI D.length >>> ((8 : Int32) &&& 31))))) 15) ^^^ (t8 (nI D.length))))) z i := by have z_ := MO.setA (p := 82) S_59 rfl f_61 g_62 (fun j_ => congrFun (upd_oc _ _ _) j_); rw [uo_uo] at z_; exact z_
    have F_63 := fmA (p := 82) (okA_c (by decide)).1 g_62
    have e73 : ψ_36 73 = ψ 73 := (show FR [72, 75, 76, 82, 84, 85] ψ _ from (((((FR.rf _ _).up (by decide)).up (by decide)).up (by decide)).tr K_35 (by decide))) 73 (by decide)
    have eB : gt (updB (updB (cpB (ψ_36 73) 0 (updB (pt (ψ_36 82) 0 (0, 0)) 0 (t8 (lcF A (15 - N.length) mm))) 1 N.length) 14 (((cpB (ψ_36 73) 0 (updB (pt (ψ_36 82) 0 (0, 0)) 0 (t8 (lcF A (15 - N.length) mm))) 1 N.length) 14) ^^^ (t8 (nI D.length >>> ((8 : Int32) &&& 31))))) 15 (((updB (cpB (ψ_36 73) 0 (updB (pt (ψ_36 82) 0 (0, 0)) 0 (t8 (lcF A (15 - N.length) mm))) 1 N.length) 14 (((cpB (ψ_36 73) 0 (updB (pt (ψ_36 82) 0 (0, 0)) 0 (t8 (lcF A (15 - N.length) mm))) 1 N.length) 14) ^^^ (t8 (nI D.length >>> ((8 : Int32) &&& 31))))) 15) ^^^ (t8 (nI D.length)))) 0 = rd (lcB A N D.length (15 - N.length) mm) 0 := lc_gt (by omega) (by omega) (by omega) (by rw [e73]; exact hsN) rfl
    refine R_aload_n (pc := 187) 1 dX12_counted_187 rfl rfl ?_
    refine R_iconst (pc := 188) (v := 0) dX12_counted_188 (by decide) ?_
    refine R_aload_n (pc := 189) 1 dX12_counted_189 rfl rfl ?_
    refine R_get (pc := 190) dX12_counted_190 fX12_74 S_64.obj (by omega) rfl ?_
    refine R_iconst (pc := 193) (v := 0) dX12_counted_193 (by decide) ?_
    refine R_callVh (pc := 194) (μ' := mX12_sealBlock) (As := [.int (nI 0), .ref 82, .int (nI 0)]) (st := []) dX12_counted_194 zX12_sealBlock lX12_146 ⟨by decide, by decide⟩ rfl rfl ⟨by decide, by decide⟩ S_64.obj (by omega) rfl (Nat.le_of_ble_eq_true rfl) (oX12_sealBlock S_64 hn (K_38.uo (by decide)) (p := 82) rfl 0 (by show 0 + 16 ≤ 16; omega)) (fun h_65 r_ q_66 => ?_)
    obtain ⟨rfl, S_67, F_68⟩ := q_66
    have S_69 : MO h_65 (uo ψ_36 82 (pt (updB (updB (cpB (ψ_36 73) 0 (updB (pt (ψ_36 82) 0 (0, 0)) 0 (t8 (lcF A (15 - N.length) mm))) 1 N.length) 14 (((cpB (ψ_36 73) 0 (updB (pt (ψ_36 82) 0 (0, 0)) 0 (t8 (lcF A (15 - N.length) mm))) 1 N.length) 14) ^^^ (t8 (nI D.length >>> ((8 : Int32) &&& 31))))) 15 (((updB (cpB (ψ_36 73) 0 (updB (pt (ψ_36 82) 0 (0, 0)) 0 (t8 (lcF A (15 - N.length) mm))) 1 N.length) 14 (((cpB (ψ_36 73) 0 (updB (pt (ψ_36 82) 0 (0, 0)) 0 (t8 (lcF A (15 - N.length) mm))) 1 N.length) 14) ^^^ (t8 (nI D.length >>> ((8 : Int32) &&& 31))))) 15) ^^^ (t8 (nI D.length)))) 0 (F (gt (updB (updB (cpB (ψ_36 73) 0 (updB (pt (ψ_36 82) 0 (0, 0)) 0 (t8 (lcF A (15 - N.length) mm))) 1 N.length) 14 (((cpB (ψ_36 73) 0 (updB (pt (ψ_36 82) 0 (0, 0)) 0 (t8 (lcF A (15 - N.length) mm))) 1 N.length) 14) ^^^ (t8 (nI D.length >>> ((8 : Int32) &&& 31))))) 15 (((updB (cpB (ψ_36 73) 0 (updB (pt (ψ_36 82) 0 (0, 0)) 0 (t8 (lcF A (15 - N.length) mm))) 1 N.length) 14 (((cpB (ψ_36 73) 0 (updB (pt (ψ_36 82) 0 (0, 0)) 0 (t8 (lcF A (15 - N.length) mm))) 1 N.length) 14) ^^^ (t8 (nI D.length >>> ((8 : Int32) &&& 31))))) 15) ^^^ (t8 (nI D.length)))) 0)))) z i := by have z_ := S_67; rw [uo_uo] at z_; exact z_
    refine R_aload_n (pc := 197) 1 dX12_counted_197 rfl rfl ?_
    refine R_get (pc := 198) dX12_counted_198 fX12_140 S_69.obj (by omega) rfl ?_
    refine R_eqi (y := nI A.length) (hi6) ?_
    refine R_if_le (pc := 201) (tgt := 262) dX12_counted_201 (by decide) (fun c_70 => ?_) (fun c_70 => absurd (c_44) c_70)
    refine R_aload_n (pc := 262) 1 dX12_counted_262 rfl rfl ?_
    refine R_iload_n (pc := 263) 2 dX12_counted_263 rfl rfl ?_
    refine R_if_eq (pc := 264) (tgt := 274) dX12_counted_264 (by decide) (fun c_71 => absurd c_71 (by decide)) (fun c_71 => ?_)
    refine R_aload_n (pc := 267) 1 dX12_counted_267 rfl rfl ?_
    refine R_get (pc := 268) dX12_counted_268 fX12_44 S_69.obj (by omega) rfl ?_
    refine R_goto (pc := 271) (tgt := 278) dX12_counted_271 (by decide) ?_
    refine R_iload_n (pc := 278) 3 dX12_counted_278 rfl rfl ?_
    have yP : sg (ψ_36 72) 0 (ctO F D (one1 (cnB N (15 - N.length)))) := by rw [show ψ_36 72 = ψ_36 72 from rfl]; exact yC
    refine R_eqi (y := nI (ctO F D (one1 (cnB N (15 - N.length)))).length) (by rw [lO]) ?_
    refine R_callVh (pc := 279) (μ' := mX12_chained) (As := [.ref 72, .int (nI (ctO F D (one1 (cnB N (15 - N.length)))).length)]) (st := []) dX12_counted_279 zX12_chained lX12_208 ⟨by decide, by decide⟩ rfl rfl ⟨by decide, by decide⟩ S_69.obj (by omega) rfl (Nat.le_of_ble_eq_true rfl) (oX12_chained S_69 hn (p := 72) rfl (by decide) (ctO F D (one1 (cnB N (15 - N.length)))) (by rw [lO]; omega) (by rw [lO]; show D.length ≤ 700; omega) yP (K_38.uo (by decide))) (fun h_72 r_ q_73 => ?_)
    obtain ⟨ψ_77, rfl, S_74, K_76, J_78, F_75⟩ := q_73
    have K_79 := (K_38.uo (by decide)).fr K_76 (by decide) (by decide) (by decide) (by decide)
    have s279 : gt (ψ_77 82) 0 = cyN (csS F (ctO F D (one1 (cnB N (15 - N.length))))) (gt (pt (updB (updB (cpB (ψ_36 73) 0 (updB (pt (ψ_36 82) 0 (0, 0)) 0 (t8 (lcF A (15 - N.length) mm))) 1 N.length) 14 (((cpB (ψ_36 73) 0 (updB (pt (ψ_36 82) 0 (0, 0)) 0 (t8 (lcF A (15 - N.length) mm))) 1 N.length) 14) ^^^ (t8 (nI D.length >>> ((8 : Int32) &&& 31))))) 15 (((updB (cpB (ψ_36 73) 0 (updB (pt (ψ_36 82) 0 (0, 0)) 0 (t8 (lcF A (15 - N.length) mm))) 1 N.length) 14 (((cpB (ψ_36 73) 0 (updB (pt (ψ_36 82) 0 (0, 0)) 0 (t8 (lcF A (15 - N.length) mm))) 1 N.length) 14) ^^^ (t8 (nI D.length >>> ((8 : Int32) &&& 31))))) 15) ^^^ (t8 (nI D.length)))) 0 (F (gt (updB (updB (cpB (ψ_36 73) 0 (updB (pt (ψ_36 82) 0 (0, 0)) 0 (t8 (lcF A (15 - N.length) mm))) 1 N.length) 14 (((cpB (ψ_36 73) 0 (updB (pt (ψ_36 82) 0 (0, 0)) 0 (t8 (lcF A (15 - N.length) mm))) 1 N.length) 14) ^^^ (t8 (nI D.length >>> ((8 : Int32) &&& 31))))) 15 (((updB (cpB (ψ_36 73) 0 (updB (pt (ψ_36 82) 0 (0, 0)) 0 (t8 (lcF A (15 - N.length) mm))) 1 N.length) 14 (((cpB (ψ_36 73) 0 (updB (pt (ψ_36 82) 0 (0, 0)) 0 (t8 (lcF A (15 - N.length) mm))) 1 N.length) 14) ^^^ (t8 (nI D.length >>> ((8 : Int32) &&& 31))))) 15) ^^^ (t8 (nI D.length)))) 0))) 0) (nbk (ctO F D (one1 (cnB N (15 - N.length))))) := J_78
    have t279 : ψ_77 85 = ψ_36 85 := K_76 85 (by decide)
    have y279 : ψ_77 72 = ψ_36 72 := K_76 72 (by decide)
    refine R_aload_n (pc := 282) 1 dX12_counted_282 rfl rfl ?_
    refine R_get (pc := 283) dX12_counted_283 fX12_74 S_74.obj (by omega) rfl ?_
    refine R_iconst (pc := 286) (v := 0) dX12_counted_286 (by decide) ?_
    refine R_aload_n (pc := 287) 1 dX12_counted_287 rfl rfl ?_
    refine R_get (pc := 288) dX12_counted_288 fX12_83 S_74.obj (by omega) rfl ?_
    refine R_iconst (pc := 291) (v := 0) dX12_counted_291 (by decide) ?_
    refine R_bipush (pc := 292) (v := 16) dX12_counted_292 (by decide) ?_
    refine R_callSh (pc := 294) (μ' := mX12_add) (As := [.ref 82, .int (nI 0), .ref 85, .int (nI 0), .int 16]) (st := []) dX12_counted_294 zX12_add lX12_143 ⟨by decide, by decide⟩ rfl rfl ⟨by decide, by decide⟩ rfl (Nat.le_of_ble_eq_true rfl) (oX12_add16 S_74 hn (p := 82) (q := 85) rfl rfl 0 0 (by show 0 + 16 ≤ 16; omega) (by show 0 + 16 ≤ 16; omega) (by decide)) (fun h_80 r_ q_81 => ?_)
    obtain ⟨rfl, S_82, F_83⟩ := q_81
    have S_84 : MO h_80 (uo ψ_77 85 (pt (ψ_77 85) 0 (xb (gt (ψ_77 85) 0) (gt (ψ_77 82) 0)))) z i := S_82
    have hlen : ((ctO F D (one1 (cnB N (15 - N.length))))).length = D.length := lO
    have hy : gt (pt (ψ_77 85) 0 (xb (gt (ψ_77 85) 0) (gt (ψ_77 82) 0))) 0 = cnT F A N (ctO F D (one1 (cnB N (15 - N.length)))) (15 - N.length) mm := by
      unfold cnT
      rw [csm_0 F (ctO F D (one1 (cnB N (15 - N.length)))) (by omega) c_44, hlen, gt_pt, s279]
      simp only [gt_pt, pt_pt]
      rw [eB, t279, t93]
      simp only [gt_pt, pt_pt]
      rw [eC, xb_comm]
    have hz : sg (ψ_77 72) 0 (ctO F D (one1 (cnB N (15 - N.length)))) := by rw [y279]; exact yC
    exact R_vreturn (pc := 297) dX12_counted_297 rfl (by decide) (by decide) ⟨rfl, _, rfl, S_84, ((((((((FR.rf _ _).up (by decide)).up (by decide)).up (by decide)).tr K_35 (by decide)).up (by decide)).tr K_76 (by decide)).up (by decide)), ⟨hz, hy⟩, ((((((((((((((F_4.tr F_9).tr F_14).tr F_19).tr F_24).tr F_29).tr F_34).tr F_42).tr F_48).tr F_53).tr F_58).tr F_63).tr F_68).tr F_75).tr F_83)⟩
  · skip
    have nc_44 : ¬ (A.length ≤ 0) := fun q_ => c_44 ((nI_leI (a := A.length) (b := 0) (by omega) (by omega)).mpr q_)
    refine R_bipush (pc := 118) (v := 64) dX12_counted_118 (by decide) ?_
    refine R_goto (pc := 120) (tgt := 124) dX12_counted_120 (by decide) ?_
    refine R_bipush (pc := 124) (v := 8) dX12_counted_124 (by decide) ?_
    refine R_aload_n (pc := 126) 1 dX12_counted_126 rfl rfl ?_
    refine R_get (pc := 127) dX12_counted_127 fX12_16 S_43.obj (by omega) rfl ?_
    refine R_eqi (y := nI mm) (hi1) ?_
    refine R_iconst (pc := 130) (v := 2) dX12_counted_130 (by decide) ?_
    refine R_isub (pc := 131) dX12_counted_131 ?_
    refine R_eqi (y := nI (mm - 2)) (nI_sb (a := mm) (b := 2) (by omega)) ?_
    refine R_iconst (pc := 132) (v := 2) dX12_counted_132 (by decide) ?_
    refine R_idiv (pc := 133) dX12_counted_133 (by decide) ?_
    refine R_eqi (y := nI ((mm - 2) / 2)) (nI_div (a := mm - 2) (b := 2) (by omega) (by omega)) ?_
    refine R_imul (pc := 134) dX12_counted_134 ?_
    refine R_eqi (y := nI (8 * ((mm - 2) / 2))) (nI_mul 8 ((mm - 2) / 2)) ?_
    refine R_iadd (pc := 135) dX12_counted_135 ?_
    refine R_eqi (y := nI (64 + (8 * ((mm - 2) / 2)))) (nI_add 64 (8 * ((mm - 2) / 2))) ?_
    refine R_iload_n (pc := 136) 0 dX12_counted_136 rfl rfl ?_
    refine R_iadd (pc := 137) dX12_counted_137 ?_
    refine R_eqi (y := nI (64 + (8 * ((mm - 2) / 2)) + (15 - N.length))) (nI_add (64 + (8 * ((mm - 2) / 2))) (15 - N.length)) ?_
    refine R_iconst (pc := 138) (v := 1) dX12_counted_138 (by decide) ?_
    refine R_isub (pc := 139) dX12_counted_139 ?_
    refine R_eqi (y := oc (t8 (lcF A (15 - N.length) mm))) ((nI_sb (a := 64 + 8 * ((mm - 2) / 2) + (15 - N.length)) (b := 1) (by omega)).trans (lcF_n (q := 15 - N.length) (mm := mm) c_44 (by omega) (by omega))) ?_
    refine R_iast' (pc := 140) (j := 0) dX12_counted_140 (S_43.arr (p := 82) rfl) (by omega) ⟨rfl, by show 0 < 16; omega, by decide⟩ (fun h_85 f_86 g_87 => ?_)
    have S_89 : MO h_85 (uo ψ_36 82 (updB (pt (ψ_36 82) 0 (0, 0)) 0 (t8 (lcF A (15 - N.length) mm)))) z i := by have z_ := MO.setA (p := 82) S_43 rfl f_86 g_87 (fun j_ => congrFun (upd_oc _ _ _) j_); rw [uo_uo] at z_; exact z_
    have F_88 := fmA (p := 82) (okA_c (by decide)).1 g_87
    refine R_aload_n (pc := 141) 1 dX12_counted_141 rfl rfl ?_
    refine R_get (pc := 142) dX12_counted_142 fX12_47 S_89.obj (by omega) rfl ?_
    refine R_iconst (pc := 145) (v := 0) dX12_counted_145 (by decide) ?_
    refine R_aload_n (pc := 146) 1 dX12_counted_146 rfl rfl ?_
    refine R_get (pc := 147) dX12_counted_147 fX12_74 S_89.obj (by omega) rfl ?_
    refine R_iconst (pc := 150) (v := 1) dX12_counted_150 (by decide) ?_
    refine R_aload_n (pc := 151) 1 dX12_counted_151 rfl rfl ?_
    refine R_get (pc := 152) dX12_counted_152 fX12_137 S_89.obj (by omega) rfl ?_
    refine R_eqi (y := nI N.length) (hi5) ?_
    refine R_callSh (pc := 155) (μ' := mX12_copy) (As := [.ref 73, .int (nI 0), .ref 82, .int (nI 1), .int (nI N.length)]) (st := []) dX12_counted_155 zX12_copy lX12_133 ⟨by decide, by decide⟩ rfl rfl ⟨by decide, by decide⟩ rfl (Nat.le_of_ble_eq_true rfl) (oX12_copy S_89 hn (p := 73) (q := 82) rfl rfl 0 1 N.length (by show 0 + N.length ≤ 64; omega) (by show 1 + N.length ≤ 16; omega) (by decide)) (fun h_90 r_ q_91 => ?_)
    obtain ⟨rfl, S_92, F_93⟩ := q_91
    have S_94 : MO h_90 (uo ψ_36 82 (cpB (ψ_36 73) 0 (updB (pt (ψ_36 82) 0 (0, 0)) 0 (t8 (lcF A (15 - N.length) mm))) 1 N.length)) z i := by have z_ := S_92; rw [uo_uo] at z_; exact z_
    refine R_aload_n (pc := 158) 1 dX12_counted_158 rfl rfl ?_
    refine R_get (pc := 159) dX12_counted_159 fX12_74 S_94.obj (by omega) rfl ?_
    refine R_bipush (pc := 162) (v := 14) dX12_counted_162 (by decide) ?_
    refine R_dup2 (pc := 164) dX12_counted_164 rfl rfl ?_
    refine R_iald' (pc := 165) (j := 14) dX12_counted_165 (S_94.arr (p := 82) rfl) (by omega) ⟨rfl, by show 14 < 16; omega, by decide⟩ ?_
    refine R_eqi (y := oc ((cpB (ψ_36 73) 0 (updB (pt (ψ_36 82) 0 (0, 0)) 0 (t8 (lcF A (15 - N.length) mm))) 1 N.length) 14)) rfl ?_
    refine R_iload_n (pc := 166) 3 dX12_counted_166 rfl rfl ?_
    refine R_bipush (pc := 167) (v := 8) dX12_counted_167 (by decide) ?_
    refine R_ishr (pc := 169) dX12_counted_169 ?_
    refine R_eqi (y := oc (t8 (nI D.length >>> ((8 : Int32) &&& 31)))) (sh8_512 _ (by omega)) ?_
    refine R_ixor (pc := 170) dX12_counted_170 ?_
    refine R_eqi (y := oc (((cpB (ψ_36 73) 0 (updB (pt (ψ_36 82) 0 (0, 0)) 0 (t8 (lcF A (15 - N.length) mm))) 1 N.length) 14) ^^^ (t8 (nI D.length >>> ((8 : Int32) &&& 31))))) (oc_xor _ _) ?_
    refine R_iast' (pc := 171) (j := 14) dX12_counted_171 (S_94.arr (p := 82) rfl) (by omega) ⟨rfl, by show 14 < 16; omega, by decide⟩ (fun h_95 f_96 g_97 => ?_)
    have S_99 : MO h_95 (uo ψ_36 82 (updB (cpB (ψ_36 73) 0 (updB (pt (ψ_36 82) 0 (0, 0)) 0 (t8 (lcF A (15 - N.length) mm))) 1 N.length) 14 (((cpB (ψ_36 73) 0 (updB (pt (ψ_36 82) 0 (0, 0)) 0 (t8 (lcF A (15 - N.length) mm))) 1 N.length) 14) ^^^ (t8 (nI D.length >>> ((8 : Int32) &&& 31)))))) z i := by have z_ := MO.setA (p := 82) S_94 rfl f_96 g_97 (fun j_ => congrFun (upd_oc _ _ _) j_); rw [uo_uo] at z_; exact z_
    have F_98 := fmA (p := 82) (okA_c (by decide)).1 g_97
    refine R_aload_n (pc := 172) 1 dX12_counted_172 rfl rfl ?_
    refine R_get (pc := 173) dX12_counted_173 fX12_74 S_99.obj (by omega) rfl ?_
    refine R_bipush (pc := 176) (v := 15) dX12_counted_176 (by decide) ?_
    refine R_dup2 (pc := 178) dX12_counted_178 rfl rfl ?_
    refine R_iald' (pc := 179) (j := 15) dX12_counted_179 (S_99.arr (p := 82) rfl) (by omega) ⟨rfl, by show 15 < 16; omega, by decide⟩ ?_
    refine R_eqi (y := oc ((updB (cpB (ψ_36 73) 0 (updB (pt (ψ_36 82) 0 (0, 0)) 0 (t8 (lcF A (15 - N.length) mm))) 1 N.length) 14 (((cpB (ψ_36 73) 0 (updB (pt (ψ_36 82) 0 (0, 0)) 0 (t8 (lcF A (15 - N.length) mm))) 1 N.length) 14) ^^^ (t8 (nI D.length >>> ((8 : Int32) &&& 31))))) 15)) rfl ?_
    refine R_iload_n (pc := 180) 3 dX12_counted_180 rfl rfl ?_
    refine R_sipush (pc := 181) (v := 255) dX12_counted_181 (by decide) ?_
    refine R_iand (pc := 184) dX12_counted_184 ?_
    refine R_eqi (y := oc (t8 (nI D.length))) (oc_t8 _) ?_
    refine R_ixor (pc := 185) dX12_counted_185 ?_
    refine R_eqi (y := oc (((updB (cpB (ψ_36 73) 0 (updB (pt (ψ_36 82) 0 (0, 0)) 0 (t8 (lcF A (15 - N.length) mm))) 1 N.length) 14 (((cpB (ψ_36 73) 0 (updB (pt (ψ_36 82) 0 (0, 0)) 0 (t8 (lcF A (15 - N.length) mm))) 1 N.length) 14) ^^^ (t8 (nI D.length >>> ((8 : Int32) &&& 31))))) 15) ^^^ (t8 (nI D.length)))) (oc_xor _ _) ?_
    refine R_iast' (pc := 186) (j := 15) dX12_counted_186 (S_99.arr (p := 82) rfl) (by omega) ⟨rfl, by show 15 < 16; omega, by decide⟩ (fun h_100 f_101 g_102 => ?_)
    have S_104 : MO h_100 (uo ψ_36 82 (updB (updB (cpB (ψ_36 73) 0 (updB (pt (ψ_36 82) 0 (0, 0)) 0 (t8 (lcF A (15 - N.length) mm))) 1 N.length) 14 (((cpB (ψ_36 73) 0 (updB (pt (ψ_36 82) 0 (0, 0)) 0 (t8 (lcF A (15 - N.length) mm))) 1 N.length) 14) ^^^ (t8 (nI D.length >>> ((8 : Int32) &&& 31))))) 15 (((updB (cpB (ψ_36 73) 0 (updB (pt (ψ_36 82) 0 (0, 0)) 0 (t8 (lcF A (15 - N.length) mm))) 1 N.length) 14 (((cpB (ψ_36 73) 0 (updB (pt (ψ_36 82) 0 (0, 0)) 0 (t8 (lcF A (15 - N.length) mm))) 1 N.length) 14) ^^^ (t8 (nI D.length >>> ((8 : Int32) &&& 31))))) 15) ^^^ (t8 (nI D.length))))) z i := by have z_ := MO.setA (p := 82) S_99 rfl f_101 g_102 (fun j_ => congrFun (upd_oc _ _ _) j_); rw [uo_uo] at z_; exact z_
    have F_103 := fmA (p := 82) (okA_c (by decide)).1 g_102
    have e73 : ψ_36 73 = ψ 73 := (show FR [72, 75, 76, 82, 84, 85] ψ _ from (((((FR.rf _ _).up (by decide)).up (by decide)).up (by decide)).tr K_35 (by decide))) 73 (by decide)
    have eB : gt (updB (updB (cpB (ψ_36 73) 0 (updB (pt (ψ_36 82) 0 (0, 0)) 0 (t8 (lcF A (15 - N.length) mm))) 1 N.length) 14 (((cpB (ψ_36 73) 0 (updB (pt (ψ_36 82) 0 (0, 0)) 0 (t8 (lcF A (15 - N.length) mm))) 1 N.length) 14) ^^^ (t8 (nI D.length >>> ((8 : Int32) &&& 31))))) 15 (((updB (cpB (ψ_36 73) 0 (updB (pt (ψ_36 82) 0 (0, 0)) 0 (t8 (lcF A (15 - N.length) mm))) 1 N.length) 14 (((cpB (ψ_36 73) 0 (updB (pt (ψ_36 82) 0 (0, 0)) 0 (t8 (lcF A (15 - N.length) mm))) 1 N.length) 14) ^^^ (t8 (nI D.length >>> ((8 : Int32) &&& 31))))) 15) ^^^ (t8 (nI D.length)))) 0 = rd (lcB A N D.length (15 - N.length) mm) 0 := lc_gt (by omega) (by omega) (by omega) (by rw [e73]; exact hsN) rfl
    refine R_aload_n (pc := 187) 1 dX12_counted_187 rfl rfl ?_
    refine R_iconst (pc := 188) (v := 0) dX12_counted_188 (by decide) ?_
    refine R_aload_n (pc := 189) 1 dX12_counted_189 rfl rfl ?_
    refine R_get (pc := 190) dX12_counted_190 fX12_74 S_104.obj (by omega) rfl ?_
    refine R_iconst (pc := 193) (v := 0) dX12_counted_193 (by decide) ?_
    refine R_callVh (pc := 194) (μ' := mX12_sealBlock) (As := [.int (nI 0), .ref 82, .int (nI 0)]) (st := []) dX12_counted_194 zX12_sealBlock lX12_146 ⟨by decide, by decide⟩ rfl rfl ⟨by decide, by decide⟩ S_104.obj (by omega) rfl (Nat.le_of_ble_eq_true rfl) (oX12_sealBlock S_104 hn (K_38.uo (by decide)) (p := 82) rfl 0 (by show 0 + 16 ≤ 16; omega)) (fun h_105 r_ q_106 => ?_)
    obtain ⟨rfl, S_107, F_108⟩ := q_106
    have S_109 : MO h_105 (uo ψ_36 82 (pt (updB (updB (cpB (ψ_36 73) 0 (updB (pt (ψ_36 82) 0 (0, 0)) 0 (t8 (lcF A (15 - N.length) mm))) 1 N.length) 14 (((cpB (ψ_36 73) 0 (updB (pt (ψ_36 82) 0 (0, 0)) 0 (t8 (lcF A (15 - N.length) mm))) 1 N.length) 14) ^^^ (t8 (nI D.length >>> ((8 : Int32) &&& 31))))) 15 (((updB (cpB (ψ_36 73) 0 (updB (pt (ψ_36 82) 0 (0, 0)) 0 (t8 (lcF A (15 - N.length) mm))) 1 N.length) 14 (((cpB (ψ_36 73) 0 (updB (pt (ψ_36 82) 0 (0, 0)) 0 (t8 (lcF A (15 - N.length) mm))) 1 N.length) 14) ^^^ (t8 (nI D.length >>> ((8 : Int32) &&& 31))))) 15) ^^^ (t8 (nI D.length)))) 0 (F (gt (updB (updB (cpB (ψ_36 73) 0 (updB (pt (ψ_36 82) 0 (0, 0)) 0 (t8 (lcF A (15 - N.length) mm))) 1 N.length) 14 (((cpB (ψ_36 73) 0 (updB (pt (ψ_36 82) 0 (0, 0)) 0 (t8 (lcF A (15 - N.length) mm))) 1 N.length) 14) ^^^ (t8 (nI D.length >>> ((8 : Int32) &&& 31))))) 15 (((updB (cpB (ψ_36 73) 0 (updB (pt (ψ_36 82) 0 (0, 0)) 0 (t8 (lcF A (15 - N.length) mm))) 1 N.length) 14 (((cpB (ψ_36 73) 0 (updB (pt (ψ_36 82) 0 (0, 0)) 0 (t8 (lcF A (15 - N.length) mm))) 1 N.length) 14) ^^^ (t8 (nI D.length >>> ((8 : Int32) &&& 31))))) 15) ^^^ (t8 (nI D.length)))) 0)))) z i := by have z_ := S_107; rw [uo_uo] at z_; exact z_
    refine R_aload_n (pc := 197) 1 dX12_counted_197 rfl rfl ?_
    refine R_get (pc := 198) dX12_counted_198 fX12_140 S_109.obj (by omega) rfl ?_
    refine R_eqi (y := nI A.length) (hi6) ?_
    refine R_if_le (pc := 201) (tgt := 262) dX12_counted_201 (by decide) (fun c_110 => absurd c_110 (c_44)) (fun c_110 => ?_)
    refine R_aload_n (pc := 204) 1 dX12_counted_204 rfl rfl ?_
    refine R_get (pc := 205) dX12_counted_205 fX12_80 S_109.obj (by omega) rfl ?_
    refine R_iconst (pc := 208) (v := 0) dX12_counted_208 (by decide) ?_
    refine R_aload_n (pc := 209) 1 dX12_counted_209 rfl rfl ?_
    refine R_get (pc := 210) dX12_counted_210 fX12_140 S_109.obj (by omega) rfl ?_
    refine R_eqi (y := nI A.length) (hi6) ?_
    refine R_bipush (pc := 213) (v := 8) dX12_counted_213 (by decide) ?_
    refine R_ishr (pc := 215) dX12_counted_215 ?_
    refine R_eqi (y := oc (t8 (nI A.length >>> ((8 : Int32) &&& 31)))) (sh8_512 _ (by omega)) ?_
    refine R_iast' (pc := 216) (j := 0) dX12_counted_216 (S_109.arr (p := 84) rfl) (by omega) ⟨rfl, by show 0 < 700; omega, by decide⟩ (fun h_111 f_112 g_113 => ?_)
    have S_115 : MO h_111 (uo (uo ψ_36 82 (pt (updB (updB (cpB (ψ_36 73) 0 (updB (pt (ψ_36 82) 0 (0, 0)) 0 (t8 (lcF A (15 - N.length) mm))) 1 N.length) 14 (((cpB (ψ_36 73) 0 (updB (pt (ψ_36 82) 0 (0, 0)) 0 (t8 (lcF A (15 - N.length) mm))) 1 N.length) 14) ^^^ (t8 (nI D.length >>> ((8 : Int32) &&& 31))))) 15 (((updB (cpB (ψ_36 73) 0 (updB (pt (ψ_36 82) 0 (0, 0)) 0 (t8 (lcF A (15 - N.length) mm))) 1 N.length) 14 (((cpB (ψ_36 73) 0 (updB (pt (ψ_36 82) 0 (0, 0)) 0 (t8 (lcF A (15 - N.length) mm))) 1 N.length) 14) ^^^ (t8 (nI D.length >>> ((8 : Int32) &&& 31))))) 15) ^^^ (t8 (nI D.length)))) 0 (F (gt (updB (updB (cpB (ψ_36 73) 0 (updB (pt (ψ_36 82) 0 (0, 0)) 0 (t8 (lcF A (15 - N.length) mm))) 1 N.length) 14 (((cpB (ψ_36 73) 0 (updB (pt (ψ_36 82) 0 (0, 0)) 0 (t8 (lcF A (15 - N.length) mm))) 1 N.length) 14) ^^^ (t8 (nI D.length >>> ((8 : Int32) &&& 31))))) 15 (((updB (cpB (ψ_36 73) 0 (updB (pt (ψ_36 82) 0 (0, 0)) 0 (t8 (lcF A (15 - N.length) mm))) 1 N.length) 14 (((cpB (ψ_36 73) 0 (updB (pt (ψ_36 82) 0 (0, 0)) 0 (t8 (lcF A (15 - N.length) mm))) 1 N.length) 14) ^^^ (t8 (nI D.length >>> ((8 : Int32) &&& 31))))) 15) ^^^ (t8 (nI D.length)))) 0)))) 84 (updB (ψ_36 84) 0 (t8 (nI A.length >>> ((8 : Int32) &&& 31))))) z i := MO.setA (p := 84) S_109 rfl f_112 g_113 (fun j_ => congrFun (upd_oc _ _ _) j_)
    have F_114 := fmA (p := 84) (okA_c (by decide)).1 g_113
    refine R_aload_n (pc := 217) 1 dX12_counted_217 rfl rfl ?_
    refine R_get (pc := 218) dX12_counted_218 fX12_80 S_115.obj (by omega) rfl ?_
    refine R_iconst (pc := 221) (v := 1) dX12_counted_221 (by decide) ?_
    refine R_aload_n (pc := 222) 1 dX12_counted_222 rfl rfl ?_
    refine R_get (pc := 223) dX12_counted_223 fX12_140 S_115.obj (by omega) rfl ?_
    refine R_eqi (y := nI A.length) (hi6) ?_
    refine R_sipush (pc := 226) (v := 255) dX12_counted_226 (by decide) ?_
    refine R_iand (pc := 229) dX12_counted_229 ?_
    refine R_eqi (y := oc (t8 (nI A.length))) (oc_t8 _) ?_
    refine R_iast' (pc := 230) (j := 1) dX12_counted_230 (S_115.arr (p := 84) rfl) (by omega) ⟨rfl, by show 1 < 700; omega, by decide⟩ (fun h_116 f_117 g_118 => ?_)
    have S_120 : MO h_116 (uo (uo ψ_36 82 (pt (updB (updB (cpB (ψ_36 73) 0 (updB (pt (ψ_36 82) 0 (0, 0)) 0 (t8 (lcF A (15 - N.length) mm))) 1 N.length) 14 (((cpB (ψ_36 73) 0 (updB (pt (ψ_36 82) 0 (0, 0)) 0 (t8 (lcF A (15 - N.length) mm))) 1 N.length) 14) ^^^ (t8 (nI D.length >>> ((8 : Int32) &&& 31))))) 15 (((updB (cpB (ψ_36 73) 0 (updB (pt (ψ_36 82) 0 (0, 0)) 0 (t8 (lcF A (15 - N.length) mm))) 1 N.length) 14 (((cpB (ψ_36 73) 0 (updB (pt (ψ_36 82) 0 (0, 0)) 0 (t8 (lcF A (15 - N.length) mm))) 1 N.length) 14) ^^^ (t8 (nI D.length >>> ((8 : Int32) &&& 31))))) 15) ^^^ (t8 (nI D.length)))) 0 (F (gt (updB (updB (cpB (ψ_36 73) 0 (updB (pt (ψ_36 82) 0 (0, 0)) 0 (t8 (lcF A (15 - N.length) mm))) 1 N.length) 14 (((cpB (ψ_36 73) 0 (updB (pt (ψ_36 82) 0 (0, 0)) 0 (t8 (lcF A (15 - N.length) mm))) 1 N.length) 14) ^^^ (t8 (nI D.length >>> ((8 : Int32) &&& 31))))) 15 (((updB (cpB (ψ_36 73) 0 (updB (pt (ψ_36 82) 0 (0, 0)) 0 (t8 (lcF A (15 - N.length) mm))) 1 N.length) 14 (((cpB (ψ_36 73) 0 (updB (pt (ψ_36 82) 0 (0, 0)) 0 (t8 (lcF A (15 - N.length) mm))) 1 N.length) 14) ^^^ (t8 (nI D.length >>> ((8 : Int32) &&& 31))))) 15) ^^^ (t8 (nI D.length)))) 0)))) 84 (updB (updB (ψ_36 84) 0 (t8 (nI A.length >>> ((8 : Int32) &&& 31)))) 1 (t8 (nI A.length)))) z i := by have z_ := MO.setA (p := 84) S_115 rfl f_117 g_118 (fun j_ => congrFun (upd_oc _ _ _) j_); rw [uo_uo] at z_; exact z_
    have F_119 := fmA (p := 84) (okA_c (by decide)).1 g_118
    refine R_aload_n (pc := 231) 1 dX12_counted_231 rfl rfl ?_
    refine R_get (pc := 232) dX12_counted_232 fX12_50 S_120.obj (by omega) rfl ?_
    refine R_iconst (pc := 235) (v := 0) dX12_counted_235 (by decide) ?_
    refine R_aload_n (pc := 236) 1 dX12_counted_236 rfl rfl ?_
    refine R_get (pc := 237) dX12_counted_237 fX12_80 S_120.obj (by omega) rfl ?_
    refine R_iconst (pc := 240) (v := 2) dX12_counted_240 (by decide) ?_
    refine R_aload_n (pc := 241) 1 dX12_counted_241 rfl rfl ?_
    refine R_get (pc := 242) dX12_counted_242 fX12_140 S_120.obj (by omega) rfl ?_
    refine R_eqi (y := nI A.length) (hi6) ?_
    refine R_callSh (pc := 245) (μ' := mX12_copy) (As := [.ref 74, .int (nI 0), .ref 84, .int (nI 2), .int (nI A.length)]) (st := []) dX12_counted_245 zX12_copy lX12_133 ⟨by decide, by decide⟩ rfl rfl ⟨by decide, by decide⟩ rfl (Nat.le_of_ble_eq_true rfl) (oX12_copy S_120 hn (p := 74) (q := 84) rfl rfl 0 2 A.length (by show 0 + A.length ≤ 256; omega) (by show 2 + A.length ≤ 700; omega) (by decide)) (fun h_121 r_ q_122 => ?_)
    obtain ⟨rfl, S_123, F_124⟩ := q_122
    have S_125 : MO h_121 (uo (uo ψ_36 82 (pt (updB (updB (cpB (ψ_36 73) 0 (updB (pt (ψ_36 82) 0 (0, 0)) 0 (t8 (lcF A (15 - N.length) mm))) 1 N.length) 14 (((cpB (ψ_36 73) 0 (updB (pt (ψ_36 82) 0 (0, 0)) 0 (t8 (lcF A (15 - N.length) mm))) 1 N.length) 14) ^^^ (t8 (nI D.length >>> ((8 : Int32) &&& 31))))) 15 (((updB (cpB (ψ_36 73) 0 (updB (pt (ψ_36 82) 0 (0, 0)) 0 (t8 (lcF A (15 - N.length) mm))) 1 N.length) 14 (((cpB (ψ_36 73) 0 (updB (pt (ψ_36 82) 0 (0, 0)) 0 (t8 (lcF A (15 - N.length) mm))) 1 N.length) 14) ^^^ (t8 (nI D.length >>> ((8 : Int32) &&& 31))))) 15) ^^^ (t8 (nI D.length)))) 0 (F (gt (updB (updB (cpB (ψ_36 73) 0 (updB (pt (ψ_36 82) 0 (0, 0)) 0 (t8 (lcF A (15 - N.length) mm))) 1 N.length) 14 (((cpB (ψ_36 73) 0 (updB (pt (ψ_36 82) 0 (0, 0)) 0 (t8 (lcF A (15 - N.length) mm))) 1 N.length) 14) ^^^ (t8 (nI D.length >>> ((8 : Int32) &&& 31))))) 15 (((updB (cpB (ψ_36 73) 0 (updB (pt (ψ_36 82) 0 (0, 0)) 0 (t8 (lcF A (15 - N.length) mm))) 1 N.length) 14 (((cpB (ψ_36 73) 0 (updB (pt (ψ_36 82) 0 (0, 0)) 0 (t8 (lcF A (15 - N.length) mm))) 1 N.length) 14) ^^^ (t8 (nI D.length >>> ((8 : Int32) &&& 31))))) 15) ^^^ (t8 (nI D.length)))) 0)))) 84 (cpB (ψ_36 74) 0 (updB (updB (ψ_36 84) 0 (t8 (nI A.length >>> ((8 : Int32) &&& 31)))) 1 (t8 (nI A.length))) 2 A.length)) z i := by have z_ := S_123; rw [uo_uo] at z_; exact z_
    refine R_aload_n (pc := 248) 1 dX12_counted_248 rfl rfl ?_
    refine R_aload_n (pc := 249) 1 dX12_counted_249 rfl rfl ?_
    refine R_get (pc := 250) dX12_counted_250 fX12_80 S_125.obj (by omega) rfl ?_
    refine R_aload_n (pc := 253) 1 dX12_counted_253 rfl rfl ?_
    refine R_get (pc := 254) dX12_counted_254 fX12_140 S_125.obj (by omega) rfl ?_
    refine R_eqi (y := nI A.length) (hi6) ?_
    refine R_iconst (pc := 257) (v := 2) dX12_counted_257 (by decide) ?_
    refine R_iadd (pc := 258) dX12_counted_258 ?_
    refine R_eqi (y := nI (A.length + 2)) (nI_add A.length 2) ?_
    have lM : (lcM A).length = A.length + 2 := by unfold lcM; rw [List.length_append, List.length_append]; show 1 + 1 + A.length = _; omega
    have e74 : ψ_36 74 = ψ 74 := (show FR [72, 75, 76, 82, 84, 85] ψ _ from (((((FR.rf _ _).up (by decide)).up (by decide)).up (by decide)).tr K_35 (by decide))) 74 (by decide)
    have sM : sg (cpB (ψ_36 74) 0 (updB (updB (ψ_36 84) 0 (t8 (nI A.length >>> ((8 : Int32) &&& 31)))) 1 (t8 (nI A.length))) 2 A.length) 0 (lcM A) := by
      intro j_ hj_
      rw [lM] at hj_
      rw [Nat.zero_add]
      unfold lcM
      by_cases q_ : j_ < 2
      · rw [cpB_out _ _ _ (by omega), og_app_l (by rw [List.length_append]; exact q_)]
        rcases (show j_ = 0 ∨ j_ = 1 by omega) with rfl | rfl
        · rw [updB_n (by omega), updB_s]; rfl
        · rw [updB_s]; rfl
      · rw [og_app_r (by rw [List.length_append]; show 1 + 1 ≤ j_; omega)]
        have := (show sg (ψ_36 74) 0 A by rw [e74]; exact hsA).cp (updB (updB (ψ_36 84) 0 (t8 (nI A.length >>> ((8 : Int32) &&& 31)))) 1 (t8 (nI A.length))) 2 rfl (j_ - 2) (by omega)
        rw [show 2 + (j_ - 2) = j_ by omega] at this
        exact this
    refine R_eqi (y := nI (lcM A).length) (by rw [lM]) ?_
    refine R_callVh (pc := 259) (μ' := mX12_chained) (As := [.ref 84, .int (nI (lcM A).length)]) (st := []) dX12_counted_259 zX12_chained lX12_208 ⟨by decide, by decide⟩ rfl rfl ⟨by decide, by decide⟩ S_125.obj (by omega) rfl (Nat.le_of_ble_eq_true rfl) (oX12_chained S_125 hn (p := 84) rfl (by decide) (lcM A) (by rw [lM]; omega) (by rw [lM]; show A.length + 2 ≤ 700; omega) sM ((K_38.uo (by decide)).uo (by decide))) (fun h_126 r_ q_127 => ?_)
    obtain ⟨ψ_131, rfl, S_128, K_130, J_132, F_129⟩ := q_127
    have K_133 := ((K_38.uo (by decide)).uo (by decide)).fr K_130 (by decide) (by decide) (by decide) (by decide)
    have s259 : gt (ψ_131 82) 0 = cyN (csS F (lcM A)) (gt (pt (updB (updB (cpB (ψ_36 73) 0 (updB (pt (ψ_36 82) 0 (0, 0)) 0 (t8 (lcF A (15 - N.length) mm))) 1 N.length) 14 (((cpB (ψ_36 73) 0 (updB (pt (ψ_36 82) 0 (0, 0)) 0 (t8 (lcF A (15 - N.length) mm))) 1 N.length) 14) ^^^ (t8 (nI D.length >>> ((8 : Int32) &&& 31))))) 15 (((updB (cpB (ψ_36 73) 0 (updB (pt (ψ_36 82) 0 (0, 0)) 0 (t8 (lcF A (15 - N.length) mm))) 1 N.length) 14 (((cpB (ψ_36 73) 0 (updB (pt (ψ_36 82) 0 (0, 0)) 0 (t8 (lcF A (15 - N.length) mm))) 1 N.length) 14) ^^^ (t8 (nI D.length >>> ((8 : Int32) &&& 31))))) 15) ^^^ (t8 (nI D.length)))) 0 (F (gt (updB (updB (cpB (ψ_36 73) 0 (updB (pt (ψ_36 82) 0 (0, 0)) 0 (t8 (lcF A (15 - N.length) mm))) 1 N.length) 14 (((cpB (ψ_36 73) 0 (updB (pt (ψ_36 82) 0 (0, 0)) 0 (t8 (lcF A (15 - N.length) mm))) 1 N.length) 14) ^^^ (t8 (nI D.length >>> ((8 : Int32) &&& 31))))) 15 (((updB (cpB (ψ_36 73) 0 (updB (pt (ψ_36 82) 0 (0, 0)) 0 (t8 (lcF A (15 - N.length) mm))) 1 N.length) 14 (((cpB (ψ_36 73) 0 (updB (pt (ψ_36 82) 0 (0, 0)) 0 (t8 (lcF A (15 - N.length) mm))) 1 N.length) 14) ^^^ (t8 (nI D.length >>> ((8 : Int32) &&& 31))))) 15) ^^^ (t8 (nI D.length)))) 0))) 0) (nbk (lcM A)) := J_132
    have t259 : ψ_131 85 = ψ_36 85 := K_130 85 (by decide)
    have y259 : ψ_131 72 = ψ_36 72 := K_130 72 (by decide)
    refine R_aload_n (pc := 262) 1 dX12_counted_262 rfl rfl ?_
    refine R_iload_n (pc := 263) 2 dX12_counted_263 rfl rfl ?_
    refine R_if_eq (pc := 264) (tgt := 274) dX12_counted_264 (by decide) (fun c_134 => absurd c_134 (by decide)) (fun c_134 => ?_)
    refine R_aload_n (pc := 267) 1 dX12_counted_267 rfl rfl ?_
    refine R_get (pc := 268) dX12_counted_268 fX12_44 S_128.obj (by omega) rfl ?_
    refine R_goto (pc := 271) (tgt := 278) dX12_counted_271 (by decide) ?_
    refine R_iload_n (pc := 278) 3 dX12_counted_278 rfl rfl ?_
    have yP : sg (ψ_131 72) 0 (ctO F D (one1 (cnB N (15 - N.length)))) := by rw [show ψ_131 72 = ψ_36 72 from y259]; exact yC
    refine R_eqi (y := nI (ctO F D (one1 (cnB N (15 - N.length)))).length) (by rw [lO]) ?_
    refine R_callVh (pc := 279) (μ' := mX12_chained) (As := [.ref 72, .int (nI (ctO F D (one1 (cnB N (15 - N.length)))).length)]) (st := []) dX12_counted_279 zX12_chained lX12_208 ⟨by decide, by decide⟩ rfl rfl ⟨by decide, by decide⟩ S_128.obj (by omega) rfl (Nat.le_of_ble_eq_true rfl) (oX12_chained S_128 hn (p := 72) rfl (by decide) (ctO F D (one1 (cnB N (15 - N.length)))) (by rw [lO]; omega) (by rw [lO]; show D.length ≤ 700; omega) yP K_133) (fun h_135 r_ q_136 => ?_)
    obtain ⟨ψ_140, rfl, S_137, K_139, J_141, F_138⟩ := q_136
    have K_142 := K_133.fr K_139 (by decide) (by decide) (by decide) (by decide)
    have s279 : gt (ψ_140 82) 0 = cyN (csS F (ctO F D (one1 (cnB N (15 - N.length))))) (gt (ψ_131 82) 0) (nbk (ctO F D (one1 (cnB N (15 - N.length))))) := J_141
    have t279 : ψ_140 85 = ψ_131 85 := K_139 85 (by decide)
    have y279 : ψ_140 72 = ψ_131 72 := K_139 72 (by decide)
    refine R_aload_n (pc := 282) 1 dX12_counted_282 rfl rfl ?_
    refine R_get (pc := 283) dX12_counted_283 fX12_74 S_137.obj (by omega) rfl ?_
    refine R_iconst (pc := 286) (v := 0) dX12_counted_286 (by decide) ?_
    refine R_aload_n (pc := 287) 1 dX12_counted_287 rfl rfl ?_
    refine R_get (pc := 288) dX12_counted_288 fX12_83 S_137.obj (by omega) rfl ?_
    refine R_iconst (pc := 291) (v := 0) dX12_counted_291 (by decide) ?_
    refine R_bipush (pc := 292) (v := 16) dX12_counted_292 (by decide) ?_
    refine R_callSh (pc := 294) (μ' := mX12_add) (As := [.ref 82, .int (nI 0), .ref 85, .int (nI 0), .int 16]) (st := []) dX12_counted_294 zX12_add lX12_143 ⟨by decide, by decide⟩ rfl rfl ⟨by decide, by decide⟩ rfl (Nat.le_of_ble_eq_true rfl) (oX12_add16 S_137 hn (p := 82) (q := 85) rfl rfl 0 0 (by show 0 + 16 ≤ 16; omega) (by show 0 + 16 ≤ 16; omega) (by decide)) (fun h_143 r_ q_144 => ?_)
    obtain ⟨rfl, S_145, F_146⟩ := q_144
    have S_147 : MO h_143 (uo ψ_140 85 (pt (ψ_140 85) 0 (xb (gt (ψ_140 85) 0) (gt (ψ_140 82) 0)))) z i := S_145
    have hlen : ((ctO F D (one1 (cnB N (15 - N.length))))).length = D.length := lO
    have hy : gt (pt (ψ_140 85) 0 (xb (gt (ψ_140 85) 0) (gt (ψ_140 82) 0))) 0 = cnT F A N (ctO F D (one1 (cnB N (15 - N.length)))) (15 - N.length) mm := by
      unfold cnT
      rw [csm_n F (ctO F D (one1 (cnB N (15 - N.length)))) (by omega) c_44, hlen, gt_pt, s279, s259]
      simp only [gt_pt, pt_pt]
      rw [eB, t279, t259, t93]
      simp only [gt_pt, pt_pt]
      rw [eC, xb_comm]
    have hz : sg (ψ_140 72) 0 (ctO F D (one1 (cnB N (15 - N.length)))) := by rw [y279, y259]; exact yC
    exact R_vreturn (pc := 297) dX12_counted_297 rfl (by decide) (by decide) ⟨rfl, _, rfl, S_147, ((((((((((FR.rf _ _).up (by decide)).up (by decide)).up (by decide)).tr K_35 (by decide)).up (by decide)).up (by decide)).tr K_130 (by decide)).tr K_139 (by decide)).up (by decide)), ⟨hz, hy⟩, ((((((((((((((((((F_4.tr F_9).tr F_14).tr F_19).tr F_24).tr F_29).tr F_34).tr F_42).tr F_88).tr F_93).tr F_98).tr F_103).tr F_108).tr F_114).tr F_119).tr F_124).tr F_129).tr F_138).tr F_146)⟩
