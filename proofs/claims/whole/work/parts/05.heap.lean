def am_u (h : am_H) (a : Nat) (c : am_C) : am_H := fun x => if x = a then c else h x
theorem am_us (h : am_H) (a : Nat) (c : am_C) : am_u h a c a = c := if_pos rfl
theorem am_un {h : am_H} {a x : Nat} {c : am_C} (hx : x ≠ a) : am_u h a c x = h x := if_neg hx
theorem am_cell {w : am_W} {h : am_H} {n : Nat} {s : State} {H : Heap} (R : am_R w h n s H) {a : Nat} (ha : 0 < a ∧ a ≤ n) : va_at w.2.2.2.2.2.2 vwCl (am_a w a, am_e w (h a)) H := by
  obtain ⟨i, rfl⟩ : ∃ i, a = i + 1 := ⟨a - 1, by omega⟩
  exact R.2.1 i (by omega)
theorem am_base {w : am_W} {a : Nat} (ha : 0 < a) : w.1 ≤ am_a w a := by
  obtain ⟨i, rfl⟩ : ∃ i, a = i + 1 := ⟨a - 1, by omega⟩
  exact Nat.le_add_right _ _
theorem am_R.set {w : am_W} {h : am_H} {n : Nat} {s : State} {H H1 : Heap} (R : am_R w h n s H) {a : Nat} {c' : am_C} (ha : 0 < a ∧ a ≤ n) (hz : H1.size = H.size) (ho : ∀ q, q ≠ am_a w a → H1[q]? = H[q]?) (hc : va_at w.2.2.2.2.2.2 vwCl (am_a w a, am_e w c') H1) : am_R w (am_u h a c') n s H1 := by
  obtain ⟨i, rfl⟩ : ∃ i, a = i + 1 := ⟨a - 1, by omega⟩
  obtain ⟨r1, r2, r3, r4, r5⟩ := R
  refine ⟨hz.trans r1, fun j hj => ?_, va_X.kept r3 (ho _ (fun q => ?_)), r4, ?_⟩
  · by_cases hji : j = i
    · subst hji
      rw [am_us]
      exact hc
    · rw [am_un (by omega)]
      exact (r2 j hj).kept (ho _ (fun q => hji (by have q' : w.1 + j = w.1 + i := q; omega)))
  · have q' : w.2.1 = w.1 + i := q
    omega
  · rw [am_un (by omega)]
    exact r5
theorem am_R.grow {w : am_W} {h : am_H} {n : Nat} {s : State} {H H1 : Heap} (R : am_R w h n s H) {c' : am_C} (hz : H1.size = H.size + 1) (ho : ∀ q, q < H.size → H1[q]? = H[q]?) (hc : va_at w.2.2.2.2.2.2 vwCl (H.size, am_e w c') H1) : am_R w (am_u h (n + 1) c') (n + 1) s H1 := by
  obtain ⟨r1, r2, r3, r4, r5⟩ := R
  refine ⟨by omega, fun j hj => ?_, va_X.kept r3 (ho _ (by omega)), r4, ?_⟩
  · by_cases hji : j = n
    · subst hji
      rw [am_us, ← r1]
      exact hc
    · rw [am_un (by omega)]
      exact (r2 j (by omega)).kept (ho _ (show w.1 + j < H.size by omega))
  · rw [am_un (by omega)]
    exact r5
theorem am_app {w : am_W} {locs : List Loc} {a : Nat} {i : Nat} (hL : ∀ q ∈ locs, w.1 ≤ q.base) (ha : 0 < a) : ∀ q ∈ locs ++ [(⟨am_a w a, i⟩ : Loc)], w.1 ≤ q.base := by
  intro q hq
  rcases List.mem_append.mp hq with h1 | h1
  · exact hL q h1
  · rw [List.mem_singleton.mp h1]
    exact am_base ha
theorem am_fit {w : am_W} {ty : FieldType} {v : Value} (h1 : narrow ty v = v) (h2 : fits ty v = true) : narrow ty (am_v w v) = am_v w v ∧ fits ty (am_v w v) = true := by
  cases v with
  | ref i => cases ty <;> first | exact ⟨rfl, rfl⟩ | exact ⟨rfl, h2⟩
  | _ => exact ⟨h1, h2⟩
theorem am_dflt (w : am_W) (t : FieldType) : am_v w (defaultValue t) = defaultValue t := by cases t <;> rfl
theorem am_vV (w : am_W) (fs : List Value) (j : Nat) : vp_V (fs.map (am_v w)) j = am_v w (vp_V fs j) := by
  unfold vp_V
  rw [List.getD_eq_getElem?_getD, List.getD_eq_getElem?_getD, List.getElem?_map]
  cases fs[j]? <;> rfl
/-- a field's link, with the class's words -/
def am_F (own : String) (idx ci kf : Nat) : Prop := ∃ (C : String) (T : u_T) (N : Nat), vwCl[ci]? = some (C, T, N) ∧ kf < N ∧ (∀ x ∈ u_ws C T N, x ∈ am_tb) ∧ (Cond.fieldLink own idx (T kf).1 (T kf).2.1 (T kf).2.2.1 ∈ am_tb ∨ ∃ host, Cond.fieldLinkNest own idx (T kf).1 (T kf).2.1 (T kf).2.2.1 host ∈ am_nb)
def am_T (ci kf : Nat) (ty : FieldType) (fin : Bool) : Prop := ∃ (C : String) (T : u_T) (N : Nat) (ty0 : Nat → FieldType), vwCl[ci]? = some (C, T, N) ∧ (∀ k, k < N → parseFieldDescriptor (T k).2.2.1 = some (ty0 k)) ∧ (∀ a, a < N → ∀ b, b < N → a ≠ b → (T a).2.1 ≠ (T b).2.1) ∧ parseFieldDescriptor (T kf).2.2.1 = some ty ∧ (T kf).2.2.2 = fin ∧ (T kf).1 = C
section RHEAP
variable {l : Launch} {w : am_W} {μ : am_M} {h : am_H} {n k z pc : Nat} {lv : List (Nat × Value)} {st : List Value} {Q : am_H → Nat → Option Value → Prop}
theorem R_get {a idx ci kf : Nat} {fs : List Value} {v : Value} (hd : decode (m_b μ) pc = .ok (.getfield idx, 3)) (hf : am_F (m_y μ).cls idx ci kf) (ha : h a = .inr (.inr (ci, fs))) (hn : 0 < a ∧ a ≤ n) (hv : fs[kf]? = some v) (kk : RW l w μ h n k z (pc + 3) lv (v :: st) Q) : RW l w μ h n k z pc lv (.ref a :: st) Q := by
  intro p e s m args below meth c H locs ls X K R hL hl
  obtain ⟨C, T, N, hc, hk, hin, hlink⟩ := hf
  have hat := am_cell R hn
  rw [ha] at hat
  have hP : va_P w.2.2.2.2.2.2 vwCl [(am_a w a, .inr (ci, fs.map (am_v w)))] H := by
    intro j q hq
    match j, hq with
    | 0, hq => cases hq; exact hat
  have hv' : (fs.map (am_v w))[kf]? = some (am_v w v) := by rw [List.getElem?_map, hv]; rfl
  rcases hlink with hlink | ⟨host, hlink⟩
  · exact va_get X.1 X.2.1 X.2.2.2.2.2.1 hin X.2.2.2.2.1 K.1 hP 0 rfl hc kf hk (X.2.2.2.2.2.1 _ hlink) (fun _ q => q) hv' hd (kk p e s m args below meth c H locs ls X K R hL hl)
  · exact va_getN X.1 X.2.1 X.2.2.2.2.2.1 hin X.2.2.2.2.1 K.1 hP 0 rfl hc kf hk (va_Nw.use rfl (K.2 _ hlink)) (fun _ q => q) hv' hd (kk p e s m args below meth c H locs ls X K R hL hl)
theorem R_put {a idx ci kf : Nat} {fs fs' : List Value} {v : Value} {ty : FieldType} (hd : decode (m_b μ) pc = .ok (.putfield idx, 3)) (hf : am_F (m_y μ).cls idx ci kf) (ht : am_T ci kf ty false) (hn1 : narrow ty v = v) (hfit : fits ty v = true) (ha : h a = .inr (.inr (ci, fs))) (hn : 0 < a ∧ a ≤ n) (hlen : kf < fs.length) (hfs : fs.set kf v = fs') (kk : RW l w μ (am_u h a (.inr (.inr (ci, fs')))) n k z (pc + 3) lv st Q) : RW l w μ h n k z pc lv (v :: .ref a :: st) Q := by
  intro p e s m args below meth c H locs ls X K R hL hl
  subst hfs
  obtain ⟨C, T, N, hc, hk, hin, hlink⟩ := hf
  obtain ⟨C', T', N', ty0, hc', hty, hnm, hdp, hfin, -⟩ := ht
  cases hc.symm.trans hc'
  have hat := am_cell R hn
  rw [ha] at hat
  obtain ⟨hf1, hf2⟩ := am_fit (w := w) hn1 hfit
  have hts := X.2.2.2.2.2.1
  have hap := va_apart (own := (m_y μ).cls) hts hin ty0 hty hnm K.1 hc
  obtain ⟨r, h1, cell, q1, q2, q3, q4⟩ := hat
  have hr : r = (C, T, N) := Option.some.inj (h1.symm.trans hc)
  subst hr
  obtain ⟨hS, hfc, kC, hkC, hkind⟩ := K.1.1 ci _ hc
  obtain ⟨cf, kf', fi, f, hi, hsl⟩ := hS kf hk
  have hlay := hts _ (hin _ (u_in_lay hk))
  unfold u_lay at hlay
  rw [if_neg (by rw [hfin]; decide)] at hlay
  have hst := (u_facts hfc hkC (u_lays hts hin hk) hi).1
  have h6 := u_store hfc hkC hkind hlay hi hdp hf1 hf2
  have hend : ∀ H' : Heap, H'[am_a w a]? = some (cell.setSlot f.slot (am_v w v)) → H'.size = H.size → (∀ q, q ≠ am_a w a → H'[q]? = H[q]?) → W p l e (am_rm μ) s m args below meth c H' (locs ++ [⟨am_a w a, f.slot⟩]) k z (MQ below (am_Q w Q) args s (m_mc μ) (m_ms μ) (fun q => w.1 ≤ q)) (F0 m (pc + 3) ls (st.map (am_v w))) := by
    intro H' e1 e2 e3
    rw [hsl] at e1
    refine kk p e s m args below meth c H' _ ls X K (R.set hn e2 e3 ⟨_, hc, ?_⟩) (am_app hL hn.1) hl
    have hlen' : kf < (fs.map (am_v w)).length := by rw [List.length_map]; exact hlen
    refine t_OB.to (V := updV (vp_V (fs.map (am_v w))) kf (am_v w v)) ⟨_, e1, q2, q3, t_set q4 hap hk _⟩ (fun j _ => ?_)
    rw [vp_updV_set hlen']
    show vp_V _ j = vp_V ((fs.set kf v).map (am_v w)) j
    rw [List.map_set]
  rcases hlink with hlink | ⟨host, hlink⟩
  · exact W.putK X.1 X.2.1 (f := f) ⟨X.2.2.2.2.1, hts _ hlink, ⟨_, _, _, hi⟩, hst⟩ (by rw [q2]; exact h6) q1 q3 (by rw [hsl]; exact k2_hasslot (q4 kf hk)) rfl rfl hd hend
  · exact va_WputK X.1 X.2.1 (f := f) X.2.2.2.2.1 (va_Nw.use rfl (K.2 _ hlink)) hi hst (by rw [q2]; exact h6) q1 q3 (by rw [hsl]; exact k2_hasslot (q4 kf hk)) rfl rfl hd hend
theorem R_putF {a idx ci kf : Nat} {fs fs' : List Value} {v : Value} {ty : FieldType} {C0 : String} (hd : decode (m_b μ) pc = .ok (.putfield idx, 3)) (hf : am_F (m_y μ).cls idx ci kf) (hlk : ∀ C T N, vwCl[ci]? = some (C, T, N) → C = C0 ∧ Cond.fieldLink (m_y μ).cls idx (T kf).1 (T kf).2.1 (T kf).2.2.1 ∈ am_tb) (ht : am_T ci kf ty true) (hin2 : (m_y μ).name = "<init>") (hC : C0 = (m_y μ).cls) (hn1 : narrow ty v = v) (hfit : fits ty v = true) (ha : h a = .inr (.inr (ci, fs))) (hn : 0 < a ∧ a ≤ n) (hlen : kf < fs.length) (hfs : fs.set kf v = fs') (kk : RW l w μ (am_u h a (.inr (.inr (ci, fs')))) n k z (pc + 3) lv st Q) : RW l w μ h n k z pc lv (v :: .ref a :: st) Q := by
  intro p e s m args below meth c H locs ls X K R hL hl
  subst hfs
  obtain ⟨C, T, N, hc, hk, hin, -⟩ := hf
  obtain ⟨C', T', N', ty0, hc', hty, hnm, hdp, hfin, hdecl⟩ := ht
  cases hc.symm.trans hc'
  obtain ⟨hCC, hlink⟩ := hlk _ _ _ hc
  have hat := am_cell R hn
  rw [ha] at hat
  obtain ⟨hf1, hf2⟩ := am_fit (w := w) hn1 hfit
  have hts := X.2.2.2.2.2.1
  have hown := X.2.2.2.2.1
  have hap := va_apart (own := (m_y μ).cls) hts hin ty0 hty hnm K.1 hc
  obtain ⟨r, h1, cell, q1, q2, q3, q4⟩ := hat
  have hr : r = (C, T, N) := Option.some.inj (h1.symm.trans hc)
  subst hr
  obtain ⟨hS, hfc, kC, hkC, hkind⟩ := K.1.1 ci _ hc
  obtain ⟨cf, kf', fi, f, hi, hsl⟩ := hS kf hk
  have hlay := hts _ (hin _ (u_in_lay hk))
  unfold u_lay at hlay
  rw [if_pos hfin] at hlay
  have hst := (u_facts hfc hkC (u_lays hts hin hk) hi).1
  have hcf : m.cls = cf := by
    obtain ⟨_, _, c', _, _, _, -, -, hf', -, -, -, hown2, -⟩ := Cond.laysFinal_spec hlay
    have e1 : c' = cf := by have := hi.symm.trans hf'; simp at this; exact this.1.symm
    rw [hdecl, hCC, hC] at hown2
    rw [← e1]; exact Option.some.inj (hown.symm.trans hown2)
  have h6 := u_fits hfc hkC hkind (Or.inr hlay) hi hdp hf1 hf2
  refine W.putFinK X.1 X.2.1 hown (hts _ hlink) hi hst hcf (X.2.2.2.2.2.2.2.trans hin2) (by rw [q2]; exact h6) q1 q3 (by rw [hsl]; exact k2_hasslot (q4 kf hk)) rfl rfl hd fun H' e1 e2 e3 => ?_
  rw [hsl] at e1
  refine kk p e s m args below meth c H' _ ls X K (R.set hn e2 e3 ⟨_, hc, ?_⟩) (am_app hL hn.1) hl
  have hlen' : kf < (fs.map (am_v w)).length := by rw [List.length_map]; exact hlen
  refine t_OB.to (V := updV (vp_V (fs.map (am_v w))) kf (am_v w v)) ⟨_, e1, q2, q3, t_set q4 hap hk _⟩ (fun j _ => ?_)
  rw [vp_updV_set hlen']
  show vp_V _ j = vp_V ((fs.set kf v).map (am_v w)) j
  rw [List.map_set]
theorem R_iald {a N : Nat} {f : Nat → Int32} {i : Int32} (hd : decode (m_b μ) pc = .ok (.iaload, 1)) (ha : h a = .inl (N, f)) (hn : 0 < a ∧ a ≤ n) (hi : vp_in i N) (kk : RW l w μ h n k z (pc + 1) lv (.int (f i.toNatClampNeg) :: st) Q) : RW l w μ h n k z pc lv (.int i :: .ref a :: st) Q := by
  intro p e s m args below meth c H locs ls X K R hL hl
  have hat := am_cell R hn
  rw [ha] at hat
  have hP : va_P w.2.2.2.2.2.2 vwCl [(am_a w a, .inl (w.2.2.2.2.1, (N, .inl f)))] H := by
    intro j q hq
    match j, hq with
    | 0, hq => cases hq; exact hat
  exact va_iald X.1 X.2.1 K.1 hP 0 0 rfl rfl hi hd (kk p e s m args below meth c H locs ls X K R hL hl)
theorem R_lald {a N : Nat} {f : Nat → Int64} {i : Int32} (hd : decode (m_b μ) pc = .ok (.laload, 1)) (ha : h a = .inr (.inl (N, f))) (hn : 0 < a ∧ a ≤ n) (hi : vp_in i N) (kk : RW l w μ h n k z (pc + 1) lv (.long (f i.toNatClampNeg) :: st) Q) : RW l w μ h n k z pc lv (.int i :: .ref a :: st) Q := by
  intro p e s m args below meth c H locs ls X K R hL hl
  have hat := am_cell R hn
  rw [ha] at hat
  have hP : va_P w.2.2.2.2.2.2 vwCl [(am_a w a, .inl (w.2.2.2.2.2.1, (N, .inr (.inl f))))] H := by
    intro j q hq
    match j, hq with
    | 0, hq => cases hq; exact hat
  exact va_lald X.1 X.2.1 K.1 hP 0 1 rfl rfl hi hd (kk p e s m args below meth c H locs ls X K R hL hl)
theorem R_iast {a N : Nat} {f : Nat → Int32} {i x : Int32} (hd : decode (m_b μ) pc = .ok (.iastore, 1)) (ha : h a = .inl (N, f)) (hn : 0 < a ∧ a ≤ n) (hi : vp_in i N) (kk : RW l w μ (am_u h a (.inl (N, upd f i.toNatClampNeg x))) n k z (pc + 1) lv st Q) : RW l w μ h n k z pc lv (.int x :: .int i :: .ref a :: st) Q := by
  intro p e s m args below meth c H locs ls X K R hL hl
  have hat := am_cell R hn
  rw [ha] at hat
  refine W.iast X.1 X.2.1 (a := am_a w a) hat ((K.1.2 0 _ rfl).1 N (fun j => .int (f j))) (fun q => by cases q) (by show ¬ (i < 0 ∨ (arrV _ _ _).slots.size ≤ _); rw [arrV_size]; exact hi) rfl rfl hd fun H1 e1 z1 oq => ?_
  refine kk p e s m args below meth c H1 _ ls X K (R.set hn z1 oq ?_) (am_app hL hn.1) hl
  show H1[am_a w a]? = some (vp_cell _ _)
  rw [e1]
  show some ((vp_cell _ (N, Sum.inl f)).setSlot _ _) = some (vp_cell _ (N, Sum.inl (upd f i.toNatClampNeg x)))
  rw [vp_cell_i, vp_cell_i, arrV_store]
  congr 2
  funext q
  by_cases hq : q = i.toNatClampNeg
  · subst hq
    simp [updV, upd]
  · simp [updV, upd, hq]
theorem R_last {a N : Nat} {f : Nat → Int64} {i : Int32} {x : Int64} (hd : decode (m_b μ) pc = .ok (.lastore, 1)) (ha : h a = .inr (.inl (N, f))) (hn : 0 < a ∧ a ≤ n) (hi : vp_in i N) (kk : RW l w μ (am_u h a (.inr (.inl (N, vp_updL f i.toNatClampNeg x)))) n k z (pc + 1) lv st Q) : RW l w μ h n k z pc lv (.long x :: .int i :: .ref a :: st) Q := by
  intro p e s m args below meth c H locs ls X K R hL hl
  have hat := am_cell R hn
  rw [ha] at hat
  refine W.last X.1 X.2.1 (a := am_a w a) hat ((K.1.2 1 _ rfl).1 N (fun j => .long (f j))) (fun q => by cases q) (by show ¬ (i < 0 ∨ (arrV _ _ _).slots.size ≤ _); rw [arrV_size]; exact hi) rfl rfl hd fun H1 e1 z1 oq => ?_
  refine kk p e s m args below meth c H1 _ ls X K (R.set hn z1 oq ?_) (am_app hL hn.1) hl
  show H1[am_a w a]? = some (vp_cell _ _)
  rw [e1]
  show some ((vp_cell _ (N, Sum.inr (Sum.inl f))).setSlot _ _) = some (vp_cell _ (N, Sum.inr (Sum.inl (vp_updL f i.toNatClampNeg x))))
  rw [vp_cell_l, vp_cell_l, arrV_store]
  congr 2
  funext q
  by_cases hq : q = i.toNatClampNeg
  · subst hq
    simp [updV, vp_updL]
  · simp [updV, vp_updL, hq]
theorem R_alenI {a N : Nat} {f : Nat → Int32} (hd : decode (m_b μ) pc = .ok (.arraylength, 1)) (ha : h a = .inl (N, f)) (hn : 0 < a ∧ a ≤ n) (kk : RW l w μ h n k z (pc + 1) lv (.int (nI N) :: st) Q) : RW l w μ h n k z pc lv (.ref a :: st) Q := by
  intro p e s m args below meth c H locs ls X K R hL hl
  have hat := am_cell R hn
  rw [ha] at hat
  have hP : va_P w.2.2.2.2.2.2 vwCl [(am_a w a, .inl (w.2.2.2.2.1, (N, .inl f)))] H := by
    intro j q hq
    match j, hq with
    | 0, hq => cases hq; exact hat
  exact va_alen X.1 X.2.1 K.1 hP 0 0 rfl rfl rfl hd (kk p e s m args below meth c H locs ls X K R hL hl)
theorem R_alenL {a N : Nat} {f : Nat → Int64} (hd : decode (m_b μ) pc = .ok (.arraylength, 1)) (ha : h a = .inr (.inl (N, f))) (hn : 0 < a ∧ a ≤ n) (kk : RW l w μ h n k z (pc + 1) lv (.int (nI N) :: st) Q) : RW l w μ h n k z pc lv (.ref a :: st) Q := by
  intro p e s m args below meth c H locs ls X K R hL hl
  have hat := am_cell R hn
  rw [ha] at hat
  have hP : va_P w.2.2.2.2.2.2 vwCl [(am_a w a, .inl (w.2.2.2.2.2.1, (N, .inr (.inl f))))] H := by
    intro j q hq
    match j, hq with
    | 0, hq => cases hq; exact hat
  exact va_alen X.1 X.2.1 K.1 hP 0 1 rfl rfl rfl hd (kk p e s m args below meth c H locs ls X K R hL hl)
end RHEAP
