abbrev jushr (x y : Int32) : Int32 := (x.toUInt32 >>> (y.toUInt32 &&& Int32.toUInt32 31)).toInt32
abbrev jlushr (x : Int64) (y : Int32) : Int64 := (x.toUInt64 >>> (y.toInt64.toUInt64 &&& Int64.toUInt64 63)).toInt64
abbrev jlshl (x : Int64) (y : Int32) : Int64 := x <<< (y.toInt64 &&& 63)
abbrev jlshr (x : Int64) (y : Int32) : Int64 := x >>> (y.toInt64 &&& 63)
/-- a method that answers v and changes nothing -/
def RP (l : Launch) (w : am_W) (μ : am_M) (h : am_H) (n : Nat) (as : List Value) (v : Value) : Prop := RC l w μ h n as (fun h' n' r => h' = h ∧ n' = n ∧ r = some v)
/-- a method that makes no cell -/
def RH (l : Launch) (w : am_W) (μ : am_M) (h : am_H) (n : Nat) (as : List Value) (Q : am_H → Option Value → Prop) : Prop := RC l w μ h n as (fun h' n' r => n' = n ∧ Q h' r)
theorem RC.mono {l : Launch} {w : am_W} {μ : am_M} {h : am_H} {n : Nat} {as : List Value} {Q Q' : am_H → Nat → Option Value → Prop} (hM : RC l w μ h n as Q) (hq : ∀ h' n' r, Q h' n' r → Q' h' n' r) : RC l w μ h n as Q' := by
  intro p e ha hc hk s m args below hf happ hpre htr
  obtain ⟨k, o, h1, h2, h3, ⟨⟨h', n', r, a1, a2, a3⟩, hL⟩⟩ := hM p e ha hc hk s m args below hf happ hpre htr
  exact ⟨k, o, h1, h2, h3, ⟨⟨h', n', r, a1, hq _ _ _ a2, a3⟩, hL⟩⟩
section RFR
variable {l : Launch} {w : am_W} {μ : am_M} {h : am_H} {n k z pc : Nat} {lv : List (Nat × Value)} {st : List Value} {Q : am_H → Nat → Option Value → Prop}
theorem R_eqi {x y : Int32} (e : x = y) (kk : RW l w μ h n k z pc lv (.int y :: st) Q) : RW l w μ h n k z pc lv (.int x :: st) Q := e ▸ kk
theorem R_eql {x y : Int64} (e : x = y) (kk : RW l w μ h n k z pc lv (.long y :: st) Q) : RW l w μ h n k z pc lv (.long x :: st) Q := e ▸ kk
theorem R_put' {a idx ci kf : Nat} {fs fs' : List Value} {v : Value} {ty : FieldType} (hd : decode (m_b μ) pc = .ok (.putfield idx, 3)) (hf : am_F (m_y μ).cls idx ci kf) (ht : am_T ci kf ty false) (hn1 : narrow ty v = v) (hfit : fits ty v = true) (ha : h a = .inr (.inr (ci, fs))) (hn : 0 < a ∧ a ≤ n) (hlen : kf < fs.length) (hfs : fs.set kf v = fs') (kk : ∀ h', h' a = .inr (.inr (ci, fs')) → (∀ x, x ≠ a → h' x = h x) → RW l w μ h' n k z (pc + 3) lv st Q) : RW l w μ h n k z pc lv (v :: .ref a :: st) Q :=
  R_put hd hf ht hn1 hfit ha hn hlen hfs (kk _ (am_us _ _ _) (fun _ hx => am_un hx))
theorem R_putF' {a idx ci kf : Nat} {fs fs' : List Value} {v : Value} {ty : FieldType} {C : String} {T : u_T} {N : Nat} (hd : decode (m_b μ) pc = .ok (.putfield idx, 3)) (hf : am_F (m_y μ).cls idx ci kf) (hlk : Cond.fieldLink (m_y μ).cls idx (T kf).1 (T kf).2.1 (T kf).2.2.1 ∈ am_tb) (hcc : vwCl[ci]? = some (C, T, N)) (ht : am_T ci kf ty true) (hin2 : (m_y μ).name = "<init>") (hC : C = (m_y μ).cls) (hn1 : narrow ty v = v) (hfit : fits ty v = true) (ha : h a = .inr (.inr (ci, fs))) (hn : 0 < a ∧ a ≤ n) (hlen : kf < fs.length) (hfs : fs.set kf v = fs') (kk : ∀ h', h' a = .inr (.inr (ci, fs')) → (∀ x, x ≠ a → h' x = h x) → RW l w μ h' n k z (pc + 3) lv st Q) : RW l w μ h n k z pc lv (v :: .ref a :: st) Q :=
  R_putF (C0 := C) hd hf (fun C' T' N' q => by cases hcc.symm.trans q; exact ⟨rfl, hlk⟩) ht hin2 hC hn1 hfit ha hn hlen hfs (kk _ (am_us _ _ _) (fun _ hx => am_un hx))
theorem am_ix {i : Int32} {j N : Nat} (hj : i = nI j ∧ j < N ∧ N < 2 ^ 31) : vp_in i N ∧ i.toNatClampNeg = j := by
  obtain ⟨rfl, h1, h2⟩ := hj
  exact ⟨vp_in_nI h1 h2, nI_clamp (by omega)⟩
theorem R_iald' {a N : Nat} {f : Nat → Int32} {i : Int32} {j : Nat} (hd : decode (m_b μ) pc = .ok (.iaload, 1)) (ha : h a = .inl (N, f)) (hn : 0 < a ∧ a ≤ n) (hj : i = nI j ∧ j < N ∧ N < 2 ^ 31) (kk : RW l w μ h n k z (pc + 1) lv (.int (f j) :: st) Q) : RW l w μ h n k z pc lv (.int i :: .ref a :: st) Q :=
  R_iald hd ha hn (am_ix hj).1 (by rw [(am_ix hj).2]; exact kk)
theorem R_lald' {a N : Nat} {f : Nat → Int64} {i : Int32} {j : Nat} (hd : decode (m_b μ) pc = .ok (.laload, 1)) (ha : h a = .inr (.inl (N, f))) (hn : 0 < a ∧ a ≤ n) (hj : i = nI j ∧ j < N ∧ N < 2 ^ 31) (kk : RW l w μ h n k z (pc + 1) lv (.long (f j) :: st) Q) : RW l w μ h n k z pc lv (.int i :: .ref a :: st) Q :=
  R_lald hd ha hn (am_ix hj).1 (by rw [(am_ix hj).2]; exact kk)
theorem R_iast' {a N : Nat} {f : Nat → Int32} {i x : Int32} {j : Nat} (hd : decode (m_b μ) pc = .ok (.iastore, 1)) (ha : h a = .inl (N, f)) (hn : 0 < a ∧ a ≤ n) (hj : i = nI j ∧ j < N ∧ N < 2 ^ 31) (kk : ∀ h', h' a = .inl (N, upd f j x) → (∀ y, y ≠ a → h' y = h y) → RW l w μ h' n k z (pc + 1) lv st Q) : RW l w μ h n k z pc lv (.int x :: .int i :: .ref a :: st) Q :=
  R_iast hd ha hn (am_ix hj).1 (by rw [(am_ix hj).2]; exact kk _ (am_us _ _ _) (fun _ hx => am_un hx))
theorem R_last' {a N : Nat} {f : Nat → Int64} {i : Int32} {x : Int64} {j : Nat} (hd : decode (m_b μ) pc = .ok (.lastore, 1)) (ha : h a = .inr (.inl (N, f))) (hn : 0 < a ∧ a ≤ n) (hj : i = nI j ∧ j < N ∧ N < 2 ^ 31) (kk : ∀ h', h' a = .inr (.inl (N, vp_updL f j x)) → (∀ y, y ≠ a → h' y = h y) → RW l w μ h' n k z (pc + 1) lv st Q) : RW l w μ h n k z pc lv (.long x :: .int i :: .ref a :: st) Q :=
  R_last hd ha hn (am_ix hj).1 (by rw [(am_ix hj).2]; exact kk _ (am_us _ _ _) (fun _ hx => am_un hx))
theorem R_new' {idx ci : Nat} {fs : List Value} (hd : decode (m_b μ) pc = .ok (.new idx, 3)) (hN : am_N (m_y μ).cls idx ci fs) (hk : k + 1 ≤ m_mc μ) (hz : z + fs.length ≤ m_ms μ) (kk : ∀ h', h' (n + 1) = .inr (.inr (ci, fs)) → (∀ x, x ≠ n + 1 → h' x = h x) → RW l w μ h' (n + 1) (k + 1) (z + fs.length) (pc + 3) lv (.ref (n + 1) :: st) Q) : RW l w μ h n k z pc lv st Q :=
  R_new hd hN hk hz (kk _ (am_us _ _ _) (fun _ hx => am_un hx))
theorem R_callSp {μ' : am_M} {idx : Nat} {As stk : List Value} {v : Value} (hd : decode (m_b μ) pc = .ok (.invokestatic idx, 3)) (hY : am_YS μ' As.length) (hlk : am_L (m_y μ).cls idx (m_y μ')) (hR : m_fr μ' + 1 ≤ m_fr μ ∧ 8 + (m_L μ' + 11) + m_lo μ' ≤ m_lo μ) (h1 : m_mc μ' = 0) (h2 : m_ms μ' = 0) (hz : k ≤ m_mc μ ∧ z ≤ m_ms μ) (hst : stk = As.reverse ++ st) (hW : (st.map fun v => v.category).sum ≤ 8) (hM : RP l w μ' h n As v) (kk : RW l w μ h n k z (pc + 3) lv (v :: st) Q) : RW l w μ h n k z pc lv stk Q :=
  R_callS hd hY hlk hR (by rw [h1, h2]; exact hz) hst hW hM (fun h' n' r hq => by obtain ⟨rfl, rfl, rfl⟩ := hq; rw [h1, h2]; exact kk)
theorem R_callVp {μ' : am_M} {a idx ci : Nat} {fs As stk : List Value} {v : Value} (hd : decode (m_b μ) pc = .ok (.invokevirtual idx, 3)) (hY : am_YV μ' ci As.length) (hlk : am_L (m_y μ).cls idx (m_y μ')) (hR : m_fr μ' + 1 ≤ m_fr μ ∧ 8 + (m_L μ' + 11) + m_lo μ' ≤ m_lo μ) (h1 : m_mc μ' = 0) (h2 : m_ms μ' = 0) (hz : k ≤ m_mc μ ∧ z ≤ m_ms μ) (ha : h a = .inr (.inr (ci, fs))) (hn : 0 < a ∧ a ≤ n) (hst : stk = As.reverse ++ .ref a :: st) (hW : (st.map fun v => v.category).sum ≤ 8) (hM : RP l w μ' h n (.ref a :: As) v) (kk : RW l w μ h n k z (pc + 3) lv (v :: st) Q) : RW l w μ h n k z pc lv stk Q :=
  R_callV hd hY hlk hR (by rw [h1, h2]; exact hz) ha hn hst hW hM (fun h' n' r hq => by obtain ⟨rfl, rfl, rfl⟩ := hq; rw [h1, h2]; exact kk)
theorem R_callSh {μ' : am_M} {idx : Nat} {As stk : List Value} {Q' : am_H → Option Value → Prop} (hd : decode (m_b μ) pc = .ok (.invokestatic idx, 3)) (hY : am_YS μ' As.length) (hlk : am_L (m_y μ).cls idx (m_y μ')) (hR : m_fr μ' + 1 ≤ m_fr μ ∧ 8 + (m_L μ' + 11) + m_lo μ' ≤ m_lo μ) (h1 : m_mc μ' = 0) (h2 : m_ms μ' = 0) (hz : k ≤ m_mc μ ∧ z ≤ m_ms μ) (hst : stk = As.reverse ++ st) (hW : (st.map fun v => v.category).sum ≤ 8) (hM : RH l w μ' h n As Q') (kk : ∀ h' r, Q' h' r → RW l w μ h' n k z (pc + 3) lv (r.toList ++ st) Q) : RW l w μ h n k z pc lv stk Q :=
  R_callS hd hY hlk hR (by rw [h1, h2]; exact hz) hst hW hM (fun h' n' r hq => by obtain ⟨rfl, hq⟩ := hq; rw [h1, h2]; exact kk _ _ hq)
theorem R_callVh {μ' : am_M} {a idx ci : Nat} {fs As stk : List Value} {Q' : am_H → Option Value → Prop} (hd : decode (m_b μ) pc = .ok (.invokevirtual idx, 3)) (hY : am_YV μ' ci As.length) (hlk : am_L (m_y μ).cls idx (m_y μ')) (hR : m_fr μ' + 1 ≤ m_fr μ ∧ 8 + (m_L μ' + 11) + m_lo μ' ≤ m_lo μ) (h1 : m_mc μ' = 0) (h2 : m_ms μ' = 0) (hz : k ≤ m_mc μ ∧ z ≤ m_ms μ) (ha : h a = .inr (.inr (ci, fs))) (hn : 0 < a ∧ a ≤ n) (hst : stk = As.reverse ++ .ref a :: st) (hW : (st.map fun v => v.category).sum ≤ 8) (hM : RH l w μ' h n (.ref a :: As) Q') (kk : ∀ h' r, Q' h' r → RW l w μ h' n k z (pc + 3) lv (r.toList ++ st) Q) : RW l w μ h n k z pc lv stk Q :=
  R_callV hd hY hlk hR (by rw [h1, h2]; exact hz) ha hn hst hW hM (fun h' n' r hq => by obtain ⟨rfl, hq⟩ := hq; rw [h1, h2]; exact kk _ _ hq)
end RFR
