/-! A logic of abstract heaps over the kit's rows. Cells stand at abstract places: 0 is the script, i + 1 the i-th cell that was made since the law's entry. -/
abbrev am_C : Type := (Nat × (Nat → Int32)) ⊕ (Nat × (Nat → Int64)) ⊕ (Nat × List Value)
abbrev am_H : Type := Nat → am_C
/-- size of the old heap, the script's cell, its length and ints, the classes of int and long arrays, the classes' numbers and slots -/
abbrev am_W : Type := Nat × Nat × Nat × (Nat → Int32) × ClassId × ClassId × va_G
def am_a (w : am_W) : Nat → Nat
  | 0 => w.2.1
  | i + 1 => w.1 + i
def am_v (w : am_W) : Value → Value
  | .ref i => .ref (am_a w i)
  | v => v
def am_e (w : am_W) : am_C → va_E
  | .inl a => .inl (w.2.2.2.2.1, (a.1, .inl a.2))
  | .inr (.inl a) => .inl (w.2.2.2.2.2.1, (a.1, .inr (.inl a.2)))
  | .inr (.inr o) => .inr (o.1, o.2.map (am_v w))
def am_lv (w : am_W) (q : Nat × Value) : Nat × Value := (q.1, am_v w q.2)
theorem am_cat (w : am_W) (v : Value) : (am_v w v).category = v.category := by cases v <;> rfl
theorem am_cats (w : am_W) (st : List Value) : ((st.map (am_v w)).map fun v => v.category) = st.map fun v => v.category := by
  rw [List.map_map]
  exact List.map_congr_left (fun v _ => am_cat w v)
/-- a method: its name, code, number of locals, answer's type, frames, locals, cells and slots of its room -/
abbrev am_M : Type := MethodName × ByteArray × Nat × Option FieldType × Nat × Nat × Nat × Nat
abbrev m_y (μ : am_M) : MethodName := μ.1
abbrev m_b (μ : am_M) : ByteArray := μ.2.1
abbrev m_L (μ : am_M) : Nat := μ.2.2.1
abbrev m_ret (μ : am_M) : Option FieldType := μ.2.2.2.1
abbrev m_fr (μ : am_M) : Nat := μ.2.2.2.2.1
abbrev m_lo (μ : am_M) : Nat := μ.2.2.2.2.2.1
abbrev m_mc (μ : am_M) : Nat := μ.2.2.2.2.2.2.1
abbrev m_ms (μ : am_M) : Nat := μ.2.2.2.2.2.2.2
def am_nest : Cond → Bool
  | .fieldLinkNest .. => true
  | .methodLinkNest .. => true
  | _ => false
def am_tb : List Cond := lw_tbl.filter goodWord
def am_nb : List Cond := lw_tbl.filter am_nest
theorem am_in {x : Cond} (i : Nat) (h : lw_tbl[i]? = some x) (hg : goodWord x = true) : x ∈ am_tb := List.mem_filter.mpr ⟨List.mem_of_getElem? h, hg⟩
theorem am_inN {x : Cond} (i : Nat) (h : lw_tbl[i]? = some x) (hg : am_nest x = true) : x ∈ am_nb := List.mem_filter.mpr ⟨List.mem_of_getElem? h, hg⟩
def am_ws (μ : am_M) : List Cond := .code (m_y μ) (m_b μ) (m_L μ) (m_ret μ) :: am_tb
def am_rm (μ : am_M) : Room := { frames := m_fr μ, cells := m_mc μ, slots := m_ms μ, locals := m_lo μ }
theorem am_goodIn {μ : am_M} (h : Cond.code (m_y μ) (m_b μ) (m_L μ) (m_ret μ) ∈ am_tb) : GoodIn am_tb (am_ws μ) := by
  intro x hx
  rcases List.mem_cons.mp hx with rfl | hx
  · exact ⟨h, good_of_word (List.mem_filter.mp h).2⟩
  · exact ⟨hx, good_of_word (List.mem_filter.mp hx).2⟩
/-- what holds of the machine while a method runs -/
def am_X (p : Program) (μ : am_M) (s : State) (m : MethodId) (args : Array Value) (meth : Method) (c : Code) : Prop :=
  p.tables.exec = Jvm.exec ∧ c.code = m_b μ ∧ meth.sig.returnType = m_ret μ ∧ c.maxLocals = m_L μ ∧ s.vm.findClass (m_y μ).cls = some m.cls ∧ (∀ x ∈ am_tb, x.before args s = true) ∧ meth.locks = false ∧ meth.name = (m_y μ).name
def am_K (w : am_W) (U : State) : Prop := va_K w.2.2.2.2.2.2 vwCl [(w.2.2.2.2.1, .int), (w.2.2.2.2.2.1, .long)] U ∧ ∀ x ∈ am_nb, va_Nw x U
def am_R (w : am_W) (h : am_H) (n : Nat) (U : State) (H : Heap) : Prop :=
  H.size = w.1 + n ∧ (∀ i, i < n → va_at w.2.2.2.2.2.2 vwCl (w.1 + i, am_e w (h (i + 1))) H) ∧ va_X w.2.1 w.2.2.1 w.2.2.2.1 U H ∧ w.2.1 < w.1 ∧ h 0 = .inl (w.2.2.1, w.2.2.2.1)
theorem am_K.warm {w : am_W} {s U : State} (h : am_K w s) (hW : s.WarmedH U.vm) : am_K w U := by
  refine ⟨va_K.moved hW.alike h.1, fun x hx => ?_⟩
  have hn := (List.mem_filter.mp hx).2
  have h1 := h.2 x hx
  cases x <;> first | exact va_Nw.warmF hW h1 | exact va_Nw.warmM hW h1 | cases hn
theorem am_K.same {w : am_W} {s U : State} (h : am_K w s) (hv : s.vm = U.vm) : am_K w U := by
  refine ⟨va_K.moved (by rw [hv]; exact Vm.Alike.refl _) h.1, fun x hx => ?_⟩
  have hn := (List.mem_filter.mp hx).2
  have h1 := h.2 x hx
  cases x <;> first | exact va_Nw.same rfl hv h1 | cases hn
theorem am_R.moved {w : am_W} {h : am_H} {n : Nat} {s U : State} {H : Heap} (R : am_R w h n s H) (hv : s.vm.Alike U.vm) : am_R w h n U H := ⟨R.1, R.2.1, va_X.moved hv R.2.2.1, R.2.2.2⟩
def am_Q (w : am_W) (Q : am_H → Nat → Option Value → Prop) : Array Value → State → Outcome → State → Prop := fun _ _ o t => ∃ (h' : am_H) (n' : Nat) (r : Option Value), o = .returned (r.map (am_v w)) ∧ Q h' n' r ∧ am_R w h' n' t t.heap
def am_P (w : am_W) (h : am_H) (n : Nat) (as : List Value) : Array Value → State → Prop := fun v U => v = (as.map (am_v w)).toArray ∧ am_K w U ∧ am_R w h n U U.heap
/-- the contract of a method at a heap and arguments -/
def RC (l : Launch) (w : am_W) (μ : am_M) (h : am_H) (n : Nat) (as : List Value) (Q : am_H → Nat → Option Value → Prop) : Prop :=
  Met l (m_y μ) (am_ws μ) (am_rm μ) (am_P w h n as) (am_Q w Q) (m_mc μ) (m_ms μ) (fun q => w.1 ≤ q)
/-- a method on its way: at pc, with locals lv and stack st, k cells and z slots made, it comes to its end with Q -/
def RW (l : Launch) (w : am_W) (μ : am_M) (h : am_H) (n k z pc : Nat) (lv : List (Nat × Value)) (st : List Value) (Q : am_H → Nat → Option Value → Prop) : Prop :=
  ∀ (p : Program) (e : Env) (s : State) (m : MethodId) (args : Array Value) (below : List Frame) (meth : Method) (c : Code) (H : Heap) (locs : List Loc) (ls : Array Slot),
    am_X p μ s m args meth c → am_K w s → am_R w h n s H → (∀ q ∈ locs, w.1 ≤ q.base) → lv_has ls (m_L μ) (lv.map (am_lv w)) →
    W p l e (am_rm μ) s m args below meth c H locs k z (MQ below (am_Q w Q) args s (m_mc μ) (m_ms μ) (fun q => w.1 ≤ q)) (F0 m pc ls (st.map (am_v w)))
theorem am_args (w : am_W) (as : List Value) : ∀ i, lv_args i (as.map (am_v w)) = (lv_args i as).map (am_lv w) := by
  induction as with
  | nil => intro i; rfl
  | cons v vs ih =>
    intro i
    show (i, am_v w v) :: lv_args (if (am_v w v).category = 2 then i + 2 else i + 1) (vs.map (am_v w)) = (i, am_v w v) :: (lv_args (if v.category = 2 then i + 2 else i + 1) vs).map (am_lv w)
    rw [am_cat, ih]
theorem am_sl (w : am_W) (as : List Value) : (lg_sl (as.map (am_v w))).length = (lg_sl as).length := by
  induction as with
  | nil => rfl
  | cons v vs ih =>
    have e1 : ∀ (x : Value) (xs : List Value), (lg_sl (x :: xs)).length = (if x.category = 2 then 2 else 1) + (lg_sl xs).length := by
      intro x xs
      unfold lg_sl
      rw [List.flatMap_cons, List.length_append]
      by_cases hc : x.category = 2
      · simp [hc]
      · simp [hc]
    rw [List.map_cons, e1, e1, am_cat, ih]
theorem RC.of {l : Launch} {w : am_W} {μ : am_M} {h : am_H} {n : Nat} {as : List Value} {Q : am_H → Nat → Option Value → Prop} (lv : List (Nat × Value)) (hy : plainName (m_y μ).cls = true) (hlv : lv_args 0 as = lv) (hlen : (lg_sl as).length ≤ m_L μ) (k : RW l w μ h n 0 0 0 lv [] Q) : RC l w μ h n as Q := by
  subst hlv
  refine Met.ofW (cc := m_b μ) (maxL := m_L μ) (ret := m_ret μ) hy rfl ?_
  intro p e s m args below meth c s₁ B hml hv
  obtain ⟨rfl, hK, hR⟩ := hv
  have hts := atoms_spec (ws := am_ws μ) B.pre
  have hl := lv_entry (as.map (am_v w)) (n := m_L μ) (by rw [am_sl]; exact hlen)
  rw [lg_entry_eq]
  rw [am_args] at hl
  exact k p e s m _ below meth c s.heap [] _ ⟨B.exec, B.bytes, B.returns, hml, findClass_of_methodNamed B.named, fun x hx => hts x (List.mem_cons_of_mem _ hx), B.notSynchronized, (name_of_methodNamed B.named B.method).1⟩ hK hR (fun q hq => by cases hq) hl
