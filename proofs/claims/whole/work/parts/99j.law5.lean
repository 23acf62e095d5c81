/-! the law: from the machine's own entry -/
section LAWW
theorem Kn_of {args : Array Value} {s : State} {own : String} {idx ci : Nat} {fs : List Value} (hta : ∀ x ∈ am_tb, x.before args s = true) (hN : am_N own idx ci fs) : ∃ y : ClassId × (Nat → Nat), ∀ q, vwCl[ci]? = some q → u_Kn s q.1 q.2.1 q.2.2 y.1 y.2 := by
  obtain ⟨C, T, N, ty, hc, hin, _, _, hinst, _⟩ := hN
  obtain ⟨cC, iS, hu⟩ := u_known hta hin (hta _ hinst)
  exact ⟨(cC, iS), fun q hq => by cases hc.symm.trans hq; exact hu⟩
theorem Kn_all {args : Array Value} {s : State} (hta : ∀ x ∈ am_tb, x.before args s = true) (c : Nat) : ∃ y : ClassId × (Nat → Nat), ∀ q, vwCl[c]? = some q → u_Kn s q.1 q.2.1 q.2.2 y.1 y.2 := by
  match c with
  | 0 => exact Kn_of hta nX1_20
  | 1 => exact Kn_of hta nX11_50
  | 2 => exact Kn_of hta nX11_40
  | 3 => exact Kn_of hta nX11_86
  | 4 => exact Kn_of hta nX11_93
  | 5 => exact Kn_of hta nX11_102
  | 6 => exact Kn_of hta nX11_9
  | 7 => exact Kn_of hta nX11_68
  | 8 => exact Kn_of hta nX2_17
  | 9 => exact Kn_of hta nX11_59
  | 10 => exact Kn_of hta nX11_77
  | 11 => exact Kn_of hta nL_7
  | 12 => exact Kn_of hta nL_10
  | c + 13 => exact ⟨((Kn_of hta nX1_20).choose.1, fun _ => 0), fun q hq => by cases hq⟩
theorem new_only {s t : State} {L : List Loc} {k n : Nat} (h : s.sameButNew t L k n) (hf : ∀ q ∈ L, s.heap.size ≤ q.base) : s.sameButNew t [] k n := by
  obtain ⟨a1, a2, a3, a4, a5, a6⟩ := h
  refine ⟨a1, a2, a3, a4, a5, fun a c hc => ?_⟩
  obtain ⟨c', b1, b2, b3, b4⟩ := a6 a c hc
  refine ⟨c', b1, b2, b3, fun i _ => b4 i (fun hm => ?_)⟩
  have h1 := hf _ hm
  have h2 := (Array.getElem?_eq_some_iff.mp hc).1
  exact absurd h2 (Nat.not_lt.mpr h1)
theorem L_W {p : Program} {e : Env} {s : State} {m : MethodId} {below : List Frame} {meth : Method} {c : Code} (l : Launch) {b L : Nat} {xs : Nat → Int32} (hL : L ≤ 2560) (hx : p.tables.exec = Jvm.exec) (hb : c.code = cL_law) (hr : meth.sig.returnType = some FieldType.boolean) (hml : c.maxLocals = 4) (hown : s.vm.findClass RL = some m.cls) (hts : ∀ w ∈ lw_tbl, w.before #[Value.ref b] s = true) (hX : va_X b L xs s s.heap) (hbl : b < s.heap.size) (hlk : meth.locks = false) : W p l e room_1 s m #[Value.ref b] below meth c s.heap [] 0 0 (fun t => ∃ o, t.status = .running ∧ Ended t below o ∧ (o = .returned (some (.int 1)) ∧ Framed s o t [] 600000 7302250)) (entryFrame m ([Value.ref b] : List Value).toArray 4) := by
  have hta : ∀ x ∈ am_tb, x.before #[Value.ref b] s = true := fun x q => hts x (List.mem_filter.mp q).1
  obtain ⟨D, hD⟩ := Classical.skolem.mp (Kn_all hta)
  obtain ⟨cI, kI, mI, i1, i2, i3⟩ := Cond.arrayClass_spec (hta _ aC_int)
  obtain ⟨cL, kL, mL, l1, l2, l3⟩ := Cond.arrayClass_spec (hta _ aC_long)
  have K : am_K (s.heap.size, b, L, xs, cI, cL, (fun c => (D c).1, fun c => (D c).2)) s := by
    refine ⟨⟨fun c q hq => hD c q hq, fun k q hq => ?_⟩, fun x q => ?_⟩
    · match k, hq with
      | 0, hq => cases hq; exact ⟨fun n z => ⟨fun k h => (by cases h), kI, i2, mI, i3⟩, i1⟩
      | 1, hq => cases hq; exact ⟨fun n z => ⟨fun k h => (by cases h), kL, l2, mL, l3⟩, l1⟩
    · have h1 := hts x (List.mem_filter.mp q).1
      have hn := (List.mem_filter.mp q).2
      exact va_tabs (by cases x <;> first | rfl | cases hn) rfl h1
  have R : am_R (s.heap.size, b, L, xs, cI, cL, (fun c => (D c).1, fun c => (D c).2)) (fun _ => .inl (L, xs)) 0 s s.heap := ⟨rfl, fun i hi => absurd hi (Nat.not_lt_zero i), hX, hbl, rfl⟩
  have hl := lv_entry [Value.ref b] (n := 4) (Nat.le_of_ble_eq_true rfl)
  have G := L_start (nm := meth.name) (l := l) (w := (s.heap.size, b, L, xs, cI, cL, (fun c => (D c).1, fun c => (D c).2))) hL (fun _ => .inl (L, xs)) p e s m #[Value.ref b] below meth c s.heap [] _ ⟨hx, hb, hr, hml, hown, hta, hlk, rfl⟩ K R (fun q hq => by cases hq) hl
  rw [lg_entry_eq]
  intro T hT X
  obtain ⟨t, st, o, r1, r2, ⟨h', n', r, e1, e2, e3⟩, L', F, hf⟩ := G T hT X
  refine ⟨t, st, o, r1, r2, ?_, F.1, F.2.1, new_only F.2.2 hf⟩
  rw [e1, e2]
  rfl
end LAWW
