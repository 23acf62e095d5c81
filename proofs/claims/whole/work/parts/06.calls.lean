/-- a class that can be made: its link, its words, the values of its new fields -/
def am_N (own : String) (idx ci : Nat) (fs : List Value) : Prop := ∃ (C : String) (T : u_T) (N : Nat) (ty : Nat → FieldType), vwCl[ci]? = some (C, T, N) ∧ (∀ x ∈ u_ws C T N, x ∈ am_tb) ∧ (∀ k, k < N → parseFieldDescriptor (T k).2.2.1 = some (ty k)) ∧ Cond.classLink own idx C ∈ am_tb ∧ Cond.instantiable C N ∈ am_tb ∧ Cond.initialized C ∈ am_tb ∧ (∀ j, j < N → defaultValue (ty j) = vp_V fs j) ∧ fs.length = N
/-- a method that may be called: its code's word and what its kind wants -/
def am_Y (μ : am_M) (nargs : Nat) : Prop := Cond.code (m_y μ) (m_b μ) (m_L μ) (m_ret μ) ∈ am_tb ∧ Cond.initialized (m_y μ).cls ∈ am_tb ∧ (m_y μ).cls ≠ "java/lang/invoke/MethodHandle" ∧ (m_y μ).cls ≠ "java/lang/invoke/VarHandle" ∧ (parseMethodDescriptor (m_y μ).desc).map (fun d => d.parameters.length) = some nargs
def am_YV (μ : am_M) (ci nargs : Nat) : Prop := am_Y μ nargs ∧ Cond.instanceMethod (m_y μ) ∈ am_tb ∧ Cond.selects (m_y μ).cls (m_y μ) (m_y μ) ∈ am_tb ∧ ∃ (T : u_T) (N : Nat), vwCl[ci]? = some ((m_y μ).cls, T, N)
def am_YS (μ : am_M) (nargs : Nat) : Prop := am_Y μ nargs ∧ Cond.static (m_y μ) ∈ am_tb
def am_YI (μ : am_M) (nargs : Nat) : Prop := am_Y μ nargs ∧ Cond.instanceMethod (m_y μ) ∈ am_tb ∧ (m_y μ).name = "<init>"
def am_L (own : String) (idx : Nat) (y : MethodName) : Prop := Cond.methodLink own idx y ∈ am_tb ∨ ∃ host, Cond.methodLinkNest own idx y host ∈ am_nb
theorem am_blind {w : am_W} {h : am_H} {n : Nat} {as : List Value} : FrameBlind (am_P w h n as) := fun a U g mk q => by
  obtain ⟨q0, qK, qR⟩ := q
  exact ⟨q0, qK.same rfl, qR.moved (U := U.calling g mk a) (Vm.Alike.refl U.vm)⟩
theorem am_go {p : Program} {l : Launch} {e : Env} {R : Room} {s : State} {m : MethodId} {args : Array Value} {below : List Frame} {meth : Method} {c : Code} {H : Heap} {locs : List Loc} {cells slots mc ms : Nat} {Q : State → Prop} {g : JFrame} {rest : List Value} {Qa : State → Outcome → State → Prop} {free : Addr → Prop}
    (hr : va_Run p l e R s m args below meth c H locs cells slots mc ms g rest Qa free)
    (kk : ∀ (v : Option Value) (st₀ t : State) (L : List Loc), st₀.heap = H → Qa st₀ (.returned v) t → t.vm.Alike s.vm → (∀ q ∈ L, free q.base) → W p l e R s m args below meth c t.heap (locs ++ L) (cells + mc) (slots + ms) Q { g with pc := g.pc + 3, stack := v.toList ++ rest }) : W p l e R s m args below meth c H locs cells slots Q g := by
  intro T hT X
  obtain ⟨v, st₀, t, T', L, h0, X', hL, e1, e2, hq, st⟩ := hr T hT X
  obtain ⟨t2, a1, b1⟩ := kk v st₀ t L h0 hq (by rw [← e2]; exact X'.warmed.alike.symm) hL T' e1 X'
  exact ⟨t2, st t2 a1, b1⟩
theorem am_stk (w : am_W) (As st : List Value) (a : Nat) : (As.reverse ++ .ref a :: st).map (am_v w) = (As.map (am_v w)).reverse ++ .ref (am_a w a) :: st.map (am_v w) := by
  rw [List.map_append, List.map_reverse]
  rfl
theorem am_stkS (w : am_W) (As st : List Value) : (As.reverse ++ st).map (am_v w) = (As.map (am_v w)).reverse ++ st.map (am_v w) := by
  rw [List.map_append, List.map_reverse]
section RCALL
variable {l : Launch} {w : am_W} {μ : am_M} {h : am_H} {n k z pc : Nat} {lv : List (Nat × Value)} {st : List Value} {Q : am_H → Nat → Option Value → Prop}
theorem am_cont {Q' : am_H → Nat → Option Value → Prop} {μ' : am_M} {p : Program} {e : Env} {s : State} {m : MethodId} {args : Array Value} {below : List Frame} {meth : Method} {c : Code} {H : Heap} {locs : List Loc} {ls : Array Slot} {g : JFrame} {a : Array Value} (hg : g = F0 m pc ls g.stack) (X : am_X p μ s m args meth c) (K : am_K w s) (hL : ∀ q ∈ locs, w.1 ≤ q.base) (hl : lv_has ls (m_L μ) (lv.map (am_lv w)))
    (hr : va_Run p l e (am_rm μ) s m args below meth c H locs k z (m_mc μ') (m_ms μ') g (st.map (am_v w)) (am_Q w Q' a) (fun q => w.1 ≤ q))
    (kk : ∀ h' n' r, Q' h' n' r → RW l w μ h' n' (k + m_mc μ') (z + m_ms μ') (pc + 3) lv (r.toList ++ st) Q) : W p l e (am_rm μ) s m args below meth c H locs k z (MQ below (am_Q w Q) args s (m_mc μ) (m_ms μ) (fun q => w.1 ≤ q)) g := by
  refine am_go hr fun v st₀ t L h0 hq hal hLL => ?_
  obtain ⟨h', n', r, hv, hq', hR'⟩ := hq
  cases hv
  have h1 := kk h' n' r hq' p e s m args below meth c t.heap (locs ++ L) ls X K (hR'.moved hal) (fun q hq => by
    rcases List.mem_append.mp hq with h1 | h1
    · exact hL q h1
    · exact hLL q h1) hl
  have e1 : (r.toList ++ st).map (am_v w) = (r.map (am_v w)).toList ++ st.map (am_v w) := by
    rw [List.map_append]
    cases r <;> rfl
  rw [e1] at h1
  rw [hg]
  exact h1
theorem R_callV {μ' : am_M} {a idx ci : Nat} {fs As stk : List Value} {Q' : am_H → Nat → Option Value → Prop} (hd : decode (m_b μ) pc = .ok (.invokevirtual idx, 3)) (hY : am_YV μ' ci As.length) (hlk : am_L (m_y μ).cls idx (m_y μ')) (hR : m_fr μ' + 1 ≤ m_fr μ ∧ 8 + (m_L μ' + 11) + m_lo μ' ≤ m_lo μ) (hz : k + m_mc μ' ≤ m_mc μ ∧ z + m_ms μ' ≤ m_ms μ) (ha : h a = .inr (.inr (ci, fs))) (hn : 0 < a ∧ a ≤ n) (hst : stk = As.reverse ++ .ref a :: st) (hW : (st.map fun v => v.category).sum ≤ 8)
    (hM : RC l w μ' h n (.ref a :: As) Q') (kk : ∀ h' n' r, Q' h' n' r → RW l w μ h' n' (k + m_mc μ') (z + m_ms μ') (pc + 3) lv (r.toList ++ st) Q) : RW l w μ h n k z pc lv stk Q := by
  subst hst
  intro p e s m args below meth c H locs ls X K R hL hl
  obtain ⟨⟨y1, y2, y3, y4, y5⟩, y6, y7, T, N, y8⟩ := hY
  have hts := X.2.2.2.2.2.1
  have hat := am_cell R hn
  rw [ha] at hat
  have hP : va_P w.2.2.2.2.2.2 vwCl [(am_a w a, .inr (ci, fs.map (am_v w)))] H := by
    intro j q hq
    match j, hq with
    | 0, hq => cases hq; exact hat
  have hpre : PreV s H (m_y μ').cls (am_a w a) (am_P w h n (.ref a :: As)) (As.map (am_v w)) := ⟨am_blind, va_recv K.1 hP y8 (q0 := 0) rfl, fun U hU hW => ⟨rfl, K.warm hW, by rw [hU]; exact R.moved hW.alike⟩⟩
  rw [am_stk]
  rcases hlk with hlk | ⟨host, hlk⟩
  · exact am_cont (a := _) rfl X K hL hl (va_runV (As := As.map (am_v w)) (rest := st.map (am_v w)) ⟨X.1, X.2.1, X.2.2.2.1, X.2.2.2.2.1, hts⟩ hM ⟨callB_of As.length hts (am_goodIn y1) rfl rfl rfl (hts _ y2) (hts _ hlk) ⟨y3, y4, y5⟩ hR, hts _ y6, hts _ y7⟩ hpre rfl (by rw [List.length_map]) hl.1 rfl (by rw [am_cats]; show 2 * 0 + _ ≤ 8; omega) hd hz) kk
  · exact am_cont (a := _) rfl X K hL hl (va_runVN (As := As.map (am_v w)) (rest := st.map (am_v w)) ⟨X.1, X.2.1, X.2.2.2.1, X.2.2.2.2.1, hts⟩ hM ⟨va_cnB As.length hts (am_goodIn y1) rfl rfl rfl (K.2 _ hlk) (hts _ y2) ⟨y3, y4, y5⟩ hR, hts _ y6, hts _ y7⟩ hpre rfl (by rw [List.length_map]) hl.1 rfl (by rw [am_cats]; show 2 * 0 + _ ≤ 8; omega) hd hz) kk
theorem R_callS {μ' : am_M} {idx : Nat} {As stk : List Value} {Q' : am_H → Nat → Option Value → Prop} (hd : decode (m_b μ) pc = .ok (.invokestatic idx, 3)) (hY : am_YS μ' As.length) (hlk : am_L (m_y μ).cls idx (m_y μ')) (hR : m_fr μ' + 1 ≤ m_fr μ ∧ 8 + (m_L μ' + 11) + m_lo μ' ≤ m_lo μ) (hz : k + m_mc μ' ≤ m_mc μ ∧ z + m_ms μ' ≤ m_ms μ) (hst : stk = As.reverse ++ st) (hW : (st.map fun v => v.category).sum ≤ 8)
    (hM : RC l w μ' h n As Q') (kk : ∀ h' n' r, Q' h' n' r → RW l w μ h' n' (k + m_mc μ') (z + m_ms μ') (pc + 3) lv (r.toList ++ st) Q) : RW l w μ h n k z pc lv stk Q := by
  subst hst
  intro p e s m args below meth c H locs ls X K R hL hl
  obtain ⟨⟨y1, y2, y3, y4, y5⟩, y6⟩ := hY
  have hts := X.2.2.2.2.2.1
  have hpre : PreS s H (am_P w h n As) (As.map (am_v w)) := ⟨am_blind, fun U hU hW => ⟨rfl, K.warm hW, by rw [hU]; exact R.moved hW.alike⟩⟩
  rw [am_stkS]
  rcases hlk with hlk | ⟨host, hlk⟩
  · exact am_cont (a := _) rfl X K hL hl (va_runS (As := As.map (am_v w)) (rest := st.map (am_v w)) ⟨X.1, X.2.1, X.2.2.2.1, X.2.2.2.2.1, hts⟩ hM ⟨callB_of As.length hts (am_goodIn y1) rfl rfl rfl (hts _ y2) (hts _ hlk) ⟨y3, y4, y5⟩ hR, hts _ y6⟩ hpre rfl (by rw [List.length_map]) hl.1 rfl (by rw [am_cats]; show 2 * 0 + _ ≤ 8; omega) hd hz) kk
  · exact am_cont (a := _) rfl X K hL hl (va_runSN (As := As.map (am_v w)) (rest := st.map (am_v w)) ⟨X.1, X.2.1, X.2.2.2.1, X.2.2.2.2.1, hts⟩ hM ⟨va_cnB As.length hts (am_goodIn y1) rfl rfl rfl (K.2 _ hlk) (hts _ y2) ⟨y3, y4, y5⟩ hR, hts _ y6, trivial⟩ hpre rfl (by rw [List.length_map]) hl.1 rfl (by rw [am_cats]; show 2 * 0 + _ ≤ 8; omega) hd hz) kk
theorem R_callI {μ' : am_M} {a idx : Nat} {As stk : List Value} {Q' : am_H → Nat → Option Value → Prop} (hd : decode (m_b μ) pc = .ok (.invokespecial idx, 3)) (hY : am_YI μ' As.length) (hrt : m_ret μ' = none) (hlk : am_L (m_y μ).cls idx (m_y μ')) (hR : m_fr μ' + 1 ≤ m_fr μ ∧ 8 + (m_L μ' + 11) + m_lo μ' ≤ m_lo μ) (hz : k + m_mc μ' ≤ m_mc μ ∧ z + m_ms μ' ≤ m_ms μ) (hst : stk = As.reverse ++ .ref a :: st) (hW : (st.map fun v => v.category).sum ≤ 8)
    (hM : RC l w μ' h n (.ref a :: As) Q') (kk : ∀ h' n' r, Q' h' n' r → RW l w μ h' n' (k + m_mc μ') (z + m_ms μ') (pc + 3) lv (r.toList ++ st) Q) : RW l w μ h n k z pc lv stk Q := by
  subst hst
  intro p e s m args below meth c H locs ls X K R hL hl
  obtain ⟨⟨y1, y2, y3, y4, y5⟩, y6, y7⟩ := hY
  have hts := X.2.2.2.2.2.1
  have hpre : PreS s H (am_P w h n (.ref a :: As)) (.ref (am_a w a) :: As.map (am_v w)) := ⟨am_blind, fun U hU hW => ⟨rfl, K.warm hW, by rw [hU]; exact R.moved hW.alike⟩⟩
  have hG := am_goodIn y1
  have hws : am_ws μ' = Cond.code (m_y μ') (m_b μ') (m_L μ') none :: am_tb := by unfold am_ws; rw [hrt]
  rw [am_stk]
  rcases hlk with hlk | ⟨host, hlk⟩
  · exact am_cont (a := _) rfl X K hL hl (va_runI (As := As.map (am_v w)) (rest := st.map (am_v w)) ⟨X.1, X.2.1, X.2.2.2.1, X.2.2.2.2.1, hts⟩ hM ⟨callB_of As.length hts hG hws rfl rfl (hts _ y2) (hts _ hlk) ⟨y3, y4, y5⟩ hR, y7, hts _ y6⟩ hpre rfl (by rw [List.length_map]) hl.1 rfl (by rw [am_cats]; show 2 * 0 + _ ≤ 8; omega) hd hz) kk
  · exact am_cont (a := _) rfl X K hL hl (va_runIN (As := As.map (am_v w)) (rest := st.map (am_v w)) ⟨X.1, X.2.1, X.2.2.2.1, X.2.2.2.2.1, hts⟩ hM ⟨va_cnB As.length hts hG hws rfl rfl (K.2 _ hlk) (hts _ y2) ⟨y3, y4, y5⟩ hR, y7, hts _ y6⟩ hpre rfl (by rw [List.length_map]) hl.1 rfl (by rw [am_cats]; show 2 * 0 + _ ≤ 8; omega) hd hz) kk
theorem R_objInit {a idx : Nat} (hd : decode (m_b μ) pc = .ok (.invokespecial idx, 3)) (hlk : Cond.methodLink (m_y μ).cls idx Lib.objectInit ∈ am_tb) (hi : Cond.instanceMethod Lib.objectInit ∈ am_tb) (hc : Cond.code Lib.objectInit ⟨#[0xb1]⟩ 1 none ∈ am_tb) (hf : 1 ≤ m_fr μ) (hlo : (st.map fun v => v.category).sum + 12 ≤ m_lo μ) (kk : RW l w μ h n k z (pc + 3) lv st Q) : RW l w μ h n k z pc lv (.ref a :: st) Q := by
  intro p e s m args below meth c H locs ls X K R hL hl
  have hts := X.2.2.2.2.2.1
  exact W.objInit X.1 X.2.1 X.2.2.2.2.1 (hts _ hlk) (hts _ hi) (hts _ hc) rfl (hl.1.trans X.2.2.2.1.symm) rfl hd hf (by rw [am_cats]; show 2 * 0 + _ + 12 ≤ m_lo μ; omega) (kk p e s m args below meth c H locs ls X K R hL hl)
theorem R_max {idx : Nat} {x y : Int32} (hd : decode (m_b μ) pc = .ok (.invokestatic idx, 3)) (hlk : Cond.methodLink (m_y μ).cls idx Lib.Math.max.name ∈ am_tb) (hi : Cond.static Lib.Math.max.name ∈ am_tb) (hin : Cond.initialized "java/lang/Math" ∈ am_tb) (hc : Cond.code Lib.Math.max.name Lib.Math.max.code 2 (some .int) ∈ am_tb) (hf : 1 ≤ m_fr μ) (hlo : (st.map fun v => v.category).sum + 13 ≤ m_lo μ) (hk : k ≤ m_mc μ) (hz : z ≤ m_ms μ) (kk : RW l w μ h n k z (pc + 3) lv (.int (if x < y then y else x) :: st) Q) : RW l w μ h n k z pc lv (.int y :: .int x :: st) Q := by
  intro p e s m args below meth c H locs ls X K R hL hl
  have hts := X.2.2.2.2.2.1
  exact va_mmax X.1 X.2.1 (X.2.2.2.1.trans hl.1.symm) X.2.2.2.2.1 (hts _ hlk) (hts _ hi) (hts _ hin) (hts _ hc) hf (by rw [am_cats]; exact hlo) hk hz hd (kk p e s m args below meth c H locs ls X K R hL hl)
theorem R_min {idx : Nat} {x y : Int32} (hd : decode (m_b μ) pc = .ok (.invokestatic idx, 3)) (hlk : Cond.methodLink (m_y μ).cls idx Lib.Math.min.name ∈ am_tb) (hi : Cond.static Lib.Math.min.name ∈ am_tb) (hin : Cond.initialized "java/lang/Math" ∈ am_tb) (hc : Cond.code Lib.Math.min.name Lib.Math.min.code 2 (some .int) ∈ am_tb) (hf : 1 ≤ m_fr μ) (hlo : (st.map fun v => v.category).sum + 13 ≤ m_lo μ) (hk : k ≤ m_mc μ) (hz : z ≤ m_ms μ) (kk : RW l w μ h n k z (pc + 3) lv (.int (if y < x then y else x) :: st) Q) : RW l w μ h n k z pc lv (.int y :: .int x :: st) Q := by
  intro p e s m args below meth c H locs ls X K R hL hl
  have hts := X.2.2.2.2.2.1
  exact va_mmin X.1 X.2.1 (X.2.2.2.1.trans hl.1.symm) X.2.2.2.2.1 (hts _ hlk) (hts _ hi) (hts _ hin) (hts _ hc) hf (by rw [am_cats]; exact hlo) hk hz hd (kk p e s m args below meth c H locs ls X K R hL hl)
theorem R_new {idx ci : Nat} {fs : List Value} (hd : decode (m_b μ) pc = .ok (.new idx, 3)) (hN : am_N (m_y μ).cls idx ci fs) (hk : k + 1 ≤ m_mc μ) (hz : z + fs.length ≤ m_ms μ) (kk : RW l w μ (am_u h (n + 1) (.inr (.inr (ci, fs)))) (n + 1) (k + 1) (z + fs.length) (pc + 3) lv (.ref (n + 1) :: st) Q) : RW l w μ h n k z pc lv st Q := by
  intro p e s m args below meth c H locs ls X K R hL hl
  obtain ⟨C, T, N, ty, hc, hin, hty, hcl, hinst, hini, hfs, hNl⟩ := hN
  subst hNl
  have hts := X.2.2.2.2.2.1
  have hKn := K.1.1 ci _ hc
  refine W.newcK X.1 X.2.1 X.2.2.2.2.1 (hts _ hcl) (hts _ hinst) (hts _ hini) rfl hd hk hz hKn.2.1 rfl fun H1 kC hkC e1 z1 o1 => ?_
  have h1 := kk p e s m args below meth c H1 locs ls X K (R.grow z1 o1 ⟨_, hc, (u_born ty hts hin hKn hkC e1 hty).to (fun j hj => by show defaultValue (ty j) = vp_V (fs.map (am_v w)) j; rw [am_vV, ← hfs j hj, am_dflt])⟩) hL hl
  have e2 : am_a w (n + 1) = H.size := R.1.symm
  have h2 : (Value.ref (n + 1) :: st).map (am_v w) = .ref H.size :: st.map (am_v w) := by
    show Value.ref (am_a w (n + 1)) :: _ = _
    rw [e2]
  rw [h2] at h1
  exact h1
theorem R_newI {x : Int32} {N : Nat} (hd : decode (m_b μ) pc = .ok (.newarray .int, 2)) (hA : Cond.arrayClass .int ∈ am_tb) (hx : ¬ x < 0) (hN : x.toNatClampNeg = N) (hb : N * 4 ≤ 536870912) (hk : k + 1 ≤ m_mc μ) (hz : z + N ≤ m_ms μ) (kk : RW l w μ (am_u h (n + 1) (.inl (N, fun _ => 0))) (n + 1) (k + 1) (z + N) (pc + 2) lv (.ref (n + 1) :: st) Q) : RW l w μ h n k z pc lv (.int x :: st) Q := by
  intro p e s m args below meth c H locs ls X K R hL hl
  have hts := X.2.2.2.2.2.1
  refine va_newaK (atype := .int) X.1 X.2.1 (hts _ hA) rfl hd rfl hx hN hb hk hz rfl fun H1 cA e1 z1 o1 hAr hNm => ?_
  have hcA : cA = w.2.2.2.2.1 := by
    have h2 : s.vm.findClass ("[" ++ FieldType.int.toString) = some w.2.2.2.2.1 := (K.1.2 0 _ rfl).2
    exact Option.some.inj (hNm.symm.trans h2)
  subst hcA
  have h1 := kk p e s m args below meth c H1 locs ls X K (R.grow z1 o1 e1) hL hl
  have e2 : am_a w (n + 1) = H.size := R.1.symm
  have h2 : (Value.ref (n + 1) :: st).map (am_v w) = .ref H.size :: st.map (am_v w) := by
    show Value.ref (am_a w (n + 1)) :: _ = _
    rw [e2]
  rw [h2] at h1
  exact h1
theorem R_newL {x : Int32} {N : Nat} (hd : decode (m_b μ) pc = .ok (.newarray .long, 2)) (hA : Cond.arrayClass .long ∈ am_tb) (hx : ¬ x < 0) (hN : x.toNatClampNeg = N) (hb : N * 8 ≤ 536870912) (hk : k + 1 ≤ m_mc μ) (hz : z + N ≤ m_ms μ) (kk : RW l w μ (am_u h (n + 1) (.inr (.inl (N, fun _ => 0)))) (n + 1) (k + 1) (z + N) (pc + 2) lv (.ref (n + 1) :: st) Q) : RW l w μ h n k z pc lv (.int x :: st) Q := by
  intro p e s m args below meth c H locs ls X K R hL hl
  have hts := X.2.2.2.2.2.1
  refine va_newaK (atype := .long) X.1 X.2.1 (hts _ hA) rfl hd rfl hx hN hb hk hz rfl fun H1 cA e1 z1 o1 hAr hNm => ?_
  have hcA : cA = w.2.2.2.2.2.1 := by
    have h2 : s.vm.findClass ("[" ++ FieldType.long.toString) = some w.2.2.2.2.2.1 := (K.1.2 1 _ rfl).2
    exact Option.some.inj (hNm.symm.trans h2)
  subst hcA
  have h1 := kk p e s m args below meth c H1 locs ls X K (R.grow z1 o1 e1) hL hl
  have e2 : am_a w (n + 1) = H.size := R.1.symm
  have h2 : (Value.ref (n + 1) :: st).map (am_v w) = .ref H.size :: st.map (am_v w) := by
    show Value.ref (am_a w (n + 1)) :: _ = _
    rw [e2]
  rw [h2] at h1
  exact h1
end RCALL
