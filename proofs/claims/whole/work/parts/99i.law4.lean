/-! the law: from its entry -/
section LAWS
variable {nm : String} {l : Launch} {w : am_W}
theorem Jt_start {h : am_H} {ψ : Nat → oA} (S : Sys h (fun _ => []) (fun _ => (0, 0)) (fun _ => (fun _ => 0, fun _ => 0, 10)) (12, 14, 16)) (M : MO h ψ (fun _ => 0) (fun k => if k = 1 then 16 else 0)) (hB : ∀ v : BitVec 8, ψ 65 v.toNat = Bx v) (hC : ∀ v : BitVec 8, ψ 66 v.toNat = Cx v) : Jt h :=
  ⟨_, _, _, _, ψ, _, _, S, ⟨Or.inl ⟨rfl, rfl⟩, by decide, by decide⟩, M, fun k hk => ⟨rfl, sg.nil _ _⟩, ⟨sg.nil _ _, rfl⟩, rfl, hB, hC⟩
set_option maxHeartbeats 1000000 in
theorem L_start (hL : w.2.2.1 ≤ 2560) (h : am_H) : RW l w (mL_law nm) h 0 0 0 0 [(0, .ref 0)] [] (fun _ _ q => q = some (.int 1)) := by
  refine R_new' (pc := 0) dL_law_0 nL_7 (Nat.le_of_ble_eq_true rfl) (Nat.le_of_ble_eq_true rfl) (fun h1 f1 g1 => ?_)
  refine R_dup (pc := 3) dL_law_3 rfl ?_
  refine R_callI (pc := 4) (μ' := mX11_init) (a := 1) (As := []) (st := [.ref 1]) dL_law_4 zX11_init rfl lL_9 ⟨Nat.le_of_ble_eq_true rfl, Nat.le_of_ble_eq_true rfl⟩ ⟨Nat.le_of_ble_eq_true rfl, Nat.le_of_ble_eq_true rfl⟩ rfl (Nat.le_of_ble_eq_true rfl) (qX11_init l w h1 f1) (fun h2 n2 r q2 => ?_)
  obtain ⟨rfl, rfl, S, _⟩ := q2
  refine R_astore_n (pc := 7) (lv' := [(1, .ref 1), (0, .ref 0)]) dL_law_7 rfl (Nat.le_of_ble_eq_true rfl) rfl ?_
  refine R_new' (pc := 8) dL_law_8 nL_10 (Nat.le_of_ble_eq_true rfl) (Nat.le_of_ble_eq_true rfl) (fun h3 f3 g3 => ?_)
  have S3 := S.fm (h1 := h3) (fun x hx => g3 x (by omega))
  refine R_dup (pc := 11) dL_law_11 rfl ?_
  refine R_callI (pc := 12) (μ' := mX12_init) (a := 61) (As := []) (st := [.ref 61]) dL_law_12 zX12_init rfl lL_12 ⟨Nat.le_of_ble_eq_true rfl, Nat.le_of_ble_eq_true rfl⟩ ⟨Nat.le_of_ble_eq_true rfl, Nat.le_of_ble_eq_true rfl⟩ rfl (Nat.le_of_ble_eq_true rfl) (oX12_init l w h3 f3) (fun h4 n4 r q4 => ?_)
  obtain ⟨rfl, rfl, ψ, M, _, hB, hC, F⟩ := q4
  refine R_astore_n (pc := 15) (lv' := [(2, .ref 61), (1, .ref 1), (0, .ref 0)]) dL_law_15 rfl (Nat.le_of_ble_eq_true rfl) rfl ?_
  refine R_iconst (pc := 16) (v := 0) dL_law_16 (by decide) ?_
  refine R_istore_n (pc := 17) (lv' := [(3, .int (nI 0)), (2, .ref 61), (1, .ref 1), (0, .ref 0)]) dL_law_17 rfl (Nat.le_of_ble_eq_true rfl) rfl ?_
  exact L_loop hL ⟨by decide, by decide⟩ (w.2.2.1 + 5) 0 (by omega) (by omega) h4 (Jt_start (S3.fm F) M hB hC)
end LAWS
