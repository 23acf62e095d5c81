theorem am_at {w : am_W} {ls : Array Slot} {nL : Nat} {lv : List (Nat × Value)} (hl : lv_has ls nL (lv.map (am_lv w))) {j i : Nat} {v : Value} (hk : lv[j]? = some (i, v)) : ls[i]? = some (.val (am_v w v)) := lv_at hl j (by rw [List.getElem?_map, hk]; rfl)
theorem am_fil1 (w : am_W) (i : Nat) (lv : List (Nat × Value)) : (lv.map (am_lv w)).filter (fun q => !(q.1 == i) && !(q.1 + 1 == i && q.2.category == 2)) = (lv.filter (fun q => !(q.1 == i) && !(q.1 + 1 == i && q.2.category == 2))).map (am_lv w) := by
  rw [List.filter_map]
  congr 1
  apply List.filter_congr
  intro q _
  simp [am_lv, am_cat]
theorem am_fil2 (w : am_W) (i : Nat) (lv : List (Nat × Value)) : (lv.map (am_lv w)).filter (fun q => !(q.1 == i) && (!(q.1 == i + 1) && !(q.1 + 1 == i && q.2.category == 2))) = (lv.filter (fun q => !(q.1 == i) && (!(q.1 == i + 1) && !(q.1 + 1 == i && q.2.category == 2)))).map (am_lv w) := by
  rw [List.filter_map]
  congr 1
  apply List.filter_congr
  intro q _
  simp [am_lv, am_cat]
section RROW
variable {l : Launch} {w : am_W} {μ : am_M} {h : am_H} {n k z pc : Nat} {lv : List (Nat × Value)} {st : List Value} {Q : am_H → Nat → Option Value → Prop}
theorem R_sub {lv' : List (Nat × Value)} (ks : List Nat) (hl' : lv_pick lv ks = lv') (kk : RW l w μ h n k z pc lv' st Q) : RW l w μ h n k z pc lv st Q :=
  fun p e s m args below meth c H locs ls X K R hL hl => kk p e s m args below meth c H locs ls X K R hL (lv_sub hl ks (by rw [← hl']; unfold lv_pick; rw [List.map_filterMap]; congr 1; funext j; rw [List.getElem?_map]))
theorem R_heap {h' : am_H} (e : h = h') (kk : RW l w μ h' n k z pc lv st Q) : RW l w μ h n k z pc lv st Q := e ▸ kk
theorem R_st {st' : List Value} (e : st = st') (kk : RW l w μ h n k z pc lv st' Q) : RW l w μ h n k z pc lv st Q := e ▸ kk
theorem R_topi {x : Int32} (kk : ∀ y : Int32, y = x → RW l w μ h n k z pc lv (.int y :: st) Q) : RW l w μ h n k z pc lv (.int x :: st) Q := kk x rfl
theorem R_topl {x : Int64} (kk : ∀ y : Int64, y = x → RW l w μ h n k z pc lv (.long y :: st) Q) : RW l w μ h n k z pc lv (.long x :: st) Q := kk x rfl
theorem R_widen {k' z' : Nat} (h1 : k ≤ k') (h2 : z ≤ z') (kk : RW l w μ h n k' z' pc lv st Q) : RW l w μ h n k z pc lv st Q :=
  fun p e s m args below meth c H locs ls X K R hL hl => W.widen h1 h2 (kk p e s m args below meth c H locs ls X K R hL hl)
theorem R_iadd {x y : Int32} (hd : decode (m_b μ) pc = .ok (.iadd, 1)) (kk : RW l w μ h n k z (pc + 1) lv (.int (x + y) :: st) Q) : RW l w μ h n k z pc lv (.int y :: .int x :: st) Q :=
  fun p e s m args below meth c H locs ls X K R hL hl => lv_iadd X.1 X.2.1 hd (kk p e s m args below meth c H locs ls X K R hL hl)
theorem R_isub {x y : Int32} (hd : decode (m_b μ) pc = .ok (.isub, 1)) (kk : RW l w μ h n k z (pc + 1) lv (.int (x - y) :: st) Q) : RW l w μ h n k z pc lv (.int y :: .int x :: st) Q :=
  fun p e s m args below meth c H locs ls X K R hL hl => lv_isub X.1 X.2.1 hd (kk p e s m args below meth c H locs ls X K R hL hl)
theorem R_imul {x y : Int32} (hd : decode (m_b μ) pc = .ok (.imul, 1)) (kk : RW l w μ h n k z (pc + 1) lv (.int (x * y) :: st) Q) : RW l w μ h n k z pc lv (.int y :: .int x :: st) Q :=
  fun p e s m args below meth c H locs ls X K R hL hl => lv_imul X.1 X.2.1 hd (kk p e s m args below meth c H locs ls X K R hL hl)
theorem R_iand {x y : Int32} (hd : decode (m_b μ) pc = .ok (.iand, 1)) (kk : RW l w μ h n k z (pc + 1) lv (.int (x &&& y) :: st) Q) : RW l w μ h n k z pc lv (.int y :: .int x :: st) Q :=
  fun p e s m args below meth c H locs ls X K R hL hl => lv_iand X.1 X.2.1 hd (kk p e s m args below meth c H locs ls X K R hL hl)
theorem R_ior {x y : Int32} (hd : decode (m_b μ) pc = .ok (.ior, 1)) (kk : RW l w μ h n k z (pc + 1) lv (.int (x ||| y) :: st) Q) : RW l w μ h n k z pc lv (.int y :: .int x :: st) Q :=
  fun p e s m args below meth c H locs ls X K R hL hl => lv_ior X.1 X.2.1 hd (kk p e s m args below meth c H locs ls X K R hL hl)
theorem R_ixor {x y : Int32} (hd : decode (m_b μ) pc = .ok (.ixor, 1)) (kk : RW l w μ h n k z (pc + 1) lv (.int (x ^^^ y) :: st) Q) : RW l w μ h n k z pc lv (.int y :: .int x :: st) Q :=
  fun p e s m args below meth c H locs ls X K R hL hl => lv_ixor X.1 X.2.1 hd (kk p e s m args below meth c H locs ls X K R hL hl)
theorem R_ineg {x : Int32} (hd : decode (m_b μ) pc = .ok (.ineg, 1)) (kk : RW l w μ h n k z (pc + 1) lv (.int (-x) :: st) Q) : RW l w μ h n k z pc lv (.int x :: st) Q :=
  fun p e s m args below meth c H locs ls X K R hL hl => lv_ineg X.1 X.2.1 hd (kk p e s m args below meth c H locs ls X K R hL hl)
theorem R_idiv {x y : Int32} (hd : decode (m_b μ) pc = .ok (.idiv, 1)) (hne : ¬ y = 0) (kk : RW l w μ h n k z (pc + 1) lv (.int (x / y) :: st) Q) : RW l w μ h n k z pc lv (.int y :: .int x :: st) Q :=
  fun p e s m args below meth c H locs ls X K R hL hl => lv_idiv X.1 X.2.1 hd hne (kk p e s m args below meth c H locs ls X K R hL hl)
theorem R_irem {x y : Int32} (hd : decode (m_b μ) pc = .ok (.irem, 1)) (hne : ¬ y = 0) (kk : RW l w μ h n k z (pc + 1) lv (.int (x - x / y * y) :: st) Q) : RW l w μ h n k z pc lv (.int y :: .int x :: st) Q :=
  fun p e s m args below meth c H locs ls X K R hL hl => lv_irem X.1 X.2.1 hd hne (kk p e s m args below meth c H locs ls X K R hL hl)
theorem R_ishl {x y : Int32} (hd : decode (m_b μ) pc = .ok (.ishl, 1)) (kk : RW l w μ h n k z (pc + 1) lv (.int (x <<< (y &&& 31)) :: st) Q) : RW l w μ h n k z pc lv (.int y :: .int x :: st) Q :=
  fun p e s m args below meth c H locs ls X K R hL hl => lv_ishl X.1 X.2.1 hd (kk p e s m args below meth c H locs ls X K R hL hl)
theorem R_ishr {x y : Int32} (hd : decode (m_b μ) pc = .ok (.ishr, 1)) (kk : RW l w μ h n k z (pc + 1) lv (.int (x >>> (y &&& 31)) :: st) Q) : RW l w μ h n k z pc lv (.int y :: .int x :: st) Q :=
  fun p e s m args below meth c H locs ls X K R hL hl => lv_ishr X.1 X.2.1 hd (kk p e s m args below meth c H locs ls X K R hL hl)
theorem R_iushr {x y v : Int32} (hd : decode (m_b μ) pc = .ok (.iushr, 1)) (hv : (x.toUInt32 >>> (y.toUInt32 &&& Int32.toUInt32 31)).toInt32 = v) (kk : RW l w μ h n k z (pc + 1) lv (.int v :: st) Q) : RW l w μ h n k z pc lv (.int y :: .int x :: st) Q :=
  fun p e s m args below meth c H locs ls X K R hL hl => lv_iushr X.1 X.2.1 hd hv (kk p e s m args below meth c H locs ls X K R hL hl)
theorem R_ladd {x y : Int64} (hd : decode (m_b μ) pc = .ok (.ladd, 1)) (kk : RW l w μ h n k z (pc + 1) lv (.long (x + y) :: st) Q) : RW l w μ h n k z pc lv (.long y :: .long x :: st) Q :=
  fun p e s m args below meth c H locs ls X K R hL hl => lv_ladd X.1 X.2.1 hd (kk p e s m args below meth c H locs ls X K R hL hl)
theorem R_lsub {x y : Int64} (hd : decode (m_b μ) pc = .ok (.lsub, 1)) (kk : RW l w μ h n k z (pc + 1) lv (.long (x - y) :: st) Q) : RW l w μ h n k z pc lv (.long y :: .long x :: st) Q :=
  fun p e s m args below meth c H locs ls X K R hL hl => lv_lsub X.1 X.2.1 hd (kk p e s m args below meth c H locs ls X K R hL hl)
theorem R_lmul {x y : Int64} (hd : decode (m_b μ) pc = .ok (.lmul, 1)) (kk : RW l w μ h n k z (pc + 1) lv (.long (x * y) :: st) Q) : RW l w μ h n k z pc lv (.long y :: .long x :: st) Q :=
  fun p e s m args below meth c H locs ls X K R hL hl => lv_lmul X.1 X.2.1 hd (kk p e s m args below meth c H locs ls X K R hL hl)
theorem R_land {x y : Int64} (hd : decode (m_b μ) pc = .ok (.land, 1)) (kk : RW l w μ h n k z (pc + 1) lv (.long (x &&& y) :: st) Q) : RW l w μ h n k z pc lv (.long y :: .long x :: st) Q :=
  fun p e s m args below meth c H locs ls X K R hL hl => lv_land X.1 X.2.1 hd (kk p e s m args below meth c H locs ls X K R hL hl)
theorem R_lor {x y : Int64} (hd : decode (m_b μ) pc = .ok (.lor, 1)) (kk : RW l w μ h n k z (pc + 1) lv (.long (x ||| y) :: st) Q) : RW l w μ h n k z pc lv (.long y :: .long x :: st) Q :=
  fun p e s m args below meth c H locs ls X K R hL hl => lv_lor X.1 X.2.1 hd (kk p e s m args below meth c H locs ls X K R hL hl)
theorem R_lxor {x y : Int64} (hd : decode (m_b μ) pc = .ok (.lxor, 1)) (kk : RW l w μ h n k z (pc + 1) lv (.long (x ^^^ y) :: st) Q) : RW l w μ h n k z pc lv (.long y :: .long x :: st) Q :=
  fun p e s m args below meth c H locs ls X K R hL hl => lv_lxor X.1 X.2.1 hd (kk p e s m args below meth c H locs ls X K R hL hl)
theorem R_lneg {x : Int64} (hd : decode (m_b μ) pc = .ok (.lneg, 1)) (kk : RW l w μ h n k z (pc + 1) lv (.long (-x) :: st) Q) : RW l w μ h n k z pc lv (.long x :: st) Q :=
  fun p e s m args below meth c H locs ls X K R hL hl => lv_lneg X.1 X.2.1 hd (kk p e s m args below meth c H locs ls X K R hL hl)
theorem R_lushr {x v : Int64} {y : Int32} (hd : decode (m_b μ) pc = .ok (.lushr, 1)) (hv : (x.toUInt64 >>> (y.toInt64.toUInt64 &&& Int64.toUInt64 63)).toInt64 = v) (kk : RW l w μ h n k z (pc + 1) lv (.long v :: st) Q) : RW l w μ h n k z pc lv (.int y :: .long x :: st) Q :=
  fun p e s m args below meth c H locs ls X K R hL hl => lv_lushr X.1 X.2.1 hd hv (kk p e s m args below meth c H locs ls X K R hL hl)
theorem R_lshl {x v : Int64} {y : Int32} (hd : decode (m_b μ) pc = .ok (.lshl, 1)) (hv : x <<< (y.toInt64 &&& 63) = v) (kk : RW l w μ h n k z (pc + 1) lv (.long v :: st) Q) : RW l w μ h n k z pc lv (.int y :: .long x :: st) Q :=
  fun p e s m args below meth c H locs ls X K R hL hl => lv_lshl X.1 X.2.1 hd hv (kk p e s m args below meth c H locs ls X K R hL hl)
theorem R_lshr {x v : Int64} {y : Int32} (hd : decode (m_b μ) pc = .ok (.lshr, 1)) (hv : x >>> (y.toInt64 &&& 63) = v) (kk : RW l w μ h n k z (pc + 1) lv (.long v :: st) Q) : RW l w μ h n k z pc lv (.int y :: .long x :: st) Q :=
  fun p e s m args below meth c H locs ls X K R hL hl => lv_lshr X.1 X.2.1 hd hv (kk p e s m args below meth c H locs ls X K R hL hl)
theorem R_lcmp {x y : Int64} (hd : decode (m_b μ) pc = .ok (.lcmp, 1)) (kk : RW l w μ h n k z (pc + 1) lv (.int (lg_cmp x y) :: st) Q) : RW l w μ h n k z pc lv (.long y :: .long x :: st) Q :=
  fun p e s m args below meth c H locs ls X K R hL hl => W.lcmp X.1 X.2.1 hd (kk p e s m args below meth c H locs ls X K R hL hl)
theorem R_i2l {x : Int32} {v : Int64} (hd : decode (m_b μ) pc = .ok (.i2l, 1)) (hv : x.toInt64 = v) (kk : RW l w μ h n k z (pc + 1) lv (.long v :: st) Q) : RW l w μ h n k z pc lv (.int x :: st) Q :=
  fun p e s m args below meth c H locs ls X K R hL hl => lv_i2l X.1 X.2.1 hd hv (kk p e s m args below meth c H locs ls X K R hL hl)
theorem R_l2i {x : Int64} {v : Int32} (hd : decode (m_b μ) pc = .ok (.l2i, 1)) (hv : x.toInt32 = v) (kk : RW l w μ h n k z (pc + 1) lv (.int v :: st) Q) : RW l w μ h n k z pc lv (.long x :: st) Q :=
  fun p e s m args below meth c H locs ls X K R hL hl => lv_l2i X.1 X.2.1 hd hv (kk p e s m args below meth c H locs ls X K R hL hl)
theorem R_iconst {a : Int} {v : Int32} (hd : decode (m_b μ) pc = .ok (.iconst a, 1)) (hv : Int32.ofInt a = v) (kk : RW l w μ h n k z (pc + 1) lv (.int v :: st) Q) : RW l w μ h n k z pc lv (st) Q :=
  fun p e s m args below meth c H locs ls X K R hL hl => lv_iconst X.1 X.2.1 hd hv (kk p e s m args below meth c H locs ls X K R hL hl)
theorem R_bipush {a : Int} {v : Int32} (hd : decode (m_b μ) pc = .ok (.bipush a, 2)) (hv : (Int8.ofInt a).toInt32 = v) (kk : RW l w μ h n k z (pc + 2) lv (.int v :: st) Q) : RW l w μ h n k z pc lv (st) Q :=
  fun p e s m args below meth c H locs ls X K R hL hl => lv_bipush X.1 X.2.1 hd hv (kk p e s m args below meth c H locs ls X K R hL hl)
theorem R_sipush {a : Int} {v : Int32} (hd : decode (m_b μ) pc = .ok (.sipush a, 3)) (hv : (Int16.ofInt a).toInt32 = v) (kk : RW l w μ h n k z (pc + 3) lv (.int v :: st) Q) : RW l w μ h n k z pc lv (st) Q :=
  fun p e s m args below meth c H locs ls X K R hL hl => lv_sipush X.1 X.2.1 hd hv (kk p e s m args below meth c H locs ls X K R hL hl)
theorem R_lconst {a : Fin 2} {v : Int64} (hd : decode (m_b μ) pc = .ok (.lconst a, 1)) (hv : Int64.ofNat (a : Nat) = v) (kk : RW l w μ h n k z (pc + 1) lv (.long v :: st) Q) : RW l w μ h n k z pc lv (st) Q :=
  fun p e s m args below meth c H locs ls X K R hL hl => lv_lconst X.1 X.2.1 hd hv (kk p e s m args below meth c H locs ls X K R hL hl)
theorem R_null (hd : decode (m_b μ) pc = .ok (.aconst_null, 1)) (kk : RW l w μ h n k z (pc + 1) lv (.null :: st) Q) : RW l w μ h n k z pc lv (st) Q :=
  fun p e s m args below meth c H locs ls X K R hL hl => lv_null X.1 X.2.1 hd (kk p e s m args below meth c H locs ls X K R hL hl)
theorem R_ldc {i : Nat} {v : Int32} (hd : decode (m_b μ) pc = .ok (.ldc i, 2)) (hc : Cond.constant (m_y μ).cls i v ∈ am_tb) (kk : RW l w μ h n k z (pc + 2) lv (.int v :: st) Q) : RW l w μ h n k z pc lv (st) Q :=
  fun p e s m args below meth c H locs ls X K R hL hl => lv_ldc X.1 X.2.1 X.2.2.2.2.1 (X.2.2.2.2.2.1 _ hc) hd (kk p e s m args below meth c H locs ls X K R hL hl)
theorem R_ldc2 {i : Nat} {v : Int64} (hd : decode (m_b μ) pc = .ok (.ldc2_w i, 3)) (hc : Cond.constantLong (m_y μ).cls i v ∈ am_tb) (kk : RW l w μ h n k z (pc + 3) lv (.long v :: st) Q) : RW l w μ h n k z pc lv (st) Q :=
  fun p e s m args below meth c H locs ls X K R hL hl => lv_ldc2 X.1 X.2.1 X.2.2.2.2.1 (X.2.2.2.2.2.1 _ hc) hd (kk p e s m args below meth c H locs ls X K R hL hl)
theorem R_iload_n {f : Fin 4} {i : Nat} {x : Int32} (j : Nat) (hd : decode (m_b μ) pc = .ok (.iload_n f, 1)) (hi : (f : Nat) = i) (hk : lv[j]? = some (i, .int x)) (kk : RW l w μ h n k z (pc + 1) lv (.int x :: st) Q) : RW l w μ h n k z pc lv (st) Q :=
  fun p e s m args below meth c H locs ls X K R hL hl => lv_iload_n X.1 X.2.1 hd hi (am_at hl hk) (kk p e s m args below meth c H locs ls X K R hL hl)
theorem R_iload {i : Nat} {x : Int32} (j : Nat) (hd : decode (m_b μ) pc = .ok (.iload i, 2)) (hk : lv[j]? = some (i, .int x)) (kk : RW l w μ h n k z (pc + 2) lv (.int x :: st) Q) : RW l w μ h n k z pc lv (st) Q :=
  fun p e s m args below meth c H locs ls X K R hL hl => lv_iload X.1 X.2.1 hd (am_at hl hk) (kk p e s m args below meth c H locs ls X K R hL hl)
theorem R_lload_n {f : Fin 4} {i : Nat} {x : Int64} (j : Nat) (hd : decode (m_b μ) pc = .ok (.lload_n f, 1)) (hi : (f : Nat) = i) (hk : lv[j]? = some (i, .long x)) (kk : RW l w μ h n k z (pc + 1) lv (.long x :: st) Q) : RW l w μ h n k z pc lv (st) Q :=
  fun p e s m args below meth c H locs ls X K R hL hl => lv_lload_n X.1 X.2.1 hd hi (am_at hl hk) (kk p e s m args below meth c H locs ls X K R hL hl)
theorem R_lload {i : Nat} {x : Int64} (j : Nat) (hd : decode (m_b μ) pc = .ok (.lload i, 2)) (hk : lv[j]? = some (i, .long x)) (kk : RW l w μ h n k z (pc + 2) lv (.long x :: st) Q) : RW l w μ h n k z pc lv (st) Q :=
  fun p e s m args below meth c H locs ls X K R hL hl => lv_lload X.1 X.2.1 hd (am_at hl hk) (kk p e s m args below meth c H locs ls X K R hL hl)
theorem R_aload_n {f : Fin 4} {i : Nat} {x : Nat} (j : Nat) (hd : decode (m_b μ) pc = .ok (.aload_n f, 1)) (hi : (f : Nat) = i) (hk : lv[j]? = some (i, .ref x)) (kk : RW l w μ h n k z (pc + 1) lv (.ref x :: st) Q) : RW l w μ h n k z pc lv (st) Q :=
  fun p e s m args below meth c H locs ls X K R hL hl => lv_aload_n X.1 X.2.1 hd hi (am_at hl hk) (kk p e s m args below meth c H locs ls X K R hL hl)
theorem R_aload {i : Nat} {x : Nat} (j : Nat) (hd : decode (m_b μ) pc = .ok (.aload i, 2)) (hk : lv[j]? = some (i, .ref x)) (kk : RW l w μ h n k z (pc + 2) lv (.ref x :: st) Q) : RW l w μ h n k z pc lv (st) Q :=
  fun p e s m args below meth c H locs ls X K R hL hl => lv_aload X.1 X.2.1 hd (am_at hl hk) (kk p e s m args below meth c H locs ls X K R hL hl)
theorem R_aload_nN {f : Fin 4} {i : Nat} (j : Nat) (hd : decode (m_b μ) pc = .ok (.aload_n f, 1)) (hi : (f : Nat) = i) (hk : lv[j]? = some (i, .null)) (kk : RW l w μ h n k z (pc + 1) lv (.null :: st) Q) : RW l w μ h n k z pc lv (st) Q :=
  fun p e s m args below meth c H locs ls X K R hL hl => lv_aload_nN X.1 X.2.1 hd hi (am_at hl hk) (kk p e s m args below meth c H locs ls X K R hL hl)
theorem R_aloadN {i : Nat} (j : Nat) (hd : decode (m_b μ) pc = .ok (.aload i, 2)) (hk : lv[j]? = some (i, .null)) (kk : RW l w μ h n k z (pc + 2) lv (.null :: st) Q) : RW l w μ h n k z pc lv (st) Q :=
  fun p e s m args below meth c H locs ls X K R hL hl => lv_aloadN X.1 X.2.1 hd (am_at hl hk) (kk p e s m args below meth c H locs ls X K R hL hl)
theorem R_istore_n {f : Fin 4} {i : Nat} {x : Int32} {lv' : List (Nat × Value)} (hd : decode (m_b μ) pc = .ok (.istore_n f, 1)) (hi : (f : Nat) = i) (hn : i < m_L μ) (hl' : (i, Value.int x) :: lv.filter (fun q => !(q.1 == i) && !(q.1 + 1 == i && q.2.category == 2)) = lv') (kk : RW l w μ h n k z (pc + 1) lv' st Q) : RW l w μ h n k z pc lv (Value.int x :: st) Q :=
  fun p e s m args below meth c H locs ls X K R hL hl => lv_istore_n X.1 X.2.1 hd hi hl hn (by rw [am_fil1, ← hl']; rfl) (fun ls hl => kk p e s m args below meth c H locs ls X K R hL hl)
theorem R_istore {i : Nat} {x : Int32} {lv' : List (Nat × Value)} (hd : decode (m_b μ) pc = .ok (.istore i, 2)) (hn : i < m_L μ) (hl' : (i, Value.int x) :: lv.filter (fun q => !(q.1 == i) && !(q.1 + 1 == i && q.2.category == 2)) = lv') (kk : RW l w μ h n k z (pc + 2) lv' st Q) : RW l w μ h n k z pc lv (Value.int x :: st) Q :=
  fun p e s m args below meth c H locs ls X K R hL hl => lv_istore X.1 X.2.1 hd hl hn (by rw [am_fil1, ← hl']; rfl) (fun ls hl => kk p e s m args below meth c H locs ls X K R hL hl)
theorem R_lstore_n {f : Fin 4} {i : Nat} {x : Int64} {lv' : List (Nat × Value)} (hd : decode (m_b μ) pc = .ok (.lstore_n f, 1)) (hi : (f : Nat) = i) (hn : i + 1 < m_L μ) (hl' : (i, Value.long x) :: lv.filter (fun q => !(q.1 == i) && (!(q.1 == i + 1) && !(q.1 + 1 == i && q.2.category == 2))) = lv') (kk : RW l w μ h n k z (pc + 1) lv' st Q) : RW l w μ h n k z pc lv (Value.long x :: st) Q :=
  fun p e s m args below meth c H locs ls X K R hL hl => lv_lstore_n X.1 X.2.1 hd hi hl hn (by rw [am_fil2, ← hl']; rfl) (fun ls hl => kk p e s m args below meth c H locs ls X K R hL hl)
theorem R_lstore {i : Nat} {x : Int64} {lv' : List (Nat × Value)} (hd : decode (m_b μ) pc = .ok (.lstore i, 2)) (hn : i + 1 < m_L μ) (hl' : (i, Value.long x) :: lv.filter (fun q => !(q.1 == i) && (!(q.1 == i + 1) && !(q.1 + 1 == i && q.2.category == 2))) = lv') (kk : RW l w μ h n k z (pc + 2) lv' st Q) : RW l w μ h n k z pc lv (Value.long x :: st) Q :=
  fun p e s m args below meth c H locs ls X K R hL hl => lv_lstore X.1 X.2.1 hd hl hn (by rw [am_fil2, ← hl']; rfl) (fun ls hl => kk p e s m args below meth c H locs ls X K R hL hl)
theorem R_astore_n {f : Fin 4} {i : Nat} {x : Nat} {lv' : List (Nat × Value)} (hd : decode (m_b μ) pc = .ok (.astore_n f, 1)) (hi : (f : Nat) = i) (hn : i < m_L μ) (hl' : (i, Value.ref x) :: lv.filter (fun q => !(q.1 == i) && !(q.1 + 1 == i && q.2.category == 2)) = lv') (kk : RW l w μ h n k z (pc + 1) lv' st Q) : RW l w μ h n k z pc lv (Value.ref x :: st) Q :=
  fun p e s m args below meth c H locs ls X K R hL hl => lv_astore_n X.1 X.2.1 hd hi hl hn (by rw [am_fil1, ← hl']; rfl) (fun ls hl => kk p e s m args below meth c H locs ls X K R hL hl)
theorem R_astore {i : Nat} {x : Nat} {lv' : List (Nat × Value)} (hd : decode (m_b μ) pc = .ok (.astore i, 2)) (hn : i < m_L μ) (hl' : (i, Value.ref x) :: lv.filter (fun q => !(q.1 == i) && !(q.1 + 1 == i && q.2.category == 2)) = lv') (kk : RW l w μ h n k z (pc + 2) lv' st Q) : RW l w μ h n k z pc lv (Value.ref x :: st) Q :=
  fun p e s m args below meth c H locs ls X K R hL hl => lv_astore X.1 X.2.1 hd hl hn (by rw [am_fil1, ← hl']; rfl) (fun ls hl => kk p e s m args below meth c H locs ls X K R hL hl)
theorem R_astore_nN {f : Fin 4} {i : Nat} {lv' : List (Nat × Value)} (hd : decode (m_b μ) pc = .ok (.astore_n f, 1)) (hi : (f : Nat) = i) (hn : i < m_L μ) (hl' : (i, Value.null) :: lv.filter (fun q => !(q.1 == i) && !(q.1 + 1 == i && q.2.category == 2)) = lv') (kk : RW l w μ h n k z (pc + 1) lv' st Q) : RW l w μ h n k z pc lv (Value.null :: st) Q :=
  fun p e s m args below meth c H locs ls X K R hL hl => lv_astore_nN X.1 X.2.1 hd hi hl hn (by rw [am_fil1, ← hl']; rfl) (fun ls hl => kk p e s m args below meth c H locs ls X K R hL hl)
theorem R_astoreN {i : Nat} {lv' : List (Nat × Value)} (hd : decode (m_b μ) pc = .ok (.astore i, 2)) (hn : i < m_L μ) (hl' : (i, Value.null) :: lv.filter (fun q => !(q.1 == i) && !(q.1 + 1 == i && q.2.category == 2)) = lv') (kk : RW l w μ h n k z (pc + 2) lv' st Q) : RW l w μ h n k z pc lv (Value.null :: st) Q :=
  fun p e s m args below meth c H locs ls X K R hL hl => lv_astoreN X.1 X.2.1 hd hl hn (by rw [am_fil1, ← hl']; rfl) (fun ls hl => kk p e s m args below meth c H locs ls X K R hL hl)
theorem R_iinc {i j : Nat} {a : Int} {x v : Int32} {lv' : List (Nat × Value)} (hd : decode (m_b μ) pc = .ok (.iinc i a, 3)) (hk : lv[j]? = some (i, .int x)) (hv : x + Int32.ofInt a = v) (hn : i < m_L μ) (hl' : (i, Value.int v) :: lv.filter (fun q => !(q.1 == i) && !(q.1 + 1 == i && q.2.category == 2)) = lv') (kk : RW l w μ h n k z (pc + 3) lv' st Q) : RW l w μ h n k z pc lv st Q :=
  fun p e s m args below meth c H locs ls X K R hL hl => lv_iinc (k := j) X.1 X.2.1 hd hl (by rw [List.getElem?_map, hk]; rfl) hv hn (by rw [am_fil1, ← hl']; rfl) (fun ls hl => kk p e s m args below meth c H locs ls X K R hL hl)
theorem R_dup {v : Value} (hd : decode (m_b μ) pc = .ok (.dup, 1)) (hv : v.category = 1) (kk : RW l w μ h n k z (pc + 1) lv (v :: v :: st) Q) : RW l w μ h n k z pc lv (v :: st) Q :=
  fun p e s m args below meth c H locs ls X K R hL hl => lv_dup X.1 X.2.1 hd (by rw [am_cat]; exact hv) (kk p e s m args below meth c H locs ls X K R hL hl)
theorem R_dup2 {u v : Value} (hd : decode (m_b μ) pc = .ok (.dup2, 1)) (hu : u.category = 1) (hv : v.category = 1) (kk : RW l w μ h n k z (pc + 1) lv (u :: v :: u :: v :: st) Q) : RW l w μ h n k z pc lv (u :: v :: st) Q :=
  fun p e s m args below meth c H locs ls X K R hL hl => lv_dup2_11 X.1 X.2.1 hd (by rw [am_cat]; exact hu) (by rw [am_cat]; exact hv) (kk p e s m args below meth c H locs ls X K R hL hl)
theorem R_if_eq {x : Int32} {off : Int} {tgt : Nat} (hd : decode (m_b μ) pc = .ok (.ifCond .eq off, 3)) (ht : (pc : Int) + off = (tgt : Int)) (kt : x = 0 → RW l w μ h n k z tgt lv st Q) (kf : ¬ x = 0 → RW l w μ h n k z (pc + 3) lv st Q) : RW l w μ h n k z pc lv (.int x :: st) Q :=
  fun p e s m args below meth c H locs ls X K R hL hl => lv_if_eq X.1 X.2.1 hd ht (fun q => kt q p e s m args below meth c H locs ls X K R hL hl) (fun q => kf q p e s m args below meth c H locs ls X K R hL hl)
theorem R_icmp_eq {x y : Int32} {off : Int} {tgt : Nat} (hd : decode (m_b μ) pc = .ok (.if_icmp .eq off, 3)) (ht : (pc : Int) + off = (tgt : Int)) (kt : x = y → RW l w μ h n k z tgt lv st Q) (kf : ¬ x = y → RW l w μ h n k z (pc + 3) lv st Q) : RW l w μ h n k z pc lv (.int y :: .int x :: st) Q :=
  fun p e s m args below meth c H locs ls X K R hL hl => lv_icmp_eq X.1 X.2.1 hd ht (fun q => kt q p e s m args below meth c H locs ls X K R hL hl) (fun q => kf q p e s m args below meth c H locs ls X K R hL hl)
theorem R_if_ne {x : Int32} {off : Int} {tgt : Nat} (hd : decode (m_b μ) pc = .ok (.ifCond .ne off, 3)) (ht : (pc : Int) + off = (tgt : Int)) (kt : ¬ x = 0 → RW l w μ h n k z tgt lv st Q) (kf : x = 0 → RW l w μ h n k z (pc + 3) lv st Q) : RW l w μ h n k z pc lv (.int x :: st) Q :=
  fun p e s m args below meth c H locs ls X K R hL hl => lv_if_ne X.1 X.2.1 hd ht (fun q => kt q p e s m args below meth c H locs ls X K R hL hl) (fun q => kf q p e s m args below meth c H locs ls X K R hL hl)
theorem R_icmp_ne {x y : Int32} {off : Int} {tgt : Nat} (hd : decode (m_b μ) pc = .ok (.if_icmp .ne off, 3)) (ht : (pc : Int) + off = (tgt : Int)) (kt : ¬ x = y → RW l w μ h n k z tgt lv st Q) (kf : x = y → RW l w μ h n k z (pc + 3) lv st Q) : RW l w μ h n k z pc lv (.int y :: .int x :: st) Q :=
  fun p e s m args below meth c H locs ls X K R hL hl => lv_icmp_ne X.1 X.2.1 hd ht (fun q => kt q p e s m args below meth c H locs ls X K R hL hl) (fun q => kf q p e s m args below meth c H locs ls X K R hL hl)
theorem R_if_lt {x : Int32} {off : Int} {tgt : Nat} (hd : decode (m_b μ) pc = .ok (.ifCond .lt off, 3)) (ht : (pc : Int) + off = (tgt : Int)) (kt : x < 0 → RW l w μ h n k z tgt lv st Q) (kf : ¬ x < 0 → RW l w μ h n k z (pc + 3) lv st Q) : RW l w μ h n k z pc lv (.int x :: st) Q :=
  fun p e s m args below meth c H locs ls X K R hL hl => lv_if_lt X.1 X.2.1 hd ht (fun q => kt q p e s m args below meth c H locs ls X K R hL hl) (fun q => kf q p e s m args below meth c H locs ls X K R hL hl)
theorem R_icmp_lt {x y : Int32} {off : Int} {tgt : Nat} (hd : decode (m_b μ) pc = .ok (.if_icmp .lt off, 3)) (ht : (pc : Int) + off = (tgt : Int)) (kt : x < y → RW l w μ h n k z tgt lv st Q) (kf : ¬ x < y → RW l w μ h n k z (pc + 3) lv st Q) : RW l w μ h n k z pc lv (.int y :: .int x :: st) Q :=
  fun p e s m args below meth c H locs ls X K R hL hl => lv_icmp_lt X.1 X.2.1 hd ht (fun q => kt q p e s m args below meth c H locs ls X K R hL hl) (fun q => kf q p e s m args below meth c H locs ls X K R hL hl)
theorem R_if_ge {x : Int32} {off : Int} {tgt : Nat} (hd : decode (m_b μ) pc = .ok (.ifCond .ge off, 3)) (ht : (pc : Int) + off = (tgt : Int)) (kt : 0 ≤ x → RW l w μ h n k z tgt lv st Q) (kf : ¬ 0 ≤ x → RW l w μ h n k z (pc + 3) lv st Q) : RW l w μ h n k z pc lv (.int x :: st) Q :=
  fun p e s m args below meth c H locs ls X K R hL hl => lv_if_ge X.1 X.2.1 hd ht (fun q => kt q p e s m args below meth c H locs ls X K R hL hl) (fun q => kf q p e s m args below meth c H locs ls X K R hL hl)
theorem R_icmp_ge {x y : Int32} {off : Int} {tgt : Nat} (hd : decode (m_b μ) pc = .ok (.if_icmp .ge off, 3)) (ht : (pc : Int) + off = (tgt : Int)) (kt : y ≤ x → RW l w μ h n k z tgt lv st Q) (kf : ¬ y ≤ x → RW l w μ h n k z (pc + 3) lv st Q) : RW l w μ h n k z pc lv (.int y :: .int x :: st) Q :=
  fun p e s m args below meth c H locs ls X K R hL hl => lv_icmp_ge X.1 X.2.1 hd ht (fun q => kt q p e s m args below meth c H locs ls X K R hL hl) (fun q => kf q p e s m args below meth c H locs ls X K R hL hl)
theorem R_if_gt {x : Int32} {off : Int} {tgt : Nat} (hd : decode (m_b μ) pc = .ok (.ifCond .gt off, 3)) (ht : (pc : Int) + off = (tgt : Int)) (kt : 0 < x → RW l w μ h n k z tgt lv st Q) (kf : ¬ 0 < x → RW l w μ h n k z (pc + 3) lv st Q) : RW l w μ h n k z pc lv (.int x :: st) Q :=
  fun p e s m args below meth c H locs ls X K R hL hl => lv_if_gt X.1 X.2.1 hd ht (fun q => kt q p e s m args below meth c H locs ls X K R hL hl) (fun q => kf q p e s m args below meth c H locs ls X K R hL hl)
theorem R_icmp_gt {x y : Int32} {off : Int} {tgt : Nat} (hd : decode (m_b μ) pc = .ok (.if_icmp .gt off, 3)) (ht : (pc : Int) + off = (tgt : Int)) (kt : y < x → RW l w μ h n k z tgt lv st Q) (kf : ¬ y < x → RW l w μ h n k z (pc + 3) lv st Q) : RW l w μ h n k z pc lv (.int y :: .int x :: st) Q :=
  fun p e s m args below meth c H locs ls X K R hL hl => lv_icmp_gt X.1 X.2.1 hd ht (fun q => kt q p e s m args below meth c H locs ls X K R hL hl) (fun q => kf q p e s m args below meth c H locs ls X K R hL hl)
theorem R_if_le {x : Int32} {off : Int} {tgt : Nat} (hd : decode (m_b μ) pc = .ok (.ifCond .le off, 3)) (ht : (pc : Int) + off = (tgt : Int)) (kt : x ≤ 0 → RW l w μ h n k z tgt lv st Q) (kf : ¬ x ≤ 0 → RW l w μ h n k z (pc + 3) lv st Q) : RW l w μ h n k z pc lv (.int x :: st) Q :=
  fun p e s m args below meth c H locs ls X K R hL hl => lv_if_le X.1 X.2.1 hd ht (fun q => kt q p e s m args below meth c H locs ls X K R hL hl) (fun q => kf q p e s m args below meth c H locs ls X K R hL hl)
theorem R_icmp_le {x y : Int32} {off : Int} {tgt : Nat} (hd : decode (m_b μ) pc = .ok (.if_icmp .le off, 3)) (ht : (pc : Int) + off = (tgt : Int)) (kt : x ≤ y → RW l w μ h n k z tgt lv st Q) (kf : ¬ x ≤ y → RW l w μ h n k z (pc + 3) lv st Q) : RW l w μ h n k z pc lv (.int y :: .int x :: st) Q :=
  fun p e s m args below meth c H locs ls X K R hL hl => lv_icmp_le X.1 X.2.1 hd ht (fun q => kt q p e s m args below meth c H locs ls X K R hL hl) (fun q => kf q p e s m args below meth c H locs ls X K R hL hl)
theorem R_goto {off : Int} {tgt : Nat} (hd : decode (m_b μ) pc = .ok (.goto off, 3)) (ht : (pc : Int) + off = (tgt : Int)) (kk : RW l w μ h n k z tgt lv st Q) : RW l w μ h n k z pc lv st Q :=
  fun p e s m args below meth c H locs ls X K R hL hl => lv_goto X.1 X.2.1 hd ht (kk p e s m args below meth c H locs ls X K R hL hl)
theorem R_ifnonnull {x : Nat} {off : Int} {tgt : Nat} (hd : decode (m_b μ) pc = .ok (.ifnonnull off, 3)) (ht : (pc : Int) + off = (tgt : Int)) (kk : RW l w μ h n k z tgt lv st Q) : RW l w μ h n k z pc lv (.ref x :: st) Q :=
  fun p e s m args below meth c H locs ls X K R hL hl => lv_ifnonnull X.1 X.2.1 hd ht (kk p e s m args below meth c H locs ls X K R hL hl)
theorem R_ifnull {x : Nat} {off : Int} (hd : decode (m_b μ) pc = .ok (.ifnull off, 3)) (kk : RW l w μ h n k z (pc + 3) lv st Q) : RW l w μ h n k z pc lv (.ref x :: st) Q :=
  fun p e s m args below meth c H locs ls X K R hL hl => lv_ifnull X.1 X.2.1 hd (kk p e s m args below meth c H locs ls X K R hL hl)
theorem R_ifnullN {off : Int} {tgt : Nat} (hd : decode (m_b μ) pc = .ok (.ifnull off, 3)) (ht : (pc : Int) + off = (tgt : Int)) (kk : RW l w μ h n k z tgt lv st Q) : RW l w μ h n k z pc lv (.null :: st) Q :=
  fun p e s m args below meth c H locs ls X K R hL hl => lv_ifnullN X.1 X.2.1 hd ht (kk p e s m args below meth c H locs ls X K R hL hl)
theorem R_ifnonnullN {off : Int} (hd : decode (m_b μ) pc = .ok (.ifnonnull off, 3)) (kk : RW l w μ h n k z (pc + 3) lv st Q) : RW l w μ h n k z pc lv (.null :: st) Q :=
  fun p e s m args below meth c H locs ls X K R hL hl => lv_ifnonnullN X.1 X.2.1 hd (kk p e s m args below meth c H locs ls X K R hL hl)
theorem R_tableIn {dflt lo hi : Int} {offs : Array Int} {len : Nat} {x : Int32} {off : Int} {tgt : Nat} (hd : decode (m_b μ) pc = .ok (.tableswitch dflt lo hi offs, len)) (h1 : ¬ x.toInt < lo) (h2 : ¬ hi < x.toInt) (ho : offs[(x.toInt - lo).toNat]? = some off) (ht : (pc : Int) + off = (tgt : Int)) (kk : RW l w μ h n k z tgt lv st Q) : RW l w μ h n k z pc lv (.int x :: st) Q :=
  fun p e s m args below meth c H locs ls X K R hL hl => lv_tableIn X.1 X.2.1 hd h1 h2 ho ht (kk p e s m args below meth c H locs ls X K R hL hl)
theorem R_tableOut {dflt lo hi : Int} {offs : Array Int} {len : Nat} {x : Int32} {tgt : Nat} (hd : decode (m_b μ) pc = .ok (.tableswitch dflt lo hi offs, len)) (h1 : x.toInt < lo ∨ hi < x.toInt) (ht : (pc : Int) + dflt = (tgt : Int)) (kk : RW l w μ h n k z tgt lv st Q) : RW l w μ h n k z pc lv (.int x :: st) Q :=
  fun p e s m args below meth c H locs ls X K R hL hl => lv_tableOut X.1 X.2.1 hd h1 ht (kk p e s m args below meth c H locs ls X K R hL hl)
theorem R_ireturn {v : Int32} (hd : decode (m_b μ) pc = .ok (.ireturn, 1)) (hr : m_ret μ = some .int) (hk : k ≤ m_mc μ) (hz : z ≤ m_ms μ) (hq : Q h n (some (.int v))) : RW l w μ h n k z pc lv ([.int v]) Q :=
  fun p e s m args below meth c H locs ls X K R hL hl => W.widen hk hz (W.iret X.1 X.2.1 (X.2.2.1.trans hr) (fun t ht hW => ⟨h, n, some (.int v), rfl, hq, by rw [ht]; exact R.moved hW.alike⟩) hL hd X.2.2.2.2.2.2.1)
theorem R_zreturn {v : Int32} {ty : FieldType} (hd : decode (m_b μ) pc = .ok (.ireturn, 1)) (hr : m_ret μ = some ty) (hy : narrow ty (.int v) = .int v) (hk : k ≤ m_mc μ) (hz : z ≤ m_ms μ) (hq : Q h n (some (.int v))) : RW l w μ h n k z pc lv ([.int v]) Q :=
  fun p e s m args below meth c H locs ls X K R hL hl => W.widen hk hz (W.zret X.1 X.2.1 (X.2.2.1.trans hr) hy (fun t ht hW => ⟨h, n, some (.int v), rfl, hq, by rw [ht]; exact R.moved hW.alike⟩) hL hd X.2.2.2.2.2.2.1)
theorem R_lreturn {v : Int64} (hd : decode (m_b μ) pc = .ok (.lreturn, 1)) (hr : m_ret μ = some .long) (hk : k ≤ m_mc μ) (hz : z ≤ m_ms μ) (hq : Q h n (some (.long v))) : RW l w μ h n k z pc lv ([.long v]) Q :=
  fun p e s m args below meth c H locs ls X K R hL hl => W.widen hk hz (W.lret X.1 X.2.1 (X.2.2.1.trans hr) (fun t ht hW => ⟨h, n, some (.long v), rfl, hq, by rw [ht]; exact R.moved hW.alike⟩) hL hd X.2.2.2.2.2.2.1)
theorem R_vreturn (hd : decode (m_b μ) pc = .ok (.return_, 1)) (hr : m_ret μ = none) (hk : k ≤ m_mc μ) (hz : z ≤ m_ms μ) (hq : Q h n (none)) : RW l w μ h n k z pc lv ([]) Q :=
  fun p e s m args below meth c H locs ls X K R hL hl => W.widen hk hz (W.vret X.1 X.2.1 (X.2.2.1.trans hr) (fun t ht hW => ⟨h, n, none, rfl, hq, by rw [ht]; exact R.moved hW.alike⟩) hL hd X.2.2.2.2.2.2.1)
theorem R_areturn {v : Nat} {C : String} (hd : decode (m_b μ) pc = .ok (.areturn, 1)) (hr : m_ret μ = some (.object C)) (hk : k ≤ m_mc μ) (hz : z ≤ m_ms μ) (hq : Q h n (some (.ref v))) : RW l w μ h n k z pc lv ([.ref v]) Q :=
  fun p e s m args below meth c H locs ls X K R hL hl => W.widen hk hz (W.aret X.1 X.2.1 (X.2.2.1.trans hr) (Or.inl ⟨C, rfl⟩) (Or.inr ⟨_, rfl⟩) (fun t ht hW => ⟨h, n, some (.ref v), rfl, hq, by rw [ht]; exact R.moved hW.alike⟩) hL hd X.2.2.2.2.2.2.1)
theorem R_areturnN {C : String} (hd : decode (m_b μ) pc = .ok (.areturn, 1)) (hr : m_ret μ = some (.object C)) (hk : k ≤ m_mc μ) (hz : z ≤ m_ms μ) (hq : Q h n (some .null)) : RW l w μ h n k z pc lv ([.null]) Q :=
  fun p e s m args below meth c H locs ls X K R hL hl => W.widen hk hz (W.aret X.1 X.2.1 (X.2.2.1.trans hr) (Or.inl ⟨C, rfl⟩) (Or.inl rfl) (fun t ht hW => ⟨h, n, some .null, rfl, hq, by rw [ht]; exact R.moved hW.alike⟩) hL hd X.2.2.2.2.2.2.1)
end RROW
