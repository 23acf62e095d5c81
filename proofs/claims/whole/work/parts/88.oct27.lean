def sbT : List (BitVec 8) := [99, 124, 119, 123, 242, 107, 111, 197, 48, 1, 103, 43, 254, 215, 171, 118, 202, 130, 201, 125, 250, 89, 71, 240, 173, 212, 162, 175, 156, 164, 114, 192, 183, 253, 147, 38, 54, 63, 247, 204, 52, 165, 229, 241, 113, 216, 49, 21, 4, 199, 35, 195, 24, 150, 5, 154, 7, 18, 128, 226, 235, 39, 178, 117, 9, 131, 44, 26, 27, 110, 90, 160, 82, 59, 214, 179, 41, 227, 47, 132, 83, 209, 0, 237, 32, 252, 177, 91, 106, 203, 190, 57, 74, 76, 88, 207, 208, 239, 170, 251, 67, 77, 51, 133, 69, 249, 2, 127, 80, 60, 159, 168, 81, 163, 64, 143, 146, 157, 56, 245, 188, 182, 218, 33, 16, 255, 243, 210, 205, 12, 19, 236, 95, 151, 68, 23, 196, 167, 126, 61, 100, 93, 25, 115, 96, 129, 79, 220, 34, 42, 144, 136, 70, 238, 184, 20, 222, 94, 11, 219, 224, 50, 58, 10, 73, 6, 36, 92, 194, 211, 172, 98, 145, 149, 228, 121, 231, 200, 55, 109, 141, 213, 78, 169, 108, 86, 244, 234, 101, 122, 174, 8, 186, 120, 37, 46, 28, 166, 180, 198, 232, 221, 116, 31, 75, 189, 139, 138, 112, 62, 181, 102, 72, 3, 246, 14, 97, 53, 87, 185, 134, 193, 29, 158, 225, 248, 152, 17, 105, 217, 142, 148, 155, 30, 135, 233, 206, 85, 40, 223, 140, 161, 137, 13, 191, 230, 66, 104, 65, 153, 45, 15, 176, 84, 187, 22]
def inT : List (BitVec 8) := [82, 9, 106, 213, 48, 54, 165, 56, 191, 64, 163, 158, 129, 243, 215, 251, 124, 227, 57, 130, 155, 47, 255, 135, 52, 142, 67, 68, 196, 222, 233, 203, 84, 123, 148, 50, 166, 194, 35, 61, 238, 76, 149, 11, 66, 250, 195, 78, 8, 46, 161, 102, 40, 217, 36, 178, 118, 91, 162, 73, 109, 139, 209, 37, 114, 248, 246, 100, 134, 104, 152, 22, 212, 164, 92, 204, 93, 101, 182, 146, 108, 112, 72, 80, 253, 237, 185, 218, 94, 21, 70, 87, 167, 141, 157, 132, 144, 216, 171, 0, 140, 188, 211, 10, 247, 228, 88, 5, 184, 179, 69, 6, 208, 44, 30, 143, 202, 63, 15, 2, 193, 175, 189, 3, 1, 19, 138, 107, 58, 145, 17, 65, 79, 103, 220, 234, 151, 242, 207, 206, 240, 180, 230, 115, 150, 172, 116, 34, 231, 173, 53, 133, 226, 249, 55, 232, 28, 117, 223, 110, 71, 241, 26, 113, 29, 41, 197, 137, 111, 183, 98, 14, 170, 24, 190, 27, 252, 86, 62, 75, 198, 210, 121, 32, 154, 219, 192, 254, 120, 205, 90, 244, 31, 221, 168, 51, 136, 7, 199, 49, 177, 18, 16, 89, 39, 128, 236, 95, 96, 81, 127, 169, 25, 181, 74, 13, 45, 229, 122, 159, 147, 201, 156, 239, 160, 224, 59, 77, 174, 42, 245, 176, 200, 235, 187, 60, 131, 83, 153, 97, 23, 43, 4, 126, 186, 119, 214, 38, 225, 105, 20, 99, 85, 33, 12, 125]
def Bx (v : BitVec 8) : BitVec 8 := og sbT v.toNat
def Cx (v : BitVec 8) : BitVec 8 := og inT v.toNat
theorem BCx : ∀ v : BitVec 8, Bx (Cx v) = v ∧ Cx (Bx v) = v := by decide +kernel
def cN (b : Int32) : Nat → Int32
  | 0 => b
  | k + 1 => tmP (cN b k) (cN b k) 8
def pN (b : Int32) : Nat → Int32
  | 0 => 1
  | k + 1 => tmP (pN b k) (cN b (k + 1)) 8
def vN (p : Int32) : Nat → Int32
  | 0 => 0
  | k + 1 => vN p k ||| (((((((p >>> (nI k &&& 31)) ^^^ (p >>> (nI ((k + 4) % 8) &&& 31))) ^^^ (p >>> (nI ((k + 5) % 8) &&& 31))) ^^^ (p >>> (nI ((k + 6) % 8) &&& 31))) ^^^ (p >>> (nI ((k + 7) % 8) &&& 31))) ^^^ ((99 : Int32) >>> (nI k &&& 31))) &&& 1) <<< (nI k &&& 31)
theorem vN_T : ∀ b, b < 256 → vN (pN (nI b) 7) 8 = oc (og sbT b) := by decide +kernel
theorem R_newI2 {l : Launch} {w : am_W} {μ : am_M} {h : am_H} {n k z pc : Nat} {lv : List (Nat × Value)} {st : List Value} {Q : am_H → Nat → Option Value → Prop} {N : Nat} (hd : decode (m_b μ) pc = .ok (.newarray .int, 2)) (hb : N ≤ 4000) (hk : k + 1 ≤ m_mc μ) (hz : z + N ≤ m_ms μ) (kk : ∀ h', h' (n + 1) = .inl (N, fun _ => 0) → (∀ x, x ≠ n + 1 → h' x = h x) → RW l w μ h' (n + 1) (k + 1) (z + N) (pc + 2) lv (.ref (n + 1) :: st) Q) : RW l w μ h n k z pc lv (.int (nI N) :: st) Q :=
  R_newI hd aC_int (nI_pos (by omega)) (nI_clamp (by omega)) (by omega) hk hz (kk _ (am_us _ _ _) (fun _ hx => am_un hx))
theorem Ph_0 (p : Nat) : uf (uf (Ph (fun _ _ => 0) (fun _ => 0)) 69 (fun _ => 0)) 70 (fun _ => 0) p = fun _ => 0 := by
  unfold uf Ph
  by_cases h1 : p = 70
  · rw [if_pos h1]
  · rw [if_neg h1]
    by_cases h2 : p = 69
    · rw [if_pos h2]
    · rw [if_neg h2]
      by_cases h3 : p = 63
      · rw [if_pos h3]
      · rw [if_neg h3]
        funext j
        exact oc_0
set_option maxHeartbeats 1000000 in
set_option maxRecDepth 100000 in
theorem qX12_init_a {l : Launch} {w : am_W} {h : am_H} (b : Nat) {Q : am_H → Nat → Option Value → Prop} (kk : RW l w mX12_init h 90 29 6590 291 [(4, .int (nI 7)), (3, .int (pN (nI b) 7)), (2, .int (cN (nI b) 7)), (1, .int (nI b)), (0, .ref 61)] [] Q) : ∀ (dd k : Nat), k + dd = 7 → RW l w mX12_init h 90 29 6590 266 [(4, .int (nI k)), (3, .int (pN (nI b) k)), (2, .int (cN (nI b) k)), (1, .int (nI b)), (0, .ref 61)] [] Q := by
  intro dd
  induction dd with
  | zero =>
    intro k hd
    refine R_iload (pc := 266) 0 dX12_init_266 rfl ?_
    refine R_bipush (pc := 268) (v := 7) dX12_init_268 (by decide) ?_
    refine R_icmp_ge (pc := 270) (tgt := 291) dX12_init_270 (by decide) (fun c_1 => ?_) (fun c_1 => absurd (nI_le (a := 7) (b := k) (by omega) (by omega)) c_1)
    obtain rfl : k = 7 := by omega
    exact kk
  | succ dd ih =>
    intro k hd
    refine R_iload (pc := 266) 0 dX12_init_266 rfl ?_
    refine R_bipush (pc := 268) (v := 7) dX12_init_268 (by decide) ?_
    refine R_icmp_ge (pc := 270) (tgt := 291) dX12_init_270 (by decide) (fun c_1 => absurd c_1 (nI_ge (a := k) (b := 7) (by omega) (by omega))) (fun c_1 => ?_)
    refine R_iload_n (pc := 273) 2 dX12_init_273 rfl rfl ?_
    refine R_iload_n (pc := 274) 2 dX12_init_274 rfl rfl ?_
    refine R_callSp (pc := 275) (μ' := mX12_times) (As := [.int (cN (nI b) k), .int (cN (nI b) k)]) (st := []) dX12_init_275 zX12_times lX12_101 ⟨by decide, by decide⟩ rfl rfl ⟨by decide, by decide⟩ rfl (Nat.le_of_ble_eq_true rfl) (qX12_times l w _ _ _ _) ?_
    refine R_istore_n (pc := 278) (lv' := [(2, .int (tmP (cN (nI b) k) (cN (nI b) k) 8)), (4, .int (nI k)), (3, .int (pN (nI b) k)), (1, .int (nI b)), (0, .ref 61)]) dX12_init_278 rfl (by decide) rfl ?_
    refine R_iload_n (pc := 279) 2 dX12_init_279 rfl rfl ?_
    refine R_iload_n (pc := 280) 0 dX12_init_280 rfl rfl ?_
    refine R_callSp (pc := 281) (μ' := mX12_times) (As := [.int (pN (nI b) k), .int (tmP (cN (nI b) k) (cN (nI b) k) 8)]) (st := []) dX12_init_281 zX12_times lX12_101 ⟨by decide, by decide⟩ rfl rfl ⟨by decide, by decide⟩ rfl (Nat.le_of_ble_eq_true rfl) (qX12_times l w _ _ _ _) ?_
    refine R_istore_n (pc := 284) (lv' := [(3, .int (tmP (pN (nI b) k) (tmP (cN (nI b) k) (cN (nI b) k) 8) 8)), (2, .int (tmP (cN (nI b) k) (cN (nI b) k) 8)), (4, .int (nI k)), (1, .int (nI b)), (0, .ref 61)]) dX12_init_284 rfl (by decide) rfl ?_
    refine R_iinc (pc := 285) (j := 2) (v := nI (k + 1)) (lv' := [(4, .int (nI (k + 1))), (3, .int (tmP (pN (nI b) k) (tmP (cN (nI b) k) (cN (nI b) k) 8) 8)), (2, .int (tmP (cN (nI b) k) (cN (nI b) k) 8)), (1, .int (nI b)), (0, .ref 61)]) dX12_init_285 rfl (nI_add _ _) (by decide) rfl ?_
    refine R_goto (pc := 288) (tgt := 266) dX12_init_288 (by decide) ?_
    refine R_sub [0, 1, 2, 3, 4] rfl ?_
    exact ih (k + 1) (by omega)
set_option maxHeartbeats 1000000 in
set_option maxRecDepth 100000 in
theorem qX12_init_v {l : Launch} {w : am_W} {h : am_H} (b : Nat) (p c : Int32) {Q : am_H → Nat → Option Value → Prop} (kk : RW l w mX12_init h 90 29 6590 376 [(5, .int (nI 8)), (4, .int (vN p 8)), (3, .int p), (2, .int c), (1, .int (nI b)), (0, .ref 61)] [] Q) : ∀ (dd k : Nat), k + dd = 8 → RW l w mX12_init h 90 29 6590 297 [(5, .int (nI k)), (4, .int (vN p k)), (3, .int p), (2, .int c), (1, .int (nI b)), (0, .ref 61)] [] Q := by
  intro dd
  induction dd with
  | zero =>
    intro k hd
    refine R_iload (pc := 297) 0 dX12_init_297 rfl ?_
    refine R_bipush (pc := 299) (v := 8) dX12_init_299 (by decide) ?_
    refine R_icmp_ge (pc := 301) (tgt := 376) dX12_init_301 (by decide) (fun c_1 => ?_) (fun c_1 => absurd (nI_le (a := 8) (b := k) (by omega) (by omega)) c_1)
    obtain rfl : k = 8 := by omega
    exact kk
  | succ dd ih =>
    intro k hd
    refine R_iload (pc := 297) 0 dX12_init_297 rfl ?_
    refine R_bipush (pc := 299) (v := 8) dX12_init_299 (by decide) ?_
    refine R_icmp_ge (pc := 301) (tgt := 376) dX12_init_301 (by decide) (fun c_1 => absurd c_1 (nI_ge (a := k) (b := 8) (by omega) (by omega))) (fun c_1 => ?_)
    refine R_iload_n (pc := 304) 2 dX12_init_304 rfl rfl ?_
    refine R_iload (pc := 305) 0 dX12_init_305 rfl ?_
    refine R_ishr (pc := 307) dX12_init_307 ?_
    refine R_iload_n (pc := 308) 2 dX12_init_308 rfl rfl ?_
    refine R_iload (pc := 309) 0 dX12_init_309 rfl ?_
    refine R_iconst (pc := 311) (v := 4) dX12_init_311 (by decide) ?_
    refine R_iadd (pc := 312) dX12_init_312 ?_
    refine R_eqi (y := nI (k + 4)) (nI_add k 4) ?_
    refine R_bipush (pc := 313) (v := 8) dX12_init_313 (by decide) ?_
    refine R_irem (pc := 315) dX12_init_315 (by decide) ?_
    refine R_eqi (y := nI ((k + 4) % 8)) (nI_rem (a := k + 4) (b := 8) (by omega) (by omega)) ?_
    refine R_ishr (pc := 316) dX12_init_316 ?_
    refine R_ixor (pc := 317) dX12_init_317 ?_
    refine R_iload_n (pc := 318) 2 dX12_init_318 rfl rfl ?_
    refine R_iload (pc := 319) 0 dX12_init_319 rfl ?_
    refine R_iconst (pc := 321) (v := 5) dX12_init_321 (by decide) ?_
    refine R_iadd (pc := 322) dX12_init_322 ?_
    refine R_eqi (y := nI (k + 5)) (nI_add k 5) ?_
    refine R_bipush (pc := 323) (v := 8) dX12_init_323 (by decide) ?_
    refine R_irem (pc := 325) dX12_init_325 (by decide) ?_
    refine R_eqi (y := nI ((k + 5) % 8)) (nI_rem (a := k + 5) (b := 8) (by omega) (by omega)) ?_
    refine R_ishr (pc := 326) dX12_init_326 ?_
    refine R_ixor (pc := 327) dX12_init_327 ?_
    refine R_iload_n (pc := 328) 2 dX12_init_328 rfl rfl ?_
    refine R_iload (pc := 329) 0 dX12_init_329 rfl ?_
    refine R_bipush (pc := 331) (v := 6) dX12_init_331 (by decide) ?_
    refine R_iadd (pc := 333) dX12_init_333 ?_
    refine R_eqi (y := nI (k + 6)) (nI_add k 6) ?_
    refine R_bipush (pc := 334) (v := 8) dX12_init_334 (by decide) ?_
    refine R_irem (pc := 336) dX12_init_336 (by decide) ?_
    refine R_eqi (y := nI ((k + 6) % 8)) (nI_rem (a := k + 6) (b := 8) (by omega) (by omega)) ?_
    refine R_ishr (pc := 337) dX12_init_337 ?_
    refine R_ixor (pc := 338) dX12_init_338 ?_
    refine R_iload_n (pc := 339) 2 dX12_init_339 rfl rfl ?_
    refine R_iload (pc := 340) 0 dX12_init_340 rfl ?_
    refine R_bipush (pc := 342) (v := 7) dX12_init_342 (by decide) ?_
    refine R_iadd (pc := 344) dX12_init_344 ?_
    refine R_eqi (y := nI (k + 7)) (nI_add k 7) ?_
    refine R_bipush (pc := 345) (v := 8) dX12_init_345 (by decide) ?_
    refine R_irem (pc := 347) dX12_init_347 (by decide) ?_
    refine R_eqi (y := nI ((k + 7) % 8)) (nI_rem (a := k + 7) (b := 8) (by omega) (by omega)) ?_
    refine R_ishr (pc := 348) dX12_init_348 ?_
    refine R_ixor (pc := 349) dX12_init_349 ?_
    refine R_bipush (pc := 350) (v := 99) dX12_init_350 (by decide) ?_
    refine R_iload (pc := 352) 0 dX12_init_352 rfl ?_
    refine R_ishr (pc := 354) dX12_init_354 ?_
    refine R_ixor (pc := 355) dX12_init_355 ?_
    refine R_istore (pc := 356) (lv' := [(6, .int ((((((p >>> (nI k &&& 31)) ^^^ (p >>> (nI ((k + 4) % 8) &&& 31))) ^^^ (p >>> (nI ((k + 5) % 8) &&& 31))) ^^^ (p >>> (nI ((k + 6) % 8) &&& 31))) ^^^ (p >>> (nI ((k + 7) % 8) &&& 31))) ^^^ (99 >>> (nI k &&& 31)))), (5, .int (nI k)), (4, .int (vN p k)), (3, .int p), (2, .int c), (1, .int (nI b)), (0, .ref 61)]) dX12_init_356 (by decide) rfl ?_
    refine R_iload (pc := 358) 2 dX12_init_358 rfl ?_
    refine R_iload (pc := 360) 0 dX12_init_360 rfl ?_
    refine R_iconst (pc := 362) (v := 1) dX12_init_362 (by decide) ?_
    refine R_iand (pc := 363) dX12_init_363 ?_
    refine R_iload (pc := 364) 1 dX12_init_364 rfl ?_
    refine R_ishl (pc := 366) dX12_init_366 ?_
    refine R_ior (pc := 367) dX12_init_367 ?_
    refine R_istore (pc := 368) (lv' := [(4, .int ((vN p k) ||| ((((((((p >>> (nI k &&& 31)) ^^^ (p >>> (nI ((k + 4) % 8) &&& 31))) ^^^ (p >>> (nI ((k + 5) % 8) &&& 31))) ^^^ (p >>> (nI ((k + 6) % 8) &&& 31))) ^^^ (p >>> (nI ((k + 7) % 8) &&& 31))) ^^^ (99 >>> (nI k &&& 31))) &&& 1) <<< (nI k &&& 31)))), (6, .int ((((((p >>> (nI k &&& 31)) ^^^ (p >>> (nI ((k + 4) % 8) &&& 31))) ^^^ (p >>> (nI ((k + 5) % 8) &&& 31))) ^^^ (p >>> (nI ((k + 6) % 8) &&& 31))) ^^^ (p >>> (nI ((k + 7) % 8) &&& 31))) ^^^ (99 >>> (nI k &&& 31)))), (5, .int (nI k)), (3, .int p), (2, .int c), (1, .int (nI b)), (0, .ref 61)]) dX12_init_368 (by decide) rfl ?_
    refine R_iinc (pc := 370) (j := 2) (v := nI (k + 1)) (lv' := [(5, .int (nI (k + 1))), (4, .int ((vN p k) ||| ((((((((p >>> (nI k &&& 31)) ^^^ (p >>> (nI ((k + 4) % 8) &&& 31))) ^^^ (p >>> (nI ((k + 5) % 8) &&& 31))) ^^^ (p >>> (nI ((k + 6) % 8) &&& 31))) ^^^ (p >>> (nI ((k + 7) % 8) &&& 31))) ^^^ (99 >>> (nI k &&& 31))) &&& 1) <<< (nI k &&& 31)))), (6, .int ((((((p >>> (nI k &&& 31)) ^^^ (p >>> (nI ((k + 4) % 8) &&& 31))) ^^^ (p >>> (nI ((k + 5) % 8) &&& 31))) ^^^ (p >>> (nI ((k + 6) % 8) &&& 31))) ^^^ (p >>> (nI ((k + 7) % 8) &&& 31))) ^^^ (99 >>> (nI k &&& 31)))), (3, .int p), (2, .int c), (1, .int (nI b)), (0, .ref 61)]) dX12_init_370 rfl (nI_add _ _) (by decide) rfl ?_
    refine R_goto (pc := 373) (tgt := 297) dX12_init_373 (by decide) ?_
    refine R_sub [0, 1, 3, 4, 5, 6] rfl ?_
    exact ih (k + 1) (by omega)
def bxJ (ψ2 : Nat → oA) (k : Nat) : Prop := (∀ b, b < k → ψ2 65 b = og sbT b) ∧ ∀ b, b < k → ψ2 66 (og sbT b).toNat = t8 (nI b)
theorem sbT_inv : ∀ b, b < 256 → (og inT (og sbT b).toNat).toNat = b := by decide +kernel
theorem sbT_inj {a b : Nat} (ha : a < 256) (hb : b < 256) (h : og sbT a = og sbT b) : a = b := by
  rw [← sbT_inv a ha, h, sbT_inv b hb]
set_option maxHeartbeats 1000000 in
set_option maxRecDepth 100000 in
theorem qX12_init_loop {l : Launch} {w : am_W} {h : am_H} {ψ : Nat → oA} {z : fA} {i : mI}  {Q : am_H → Nat → Option Value → Prop} (kk : ∀ h2 ψ2, MO h2 ψ2 z i → FR [65, 66] ψ ψ2 → bxJ ψ2 256 → FM h h2 → RW l w mX12_init h2 90 29 6590 398 [(1, .int (nI 256)), (0, .ref 61)] [] Q) : ∀ (dd k : Nat), k + dd = 256 → ∀ h2 ψ2, MO h2 ψ2 z i → FR [65, 66] ψ ψ2 → bxJ ψ2 k → FM h h2 → RW l w mX12_init h2 90 29 6590 252 [(1, .int (nI k)), (0, .ref 61)] [] Q := by
  intro dd
  induction dd with
  | zero =>
    intro k hd h2 ψ2 S2 hK hJ hF
    refine R_iload_n (pc := 252) 0 dX12_init_252 rfl rfl ?_
    refine R_sipush (pc := 253) (v := 256) dX12_init_253 (by decide) ?_
    refine R_icmp_ge (pc := 256) (tgt := 398) dX12_init_256 (by decide) (fun c_1 => ?_) (fun c_1 => absurd (nI_le (a := 256) (b := k) (by omega) (by omega)) c_1)
    obtain rfl : k = 256 := by omega
    exact kk h2 ψ2 S2 hK hJ hF
  | succ dd ih =>
    intro k hd h2 ψ2 S2 hK hJ hF
    refine R_iload_n (pc := 252) 0 dX12_init_252 rfl rfl ?_
    refine R_sipush (pc := 253) (v := 256) dX12_init_253 (by decide) ?_
    refine R_icmp_ge (pc := 256) (tgt := 398) dX12_init_256 (by decide) (fun c_1 => absurd c_1 (nI_ge (a := k) (b := 256) (by omega) (by omega))) (fun c_1 => ?_)
    refine R_iload_n (pc := 259) 0 dX12_init_259 rfl rfl ?_
    refine R_istore_n (pc := 260) (lv' := [(2, .int (nI k)), (1, .int (nI k)), (0, .ref 61)]) dX12_init_260 rfl (by decide) rfl ?_
    refine R_iconst (pc := 261) (v := 1) dX12_init_261 (by decide) ?_
    refine R_istore_n (pc := 262) (lv' := [(3, .int 1), (2, .int (nI k)), (1, .int (nI k)), (0, .ref 61)]) dX12_init_262 rfl (by decide) rfl ?_
    refine R_iconst (pc := 263) (v := 0) dX12_init_263 (by decide) ?_
    refine R_istore (pc := 264) (lv' := [(4, .int 0), (3, .int 1), (2, .int (nI k)), (1, .int (nI k)), (0, .ref 61)]) dX12_init_264 (by decide) rfl ?_
    refine R_sub [0, 1, 2, 3, 4] rfl ?_
    refine qX12_init_a k ?_ 7 0 (by omega)
    refine R_iconst (pc := 291) (v := 0) dX12_init_291 (by decide) ?_
    refine R_istore (pc := 292) (lv' := [(4, .int 0), (3, .int (pN (nI k) 7)), (2, .int (cN (nI k) 7)), (1, .int (nI k)), (0, .ref 61)]) dX12_init_292 (by decide) rfl ?_
    refine R_iconst (pc := 294) (v := 0) dX12_init_294 (by decide) ?_
    refine R_istore (pc := 295) (lv' := [(5, .int 0), (4, .int 0), (3, .int (pN (nI k) 7)), (2, .int (cN (nI k) 7)), (1, .int (nI k)), (0, .ref 61)]) dX12_init_295 (by decide) rfl ?_
    refine R_sub [0, 1, 2, 3, 4, 5] rfl ?_
    refine qX12_init_v k (pN (nI k) 7) (cN (nI k) 7) ?_ 8 0 (by omega)
    refine R_aload_n (pc := 376) 5 dX12_init_376 rfl rfl ?_
    refine R_get (pc := 377) dX12_init_377 fX12_23 S2.obj (by omega) rfl ?_
    refine R_iload_n (pc := 380) 4 dX12_init_380 rfl rfl ?_
    refine R_iload (pc := 381) 1 dX12_init_381 rfl ?_
    refine R_eqi (y := oc (og sbT k)) (vN_T k (by omega)) ?_
    refine R_iast' (pc := 383) (j := k) dX12_init_383 (S2.arr (p := 65) rfl) (by omega) ⟨rfl, by show k < 256; omega, by decide⟩ (fun h_2 f_3 g_4 => ?_)
    have S_6 : MO h_2 (uo ψ2 65 (updB (ψ2 65) k (og sbT k))) z i := MO.setA (p := 65) S2 rfl f_3 g_4 (fun j_ => congrFun (upd_oc _ _ _) j_)
    have F_5 := fmA (p := 65) (okA_c (by decide)).1 g_4
    refine R_aload_n (pc := 384) 5 dX12_init_384 rfl rfl ?_
    refine R_get (pc := 385) dX12_init_385 fX12_26 S_6.obj (by omega) rfl ?_
    refine R_iload (pc := 388) 1 dX12_init_388 rfl ?_
    refine R_eqi (y := oc (og sbT k)) (vN_T k (by omega)) ?_
    refine R_iload_n (pc := 390) 4 dX12_init_390 rfl rfl ?_
    refine R_eqi (y := oc (t8 (nI k))) (ocN (by omega)) ?_
    refine R_iast' (pc := 391) (j := (og sbT k).toNat) dX12_init_391 (S_6.arr (p := 66) rfl) (by omega) ⟨oc_nI _, (og sbT k).isLt, by decide⟩ (fun h_7 f_8 g_9 => ?_)
    have S_11 : MO h_7 (uo (uo ψ2 65 (updB (ψ2 65) k (og sbT k))) 66 (updB (ψ2 66) ((og sbT k).toNat) (t8 (nI k)))) z i := MO.setA (p := 66) S_6 rfl f_8 g_9 (fun j_ => congrFun (upd_oc _ _ _) j_)
    have F_10 := fmA (p := 66) (okA_c (by decide)).1 g_9
    refine R_iinc (pc := 392) (j := 4) (v := nI (k + 1)) (lv' := [(1, .int (nI (k + 1))), (5, .int (nI 8)), (4, .int (vN (pN (nI k) 7) 8)), (3, .int (pN (nI k) 7)), (2, .int (cN (nI k) 7)), (0, .ref 61)]) dX12_init_392 rfl (nI_add _ _) (by decide) rfl ?_
    refine R_goto (pc := 395) (tgt := 252) dX12_init_395 (by decide) ?_
    refine R_sub [0, 5] rfl ?_
    have j1 : ∀ b, b < k + 1 → (updB (ψ2 65) k (og sbT k)) b = og sbT b := fun b_ hb_ => by
      by_cases q_ : b_ = k
      · rw [q_, updB_s]
      · rw [updB_n q_]; exact hJ.1 b_ (by omega)
    have j2 : ∀ b, b < k + 1 → (updB (ψ2 66) ((og sbT k).toNat) (t8 (nI k))) (og sbT b).toNat = t8 (nI b) := fun b_ hb_ => by
      by_cases q_ : b_ = k
      · rw [q_, updB_s]
      · rw [updB_n (fun e_ => q_ (sbT_inj (by omega) (by omega) (BitVec.eq_of_toNat_eq e_)))]; exact hJ.2 b_ (by omega)
    exact ih (k + 1) (by omega) h_7 _ S_11 ((hK.up (by decide)).up (by decide)) (⟨j1, j2⟩) (hF.tr (F_5.tr F_10))
set_option maxHeartbeats 1000000 in
set_option maxRecDepth 100000 in
theorem oX12_init (l : Launch) (w : am_W) (h : am_H) (h1 : h 61 = .inr (.inr (12, [.int 0, .null, .null, .int 0, .null, .int 0, .null, .null, .null, .null, .null, .null, .null, .int 0, .null, .int 0, .null, .int 0, .null, .int 0, .null, .null, .null, .null, .null, .null, .null, .null, .null, .null, .int 0, .null, .null, .null, .null, .null, .null]))) : RC l w mX12_init h 61 [.ref 61] (fun h' n' q => n' = 90 ∧ q = none ∧ ∃ ψ, MO h' ψ (fun _ => 0) (fun k => if k = 1 then 16 else 0) ∧ FR [65, 66] (fun _ _ => 0) ψ ∧ (∀ v : BitVec 8, ψ 65 v.toNat = Bx v) ∧ (∀ v : BitVec 8, ψ 66 v.toNat = Cx v) ∧ FM h h') := by
  refine RC.of [(0, .ref 61)] (by decide +kernel) rfl (Nat.le_of_ble_eq_true rfl) ?_
  refine R_aload_n (pc := 0) 0 dX12_init_0 rfl rfl ?_
  refine R_objInit (pc := 1) dX12_init_1 lX12_1 iO cO (by decide) (Nat.le_of_ble_eq_true rfl) ?_
  refine R_aload_n (pc := 4) 0 dX12_init_4 rfl rfl ?_
  refine R_sipush (pc := 5) (v := 2048) dX12_init_5 (by decide) ?_
  refine R_newI2 (pc := 8) (N := 2048) dX12_init_8 (by omega) (by decide) (by decide) (fun h_1 f_2 g_3 => ?_)
  have F_4 : h_1 62 = .inl (2048, (fun _ => 0)) := f_2
  have f_5 := ((g_3 61 (by decide)).trans h1)
  refine R_putF' (pc := 10) (T := TX12) (fs' := [.int 0, .ref 62, .null, .int 0, .null, .int 0, .null, .null, .null, .null, .null, .null, .null, .int 0, .null, .int 0, .null, .int 0, .null, .int 0, .null, .null, .null, .null, .null, .null, .null, .null, .null, .null, .int 0, .null, .null, .null, .null, .null, .null]) dX12_init_10 fX12_7 kFX12_7 rfl tX12_1 rfl rfl rfl rfl f_5 (by omega) (Nat.le_of_ble_eq_true rfl) rfl (fun h_6 f_7 g_8 => ?_)
  have F_9 : h_6 61 = .inr (.inr (12, [.int 0, .ref 62, .null, .int 0, .null, .int 0, .null, .null, .null, .null, .null, .null, .null, .int 0, .null, .int 0, .null, .int 0, .null, .int 0, .null, .null, .null, .null, .null, .null, .null, .null, .null, .null, .int 0, .null, .null, .null, .null, .null, .null])) := f_7
  refine R_aload_n (pc := 13) 0 dX12_init_13 rfl rfl ?_
  refine R_iconst (pc := 14) (v := 4) dX12_init_14 (by decide) ?_
  refine R_newI2 (pc := 15) (N := 4) dX12_init_15 (by omega) (by decide) (by decide) (fun h_10 f_11 g_12 => ?_)
  have F_13 : h_10 63 = .inl (4, (fun _ => 0)) := f_11
  have f_14 := ((g_12 61 (by decide)).trans F_9)
  refine R_putF' (pc := 17) (T := TX12) (fs' := [.int 0, .ref 62, .ref 63, .int 0, .null, .int 0, .null, .null, .null, .null, .null, .null, .null, .int 0, .null, .int 0, .null, .int 0, .null, .int 0, .null, .null, .null, .null, .null, .null, .null, .null, .null, .null, .int 0, .null, .null, .null, .null, .null, .null]) dX12_init_17 fX12_13 kFX12_13 rfl tX12_2 rfl rfl rfl rfl f_14 (by omega) (Nat.le_of_ble_eq_true rfl) rfl (fun h_15 f_16 g_17 => ?_)
  have F_18 : h_15 61 = .inr (.inr (12, [.int 0, .ref 62, .ref 63, .int 0, .null, .int 0, .null, .null, .null, .null, .null, .null, .null, .int 0, .null, .int 0, .null, .int 0, .null, .int 0, .null, .null, .null, .null, .null, .null, .null, .null, .null, .null, .int 0, .null, .null, .null, .null, .null, .null])) := f_16
  refine R_aload_n (pc := 20) 0 dX12_init_20 rfl rfl ?_
  refine R_bipush (pc := 21) (v := 16) dX12_init_21 (by decide) ?_
  refine R_put' (pc := 23) (fs' := [.int 0, .ref 62, .ref 63, .int 16, .null, .int 0, .null, .null, .null, .null, .null, .null, .null, .int 0, .null, .int 0, .null, .int 0, .null, .int 0, .null, .null, .null, .null, .null, .null, .null, .null, .null, .null, .int 0, .null, .null, .null, .null, .null, .null]) dX12_init_23 fX12_16 tX12_3 rfl rfl F_18 (by omega) (Nat.le_of_ble_eq_true rfl) rfl (fun h_19 f_20 g_21 => ?_)
  have F_22 : h_19 61 = .inr (.inr (12, [.int 0, .ref 62, .ref 63, .int 16, .null, .int 0, .null, .null, .null, .null, .null, .null, .null, .int 0, .null, .int 0, .null, .int 0, .null, .int 0, .null, .null, .null, .null, .null, .null, .null, .null, .null, .null, .int 0, .null, .null, .null, .null, .null, .null])) := f_20
  refine R_aload_n (pc := 26) 0 dX12_init_26 rfl rfl ?_
  refine R_sipush (pc := 27) (v := 700) dX12_init_27 (by decide) ?_
  refine R_newI2 (pc := 30) (N := 700) dX12_init_30 (by omega) (by decide) (by decide) (fun h_23 f_24 g_25 => ?_)
  have F_26 : h_23 64 = .inl (700, (fun _ => 0)) := f_24
  have f_27 := ((g_25 61 (by decide)).trans F_22)
  refine R_putF' (pc := 32) (T := TX12) (fs' := [.int 0, .ref 62, .ref 63, .int 16, .ref 64, .int 0, .null, .null, .null, .null, .null, .null, .null, .int 0, .null, .int 0, .null, .int 0, .null, .int 0, .null, .null, .null, .null, .null, .null, .null, .null, .null, .null, .int 0, .null, .null, .null, .null, .null, .null]) dX12_init_32 fX12_20 kFX12_20 rfl tX12_4 rfl rfl rfl rfl f_27 (by omega) (Nat.le_of_ble_eq_true rfl) rfl (fun h_28 f_29 g_30 => ?_)
  have F_31 : h_28 61 = .inr (.inr (12, [.int 0, .ref 62, .ref 63, .int 16, .ref 64, .int 0, .null, .null, .null, .null, .null, .null, .null, .int 0, .null, .int 0, .null, .int 0, .null, .int 0, .null, .null, .null, .null, .null, .null, .null, .null, .null, .null, .int 0, .null, .null, .null, .null, .null, .null])) := f_29
  refine R_aload_n (pc := 35) 0 dX12_init_35 rfl rfl ?_
  refine R_sipush (pc := 36) (v := 256) dX12_init_36 (by decide) ?_
  refine R_newI2 (pc := 39) (N := 256) dX12_init_39 (by omega) (by decide) (by decide) (fun h_32 f_33 g_34 => ?_)
  have F_35 : h_32 65 = .inl (256, (fun _ => 0)) := f_33
  have f_36 := ((g_34 61 (by decide)).trans F_31)
  refine R_putF' (pc := 41) (T := TX12) (fs' := [.int 0, .ref 62, .ref 63, .int 16, .ref 64, .int 0, .ref 65, .null, .null, .null, .null, .null, .null, .int 0, .null, .int 0, .null, .int 0, .null, .int 0, .null, .null, .null, .null, .null, .null, .null, .null, .null, .null, .int 0, .null, .null, .null, .null, .null, .null]) dX12_init_41 fX12_23 kFX12_23 rfl tX12_6 rfl rfl rfl rfl f_36 (by omega) (Nat.le_of_ble_eq_true rfl) rfl (fun h_37 f_38 g_39 => ?_)
  have F_40 : h_37 61 = .inr (.inr (12, [.int 0, .ref 62, .ref 63, .int 16, .ref 64, .int 0, .ref 65, .null, .null, .null, .null, .null, .null, .int 0, .null, .int 0, .null, .int 0, .null, .int 0, .null, .null, .null, .null, .null, .null, .null, .null, .null, .null, .int 0, .null, .null, .null, .null, .null, .null])) := f_38
  refine R_aload_n (pc := 44) 0 dX12_init_44 rfl rfl ?_
  refine R_sipush (pc := 45) (v := 256) dX12_init_45 (by decide) ?_
  refine R_newI2 (pc := 48) (N := 256) dX12_init_48 (by omega) (by decide) (by decide) (fun h_41 f_42 g_43 => ?_)
  have F_44 : h_41 66 = .inl (256, (fun _ => 0)) := f_42
  have f_45 := ((g_43 61 (by decide)).trans F_40)
  refine R_putF' (pc := 50) (T := TX12) (fs' := [.int 0, .ref 62, .ref 63, .int 16, .ref 64, .int 0, .ref 65, .ref 66, .null, .null, .null, .null, .null, .int 0, .null, .int 0, .null, .int 0, .null, .int 0, .null, .null, .null, .null, .null, .null, .null, .null, .null, .null, .int 0, .null, .null, .null, .null, .null, .null]) dX12_init_50 fX12_26 kFX12_26 rfl tX12_7 rfl rfl rfl rfl f_45 (by omega) (Nat.le_of_ble_eq_true rfl) rfl (fun h_46 f_47 g_48 => ?_)
  have F_49 : h_46 61 = .inr (.inr (12, [.int 0, .ref 62, .ref 63, .int 16, .ref 64, .int 0, .ref 65, .ref 66, .null, .null, .null, .null, .null, .int 0, .null, .int 0, .null, .int 0, .null, .int 0, .null, .null, .null, .null, .null, .null, .null, .null, .null, .null, .int 0, .null, .null, .null, .null, .null, .null])) := f_47
  refine R_aload_n (pc := 53) 0 dX12_init_53 rfl rfl ?_
  refine R_sipush (pc := 54) (v := 480) dX12_init_54 (by decide) ?_
  refine R_newI2 (pc := 57) (N := 480) dX12_init_57 (by omega) (by decide) (by decide) (fun h_50 f_51 g_52 => ?_)
  have F_53 : h_50 67 = .inl (480, (fun _ => 0)) := f_51
  have f_54 := ((g_52 61 (by decide)).trans F_49)
  refine R_putF' (pc := 59) (T := TX12) (fs' := [.int 0, .ref 62, .ref 63, .int 16, .ref 64, .int 0, .ref 65, .ref 66, .ref 67, .null, .null, .null, .null, .int 0, .null, .int 0, .null, .int 0, .null, .int 0, .null, .null, .null, .null, .null, .null, .null, .null, .null, .null, .int 0, .null, .null, .null, .null, .null, .null]) dX12_init_59 fX12_29 kFX12_29 rfl tX12_8 rfl rfl rfl rfl f_54 (by omega) (Nat.le_of_ble_eq_true rfl) rfl (fun h_55 f_56 g_57 => ?_)
  have F_58 : h_55 61 = .inr (.inr (12, [.int 0, .ref 62, .ref 63, .int 16, .ref 64, .int 0, .ref 65, .ref 66, .ref 67, .null, .null, .null, .null, .int 0, .null, .int 0, .null, .int 0, .null, .int 0, .null, .null, .null, .null, .null, .null, .null, .null, .null, .null, .int 0, .null, .null, .null, .null, .null, .null])) := f_56
  refine R_aload_n (pc := 62) 0 dX12_init_62 rfl rfl ?_
  refine R_iconst (pc := 63) (v := 2) dX12_init_63 (by decide) ?_
  refine R_newI2 (pc := 64) (N := 2) dX12_init_64 (by omega) (by decide) (by decide) (fun h_59 f_60 g_61 => ?_)
  have F_62 : h_59 68 = .inl (2, (fun _ => 0)) := f_60
  have f_63 := ((g_61 61 (by decide)).trans F_58)
  refine R_putF' (pc := 66) (T := TX12) (fs' := [.int 0, .ref 62, .ref 63, .int 16, .ref 64, .int 0, .ref 65, .ref 66, .ref 67, .ref 68, .null, .null, .null, .int 0, .null, .int 0, .null, .int 0, .null, .int 0, .null, .null, .null, .null, .null, .null, .null, .null, .null, .null, .int 0, .null, .null, .null, .null, .null, .null]) dX12_init_66 fX12_32 kFX12_32 rfl tX12_9 rfl rfl rfl rfl f_63 (by omega) (Nat.le_of_ble_eq_true rfl) rfl (fun h_64 f_65 g_66 => ?_)
  have F_67 : h_64 61 = .inr (.inr (12, [.int 0, .ref 62, .ref 63, .int 16, .ref 64, .int 0, .ref 65, .ref 66, .ref 67, .ref 68, .null, .null, .null, .int 0, .null, .int 0, .null, .int 0, .null, .int 0, .null, .null, .null, .null, .null, .null, .null, .null, .null, .null, .int 0, .null, .null, .null, .null, .null, .null])) := f_65
  refine R_aload_n (pc := 69) 0 dX12_init_69 rfl rfl ?_
  refine R_bipush (pc := 70) (v := 16) dX12_init_70 (by decide) ?_
  refine R_newI2 (pc := 72) (N := 16) dX12_init_72 (by omega) (by decide) (by decide) (fun h_68 f_69 g_70 => ?_)
  have F_71 : h_68 69 = .inl (16, (fun _ => 0)) := f_69
  have f_72 := ((g_70 61 (by decide)).trans F_67)
  refine R_putF' (pc := 74) (T := TX12) (fs' := [.int 0, .ref 62, .ref 63, .int 16, .ref 64, .int 0, .ref 65, .ref 66, .ref 67, .ref 68, .ref 69, .null, .null, .int 0, .null, .int 0, .null, .int 0, .null, .int 0, .null, .null, .null, .null, .null, .null, .null, .null, .null, .null, .int 0, .null, .null, .null, .null, .null, .null]) dX12_init_74 fX12_35 kFX12_35 rfl tX12_10 rfl rfl rfl rfl f_72 (by omega) (Nat.le_of_ble_eq_true rfl) rfl (fun h_73 f_74 g_75 => ?_)
  have F_76 : h_73 61 = .inr (.inr (12, [.int 0, .ref 62, .ref 63, .int 16, .ref 64, .int 0, .ref 65, .ref 66, .ref 67, .ref 68, .ref 69, .null, .null, .int 0, .null, .int 0, .null, .int 0, .null, .int 0, .null, .null, .null, .null, .null, .null, .null, .null, .null, .null, .int 0, .null, .null, .null, .null, .null, .null])) := f_74
  refine R_aload_n (pc := 77) 0 dX12_init_77 rfl rfl ?_
  refine R_bipush (pc := 78) (v := 16) dX12_init_78 (by decide) ?_
  refine R_newI2 (pc := 80) (N := 16) dX12_init_80 (by omega) (by decide) (by decide) (fun h_77 f_78 g_79 => ?_)
  have F_80 : h_77 70 = .inl (16, (fun _ => 0)) := f_78
  have f_81 := ((g_79 61 (by decide)).trans F_76)
  refine R_putF' (pc := 82) (T := TX12) (fs' := [.int 0, .ref 62, .ref 63, .int 16, .ref 64, .int 0, .ref 65, .ref 66, .ref 67, .ref 68, .ref 69, .ref 70, .null, .int 0, .null, .int 0, .null, .int 0, .null, .int 0, .null, .null, .null, .null, .null, .null, .null, .null, .null, .null, .int 0, .null, .null, .null, .null, .null, .null]) dX12_init_82 fX12_38 kFX12_38 rfl tX12_11 rfl rfl rfl rfl f_81 (by omega) (Nat.le_of_ble_eq_true rfl) rfl (fun h_82 f_83 g_84 => ?_)
  have F_85 : h_82 61 = .inr (.inr (12, [.int 0, .ref 62, .ref 63, .int 16, .ref 64, .int 0, .ref 65, .ref 66, .ref 67, .ref 68, .ref 69, .ref 70, .null, .int 0, .null, .int 0, .null, .int 0, .null, .int 0, .null, .null, .null, .null, .null, .null, .null, .null, .null, .null, .int 0, .null, .null, .null, .null, .null, .null])) := f_83
  refine R_aload_n (pc := 85) 0 dX12_init_85 rfl rfl ?_
  refine R_sipush (pc := 86) (v := 700) dX12_init_86 (by decide) ?_
  refine R_newI2 (pc := 89) (N := 700) dX12_init_89 (by omega) (by decide) (by decide) (fun h_86 f_87 g_88 => ?_)
  have F_89 : h_86 71 = .inl (700, (fun _ => 0)) := f_87
  have f_90 := ((g_88 61 (by decide)).trans F_85)
  refine R_putF' (pc := 91) (T := TX12) (fs' := [.int 0, .ref 62, .ref 63, .int 16, .ref 64, .int 0, .ref 65, .ref 66, .ref 67, .ref 68, .ref 69, .ref 70, .ref 71, .int 0, .null, .int 0, .null, .int 0, .null, .int 0, .null, .null, .null, .null, .null, .null, .null, .null, .null, .null, .int 0, .null, .null, .null, .null, .null, .null]) dX12_init_91 fX12_41 kFX12_41 rfl tX12_12 rfl rfl rfl rfl f_90 (by omega) (Nat.le_of_ble_eq_true rfl) rfl (fun h_91 f_92 g_93 => ?_)
  have F_94 : h_91 61 = .inr (.inr (12, [.int 0, .ref 62, .ref 63, .int 16, .ref 64, .int 0, .ref 65, .ref 66, .ref 67, .ref 68, .ref 69, .ref 70, .ref 71, .int 0, .null, .int 0, .null, .int 0, .null, .int 0, .null, .null, .null, .null, .null, .null, .null, .null, .null, .null, .int 0, .null, .null, .null, .null, .null, .null])) := f_92
  refine R_aload_n (pc := 94) 0 dX12_init_94 rfl rfl ?_
  refine R_sipush (pc := 95) (v := 700) dX12_init_95 (by decide) ?_
  refine R_newI2 (pc := 98) (N := 700) dX12_init_98 (by omega) (by decide) (by decide) (fun h_95 f_96 g_97 => ?_)
  have F_98 : h_95 72 = .inl (700, (fun _ => 0)) := f_96
  have f_99 := ((g_97 61 (by decide)).trans F_94)
  refine R_putF' (pc := 100) (T := TX12) (fs' := [.int 0, .ref 62, .ref 63, .int 16, .ref 64, .int 0, .ref 65, .ref 66, .ref 67, .ref 68, .ref 69, .ref 70, .ref 71, .int 0, .ref 72, .int 0, .null, .int 0, .null, .int 0, .null, .null, .null, .null, .null, .null, .null, .null, .null, .null, .int 0, .null, .null, .null, .null, .null, .null]) dX12_init_100 fX12_44 kFX12_44 rfl tX12_14 rfl rfl rfl rfl f_99 (by omega) (Nat.le_of_ble_eq_true rfl) rfl (fun h_100 f_101 g_102 => ?_)
  have F_103 : h_100 61 = .inr (.inr (12, [.int 0, .ref 62, .ref 63, .int 16, .ref 64, .int 0, .ref 65, .ref 66, .ref 67, .ref 68, .ref 69, .ref 70, .ref 71, .int 0, .ref 72, .int 0, .null, .int 0, .null, .int 0, .null, .null, .null, .null, .null, .null, .null, .null, .null, .null, .int 0, .null, .null, .null, .null, .null, .null])) := f_101
  refine R_aload_n (pc := 103) 0 dX12_init_103 rfl rfl ?_
  refine R_bipush (pc := 104) (v := 64) dX12_init_104 (by decide) ?_
  refine R_newI2 (pc := 106) (N := 64) dX12_init_106 (by omega) (by decide) (by decide) (fun h_104 f_105 g_106 => ?_)
  have F_107 : h_104 73 = .inl (64, (fun _ => 0)) := f_105
  have f_108 := ((g_106 61 (by decide)).trans F_103)
  refine R_putF' (pc := 108) (T := TX12) (fs' := [.int 0, .ref 62, .ref 63, .int 16, .ref 64, .int 0, .ref 65, .ref 66, .ref 67, .ref 68, .ref 69, .ref 70, .ref 71, .int 0, .ref 72, .int 0, .ref 73, .int 0, .null, .int 0, .null, .null, .null, .null, .null, .null, .null, .null, .null, .null, .int 0, .null, .null, .null, .null, .null, .null]) dX12_init_108 fX12_47 kFX12_47 rfl tX12_16 rfl rfl rfl rfl f_108 (by omega) (Nat.le_of_ble_eq_true rfl) rfl (fun h_109 f_110 g_111 => ?_)
  have F_112 : h_109 61 = .inr (.inr (12, [.int 0, .ref 62, .ref 63, .int 16, .ref 64, .int 0, .ref 65, .ref 66, .ref 67, .ref 68, .ref 69, .ref 70, .ref 71, .int 0, .ref 72, .int 0, .ref 73, .int 0, .null, .int 0, .null, .null, .null, .null, .null, .null, .null, .null, .null, .null, .int 0, .null, .null, .null, .null, .null, .null])) := f_110
  refine R_aload_n (pc := 111) 0 dX12_init_111 rfl rfl ?_
  refine R_sipush (pc := 112) (v := 256) dX12_init_112 (by decide) ?_
  refine R_newI2 (pc := 115) (N := 256) dX12_init_115 (by omega) (by decide) (by decide) (fun h_113 f_114 g_115 => ?_)
  have F_116 : h_113 74 = .inl (256, (fun _ => 0)) := f_114
  have f_117 := ((g_115 61 (by decide)).trans F_112)
  refine R_putF' (pc := 117) (T := TX12) (fs' := [.int 0, .ref 62, .ref 63, .int 16, .ref 64, .int 0, .ref 65, .ref 66, .ref 67, .ref 68, .ref 69, .ref 70, .ref 71, .int 0, .ref 72, .int 0, .ref 73, .int 0, .ref 74, .int 0, .null, .null, .null, .null, .null, .null, .null, .null, .null, .null, .int 0, .null, .null, .null, .null, .null, .null]) dX12_init_117 fX12_50 kFX12_50 rfl tX12_18 rfl rfl rfl rfl f_117 (by omega) (Nat.le_of_ble_eq_true rfl) rfl (fun h_118 f_119 g_120 => ?_)
  have F_121 : h_118 61 = .inr (.inr (12, [.int 0, .ref 62, .ref 63, .int 16, .ref 64, .int 0, .ref 65, .ref 66, .ref 67, .ref 68, .ref 69, .ref 70, .ref 71, .int 0, .ref 72, .int 0, .ref 73, .int 0, .ref 74, .int 0, .null, .null, .null, .null, .null, .null, .null, .null, .null, .null, .int 0, .null, .null, .null, .null, .null, .null])) := f_119
  refine R_aload_n (pc := 120) 0 dX12_init_120 rfl rfl ?_
  refine R_bipush (pc := 121) (v := 16) dX12_init_121 (by decide) ?_
  refine R_newI2 (pc := 123) (N := 16) dX12_init_123 (by omega) (by decide) (by decide) (fun h_122 f_123 g_124 => ?_)
  have F_125 : h_122 75 = .inl (16, (fun _ => 0)) := f_123
  have f_126 := ((g_124 61 (by decide)).trans F_121)
  refine R_putF' (pc := 125) (T := TX12) (fs' := [.int 0, .ref 62, .ref 63, .int 16, .ref 64, .int 0, .ref 65, .ref 66, .ref 67, .ref 68, .ref 69, .ref 70, .ref 71, .int 0, .ref 72, .int 0, .ref 73, .int 0, .ref 74, .int 0, .ref 75, .null, .null, .null, .null, .null, .null, .null, .null, .null, .int 0, .null, .null, .null, .null, .null, .null]) dX12_init_125 fX12_53 kFX12_53 rfl tX12_20 rfl rfl rfl rfl f_126 (by omega) (Nat.le_of_ble_eq_true rfl) rfl (fun h_127 f_128 g_129 => ?_)
  have F_130 : h_127 61 = .inr (.inr (12, [.int 0, .ref 62, .ref 63, .int 16, .ref 64, .int 0, .ref 65, .ref 66, .ref 67, .ref 68, .ref 69, .ref 70, .ref 71, .int 0, .ref 72, .int 0, .ref 73, .int 0, .ref 74, .int 0, .ref 75, .null, .null, .null, .null, .null, .null, .null, .null, .null, .int 0, .null, .null, .null, .null, .null, .null])) := f_128
  refine R_aload_n (pc := 128) 0 dX12_init_128 rfl rfl ?_
  refine R_bipush (pc := 129) (v := 16) dX12_init_129 (by decide) ?_
  refine R_newI2 (pc := 131) (N := 16) dX12_init_131 (by omega) (by decide) (by decide) (fun h_131 f_132 g_133 => ?_)
  have F_134 : h_131 76 = .inl (16, (fun _ => 0)) := f_132
  have f_135 := ((g_133 61 (by decide)).trans F_130)
  refine R_putF' (pc := 133) (T := TX12) (fs' := [.int 0, .ref 62, .ref 63, .int 16, .ref 64, .int 0, .ref 65, .ref 66, .ref 67, .ref 68, .ref 69, .ref 70, .ref 71, .int 0, .ref 72, .int 0, .ref 73, .int 0, .ref 74, .int 0, .ref 75, .ref 76, .null, .null, .null, .null, .null, .null, .null, .null, .int 0, .null, .null, .null, .null, .null, .null]) dX12_init_133 fX12_56 kFX12_56 rfl tX12_21 rfl rfl rfl rfl f_135 (by omega) (Nat.le_of_ble_eq_true rfl) rfl (fun h_136 f_137 g_138 => ?_)
  have F_139 : h_136 61 = .inr (.inr (12, [.int 0, .ref 62, .ref 63, .int 16, .ref 64, .int 0, .ref 65, .ref 66, .ref 67, .ref 68, .ref 69, .ref 70, .ref 71, .int 0, .ref 72, .int 0, .ref 73, .int 0, .ref 74, .int 0, .ref 75, .ref 76, .null, .null, .null, .null, .null, .null, .null, .null, .int 0, .null, .null, .null, .null, .null, .null])) := f_137
  refine R_aload_n (pc := 136) 0 dX12_init_136 rfl rfl ?_
  refine R_bipush (pc := 137) (v := 16) dX12_init_137 (by decide) ?_
  refine R_newI2 (pc := 139) (N := 16) dX12_init_139 (by omega) (by decide) (by decide) (fun h_140 f_141 g_142 => ?_)
  have F_143 : h_140 77 = .inl (16, (fun _ => 0)) := f_141
  have f_144 := ((g_142 61 (by decide)).trans F_139)
  refine R_putF' (pc := 141) (T := TX12) (fs' := [.int 0, .ref 62, .ref 63, .int 16, .ref 64, .int 0, .ref 65, .ref 66, .ref 67, .ref 68, .ref 69, .ref 70, .ref 71, .int 0, .ref 72, .int 0, .ref 73, .int 0, .ref 74, .int 0, .ref 75, .ref 76, .ref 77, .null, .null, .null, .null, .null, .null, .null, .int 0, .null, .null, .null, .null, .null, .null]) dX12_init_141 fX12_59 kFX12_59 rfl tX12_22 rfl rfl rfl rfl f_144 (by omega) (Nat.le_of_ble_eq_true rfl) rfl (fun h_145 f_146 g_147 => ?_)
  have F_148 : h_145 61 = .inr (.inr (12, [.int 0, .ref 62, .ref 63, .int 16, .ref 64, .int 0, .ref 65, .ref 66, .ref 67, .ref 68, .ref 69, .ref 70, .ref 71, .int 0, .ref 72, .int 0, .ref 73, .int 0, .ref 74, .int 0, .ref 75, .ref 76, .ref 77, .null, .null, .null, .null, .null, .null, .null, .int 0, .null, .null, .null, .null, .null, .null])) := f_146
  refine R_aload_n (pc := 144) 0 dX12_init_144 rfl rfl ?_
  refine R_bipush (pc := 145) (v := 16) dX12_init_145 (by decide) ?_
  refine R_newI2 (pc := 147) (N := 16) dX12_init_147 (by omega) (by decide) (by decide) (fun h_149 f_150 g_151 => ?_)
  have F_152 : h_149 78 = .inl (16, (fun _ => 0)) := f_150
  have f_153 := ((g_151 61 (by decide)).trans F_148)
  refine R_putF' (pc := 149) (T := TX12) (fs' := [.int 0, .ref 62, .ref 63, .int 16, .ref 64, .int 0, .ref 65, .ref 66, .ref 67, .ref 68, .ref 69, .ref 70, .ref 71, .int 0, .ref 72, .int 0, .ref 73, .int 0, .ref 74, .int 0, .ref 75, .ref 76, .ref 77, .ref 78, .null, .null, .null, .null, .null, .null, .int 0, .null, .null, .null, .null, .null, .null]) dX12_init_149 fX12_62 kFX12_62 rfl tX12_23 rfl rfl rfl rfl f_153 (by omega) (Nat.le_of_ble_eq_true rfl) rfl (fun h_154 f_155 g_156 => ?_)
  have F_157 : h_154 61 = .inr (.inr (12, [.int 0, .ref 62, .ref 63, .int 16, .ref 64, .int 0, .ref 65, .ref 66, .ref 67, .ref 68, .ref 69, .ref 70, .ref 71, .int 0, .ref 72, .int 0, .ref 73, .int 0, .ref 74, .int 0, .ref 75, .ref 76, .ref 77, .ref 78, .null, .null, .null, .null, .null, .null, .int 0, .null, .null, .null, .null, .null, .null])) := f_155
  refine R_aload_n (pc := 152) 0 dX12_init_152 rfl rfl ?_
  refine R_bipush (pc := 153) (v := 16) dX12_init_153 (by decide) ?_
  refine R_newI2 (pc := 155) (N := 16) dX12_init_155 (by omega) (by decide) (by decide) (fun h_158 f_159 g_160 => ?_)
  have F_161 : h_158 79 = .inl (16, (fun _ => 0)) := f_159
  have f_162 := ((g_160 61 (by decide)).trans F_157)
  refine R_putF' (pc := 157) (T := TX12) (fs' := [.int 0, .ref 62, .ref 63, .int 16, .ref 64, .int 0, .ref 65, .ref 66, .ref 67, .ref 68, .ref 69, .ref 70, .ref 71, .int 0, .ref 72, .int 0, .ref 73, .int 0, .ref 74, .int 0, .ref 75, .ref 76, .ref 77, .ref 78, .ref 79, .null, .null, .null, .null, .null, .int 0, .null, .null, .null, .null, .null, .null]) dX12_init_157 fX12_65 kFX12_65 rfl tX12_24 rfl rfl rfl rfl f_162 (by omega) (Nat.le_of_ble_eq_true rfl) rfl (fun h_163 f_164 g_165 => ?_)
  have F_166 : h_163 61 = .inr (.inr (12, [.int 0, .ref 62, .ref 63, .int 16, .ref 64, .int 0, .ref 65, .ref 66, .ref 67, .ref 68, .ref 69, .ref 70, .ref 71, .int 0, .ref 72, .int 0, .ref 73, .int 0, .ref 74, .int 0, .ref 75, .ref 76, .ref 77, .ref 78, .ref 79, .null, .null, .null, .null, .null, .int 0, .null, .null, .null, .null, .null, .null])) := f_164
  refine R_aload_n (pc := 160) 0 dX12_init_160 rfl rfl ?_
  refine R_bipush (pc := 161) (v := 16) dX12_init_161 (by decide) ?_
  refine R_newI2 (pc := 163) (N := 16) dX12_init_163 (by omega) (by decide) (by decide) (fun h_167 f_168 g_169 => ?_)
  have F_170 : h_167 80 = .inl (16, (fun _ => 0)) := f_168
  have f_171 := ((g_169 61 (by decide)).trans F_166)
  refine R_putF' (pc := 165) (T := TX12) (fs' := [.int 0, .ref 62, .ref 63, .int 16, .ref 64, .int 0, .ref 65, .ref 66, .ref 67, .ref 68, .ref 69, .ref 70, .ref 71, .int 0, .ref 72, .int 0, .ref 73, .int 0, .ref 74, .int 0, .ref 75, .ref 76, .ref 77, .ref 78, .ref 79, .ref 80, .null, .null, .null, .null, .int 0, .null, .null, .null, .null, .null, .null]) dX12_init_165 fX12_68 kFX12_68 rfl tX12_25 rfl rfl rfl rfl f_171 (by omega) (Nat.le_of_ble_eq_true rfl) rfl (fun h_172 f_173 g_174 => ?_)
  have F_175 : h_172 61 = .inr (.inr (12, [.int 0, .ref 62, .ref 63, .int 16, .ref 64, .int 0, .ref 65, .ref 66, .ref 67, .ref 68, .ref 69, .ref 70, .ref 71, .int 0, .ref 72, .int 0, .ref 73, .int 0, .ref 74, .int 0, .ref 75, .ref 76, .ref 77, .ref 78, .ref 79, .ref 80, .null, .null, .null, .null, .int 0, .null, .null, .null, .null, .null, .null])) := f_173
  refine R_aload_n (pc := 168) 0 dX12_init_168 rfl rfl ?_
  refine R_bipush (pc := 169) (v := 16) dX12_init_169 (by decide) ?_
  refine R_newI2 (pc := 171) (N := 16) dX12_init_171 (by omega) (by decide) (by decide) (fun h_176 f_177 g_178 => ?_)
  have F_179 : h_176 81 = .inl (16, (fun _ => 0)) := f_177
  have f_180 := ((g_178 61 (by decide)).trans F_175)
  refine R_putF' (pc := 173) (T := TX12) (fs' := [.int 0, .ref 62, .ref 63, .int 16, .ref 64, .int 0, .ref 65, .ref 66, .ref 67, .ref 68, .ref 69, .ref 70, .ref 71, .int 0, .ref 72, .int 0, .ref 73, .int 0, .ref 74, .int 0, .ref 75, .ref 76, .ref 77, .ref 78, .ref 79, .ref 80, .ref 81, .null, .null, .null, .int 0, .null, .null, .null, .null, .null, .null]) dX12_init_173 fX12_71 kFX12_71 rfl tX12_26 rfl rfl rfl rfl f_180 (by omega) (Nat.le_of_ble_eq_true rfl) rfl (fun h_181 f_182 g_183 => ?_)
  have F_184 : h_181 61 = .inr (.inr (12, [.int 0, .ref 62, .ref 63, .int 16, .ref 64, .int 0, .ref 65, .ref 66, .ref 67, .ref 68, .ref 69, .ref 70, .ref 71, .int 0, .ref 72, .int 0, .ref 73, .int 0, .ref 74, .int 0, .ref 75, .ref 76, .ref 77, .ref 78, .ref 79, .ref 80, .ref 81, .null, .null, .null, .int 0, .null, .null, .null, .null, .null, .null])) := f_182
  refine R_aload_n (pc := 176) 0 dX12_init_176 rfl rfl ?_
  refine R_bipush (pc := 177) (v := 16) dX12_init_177 (by decide) ?_
  refine R_newI2 (pc := 179) (N := 16) dX12_init_179 (by omega) (by decide) (by decide) (fun h_185 f_186 g_187 => ?_)
  have F_188 : h_185 82 = .inl (16, (fun _ => 0)) := f_186
  have f_189 := ((g_187 61 (by decide)).trans F_184)
  refine R_putF' (pc := 181) (T := TX12) (fs' := [.int 0, .ref 62, .ref 63, .int 16, .ref 64, .int 0, .ref 65, .ref 66, .ref 67, .ref 68, .ref 69, .ref 70, .ref 71, .int 0, .ref 72, .int 0, .ref 73, .int 0, .ref 74, .int 0, .ref 75, .ref 76, .ref 77, .ref 78, .ref 79, .ref 80, .ref 81, .ref 82, .null, .null, .int 0, .null, .null, .null, .null, .null, .null]) dX12_init_181 fX12_74 kFX12_74 rfl tX12_27 rfl rfl rfl rfl f_189 (by omega) (Nat.le_of_ble_eq_true rfl) rfl (fun h_190 f_191 g_192 => ?_)
  have F_193 : h_190 61 = .inr (.inr (12, [.int 0, .ref 62, .ref 63, .int 16, .ref 64, .int 0, .ref 65, .ref 66, .ref 67, .ref 68, .ref 69, .ref 70, .ref 71, .int 0, .ref 72, .int 0, .ref 73, .int 0, .ref 74, .int 0, .ref 75, .ref 76, .ref 77, .ref 78, .ref 79, .ref 80, .ref 81, .ref 82, .null, .null, .int 0, .null, .null, .null, .null, .null, .null])) := f_191
  refine R_aload_n (pc := 184) 0 dX12_init_184 rfl rfl ?_
  refine R_bipush (pc := 185) (v := 16) dX12_init_185 (by decide) ?_
  refine R_newI2 (pc := 187) (N := 16) dX12_init_187 (by omega) (by decide) (by decide) (fun h_194 f_195 g_196 => ?_)
  have F_197 : h_194 83 = .inl (16, (fun _ => 0)) := f_195
  have f_198 := ((g_196 61 (by decide)).trans F_193)
  refine R_putF' (pc := 189) (T := TX12) (fs' := [.int 0, .ref 62, .ref 63, .int 16, .ref 64, .int 0, .ref 65, .ref 66, .ref 67, .ref 68, .ref 69, .ref 70, .ref 71, .int 0, .ref 72, .int 0, .ref 73, .int 0, .ref 74, .int 0, .ref 75, .ref 76, .ref 77, .ref 78, .ref 79, .ref 80, .ref 81, .ref 82, .ref 83, .null, .int 0, .null, .null, .null, .null, .null, .null]) dX12_init_189 fX12_77 kFX12_77 rfl tX12_28 rfl rfl rfl rfl f_198 (by omega) (Nat.le_of_ble_eq_true rfl) rfl (fun h_199 f_200 g_201 => ?_)
  have F_202 : h_199 61 = .inr (.inr (12, [.int 0, .ref 62, .ref 63, .int 16, .ref 64, .int 0, .ref 65, .ref 66, .ref 67, .ref 68, .ref 69, .ref 70, .ref 71, .int 0, .ref 72, .int 0, .ref 73, .int 0, .ref 74, .int 0, .ref 75, .ref 76, .ref 77, .ref 78, .ref 79, .ref 80, .ref 81, .ref 82, .ref 83, .null, .int 0, .null, .null, .null, .null, .null, .null])) := f_200
  refine R_aload_n (pc := 192) 0 dX12_init_192 rfl rfl ?_
  refine R_sipush (pc := 193) (v := 700) dX12_init_193 (by decide) ?_
  refine R_newI2 (pc := 196) (N := 700) dX12_init_196 (by omega) (by decide) (by decide) (fun h_203 f_204 g_205 => ?_)
  have F_206 : h_203 84 = .inl (700, (fun _ => 0)) := f_204
  have f_207 := ((g_205 61 (by decide)).trans F_202)
  refine R_putF' (pc := 198) (T := TX12) (fs' := [.int 0, .ref 62, .ref 63, .int 16, .ref 64, .int 0, .ref 65, .ref 66, .ref 67, .ref 68, .ref 69, .ref 70, .ref 71, .int 0, .ref 72, .int 0, .ref 73, .int 0, .ref 74, .int 0, .ref 75, .ref 76, .ref 77, .ref 78, .ref 79, .ref 80, .ref 81, .ref 82, .ref 83, .ref 84, .int 0, .null, .null, .null, .null, .null, .null]) dX12_init_198 fX12_80 kFX12_80 rfl tX12_29 rfl rfl rfl rfl f_207 (by omega) (Nat.le_of_ble_eq_true rfl) rfl (fun h_208 f_209 g_210 => ?_)
  have F_211 : h_208 61 = .inr (.inr (12, [.int 0, .ref 62, .ref 63, .int 16, .ref 64, .int 0, .ref 65, .ref 66, .ref 67, .ref 68, .ref 69, .ref 70, .ref 71, .int 0, .ref 72, .int 0, .ref 73, .int 0, .ref 74, .int 0, .ref 75, .ref 76, .ref 77, .ref 78, .ref 79, .ref 80, .ref 81, .ref 82, .ref 83, .ref 84, .int 0, .null, .null, .null, .null, .null, .null])) := f_209
  refine R_aload_n (pc := 201) 0 dX12_init_201 rfl rfl ?_
  refine R_bipush (pc := 202) (v := 16) dX12_init_202 (by decide) ?_
  refine R_newI2 (pc := 204) (N := 16) dX12_init_204 (by omega) (by decide) (by decide) (fun h_212 f_213 g_214 => ?_)
  have F_215 : h_212 85 = .inl (16, (fun _ => 0)) := f_213
  have f_216 := ((g_214 61 (by decide)).trans F_211)
  refine R_putF' (pc := 206) (T := TX12) (fs' := [.int 0, .ref 62, .ref 63, .int 16, .ref 64, .int 0, .ref 65, .ref 66, .ref 67, .ref 68, .ref 69, .ref 70, .ref 71, .int 0, .ref 72, .int 0, .ref 73, .int 0, .ref 74, .int 0, .ref 75, .ref 76, .ref 77, .ref 78, .ref 79, .ref 80, .ref 81, .ref 82, .ref 83, .ref 84, .int 0, .ref 85, .null, .null, .null, .null, .null]) dX12_init_206 fX12_83 kFX12_83 rfl tX12_31 rfl rfl rfl rfl f_216 (by omega) (Nat.le_of_ble_eq_true rfl) rfl (fun h_217 f_218 g_219 => ?_)
  have F_220 : h_217 61 = .inr (.inr (12, [.int 0, .ref 62, .ref 63, .int 16, .ref 64, .int 0, .ref 65, .ref 66, .ref 67, .ref 68, .ref 69, .ref 70, .ref 71, .int 0, .ref 72, .int 0, .ref 73, .int 0, .ref 74, .int 0, .ref 75, .ref 76, .ref 77, .ref 78, .ref 79, .ref 80, .ref 81, .ref 82, .ref 83, .ref 84, .int 0, .ref 85, .null, .null, .null, .null, .null])) := f_218
  refine R_aload_n (pc := 209) 0 dX12_init_209 rfl rfl ?_
  refine R_bipush (pc := 210) (v := 16) dX12_init_210 (by decide) ?_
  refine R_newI2 (pc := 212) (N := 16) dX12_init_212 (by omega) (by decide) (by decide) (fun h_221 f_222 g_223 => ?_)
  have F_224 : h_221 86 = .inl (16, (fun _ => 0)) := f_222
  have f_225 := ((g_223 61 (by decide)).trans F_220)
  refine R_putF' (pc := 214) (T := TX12) (fs' := [.int 0, .ref 62, .ref 63, .int 16, .ref 64, .int 0, .ref 65, .ref 66, .ref 67, .ref 68, .ref 69, .ref 70, .ref 71, .int 0, .ref 72, .int 0, .ref 73, .int 0, .ref 74, .int 0, .ref 75, .ref 76, .ref 77, .ref 78, .ref 79, .ref 80, .ref 81, .ref 82, .ref 83, .ref 84, .int 0, .ref 85, .ref 86, .null, .null, .null, .null]) dX12_init_214 fX12_86 kFX12_86 rfl tX12_32 rfl rfl rfl rfl f_225 (by omega) (Nat.le_of_ble_eq_true rfl) rfl (fun h_226 f_227 g_228 => ?_)
  have F_229 : h_226 61 = .inr (.inr (12, [.int 0, .ref 62, .ref 63, .int 16, .ref 64, .int 0, .ref 65, .ref 66, .ref 67, .ref 68, .ref 69, .ref 70, .ref 71, .int 0, .ref 72, .int 0, .ref 73, .int 0, .ref 74, .int 0, .ref 75, .ref 76, .ref 77, .ref 78, .ref 79, .ref 80, .ref 81, .ref 82, .ref 83, .ref 84, .int 0, .ref 85, .ref 86, .null, .null, .null, .null])) := f_227
  refine R_aload_n (pc := 217) 0 dX12_init_217 rfl rfl ?_
  refine R_sipush (pc := 218) (v := 160) dX12_init_218 (by decide) ?_
  refine R_newI2 (pc := 221) (N := 160) dX12_init_221 (by omega) (by decide) (by decide) (fun h_230 f_231 g_232 => ?_)
  have F_233 : h_230 87 = .inl (160, (fun _ => 0)) := f_231
  have f_234 := ((g_232 61 (by decide)).trans F_229)
  refine R_putF' (pc := 223) (T := TX12) (fs' := [.int 0, .ref 62, .ref 63, .int 16, .ref 64, .int 0, .ref 65, .ref 66, .ref 67, .ref 68, .ref 69, .ref 70, .ref 71, .int 0, .ref 72, .int 0, .ref 73, .int 0, .ref 74, .int 0, .ref 75, .ref 76, .ref 77, .ref 78, .ref 79, .ref 80, .ref 81, .ref 82, .ref 83, .ref 84, .int 0, .ref 85, .ref 86, .ref 87, .null, .null, .null]) dX12_init_223 fX12_89 kFX12_89 rfl tX12_33 rfl rfl rfl rfl f_234 (by omega) (Nat.le_of_ble_eq_true rfl) rfl (fun h_235 f_236 g_237 => ?_)
  have F_238 : h_235 61 = .inr (.inr (12, [.int 0, .ref 62, .ref 63, .int 16, .ref 64, .int 0, .ref 65, .ref 66, .ref 67, .ref 68, .ref 69, .ref 70, .ref 71, .int 0, .ref 72, .int 0, .ref 73, .int 0, .ref 74, .int 0, .ref 75, .ref 76, .ref 77, .ref 78, .ref 79, .ref 80, .ref 81, .ref 82, .ref 83, .ref 84, .int 0, .ref 85, .ref 86, .ref 87, .null, .null, .null])) := f_236
  refine R_aload_n (pc := 226) 0 dX12_init_226 rfl rfl ?_
  refine R_bipush (pc := 227) (v := 16) dX12_init_227 (by decide) ?_
  refine R_newI2 (pc := 229) (N := 16) dX12_init_229 (by omega) (by decide) (by decide) (fun h_239 f_240 g_241 => ?_)
  have F_242 : h_239 88 = .inl (16, (fun _ => 0)) := f_240
  have f_243 := ((g_241 61 (by decide)).trans F_238)
  refine R_putF' (pc := 231) (T := TX12) (fs' := [.int 0, .ref 62, .ref 63, .int 16, .ref 64, .int 0, .ref 65, .ref 66, .ref 67, .ref 68, .ref 69, .ref 70, .ref 71, .int 0, .ref 72, .int 0, .ref 73, .int 0, .ref 74, .int 0, .ref 75, .ref 76, .ref 77, .ref 78, .ref 79, .ref 80, .ref 81, .ref 82, .ref 83, .ref 84, .int 0, .ref 85, .ref 86, .ref 87, .ref 88, .null, .null]) dX12_init_231 fX12_92 kFX12_92 rfl tX12_34 rfl rfl rfl rfl f_243 (by omega) (Nat.le_of_ble_eq_true rfl) rfl (fun h_244 f_245 g_246 => ?_)
  have F_247 : h_244 61 = .inr (.inr (12, [.int 0, .ref 62, .ref 63, .int 16, .ref 64, .int 0, .ref 65, .ref 66, .ref 67, .ref 68, .ref 69, .ref 70, .ref 71, .int 0, .ref 72, .int 0, .ref 73, .int 0, .ref 74, .int 0, .ref 75, .ref 76, .ref 77, .ref 78, .ref 79, .ref 80, .ref 81, .ref 82, .ref 83, .ref 84, .int 0, .ref 85, .ref 86, .ref 87, .ref 88, .null, .null])) := f_245
  refine R_aload_n (pc := 234) 0 dX12_init_234 rfl rfl ?_
  refine R_bipush (pc := 235) (v := 16) dX12_init_235 (by decide) ?_
  refine R_newI2 (pc := 237) (N := 16) dX12_init_237 (by omega) (by decide) (by decide) (fun h_248 f_249 g_250 => ?_)
  have F_251 : h_248 89 = .inl (16, (fun _ => 0)) := f_249
  have f_252 := ((g_250 61 (by decide)).trans F_247)
  refine R_putF' (pc := 239) (T := TX12) (fs' := [.int 0, .ref 62, .ref 63, .int 16, .ref 64, .int 0, .ref 65, .ref 66, .ref 67, .ref 68, .ref 69, .ref 70, .ref 71, .int 0, .ref 72, .int 0, .ref 73, .int 0, .ref 74, .int 0, .ref 75, .ref 76, .ref 77, .ref 78, .ref 79, .ref 80, .ref 81, .ref 82, .ref 83, .ref 84, .int 0, .ref 85, .ref 86, .ref 87, .ref 88, .ref 89, .null]) dX12_init_239 fX12_95 kFX12_95 rfl tX12_35 rfl rfl rfl rfl f_252 (by omega) (Nat.le_of_ble_eq_true rfl) rfl (fun h_253 f_254 g_255 => ?_)
  have F_256 : h_253 61 = .inr (.inr (12, [.int 0, .ref 62, .ref 63, .int 16, .ref 64, .int 0, .ref 65, .ref 66, .ref 67, .ref 68, .ref 69, .ref 70, .ref 71, .int 0, .ref 72, .int 0, .ref 73, .int 0, .ref 74, .int 0, .ref 75, .ref 76, .ref 77, .ref 78, .ref 79, .ref 80, .ref 81, .ref 82, .ref 83, .ref 84, .int 0, .ref 85, .ref 86, .ref 87, .ref 88, .ref 89, .null])) := f_254
  refine R_aload_n (pc := 242) 0 dX12_init_242 rfl rfl ?_
  refine R_bipush (pc := 243) (v := 24) dX12_init_243 (by decide) ?_
  refine R_newI2 (pc := 245) (N := 24) dX12_init_245 (by omega) (by decide) (by decide) (fun h_257 f_258 g_259 => ?_)
  have F_260 : h_257 90 = .inl (24, (fun _ => 0)) := f_258
  have f_261 := ((g_259 61 (by decide)).trans F_256)
  refine R_putF' (pc := 247) (T := TX12) (fs' := [.int 0, .ref 62, .ref 63, .int 16, .ref 64, .int 0, .ref 65, .ref 66, .ref 67, .ref 68, .ref 69, .ref 70, .ref 71, .int 0, .ref 72, .int 0, .ref 73, .int 0, .ref 74, .int 0, .ref 75, .ref 76, .ref 77, .ref 78, .ref 79, .ref 80, .ref 81, .ref 82, .ref 83, .ref 84, .int 0, .ref 85, .ref 86, .ref 87, .ref 88, .ref 89, .ref 90]) dX12_init_247 fX12_98 kFX12_98 rfl tX12_36 rfl rfl rfl rfl f_261 (by omega) (Nat.le_of_ble_eq_true rfl) rfl (fun h_262 f_263 g_264 => ?_)
  have F_265 : h_262 61 = .inr (.inr (12, [.int 0, .ref 62, .ref 63, .int 16, .ref 64, .int 0, .ref 65, .ref 66, .ref 67, .ref 68, .ref 69, .ref 70, .ref 71, .int 0, .ref 72, .int 0, .ref 73, .int 0, .ref 74, .int 0, .ref 75, .ref 76, .ref 77, .ref 78, .ref 79, .ref 80, .ref 81, .ref 82, .ref 83, .ref 84, .int 0, .ref 85, .ref 86, .ref 87, .ref 88, .ref 89, .ref 90])) := f_263
  refine R_iconst (pc := 250) (v := 0) dX12_init_250 (by decide) ?_
  refine R_istore_n (pc := 251) (lv' := [(1, .int 0), (0, .ref 61)]) dX12_init_251 rfl (by decide) rfl ?_
  have E_59 : ∀ x, x ≠ 61 → x ≤ 90 → h_262 x = h_262 x := fun _ _ _ => rfl
  have E_58 : ∀ x, x ≠ 61 → x ≤ 90 → h_262 x = h_257 x := fun x_ a_ b_ => (E_59 x_ a_ (by omega)).trans (g_264 x_ (by omega))
  have E_57 : ∀ x, x ≠ 61 → x ≤ 89 → h_262 x = h_253 x := fun x_ a_ b_ => (E_58 x_ a_ (by omega)).trans (g_259 x_ (by omega))
  have E_56 : ∀ x, x ≠ 61 → x ≤ 89 → h_262 x = h_248 x := fun x_ a_ b_ => (E_57 x_ a_ (by omega)).trans (g_255 x_ (by omega))
  have E_55 : ∀ x, x ≠ 61 → x ≤ 88 → h_262 x = h_244 x := fun x_ a_ b_ => (E_56 x_ a_ (by omega)).trans (g_250 x_ (by omega))
  have E_54 : ∀ x, x ≠ 61 → x ≤ 88 → h_262 x = h_239 x := fun x_ a_ b_ => (E_55 x_ a_ (by omega)).trans (g_246 x_ (by omega))
  have E_53 : ∀ x, x ≠ 61 → x ≤ 87 → h_262 x = h_235 x := fun x_ a_ b_ => (E_54 x_ a_ (by omega)).trans (g_241 x_ (by omega))
  have E_52 : ∀ x, x ≠ 61 → x ≤ 87 → h_262 x = h_230 x := fun x_ a_ b_ => (E_53 x_ a_ (by omega)).trans (g_237 x_ (by omega))
  have E_51 : ∀ x, x ≠ 61 → x ≤ 86 → h_262 x = h_226 x := fun x_ a_ b_ => (E_52 x_ a_ (by omega)).trans (g_232 x_ (by omega))
  have E_50 : ∀ x, x ≠ 61 → x ≤ 86 → h_262 x = h_221 x := fun x_ a_ b_ => (E_51 x_ a_ (by omega)).trans (g_228 x_ (by omega))
  have E_49 : ∀ x, x ≠ 61 → x ≤ 85 → h_262 x = h_217 x := fun x_ a_ b_ => (E_50 x_ a_ (by omega)).trans (g_223 x_ (by omega))
  have E_48 : ∀ x, x ≠ 61 → x ≤ 85 → h_262 x = h_212 x := fun x_ a_ b_ => (E_49 x_ a_ (by omega)).trans (g_219 x_ (by omega))
  have E_47 : ∀ x, x ≠ 61 → x ≤ 84 → h_262 x = h_208 x := fun x_ a_ b_ => (E_48 x_ a_ (by omega)).trans (g_214 x_ (by omega))
  have E_46 : ∀ x, x ≠ 61 → x ≤ 84 → h_262 x = h_203 x := fun x_ a_ b_ => (E_47 x_ a_ (by omega)).trans (g_210 x_ (by omega))
  have E_45 : ∀ x, x ≠ 61 → x ≤ 83 → h_262 x = h_199 x := fun x_ a_ b_ => (E_46 x_ a_ (by omega)).trans (g_205 x_ (by omega))
  have E_44 : ∀ x, x ≠ 61 → x ≤ 83 → h_262 x = h_194 x := fun x_ a_ b_ => (E_45 x_ a_ (by omega)).trans (g_201 x_ (by omega))
  have E_43 : ∀ x, x ≠ 61 → x ≤ 82 → h_262 x = h_190 x := fun x_ a_ b_ => (E_44 x_ a_ (by omega)).trans (g_196 x_ (by omega))
  have E_42 : ∀ x, x ≠ 61 → x ≤ 82 → h_262 x = h_185 x := fun x_ a_ b_ => (E_43 x_ a_ (by omega)).trans (g_192 x_ (by omega))
  have E_41 : ∀ x, x ≠ 61 → x ≤ 81 → h_262 x = h_181 x := fun x_ a_ b_ => (E_42 x_ a_ (by omega)).trans (g_187 x_ (by omega))
  have E_40 : ∀ x, x ≠ 61 → x ≤ 81 → h_262 x = h_176 x := fun x_ a_ b_ => (E_41 x_ a_ (by omega)).trans (g_183 x_ (by omega))
  have E_39 : ∀ x, x ≠ 61 → x ≤ 80 → h_262 x = h_172 x := fun x_ a_ b_ => (E_40 x_ a_ (by omega)).trans (g_178 x_ (by omega))
  have E_38 : ∀ x, x ≠ 61 → x ≤ 80 → h_262 x = h_167 x := fun x_ a_ b_ => (E_39 x_ a_ (by omega)).trans (g_174 x_ (by omega))
  have E_37 : ∀ x, x ≠ 61 → x ≤ 79 → h_262 x = h_163 x := fun x_ a_ b_ => (E_38 x_ a_ (by omega)).trans (g_169 x_ (by omega))
  have E_36 : ∀ x, x ≠ 61 → x ≤ 79 → h_262 x = h_158 x := fun x_ a_ b_ => (E_37 x_ a_ (by omega)).trans (g_165 x_ (by omega))
  have E_35 : ∀ x, x ≠ 61 → x ≤ 78 → h_262 x = h_154 x := fun x_ a_ b_ => (E_36 x_ a_ (by omega)).trans (g_160 x_ (by omega))
  have E_34 : ∀ x, x ≠ 61 → x ≤ 78 → h_262 x = h_149 x := fun x_ a_ b_ => (E_35 x_ a_ (by omega)).trans (g_156 x_ (by omega))
  have E_33 : ∀ x, x ≠ 61 → x ≤ 77 → h_262 x = h_145 x := fun x_ a_ b_ => (E_34 x_ a_ (by omega)).trans (g_151 x_ (by omega))
  have E_32 : ∀ x, x ≠ 61 → x ≤ 77 → h_262 x = h_140 x := fun x_ a_ b_ => (E_33 x_ a_ (by omega)).trans (g_147 x_ (by omega))
  have E_31 : ∀ x, x ≠ 61 → x ≤ 76 → h_262 x = h_136 x := fun x_ a_ b_ => (E_32 x_ a_ (by omega)).trans (g_142 x_ (by omega))
  have E_30 : ∀ x, x ≠ 61 → x ≤ 76 → h_262 x = h_131 x := fun x_ a_ b_ => (E_31 x_ a_ (by omega)).trans (g_138 x_ (by omega))
  have E_29 : ∀ x, x ≠ 61 → x ≤ 75 → h_262 x = h_127 x := fun x_ a_ b_ => (E_30 x_ a_ (by omega)).trans (g_133 x_ (by omega))
  have E_28 : ∀ x, x ≠ 61 → x ≤ 75 → h_262 x = h_122 x := fun x_ a_ b_ => (E_29 x_ a_ (by omega)).trans (g_129 x_ (by omega))
  have E_27 : ∀ x, x ≠ 61 → x ≤ 74 → h_262 x = h_118 x := fun x_ a_ b_ => (E_28 x_ a_ (by omega)).trans (g_124 x_ (by omega))
  have E_26 : ∀ x, x ≠ 61 → x ≤ 74 → h_262 x = h_113 x := fun x_ a_ b_ => (E_27 x_ a_ (by omega)).trans (g_120 x_ (by omega))
  have E_25 : ∀ x, x ≠ 61 → x ≤ 73 → h_262 x = h_109 x := fun x_ a_ b_ => (E_26 x_ a_ (by omega)).trans (g_115 x_ (by omega))
  have E_24 : ∀ x, x ≠ 61 → x ≤ 73 → h_262 x = h_104 x := fun x_ a_ b_ => (E_25 x_ a_ (by omega)).trans (g_111 x_ (by omega))
  have E_23 : ∀ x, x ≠ 61 → x ≤ 72 → h_262 x = h_100 x := fun x_ a_ b_ => (E_24 x_ a_ (by omega)).trans (g_106 x_ (by omega))
  have E_22 : ∀ x, x ≠ 61 → x ≤ 72 → h_262 x = h_95 x := fun x_ a_ b_ => (E_23 x_ a_ (by omega)).trans (g_102 x_ (by omega))
  have E_21 : ∀ x, x ≠ 61 → x ≤ 71 → h_262 x = h_91 x := fun x_ a_ b_ => (E_22 x_ a_ (by omega)).trans (g_97 x_ (by omega))
  have E_20 : ∀ x, x ≠ 61 → x ≤ 71 → h_262 x = h_86 x := fun x_ a_ b_ => (E_21 x_ a_ (by omega)).trans (g_93 x_ (by omega))
  have E_19 : ∀ x, x ≠ 61 → x ≤ 70 → h_262 x = h_82 x := fun x_ a_ b_ => (E_20 x_ a_ (by omega)).trans (g_88 x_ (by omega))
  have E_18 : ∀ x, x ≠ 61 → x ≤ 70 → h_262 x = h_77 x := fun x_ a_ b_ => (E_19 x_ a_ (by omega)).trans (g_84 x_ (by omega))
  have E_17 : ∀ x, x ≠ 61 → x ≤ 69 → h_262 x = h_73 x := fun x_ a_ b_ => (E_18 x_ a_ (by omega)).trans (g_79 x_ (by omega))
  have E_16 : ∀ x, x ≠ 61 → x ≤ 69 → h_262 x = h_68 x := fun x_ a_ b_ => (E_17 x_ a_ (by omega)).trans (g_75 x_ (by omega))
  have E_15 : ∀ x, x ≠ 61 → x ≤ 68 → h_262 x = h_64 x := fun x_ a_ b_ => (E_16 x_ a_ (by omega)).trans (g_70 x_ (by omega))
  have E_14 : ∀ x, x ≠ 61 → x ≤ 68 → h_262 x = h_59 x := fun x_ a_ b_ => (E_15 x_ a_ (by omega)).trans (g_66 x_ (by omega))
  have E_13 : ∀ x, x ≠ 61 → x ≤ 67 → h_262 x = h_55 x := fun x_ a_ b_ => (E_14 x_ a_ (by omega)).trans (g_61 x_ (by omega))
  have E_12 : ∀ x, x ≠ 61 → x ≤ 67 → h_262 x = h_50 x := fun x_ a_ b_ => (E_13 x_ a_ (by omega)).trans (g_57 x_ (by omega))
  have E_11 : ∀ x, x ≠ 61 → x ≤ 66 → h_262 x = h_46 x := fun x_ a_ b_ => (E_12 x_ a_ (by omega)).trans (g_52 x_ (by omega))
  have E_10 : ∀ x, x ≠ 61 → x ≤ 66 → h_262 x = h_41 x := fun x_ a_ b_ => (E_11 x_ a_ (by omega)).trans (g_48 x_ (by omega))
  have E_9 : ∀ x, x ≠ 61 → x ≤ 65 → h_262 x = h_37 x := fun x_ a_ b_ => (E_10 x_ a_ (by omega)).trans (g_43 x_ (by omega))
  have E_8 : ∀ x, x ≠ 61 → x ≤ 65 → h_262 x = h_32 x := fun x_ a_ b_ => (E_9 x_ a_ (by omega)).trans (g_39 x_ (by omega))
  have E_7 : ∀ x, x ≠ 61 → x ≤ 64 → h_262 x = h_28 x := fun x_ a_ b_ => (E_8 x_ a_ (by omega)).trans (g_34 x_ (by omega))
  have E_6 : ∀ x, x ≠ 61 → x ≤ 64 → h_262 x = h_23 x := fun x_ a_ b_ => (E_7 x_ a_ (by omega)).trans (g_30 x_ (by omega))
  have E_5 : ∀ x, x ≠ 61 → x ≤ 63 → h_262 x = h_19 x := fun x_ a_ b_ => (E_6 x_ a_ (by omega)).trans (g_25 x_ (by omega))
  have E_4 : ∀ x, x ≠ 61 → x ≤ 63 → h_262 x = h_15 x := fun x_ a_ b_ => (E_5 x_ a_ (by omega)).trans (g_21 x_ (by omega))
  have E_3 : ∀ x, x ≠ 61 → x ≤ 63 → h_262 x = h_10 x := fun x_ a_ b_ => (E_4 x_ a_ (by omega)).trans (g_17 x_ (by omega))
  have E_2 : ∀ x, x ≠ 61 → x ≤ 62 → h_262 x = h_6 x := fun x_ a_ b_ => (E_3 x_ a_ (by omega)).trans (g_12 x_ (by omega))
  have E_1 : ∀ x, x ≠ 61 → x ≤ 62 → h_262 x = h_1 x := fun x_ a_ b_ => (E_2 x_ a_ (by omega)).trans (g_8 x_ (by omega))
  have E_0 : ∀ x, x ≠ 61 → x ≤ 61 → h_262 x = h x := fun x_ a_ b_ => (E_1 x_ a_ (by omega)).trans (g_3 x_ (by omega))
  have Z_62 : h_262 62 = .inl (mN 62, fun _ => 0) := (E_1 62 (by decide) (by decide)).trans F_4
  have Z_63 : h_262 63 = .inl (mN 63, fun _ => 0) := (E_3 63 (by decide) (by decide)).trans F_13
  have Z_64 : h_262 64 = .inl (mN 64, fun _ => 0) := (E_6 64 (by decide) (by decide)).trans F_26
  have Z_65 : h_262 65 = .inl (mN 65, fun _ => 0) := (E_8 65 (by decide) (by decide)).trans F_35
  have Z_66 : h_262 66 = .inl (mN 66, fun _ => 0) := (E_10 66 (by decide) (by decide)).trans F_44
  have Z_67 : h_262 67 = .inl (mN 67, fun _ => 0) := (E_12 67 (by decide) (by decide)).trans F_53
  have Z_68 : h_262 68 = .inl (mN 68, fun _ => 0) := (E_14 68 (by decide) (by decide)).trans F_62
  have Z_69 : h_262 69 = .inl (mN 69, fun _ => 0) := (E_16 69 (by decide) (by decide)).trans F_71
  have Z_70 : h_262 70 = .inl (mN 70, fun _ => 0) := (E_18 70 (by decide) (by decide)).trans F_80
  have Z_71 : h_262 71 = .inl (mN 71, fun _ => 0) := (E_20 71 (by decide) (by decide)).trans F_89
  have Z_72 : h_262 72 = .inl (mN 72, fun _ => 0) := (E_22 72 (by decide) (by decide)).trans F_98
  have Z_73 : h_262 73 = .inl (mN 73, fun _ => 0) := (E_24 73 (by decide) (by decide)).trans F_107
  have Z_74 : h_262 74 = .inl (mN 74, fun _ => 0) := (E_26 74 (by decide) (by decide)).trans F_116
  have Z_75 : h_262 75 = .inl (mN 75, fun _ => 0) := (E_28 75 (by decide) (by decide)).trans F_125
  have Z_76 : h_262 76 = .inl (mN 76, fun _ => 0) := (E_30 76 (by decide) (by decide)).trans F_134
  have Z_77 : h_262 77 = .inl (mN 77, fun _ => 0) := (E_32 77 (by decide) (by decide)).trans F_143
  have Z_78 : h_262 78 = .inl (mN 78, fun _ => 0) := (E_34 78 (by decide) (by decide)).trans F_152
  have Z_79 : h_262 79 = .inl (mN 79, fun _ => 0) := (E_36 79 (by decide) (by decide)).trans F_161
  have Z_80 : h_262 80 = .inl (mN 80, fun _ => 0) := (E_38 80 (by decide) (by decide)).trans F_170
  have Z_81 : h_262 81 = .inl (mN 81, fun _ => 0) := (E_40 81 (by decide) (by decide)).trans F_179
  have Z_82 : h_262 82 = .inl (mN 82, fun _ => 0) := (E_42 82 (by decide) (by decide)).trans F_188
  have Z_83 : h_262 83 = .inl (mN 83, fun _ => 0) := (E_44 83 (by decide) (by decide)).trans F_197
  have Z_84 : h_262 84 = .inl (mN 84, fun _ => 0) := (E_46 84 (by decide) (by decide)).trans F_206
  have Z_85 : h_262 85 = .inl (mN 85, fun _ => 0) := (E_48 85 (by decide) (by decide)).trans F_215
  have Z_86 : h_262 86 = .inl (mN 86, fun _ => 0) := (E_50 86 (by decide) (by decide)).trans F_224
  have Z_87 : h_262 87 = .inl (mN 87, fun _ => 0) := (E_52 87 (by decide) (by decide)).trans F_233
  have Z_88 : h_262 88 = .inl (mN 88, fun _ => 0) := (E_54 88 (by decide) (by decide)).trans F_242
  have Z_89 : h_262 89 = .inl (mN 89, fun _ => 0) := (E_56 89 (by decide) (by decide)).trans F_251
  have Z_90 : h_262 90 = .inl (mN 90, fun _ => 0) := (E_58 90 (by decide) (by decide)).trans F_260
  have S0 : MO h_262 (fun _ _ => 0) (fun _ => 0) (fun k => if k = 1 then 16 else 0) := by
    refine ⟨fun _ => 0, fun _ => 0, fun p hp => ?_, F_265⟩
    rw [Ph_0]
    have hb := isA_b hp
    have hb2 : p = 62 ∨ p = 63 ∨ p = 64 ∨ p = 65 ∨ p = 66 ∨ p = 67 ∨ p = 68 ∨ p = 69 ∨ p = 70 ∨ p = 71 ∨ p = 72 ∨ p = 73 ∨ p = 74 ∨ p = 75 ∨ p = 76 ∨ p = 77 ∨ p = 78 ∨ p = 79 ∨ p = 80 ∨ p = 81 ∨ p = 82 ∨ p = 83 ∨ p = 84 ∨ p = 85 ∨ p = 86 ∨ p = 87 ∨ p = 88 ∨ p = 89 ∨ p = 90 := by omega
    rcases hb2 with rfl | rfl | rfl | rfl | rfl | rfl | rfl | rfl | rfl | rfl | rfl | rfl | rfl | rfl | rfl | rfl | rfl | rfl | rfl | rfl | rfl | rfl | rfl | rfl | rfl | rfl | rfl | rfl | rfl
    · exact Z_62
    · exact Z_63
    · exact Z_64
    · exact Z_65
    · exact Z_66
    · exact Z_67
    · exact Z_68
    · exact Z_69
    · exact Z_70
    · exact Z_71
    · exact Z_72
    · exact Z_73
    · exact Z_74
    · exact Z_75
    · exact Z_76
    · exact Z_77
    · exact Z_78
    · exact Z_79
    · exact Z_80
    · exact Z_81
    · exact Z_82
    · exact Z_83
    · exact Z_84
    · exact Z_85
    · exact Z_86
    · exact Z_87
    · exact Z_88
    · exact Z_89
    · exact Z_90
  have F0 : FM h h_262 := fun x_ hx_ => E_0 x_ (by omega) (by omega)
  refine R_sub [0, 1] rfl ?_
  refine qX12_init_loop (h := h) (ψ := fun _ _ => 0) (fun h2 ψ2 S2 hK hJ hF => ?_) 256 0 (by omega) h_262 _ S0 (FR.rf _ _) ⟨fun b_ hb_ => absurd hb_ (Nat.not_lt_zero b_), fun b_ hb_ => absurd hb_ (Nat.not_lt_zero b_)⟩ F0
  have k1 : ∀ v : BitVec 8, ψ2 65 v.toNat = Bx v := fun v_ => hJ.1 _ v_.isLt
  have k2 : ∀ v : BitVec 8, ψ2 66 v.toNat = Cx v := fun v_ => by
    have q_ := hJ.2 (Cx v_).toNat (Cx v_).isLt
    have b_ : og sbT (Cx v_).toNat = v_ := (BCx v_).1
    rw [b_] at q_
    rw [q_, t8_nI, BitVec.ofNat_toNat, BitVec.setWidth_eq]
  exact R_vreturn (pc := 398) dX12_init_398 rfl (by decide) (by decide) ⟨rfl, rfl, ψ2, S2, fun p_ hp_ => hK p_ hp_, k1, k2, hF⟩
