def vX8_turned (x : Int64) : Int64 := let v_1 := (x ^^^ (jlushr x 7)) &&& (47851476196393130 : Int64); let v_2 := (x ^^^ v_1) ^^^ (jlshl v_1 7); let v_3 := (v_2 ^^^ (jlushr v_2 14)) &&& (225176545447116 : Int64); let v_4 := (v_2 ^^^ v_3) ^^^ (jlshl v_3 14); let v_5 := (v_4 ^^^ (jlushr v_4 28)) &&& (4042322160 : Int64); (v_4 ^^^ v_5) ^^^ (jlshl v_5 28)
set_option maxHeartbeats 4000000 in
set_option maxRecDepth 100000 in
theorem qX8_turned (l : Launch) (w : am_W) (h : am_H) (n : Nat) (x : Int64) : RP l w mX8_turned h n [.long x] (.long (vX8_turned x)) := by
  refine RC.of [(0, .long x)] (by decide +kernel) rfl (Nat.le_of_ble_eq_true rfl) ?_
  refine R_lload_n (pc := 0) 0 dX8_turned_0 rfl rfl ?_
  refine R_lload_n (pc := 1) 0 dX8_turned_1 rfl rfl ?_
  refine R_bipush (pc := 2) (v := 7) dX8_turned_2 (by decide) ?_
  refine R_lushr (pc := 4) (v := jlushr x 7) dX8_turned_4 rfl ?_
  refine R_lxor (pc := 5) dX8_turned_5 ?_
  refine R_ldc2 (pc := 6) dX8_turned_6 cX8_26 ?_
  refine R_land (pc := 9) dX8_turned_9 ?_
  refine R_topl (fun v_1 ev_1 => ?_)
  refine R_lstore_n (pc := 10) (lv' := [(2, .long v_1), (0, .long x)]) dX8_turned_10 rfl (by decide) rfl ?_
  refine R_lload_n (pc := 11) 1 dX8_turned_11 rfl rfl ?_
  refine R_lload_n (pc := 12) 0 dX8_turned_12 rfl rfl ?_
  refine R_lxor (pc := 13) dX8_turned_13 ?_
  refine R_lload_n (pc := 14) 0 dX8_turned_14 rfl rfl ?_
  refine R_bipush (pc := 15) (v := 7) dX8_turned_15 (by decide) ?_
  refine R_lshl (pc := 17) (v := jlshl v_1 7) dX8_turned_17 rfl ?_
  refine R_lxor (pc := 18) dX8_turned_18 ?_
  refine R_topl (fun v_2 ev_2 => ?_)
  refine R_lstore (pc := 19) (lv' := [(4, .long v_2), (2, .long v_1), (0, .long x)]) dX8_turned_19 (by decide) rfl ?_
  refine R_lload (pc := 21) 0 dX8_turned_21 rfl ?_
  refine R_lload (pc := 23) 0 dX8_turned_23 rfl ?_
  refine R_bipush (pc := 25) (v := 14) dX8_turned_25 (by decide) ?_
  refine R_lushr (pc := 27) (v := jlushr v_2 14) dX8_turned_27 rfl ?_
  refine R_lxor (pc := 28) dX8_turned_28 ?_
  refine R_ldc2 (pc := 29) dX8_turned_29 cX8_28 ?_
  refine R_land (pc := 32) dX8_turned_32 ?_
  refine R_topl (fun v_3 ev_3 => ?_)
  refine R_lstore_n (pc := 33) (lv' := [(2, .long v_3), (4, .long v_2), (0, .long x)]) dX8_turned_33 rfl (by decide) rfl ?_
  refine R_lload (pc := 34) 1 dX8_turned_34 rfl ?_
  refine R_lload_n (pc := 36) 0 dX8_turned_36 rfl rfl ?_
  refine R_lxor (pc := 37) dX8_turned_37 ?_
  refine R_lload_n (pc := 38) 0 dX8_turned_38 rfl rfl ?_
  refine R_bipush (pc := 39) (v := 14) dX8_turned_39 (by decide) ?_
  refine R_lshl (pc := 41) (v := jlshl v_3 14) dX8_turned_41 rfl ?_
  refine R_lxor (pc := 42) dX8_turned_42 ?_
  refine R_topl (fun v_4 ev_4 => ?_)
  refine R_lstore (pc := 43) (lv' := [(4, .long v_4), (2, .long v_3), (0, .long x)]) dX8_turned_43 (by decide) rfl ?_
  refine R_lload (pc := 45) 0 dX8_turned_45 rfl ?_
  refine R_lload (pc := 47) 0 dX8_turned_47 rfl ?_
  refine R_bipush (pc := 49) (v := 28) dX8_turned_49 (by decide) ?_
  refine R_lushr (pc := 51) (v := jlushr v_4 28) dX8_turned_51 rfl ?_
  refine R_lxor (pc := 52) dX8_turned_52 ?_
  refine R_ldc2 (pc := 53) dX8_turned_53 cX8_30 ?_
  refine R_land (pc := 56) dX8_turned_56 ?_
  refine R_topl (fun v_5 ev_5 => ?_)
  refine R_lstore_n (pc := 57) (lv' := [(2, .long v_5), (4, .long v_4), (0, .long x)]) dX8_turned_57 rfl (by decide) rfl ?_
  refine R_lload (pc := 58) 1 dX8_turned_58 rfl ?_
  refine R_lload_n (pc := 60) 0 dX8_turned_60 rfl rfl ?_
  refine R_lxor (pc := 61) dX8_turned_61 ?_
  refine R_lload_n (pc := 62) 0 dX8_turned_62 rfl rfl ?_
  refine R_bipush (pc := 63) (v := 28) dX8_turned_63 (by decide) ?_
  refine R_lshl (pc := 65) (v := jlshl v_5 28) dX8_turned_65 rfl ?_
  refine R_lxor (pc := 66) dX8_turned_66 ?_
  exact R_lreturn (pc := 67) dX8_turned_67 rfl (by decide) (by decide) ⟨rfl, rfl, by subst ev_5 ev_4 ev_3 ev_2 ev_1; rfl⟩
def vX8_spread (x : Int64) : Int64 := let v_1 := (jlshl (x &&& (4294901760 : Int64)) 16) ||| (x &&& (65535 : Int64)); let v_2 := jlshl (v_1 &&& (280375465148160 : Int64)) 8; let v_3 := v_2 ||| (v_1 &&& (1095216660735 : Int64)); v_3
set_option maxHeartbeats 4000000 in
set_option maxRecDepth 100000 in
theorem qX8_spread (l : Launch) (w : am_W) (h : am_H) (n : Nat) (x : Int64) : RP l w mX8_spread h n [.long x] (.long (vX8_spread x)) := by
  refine RC.of [(0, .long x)] (by decide +kernel) rfl (Nat.le_of_ble_eq_true rfl) ?_
  refine R_lload_n (pc := 0) 0 dX8_spread_0 rfl rfl ?_
  refine R_ldc2 (pc := 1) dX8_spread_1 cX8_32 ?_
  refine R_land (pc := 4) dX8_spread_4 ?_
  refine R_bipush (pc := 5) (v := 16) dX8_spread_5 (by decide) ?_
  refine R_lshl (pc := 7) (v := jlshl (x &&& (4294901760 : Int64)) 16) dX8_spread_7 rfl ?_
  refine R_lload_n (pc := 8) 0 dX8_spread_8 rfl rfl ?_
  refine R_ldc2 (pc := 9) dX8_spread_9 cX8_34 ?_
  refine R_land (pc := 12) dX8_spread_12 ?_
  refine R_lor (pc := 13) dX8_spread_13 ?_
  refine R_topl (fun v_1 ev_1 => ?_)
  refine R_lstore_n (pc := 14) (lv' := [(2, .long v_1), (0, .long x)]) dX8_spread_14 rfl (by decide) rfl ?_
  refine R_lload_n (pc := 15) 0 dX8_spread_15 rfl rfl ?_
  refine R_ldc2 (pc := 16) dX8_spread_16 cX8_36 ?_
  refine R_land (pc := 19) dX8_spread_19 ?_
  refine R_bipush (pc := 20) (v := 8) dX8_spread_20 (by decide) ?_
  refine R_lshl (pc := 22) (v := jlshl (v_1 &&& (280375465148160 : Int64)) 8) dX8_spread_22 rfl ?_
  refine R_topl (fun v_2 ev_2 => ?_)
  refine R_lload_n (pc := 23) 0 dX8_spread_23 rfl rfl ?_
  refine R_ldc2 (pc := 24) dX8_spread_24 cX8_38 ?_
  refine R_land (pc := 27) dX8_spread_27 ?_
  refine R_lor (pc := 28) dX8_spread_28 ?_
  refine R_topl (fun v_3 ev_3 => ?_)
  exact R_lreturn (pc := 29) dX8_spread_29 rfl (by decide) (by decide) ⟨rfl, rfl, by subst ev_3 ev_2 ev_1; rfl⟩
def vX8_gathered (x : Int64) : Int64 := let v_1 := x &&& (71777214294589695 : Int64); let v_2 := (v_1 ||| (jlushr v_1 8)) &&& (281470681808895 : Int64); let v_3 := (v_2 ||| (jlushr v_2 16)) &&& (4294967295 : Int64); v_3
set_option maxHeartbeats 4000000 in
set_option maxRecDepth 100000 in
theorem qX8_gathered (l : Launch) (w : am_W) (h : am_H) (n : Nat) (x : Int64) : RP l w mX8_gathered h n [.long x] (.long (vX8_gathered x)) := by
  refine RC.of [(0, .long x)] (by decide +kernel) rfl (Nat.le_of_ble_eq_true rfl) ?_
  refine R_lload_n (pc := 0) 0 dX8_gathered_0 rfl rfl ?_
  refine R_ldc2 (pc := 1) dX8_gathered_1 cX8_40 ?_
  refine R_land (pc := 4) dX8_gathered_4 ?_
  refine R_topl (fun v_1 ev_1 => ?_)
  refine R_lstore_n (pc := 5) (lv' := [(2, .long v_1), (0, .long x)]) dX8_gathered_5 rfl (by decide) rfl ?_
  refine R_lload_n (pc := 6) 0 dX8_gathered_6 rfl rfl ?_
  refine R_lload_n (pc := 7) 0 dX8_gathered_7 rfl rfl ?_
  refine R_bipush (pc := 8) (v := 8) dX8_gathered_8 (by decide) ?_
  refine R_lushr (pc := 10) (v := jlushr v_1 8) dX8_gathered_10 rfl ?_
  refine R_lor (pc := 11) dX8_gathered_11 ?_
  refine R_ldc2 (pc := 12) dX8_gathered_12 cX8_42 ?_
  refine R_land (pc := 15) dX8_gathered_15 ?_
  refine R_topl (fun v_2 ev_2 => ?_)
  refine R_lstore_n (pc := 16) (lv' := [(2, .long v_2), (0, .long x)]) dX8_gathered_16 rfl (by decide) rfl ?_
  refine R_lload_n (pc := 17) 0 dX8_gathered_17 rfl rfl ?_
  refine R_lload_n (pc := 18) 0 dX8_gathered_18 rfl rfl ?_
  refine R_bipush (pc := 19) (v := 16) dX8_gathered_19 (by decide) ?_
  refine R_lushr (pc := 21) (v := jlushr v_2 16) dX8_gathered_21 rfl ?_
  refine R_lor (pc := 22) dX8_gathered_22 ?_
  refine R_ldc2 (pc := 23) dX8_gathered_23 cX8_44 ?_
  refine R_land (pc := 26) dX8_gathered_26 ?_
  refine R_topl (fun v_3 ev_3 => ?_)
  exact R_lreturn (pc := 27) dX8_gathered_27 rfl (by decide) (by decide) ⟨rfl, rfl, by subst ev_3 ev_2 ev_1; rfl⟩
def vX8_shifted (x : Int64) : Int64 := let v_1 := (jlshl x 4) &&& (4918005835902239808 : Int64); let v_2 := (x &&& (-8608480567731124088 : Int64)) ||| v_1; let v_3 := (jlushr x 12) &&& (1125917086973956 : Int64); let v_4 := (jlshl x 8) &&& (2449995581255328256 : Int64); let v_5 := (jlushr x 8) &&& (9570295239278626 : Int64); let v_6 := (jlshl x 12) &&& (1152939097061330944 : Int64); let v_7 := (((v_2 ||| v_3) ||| v_4) ||| v_5) ||| v_6; let v_8 := (jlushr x 4) &&& (76843841185972497 : Int64); v_7 ||| v_8
set_option maxHeartbeats 4000000 in
set_option maxRecDepth 100000 in
theorem qX8_shifted (l : Launch) (w : am_W) (h : am_H) (n : Nat) (x : Int64) : RP l w mX8_shifted h n [.long x] (.long (vX8_shifted x)) := by
  refine RC.of [(0, .long x)] (by decide +kernel) rfl (Nat.le_of_ble_eq_true rfl) ?_
  refine R_lload_n (pc := 0) 0 dX8_shifted_0 rfl rfl ?_
  refine R_ldc2 (pc := 1) dX8_shifted_1 cX8_52 ?_
  refine R_land (pc := 4) dX8_shifted_4 ?_
  refine R_lload_n (pc := 5) 0 dX8_shifted_5 rfl rfl ?_
  refine R_iconst (pc := 6) (v := 4) dX8_shifted_6 (by decide) ?_
  refine R_lshl (pc := 7) (v := jlshl x 4) dX8_shifted_7 rfl ?_
  refine R_ldc2 (pc := 8) dX8_shifted_8 cX8_54 ?_
  refine R_land (pc := 11) dX8_shifted_11 ?_
  refine R_topl (fun v_1 ev_1 => ?_)
  refine R_lor (pc := 12) dX8_shifted_12 ?_
  refine R_topl (fun v_2 ev_2 => ?_)
  refine R_lload_n (pc := 13) 0 dX8_shifted_13 rfl rfl ?_
  refine R_bipush (pc := 14) (v := 12) dX8_shifted_14 (by decide) ?_
  refine R_lushr (pc := 16) (v := jlushr x 12) dX8_shifted_16 rfl ?_
  refine R_ldc2 (pc := 17) dX8_shifted_17 cX8_56 ?_
  refine R_land (pc := 20) dX8_shifted_20 ?_
  refine R_topl (fun v_3 ev_3 => ?_)
  refine R_lor (pc := 21) dX8_shifted_21 ?_
  refine R_lload_n (pc := 22) 0 dX8_shifted_22 rfl rfl ?_
  refine R_bipush (pc := 23) (v := 8) dX8_shifted_23 (by decide) ?_
  refine R_lshl (pc := 25) (v := jlshl x 8) dX8_shifted_25 rfl ?_
  refine R_ldc2 (pc := 26) dX8_shifted_26 cX8_58 ?_
  refine R_land (pc := 29) dX8_shifted_29 ?_
  refine R_topl (fun v_4 ev_4 => ?_)
  refine R_lor (pc := 30) dX8_shifted_30 ?_
  refine R_lload_n (pc := 31) 0 dX8_shifted_31 rfl rfl ?_
  refine R_bipush (pc := 32) (v := 8) dX8_shifted_32 (by decide) ?_
  refine R_lushr (pc := 34) (v := jlushr x 8) dX8_shifted_34 rfl ?_
  refine R_ldc2 (pc := 35) dX8_shifted_35 cX8_60 ?_
  refine R_land (pc := 38) dX8_shifted_38 ?_
  refine R_topl (fun v_5 ev_5 => ?_)
  refine R_lor (pc := 39) dX8_shifted_39 ?_
  refine R_lload_n (pc := 40) 0 dX8_shifted_40 rfl rfl ?_
  refine R_bipush (pc := 41) (v := 12) dX8_shifted_41 (by decide) ?_
  refine R_lshl (pc := 43) (v := jlshl x 12) dX8_shifted_43 rfl ?_
  refine R_ldc2 (pc := 44) dX8_shifted_44 cX8_62 ?_
  refine R_land (pc := 47) dX8_shifted_47 ?_
  refine R_topl (fun v_6 ev_6 => ?_)
  refine R_lor (pc := 48) dX8_shifted_48 ?_
  refine R_topl (fun v_7 ev_7 => ?_)
  refine R_lload_n (pc := 49) 0 dX8_shifted_49 rfl rfl ?_
  refine R_iconst (pc := 50) (v := 4) dX8_shifted_50 (by decide) ?_
  refine R_lushr (pc := 51) (v := jlushr x 4) dX8_shifted_51 rfl ?_
  refine R_ldc2 (pc := 52) dX8_shifted_52 cX8_64 ?_
  refine R_land (pc := 55) dX8_shifted_55 ?_
  refine R_topl (fun v_8 ev_8 => ?_)
  refine R_lor (pc := 56) dX8_shifted_56 ?_
  exact R_lreturn (pc := 57) dX8_shifted_57 rfl (by decide) (by decide) ⟨rfl, rfl, by subst ev_8 ev_7 ev_6 ev_5 ev_4 ev_3 ev_2 ev_1; rfl⟩
def vX8_shiftedBack (x : Int64) : Int64 := let v_1 := (jlushr x 4) &&& (307375364743889988 : Int64); let v_2 := (x &&& (-8608480567731124088 : Int64)) ||| v_1; let v_3 := (jlshl x 12) &&& (4611756388245323776 : Int64); let v_4 := (jlushr x 8) &&& (9570295239278626 : Int64); let v_5 := (jlshl x 8) &&& (2449995581255328256 : Int64); let v_6 := (jlushr x 12) &&& (281479271743489 : Int64); let v_7 := (((v_2 ||| v_3) ||| v_4) ||| v_5) ||| v_6; let v_8 := (jlshl x 4) &&& (1229501458975559952 : Int64); v_7 ||| v_8
set_option maxHeartbeats 4000000 in
set_option maxRecDepth 100000 in
theorem qX8_shiftedBack (l : Launch) (w : am_W) (h : am_H) (n : Nat) (x : Int64) : RP l w mX8_shiftedBack h n [.long x] (.long (vX8_shiftedBack x)) := by
  refine RC.of [(0, .long x)] (by decide +kernel) rfl (Nat.le_of_ble_eq_true rfl) ?_
  refine R_lload_n (pc := 0) 0 dX8_shiftedBack_0 rfl rfl ?_
  refine R_ldc2 (pc := 1) dX8_shiftedBack_1 cX8_52 ?_
  refine R_land (pc := 4) dX8_shiftedBack_4 ?_
  refine R_lload_n (pc := 5) 0 dX8_shiftedBack_5 rfl rfl ?_
  refine R_iconst (pc := 6) (v := 4) dX8_shiftedBack_6 (by decide) ?_
  refine R_lushr (pc := 7) (v := jlushr x 4) dX8_shiftedBack_7 rfl ?_
  refine R_ldc2 (pc := 8) dX8_shiftedBack_8 cX8_66 ?_
  refine R_land (pc := 11) dX8_shiftedBack_11 ?_
  refine R_topl (fun v_1 ev_1 => ?_)
  refine R_lor (pc := 12) dX8_shiftedBack_12 ?_
  refine R_topl (fun v_2 ev_2 => ?_)
  refine R_lload_n (pc := 13) 0 dX8_shiftedBack_13 rfl rfl ?_
  refine R_bipush (pc := 14) (v := 12) dX8_shiftedBack_14 (by decide) ?_
  refine R_lshl (pc := 16) (v := jlshl x 12) dX8_shiftedBack_16 rfl ?_
  refine R_ldc2 (pc := 17) dX8_shiftedBack_17 cX8_68 ?_
  refine R_land (pc := 20) dX8_shiftedBack_20 ?_
  refine R_topl (fun v_3 ev_3 => ?_)
  refine R_lor (pc := 21) dX8_shiftedBack_21 ?_
  refine R_lload_n (pc := 22) 0 dX8_shiftedBack_22 rfl rfl ?_
  refine R_bipush (pc := 23) (v := 8) dX8_shiftedBack_23 (by decide) ?_
  refine R_lushr (pc := 25) (v := jlushr x 8) dX8_shiftedBack_25 rfl ?_
  refine R_ldc2 (pc := 26) dX8_shiftedBack_26 cX8_60 ?_
  refine R_land (pc := 29) dX8_shiftedBack_29 ?_
  refine R_topl (fun v_4 ev_4 => ?_)
  refine R_lor (pc := 30) dX8_shiftedBack_30 ?_
  refine R_lload_n (pc := 31) 0 dX8_shiftedBack_31 rfl rfl ?_
  refine R_bipush (pc := 32) (v := 8) dX8_shiftedBack_32 (by decide) ?_
  refine R_lshl (pc := 34) (v := jlshl x 8) dX8_shiftedBack_34 rfl ?_
  refine R_ldc2 (pc := 35) dX8_shiftedBack_35 cX8_58 ?_
  refine R_land (pc := 38) dX8_shiftedBack_38 ?_
  refine R_topl (fun v_5 ev_5 => ?_)
  refine R_lor (pc := 39) dX8_shiftedBack_39 ?_
  refine R_lload_n (pc := 40) 0 dX8_shiftedBack_40 rfl rfl ?_
  refine R_bipush (pc := 41) (v := 12) dX8_shiftedBack_41 (by decide) ?_
  refine R_lushr (pc := 43) (v := jlushr x 12) dX8_shiftedBack_43 rfl ?_
  refine R_ldc2 (pc := 44) dX8_shiftedBack_44 cX8_70 ?_
  refine R_land (pc := 47) dX8_shiftedBack_47 ?_
  refine R_topl (fun v_6 ev_6 => ?_)
  refine R_lor (pc := 48) dX8_shiftedBack_48 ?_
  refine R_topl (fun v_7 ev_7 => ?_)
  refine R_lload_n (pc := 49) 0 dX8_shiftedBack_49 rfl rfl ?_
  refine R_iconst (pc := 50) (v := 4) dX8_shiftedBack_50 (by decide) ?_
  refine R_lshl (pc := 51) (v := jlshl x 4) dX8_shiftedBack_51 rfl ?_
  refine R_ldc2 (pc := 52) dX8_shiftedBack_52 cX8_72 ?_
  refine R_land (pc := 55) dX8_shiftedBack_55 ?_
  refine R_topl (fun v_8 ev_8 => ?_)
  refine R_lor (pc := 56) dX8_shiftedBack_56 ?_
  exact R_lreturn (pc := 57) dX8_shiftedBack_57 rfl (by decide) (by decide) ⟨rfl, rfl, by subst ev_8 ev_7 ev_6 ev_5 ev_4 ev_3 ev_2 ev_1; rfl⟩
def vX8_nextOctets (x : Int64) : Int64 := let v_1 := (jlshl x 1) &&& (-1229782938247303442 : Int64); let v_2 := (jlushr x 3) &&& (1229782938247303441 : Int64); v_1 ||| v_2
set_option maxHeartbeats 4000000 in
set_option maxRecDepth 100000 in
theorem qX8_nextOctets (l : Launch) (w : am_W) (h : am_H) (n : Nat) (x : Int64) : RP l w mX8_nextOctets h n [.long x] (.long (vX8_nextOctets x)) := by
  refine RC.of [(0, .long x)] (by decide +kernel) rfl (Nat.le_of_ble_eq_true rfl) ?_
  refine R_lload_n (pc := 0) 0 dX8_nextOctets_0 rfl rfl ?_
  refine R_iconst (pc := 1) (v := 1) dX8_nextOctets_1 (by decide) ?_
  refine R_lshl (pc := 2) (v := jlshl x 1) dX8_nextOctets_2 rfl ?_
  refine R_ldc2 (pc := 3) dX8_nextOctets_3 cX8_82 ?_
  refine R_land (pc := 6) dX8_nextOctets_6 ?_
  refine R_topl (fun v_1 ev_1 => ?_)
  refine R_lload_n (pc := 7) 0 dX8_nextOctets_7 rfl rfl ?_
  refine R_iconst (pc := 8) (v := 3) dX8_nextOctets_8 (by decide) ?_
  refine R_lushr (pc := 9) (v := jlushr x 3) dX8_nextOctets_9 rfl ?_
  refine R_ldc2 (pc := 10) dX8_nextOctets_10 cX8_84 ?_
  refine R_land (pc := 13) dX8_nextOctets_13 ?_
  refine R_topl (fun v_2 ev_2 => ?_)
  refine R_lor (pc := 14) dX8_nextOctets_14 ?_
  exact R_lreturn (pc := 15) dX8_nextOctets_15 rfl (by decide) (by decide) ⟨rfl, rfl, by subst ev_2 ev_1; rfl⟩
def vX8_acrossOctets (x : Int64) : Int64 := let v_1 := (jlshl x 2) &&& (-3689348814741910324 : Int64); let v_2 := (jlushr x 2) &&& (3689348814741910323 : Int64); v_1 ||| v_2
set_option maxHeartbeats 4000000 in
set_option maxRecDepth 100000 in
theorem qX8_acrossOctets (l : Launch) (w : am_W) (h : am_H) (n : Nat) (x : Int64) : RP l w mX8_acrossOctets h n [.long x] (.long (vX8_acrossOctets x)) := by
  refine RC.of [(0, .long x)] (by decide +kernel) rfl (Nat.le_of_ble_eq_true rfl) ?_
  refine R_lload_n (pc := 0) 0 dX8_acrossOctets_0 rfl rfl ?_
  refine R_iconst (pc := 1) (v := 2) dX8_acrossOctets_1 (by decide) ?_
  refine R_lshl (pc := 2) (v := jlshl x 2) dX8_acrossOctets_2 rfl ?_
  refine R_ldc2 (pc := 3) dX8_acrossOctets_3 cX8_86 ?_
  refine R_land (pc := 6) dX8_acrossOctets_6 ?_
  refine R_topl (fun v_1 ev_1 => ?_)
  refine R_lload_n (pc := 7) 0 dX8_acrossOctets_7 rfl rfl ?_
  refine R_iconst (pc := 8) (v := 2) dX8_acrossOctets_8 (by decide) ?_
  refine R_lushr (pc := 9) (v := jlushr x 2) dX8_acrossOctets_9 rfl ?_
  refine R_ldc2 (pc := 10) dX8_acrossOctets_10 cX8_88 ?_
  refine R_land (pc := 13) dX8_acrossOctets_13 ?_
  refine R_topl (fun v_2 ev_2 => ?_)
  refine R_lor (pc := 14) dX8_acrossOctets_14 ?_
  exact R_lreturn (pc := 15) dX8_acrossOctets_15 rfl (by decide) (by decide) ⟨rfl, rfl, by subst ev_2 ev_1; rfl⟩
def vX8_split (lo hi : Int64) (p : Int64) (q : Int64) : Int64 × Int64 := let v_1 := vX8_turned p; let v_2 := vX8_turned q; let v_3 := (jlshl (vX8_spread v_1) 8) ||| (vX8_spread v_2); let v_7 := (jlshl (vX8_spread (jlushr v_1 32)) 8) ||| (vX8_spread (jlushr v_2 32)); (v_3, v_7)
set_option maxHeartbeats 4000000 in
set_option maxRecDepth 100000 in
theorem qX8_split (l : Launch) (w : am_W) (h : am_H) (n a : Nat) (lo hi : Int64) (p : Int64) (q : Int64) (ha : h a = .inr (.inr (8, [.long lo, .long hi]))) (hn : 0 < a ∧ a ≤ n) : RH l w mX8_split h n [.ref a, .long p, .long q] (fun h' r => r = none ∧ h' a = .inr (.inr (8, [.long ((vX8_split lo hi p q).1), .long ((vX8_split lo hi p q).2)])) ∧ ∀ x, x ≠ a → h' x = h x) := by
  refine RC.of [(0, .ref a), (1, .long p), (3, .long q)] (by decide +kernel) rfl (Nat.le_of_ble_eq_true rfl) ?_
  refine R_lload_n (pc := 0) 1 dX8_split_0 rfl rfl ?_
  refine R_callSp (pc := 1) (μ' := mX8_turned) (As := [.long p]) (st := []) dX8_split_1 zX8_turned lX8_7 ⟨by decide, by decide⟩ rfl rfl ⟨by decide, by decide⟩ rfl (Nat.le_of_ble_eq_true rfl) (qX8_turned l w _ _ _) ?_
  refine R_topl (fun v_1 ev_1 => ?_)
  refine R_lstore (pc := 4) (lv' := [(5, .long v_1), (0, .ref a), (1, .long p), (3, .long q)]) dX8_split_4 (by decide) rfl ?_
  refine R_lload_n (pc := 6) 3 dX8_split_6 rfl rfl ?_
  refine R_callSp (pc := 7) (μ' := mX8_turned) (As := [.long q]) (st := []) dX8_split_7 zX8_turned lX8_7 ⟨by decide, by decide⟩ rfl rfl ⟨by decide, by decide⟩ rfl (Nat.le_of_ble_eq_true rfl) (qX8_turned l w _ _ _) ?_
  refine R_topl (fun v_2 ev_2 => ?_)
  refine R_lstore (pc := 10) (lv' := [(7, .long v_2), (5, .long v_1), (0, .ref a), (1, .long p), (3, .long q)]) dX8_split_10 (by decide) rfl ?_
  refine R_aload_n (pc := 12) 2 dX8_split_12 rfl rfl ?_
  refine R_lload (pc := 13) 1 dX8_split_13 rfl ?_
  refine R_callSp (pc := 15) (μ' := mX8_spread) (As := [.long v_1]) (st := [.ref a]) dX8_split_15 zX8_spread lX8_13 ⟨by decide, by decide⟩ rfl rfl ⟨by decide, by decide⟩ rfl (Nat.le_of_ble_eq_true rfl) (qX8_spread l w _ _ _) ?_
  refine R_bipush (pc := 18) (v := 8) dX8_split_18 (by decide) ?_
  refine R_lshl (pc := 20) (v := jlshl (vX8_spread v_1) 8) dX8_split_20 rfl ?_
  refine R_lload (pc := 21) 0 dX8_split_21 rfl ?_
  refine R_callSp (pc := 23) (μ' := mX8_spread) (As := [.long v_2]) (st := [.long (jlshl (vX8_spread v_1) 8), .ref a]) dX8_split_23 zX8_spread lX8_13 ⟨by decide, by decide⟩ rfl rfl ⟨by decide, by decide⟩ rfl (Nat.le_of_ble_eq_true rfl) (qX8_spread l w _ _ _) ?_
  refine R_lor (pc := 26) dX8_split_26 ?_
  refine R_topl (fun v_3 ev_3 => ?_)
  refine R_put' (pc := 27) (fs' := [.long v_3, .long hi]) dX8_split_27 fX8_16 tX8_0 rfl rfl ha (by omega) (Nat.le_of_ble_eq_true rfl) rfl (fun h_4 f_5 g_6 => ?_)
  refine R_aload_n (pc := 30) 2 dX8_split_30 rfl rfl ?_
  refine R_lload (pc := 31) 1 dX8_split_31 rfl ?_
  refine R_bipush (pc := 33) (v := 32) dX8_split_33 (by decide) ?_
  refine R_lushr (pc := 35) (v := jlushr v_1 32) dX8_split_35 rfl ?_
  refine R_callSp (pc := 36) (μ' := mX8_spread) (As := [.long (jlushr v_1 32)]) (st := [.ref a]) dX8_split_36 zX8_spread lX8_13 ⟨by decide, by decide⟩ rfl rfl ⟨by decide, by decide⟩ rfl (Nat.le_of_ble_eq_true rfl) (qX8_spread l w _ _ _) ?_
  refine R_bipush (pc := 39) (v := 8) dX8_split_39 (by decide) ?_
  refine R_lshl (pc := 41) (v := jlshl (vX8_spread (jlushr v_1 32)) 8) dX8_split_41 rfl ?_
  refine R_lload (pc := 42) 0 dX8_split_42 rfl ?_
  refine R_bipush (pc := 44) (v := 32) dX8_split_44 (by decide) ?_
  refine R_lushr (pc := 46) (v := jlushr v_2 32) dX8_split_46 rfl ?_
  refine R_callSp (pc := 47) (μ' := mX8_spread) (As := [.long (jlushr v_2 32)]) (st := [.long (jlshl (vX8_spread (jlushr v_1 32)) 8), .ref a]) dX8_split_47 zX8_spread lX8_13 ⟨by decide, by decide⟩ rfl rfl ⟨by decide, by decide⟩ rfl (Nat.le_of_ble_eq_true rfl) (qX8_spread l w _ _ _) ?_
  refine R_lor (pc := 50) dX8_split_50 ?_
  refine R_topl (fun v_7 ev_7 => ?_)
  refine R_put' (pc := 51) (fs' := [.long v_3, .long v_7]) dX8_split_51 fX8_20 tX8_1 rfl rfl f_5 (by omega) (Nat.le_of_ble_eq_true rfl) rfl (fun h_8 f_9 g_10 => ?_)
  refine R_vreturn (pc := 54) dX8_split_54 rfl (by decide) (by decide) ⟨rfl, rfl, ?_, (fun x_ n0_ => ((g_10 x_ n0_).trans (g_6 x_ n0_)))⟩
  rw [f_9]
  subst ev_7 ev_3 ev_2 ev_1; rfl
def vX8_shiftRows (lo hi : Int64) : Int64 × Int64 := (vX8_shifted lo, vX8_shifted hi)
set_option maxHeartbeats 4000000 in
set_option maxRecDepth 100000 in
theorem qX8_shiftRows (l : Launch) (w : am_W) (h : am_H) (n a : Nat) (lo hi : Int64) (ha : h a = .inr (.inr (8, [.long lo, .long hi]))) (hn : 0 < a ∧ a ≤ n) : RH l w mX8_shiftRows h n [.ref a] (fun h' r => r = none ∧ h' a = .inr (.inr (8, [.long ((vX8_shiftRows lo hi).1), .long ((vX8_shiftRows lo hi).2)])) ∧ ∀ x, x ≠ a → h' x = h x) := by
  refine RC.of [(0, .ref a)] (by decide +kernel) rfl (Nat.le_of_ble_eq_true rfl) ?_
  refine R_aload_n (pc := 0) 0 dX8_shiftRows_0 rfl rfl ?_
  refine R_aload_n (pc := 1) 0 dX8_shiftRows_1 rfl rfl ?_
  refine R_get (pc := 2) dX8_shiftRows_2 fX8_16 ha (by omega) rfl ?_
  refine R_callSp (pc := 5) (μ' := mX8_shifted) (As := [.long lo]) (st := [.ref a]) dX8_shiftRows_5 zX8_shifted lX8_46 ⟨by decide, by decide⟩ rfl rfl ⟨by decide, by decide⟩ rfl (Nat.le_of_ble_eq_true rfl) (qX8_shifted l w _ _ _) ?_
  refine R_put' (pc := 8) (fs' := [.long (vX8_shifted lo), .long hi]) dX8_shiftRows_8 fX8_16 tX8_0 rfl rfl ha (by omega) (Nat.le_of_ble_eq_true rfl) rfl (fun h_1 f_2 g_3 => ?_)
  refine R_aload_n (pc := 11) 0 dX8_shiftRows_11 rfl rfl ?_
  refine R_aload_n (pc := 12) 0 dX8_shiftRows_12 rfl rfl ?_
  refine R_get (pc := 13) dX8_shiftRows_13 fX8_20 f_2 (by omega) rfl ?_
  refine R_callSp (pc := 16) (μ' := mX8_shifted) (As := [.long hi]) (st := [.ref a]) dX8_shiftRows_16 zX8_shifted lX8_46 ⟨by decide, by decide⟩ rfl rfl ⟨by decide, by decide⟩ rfl (Nat.le_of_ble_eq_true rfl) (qX8_shifted l w _ _ _) ?_
  refine R_put' (pc := 19) (fs' := [.long (vX8_shifted lo), .long (vX8_shifted hi)]) dX8_shiftRows_19 fX8_20 tX8_1 rfl rfl f_2 (by omega) (Nat.le_of_ble_eq_true rfl) rfl (fun h_4 f_5 g_6 => ?_)
  refine R_vreturn (pc := 22) dX8_shiftRows_22 rfl (by decide) (by decide) ⟨rfl, rfl, ?_, (fun x_ n0_ => ((g_6 x_ n0_).trans (g_3 x_ n0_)))⟩
  rw [f_5]
  rfl
def vX8_shiftRowsBack (lo hi : Int64) : Int64 × Int64 := (vX8_shiftedBack lo, vX8_shiftedBack hi)
set_option maxHeartbeats 4000000 in
set_option maxRecDepth 100000 in
theorem qX8_shiftRowsBack (l : Launch) (w : am_W) (h : am_H) (n a : Nat) (lo hi : Int64) (ha : h a = .inr (.inr (8, [.long lo, .long hi]))) (hn : 0 < a ∧ a ≤ n) : RH l w mX8_shiftRowsBack h n [.ref a] (fun h' r => r = none ∧ h' a = .inr (.inr (8, [.long ((vX8_shiftRowsBack lo hi).1), .long ((vX8_shiftRowsBack lo hi).2)])) ∧ ∀ x, x ≠ a → h' x = h x) := by
  refine RC.of [(0, .ref a)] (by decide +kernel) rfl (Nat.le_of_ble_eq_true rfl) ?_
  refine R_aload_n (pc := 0) 0 dX8_shiftRowsBack_0 rfl rfl ?_
  refine R_aload_n (pc := 1) 0 dX8_shiftRowsBack_1 rfl rfl ?_
  refine R_get (pc := 2) dX8_shiftRowsBack_2 fX8_16 ha (by omega) rfl ?_
  refine R_callSp (pc := 5) (μ' := mX8_shiftedBack) (As := [.long lo]) (st := [.ref a]) dX8_shiftRowsBack_5 zX8_shiftedBack lX8_49 ⟨by decide, by decide⟩ rfl rfl ⟨by decide, by decide⟩ rfl (Nat.le_of_ble_eq_true rfl) (qX8_shiftedBack l w _ _ _) ?_
  refine R_put' (pc := 8) (fs' := [.long (vX8_shiftedBack lo), .long hi]) dX8_shiftRowsBack_8 fX8_16 tX8_0 rfl rfl ha (by omega) (Nat.le_of_ble_eq_true rfl) rfl (fun h_1 f_2 g_3 => ?_)
  refine R_aload_n (pc := 11) 0 dX8_shiftRowsBack_11 rfl rfl ?_
  refine R_aload_n (pc := 12) 0 dX8_shiftRowsBack_12 rfl rfl ?_
  refine R_get (pc := 13) dX8_shiftRowsBack_13 fX8_20 f_2 (by omega) rfl ?_
  refine R_callSp (pc := 16) (μ' := mX8_shiftedBack) (As := [.long hi]) (st := [.ref a]) dX8_shiftRowsBack_16 zX8_shiftedBack lX8_49 ⟨by decide, by decide⟩ rfl rfl ⟨by decide, by decide⟩ rfl (Nat.le_of_ble_eq_true rfl) (qX8_shiftedBack l w _ _ _) ?_
  refine R_put' (pc := 19) (fs' := [.long (vX8_shiftedBack lo), .long (vX8_shiftedBack hi)]) dX8_shiftRowsBack_19 fX8_20 tX8_1 rfl rfl f_2 (by omega) (Nat.le_of_ble_eq_true rfl) rfl (fun h_4 f_5 g_6 => ?_)
  refine R_vreturn (pc := 22) dX8_shiftRowsBack_22 rfl (by decide) (by decide) ⟨rfl, rfl, ?_, (fun x_ n0_ => ((g_6 x_ n0_).trans (g_3 x_ n0_)))⟩
  rw [f_5]
  rfl
def vX8_mixWords (lo hi : Int64) : Int64 × Int64 := let v_1 := vX8_nextOctets lo; let v_2 := vX8_nextOctets hi; let v_3 := lo ^^^ v_1; let v_4 := hi ^^^ v_2; let v_5 := jlushr v_4 48; let v_6 := (jlshl v_3 16) ^^^ (v_5 * (281474976776193 : Int64)); let v_10 := ((jlshl v_4 16) ||| (jlushr v_3 48)) ^^^ v_5; let v_11 := (v_10 ^^^ v_2) ^^^ (vX8_acrossOctets v_4); ((v_6 ^^^ v_1) ^^^ (vX8_acrossOctets v_3), v_11)
set_option maxHeartbeats 4000000 in
set_option maxRecDepth 100000 in
theorem qX8_mixWords (l : Launch) (w : am_W) (h : am_H) (n a : Nat) (lo hi : Int64) (ha : h a = .inr (.inr (8, [.long lo, .long hi]))) (hn : 0 < a ∧ a ≤ n) : RH l w mX8_mixWords h n [.ref a] (fun h' r => r = none ∧ h' a = .inr (.inr (8, [.long ((vX8_mixWords lo hi).1), .long ((vX8_mixWords lo hi).2)])) ∧ ∀ x, x ≠ a → h' x = h x) := by
  refine RC.of [(0, .ref a)] (by decide +kernel) rfl (Nat.le_of_ble_eq_true rfl) ?_
  refine R_aload_n (pc := 0) 0 dX8_mixWords_0 rfl rfl ?_
  refine R_get (pc := 1) dX8_mixWords_1 fX8_16 ha (by omega) rfl ?_
  refine R_callSp (pc := 4) (μ' := mX8_nextOctets) (As := [.long lo]) (st := []) dX8_mixWords_4 zX8_nextOctets lX8_74 ⟨by decide, by decide⟩ rfl rfl ⟨by decide, by decide⟩ rfl (Nat.le_of_ble_eq_true rfl) (qX8_nextOctets l w _ _ _) ?_
  refine R_topl (fun v_1 ev_1 => ?_)
  refine R_lstore_n (pc := 7) (lv' := [(1, .long v_1), (0, .ref a)]) dX8_mixWords_7 rfl (by decide) rfl ?_
  refine R_aload_n (pc := 8) 1 dX8_mixWords_8 rfl rfl ?_
  refine R_get (pc := 9) dX8_mixWords_9 fX8_20 ha (by omega) rfl ?_
  refine R_callSp (pc := 12) (μ' := mX8_nextOctets) (As := [.long hi]) (st := []) dX8_mixWords_12 zX8_nextOctets lX8_74 ⟨by decide, by decide⟩ rfl rfl ⟨by decide, by decide⟩ rfl (Nat.le_of_ble_eq_true rfl) (qX8_nextOctets l w _ _ _) ?_
  refine R_topl (fun v_2 ev_2 => ?_)
  refine R_lstore_n (pc := 15) (lv' := [(3, .long v_2), (1, .long v_1), (0, .ref a)]) dX8_mixWords_15 rfl (by decide) rfl ?_
  refine R_aload_n (pc := 16) 2 dX8_mixWords_16 rfl rfl ?_
  refine R_get (pc := 17) dX8_mixWords_17 fX8_16 ha (by omega) rfl ?_
  refine R_lload_n (pc := 20) 1 dX8_mixWords_20 rfl rfl ?_
  refine R_lxor (pc := 21) dX8_mixWords_21 ?_
  refine R_topl (fun v_3 ev_3 => ?_)
  refine R_lstore (pc := 22) (lv' := [(5, .long v_3), (3, .long v_2), (1, .long v_1), (0, .ref a)]) dX8_mixWords_22 (by decide) rfl ?_
  refine R_aload_n (pc := 24) 3 dX8_mixWords_24 rfl rfl ?_
  refine R_get (pc := 25) dX8_mixWords_25 fX8_20 ha (by omega) rfl ?_
  refine R_lload_n (pc := 28) 1 dX8_mixWords_28 rfl rfl ?_
  refine R_lxor (pc := 29) dX8_mixWords_29 ?_
  refine R_topl (fun v_4 ev_4 => ?_)
  refine R_lstore (pc := 30) (lv' := [(7, .long v_4), (5, .long v_3), (3, .long v_2), (1, .long v_1), (0, .ref a)]) dX8_mixWords_30 (by decide) rfl ?_
  refine R_lload (pc := 32) 0 dX8_mixWords_32 rfl ?_
  refine R_bipush (pc := 34) (v := 48) dX8_mixWords_34 (by decide) ?_
  refine R_lushr (pc := 36) (v := jlushr v_4 48) dX8_mixWords_36 rfl ?_
  refine R_topl (fun v_5 ev_5 => ?_)
  refine R_lstore (pc := 37) (lv' := [(9, .long v_5), (7, .long v_4), (5, .long v_3), (3, .long v_2), (1, .long v_1), (0, .ref a)]) dX8_mixWords_37 (by decide) rfl ?_
  refine R_aload_n (pc := 39) 5 dX8_mixWords_39 rfl rfl ?_
  refine R_lload (pc := 40) 2 dX8_mixWords_40 rfl ?_
  refine R_bipush (pc := 42) (v := 16) dX8_mixWords_42 (by decide) ?_
  refine R_lshl (pc := 44) (v := jlshl v_3 16) dX8_mixWords_44 rfl ?_
  refine R_lload (pc := 45) 0 dX8_mixWords_45 rfl ?_
  refine R_ldc2 (pc := 47) dX8_mixWords_47 cX8_77 ?_
  refine R_lmul (pc := 50) dX8_mixWords_50 ?_
  refine R_lxor (pc := 51) dX8_mixWords_51 ?_
  refine R_topl (fun v_6 ev_6 => ?_)
  refine R_lload_n (pc := 52) 4 dX8_mixWords_52 rfl rfl ?_
  refine R_lxor (pc := 53) dX8_mixWords_53 ?_
  refine R_lload (pc := 54) 2 dX8_mixWords_54 rfl ?_
  refine R_callSp (pc := 56) (μ' := mX8_acrossOctets) (As := [.long v_3]) (st := [.long (v_6 ^^^ v_1), .ref a]) dX8_mixWords_56 zX8_acrossOctets lX8_79 ⟨by decide, by decide⟩ rfl rfl ⟨by decide, by decide⟩ rfl (Nat.le_of_ble_eq_true rfl) (qX8_acrossOctets l w _ _ _) ?_
  refine R_lxor (pc := 59) dX8_mixWords_59 ?_
  refine R_put' (pc := 60) (fs' := [.long ((v_6 ^^^ v_1) ^^^ (vX8_acrossOctets v_3)), .long hi]) dX8_mixWords_60 fX8_16 tX8_0 rfl rfl ha (by omega) (Nat.le_of_ble_eq_true rfl) rfl (fun h_7 f_8 g_9 => ?_)
  refine R_aload_n (pc := 63) 5 dX8_mixWords_63 rfl rfl ?_
  refine R_lload (pc := 64) 1 dX8_mixWords_64 rfl ?_
  refine R_bipush (pc := 66) (v := 16) dX8_mixWords_66 (by decide) ?_
  refine R_lshl (pc := 68) (v := jlshl v_4 16) dX8_mixWords_68 rfl ?_
  refine R_lload (pc := 69) 2 dX8_mixWords_69 rfl ?_
  refine R_bipush (pc := 71) (v := 48) dX8_mixWords_71 (by decide) ?_
  refine R_lushr (pc := 73) (v := jlushr v_3 48) dX8_mixWords_73 rfl ?_
  refine R_lor (pc := 74) dX8_mixWords_74 ?_
  refine R_lload (pc := 75) 0 dX8_mixWords_75 rfl ?_
  refine R_lxor (pc := 77) dX8_mixWords_77 ?_
  refine R_topl (fun v_10 ev_10 => ?_)
  refine R_lload_n (pc := 78) 3 dX8_mixWords_78 rfl rfl ?_
  refine R_lxor (pc := 79) dX8_mixWords_79 ?_
  refine R_lload (pc := 80) 1 dX8_mixWords_80 rfl ?_
  refine R_callSp (pc := 82) (μ' := mX8_acrossOctets) (As := [.long v_4]) (st := [.long (v_10 ^^^ v_2), .ref a]) dX8_mixWords_82 zX8_acrossOctets lX8_79 ⟨by decide, by decide⟩ rfl rfl ⟨by decide, by decide⟩ rfl (Nat.le_of_ble_eq_true rfl) (qX8_acrossOctets l w _ _ _) ?_
  refine R_lxor (pc := 85) dX8_mixWords_85 ?_
  refine R_topl (fun v_11 ev_11 => ?_)
  refine R_put' (pc := 86) (fs' := [.long ((v_6 ^^^ v_1) ^^^ (vX8_acrossOctets v_3)), .long v_11]) dX8_mixWords_86 fX8_20 tX8_1 rfl rfl f_8 (by omega) (Nat.le_of_ble_eq_true rfl) rfl (fun h_12 f_13 g_14 => ?_)
  refine R_vreturn (pc := 89) dX8_mixWords_89 rfl (by decide) (by decide) ⟨rfl, rfl, ?_, (fun x_ n0_ => ((g_14 x_ n0_).trans (g_9 x_ n0_)))⟩
  rw [f_13]
  subst ev_11 ev_10 ev_6 ev_5 ev_4 ev_3 ev_2 ev_1; rfl
def vX8_undoLinearEnd (lo hi : Int64) : Int64 × Int64 := let v_1 := lo ^^^ (4294967295 : Int64); let v_2 := hi ^^^ (281474976645120 : Int64); let v_3 := ((jlushr v_1 32) ||| (jlshl v_2 32)) ^^^ ((jlushr v_2 16) ||| (jlshl v_1 48)); let v_4 := v_3 ^^^ ((jlushr v_2 48) ||| (jlshl v_1 16)); let v_8 := ((jlushr v_2 32) ||| (jlshl v_1 32)) ^^^ ((jlushr v_1 16) ||| (jlshl v_2 48)); let v_9 := v_8 ^^^ ((jlushr v_1 48) ||| (jlshl v_2 16)); (v_4, v_9)
set_option maxHeartbeats 4000000 in
set_option maxRecDepth 100000 in
theorem qX8_undoLinearEnd (l : Launch) (w : am_W) (h : am_H) (n a : Nat) (lo hi : Int64) (ha : h a = .inr (.inr (8, [.long lo, .long hi]))) (hn : 0 < a ∧ a ≤ n) : RH l w mX8_undoLinearEnd h n [.ref a] (fun h' r => r = none ∧ h' a = .inr (.inr (8, [.long ((vX8_undoLinearEnd lo hi).1), .long ((vX8_undoLinearEnd lo hi).2)])) ∧ ∀ x, x ≠ a → h' x = h x) := by
  refine RC.of [(0, .ref a)] (by decide +kernel) rfl (Nat.le_of_ble_eq_true rfl) ?_
  refine R_aload_n (pc := 0) 0 dX8_undoLinearEnd_0 rfl rfl ?_
  refine R_get (pc := 1) dX8_undoLinearEnd_1 fX8_16 ha (by omega) rfl ?_
  refine R_ldc2 (pc := 4) dX8_undoLinearEnd_4 cX8_44 ?_
  refine R_lxor (pc := 7) dX8_undoLinearEnd_7 ?_
  refine R_topl (fun v_1 ev_1 => ?_)
  refine R_lstore_n (pc := 8) (lv' := [(1, .long v_1), (0, .ref a)]) dX8_undoLinearEnd_8 rfl (by decide) rfl ?_
  refine R_aload_n (pc := 9) 1 dX8_undoLinearEnd_9 rfl rfl ?_
  refine R_get (pc := 10) dX8_undoLinearEnd_10 fX8_20 ha (by omega) rfl ?_
  refine R_ldc2 (pc := 13) dX8_undoLinearEnd_13 cX8_96 ?_
  refine R_lxor (pc := 16) dX8_undoLinearEnd_16 ?_
  refine R_topl (fun v_2 ev_2 => ?_)
  refine R_lstore_n (pc := 17) (lv' := [(3, .long v_2), (1, .long v_1), (0, .ref a)]) dX8_undoLinearEnd_17 rfl (by decide) rfl ?_
  refine R_aload_n (pc := 18) 2 dX8_undoLinearEnd_18 rfl rfl ?_
  refine R_lload_n (pc := 19) 1 dX8_undoLinearEnd_19 rfl rfl ?_
  refine R_bipush (pc := 20) (v := 32) dX8_undoLinearEnd_20 (by decide) ?_
  refine R_lushr (pc := 22) (v := jlushr v_1 32) dX8_undoLinearEnd_22 rfl ?_
  refine R_lload_n (pc := 23) 0 dX8_undoLinearEnd_23 rfl rfl ?_
  refine R_bipush (pc := 24) (v := 32) dX8_undoLinearEnd_24 (by decide) ?_
  refine R_lshl (pc := 26) (v := jlshl v_2 32) dX8_undoLinearEnd_26 rfl ?_
  refine R_lor (pc := 27) dX8_undoLinearEnd_27 ?_
  refine R_lload_n (pc := 28) 0 dX8_undoLinearEnd_28 rfl rfl ?_
  refine R_bipush (pc := 29) (v := 16) dX8_undoLinearEnd_29 (by decide) ?_
  refine R_lushr (pc := 31) (v := jlushr v_2 16) dX8_undoLinearEnd_31 rfl ?_
  refine R_lload_n (pc := 32) 1 dX8_undoLinearEnd_32 rfl rfl ?_
  refine R_bipush (pc := 33) (v := 48) dX8_undoLinearEnd_33 (by decide) ?_
  refine R_lshl (pc := 35) (v := jlshl v_1 48) dX8_undoLinearEnd_35 rfl ?_
  refine R_lor (pc := 36) dX8_undoLinearEnd_36 ?_
  refine R_lxor (pc := 37) dX8_undoLinearEnd_37 ?_
  refine R_topl (fun v_3 ev_3 => ?_)
  refine R_lload_n (pc := 38) 0 dX8_undoLinearEnd_38 rfl rfl ?_
  refine R_bipush (pc := 39) (v := 48) dX8_undoLinearEnd_39 (by decide) ?_
  refine R_lushr (pc := 41) (v := jlushr v_2 48) dX8_undoLinearEnd_41 rfl ?_
  refine R_lload_n (pc := 42) 1 dX8_undoLinearEnd_42 rfl rfl ?_
  refine R_bipush (pc := 43) (v := 16) dX8_undoLinearEnd_43 (by decide) ?_
  refine R_lshl (pc := 45) (v := jlshl v_1 16) dX8_undoLinearEnd_45 rfl ?_
  refine R_lor (pc := 46) dX8_undoLinearEnd_46 ?_
  refine R_lxor (pc := 47) dX8_undoLinearEnd_47 ?_
  refine R_topl (fun v_4 ev_4 => ?_)
  refine R_put' (pc := 48) (fs' := [.long v_4, .long hi]) dX8_undoLinearEnd_48 fX8_16 tX8_0 rfl rfl ha (by omega) (Nat.le_of_ble_eq_true rfl) rfl (fun h_5 f_6 g_7 => ?_)
  refine R_aload_n (pc := 51) 2 dX8_undoLinearEnd_51 rfl rfl ?_
  refine R_lload_n (pc := 52) 0 dX8_undoLinearEnd_52 rfl rfl ?_
  refine R_bipush (pc := 53) (v := 32) dX8_undoLinearEnd_53 (by decide) ?_
  refine R_lushr (pc := 55) (v := jlushr v_2 32) dX8_undoLinearEnd_55 rfl ?_
  refine R_lload_n (pc := 56) 1 dX8_undoLinearEnd_56 rfl rfl ?_
  refine R_bipush (pc := 57) (v := 32) dX8_undoLinearEnd_57 (by decide) ?_
  refine R_lshl (pc := 59) (v := jlshl v_1 32) dX8_undoLinearEnd_59 rfl ?_
  refine R_lor (pc := 60) dX8_undoLinearEnd_60 ?_
  refine R_lload_n (pc := 61) 1 dX8_undoLinearEnd_61 rfl rfl ?_
  refine R_bipush (pc := 62) (v := 16) dX8_undoLinearEnd_62 (by decide) ?_
  refine R_lushr (pc := 64) (v := jlushr v_1 16) dX8_undoLinearEnd_64 rfl ?_
  refine R_lload_n (pc := 65) 0 dX8_undoLinearEnd_65 rfl rfl ?_
  refine R_bipush (pc := 66) (v := 48) dX8_undoLinearEnd_66 (by decide) ?_
  refine R_lshl (pc := 68) (v := jlshl v_2 48) dX8_undoLinearEnd_68 rfl ?_
  refine R_lor (pc := 69) dX8_undoLinearEnd_69 ?_
  refine R_lxor (pc := 70) dX8_undoLinearEnd_70 ?_
  refine R_topl (fun v_8 ev_8 => ?_)
  refine R_lload_n (pc := 71) 1 dX8_undoLinearEnd_71 rfl rfl ?_
  refine R_bipush (pc := 72) (v := 48) dX8_undoLinearEnd_72 (by decide) ?_
  refine R_lushr (pc := 74) (v := jlushr v_1 48) dX8_undoLinearEnd_74 rfl ?_
  refine R_lload_n (pc := 75) 0 dX8_undoLinearEnd_75 rfl rfl ?_
  refine R_bipush (pc := 76) (v := 16) dX8_undoLinearEnd_76 (by decide) ?_
  refine R_lshl (pc := 78) (v := jlshl v_2 16) dX8_undoLinearEnd_78 rfl ?_
  refine R_lor (pc := 79) dX8_undoLinearEnd_79 ?_
  refine R_lxor (pc := 80) dX8_undoLinearEnd_80 ?_
  refine R_topl (fun v_9 ev_9 => ?_)
  refine R_put' (pc := 81) (fs' := [.long v_4, .long v_9]) dX8_undoLinearEnd_81 fX8_20 tX8_1 rfl rfl f_6 (by omega) (Nat.le_of_ble_eq_true rfl) rfl (fun h_10 f_11 g_12 => ?_)
  refine R_vreturn (pc := 84) dX8_undoLinearEnd_84 rfl (by decide) (by decide) ⟨rfl, rfl, ?_, (fun x_ n0_ => ((g_12 x_ n0_).trans (g_7 x_ n0_)))⟩
  rw [f_11]
  subst ev_9 ev_8 ev_4 ev_3 ev_2 ev_1; rfl
def vX8_box (lo hi : Int64) : Int64 × Int64 := let v_1 := lo.toInt32 &&& (65535 : Int32); let v_2 := ((jlushr lo 16).toInt32) &&& (65535 : Int32); let v_3 := ((jlushr lo 32).toInt32) &&& (65535 : Int32); let v_4 := (jlushr lo 48).toInt32; let v_5 := hi.toInt32 &&& (65535 : Int32); let v_6 := ((jlushr hi 16).toInt32) &&& (65535 : Int32); let v_7 := ((jlushr hi 32).toInt32) &&& (65535 : Int32); let v_8 := (jlushr hi 48).toInt32; let v_9 := v_5 ^^^ v_3; let v_10 := v_8 ^^^ v_2; let v_11 := v_8 ^^^ v_5; let v_12 := v_8 ^^^ v_3; let v_13 := v_7 ^^^ v_6; let v_14 := v_13 ^^^ v_1; let v_15 := v_14 ^^^ v_5; let v_16 := v_10 ^^^ v_9; let v_17 := v_14 ^^^ v_8; let v_18 := v_14 ^^^ v_2; let v_19 := v_18 ^^^ v_12; let v_20 := v_4 ^^^ v_16; let v_21 := v_20 ^^^ v_3; let v_22 := v_20 ^^^ v_7; let v_23 := v_21 ^^^ v_1; let v_24 := v_21 ^^^ v_13; let v_25 := v_22 ^^^ v_11; let v_26 := v_1 ^^^ v_25; let v_27 := v_24 ^^^ v_25; let v_28 := v_24 ^^^ v_12; let v_29 := v_13 ^^^ v_25; let v_30 := v_10 ^^^ v_29; let v_31 := v_8 ^^^ v_29; let v_32 := v_16 &&& v_21; let v_33 := (v_19 &&& v_23) ^^^ v_32; let v_34 := (v_15 &&& v_1) ^^^ v_32; let v_35 := v_10 &&& v_29; let v_36 := (v_18 &&& v_14) ^^^ v_35; let v_37 := (v_17 &&& v_26) ^^^ v_35; let v_38 := v_11 &&& v_25; let v_39 := (v_9 &&& v_27) ^^^ v_38; let v_40 := (v_12 &&& v_24) ^^^ v_38; let v_41 := (v_33 ^^^ v_39) ^^^ v_22; let v_42 := (v_34 ^^^ v_40) ^^^ v_28; let v_43 := (v_36 ^^^ v_39) ^^^ v_30; let v_44 := (v_37 ^^^ v_40) ^^^ v_31; let v_45 := v_41 ^^^ v_42; let v_46 := v_41 &&& v_43; let v_47 := v_44 ^^^ v_46; let v_48 := (v_45 &&& v_47) ^^^ v_42; let v_49 := v_43 ^^^ v_44; let v_50 := v_42 ^^^ v_46; let v_51 := (v_50 &&& v_49) ^^^ v_44; let v_52 := v_43 ^^^ v_51; let v_53 := v_47 ^^^ v_51; let v_54 := v_44 &&& v_53; let v_55 := v_54 ^^^ v_52; let v_56 := v_47 ^^^ v_54; let v_57 := v_45 ^^^ (v_48 &&& v_56); let v_58 := v_57 ^^^ v_55; let v_59 := v_48 ^^^ v_51; let v_60 := v_48 ^^^ v_57; let v_61 := v_51 ^^^ v_55; let v_62 := v_59 ^^^ v_58; let v_63 := v_61 &&& v_21; let v_64 := v_55 &&& v_23; let v_65 := v_51 &&& v_1; let v_66 := v_60 &&& v_29; let v_67 := v_57 &&& v_14; let v_68 := v_48 &&& v_26; let v_69 := v_59 &&& v_25; let v_70 := v_62 &&& v_27; let v_71 := v_58 &&& v_24; let v_72 := v_61 &&& v_16; let v_73 := v_55 &&& v_19; let v_74 := v_51 &&& v_15; let v_75 := v_60 &&& v_10; let v_76 := v_57 &&& v_18; let v_77 := v_48 &&& v_17; let v_78 := v_59 &&& v_11; let v_79 := v_62 &&& v_9; let v_80 := v_58 &&& v_12; let v_81 := v_78 ^^^ v_79; let v_82 := v_73 ^^^ v_74; let v_83 := v_68 ^^^ v_76; let v_84 := v_72 ^^^ v_73; let v_85 := v_65 ^^^ v_75; let v_86 := v_65 ^^^ v_68; let v_87 := v_70 ^^^ v_71; let v_88 := v_63 ^^^ v_66; let v_89 := v_69 ^^^ v_70; let v_90 := v_79 ^^^ v_80; let v_91 := v_75 ^^^ v_83; let v_92 := v_85 ^^^ v_88; let v_93 := v_67 ^^^ v_81; let v_94 := v_66 ^^^ v_89; let v_95 := v_81 ^^^ v_92; let v_96 := v_77 ^^^ v_92; let v_97 := v_87 ^^^ v_93; let v_98 := v_84 ^^^ v_93; let v_99 := v_67 ^^^ v_94; let v_100 := v_96 ^^^ v_97; let v_101 := v_64 ^^^ v_98; let v_102 := v_99 ^^^ v_100; let v_103 := v_88 ^^^ v_101; let v_104 := v_94 ^^^ v_98; let v_105 := (v_99 ^^^ v_103) ^^^ (65535 : Int32); let v_106 := (v_90 ^^^ v_102) ^^^ (65535 : Int32); let v_107 := v_86 ^^^ v_101; let v_108 := v_82 ^^^ v_100; let v_109 := (v_91 ^^^ v_97) ^^^ (65535 : Int32); let v_110 := (v_83 ^^^ v_95) ^^^ (65535 : Int32); let v_111 := v_110.toInt64 ||| (jlshl v_109.toInt64 16); let v_112 := (v_111 ||| (jlshl v_108.toInt64 32)) ||| (jlshl v_107.toInt64 48); let v_116 := v_103.toInt64 ||| (jlshl v_106.toInt64 16); let v_117 := (v_116 ||| (jlshl v_105.toInt64 32)) ||| (jlshl v_104.toInt64 48); (v_112, v_117)
set_option maxHeartbeats 4000000 in
set_option maxRecDepth 100000 in
theorem qX8_box (l : Launch) (w : am_W) (h : am_H) (n a : Nat) (lo hi : Int64) (ha : h a = .inr (.inr (8, [.long lo, .long hi]))) (hn : 0 < a ∧ a ≤ n) : RH l w mX8_box h n [.ref a] (fun h' r => r = none ∧ h' a = .inr (.inr (8, [.long ((vX8_box lo hi).1), .long ((vX8_box lo hi).2)])) ∧ ∀ x, x ≠ a → h' x = h x) := by
  refine RC.of [(0, .ref a)] (by decide +kernel) rfl (Nat.le_of_ble_eq_true rfl) ?_
  refine R_aload_n (pc := 0) 0 dX8_box_0 rfl rfl ?_
  refine R_get (pc := 1) dX8_box_1 fX8_16 ha (by omega) rfl ?_
  refine R_l2i (pc := 4) (v := lo.toInt32) dX8_box_4 rfl ?_
  refine R_ldc (pc := 5) dX8_box_5 cX8_98 ?_
  refine R_iand (pc := 7) dX8_box_7 ?_
  refine R_topi (fun v_1 ev_1 => ?_)
  refine R_istore_n (pc := 8) (lv' := [(1, .int v_1), (0, .ref a)]) dX8_box_8 rfl (by decide) rfl ?_
  refine R_aload_n (pc := 9) 1 dX8_box_9 rfl rfl ?_
  refine R_get (pc := 10) dX8_box_10 fX8_16 ha (by omega) rfl ?_
  refine R_bipush (pc := 13) (v := 16) dX8_box_13 (by decide) ?_
  refine R_lushr (pc := 15) (v := jlushr lo 16) dX8_box_15 rfl ?_
  refine R_l2i (pc := 16) (v := (jlushr lo 16).toInt32) dX8_box_16 rfl ?_
  refine R_ldc (pc := 17) dX8_box_17 cX8_98 ?_
  refine R_iand (pc := 19) dX8_box_19 ?_
  refine R_topi (fun v_2 ev_2 => ?_)
  refine R_istore_n (pc := 20) (lv' := [(2, .int v_2), (1, .int v_1), (0, .ref a)]) dX8_box_20 rfl (by decide) rfl ?_
  refine R_aload_n (pc := 21) 2 dX8_box_21 rfl rfl ?_
  refine R_get (pc := 22) dX8_box_22 fX8_16 ha (by omega) rfl ?_
  refine R_bipush (pc := 25) (v := 32) dX8_box_25 (by decide) ?_
  refine R_lushr (pc := 27) (v := jlushr lo 32) dX8_box_27 rfl ?_
  refine R_l2i (pc := 28) (v := (jlushr lo 32).toInt32) dX8_box_28 rfl ?_
  refine R_ldc (pc := 29) dX8_box_29 cX8_98 ?_
  refine R_iand (pc := 31) dX8_box_31 ?_
  refine R_topi (fun v_3 ev_3 => ?_)
  refine R_istore_n (pc := 32) (lv' := [(3, .int v_3), (2, .int v_2), (1, .int v_1), (0, .ref a)]) dX8_box_32 rfl (by decide) rfl ?_
  refine R_aload_n (pc := 33) 3 dX8_box_33 rfl rfl ?_
  refine R_get (pc := 34) dX8_box_34 fX8_16 ha (by omega) rfl ?_
  refine R_bipush (pc := 37) (v := 48) dX8_box_37 (by decide) ?_
  refine R_lushr (pc := 39) (v := jlushr lo 48) dX8_box_39 rfl ?_
  refine R_l2i (pc := 40) (v := (jlushr lo 48).toInt32) dX8_box_40 rfl ?_
  refine R_topi (fun v_4 ev_4 => ?_)
  refine R_istore (pc := 41) (lv' := [(4, .int v_4), (3, .int v_3), (2, .int v_2), (1, .int v_1), (0, .ref a)]) dX8_box_41 (by decide) rfl ?_
  refine R_aload_n (pc := 43) 4 dX8_box_43 rfl rfl ?_
  refine R_get (pc := 44) dX8_box_44 fX8_20 ha (by omega) rfl ?_
  refine R_l2i (pc := 47) (v := hi.toInt32) dX8_box_47 rfl ?_
  refine R_ldc (pc := 48) dX8_box_48 cX8_98 ?_
  refine R_iand (pc := 50) dX8_box_50 ?_
  refine R_topi (fun v_5 ev_5 => ?_)
  refine R_istore (pc := 51) (lv' := [(5, .int v_5), (4, .int v_4), (3, .int v_3), (2, .int v_2), (1, .int v_1), (0, .ref a)]) dX8_box_51 (by decide) rfl ?_
  refine R_aload_n (pc := 53) 5 dX8_box_53 rfl rfl ?_
  refine R_get (pc := 54) dX8_box_54 fX8_20 ha (by omega) rfl ?_
  refine R_bipush (pc := 57) (v := 16) dX8_box_57 (by decide) ?_
  refine R_lushr (pc := 59) (v := jlushr hi 16) dX8_box_59 rfl ?_
  refine R_l2i (pc := 60) (v := (jlushr hi 16).toInt32) dX8_box_60 rfl ?_
  refine R_ldc (pc := 61) dX8_box_61 cX8_98 ?_
  refine R_iand (pc := 63) dX8_box_63 ?_
  refine R_topi (fun v_6 ev_6 => ?_)
  refine R_istore (pc := 64) (lv' := [(6, .int v_6), (5, .int v_5), (4, .int v_4), (3, .int v_3), (2, .int v_2), (1, .int v_1), (0, .ref a)]) dX8_box_64 (by decide) rfl ?_
  refine R_aload_n (pc := 66) 6 dX8_box_66 rfl rfl ?_
  refine R_get (pc := 67) dX8_box_67 fX8_20 ha (by omega) rfl ?_
  refine R_bipush (pc := 70) (v := 32) dX8_box_70 (by decide) ?_
  refine R_lushr (pc := 72) (v := jlushr hi 32) dX8_box_72 rfl ?_
  refine R_l2i (pc := 73) (v := (jlushr hi 32).toInt32) dX8_box_73 rfl ?_
  refine R_ldc (pc := 74) dX8_box_74 cX8_98 ?_
  refine R_iand (pc := 76) dX8_box_76 ?_
  refine R_topi (fun v_7 ev_7 => ?_)
  refine R_istore (pc := 77) (lv' := [(7, .int v_7), (6, .int v_6), (5, .int v_5), (4, .int v_4), (3, .int v_3), (2, .int v_2), (1, .int v_1), (0, .ref a)]) dX8_box_77 (by decide) rfl ?_
  refine R_aload_n (pc := 79) 7 dX8_box_79 rfl rfl ?_
  refine R_get (pc := 80) dX8_box_80 fX8_20 ha (by omega) rfl ?_
  refine R_bipush (pc := 83) (v := 48) dX8_box_83 (by decide) ?_
  refine R_lushr (pc := 85) (v := jlushr hi 48) dX8_box_85 rfl ?_
  refine R_l2i (pc := 86) (v := (jlushr hi 48).toInt32) dX8_box_86 rfl ?_
  refine R_topi (fun v_8 ev_8 => ?_)
  refine R_istore (pc := 87) (lv' := [(8, .int v_8), (7, .int v_7), (6, .int v_6), (5, .int v_5), (4, .int v_4), (3, .int v_3), (2, .int v_2), (1, .int v_1), (0, .ref a)]) dX8_box_87 (by decide) rfl ?_
  refine R_iload (pc := 89) 3 dX8_box_89 rfl ?_
  refine R_iload_n (pc := 91) 5 dX8_box_91 rfl rfl ?_
  refine R_ixor (pc := 92) dX8_box_92 ?_
  refine R_topi (fun v_9 ev_9 => ?_)
  refine R_istore (pc := 93) (lv' := [(9, .int v_9), (8, .int v_8), (7, .int v_7), (6, .int v_6), (5, .int v_5), (4, .int v_4), (3, .int v_3), (2, .int v_2), (1, .int v_1), (0, .ref a)]) dX8_box_93 (by decide) rfl ?_
  refine R_iload (pc := 95) 1 dX8_box_95 rfl ?_
  refine R_iload_n (pc := 97) 7 dX8_box_97 rfl rfl ?_
  refine R_ixor (pc := 98) dX8_box_98 ?_
  refine R_topi (fun v_10 ev_10 => ?_)
  refine R_istore (pc := 99) (lv' := [(10, .int v_10), (9, .int v_9), (8, .int v_8), (7, .int v_7), (6, .int v_6), (5, .int v_5), (4, .int v_4), (3, .int v_3), (2, .int v_2), (1, .int v_1), (0, .ref a)]) dX8_box_99 (by decide) rfl ?_
  refine R_iload (pc := 101) 2 dX8_box_101 rfl ?_
  refine R_iload (pc := 103) 5 dX8_box_103 rfl ?_
  refine R_ixor (pc := 105) dX8_box_105 ?_
  refine R_topi (fun v_11 ev_11 => ?_)
  refine R_istore (pc := 106) (lv' := [(11, .int v_11), (10, .int v_10), (9, .int v_9), (8, .int v_8), (7, .int v_7), (6, .int v_6), (5, .int v_5), (4, .int v_4), (3, .int v_3), (2, .int v_2), (1, .int v_1), (0, .ref a)]) dX8_box_106 (by decide) rfl ?_
  refine R_iload (pc := 108) 3 dX8_box_108 rfl ?_
  refine R_iload_n (pc := 110) 8 dX8_box_110 rfl rfl ?_
  refine R_ixor (pc := 111) dX8_box_111 ?_
  refine R_topi (fun v_12 ev_12 => ?_)
  refine R_istore (pc := 112) (lv' := [(12, .int v_12), (11, .int v_11), (10, .int v_10), (9, .int v_9), (8, .int v_8), (7, .int v_7), (6, .int v_6), (5, .int v_5), (4, .int v_4), (3, .int v_3), (2, .int v_2), (1, .int v_1), (0, .ref a)]) dX8_box_112 (by decide) rfl ?_
  refine R_iload (pc := 114) 5 dX8_box_114 rfl ?_
  refine R_iload (pc := 116) 6 dX8_box_116 rfl ?_
  refine R_ixor (pc := 118) dX8_box_118 ?_
  refine R_topi (fun v_13 ev_13 => ?_)
  refine R_istore (pc := 119) (lv' := [(13, .int v_13), (12, .int v_12), (11, .int v_11), (10, .int v_10), (9, .int v_9), (8, .int v_8), (7, .int v_7), (6, .int v_6), (5, .int v_5), (4, .int v_4), (3, .int v_3), (2, .int v_2), (1, .int v_1), (0, .ref a)]) dX8_box_119 (by decide) rfl ?_
  refine R_iload (pc := 121) 0 dX8_box_121 rfl ?_
  refine R_iload_n (pc := 123) 12 dX8_box_123 rfl rfl ?_
  refine R_ixor (pc := 124) dX8_box_124 ?_
  refine R_topi (fun v_14 ev_14 => ?_)
  refine R_istore (pc := 125) (lv' := [(14, .int v_14), (13, .int v_13), (12, .int v_12), (11, .int v_11), (10, .int v_10), (9, .int v_9), (8, .int v_8), (7, .int v_7), (6, .int v_6), (5, .int v_5), (4, .int v_4), (3, .int v_3), (2, .int v_2), (1, .int v_1), (0, .ref a)]) dX8_box_125 (by decide) rfl ?_
  refine R_iload (pc := 127) 0 dX8_box_127 rfl ?_
  refine R_iload (pc := 129) 9 dX8_box_129 rfl ?_
  refine R_ixor (pc := 131) dX8_box_131 ?_
  refine R_topi (fun v_15 ev_15 => ?_)
  refine R_istore (pc := 132) (lv' := [(15, .int v_15), (14, .int v_14), (13, .int v_13), (12, .int v_12), (11, .int v_11), (10, .int v_10), (9, .int v_9), (8, .int v_8), (7, .int v_7), (6, .int v_6), (5, .int v_5), (4, .int v_4), (3, .int v_3), (2, .int v_2), (1, .int v_1), (0, .ref a)]) dX8_box_132 (by decide) rfl ?_
  refine R_iload (pc := 134) 5 dX8_box_134 rfl ?_
  refine R_iload (pc := 136) 6 dX8_box_136 rfl ?_
  refine R_ixor (pc := 138) dX8_box_138 ?_
  refine R_topi (fun v_16 ev_16 => ?_)
  refine R_istore (pc := 139) (lv' := [(16, .int v_16), (15, .int v_15), (14, .int v_14), (13, .int v_13), (12, .int v_12), (11, .int v_11), (10, .int v_10), (9, .int v_9), (8, .int v_8), (7, .int v_7), (6, .int v_6), (5, .int v_5), (4, .int v_4), (3, .int v_3), (2, .int v_2), (1, .int v_1), (0, .ref a)]) dX8_box_139 (by decide) rfl ?_
  refine R_iload (pc := 141) 2 dX8_box_141 rfl ?_
  refine R_iload (pc := 143) 8 dX8_box_143 rfl ?_
  refine R_ixor (pc := 145) dX8_box_145 ?_
  refine R_topi (fun v_17 ev_17 => ?_)
  refine R_istore (pc := 146) (lv' := [(17, .int v_17), (16, .int v_16), (15, .int v_15), (14, .int v_14), (13, .int v_13), (12, .int v_12), (11, .int v_11), (10, .int v_10), (9, .int v_9), (8, .int v_8), (7, .int v_7), (6, .int v_6), (5, .int v_5), (4, .int v_4), (3, .int v_3), (2, .int v_2), (1, .int v_1), (0, .ref a)]) dX8_box_146 (by decide) rfl ?_
  refine R_iload (pc := 148) 3 dX8_box_148 rfl ?_
  refine R_iload_n (pc := 150) 15 dX8_box_150 rfl rfl ?_
  refine R_ixor (pc := 151) dX8_box_151 ?_
  refine R_topi (fun v_18 ev_18 => ?_)
  refine R_istore (pc := 152) (lv' := [(18, .int v_18), (17, .int v_17), (16, .int v_16), (15, .int v_15), (14, .int v_14), (13, .int v_13), (12, .int v_12), (11, .int v_11), (10, .int v_10), (9, .int v_9), (8, .int v_8), (7, .int v_7), (6, .int v_6), (5, .int v_5), (4, .int v_4), (3, .int v_3), (2, .int v_2), (1, .int v_1), (0, .ref a)]) dX8_box_152 (by decide) rfl ?_
  refine R_iload (pc := 154) 0 dX8_box_154 rfl ?_
  refine R_iload (pc := 156) 6 dX8_box_156 rfl ?_
  refine R_ixor (pc := 158) dX8_box_158 ?_
  refine R_topi (fun v_19 ev_19 => ?_)
  refine R_istore (pc := 159) (lv' := [(19, .int v_19), (18, .int v_18), (17, .int v_17), (16, .int v_16), (15, .int v_15), (14, .int v_14), (13, .int v_13), (12, .int v_12), (11, .int v_11), (10, .int v_10), (9, .int v_9), (8, .int v_8), (7, .int v_7), (6, .int v_6), (5, .int v_5), (4, .int v_4), (3, .int v_3), (2, .int v_2), (1, .int v_1), (0, .ref a)]) dX8_box_159 (by decide) rfl ?_
  refine R_iload (pc := 161) 15 dX8_box_161 rfl ?_
  refine R_iload (pc := 163) 3 dX8_box_163 rfl ?_
  refine R_ixor (pc := 165) dX8_box_165 ?_
  refine R_topi (fun v_20 ev_20 => ?_)
  refine R_istore (pc := 166) (lv' := [(20, .int v_20), (19, .int v_19), (18, .int v_18), (17, .int v_17), (16, .int v_16), (15, .int v_15), (14, .int v_14), (13, .int v_13), (12, .int v_12), (11, .int v_11), (10, .int v_10), (9, .int v_9), (8, .int v_8), (7, .int v_7), (6, .int v_6), (5, .int v_5), (4, .int v_4), (3, .int v_3), (2, .int v_2), (1, .int v_1), (0, .ref a)]) dX8_box_166 (by decide) rfl ?_
  refine R_iload (pc := 168) 0 dX8_box_168 rfl ?_
  refine R_iload_n (pc := 170) 17 dX8_box_170 rfl rfl ?_
  refine R_ixor (pc := 171) dX8_box_171 ?_
  refine R_topi (fun v_21 ev_21 => ?_)
  refine R_istore (pc := 172) (lv' := [(21, .int v_21), (20, .int v_20), (19, .int v_19), (18, .int v_18), (17, .int v_17), (16, .int v_16), (15, .int v_15), (14, .int v_14), (13, .int v_13), (12, .int v_12), (11, .int v_11), (10, .int v_10), (9, .int v_9), (8, .int v_8), (7, .int v_7), (6, .int v_6), (5, .int v_5), (4, .int v_4), (3, .int v_3), (2, .int v_2), (1, .int v_1), (0, .ref a)]) dX8_box_172 (by decide) rfl ?_
  refine R_iload (pc := 174) 1 dX8_box_174 rfl ?_
  refine R_iload (pc := 176) 14 dX8_box_176 rfl ?_
  refine R_ixor (pc := 178) dX8_box_178 ?_
  refine R_topi (fun v_22 ev_22 => ?_)
  refine R_istore (pc := 179) (lv' := [(22, .int v_22), (21, .int v_21), (20, .int v_20), (19, .int v_19), (18, .int v_18), (17, .int v_17), (16, .int v_16), (15, .int v_15), (14, .int v_14), (13, .int v_13), (12, .int v_12), (11, .int v_11), (10, .int v_10), (9, .int v_9), (8, .int v_8), (7, .int v_7), (6, .int v_6), (5, .int v_5), (4, .int v_4), (3, .int v_3), (2, .int v_2), (1, .int v_1), (0, .ref a)]) dX8_box_179 (by decide) rfl ?_
  refine R_iload (pc := 181) 1 dX8_box_181 rfl ?_
  refine R_iload_n (pc := 183) 21 dX8_box_183 rfl rfl ?_
  refine R_ixor (pc := 184) dX8_box_184 ?_
  refine R_topi (fun v_23 ev_23 => ?_)
  refine R_istore (pc := 185) (lv' := [(23, .int v_23), (22, .int v_22), (21, .int v_21), (20, .int v_20), (19, .int v_19), (18, .int v_18), (17, .int v_17), (16, .int v_16), (15, .int v_15), (14, .int v_14), (13, .int v_13), (12, .int v_12), (11, .int v_11), (10, .int v_10), (9, .int v_9), (8, .int v_8), (7, .int v_7), (6, .int v_6), (5, .int v_5), (4, .int v_4), (3, .int v_3), (2, .int v_2), (1, .int v_1), (0, .ref a)]) dX8_box_185 (by decide) rfl ?_
  refine R_iload (pc := 187) 2 dX8_box_187 rfl ?_
  refine R_iload (pc := 189) 10 dX8_box_189 rfl ?_
  refine R_ixor (pc := 191) dX8_box_191 ?_
  refine R_topi (fun v_24 ev_24 => ?_)
  refine R_istore (pc := 192) (lv' := [(24, .int v_24), (23, .int v_23), (22, .int v_22), (21, .int v_21), (20, .int v_20), (19, .int v_19), (18, .int v_18), (17, .int v_17), (16, .int v_16), (15, .int v_15), (14, .int v_14), (13, .int v_13), (12, .int v_12), (11, .int v_11), (10, .int v_10), (9, .int v_9), (8, .int v_8), (7, .int v_7), (6, .int v_6), (5, .int v_5), (4, .int v_4), (3, .int v_3), (2, .int v_2), (1, .int v_1), (0, .ref a)]) dX8_box_192 (by decide) rfl ?_
  refine R_iload (pc := 194) 2 dX8_box_194 rfl ?_
  refine R_iload (pc := 196) 13 dX8_box_196 rfl ?_
  refine R_ixor (pc := 198) dX8_box_198 ?_
  refine R_topi (fun v_25 ev_25 => ?_)
  refine R_istore (pc := 199) (lv' := [(25, .int v_25), (24, .int v_24), (23, .int v_23), (22, .int v_22), (21, .int v_21), (20, .int v_20), (19, .int v_19), (18, .int v_18), (17, .int v_17), (16, .int v_16), (15, .int v_15), (14, .int v_14), (13, .int v_13), (12, .int v_12), (11, .int v_11), (10, .int v_10), (9, .int v_9), (8, .int v_8), (7, .int v_7), (6, .int v_6), (5, .int v_5), (4, .int v_4), (3, .int v_3), (2, .int v_2), (1, .int v_1), (0, .ref a)]) dX8_box_199 (by decide) rfl ?_
  refine R_iload_n (pc := 201) 24 dX8_box_201 rfl rfl ?_
  refine R_iload (pc := 202) 0 dX8_box_202 rfl ?_
  refine R_ixor (pc := 204) dX8_box_204 ?_
  refine R_topi (fun v_26 ev_26 => ?_)
  refine R_istore (pc := 205) (lv' := [(26, .int v_26), (25, .int v_25), (24, .int v_24), (23, .int v_23), (22, .int v_22), (21, .int v_21), (20, .int v_20), (19, .int v_19), (18, .int v_18), (17, .int v_17), (16, .int v_16), (15, .int v_15), (14, .int v_14), (13, .int v_13), (12, .int v_12), (11, .int v_11), (10, .int v_10), (9, .int v_9), (8, .int v_8), (7, .int v_7), (6, .int v_6), (5, .int v_5), (4, .int v_4), (3, .int v_3), (2, .int v_2), (1, .int v_1), (0, .ref a)]) dX8_box_205 (by decide) rfl ?_
  refine R_iload (pc := 207) 2 dX8_box_207 rfl ?_
  refine R_iload (pc := 209) 1 dX8_box_209 rfl ?_
  refine R_ixor (pc := 211) dX8_box_211 ?_
  refine R_topi (fun v_27 ev_27 => ?_)
  refine R_istore (pc := 212) (lv' := [(27, .int v_27), (26, .int v_26), (25, .int v_25), (24, .int v_24), (23, .int v_23), (22, .int v_22), (21, .int v_21), (20, .int v_20), (19, .int v_19), (18, .int v_18), (17, .int v_17), (16, .int v_16), (15, .int v_15), (14, .int v_14), (13, .int v_13), (12, .int v_12), (11, .int v_11), (10, .int v_10), (9, .int v_9), (8, .int v_8), (7, .int v_7), (6, .int v_6), (5, .int v_5), (4, .int v_4), (3, .int v_3), (2, .int v_2), (1, .int v_1), (0, .ref a)]) dX8_box_212 (by decide) rfl ?_
  refine R_iload (pc := 214) 3 dX8_box_214 rfl ?_
  refine R_iload (pc := 216) 15 dX8_box_216 rfl ?_
  refine R_ixor (pc := 218) dX8_box_218 ?_
  refine R_topi (fun v_28 ev_28 => ?_)
  refine R_istore (pc := 219) (lv' := [(28, .int v_28), (27, .int v_27), (26, .int v_26), (25, .int v_25), (24, .int v_24), (23, .int v_23), (22, .int v_22), (21, .int v_21), (20, .int v_20), (19, .int v_19), (18, .int v_18), (17, .int v_17), (16, .int v_16), (15, .int v_15), (14, .int v_14), (13, .int v_13), (12, .int v_12), (11, .int v_11), (10, .int v_10), (9, .int v_9), (8, .int v_8), (7, .int v_7), (6, .int v_6), (5, .int v_5), (4, .int v_4), (3, .int v_3), (2, .int v_2), (1, .int v_1), (0, .ref a)]) dX8_box_219 (by decide) rfl ?_
  refine R_iload (pc := 221) 15 dX8_box_221 rfl ?_
  refine R_iload (pc := 223) 3 dX8_box_223 rfl ?_
  refine R_ixor (pc := 225) dX8_box_225 ?_
  refine R_topi (fun v_29 ev_29 => ?_)
  refine R_istore (pc := 226) (lv' := [(29, .int v_29), (28, .int v_28), (27, .int v_27), (26, .int v_26), (25, .int v_25), (24, .int v_24), (23, .int v_23), (22, .int v_22), (21, .int v_21), (20, .int v_20), (19, .int v_19), (18, .int v_18), (17, .int v_17), (16, .int v_16), (15, .int v_15), (14, .int v_14), (13, .int v_13), (12, .int v_12), (11, .int v_11), (10, .int v_10), (9, .int v_9), (8, .int v_8), (7, .int v_7), (6, .int v_6), (5, .int v_5), (4, .int v_4), (3, .int v_3), (2, .int v_2), (1, .int v_1), (0, .ref a)]) dX8_box_226 (by decide) rfl ?_
  refine R_iload (pc := 228) 19 dX8_box_228 rfl ?_
  refine R_iload (pc := 230) 0 dX8_box_230 rfl ?_
  refine R_ixor (pc := 232) dX8_box_232 ?_
  refine R_topi (fun v_30 ev_30 => ?_)
  refine R_istore (pc := 233) (lv' := [(30, .int v_30), (29, .int v_29), (28, .int v_28), (27, .int v_27), (26, .int v_26), (25, .int v_25), (24, .int v_24), (23, .int v_23), (22, .int v_22), (21, .int v_21), (20, .int v_20), (19, .int v_19), (18, .int v_18), (17, .int v_17), (16, .int v_16), (15, .int v_15), (14, .int v_14), (13, .int v_13), (12, .int v_12), (11, .int v_11), (10, .int v_10), (9, .int v_9), (8, .int v_8), (7, .int v_7), (6, .int v_6), (5, .int v_5), (4, .int v_4), (3, .int v_3), (2, .int v_2), (1, .int v_1), (0, .ref a)]) dX8_box_233 (by decide) rfl ?_
  refine R_iload (pc := 235) 22 dX8_box_235 rfl ?_
  refine R_iload (pc := 237) 1 dX8_box_237 rfl ?_
  refine R_ixor (pc := 239) dX8_box_239 ?_
  refine R_topi (fun v_31 ev_31 => ?_)
  refine R_istore (pc := 240) (lv' := [(31, .int v_31), (30, .int v_30), (29, .int v_29), (28, .int v_28), (27, .int v_27), (26, .int v_26), (25, .int v_25), (24, .int v_24), (23, .int v_23), (22, .int v_22), (21, .int v_21), (20, .int v_20), (19, .int v_19), (18, .int v_18), (17, .int v_17), (16, .int v_16), (15, .int v_15), (14, .int v_14), (13, .int v_13), (12, .int v_12), (11, .int v_11), (10, .int v_10), (9, .int v_9), (8, .int v_8), (7, .int v_7), (6, .int v_6), (5, .int v_5), (4, .int v_4), (3, .int v_3), (2, .int v_2), (1, .int v_1), (0, .ref a)]) dX8_box_240 (by decide) rfl ?_
  refine R_iload (pc := 242) 15 dX8_box_242 rfl ?_
  refine R_iload (pc := 244) 10 dX8_box_244 rfl ?_
  refine R_iand (pc := 246) dX8_box_246 ?_
  refine R_topi (fun v_32 ev_32 => ?_)
  refine R_istore (pc := 247) (lv' := [(32, .int v_32), (31, .int v_31), (30, .int v_30), (29, .int v_29), (28, .int v_28), (27, .int v_27), (26, .int v_26), (25, .int v_25), (24, .int v_24), (23, .int v_23), (22, .int v_22), (21, .int v_21), (20, .int v_20), (19, .int v_19), (18, .int v_18), (17, .int v_17), (16, .int v_16), (15, .int v_15), (14, .int v_14), (13, .int v_13), (12, .int v_12), (11, .int v_11), (10, .int v_10), (9, .int v_9), (8, .int v_8), (7, .int v_7), (6, .int v_6), (5, .int v_5), (4, .int v_4), (3, .int v_3), (2, .int v_2), (1, .int v_1), (0, .ref a)]) dX8_box_247 (by decide) rfl ?_
  refine R_iload (pc := 249) 13 dX8_box_249 rfl ?_
  refine R_iload (pc := 251) 9 dX8_box_251 rfl ?_
  refine R_iand (pc := 253) dX8_box_253 ?_
  refine R_iload (pc := 254) 0 dX8_box_254 rfl ?_
  refine R_ixor (pc := 256) dX8_box_256 ?_
  refine R_topi (fun v_33 ev_33 => ?_)
  refine R_istore (pc := 257) (lv' := [(33, .int v_33), (32, .int v_32), (31, .int v_31), (30, .int v_30), (29, .int v_29), (28, .int v_28), (27, .int v_27), (26, .int v_26), (25, .int v_25), (24, .int v_24), (23, .int v_23), (22, .int v_22), (21, .int v_21), (20, .int v_20), (19, .int v_19), (18, .int v_18), (17, .int v_17), (16, .int v_16), (15, .int v_15), (14, .int v_14), (13, .int v_13), (12, .int v_12), (11, .int v_11), (10, .int v_10), (9, .int v_9), (8, .int v_8), (7, .int v_7), (6, .int v_6), (5, .int v_5), (4, .int v_4), (3, .int v_3), (2, .int v_2), (1, .int v_1), (0, .ref a)]) dX8_box_257 (by decide) rfl ?_
  refine R_iload (pc := 259) 18 dX8_box_259 rfl ?_
  refine R_iload_n (pc := 261) 32 dX8_box_261 rfl rfl ?_
  refine R_iand (pc := 262) dX8_box_262 ?_
  refine R_iload (pc := 263) 1 dX8_box_263 rfl ?_
  refine R_ixor (pc := 265) dX8_box_265 ?_
  refine R_topi (fun v_34 ev_34 => ?_)
  refine R_istore (pc := 266) (lv' := [(34, .int v_34), (33, .int v_33), (32, .int v_32), (31, .int v_31), (30, .int v_30), (29, .int v_29), (28, .int v_28), (27, .int v_27), (26, .int v_26), (25, .int v_25), (24, .int v_24), (23, .int v_23), (22, .int v_22), (21, .int v_21), (20, .int v_20), (19, .int v_19), (18, .int v_18), (17, .int v_17), (16, .int v_16), (15, .int v_15), (14, .int v_14), (13, .int v_13), (12, .int v_12), (11, .int v_11), (10, .int v_10), (9, .int v_9), (8, .int v_8), (7, .int v_7), (6, .int v_6), (5, .int v_5), (4, .int v_4), (3, .int v_3), (2, .int v_2), (1, .int v_1), (0, .ref a)]) dX8_box_266 (by decide) rfl ?_
  refine R_iload (pc := 268) 24 dX8_box_268 rfl ?_
  refine R_iload (pc := 270) 5 dX8_box_270 rfl ?_
  refine R_iand (pc := 272) dX8_box_272 ?_
  refine R_topi (fun v_35 ev_35 => ?_)
  refine R_istore (pc := 273) (lv' := [(35, .int v_35), (34, .int v_34), (33, .int v_33), (32, .int v_32), (31, .int v_31), (30, .int v_30), (29, .int v_29), (28, .int v_28), (27, .int v_27), (26, .int v_26), (25, .int v_25), (24, .int v_24), (23, .int v_23), (22, .int v_22), (21, .int v_21), (20, .int v_20), (19, .int v_19), (18, .int v_18), (17, .int v_17), (16, .int v_16), (15, .int v_15), (14, .int v_14), (13, .int v_13), (12, .int v_12), (11, .int v_11), (10, .int v_10), (9, .int v_9), (8, .int v_8), (7, .int v_7), (6, .int v_6), (5, .int v_5), (4, .int v_4), (3, .int v_3), (2, .int v_2), (1, .int v_1), (0, .ref a)]) dX8_box_273 (by decide) rfl ?_
  refine R_iload (pc := 275) 17 dX8_box_275 rfl ?_
  refine R_iload (pc := 277) 21 dX8_box_277 rfl ?_
  refine R_iand (pc := 279) dX8_box_279 ?_
  refine R_iload (pc := 280) 0 dX8_box_280 rfl ?_
  refine R_ixor (pc := 282) dX8_box_282 ?_
  refine R_topi (fun v_36 ev_36 => ?_)
  refine R_istore (pc := 283) (lv' := [(36, .int v_36), (35, .int v_35), (34, .int v_34), (33, .int v_33), (32, .int v_32), (31, .int v_31), (30, .int v_30), (29, .int v_29), (28, .int v_28), (27, .int v_27), (26, .int v_26), (25, .int v_25), (24, .int v_24), (23, .int v_23), (22, .int v_22), (21, .int v_21), (20, .int v_20), (19, .int v_19), (18, .int v_18), (17, .int v_17), (16, .int v_16), (15, .int v_15), (14, .int v_14), (13, .int v_13), (12, .int v_12), (11, .int v_11), (10, .int v_10), (9, .int v_9), (8, .int v_8), (7, .int v_7), (6, .int v_6), (5, .int v_5), (4, .int v_4), (3, .int v_3), (2, .int v_2), (1, .int v_1), (0, .ref a)]) dX8_box_283 (by decide) rfl ?_
  refine R_iload (pc := 285) 19 dX8_box_285 rfl ?_
  refine R_iload (pc := 287) 10 dX8_box_287 rfl ?_
  refine R_iand (pc := 289) dX8_box_289 ?_
  refine R_iload (pc := 290) 1 dX8_box_290 rfl ?_
  refine R_ixor (pc := 292) dX8_box_292 ?_
  refine R_topi (fun v_37 ev_37 => ?_)
  refine R_istore (pc := 293) (lv' := [(37, .int v_37), (36, .int v_36), (35, .int v_35), (34, .int v_34), (33, .int v_33), (32, .int v_32), (31, .int v_31), (30, .int v_30), (29, .int v_29), (28, .int v_28), (27, .int v_27), (26, .int v_26), (25, .int v_25), (24, .int v_24), (23, .int v_23), (22, .int v_22), (21, .int v_21), (20, .int v_20), (19, .int v_19), (18, .int v_18), (17, .int v_17), (16, .int v_16), (15, .int v_15), (14, .int v_14), (13, .int v_13), (12, .int v_12), (11, .int v_11), (10, .int v_10), (9, .int v_9), (8, .int v_8), (7, .int v_7), (6, .int v_6), (5, .int v_5), (4, .int v_4), (3, .int v_3), (2, .int v_2), (1, .int v_1), (0, .ref a)]) dX8_box_293 (by decide) rfl ?_
  refine R_iload (pc := 295) 26 dX8_box_295 rfl ?_
  refine R_iload (pc := 297) 12 dX8_box_297 rfl ?_
  refine R_iand (pc := 299) dX8_box_299 ?_
  refine R_topi (fun v_38 ev_38 => ?_)
  refine R_istore (pc := 300) (lv' := [(38, .int v_38), (37, .int v_37), (36, .int v_36), (35, .int v_35), (34, .int v_34), (33, .int v_33), (32, .int v_32), (31, .int v_31), (30, .int v_30), (29, .int v_29), (28, .int v_28), (27, .int v_27), (26, .int v_26), (25, .int v_25), (24, .int v_24), (23, .int v_23), (22, .int v_22), (21, .int v_21), (20, .int v_20), (19, .int v_19), (18, .int v_18), (17, .int v_17), (16, .int v_16), (15, .int v_15), (14, .int v_14), (13, .int v_13), (12, .int v_12), (11, .int v_11), (10, .int v_10), (9, .int v_9), (8, .int v_8), (7, .int v_7), (6, .int v_6), (5, .int v_5), (4, .int v_4), (3, .int v_3), (2, .int v_2), (1, .int v_1), (0, .ref a)]) dX8_box_300 (by decide) rfl ?_
  refine R_iload (pc := 302) 29 dX8_box_302 rfl ?_
  refine R_iload (pc := 304) 11 dX8_box_304 rfl ?_
  refine R_iand (pc := 306) dX8_box_306 ?_
  refine R_iload (pc := 307) 0 dX8_box_307 rfl ?_
  refine R_ixor (pc := 309) dX8_box_309 ?_
  refine R_topi (fun v_39 ev_39 => ?_)
  refine R_istore (pc := 310) (lv' := [(39, .int v_39), (38, .int v_38), (37, .int v_37), (36, .int v_36), (35, .int v_35), (34, .int v_34), (33, .int v_33), (32, .int v_32), (31, .int v_31), (30, .int v_30), (29, .int v_29), (28, .int v_28), (27, .int v_27), (26, .int v_26), (25, .int v_25), (24, .int v_24), (23, .int v_23), (22, .int v_22), (21, .int v_21), (20, .int v_20), (19, .int v_19), (18, .int v_18), (17, .int v_17), (16, .int v_16), (15, .int v_15), (14, .int v_14), (13, .int v_13), (12, .int v_12), (11, .int v_11), (10, .int v_10), (9, .int v_9), (8, .int v_8), (7, .int v_7), (6, .int v_6), (5, .int v_5), (4, .int v_4), (3, .int v_3), (2, .int v_2), (1, .int v_1), (0, .ref a)]) dX8_box_310 (by decide) rfl ?_
  refine R_iload (pc := 312) 27 dX8_box_312 rfl ?_
  refine R_iload (pc := 314) 15 dX8_box_314 rfl ?_
  refine R_iand (pc := 316) dX8_box_316 ?_
  refine R_iload (pc := 317) 1 dX8_box_317 rfl ?_
  refine R_ixor (pc := 319) dX8_box_319 ?_
  refine R_topi (fun v_40 ev_40 => ?_)
  refine R_istore (pc := 320) (lv' := [(40, .int v_40), (39, .int v_39), (38, .int v_38), (37, .int v_37), (36, .int v_36), (35, .int v_35), (34, .int v_34), (33, .int v_33), (32, .int v_32), (31, .int v_31), (30, .int v_30), (29, .int v_29), (28, .int v_28), (27, .int v_27), (26, .int v_26), (25, .int v_25), (24, .int v_24), (23, .int v_23), (22, .int v_22), (21, .int v_21), (20, .int v_20), (19, .int v_19), (18, .int v_18), (17, .int v_17), (16, .int v_16), (15, .int v_15), (14, .int v_14), (13, .int v_13), (12, .int v_12), (11, .int v_11), (10, .int v_10), (9, .int v_9), (8, .int v_8), (7, .int v_7), (6, .int v_6), (5, .int v_5), (4, .int v_4), (3, .int v_3), (2, .int v_2), (1, .int v_1), (0, .ref a)]) dX8_box_320 (by decide) rfl ?_
  refine R_iload (pc := 322) 7 dX8_box_322 rfl ?_
  refine R_iload (pc := 324) 1 dX8_box_324 rfl ?_
  refine R_ixor (pc := 326) dX8_box_326 ?_
  refine R_iload (pc := 327) 18 dX8_box_327 rfl ?_
  refine R_ixor (pc := 329) dX8_box_329 ?_
  refine R_topi (fun v_41 ev_41 => ?_)
  refine R_istore (pc := 330) (lv' := [(41, .int v_41), (40, .int v_40), (39, .int v_39), (38, .int v_38), (37, .int v_37), (36, .int v_36), (35, .int v_35), (34, .int v_34), (33, .int v_33), (32, .int v_32), (31, .int v_31), (30, .int v_30), (29, .int v_29), (28, .int v_28), (27, .int v_27), (26, .int v_26), (25, .int v_25), (24, .int v_24), (23, .int v_23), (22, .int v_22), (21, .int v_21), (20, .int v_20), (19, .int v_19), (18, .int v_18), (17, .int v_17), (16, .int v_16), (15, .int v_15), (14, .int v_14), (13, .int v_13), (12, .int v_12), (11, .int v_11), (10, .int v_10), (9, .int v_9), (8, .int v_8), (7, .int v_7), (6, .int v_6), (5, .int v_5), (4, .int v_4), (3, .int v_3), (2, .int v_2), (1, .int v_1), (0, .ref a)]) dX8_box_330 (by decide) rfl ?_
  refine R_iload (pc := 332) 7 dX8_box_332 rfl ?_
  refine R_iload (pc := 334) 1 dX8_box_334 rfl ?_
  refine R_ixor (pc := 336) dX8_box_336 ?_
  refine R_iload (pc := 337) 13 dX8_box_337 rfl ?_
  refine R_ixor (pc := 339) dX8_box_339 ?_
  refine R_topi (fun v_42 ev_42 => ?_)
  refine R_istore (pc := 340) (lv' := [(42, .int v_42), (41, .int v_41), (40, .int v_40), (39, .int v_39), (38, .int v_38), (37, .int v_37), (36, .int v_36), (35, .int v_35), (34, .int v_34), (33, .int v_33), (32, .int v_32), (31, .int v_31), (30, .int v_30), (29, .int v_29), (28, .int v_28), (27, .int v_27), (26, .int v_26), (25, .int v_25), (24, .int v_24), (23, .int v_23), (22, .int v_22), (21, .int v_21), (20, .int v_20), (19, .int v_19), (18, .int v_18), (17, .int v_17), (16, .int v_16), (15, .int v_15), (14, .int v_14), (13, .int v_13), (12, .int v_12), (11, .int v_11), (10, .int v_10), (9, .int v_9), (8, .int v_8), (7, .int v_7), (6, .int v_6), (5, .int v_5), (4, .int v_4), (3, .int v_3), (2, .int v_2), (1, .int v_1), (0, .ref a)]) dX8_box_340 (by decide) rfl ?_
  refine R_iload (pc := 342) 6 dX8_box_342 rfl ?_
  refine R_iload (pc := 344) 3 dX8_box_344 rfl ?_
  refine R_ixor (pc := 346) dX8_box_346 ?_
  refine R_iload (pc := 347) 12 dX8_box_347 rfl ?_
  refine R_ixor (pc := 349) dX8_box_349 ?_
  refine R_topi (fun v_43 ev_43 => ?_)
  refine R_istore (pc := 350) (lv' := [(43, .int v_43), (42, .int v_42), (41, .int v_41), (40, .int v_40), (39, .int v_39), (38, .int v_38), (37, .int v_37), (36, .int v_36), (35, .int v_35), (34, .int v_34), (33, .int v_33), (32, .int v_32), (31, .int v_31), (30, .int v_30), (29, .int v_29), (28, .int v_28), (27, .int v_27), (26, .int v_26), (25, .int v_25), (24, .int v_24), (23, .int v_23), (22, .int v_22), (21, .int v_21), (20, .int v_20), (19, .int v_19), (18, .int v_18), (17, .int v_17), (16, .int v_16), (15, .int v_15), (14, .int v_14), (13, .int v_13), (12, .int v_12), (11, .int v_11), (10, .int v_10), (9, .int v_9), (8, .int v_8), (7, .int v_7), (6, .int v_6), (5, .int v_5), (4, .int v_4), (3, .int v_3), (2, .int v_2), (1, .int v_1), (0, .ref a)]) dX8_box_350 (by decide) rfl ?_
  refine R_iload (pc := 352) 6 dX8_box_352 rfl ?_
  refine R_iload (pc := 354) 3 dX8_box_354 rfl ?_
  refine R_ixor (pc := 356) dX8_box_356 ?_
  refine R_iload (pc := 357) 12 dX8_box_357 rfl ?_
  refine R_ixor (pc := 359) dX8_box_359 ?_
  refine R_topi (fun v_44 ev_44 => ?_)
  refine R_istore (pc := 360) (lv' := [(44, .int v_44), (43, .int v_43), (42, .int v_42), (41, .int v_41), (40, .int v_40), (39, .int v_39), (38, .int v_38), (37, .int v_37), (36, .int v_36), (35, .int v_35), (34, .int v_34), (33, .int v_33), (32, .int v_32), (31, .int v_31), (30, .int v_30), (29, .int v_29), (28, .int v_28), (27, .int v_27), (26, .int v_26), (25, .int v_25), (24, .int v_24), (23, .int v_23), (22, .int v_22), (21, .int v_21), (20, .int v_20), (19, .int v_19), (18, .int v_18), (17, .int v_17), (16, .int v_16), (15, .int v_15), (14, .int v_14), (13, .int v_13), (12, .int v_12), (11, .int v_11), (10, .int v_10), (9, .int v_9), (8, .int v_8), (7, .int v_7), (6, .int v_6), (5, .int v_5), (4, .int v_4), (3, .int v_3), (2, .int v_2), (1, .int v_1), (0, .ref a)]) dX8_box_360 (by decide) rfl ?_
  refine R_iload (pc := 362) 3 dX8_box_362 rfl ?_
  refine R_iload (pc := 364) 2 dX8_box_364 rfl ?_
  refine R_ixor (pc := 366) dX8_box_366 ?_
  refine R_topi (fun v_45 ev_45 => ?_)
  refine R_istore (pc := 367) (lv' := [(45, .int v_45), (44, .int v_44), (43, .int v_43), (42, .int v_42), (41, .int v_41), (40, .int v_40), (39, .int v_39), (38, .int v_38), (37, .int v_37), (36, .int v_36), (35, .int v_35), (34, .int v_34), (33, .int v_33), (32, .int v_32), (31, .int v_31), (30, .int v_30), (29, .int v_29), (28, .int v_28), (27, .int v_27), (26, .int v_26), (25, .int v_25), (24, .int v_24), (23, .int v_23), (22, .int v_22), (21, .int v_21), (20, .int v_20), (19, .int v_19), (18, .int v_18), (17, .int v_17), (16, .int v_16), (15, .int v_15), (14, .int v_14), (13, .int v_13), (12, .int v_12), (11, .int v_11), (10, .int v_10), (9, .int v_9), (8, .int v_8), (7, .int v_7), (6, .int v_6), (5, .int v_5), (4, .int v_4), (3, .int v_3), (2, .int v_2), (1, .int v_1), (0, .ref a)]) dX8_box_367 (by decide) rfl ?_
  refine R_iload (pc := 369) 4 dX8_box_369 rfl ?_
  refine R_iload (pc := 371) 2 dX8_box_371 rfl ?_
  refine R_iand (pc := 373) dX8_box_373 ?_
  refine R_topi (fun v_46 ev_46 => ?_)
  refine R_istore (pc := 374) (lv' := [(46, .int v_46), (45, .int v_45), (44, .int v_44), (43, .int v_43), (42, .int v_42), (41, .int v_41), (40, .int v_40), (39, .int v_39), (38, .int v_38), (37, .int v_37), (36, .int v_36), (35, .int v_35), (34, .int v_34), (33, .int v_33), (32, .int v_32), (31, .int v_31), (30, .int v_30), (29, .int v_29), (28, .int v_28), (27, .int v_27), (26, .int v_26), (25, .int v_25), (24, .int v_24), (23, .int v_23), (22, .int v_22), (21, .int v_21), (20, .int v_20), (19, .int v_19), (18, .int v_18), (17, .int v_17), (16, .int v_16), (15, .int v_15), (14, .int v_14), (13, .int v_13), (12, .int v_12), (11, .int v_11), (10, .int v_10), (9, .int v_9), (8, .int v_8), (7, .int v_7), (6, .int v_6), (5, .int v_5), (4, .int v_4), (3, .int v_3), (2, .int v_2), (1, .int v_1), (0, .ref a)]) dX8_box_374 (by decide) rfl ?_
  refine R_iload (pc := 376) 2 dX8_box_376 rfl ?_
  refine R_iload (pc := 378) 0 dX8_box_378 rfl ?_
  refine R_ixor (pc := 380) dX8_box_380 ?_
  refine R_topi (fun v_47 ev_47 => ?_)
  refine R_istore (pc := 381) (lv' := [(47, .int v_47), (46, .int v_46), (45, .int v_45), (44, .int v_44), (43, .int v_43), (42, .int v_42), (41, .int v_41), (40, .int v_40), (39, .int v_39), (38, .int v_38), (37, .int v_37), (36, .int v_36), (35, .int v_35), (34, .int v_34), (33, .int v_33), (32, .int v_32), (31, .int v_31), (30, .int v_30), (29, .int v_29), (28, .int v_28), (27, .int v_27), (26, .int v_26), (25, .int v_25), (24, .int v_24), (23, .int v_23), (22, .int v_22), (21, .int v_21), (20, .int v_20), (19, .int v_19), (18, .int v_18), (17, .int v_17), (16, .int v_16), (15, .int v_15), (14, .int v_14), (13, .int v_13), (12, .int v_12), (11, .int v_11), (10, .int v_10), (9, .int v_9), (8, .int v_8), (7, .int v_7), (6, .int v_6), (5, .int v_5), (4, .int v_4), (3, .int v_3), (2, .int v_2), (1, .int v_1), (0, .ref a)]) dX8_box_381 (by decide) rfl ?_
  refine R_iload (pc := 383) 2 dX8_box_383 rfl ?_
  refine R_iload (pc := 385) 0 dX8_box_385 rfl ?_
  refine R_iand (pc := 387) dX8_box_387 ?_
  refine R_iload (pc := 388) 5 dX8_box_388 rfl ?_
  refine R_ixor (pc := 390) dX8_box_390 ?_
  refine R_topi (fun v_48 ev_48 => ?_)
  refine R_istore (pc := 391) (lv' := [(48, .int v_48), (47, .int v_47), (46, .int v_46), (45, .int v_45), (44, .int v_44), (43, .int v_43), (42, .int v_42), (41, .int v_41), (40, .int v_40), (39, .int v_39), (38, .int v_38), (37, .int v_37), (36, .int v_36), (35, .int v_35), (34, .int v_34), (33, .int v_33), (32, .int v_32), (31, .int v_31), (30, .int v_30), (29, .int v_29), (28, .int v_28), (27, .int v_27), (26, .int v_26), (25, .int v_25), (24, .int v_24), (23, .int v_23), (22, .int v_22), (21, .int v_21), (20, .int v_20), (19, .int v_19), (18, .int v_18), (17, .int v_17), (16, .int v_16), (15, .int v_15), (14, .int v_14), (13, .int v_13), (12, .int v_12), (11, .int v_11), (10, .int v_10), (9, .int v_9), (8, .int v_8), (7, .int v_7), (6, .int v_6), (5, .int v_5), (4, .int v_4), (3, .int v_3), (2, .int v_2), (1, .int v_1), (0, .ref a)]) dX8_box_391 (by decide) rfl ?_
  refine R_iload (pc := 393) 5 dX8_box_393 rfl ?_
  refine R_iload (pc := 395) 4 dX8_box_395 rfl ?_
  refine R_ixor (pc := 397) dX8_box_397 ?_
  refine R_topi (fun v_49 ev_49 => ?_)
  refine R_istore (pc := 398) (lv' := [(49, .int v_49), (48, .int v_48), (47, .int v_47), (46, .int v_46), (45, .int v_45), (44, .int v_44), (43, .int v_43), (42, .int v_42), (41, .int v_41), (40, .int v_40), (39, .int v_39), (38, .int v_38), (37, .int v_37), (36, .int v_36), (35, .int v_35), (34, .int v_34), (33, .int v_33), (32, .int v_32), (31, .int v_31), (30, .int v_30), (29, .int v_29), (28, .int v_28), (27, .int v_27), (26, .int v_26), (25, .int v_25), (24, .int v_24), (23, .int v_23), (22, .int v_22), (21, .int v_21), (20, .int v_20), (19, .int v_19), (18, .int v_18), (17, .int v_17), (16, .int v_16), (15, .int v_15), (14, .int v_14), (13, .int v_13), (12, .int v_12), (11, .int v_11), (10, .int v_10), (9, .int v_9), (8, .int v_8), (7, .int v_7), (6, .int v_6), (5, .int v_5), (4, .int v_4), (3, .int v_3), (2, .int v_2), (1, .int v_1), (0, .ref a)]) dX8_box_398 (by decide) rfl ?_
  refine R_iload (pc := 400) 7 dX8_box_400 rfl ?_
  refine R_iload (pc := 402) 3 dX8_box_402 rfl ?_
  refine R_ixor (pc := 404) dX8_box_404 ?_
  refine R_topi (fun v_50 ev_50 => ?_)
  refine R_istore (pc := 405) (lv' := [(50, .int v_50), (49, .int v_49), (48, .int v_48), (47, .int v_47), (46, .int v_46), (45, .int v_45), (44, .int v_44), (43, .int v_43), (42, .int v_42), (41, .int v_41), (40, .int v_40), (39, .int v_39), (38, .int v_38), (37, .int v_37), (36, .int v_36), (35, .int v_35), (34, .int v_34), (33, .int v_33), (32, .int v_32), (31, .int v_31), (30, .int v_30), (29, .int v_29), (28, .int v_28), (27, .int v_27), (26, .int v_26), (25, .int v_25), (24, .int v_24), (23, .int v_23), (22, .int v_22), (21, .int v_21), (20, .int v_20), (19, .int v_19), (18, .int v_18), (17, .int v_17), (16, .int v_16), (15, .int v_15), (14, .int v_14), (13, .int v_13), (12, .int v_12), (11, .int v_11), (10, .int v_10), (9, .int v_9), (8, .int v_8), (7, .int v_7), (6, .int v_6), (5, .int v_5), (4, .int v_4), (3, .int v_3), (2, .int v_2), (1, .int v_1), (0, .ref a)]) dX8_box_405 (by decide) rfl ?_
  refine R_iload (pc := 407) 0 dX8_box_407 rfl ?_
  refine R_iload (pc := 409) 1 dX8_box_409 rfl ?_
  refine R_iand (pc := 411) dX8_box_411 ?_
  refine R_iload (pc := 412) 6 dX8_box_412 rfl ?_
  refine R_ixor (pc := 414) dX8_box_414 ?_
  refine R_topi (fun v_51 ev_51 => ?_)
  refine R_istore (pc := 415) (lv' := [(51, .int v_51), (50, .int v_50), (49, .int v_49), (48, .int v_48), (47, .int v_47), (46, .int v_46), (45, .int v_45), (44, .int v_44), (43, .int v_43), (42, .int v_42), (41, .int v_41), (40, .int v_40), (39, .int v_39), (38, .int v_38), (37, .int v_37), (36, .int v_36), (35, .int v_35), (34, .int v_34), (33, .int v_33), (32, .int v_32), (31, .int v_31), (30, .int v_30), (29, .int v_29), (28, .int v_28), (27, .int v_27), (26, .int v_26), (25, .int v_25), (24, .int v_24), (23, .int v_23), (22, .int v_22), (21, .int v_21), (20, .int v_20), (19, .int v_19), (18, .int v_18), (17, .int v_17), (16, .int v_16), (15, .int v_15), (14, .int v_14), (13, .int v_13), (12, .int v_12), (11, .int v_11), (10, .int v_10), (9, .int v_9), (8, .int v_8), (7, .int v_7), (6, .int v_6), (5, .int v_5), (4, .int v_4), (3, .int v_3), (2, .int v_2), (1, .int v_1), (0, .ref a)]) dX8_box_415 (by decide) rfl ?_
  refine R_iload (pc := 417) 8 dX8_box_417 rfl ?_
  refine R_iload (pc := 419) 0 dX8_box_419 rfl ?_
  refine R_ixor (pc := 421) dX8_box_421 ?_
  refine R_topi (fun v_52 ev_52 => ?_)
  refine R_istore (pc := 422) (lv' := [(52, .int v_52), (51, .int v_51), (50, .int v_50), (49, .int v_49), (48, .int v_48), (47, .int v_47), (46, .int v_46), (45, .int v_45), (44, .int v_44), (43, .int v_43), (42, .int v_42), (41, .int v_41), (40, .int v_40), (39, .int v_39), (38, .int v_38), (37, .int v_37), (36, .int v_36), (35, .int v_35), (34, .int v_34), (33, .int v_33), (32, .int v_32), (31, .int v_31), (30, .int v_30), (29, .int v_29), (28, .int v_28), (27, .int v_27), (26, .int v_26), (25, .int v_25), (24, .int v_24), (23, .int v_23), (22, .int v_22), (21, .int v_21), (20, .int v_20), (19, .int v_19), (18, .int v_18), (17, .int v_17), (16, .int v_16), (15, .int v_15), (14, .int v_14), (13, .int v_13), (12, .int v_12), (11, .int v_11), (10, .int v_10), (9, .int v_9), (8, .int v_8), (7, .int v_7), (6, .int v_6), (5, .int v_5), (4, .int v_4), (3, .int v_3), (2, .int v_2), (1, .int v_1), (0, .ref a)]) dX8_box_422 (by decide) rfl ?_
  refine R_iload (pc := 424) 5 dX8_box_424 rfl ?_
  refine R_iload (pc := 426) 1 dX8_box_426 rfl ?_
  refine R_ixor (pc := 428) dX8_box_428 ?_
  refine R_topi (fun v_53 ev_53 => ?_)
  refine R_istore (pc := 429) (lv' := [(53, .int v_53), (52, .int v_52), (51, .int v_51), (50, .int v_50), (49, .int v_49), (48, .int v_48), (47, .int v_47), (46, .int v_46), (45, .int v_45), (44, .int v_44), (43, .int v_43), (42, .int v_42), (41, .int v_41), (40, .int v_40), (39, .int v_39), (38, .int v_38), (37, .int v_37), (36, .int v_36), (35, .int v_35), (34, .int v_34), (33, .int v_33), (32, .int v_32), (31, .int v_31), (30, .int v_30), (29, .int v_29), (28, .int v_28), (27, .int v_27), (26, .int v_26), (25, .int v_25), (24, .int v_24), (23, .int v_23), (22, .int v_22), (21, .int v_21), (20, .int v_20), (19, .int v_19), (18, .int v_18), (17, .int v_17), (16, .int v_16), (15, .int v_15), (14, .int v_14), (13, .int v_13), (12, .int v_12), (11, .int v_11), (10, .int v_10), (9, .int v_9), (8, .int v_8), (7, .int v_7), (6, .int v_6), (5, .int v_5), (4, .int v_4), (3, .int v_3), (2, .int v_2), (1, .int v_1), (0, .ref a)]) dX8_box_429 (by decide) rfl ?_
  refine R_iload (pc := 431) 9 dX8_box_431 rfl ?_
  refine R_iload (pc := 433) 0 dX8_box_433 rfl ?_
  refine R_iand (pc := 435) dX8_box_435 ?_
  refine R_topi (fun v_54 ev_54 => ?_)
  refine R_istore (pc := 436) (lv' := [(54, .int v_54), (53, .int v_53), (52, .int v_52), (51, .int v_51), (50, .int v_50), (49, .int v_49), (48, .int v_48), (47, .int v_47), (46, .int v_46), (45, .int v_45), (44, .int v_44), (43, .int v_43), (42, .int v_42), (41, .int v_41), (40, .int v_40), (39, .int v_39), (38, .int v_38), (37, .int v_37), (36, .int v_36), (35, .int v_35), (34, .int v_34), (33, .int v_33), (32, .int v_32), (31, .int v_31), (30, .int v_30), (29, .int v_29), (28, .int v_28), (27, .int v_27), (26, .int v_26), (25, .int v_25), (24, .int v_24), (23, .int v_23), (22, .int v_22), (21, .int v_21), (20, .int v_20), (19, .int v_19), (18, .int v_18), (17, .int v_17), (16, .int v_16), (15, .int v_15), (14, .int v_14), (13, .int v_13), (12, .int v_12), (11, .int v_11), (10, .int v_10), (9, .int v_9), (8, .int v_8), (7, .int v_7), (6, .int v_6), (5, .int v_5), (4, .int v_4), (3, .int v_3), (2, .int v_2), (1, .int v_1), (0, .ref a)]) dX8_box_436 (by decide) rfl ?_
  refine R_iload (pc := 438) 0 dX8_box_438 rfl ?_
  refine R_iload (pc := 440) 2 dX8_box_440 rfl ?_
  refine R_ixor (pc := 442) dX8_box_442 ?_
  refine R_topi (fun v_55 ev_55 => ?_)
  refine R_istore (pc := 443) (lv' := [(55, .int v_55), (54, .int v_54), (53, .int v_53), (52, .int v_52), (51, .int v_51), (50, .int v_50), (49, .int v_49), (48, .int v_48), (47, .int v_47), (46, .int v_46), (45, .int v_45), (44, .int v_44), (43, .int v_43), (42, .int v_42), (41, .int v_41), (40, .int v_40), (39, .int v_39), (38, .int v_38), (37, .int v_37), (36, .int v_36), (35, .int v_35), (34, .int v_34), (33, .int v_33), (32, .int v_32), (31, .int v_31), (30, .int v_30), (29, .int v_29), (28, .int v_28), (27, .int v_27), (26, .int v_26), (25, .int v_25), (24, .int v_24), (23, .int v_23), (22, .int v_22), (21, .int v_21), (20, .int v_20), (19, .int v_19), (18, .int v_18), (17, .int v_17), (16, .int v_16), (15, .int v_15), (14, .int v_14), (13, .int v_13), (12, .int v_12), (11, .int v_11), (10, .int v_10), (9, .int v_9), (8, .int v_8), (7, .int v_7), (6, .int v_6), (5, .int v_5), (4, .int v_4), (3, .int v_3), (2, .int v_2), (1, .int v_1), (0, .ref a)]) dX8_box_443 (by decide) rfl ?_
  refine R_iload (pc := 445) 8 dX8_box_445 rfl ?_
  refine R_iload (pc := 447) 1 dX8_box_447 rfl ?_
  refine R_ixor (pc := 449) dX8_box_449 ?_
  refine R_topi (fun v_56 ev_56 => ?_)
  refine R_istore (pc := 450) (lv' := [(56, .int v_56), (55, .int v_55), (54, .int v_54), (53, .int v_53), (52, .int v_52), (51, .int v_51), (50, .int v_50), (49, .int v_49), (48, .int v_48), (47, .int v_47), (46, .int v_46), (45, .int v_45), (44, .int v_44), (43, .int v_43), (42, .int v_42), (41, .int v_41), (40, .int v_40), (39, .int v_39), (38, .int v_38), (37, .int v_37), (36, .int v_36), (35, .int v_35), (34, .int v_34), (33, .int v_33), (32, .int v_32), (31, .int v_31), (30, .int v_30), (29, .int v_29), (28, .int v_28), (27, .int v_27), (26, .int v_26), (25, .int v_25), (24, .int v_24), (23, .int v_23), (22, .int v_22), (21, .int v_21), (20, .int v_20), (19, .int v_19), (18, .int v_18), (17, .int v_17), (16, .int v_16), (15, .int v_15), (14, .int v_14), (13, .int v_13), (12, .int v_12), (11, .int v_11), (10, .int v_10), (9, .int v_9), (8, .int v_8), (7, .int v_7), (6, .int v_6), (5, .int v_5), (4, .int v_4), (3, .int v_3), (2, .int v_2), (1, .int v_1), (0, .ref a)]) dX8_box_450 (by decide) rfl ?_
  refine R_iload (pc := 452) 11 dX8_box_452 rfl ?_
  refine R_iload (pc := 454) 8 dX8_box_454 rfl ?_
  refine R_iload (pc := 456) 0 dX8_box_456 rfl ?_
  refine R_iand (pc := 458) dX8_box_458 ?_
  refine R_ixor (pc := 459) dX8_box_459 ?_
  refine R_topi (fun v_57 ev_57 => ?_)
  refine R_istore (pc := 460) (lv' := [(57, .int v_57), (56, .int v_56), (55, .int v_55), (54, .int v_54), (53, .int v_53), (52, .int v_52), (51, .int v_51), (50, .int v_50), (49, .int v_49), (48, .int v_48), (47, .int v_47), (46, .int v_46), (45, .int v_45), (44, .int v_44), (43, .int v_43), (42, .int v_42), (41, .int v_41), (40, .int v_40), (39, .int v_39), (38, .int v_38), (37, .int v_37), (36, .int v_36), (35, .int v_35), (34, .int v_34), (33, .int v_33), (32, .int v_32), (31, .int v_31), (30, .int v_30), (29, .int v_29), (28, .int v_28), (27, .int v_27), (26, .int v_26), (25, .int v_25), (24, .int v_24), (23, .int v_23), (22, .int v_22), (21, .int v_21), (20, .int v_20), (19, .int v_19), (18, .int v_18), (17, .int v_17), (16, .int v_16), (15, .int v_15), (14, .int v_14), (13, .int v_13), (12, .int v_12), (11, .int v_11), (10, .int v_10), (9, .int v_9), (8, .int v_8), (7, .int v_7), (6, .int v_6), (5, .int v_5), (4, .int v_4), (3, .int v_3), (2, .int v_2), (1, .int v_1), (0, .ref a)]) dX8_box_460 (by decide) rfl ?_
  refine R_iload (pc := 462) 0 dX8_box_462 rfl ?_
  refine R_iload (pc := 464) 2 dX8_box_464 rfl ?_
  refine R_ixor (pc := 466) dX8_box_466 ?_
  refine R_topi (fun v_58 ev_58 => ?_)
  refine R_istore (pc := 467) (lv' := [(58, .int v_58), (57, .int v_57), (56, .int v_56), (55, .int v_55), (54, .int v_54), (53, .int v_53), (52, .int v_52), (51, .int v_51), (50, .int v_50), (49, .int v_49), (48, .int v_48), (47, .int v_47), (46, .int v_46), (45, .int v_45), (44, .int v_44), (43, .int v_43), (42, .int v_42), (41, .int v_41), (40, .int v_40), (39, .int v_39), (38, .int v_38), (37, .int v_37), (36, .int v_36), (35, .int v_35), (34, .int v_34), (33, .int v_33), (32, .int v_32), (31, .int v_31), (30, .int v_30), (29, .int v_29), (28, .int v_28), (27, .int v_27), (26, .int v_26), (25, .int v_25), (24, .int v_24), (23, .int v_23), (22, .int v_22), (21, .int v_21), (20, .int v_20), (19, .int v_19), (18, .int v_18), (17, .int v_17), (16, .int v_16), (15, .int v_15), (14, .int v_14), (13, .int v_13), (12, .int v_12), (11, .int v_11), (10, .int v_10), (9, .int v_9), (8, .int v_8), (7, .int v_7), (6, .int v_6), (5, .int v_5), (4, .int v_4), (3, .int v_3), (2, .int v_2), (1, .int v_1), (0, .ref a)]) dX8_box_467 (by decide) rfl ?_
  refine R_iload (pc := 469) 10 dX8_box_469 rfl ?_
  refine R_iload (pc := 471) 7 dX8_box_471 rfl ?_
  refine R_ixor (pc := 473) dX8_box_473 ?_
  refine R_topi (fun v_59 ev_59 => ?_)
  refine R_istore (pc := 474) (lv' := [(59, .int v_59), (58, .int v_58), (57, .int v_57), (56, .int v_56), (55, .int v_55), (54, .int v_54), (53, .int v_53), (52, .int v_52), (51, .int v_51), (50, .int v_50), (49, .int v_49), (48, .int v_48), (47, .int v_47), (46, .int v_46), (45, .int v_45), (44, .int v_44), (43, .int v_43), (42, .int v_42), (41, .int v_41), (40, .int v_40), (39, .int v_39), (38, .int v_38), (37, .int v_37), (36, .int v_36), (35, .int v_35), (34, .int v_34), (33, .int v_33), (32, .int v_32), (31, .int v_31), (30, .int v_30), (29, .int v_29), (28, .int v_28), (27, .int v_27), (26, .int v_26), (25, .int v_25), (24, .int v_24), (23, .int v_23), (22, .int v_22), (21, .int v_21), (20, .int v_20), (19, .int v_19), (18, .int v_18), (17, .int v_17), (16, .int v_16), (15, .int v_15), (14, .int v_14), (13, .int v_13), (12, .int v_12), (11, .int v_11), (10, .int v_10), (9, .int v_9), (8, .int v_8), (7, .int v_7), (6, .int v_6), (5, .int v_5), (4, .int v_4), (3, .int v_3), (2, .int v_2), (1, .int v_1), (0, .ref a)]) dX8_box_474 (by decide) rfl ?_
  refine R_iload (pc := 476) 11 dX8_box_476 rfl ?_
  refine R_iload (pc := 478) 2 dX8_box_478 rfl ?_
  refine R_ixor (pc := 480) dX8_box_480 ?_
  refine R_topi (fun v_60 ev_60 => ?_)
  refine R_istore (pc := 481) (lv' := [(60, .int v_60), (59, .int v_59), (58, .int v_58), (57, .int v_57), (56, .int v_56), (55, .int v_55), (54, .int v_54), (53, .int v_53), (52, .int v_52), (51, .int v_51), (50, .int v_50), (49, .int v_49), (48, .int v_48), (47, .int v_47), (46, .int v_46), (45, .int v_45), (44, .int v_44), (43, .int v_43), (42, .int v_42), (41, .int v_41), (40, .int v_40), (39, .int v_39), (38, .int v_38), (37, .int v_37), (36, .int v_36), (35, .int v_35), (34, .int v_34), (33, .int v_33), (32, .int v_32), (31, .int v_31), (30, .int v_30), (29, .int v_29), (28, .int v_28), (27, .int v_27), (26, .int v_26), (25, .int v_25), (24, .int v_24), (23, .int v_23), (22, .int v_22), (21, .int v_21), (20, .int v_20), (19, .int v_19), (18, .int v_18), (17, .int v_17), (16, .int v_16), (15, .int v_15), (14, .int v_14), (13, .int v_13), (12, .int v_12), (11, .int v_11), (10, .int v_10), (9, .int v_9), (8, .int v_8), (7, .int v_7), (6, .int v_6), (5, .int v_5), (4, .int v_4), (3, .int v_3), (2, .int v_2), (1, .int v_1), (0, .ref a)]) dX8_box_481 (by decide) rfl ?_
  refine R_iload (pc := 483) 9 dX8_box_483 rfl ?_
  refine R_iload (pc := 485) 5 dX8_box_485 rfl ?_
  refine R_ixor (pc := 487) dX8_box_487 ?_
  refine R_topi (fun v_61 ev_61 => ?_)
  refine R_istore (pc := 488) (lv' := [(61, .int v_61), (60, .int v_60), (59, .int v_59), (58, .int v_58), (57, .int v_57), (56, .int v_56), (55, .int v_55), (54, .int v_54), (53, .int v_53), (52, .int v_52), (51, .int v_51), (50, .int v_50), (49, .int v_49), (48, .int v_48), (47, .int v_47), (46, .int v_46), (45, .int v_45), (44, .int v_44), (43, .int v_43), (42, .int v_42), (41, .int v_41), (40, .int v_40), (39, .int v_39), (38, .int v_38), (37, .int v_37), (36, .int v_36), (35, .int v_35), (34, .int v_34), (33, .int v_33), (32, .int v_32), (31, .int v_31), (30, .int v_30), (29, .int v_29), (28, .int v_28), (27, .int v_27), (26, .int v_26), (25, .int v_25), (24, .int v_24), (23, .int v_23), (22, .int v_22), (21, .int v_21), (20, .int v_20), (19, .int v_19), (18, .int v_18), (17, .int v_17), (16, .int v_16), (15, .int v_15), (14, .int v_14), (13, .int v_13), (12, .int v_12), (11, .int v_11), (10, .int v_10), (9, .int v_9), (8, .int v_8), (7, .int v_7), (6, .int v_6), (5, .int v_5), (4, .int v_4), (3, .int v_3), (2, .int v_2), (1, .int v_1), (0, .ref a)]) dX8_box_488 (by decide) rfl ?_
  refine R_iload (pc := 490) 2 dX8_box_490 rfl ?_
  refine R_iload (pc := 492) 3 dX8_box_492 rfl ?_
  refine R_ixor (pc := 494) dX8_box_494 ?_
  refine R_topi (fun v_62 ev_62 => ?_)
  refine R_istore (pc := 495) (lv' := [(62, .int v_62), (61, .int v_61), (60, .int v_60), (59, .int v_59), (58, .int v_58), (57, .int v_57), (56, .int v_56), (55, .int v_55), (54, .int v_54), (53, .int v_53), (52, .int v_52), (51, .int v_51), (50, .int v_50), (49, .int v_49), (48, .int v_48), (47, .int v_47), (46, .int v_46), (45, .int v_45), (44, .int v_44), (43, .int v_43), (42, .int v_42), (41, .int v_41), (40, .int v_40), (39, .int v_39), (38, .int v_38), (37, .int v_37), (36, .int v_36), (35, .int v_35), (34, .int v_34), (33, .int v_33), (32, .int v_32), (31, .int v_31), (30, .int v_30), (29, .int v_29), (28, .int v_28), (27, .int v_27), (26, .int v_26), (25, .int v_25), (24, .int v_24), (23, .int v_23), (22, .int v_22), (21, .int v_21), (20, .int v_20), (19, .int v_19), (18, .int v_18), (17, .int v_17), (16, .int v_16), (15, .int v_15), (14, .int v_14), (13, .int v_13), (12, .int v_12), (11, .int v_11), (10, .int v_10), (9, .int v_9), (8, .int v_8), (7, .int v_7), (6, .int v_6), (5, .int v_5), (4, .int v_4), (3, .int v_3), (2, .int v_2), (1, .int v_1), (0, .ref a)]) dX8_box_495 (by decide) rfl ?_
  refine R_iload (pc := 497) 1 dX8_box_497 rfl ?_
  refine R_iload (pc := 499) 41 dX8_box_499 rfl ?_
  refine R_iand (pc := 501) dX8_box_501 ?_
  refine R_topi (fun v_63 ev_63 => ?_)
  refine R_istore (pc := 502) (lv' := [(63, .int v_63), (62, .int v_62), (61, .int v_61), (60, .int v_60), (59, .int v_59), (58, .int v_58), (57, .int v_57), (56, .int v_56), (55, .int v_55), (54, .int v_54), (53, .int v_53), (52, .int v_52), (51, .int v_51), (50, .int v_50), (49, .int v_49), (48, .int v_48), (47, .int v_47), (46, .int v_46), (45, .int v_45), (44, .int v_44), (43, .int v_43), (42, .int v_42), (41, .int v_41), (40, .int v_40), (39, .int v_39), (38, .int v_38), (37, .int v_37), (36, .int v_36), (35, .int v_35), (34, .int v_34), (33, .int v_33), (32, .int v_32), (31, .int v_31), (30, .int v_30), (29, .int v_29), (28, .int v_28), (27, .int v_27), (26, .int v_26), (25, .int v_25), (24, .int v_24), (23, .int v_23), (22, .int v_22), (21, .int v_21), (20, .int v_20), (19, .int v_19), (18, .int v_18), (17, .int v_17), (16, .int v_16), (15, .int v_15), (14, .int v_14), (13, .int v_13), (12, .int v_12), (11, .int v_11), (10, .int v_10), (9, .int v_9), (8, .int v_8), (7, .int v_7), (6, .int v_6), (5, .int v_5), (4, .int v_4), (3, .int v_3), (2, .int v_2), (1, .int v_1), (0, .ref a)]) dX8_box_502 (by decide) rfl ?_
  refine R_iload (pc := 504) 8 dX8_box_504 rfl ?_
  refine R_iload (pc := 506) 40 dX8_box_506 rfl ?_
  refine R_iand (pc := 508) dX8_box_508 ?_
  refine R_topi (fun v_64 ev_64 => ?_)
  refine R_istore (pc := 509) (lv' := [(64, .int v_64), (63, .int v_63), (62, .int v_62), (61, .int v_61), (60, .int v_60), (59, .int v_59), (58, .int v_58), (57, .int v_57), (56, .int v_56), (55, .int v_55), (54, .int v_54), (53, .int v_53), (52, .int v_52), (51, .int v_51), (50, .int v_50), (49, .int v_49), (48, .int v_48), (47, .int v_47), (46, .int v_46), (45, .int v_45), (44, .int v_44), (43, .int v_43), (42, .int v_42), (41, .int v_41), (40, .int v_40), (39, .int v_39), (38, .int v_38), (37, .int v_37), (36, .int v_36), (35, .int v_35), (34, .int v_34), (33, .int v_33), (32, .int v_32), (31, .int v_31), (30, .int v_30), (29, .int v_29), (28, .int v_28), (27, .int v_27), (26, .int v_26), (25, .int v_25), (24, .int v_24), (23, .int v_23), (22, .int v_22), (21, .int v_21), (20, .int v_20), (19, .int v_19), (18, .int v_18), (17, .int v_17), (16, .int v_16), (15, .int v_15), (14, .int v_14), (13, .int v_13), (12, .int v_12), (11, .int v_11), (10, .int v_10), (9, .int v_9), (8, .int v_8), (7, .int v_7), (6, .int v_6), (5, .int v_5), (4, .int v_4), (3, .int v_3), (2, .int v_2), (1, .int v_1), (0, .ref a)]) dX8_box_509 (by decide) rfl ?_
  refine R_iload (pc := 511) 13 dX8_box_511 rfl ?_
  refine R_iload_n (pc := 513) 63 dX8_box_513 rfl rfl ?_
  refine R_iand (pc := 514) dX8_box_514 ?_
  refine R_topi (fun v_65 ev_65 => ?_)
  refine R_istore (pc := 515) (lv' := [(65, .int v_65), (64, .int v_64), (63, .int v_63), (62, .int v_62), (61, .int v_61), (60, .int v_60), (59, .int v_59), (58, .int v_58), (57, .int v_57), (56, .int v_56), (55, .int v_55), (54, .int v_54), (53, .int v_53), (52, .int v_52), (51, .int v_51), (50, .int v_50), (49, .int v_49), (48, .int v_48), (47, .int v_47), (46, .int v_46), (45, .int v_45), (44, .int v_44), (43, .int v_43), (42, .int v_42), (41, .int v_41), (40, .int v_40), (39, .int v_39), (38, .int v_38), (37, .int v_37), (36, .int v_36), (35, .int v_35), (34, .int v_34), (33, .int v_33), (32, .int v_32), (31, .int v_31), (30, .int v_30), (29, .int v_29), (28, .int v_28), (27, .int v_27), (26, .int v_26), (25, .int v_25), (24, .int v_24), (23, .int v_23), (22, .int v_22), (21, .int v_21), (20, .int v_20), (19, .int v_19), (18, .int v_18), (17, .int v_17), (16, .int v_16), (15, .int v_15), (14, .int v_14), (13, .int v_13), (12, .int v_12), (11, .int v_11), (10, .int v_10), (9, .int v_9), (8, .int v_8), (7, .int v_7), (6, .int v_6), (5, .int v_5), (4, .int v_4), (3, .int v_3), (2, .int v_2), (1, .int v_1), (0, .ref a)]) dX8_box_515 (by decide) rfl ?_
  refine R_iload (pc := 517) 5 dX8_box_517 rfl ?_
  refine R_iload (pc := 519) 36 dX8_box_519 rfl ?_
  refine R_iand (pc := 521) dX8_box_521 ?_
  refine R_topi (fun v_66 ev_66 => ?_)
  refine R_istore (pc := 522) (lv' := [(66, .int v_66), (65, .int v_65), (64, .int v_64), (63, .int v_63), (62, .int v_62), (61, .int v_61), (60, .int v_60), (59, .int v_59), (58, .int v_58), (57, .int v_57), (56, .int v_56), (55, .int v_55), (54, .int v_54), (53, .int v_53), (52, .int v_52), (51, .int v_51), (50, .int v_50), (49, .int v_49), (48, .int v_48), (47, .int v_47), (46, .int v_46), (45, .int v_45), (44, .int v_44), (43, .int v_43), (42, .int v_42), (41, .int v_41), (40, .int v_40), (39, .int v_39), (38, .int v_38), (37, .int v_37), (36, .int v_36), (35, .int v_35), (34, .int v_34), (33, .int v_33), (32, .int v_32), (31, .int v_31), (30, .int v_30), (29, .int v_29), (28, .int v_28), (27, .int v_27), (26, .int v_26), (25, .int v_25), (24, .int v_24), (23, .int v_23), (22, .int v_22), (21, .int v_21), (20, .int v_20), (19, .int v_19), (18, .int v_18), (17, .int v_17), (16, .int v_16), (15, .int v_15), (14, .int v_14), (13, .int v_13), (12, .int v_12), (11, .int v_11), (10, .int v_10), (9, .int v_9), (8, .int v_8), (7, .int v_7), (6, .int v_6), (5, .int v_5), (4, .int v_4), (3, .int v_3), (2, .int v_2), (1, .int v_1), (0, .ref a)]) dX8_box_522 (by decide) rfl ?_
  refine R_iload (pc := 524) 9 dX8_box_524 rfl ?_
  refine R_iload (pc := 526) 52 dX8_box_526 rfl ?_
  refine R_iand (pc := 528) dX8_box_528 ?_
  refine R_topi (fun v_67 ev_67 => ?_)
  refine R_istore (pc := 529) (lv' := [(67, .int v_67), (66, .int v_66), (65, .int v_65), (64, .int v_64), (63, .int v_63), (62, .int v_62), (61, .int v_61), (60, .int v_60), (59, .int v_59), (58, .int v_58), (57, .int v_57), (56, .int v_56), (55, .int v_55), (54, .int v_54), (53, .int v_53), (52, .int v_52), (51, .int v_51), (50, .int v_50), (49, .int v_49), (48, .int v_48), (47, .int v_47), (46, .int v_46), (45, .int v_45), (44, .int v_44), (43, .int v_43), (42, .int v_42), (41, .int v_41), (40, .int v_40), (39, .int v_39), (38, .int v_38), (37, .int v_37), (36, .int v_36), (35, .int v_35), (34, .int v_34), (33, .int v_33), (32, .int v_32), (31, .int v_31), (30, .int v_30), (29, .int v_29), (28, .int v_28), (27, .int v_27), (26, .int v_26), (25, .int v_25), (24, .int v_24), (23, .int v_23), (22, .int v_22), (21, .int v_21), (20, .int v_20), (19, .int v_19), (18, .int v_18), (17, .int v_17), (16, .int v_16), (15, .int v_15), (14, .int v_14), (13, .int v_13), (12, .int v_12), (11, .int v_11), (10, .int v_10), (9, .int v_9), (8, .int v_8), (7, .int v_7), (6, .int v_6), (5, .int v_5), (4, .int v_4), (3, .int v_3), (2, .int v_2), (1, .int v_1), (0, .ref a)]) dX8_box_529 (by decide) rfl ?_
  refine R_iload (pc := 531) 19 dX8_box_531 rfl ?_
  refine R_iload (pc := 533) 41 dX8_box_533 rfl ?_
  refine R_iand (pc := 535) dX8_box_535 ?_
  refine R_topi (fun v_68 ev_68 => ?_)
  refine R_istore (pc := 536) (lv' := [(68, .int v_68), (67, .int v_67), (66, .int v_66), (65, .int v_65), (64, .int v_64), (63, .int v_63), (62, .int v_62), (61, .int v_61), (60, .int v_60), (59, .int v_59), (58, .int v_58), (57, .int v_57), (56, .int v_56), (55, .int v_55), (54, .int v_54), (53, .int v_53), (52, .int v_52), (51, .int v_51), (50, .int v_50), (49, .int v_49), (48, .int v_48), (47, .int v_47), (46, .int v_46), (45, .int v_45), (44, .int v_44), (43, .int v_43), (42, .int v_42), (41, .int v_41), (40, .int v_40), (39, .int v_39), (38, .int v_38), (37, .int v_37), (36, .int v_36), (35, .int v_35), (34, .int v_34), (33, .int v_33), (32, .int v_32), (31, .int v_31), (30, .int v_30), (29, .int v_29), (28, .int v_28), (27, .int v_27), (26, .int v_26), (25, .int v_25), (24, .int v_24), (23, .int v_23), (22, .int v_22), (21, .int v_21), (20, .int v_20), (19, .int v_19), (18, .int v_18), (17, .int v_17), (16, .int v_16), (15, .int v_15), (14, .int v_14), (13, .int v_13), (12, .int v_12), (11, .int v_11), (10, .int v_10), (9, .int v_9), (8, .int v_8), (7, .int v_7), (6, .int v_6), (5, .int v_5), (4, .int v_4), (3, .int v_3), (2, .int v_2), (1, .int v_1), (0, .ref a)]) dX8_box_536 (by decide) rfl ?_
  refine R_iload (pc := 538) 9 dX8_box_538 rfl ?_
  refine R_iload (pc := 540) 43 dX8_box_540 rfl ?_
  refine R_iand (pc := 542) dX8_box_542 ?_
  refine R_topi (fun v_69 ev_69 => ?_)
  refine R_istore (pc := 543) (lv' := [(69, .int v_69), (68, .int v_68), (67, .int v_67), (66, .int v_66), (65, .int v_65), (64, .int v_64), (63, .int v_63), (62, .int v_62), (61, .int v_61), (60, .int v_60), (59, .int v_59), (58, .int v_58), (57, .int v_57), (56, .int v_56), (55, .int v_55), (54, .int v_54), (53, .int v_53), (52, .int v_52), (51, .int v_51), (50, .int v_50), (49, .int v_49), (48, .int v_48), (47, .int v_47), (46, .int v_46), (45, .int v_45), (44, .int v_44), (43, .int v_43), (42, .int v_42), (41, .int v_41), (40, .int v_40), (39, .int v_39), (38, .int v_38), (37, .int v_37), (36, .int v_36), (35, .int v_35), (34, .int v_34), (33, .int v_33), (32, .int v_32), (31, .int v_31), (30, .int v_30), (29, .int v_29), (28, .int v_28), (27, .int v_27), (26, .int v_26), (25, .int v_25), (24, .int v_24), (23, .int v_23), (22, .int v_22), (21, .int v_21), (20, .int v_20), (19, .int v_19), (18, .int v_18), (17, .int v_17), (16, .int v_16), (15, .int v_15), (14, .int v_14), (13, .int v_13), (12, .int v_12), (11, .int v_11), (10, .int v_10), (9, .int v_9), (8, .int v_8), (7, .int v_7), (6, .int v_6), (5, .int v_5), (4, .int v_4), (3, .int v_3), (2, .int v_2), (1, .int v_1), (0, .ref a)]) dX8_box_543 (by decide) rfl ?_
  refine R_iload (pc := 545) 7 dX8_box_545 rfl ?_
  refine R_iload (pc := 547) 42 dX8_box_547 rfl ?_
  refine R_iand (pc := 549) dX8_box_549 ?_
  refine R_topi (fun v_70 ev_70 => ?_)
  refine R_istore (pc := 550) (lv' := [(70, .int v_70), (69, .int v_69), (68, .int v_68), (67, .int v_67), (66, .int v_66), (65, .int v_65), (64, .int v_64), (63, .int v_63), (62, .int v_62), (61, .int v_61), (60, .int v_60), (59, .int v_59), (58, .int v_58), (57, .int v_57), (56, .int v_56), (55, .int v_55), (54, .int v_54), (53, .int v_53), (52, .int v_52), (51, .int v_51), (50, .int v_50), (49, .int v_49), (48, .int v_48), (47, .int v_47), (46, .int v_46), (45, .int v_45), (44, .int v_44), (43, .int v_43), (42, .int v_42), (41, .int v_41), (40, .int v_40), (39, .int v_39), (38, .int v_38), (37, .int v_37), (36, .int v_36), (35, .int v_35), (34, .int v_34), (33, .int v_33), (32, .int v_32), (31, .int v_31), (30, .int v_30), (29, .int v_29), (28, .int v_28), (27, .int v_27), (26, .int v_26), (25, .int v_25), (24, .int v_24), (23, .int v_23), (22, .int v_22), (21, .int v_21), (20, .int v_20), (19, .int v_19), (18, .int v_18), (17, .int v_17), (16, .int v_16), (15, .int v_15), (14, .int v_14), (13, .int v_13), (12, .int v_12), (11, .int v_11), (10, .int v_10), (9, .int v_9), (8, .int v_8), (7, .int v_7), (6, .int v_6), (5, .int v_5), (4, .int v_4), (3, .int v_3), (2, .int v_2), (1, .int v_1), (0, .ref a)]) dX8_box_550 (by decide) rfl ?_
  refine R_iload (pc := 552) 12 dX8_box_552 rfl ?_
  refine R_iload (pc := 554) 46 dX8_box_554 rfl ?_
  refine R_iand (pc := 556) dX8_box_556 ?_
  refine R_topi (fun v_71 ev_71 => ?_)
  refine R_istore (pc := 557) (lv' := [(71, .int v_71), (70, .int v_70), (69, .int v_69), (68, .int v_68), (67, .int v_67), (66, .int v_66), (65, .int v_65), (64, .int v_64), (63, .int v_63), (62, .int v_62), (61, .int v_61), (60, .int v_60), (59, .int v_59), (58, .int v_58), (57, .int v_57), (56, .int v_56), (55, .int v_55), (54, .int v_54), (53, .int v_53), (52, .int v_52), (51, .int v_51), (50, .int v_50), (49, .int v_49), (48, .int v_48), (47, .int v_47), (46, .int v_46), (45, .int v_45), (44, .int v_44), (43, .int v_43), (42, .int v_42), (41, .int v_41), (40, .int v_40), (39, .int v_39), (38, .int v_38), (37, .int v_37), (36, .int v_36), (35, .int v_35), (34, .int v_34), (33, .int v_33), (32, .int v_32), (31, .int v_31), (30, .int v_30), (29, .int v_29), (28, .int v_28), (27, .int v_27), (26, .int v_26), (25, .int v_25), (24, .int v_24), (23, .int v_23), (22, .int v_22), (21, .int v_21), (20, .int v_20), (19, .int v_19), (18, .int v_18), (17, .int v_17), (16, .int v_16), (15, .int v_15), (14, .int v_14), (13, .int v_13), (12, .int v_12), (11, .int v_11), (10, .int v_10), (9, .int v_9), (8, .int v_8), (7, .int v_7), (6, .int v_6), (5, .int v_5), (4, .int v_4), (3, .int v_3), (2, .int v_2), (1, .int v_1), (0, .ref a)]) dX8_box_557 (by decide) rfl ?_
  refine R_iload (pc := 559) 10 dX8_box_559 rfl ?_
  refine R_iload (pc := 561) 55 dX8_box_561 rfl ?_
  refine R_iand (pc := 563) dX8_box_563 ?_
  refine R_topi (fun v_72 ev_72 => ?_)
  refine R_istore (pc := 564) (lv' := [(72, .int v_72), (71, .int v_71), (70, .int v_70), (69, .int v_69), (68, .int v_68), (67, .int v_67), (66, .int v_66), (65, .int v_65), (64, .int v_64), (63, .int v_63), (62, .int v_62), (61, .int v_61), (60, .int v_60), (59, .int v_59), (58, .int v_58), (57, .int v_57), (56, .int v_56), (55, .int v_55), (54, .int v_54), (53, .int v_53), (52, .int v_52), (51, .int v_51), (50, .int v_50), (49, .int v_49), (48, .int v_48), (47, .int v_47), (46, .int v_46), (45, .int v_45), (44, .int v_44), (43, .int v_43), (42, .int v_42), (41, .int v_41), (40, .int v_40), (39, .int v_39), (38, .int v_38), (37, .int v_37), (36, .int v_36), (35, .int v_35), (34, .int v_34), (33, .int v_33), (32, .int v_32), (31, .int v_31), (30, .int v_30), (29, .int v_29), (28, .int v_28), (27, .int v_27), (26, .int v_26), (25, .int v_25), (24, .int v_24), (23, .int v_23), (22, .int v_22), (21, .int v_21), (20, .int v_20), (19, .int v_19), (18, .int v_18), (17, .int v_17), (16, .int v_16), (15, .int v_15), (14, .int v_14), (13, .int v_13), (12, .int v_12), (11, .int v_11), (10, .int v_10), (9, .int v_9), (8, .int v_8), (7, .int v_7), (6, .int v_6), (5, .int v_5), (4, .int v_4), (3, .int v_3), (2, .int v_2), (1, .int v_1), (0, .ref a)]) dX8_box_564 (by decide) rfl ?_
  refine R_iload (pc := 566) 17 dX8_box_566 rfl ?_
  refine R_iload (pc := 568) 53 dX8_box_568 rfl ?_
  refine R_iand (pc := 570) dX8_box_570 ?_
  refine R_topi (fun v_73 ev_73 => ?_)
  refine R_istore (pc := 571) (lv' := [(73, .int v_73), (72, .int v_72), (71, .int v_71), (70, .int v_70), (69, .int v_69), (68, .int v_68), (67, .int v_67), (66, .int v_66), (65, .int v_65), (64, .int v_64), (63, .int v_63), (62, .int v_62), (61, .int v_61), (60, .int v_60), (59, .int v_59), (58, .int v_58), (57, .int v_57), (56, .int v_56), (55, .int v_55), (54, .int v_54), (53, .int v_53), (52, .int v_52), (51, .int v_51), (50, .int v_50), (49, .int v_49), (48, .int v_48), (47, .int v_47), (46, .int v_46), (45, .int v_45), (44, .int v_44), (43, .int v_43), (42, .int v_42), (41, .int v_41), (40, .int v_40), (39, .int v_39), (38, .int v_38), (37, .int v_37), (36, .int v_36), (35, .int v_35), (34, .int v_34), (33, .int v_33), (32, .int v_32), (31, .int v_31), (30, .int v_30), (29, .int v_29), (28, .int v_28), (27, .int v_27), (26, .int v_26), (25, .int v_25), (24, .int v_24), (23, .int v_23), (22, .int v_22), (21, .int v_21), (20, .int v_20), (19, .int v_19), (18, .int v_18), (17, .int v_17), (16, .int v_16), (15, .int v_15), (14, .int v_14), (13, .int v_13), (12, .int v_12), (11, .int v_11), (10, .int v_10), (9, .int v_9), (8, .int v_8), (7, .int v_7), (6, .int v_6), (5, .int v_5), (4, .int v_4), (3, .int v_3), (2, .int v_2), (1, .int v_1), (0, .ref a)]) dX8_box_571 (by decide) rfl ?_
  refine R_iload (pc := 573) 22 dX8_box_573 rfl ?_
  refine R_iload (pc := 575) 58 dX8_box_575 rfl ?_
  refine R_iand (pc := 577) dX8_box_577 ?_
  refine R_topi (fun v_74 ev_74 => ?_)
  refine R_istore (pc := 578) (lv' := [(74, .int v_74), (73, .int v_73), (72, .int v_72), (71, .int v_71), (70, .int v_70), (69, .int v_69), (68, .int v_68), (67, .int v_67), (66, .int v_66), (65, .int v_65), (64, .int v_64), (63, .int v_63), (62, .int v_62), (61, .int v_61), (60, .int v_60), (59, .int v_59), (58, .int v_58), (57, .int v_57), (56, .int v_56), (55, .int v_55), (54, .int v_54), (53, .int v_53), (52, .int v_52), (51, .int v_51), (50, .int v_50), (49, .int v_49), (48, .int v_48), (47, .int v_47), (46, .int v_46), (45, .int v_45), (44, .int v_44), (43, .int v_43), (42, .int v_42), (41, .int v_41), (40, .int v_40), (39, .int v_39), (38, .int v_38), (37, .int v_37), (36, .int v_36), (35, .int v_35), (34, .int v_34), (33, .int v_33), (32, .int v_32), (31, .int v_31), (30, .int v_30), (29, .int v_29), (28, .int v_28), (27, .int v_27), (26, .int v_26), (25, .int v_25), (24, .int v_24), (23, .int v_23), (22, .int v_22), (21, .int v_21), (20, .int v_20), (19, .int v_19), (18, .int v_18), (17, .int v_17), (16, .int v_16), (15, .int v_15), (14, .int v_14), (13, .int v_13), (12, .int v_12), (11, .int v_11), (10, .int v_10), (9, .int v_9), (8, .int v_8), (7, .int v_7), (6, .int v_6), (5, .int v_5), (4, .int v_4), (3, .int v_3), (2, .int v_2), (1, .int v_1), (0, .ref a)]) dX8_box_578 (by decide) rfl ?_
  refine R_iload (pc := 580) 14 dX8_box_580 rfl ?_
  refine R_iload (pc := 582) 64 dX8_box_582 rfl ?_
  refine R_iand (pc := 584) dX8_box_584 ?_
  refine R_topi (fun v_75 ev_75 => ?_)
  refine R_istore (pc := 585) (lv' := [(75, .int v_75), (74, .int v_74), (73, .int v_73), (72, .int v_72), (71, .int v_71), (70, .int v_70), (69, .int v_69), (68, .int v_68), (67, .int v_67), (66, .int v_66), (65, .int v_65), (64, .int v_64), (63, .int v_63), (62, .int v_62), (61, .int v_61), (60, .int v_60), (59, .int v_59), (58, .int v_58), (57, .int v_57), (56, .int v_56), (55, .int v_55), (54, .int v_54), (53, .int v_53), (52, .int v_52), (51, .int v_51), (50, .int v_50), (49, .int v_49), (48, .int v_48), (47, .int v_47), (46, .int v_46), (45, .int v_45), (44, .int v_44), (43, .int v_43), (42, .int v_42), (41, .int v_41), (40, .int v_40), (39, .int v_39), (38, .int v_38), (37, .int v_37), (36, .int v_36), (35, .int v_35), (34, .int v_34), (33, .int v_33), (32, .int v_32), (31, .int v_31), (30, .int v_30), (29, .int v_29), (28, .int v_28), (27, .int v_27), (26, .int v_26), (25, .int v_25), (24, .int v_24), (23, .int v_23), (22, .int v_22), (21, .int v_21), (20, .int v_20), (19, .int v_19), (18, .int v_18), (17, .int v_17), (16, .int v_16), (15, .int v_15), (14, .int v_14), (13, .int v_13), (12, .int v_12), (11, .int v_11), (10, .int v_10), (9, .int v_9), (8, .int v_8), (7, .int v_7), (6, .int v_6), (5, .int v_5), (4, .int v_4), (3, .int v_3), (2, .int v_2), (1, .int v_1), (0, .ref a)]) dX8_box_585 (by decide) rfl ?_
  refine R_iload (pc := 587) 18 dX8_box_587 rfl ?_
  refine R_iload (pc := 589) 57 dX8_box_589 rfl ?_
  refine R_iand (pc := 591) dX8_box_591 ?_
  refine R_topi (fun v_76 ev_76 => ?_)
  refine R_istore (pc := 592) (lv' := [(76, .int v_76), (75, .int v_75), (74, .int v_74), (73, .int v_73), (72, .int v_72), (71, .int v_71), (70, .int v_70), (69, .int v_69), (68, .int v_68), (67, .int v_67), (66, .int v_66), (65, .int v_65), (64, .int v_64), (63, .int v_63), (62, .int v_62), (61, .int v_61), (60, .int v_60), (59, .int v_59), (58, .int v_58), (57, .int v_57), (56, .int v_56), (55, .int v_55), (54, .int v_54), (53, .int v_53), (52, .int v_52), (51, .int v_51), (50, .int v_50), (49, .int v_49), (48, .int v_48), (47, .int v_47), (46, .int v_46), (45, .int v_45), (44, .int v_44), (43, .int v_43), (42, .int v_42), (41, .int v_41), (40, .int v_40), (39, .int v_39), (38, .int v_38), (37, .int v_37), (36, .int v_36), (35, .int v_35), (34, .int v_34), (33, .int v_33), (32, .int v_32), (31, .int v_31), (30, .int v_30), (29, .int v_29), (28, .int v_28), (27, .int v_27), (26, .int v_26), (25, .int v_25), (24, .int v_24), (23, .int v_23), (22, .int v_22), (21, .int v_21), (20, .int v_20), (19, .int v_19), (18, .int v_18), (17, .int v_17), (16, .int v_16), (15, .int v_15), (14, .int v_14), (13, .int v_13), (12, .int v_12), (11, .int v_11), (10, .int v_10), (9, .int v_9), (8, .int v_8), (7, .int v_7), (6, .int v_6), (5, .int v_5), (4, .int v_4), (3, .int v_3), (2, .int v_2), (1, .int v_1), (0, .ref a)]) dX8_box_592 (by decide) rfl ?_
  refine R_iload (pc := 594) 28 dX8_box_594 rfl ?_
  refine R_iload (pc := 596) 59 dX8_box_596 rfl ?_
  refine R_iand (pc := 598) dX8_box_598 ?_
  refine R_topi (fun v_77 ev_77 => ?_)
  refine R_istore (pc := 599) (lv' := [(77, .int v_77), (76, .int v_76), (75, .int v_75), (74, .int v_74), (73, .int v_73), (72, .int v_72), (71, .int v_71), (70, .int v_70), (69, .int v_69), (68, .int v_68), (67, .int v_67), (66, .int v_66), (65, .int v_65), (64, .int v_64), (63, .int v_63), (62, .int v_62), (61, .int v_61), (60, .int v_60), (59, .int v_59), (58, .int v_58), (57, .int v_57), (56, .int v_56), (55, .int v_55), (54, .int v_54), (53, .int v_53), (52, .int v_52), (51, .int v_51), (50, .int v_50), (49, .int v_49), (48, .int v_48), (47, .int v_47), (46, .int v_46), (45, .int v_45), (44, .int v_44), (43, .int v_43), (42, .int v_42), (41, .int v_41), (40, .int v_40), (39, .int v_39), (38, .int v_38), (37, .int v_37), (36, .int v_36), (35, .int v_35), (34, .int v_34), (33, .int v_33), (32, .int v_32), (31, .int v_31), (30, .int v_30), (29, .int v_29), (28, .int v_28), (27, .int v_27), (26, .int v_26), (25, .int v_25), (24, .int v_24), (23, .int v_23), (22, .int v_22), (21, .int v_21), (20, .int v_20), (19, .int v_19), (18, .int v_18), (17, .int v_17), (16, .int v_16), (15, .int v_15), (14, .int v_14), (13, .int v_13), (12, .int v_12), (11, .int v_11), (10, .int v_10), (9, .int v_9), (8, .int v_8), (7, .int v_7), (6, .int v_6), (5, .int v_5), (4, .int v_4), (3, .int v_3), (2, .int v_2), (1, .int v_1), (0, .ref a)]) dX8_box_599 (by decide) rfl ?_
  refine R_iload (pc := 601) 18 dX8_box_601 rfl ?_
  refine R_iload (pc := 603) 66 dX8_box_603 rfl ?_
  refine R_iand (pc := 605) dX8_box_605 ?_
  refine R_topi (fun v_78 ev_78 => ?_)
  refine R_istore (pc := 606) (lv' := [(78, .int v_78), (77, .int v_77), (76, .int v_76), (75, .int v_75), (74, .int v_74), (73, .int v_73), (72, .int v_72), (71, .int v_71), (70, .int v_70), (69, .int v_69), (68, .int v_68), (67, .int v_67), (66, .int v_66), (65, .int v_65), (64, .int v_64), (63, .int v_63), (62, .int v_62), (61, .int v_61), (60, .int v_60), (59, .int v_59), (58, .int v_58), (57, .int v_57), (56, .int v_56), (55, .int v_55), (54, .int v_54), (53, .int v_53), (52, .int v_52), (51, .int v_51), (50, .int v_50), (49, .int v_49), (48, .int v_48), (47, .int v_47), (46, .int v_46), (45, .int v_45), (44, .int v_44), (43, .int v_43), (42, .int v_42), (41, .int v_41), (40, .int v_40), (39, .int v_39), (38, .int v_38), (37, .int v_37), (36, .int v_36), (35, .int v_35), (34, .int v_34), (33, .int v_33), (32, .int v_32), (31, .int v_31), (30, .int v_30), (29, .int v_29), (28, .int v_28), (27, .int v_27), (26, .int v_26), (25, .int v_25), (24, .int v_24), (23, .int v_23), (22, .int v_22), (21, .int v_21), (20, .int v_20), (19, .int v_19), (18, .int v_18), (17, .int v_17), (16, .int v_16), (15, .int v_15), (14, .int v_14), (13, .int v_13), (12, .int v_12), (11, .int v_11), (10, .int v_10), (9, .int v_9), (8, .int v_8), (7, .int v_7), (6, .int v_6), (5, .int v_5), (4, .int v_4), (3, .int v_3), (2, .int v_2), (1, .int v_1), (0, .ref a)]) dX8_box_606 (by decide) rfl ?_
  refine R_iload (pc := 608) 16 dX8_box_608 rfl ?_
  refine R_iload (pc := 610) 69 dX8_box_610 rfl ?_
  refine R_iand (pc := 612) dX8_box_612 ?_
  refine R_topi (fun v_79 ev_79 => ?_)
  refine R_istore (pc := 613) (lv' := [(79, .int v_79), (78, .int v_78), (77, .int v_77), (76, .int v_76), (75, .int v_75), (74, .int v_74), (73, .int v_73), (72, .int v_72), (71, .int v_71), (70, .int v_70), (69, .int v_69), (68, .int v_68), (67, .int v_67), (66, .int v_66), (65, .int v_65), (64, .int v_64), (63, .int v_63), (62, .int v_62), (61, .int v_61), (60, .int v_60), (59, .int v_59), (58, .int v_58), (57, .int v_57), (56, .int v_56), (55, .int v_55), (54, .int v_54), (53, .int v_53), (52, .int v_52), (51, .int v_51), (50, .int v_50), (49, .int v_49), (48, .int v_48), (47, .int v_47), (46, .int v_46), (45, .int v_45), (44, .int v_44), (43, .int v_43), (42, .int v_42), (41, .int v_41), (40, .int v_40), (39, .int v_39), (38, .int v_38), (37, .int v_37), (36, .int v_36), (35, .int v_35), (34, .int v_34), (33, .int v_33), (32, .int v_32), (31, .int v_31), (30, .int v_30), (29, .int v_29), (28, .int v_28), (27, .int v_27), (26, .int v_26), (25, .int v_25), (24, .int v_24), (23, .int v_23), (22, .int v_22), (21, .int v_21), (20, .int v_20), (19, .int v_19), (18, .int v_18), (17, .int v_17), (16, .int v_16), (15, .int v_15), (14, .int v_14), (13, .int v_13), (12, .int v_12), (11, .int v_11), (10, .int v_10), (9, .int v_9), (8, .int v_8), (7, .int v_7), (6, .int v_6), (5, .int v_5), (4, .int v_4), (3, .int v_3), (2, .int v_2), (1, .int v_1), (0, .ref a)]) dX8_box_613 (by decide) rfl ?_
  refine R_iload (pc := 615) 21 dX8_box_615 rfl ?_
  refine R_iload (pc := 617) 67 dX8_box_617 rfl ?_
  refine R_iand (pc := 619) dX8_box_619 ?_
  refine R_topi (fun v_80 ev_80 => ?_)
  refine R_istore (pc := 620) (lv' := [(80, .int v_80), (79, .int v_79), (78, .int v_78), (77, .int v_77), (76, .int v_76), (75, .int v_75), (74, .int v_74), (73, .int v_73), (72, .int v_72), (71, .int v_71), (70, .int v_70), (69, .int v_69), (68, .int v_68), (67, .int v_67), (66, .int v_66), (65, .int v_65), (64, .int v_64), (63, .int v_63), (62, .int v_62), (61, .int v_61), (60, .int v_60), (59, .int v_59), (58, .int v_58), (57, .int v_57), (56, .int v_56), (55, .int v_55), (54, .int v_54), (53, .int v_53), (52, .int v_52), (51, .int v_51), (50, .int v_50), (49, .int v_49), (48, .int v_48), (47, .int v_47), (46, .int v_46), (45, .int v_45), (44, .int v_44), (43, .int v_43), (42, .int v_42), (41, .int v_41), (40, .int v_40), (39, .int v_39), (38, .int v_38), (37, .int v_37), (36, .int v_36), (35, .int v_35), (34, .int v_34), (33, .int v_33), (32, .int v_32), (31, .int v_31), (30, .int v_30), (29, .int v_29), (28, .int v_28), (27, .int v_27), (26, .int v_26), (25, .int v_25), (24, .int v_24), (23, .int v_23), (22, .int v_22), (21, .int v_21), (20, .int v_20), (19, .int v_19), (18, .int v_18), (17, .int v_17), (16, .int v_16), (15, .int v_15), (14, .int v_14), (13, .int v_13), (12, .int v_12), (11, .int v_11), (10, .int v_10), (9, .int v_9), (8, .int v_8), (7, .int v_7), (6, .int v_6), (5, .int v_5), (4, .int v_4), (3, .int v_3), (2, .int v_2), (1, .int v_1), (0, .ref a)]) dX8_box_620 (by decide) rfl ?_
  refine R_iload (pc := 622) 2 dX8_box_622 rfl ?_
  refine R_iload (pc := 624) 1 dX8_box_624 rfl ?_
  refine R_ixor (pc := 626) dX8_box_626 ?_
  refine R_topi (fun v_81 ev_81 => ?_)
  refine R_istore (pc := 627) (lv' := [(81, .int v_81), (80, .int v_80), (79, .int v_79), (78, .int v_78), (77, .int v_77), (76, .int v_76), (75, .int v_75), (74, .int v_74), (73, .int v_73), (72, .int v_72), (71, .int v_71), (70, .int v_70), (69, .int v_69), (68, .int v_68), (67, .int v_67), (66, .int v_66), (65, .int v_65), (64, .int v_64), (63, .int v_63), (62, .int v_62), (61, .int v_61), (60, .int v_60), (59, .int v_59), (58, .int v_58), (57, .int v_57), (56, .int v_56), (55, .int v_55), (54, .int v_54), (53, .int v_53), (52, .int v_52), (51, .int v_51), (50, .int v_50), (49, .int v_49), (48, .int v_48), (47, .int v_47), (46, .int v_46), (45, .int v_45), (44, .int v_44), (43, .int v_43), (42, .int v_42), (41, .int v_41), (40, .int v_40), (39, .int v_39), (38, .int v_38), (37, .int v_37), (36, .int v_36), (35, .int v_35), (34, .int v_34), (33, .int v_33), (32, .int v_32), (31, .int v_31), (30, .int v_30), (29, .int v_29), (28, .int v_28), (27, .int v_27), (26, .int v_26), (25, .int v_25), (24, .int v_24), (23, .int v_23), (22, .int v_22), (21, .int v_21), (20, .int v_20), (19, .int v_19), (18, .int v_18), (17, .int v_17), (16, .int v_16), (15, .int v_15), (14, .int v_14), (13, .int v_13), (12, .int v_12), (11, .int v_11), (10, .int v_10), (9, .int v_9), (8, .int v_8), (7, .int v_7), (6, .int v_6), (5, .int v_5), (4, .int v_4), (3, .int v_3), (2, .int v_2), (1, .int v_1), (0, .ref a)]) dX8_box_627 (by decide) rfl ?_
  refine R_iload (pc := 629) 8 dX8_box_629 rfl ?_
  refine R_iload (pc := 631) 7 dX8_box_631 rfl ?_
  refine R_ixor (pc := 633) dX8_box_633 ?_
  refine R_topi (fun v_82 ev_82 => ?_)
  refine R_istore (pc := 634) (lv' := [(82, .int v_82), (81, .int v_81), (80, .int v_80), (79, .int v_79), (78, .int v_78), (77, .int v_77), (76, .int v_76), (75, .int v_75), (74, .int v_74), (73, .int v_73), (72, .int v_72), (71, .int v_71), (70, .int v_70), (69, .int v_69), (68, .int v_68), (67, .int v_67), (66, .int v_66), (65, .int v_65), (64, .int v_64), (63, .int v_63), (62, .int v_62), (61, .int v_61), (60, .int v_60), (59, .int v_59), (58, .int v_58), (57, .int v_57), (56, .int v_56), (55, .int v_55), (54, .int v_54), (53, .int v_53), (52, .int v_52), (51, .int v_51), (50, .int v_50), (49, .int v_49), (48, .int v_48), (47, .int v_47), (46, .int v_46), (45, .int v_45), (44, .int v_44), (43, .int v_43), (42, .int v_42), (41, .int v_41), (40, .int v_40), (39, .int v_39), (38, .int v_38), (37, .int v_37), (36, .int v_36), (35, .int v_35), (34, .int v_34), (33, .int v_33), (32, .int v_32), (31, .int v_31), (30, .int v_30), (29, .int v_29), (28, .int v_28), (27, .int v_27), (26, .int v_26), (25, .int v_25), (24, .int v_24), (23, .int v_23), (22, .int v_22), (21, .int v_21), (20, .int v_20), (19, .int v_19), (18, .int v_18), (17, .int v_17), (16, .int v_16), (15, .int v_15), (14, .int v_14), (13, .int v_13), (12, .int v_12), (11, .int v_11), (10, .int v_10), (9, .int v_9), (8, .int v_8), (7, .int v_7), (6, .int v_6), (5, .int v_5), (4, .int v_4), (3, .int v_3), (2, .int v_2), (1, .int v_1), (0, .ref a)]) dX8_box_634 (by decide) rfl ?_
  refine R_iload (pc := 636) 14 dX8_box_636 rfl ?_
  refine R_iload (pc := 638) 6 dX8_box_638 rfl ?_
  refine R_ixor (pc := 640) dX8_box_640 ?_
  refine R_topi (fun v_83 ev_83 => ?_)
  refine R_istore (pc := 641) (lv' := [(83, .int v_83), (82, .int v_82), (81, .int v_81), (80, .int v_80), (79, .int v_79), (78, .int v_78), (77, .int v_77), (76, .int v_76), (75, .int v_75), (74, .int v_74), (73, .int v_73), (72, .int v_72), (71, .int v_71), (70, .int v_70), (69, .int v_69), (68, .int v_68), (67, .int v_67), (66, .int v_66), (65, .int v_65), (64, .int v_64), (63, .int v_63), (62, .int v_62), (61, .int v_61), (60, .int v_60), (59, .int v_59), (58, .int v_58), (57, .int v_57), (56, .int v_56), (55, .int v_55), (54, .int v_54), (53, .int v_53), (52, .int v_52), (51, .int v_51), (50, .int v_50), (49, .int v_49), (48, .int v_48), (47, .int v_47), (46, .int v_46), (45, .int v_45), (44, .int v_44), (43, .int v_43), (42, .int v_42), (41, .int v_41), (40, .int v_40), (39, .int v_39), (38, .int v_38), (37, .int v_37), (36, .int v_36), (35, .int v_35), (34, .int v_34), (33, .int v_33), (32, .int v_32), (31, .int v_31), (30, .int v_30), (29, .int v_29), (28, .int v_28), (27, .int v_27), (26, .int v_26), (25, .int v_25), (24, .int v_24), (23, .int v_23), (22, .int v_22), (21, .int v_21), (20, .int v_20), (19, .int v_19), (18, .int v_18), (17, .int v_17), (16, .int v_16), (15, .int v_15), (14, .int v_14), (13, .int v_13), (12, .int v_12), (11, .int v_11), (10, .int v_10), (9, .int v_9), (8, .int v_8), (7, .int v_7), (6, .int v_6), (5, .int v_5), (4, .int v_4), (3, .int v_3), (2, .int v_2), (1, .int v_1), (0, .ref a)]) dX8_box_641 (by decide) rfl ?_
  refine R_iload (pc := 643) 11 dX8_box_643 rfl ?_
  refine R_iload (pc := 645) 10 dX8_box_645 rfl ?_
  refine R_ixor (pc := 647) dX8_box_647 ?_
  refine R_topi (fun v_84 ev_84 => ?_)
  refine R_istore (pc := 648) (lv' := [(84, .int v_84), (83, .int v_83), (82, .int v_82), (81, .int v_81), (80, .int v_80), (79, .int v_79), (78, .int v_78), (77, .int v_77), (76, .int v_76), (75, .int v_75), (74, .int v_74), (73, .int v_73), (72, .int v_72), (71, .int v_71), (70, .int v_70), (69, .int v_69), (68, .int v_68), (67, .int v_67), (66, .int v_66), (65, .int v_65), (64, .int v_64), (63, .int v_63), (62, .int v_62), (61, .int v_61), (60, .int v_60), (59, .int v_59), (58, .int v_58), (57, .int v_57), (56, .int v_56), (55, .int v_55), (54, .int v_54), (53, .int v_53), (52, .int v_52), (51, .int v_51), (50, .int v_50), (49, .int v_49), (48, .int v_48), (47, .int v_47), (46, .int v_46), (45, .int v_45), (44, .int v_44), (43, .int v_43), (42, .int v_42), (41, .int v_41), (40, .int v_40), (39, .int v_39), (38, .int v_38), (37, .int v_37), (36, .int v_36), (35, .int v_35), (34, .int v_34), (33, .int v_33), (32, .int v_32), (31, .int v_31), (30, .int v_30), (29, .int v_29), (28, .int v_28), (27, .int v_27), (26, .int v_26), (25, .int v_25), (24, .int v_24), (23, .int v_23), (22, .int v_22), (21, .int v_21), (20, .int v_20), (19, .int v_19), (18, .int v_18), (17, .int v_17), (16, .int v_16), (15, .int v_15), (14, .int v_14), (13, .int v_13), (12, .int v_12), (11, .int v_11), (10, .int v_10), (9, .int v_9), (8, .int v_8), (7, .int v_7), (6, .int v_6), (5, .int v_5), (4, .int v_4), (3, .int v_3), (2, .int v_2), (1, .int v_1), (0, .ref a)]) dX8_box_648 (by decide) rfl ?_
  refine R_iload (pc := 650) 19 dX8_box_650 rfl ?_
  refine R_iload (pc := 652) 9 dX8_box_652 rfl ?_
  refine R_ixor (pc := 654) dX8_box_654 ?_
  refine R_topi (fun v_85 ev_85 => ?_)
  refine R_istore (pc := 655) (lv' := [(85, .int v_85), (84, .int v_84), (83, .int v_83), (82, .int v_82), (81, .int v_81), (80, .int v_80), (79, .int v_79), (78, .int v_78), (77, .int v_77), (76, .int v_76), (75, .int v_75), (74, .int v_74), (73, .int v_73), (72, .int v_72), (71, .int v_71), (70, .int v_70), (69, .int v_69), (68, .int v_68), (67, .int v_67), (66, .int v_66), (65, .int v_65), (64, .int v_64), (63, .int v_63), (62, .int v_62), (61, .int v_61), (60, .int v_60), (59, .int v_59), (58, .int v_58), (57, .int v_57), (56, .int v_56), (55, .int v_55), (54, .int v_54), (53, .int v_53), (52, .int v_52), (51, .int v_51), (50, .int v_50), (49, .int v_49), (48, .int v_48), (47, .int v_47), (46, .int v_46), (45, .int v_45), (44, .int v_44), (43, .int v_43), (42, .int v_42), (41, .int v_41), (40, .int v_40), (39, .int v_39), (38, .int v_38), (37, .int v_37), (36, .int v_36), (35, .int v_35), (34, .int v_34), (33, .int v_33), (32, .int v_32), (31, .int v_31), (30, .int v_30), (29, .int v_29), (28, .int v_28), (27, .int v_27), (26, .int v_26), (25, .int v_25), (24, .int v_24), (23, .int v_23), (22, .int v_22), (21, .int v_21), (20, .int v_20), (19, .int v_19), (18, .int v_18), (17, .int v_17), (16, .int v_16), (15, .int v_15), (14, .int v_14), (13, .int v_13), (12, .int v_12), (11, .int v_11), (10, .int v_10), (9, .int v_9), (8, .int v_8), (7, .int v_7), (6, .int v_6), (5, .int v_5), (4, .int v_4), (3, .int v_3), (2, .int v_2), (1, .int v_1), (0, .ref a)]) dX8_box_655 (by decide) rfl ?_
  refine R_iload (pc := 657) 20 dX8_box_657 rfl ?_
  refine R_iload (pc := 659) 17 dX8_box_659 rfl ?_
  refine R_ixor (pc := 661) dX8_box_661 ?_
  refine R_topi (fun v_86 ev_86 => ?_)
  refine R_istore (pc := 662) (lv' := [(86, .int v_86), (85, .int v_85), (84, .int v_84), (83, .int v_83), (82, .int v_82), (81, .int v_81), (80, .int v_80), (79, .int v_79), (78, .int v_78), (77, .int v_77), (76, .int v_76), (75, .int v_75), (74, .int v_74), (73, .int v_73), (72, .int v_72), (71, .int v_71), (70, .int v_70), (69, .int v_69), (68, .int v_68), (67, .int v_67), (66, .int v_66), (65, .int v_65), (64, .int v_64), (63, .int v_63), (62, .int v_62), (61, .int v_61), (60, .int v_60), (59, .int v_59), (58, .int v_58), (57, .int v_57), (56, .int v_56), (55, .int v_55), (54, .int v_54), (53, .int v_53), (52, .int v_52), (51, .int v_51), (50, .int v_50), (49, .int v_49), (48, .int v_48), (47, .int v_47), (46, .int v_46), (45, .int v_45), (44, .int v_44), (43, .int v_43), (42, .int v_42), (41, .int v_41), (40, .int v_40), (39, .int v_39), (38, .int v_38), (37, .int v_37), (36, .int v_36), (35, .int v_35), (34, .int v_34), (33, .int v_33), (32, .int v_32), (31, .int v_31), (30, .int v_30), (29, .int v_29), (28, .int v_28), (27, .int v_27), (26, .int v_26), (25, .int v_25), (24, .int v_24), (23, .int v_23), (22, .int v_22), (21, .int v_21), (20, .int v_20), (19, .int v_19), (18, .int v_18), (17, .int v_17), (16, .int v_16), (15, .int v_15), (14, .int v_14), (13, .int v_13), (12, .int v_12), (11, .int v_11), (10, .int v_10), (9, .int v_9), (8, .int v_8), (7, .int v_7), (6, .int v_6), (5, .int v_5), (4, .int v_4), (3, .int v_3), (2, .int v_2), (1, .int v_1), (0, .ref a)]) dX8_box_662 (by decide) rfl ?_
  refine R_iload (pc := 664) 16 dX8_box_664 rfl ?_
  refine R_iload (pc := 666) 15 dX8_box_666 rfl ?_
  refine R_ixor (pc := 668) dX8_box_668 ?_
  refine R_topi (fun v_87 ev_87 => ?_)
  refine R_istore (pc := 669) (lv' := [(87, .int v_87), (86, .int v_86), (85, .int v_85), (84, .int v_84), (83, .int v_83), (82, .int v_82), (81, .int v_81), (80, .int v_80), (79, .int v_79), (78, .int v_78), (77, .int v_77), (76, .int v_76), (75, .int v_75), (74, .int v_74), (73, .int v_73), (72, .int v_72), (71, .int v_71), (70, .int v_70), (69, .int v_69), (68, .int v_68), (67, .int v_67), (66, .int v_66), (65, .int v_65), (64, .int v_64), (63, .int v_63), (62, .int v_62), (61, .int v_61), (60, .int v_60), (59, .int v_59), (58, .int v_58), (57, .int v_57), (56, .int v_56), (55, .int v_55), (54, .int v_54), (53, .int v_53), (52, .int v_52), (51, .int v_51), (50, .int v_50), (49, .int v_49), (48, .int v_48), (47, .int v_47), (46, .int v_46), (45, .int v_45), (44, .int v_44), (43, .int v_43), (42, .int v_42), (41, .int v_41), (40, .int v_40), (39, .int v_39), (38, .int v_38), (37, .int v_37), (36, .int v_36), (35, .int v_35), (34, .int v_34), (33, .int v_33), (32, .int v_32), (31, .int v_31), (30, .int v_30), (29, .int v_29), (28, .int v_28), (27, .int v_27), (26, .int v_26), (25, .int v_25), (24, .int v_24), (23, .int v_23), (22, .int v_22), (21, .int v_21), (20, .int v_20), (19, .int v_19), (18, .int v_18), (17, .int v_17), (16, .int v_16), (15, .int v_15), (14, .int v_14), (13, .int v_13), (12, .int v_12), (11, .int v_11), (10, .int v_10), (9, .int v_9), (8, .int v_8), (7, .int v_7), (6, .int v_6), (5, .int v_5), (4, .int v_4), (3, .int v_3), (2, .int v_2), (1, .int v_1), (0, .ref a)]) dX8_box_669 (by decide) rfl ?_
  refine R_iload (pc := 671) 24 dX8_box_671 rfl ?_
  refine R_iload (pc := 673) 21 dX8_box_673 rfl ?_
  refine R_ixor (pc := 675) dX8_box_675 ?_
  refine R_topi (fun v_88 ev_88 => ?_)
  refine R_istore (pc := 676) (lv' := [(88, .int v_88), (87, .int v_87), (86, .int v_86), (85, .int v_85), (84, .int v_84), (83, .int v_83), (82, .int v_82), (81, .int v_81), (80, .int v_80), (79, .int v_79), (78, .int v_78), (77, .int v_77), (76, .int v_76), (75, .int v_75), (74, .int v_74), (73, .int v_73), (72, .int v_72), (71, .int v_71), (70, .int v_70), (69, .int v_69), (68, .int v_68), (67, .int v_67), (66, .int v_66), (65, .int v_65), (64, .int v_64), (63, .int v_63), (62, .int v_62), (61, .int v_61), (60, .int v_60), (59, .int v_59), (58, .int v_58), (57, .int v_57), (56, .int v_56), (55, .int v_55), (54, .int v_54), (53, .int v_53), (52, .int v_52), (51, .int v_51), (50, .int v_50), (49, .int v_49), (48, .int v_48), (47, .int v_47), (46, .int v_46), (45, .int v_45), (44, .int v_44), (43, .int v_43), (42, .int v_42), (41, .int v_41), (40, .int v_40), (39, .int v_39), (38, .int v_38), (37, .int v_37), (36, .int v_36), (35, .int v_35), (34, .int v_34), (33, .int v_33), (32, .int v_32), (31, .int v_31), (30, .int v_30), (29, .int v_29), (28, .int v_28), (27, .int v_27), (26, .int v_26), (25, .int v_25), (24, .int v_24), (23, .int v_23), (22, .int v_22), (21, .int v_21), (20, .int v_20), (19, .int v_19), (18, .int v_18), (17, .int v_17), (16, .int v_16), (15, .int v_15), (14, .int v_14), (13, .int v_13), (12, .int v_12), (11, .int v_11), (10, .int v_10), (9, .int v_9), (8, .int v_8), (7, .int v_7), (6, .int v_6), (5, .int v_5), (4, .int v_4), (3, .int v_3), (2, .int v_2), (1, .int v_1), (0, .ref a)]) dX8_box_676 (by decide) rfl ?_
  refine R_iload (pc := 678) 19 dX8_box_678 rfl ?_
  refine R_iload (pc := 680) 18 dX8_box_680 rfl ?_
  refine R_ixor (pc := 682) dX8_box_682 ?_
  refine R_topi (fun v_89 ev_89 => ?_)
  refine R_istore (pc := 683) (lv' := [(89, .int v_89), (88, .int v_88), (87, .int v_87), (86, .int v_86), (85, .int v_85), (84, .int v_84), (83, .int v_83), (82, .int v_82), (81, .int v_81), (80, .int v_80), (79, .int v_79), (78, .int v_78), (77, .int v_77), (76, .int v_76), (75, .int v_75), (74, .int v_74), (73, .int v_73), (72, .int v_72), (71, .int v_71), (70, .int v_70), (69, .int v_69), (68, .int v_68), (67, .int v_67), (66, .int v_66), (65, .int v_65), (64, .int v_64), (63, .int v_63), (62, .int v_62), (61, .int v_61), (60, .int v_60), (59, .int v_59), (58, .int v_58), (57, .int v_57), (56, .int v_56), (55, .int v_55), (54, .int v_54), (53, .int v_53), (52, .int v_52), (51, .int v_51), (50, .int v_50), (49, .int v_49), (48, .int v_48), (47, .int v_47), (46, .int v_46), (45, .int v_45), (44, .int v_44), (43, .int v_43), (42, .int v_42), (41, .int v_41), (40, .int v_40), (39, .int v_39), (38, .int v_38), (37, .int v_37), (36, .int v_36), (35, .int v_35), (34, .int v_34), (33, .int v_33), (32, .int v_32), (31, .int v_31), (30, .int v_30), (29, .int v_29), (28, .int v_28), (27, .int v_27), (26, .int v_26), (25, .int v_25), (24, .int v_24), (23, .int v_23), (22, .int v_22), (21, .int v_21), (20, .int v_20), (19, .int v_19), (18, .int v_18), (17, .int v_17), (16, .int v_16), (15, .int v_15), (14, .int v_14), (13, .int v_13), (12, .int v_12), (11, .int v_11), (10, .int v_10), (9, .int v_9), (8, .int v_8), (7, .int v_7), (6, .int v_6), (5, .int v_5), (4, .int v_4), (3, .int v_3), (2, .int v_2), (1, .int v_1), (0, .ref a)]) dX8_box_683 (by decide) rfl ?_
  refine R_iload (pc := 685) 10 dX8_box_685 rfl ?_
  refine R_iload (pc := 687) 9 dX8_box_687 rfl ?_
  refine R_ixor (pc := 689) dX8_box_689 ?_
  refine R_topi (fun v_90 ev_90 => ?_)
  refine R_istore (pc := 690) (lv' := [(90, .int v_90), (89, .int v_89), (88, .int v_88), (87, .int v_87), (86, .int v_86), (85, .int v_85), (84, .int v_84), (83, .int v_83), (82, .int v_82), (81, .int v_81), (80, .int v_80), (79, .int v_79), (78, .int v_78), (77, .int v_77), (76, .int v_76), (75, .int v_75), (74, .int v_74), (73, .int v_73), (72, .int v_72), (71, .int v_71), (70, .int v_70), (69, .int v_69), (68, .int v_68), (67, .int v_67), (66, .int v_66), (65, .int v_65), (64, .int v_64), (63, .int v_63), (62, .int v_62), (61, .int v_61), (60, .int v_60), (59, .int v_59), (58, .int v_58), (57, .int v_57), (56, .int v_56), (55, .int v_55), (54, .int v_54), (53, .int v_53), (52, .int v_52), (51, .int v_51), (50, .int v_50), (49, .int v_49), (48, .int v_48), (47, .int v_47), (46, .int v_46), (45, .int v_45), (44, .int v_44), (43, .int v_43), (42, .int v_42), (41, .int v_41), (40, .int v_40), (39, .int v_39), (38, .int v_38), (37, .int v_37), (36, .int v_36), (35, .int v_35), (34, .int v_34), (33, .int v_33), (32, .int v_32), (31, .int v_31), (30, .int v_30), (29, .int v_29), (28, .int v_28), (27, .int v_27), (26, .int v_26), (25, .int v_25), (24, .int v_24), (23, .int v_23), (22, .int v_22), (21, .int v_21), (20, .int v_20), (19, .int v_19), (18, .int v_18), (17, .int v_17), (16, .int v_16), (15, .int v_15), (14, .int v_14), (13, .int v_13), (12, .int v_12), (11, .int v_11), (10, .int v_10), (9, .int v_9), (8, .int v_8), (7, .int v_7), (6, .int v_6), (5, .int v_5), (4, .int v_4), (3, .int v_3), (2, .int v_2), (1, .int v_1), (0, .ref a)]) dX8_box_690 (by decide) rfl ?_
  refine R_iload (pc := 692) 15 dX8_box_692 rfl ?_
  refine R_iload (pc := 694) 7 dX8_box_694 rfl ?_
  refine R_ixor (pc := 696) dX8_box_696 ?_
  refine R_topi (fun v_91 ev_91 => ?_)
  refine R_istore (pc := 697) (lv' := [(91, .int v_91), (90, .int v_90), (89, .int v_89), (88, .int v_88), (87, .int v_87), (86, .int v_86), (85, .int v_85), (84, .int v_84), (83, .int v_83), (82, .int v_82), (81, .int v_81), (80, .int v_80), (79, .int v_79), (78, .int v_78), (77, .int v_77), (76, .int v_76), (75, .int v_75), (74, .int v_74), (73, .int v_73), (72, .int v_72), (71, .int v_71), (70, .int v_70), (69, .int v_69), (68, .int v_68), (67, .int v_67), (66, .int v_66), (65, .int v_65), (64, .int v_64), (63, .int v_63), (62, .int v_62), (61, .int v_61), (60, .int v_60), (59, .int v_59), (58, .int v_58), (57, .int v_57), (56, .int v_56), (55, .int v_55), (54, .int v_54), (53, .int v_53), (52, .int v_52), (51, .int v_51), (50, .int v_50), (49, .int v_49), (48, .int v_48), (47, .int v_47), (46, .int v_46), (45, .int v_45), (44, .int v_44), (43, .int v_43), (42, .int v_42), (41, .int v_41), (40, .int v_40), (39, .int v_39), (38, .int v_38), (37, .int v_37), (36, .int v_36), (35, .int v_35), (34, .int v_34), (33, .int v_33), (32, .int v_32), (31, .int v_31), (30, .int v_30), (29, .int v_29), (28, .int v_28), (27, .int v_27), (26, .int v_26), (25, .int v_25), (24, .int v_24), (23, .int v_23), (22, .int v_22), (21, .int v_21), (20, .int v_20), (19, .int v_19), (18, .int v_18), (17, .int v_17), (16, .int v_16), (15, .int v_15), (14, .int v_14), (13, .int v_13), (12, .int v_12), (11, .int v_11), (10, .int v_10), (9, .int v_9), (8, .int v_8), (7, .int v_7), (6, .int v_6), (5, .int v_5), (4, .int v_4), (3, .int v_3), (2, .int v_2), (1, .int v_1), (0, .ref a)]) dX8_box_697 (by decide) rfl ?_
  refine R_iload (pc := 699) 6 dX8_box_699 rfl ?_
  refine R_iload (pc := 701) 3 dX8_box_701 rfl ?_
  refine R_ixor (pc := 703) dX8_box_703 ?_
  refine R_topi (fun v_92 ev_92 => ?_)
  refine R_istore (pc := 704) (lv' := [(92, .int v_92), (91, .int v_91), (90, .int v_90), (89, .int v_89), (88, .int v_88), (87, .int v_87), (86, .int v_86), (85, .int v_85), (84, .int v_84), (83, .int v_83), (82, .int v_82), (81, .int v_81), (80, .int v_80), (79, .int v_79), (78, .int v_78), (77, .int v_77), (76, .int v_76), (75, .int v_75), (74, .int v_74), (73, .int v_73), (72, .int v_72), (71, .int v_71), (70, .int v_70), (69, .int v_69), (68, .int v_68), (67, .int v_67), (66, .int v_66), (65, .int v_65), (64, .int v_64), (63, .int v_63), (62, .int v_62), (61, .int v_61), (60, .int v_60), (59, .int v_59), (58, .int v_58), (57, .int v_57), (56, .int v_56), (55, .int v_55), (54, .int v_54), (53, .int v_53), (52, .int v_52), (51, .int v_51), (50, .int v_50), (49, .int v_49), (48, .int v_48), (47, .int v_47), (46, .int v_46), (45, .int v_45), (44, .int v_44), (43, .int v_43), (42, .int v_42), (41, .int v_41), (40, .int v_40), (39, .int v_39), (38, .int v_38), (37, .int v_37), (36, .int v_36), (35, .int v_35), (34, .int v_34), (33, .int v_33), (32, .int v_32), (31, .int v_31), (30, .int v_30), (29, .int v_29), (28, .int v_28), (27, .int v_27), (26, .int v_26), (25, .int v_25), (24, .int v_24), (23, .int v_23), (22, .int v_22), (21, .int v_21), (20, .int v_20), (19, .int v_19), (18, .int v_18), (17, .int v_17), (16, .int v_16), (15, .int v_15), (14, .int v_14), (13, .int v_13), (12, .int v_12), (11, .int v_11), (10, .int v_10), (9, .int v_9), (8, .int v_8), (7, .int v_7), (6, .int v_6), (5, .int v_5), (4, .int v_4), (3, .int v_3), (2, .int v_2), (1, .int v_1), (0, .ref a)]) dX8_box_704 (by decide) rfl ?_
  refine R_iload (pc := 706) 25 dX8_box_706 rfl ?_
  refine R_iload (pc := 708) 11 dX8_box_708 rfl ?_
  refine R_ixor (pc := 710) dX8_box_710 ?_
  refine R_topi (fun v_93 ev_93 => ?_)
  refine R_istore (pc := 711) (lv' := [(93, .int v_93), (92, .int v_92), (91, .int v_91), (90, .int v_90), (89, .int v_89), (88, .int v_88), (87, .int v_87), (86, .int v_86), (85, .int v_85), (84, .int v_84), (83, .int v_83), (82, .int v_82), (81, .int v_81), (80, .int v_80), (79, .int v_79), (78, .int v_78), (77, .int v_77), (76, .int v_76), (75, .int v_75), (74, .int v_74), (73, .int v_73), (72, .int v_72), (71, .int v_71), (70, .int v_70), (69, .int v_69), (68, .int v_68), (67, .int v_67), (66, .int v_66), (65, .int v_65), (64, .int v_64), (63, .int v_63), (62, .int v_62), (61, .int v_61), (60, .int v_60), (59, .int v_59), (58, .int v_58), (57, .int v_57), (56, .int v_56), (55, .int v_55), (54, .int v_54), (53, .int v_53), (52, .int v_52), (51, .int v_51), (50, .int v_50), (49, .int v_49), (48, .int v_48), (47, .int v_47), (46, .int v_46), (45, .int v_45), (44, .int v_44), (43, .int v_43), (42, .int v_42), (41, .int v_41), (40, .int v_40), (39, .int v_39), (38, .int v_38), (37, .int v_37), (36, .int v_36), (35, .int v_35), (34, .int v_34), (33, .int v_33), (32, .int v_32), (31, .int v_31), (30, .int v_30), (29, .int v_29), (28, .int v_28), (27, .int v_27), (26, .int v_26), (25, .int v_25), (24, .int v_24), (23, .int v_23), (22, .int v_22), (21, .int v_21), (20, .int v_20), (19, .int v_19), (18, .int v_18), (17, .int v_17), (16, .int v_16), (15, .int v_15), (14, .int v_14), (13, .int v_13), (12, .int v_12), (11, .int v_11), (10, .int v_10), (9, .int v_9), (8, .int v_8), (7, .int v_7), (6, .int v_6), (5, .int v_5), (4, .int v_4), (3, .int v_3), (2, .int v_2), (1, .int v_1), (0, .ref a)]) dX8_box_711 (by decide) rfl ?_
  refine R_iload (pc := 713) 27 dX8_box_713 rfl ?_
  refine R_iload (pc := 715) 4 dX8_box_715 rfl ?_
  refine R_ixor (pc := 717) dX8_box_717 ?_
  refine R_topi (fun v_94 ev_94 => ?_)
  refine R_istore (pc := 718) (lv' := [(94, .int v_94), (93, .int v_93), (92, .int v_92), (91, .int v_91), (90, .int v_90), (89, .int v_89), (88, .int v_88), (87, .int v_87), (86, .int v_86), (85, .int v_85), (84, .int v_84), (83, .int v_83), (82, .int v_82), (81, .int v_81), (80, .int v_80), (79, .int v_79), (78, .int v_78), (77, .int v_77), (76, .int v_76), (75, .int v_75), (74, .int v_74), (73, .int v_73), (72, .int v_72), (71, .int v_71), (70, .int v_70), (69, .int v_69), (68, .int v_68), (67, .int v_67), (66, .int v_66), (65, .int v_65), (64, .int v_64), (63, .int v_63), (62, .int v_62), (61, .int v_61), (60, .int v_60), (59, .int v_59), (58, .int v_58), (57, .int v_57), (56, .int v_56), (55, .int v_55), (54, .int v_54), (53, .int v_53), (52, .int v_52), (51, .int v_51), (50, .int v_50), (49, .int v_49), (48, .int v_48), (47, .int v_47), (46, .int v_46), (45, .int v_45), (44, .int v_44), (43, .int v_43), (42, .int v_42), (41, .int v_41), (40, .int v_40), (39, .int v_39), (38, .int v_38), (37, .int v_37), (36, .int v_36), (35, .int v_35), (34, .int v_34), (33, .int v_33), (32, .int v_32), (31, .int v_31), (30, .int v_30), (29, .int v_29), (28, .int v_28), (27, .int v_27), (26, .int v_26), (25, .int v_25), (24, .int v_24), (23, .int v_23), (22, .int v_22), (21, .int v_21), (20, .int v_20), (19, .int v_19), (18, .int v_18), (17, .int v_17), (16, .int v_16), (15, .int v_15), (14, .int v_14), (13, .int v_13), (12, .int v_12), (11, .int v_11), (10, .int v_10), (9, .int v_9), (8, .int v_8), (7, .int v_7), (6, .int v_6), (5, .int v_5), (4, .int v_4), (3, .int v_3), (2, .int v_2), (1, .int v_1), (0, .ref a)]) dX8_box_718 (by decide) rfl ?_
  refine R_iload (pc := 720) 13 dX8_box_720 rfl ?_
  refine R_iload (pc := 722) 2 dX8_box_722 rfl ?_
  refine R_ixor (pc := 724) dX8_box_724 ?_
  refine R_topi (fun v_95 ev_95 => ?_)
  refine R_istore (pc := 725) (lv' := [(95, .int v_95), (94, .int v_94), (93, .int v_93), (92, .int v_92), (91, .int v_91), (90, .int v_90), (89, .int v_89), (88, .int v_88), (87, .int v_87), (86, .int v_86), (85, .int v_85), (84, .int v_84), (83, .int v_83), (82, .int v_82), (81, .int v_81), (80, .int v_80), (79, .int v_79), (78, .int v_78), (77, .int v_77), (76, .int v_76), (75, .int v_75), (74, .int v_74), (73, .int v_73), (72, .int v_72), (71, .int v_71), (70, .int v_70), (69, .int v_69), (68, .int v_68), (67, .int v_67), (66, .int v_66), (65, .int v_65), (64, .int v_64), (63, .int v_63), (62, .int v_62), (61, .int v_61), (60, .int v_60), (59, .int v_59), (58, .int v_58), (57, .int v_57), (56, .int v_56), (55, .int v_55), (54, .int v_54), (53, .int v_53), (52, .int v_52), (51, .int v_51), (50, .int v_50), (49, .int v_49), (48, .int v_48), (47, .int v_47), (46, .int v_46), (45, .int v_45), (44, .int v_44), (43, .int v_43), (42, .int v_42), (41, .int v_41), (40, .int v_40), (39, .int v_39), (38, .int v_38), (37, .int v_37), (36, .int v_36), (35, .int v_35), (34, .int v_34), (33, .int v_33), (32, .int v_32), (31, .int v_31), (30, .int v_30), (29, .int v_29), (28, .int v_28), (27, .int v_27), (26, .int v_26), (25, .int v_25), (24, .int v_24), (23, .int v_23), (22, .int v_22), (21, .int v_21), (20, .int v_20), (19, .int v_19), (18, .int v_18), (17, .int v_17), (16, .int v_16), (15, .int v_15), (14, .int v_14), (13, .int v_13), (12, .int v_12), (11, .int v_11), (10, .int v_10), (9, .int v_9), (8, .int v_8), (7, .int v_7), (6, .int v_6), (5, .int v_5), (4, .int v_4), (3, .int v_3), (2, .int v_2), (1, .int v_1), (0, .ref a)]) dX8_box_725 (by decide) rfl ?_
  refine R_iload (pc := 727) 18 dX8_box_727 rfl ?_
  refine R_iload (pc := 729) 3 dX8_box_729 rfl ?_
  refine R_ixor (pc := 731) dX8_box_731 ?_
  refine R_topi (fun v_96 ev_96 => ?_)
  refine R_istore (pc := 732) (lv' := [(96, .int v_96), (95, .int v_95), (94, .int v_94), (93, .int v_93), (92, .int v_92), (91, .int v_91), (90, .int v_90), (89, .int v_89), (88, .int v_88), (87, .int v_87), (86, .int v_86), (85, .int v_85), (84, .int v_84), (83, .int v_83), (82, .int v_82), (81, .int v_81), (80, .int v_80), (79, .int v_79), (78, .int v_78), (77, .int v_77), (76, .int v_76), (75, .int v_75), (74, .int v_74), (73, .int v_73), (72, .int v_72), (71, .int v_71), (70, .int v_70), (69, .int v_69), (68, .int v_68), (67, .int v_67), (66, .int v_66), (65, .int v_65), (64, .int v_64), (63, .int v_63), (62, .int v_62), (61, .int v_61), (60, .int v_60), (59, .int v_59), (58, .int v_58), (57, .int v_57), (56, .int v_56), (55, .int v_55), (54, .int v_54), (53, .int v_53), (52, .int v_52), (51, .int v_51), (50, .int v_50), (49, .int v_49), (48, .int v_48), (47, .int v_47), (46, .int v_46), (45, .int v_45), (44, .int v_44), (43, .int v_43), (42, .int v_42), (41, .int v_41), (40, .int v_40), (39, .int v_39), (38, .int v_38), (37, .int v_37), (36, .int v_36), (35, .int v_35), (34, .int v_34), (33, .int v_33), (32, .int v_32), (31, .int v_31), (30, .int v_30), (29, .int v_29), (28, .int v_28), (27, .int v_27), (26, .int v_26), (25, .int v_25), (24, .int v_24), (23, .int v_23), (22, .int v_22), (21, .int v_21), (20, .int v_20), (19, .int v_19), (18, .int v_18), (17, .int v_17), (16, .int v_16), (15, .int v_15), (14, .int v_14), (13, .int v_13), (12, .int v_12), (11, .int v_11), (10, .int v_10), (9, .int v_9), (8, .int v_8), (7, .int v_7), (6, .int v_6), (5, .int v_5), (4, .int v_4), (3, .int v_3), (2, .int v_2), (1, .int v_1), (0, .ref a)]) dX8_box_732 (by decide) rfl ?_
  refine R_iload (pc := 734) 9 dX8_box_734 rfl ?_
  refine R_iload (pc := 736) 3 dX8_box_736 rfl ?_
  refine R_ixor (pc := 738) dX8_box_738 ?_
  refine R_topi (fun v_97 ev_97 => ?_)
  refine R_istore (pc := 739) (lv' := [(97, .int v_97), (96, .int v_96), (95, .int v_95), (94, .int v_94), (93, .int v_93), (92, .int v_92), (91, .int v_91), (90, .int v_90), (89, .int v_89), (88, .int v_88), (87, .int v_87), (86, .int v_86), (85, .int v_85), (84, .int v_84), (83, .int v_83), (82, .int v_82), (81, .int v_81), (80, .int v_80), (79, .int v_79), (78, .int v_78), (77, .int v_77), (76, .int v_76), (75, .int v_75), (74, .int v_74), (73, .int v_73), (72, .int v_72), (71, .int v_71), (70, .int v_70), (69, .int v_69), (68, .int v_68), (67, .int v_67), (66, .int v_66), (65, .int v_65), (64, .int v_64), (63, .int v_63), (62, .int v_62), (61, .int v_61), (60, .int v_60), (59, .int v_59), (58, .int v_58), (57, .int v_57), (56, .int v_56), (55, .int v_55), (54, .int v_54), (53, .int v_53), (52, .int v_52), (51, .int v_51), (50, .int v_50), (49, .int v_49), (48, .int v_48), (47, .int v_47), (46, .int v_46), (45, .int v_45), (44, .int v_44), (43, .int v_43), (42, .int v_42), (41, .int v_41), (40, .int v_40), (39, .int v_39), (38, .int v_38), (37, .int v_37), (36, .int v_36), (35, .int v_35), (34, .int v_34), (33, .int v_33), (32, .int v_32), (31, .int v_31), (30, .int v_30), (29, .int v_29), (28, .int v_28), (27, .int v_27), (26, .int v_26), (25, .int v_25), (24, .int v_24), (23, .int v_23), (22, .int v_22), (21, .int v_21), (20, .int v_20), (19, .int v_19), (18, .int v_18), (17, .int v_17), (16, .int v_16), (15, .int v_15), (14, .int v_14), (13, .int v_13), (12, .int v_12), (11, .int v_11), (10, .int v_10), (9, .int v_9), (8, .int v_8), (7, .int v_7), (6, .int v_6), (5, .int v_5), (4, .int v_4), (3, .int v_3), (2, .int v_2), (1, .int v_1), (0, .ref a)]) dX8_box_739 (by decide) rfl ?_
  refine R_iload (pc := 741) 13 dX8_box_741 rfl ?_
  refine R_iload (pc := 743) 4 dX8_box_743 rfl ?_
  refine R_ixor (pc := 745) dX8_box_745 ?_
  refine R_topi (fun v_98 ev_98 => ?_)
  refine R_istore (pc := 746) (lv' := [(98, .int v_98), (97, .int v_97), (96, .int v_96), (95, .int v_95), (94, .int v_94), (93, .int v_93), (92, .int v_92), (91, .int v_91), (90, .int v_90), (89, .int v_89), (88, .int v_88), (87, .int v_87), (86, .int v_86), (85, .int v_85), (84, .int v_84), (83, .int v_83), (82, .int v_82), (81, .int v_81), (80, .int v_80), (79, .int v_79), (78, .int v_78), (77, .int v_77), (76, .int v_76), (75, .int v_75), (74, .int v_74), (73, .int v_73), (72, .int v_72), (71, .int v_71), (70, .int v_70), (69, .int v_69), (68, .int v_68), (67, .int v_67), (66, .int v_66), (65, .int v_65), (64, .int v_64), (63, .int v_63), (62, .int v_62), (61, .int v_61), (60, .int v_60), (59, .int v_59), (58, .int v_58), (57, .int v_57), (56, .int v_56), (55, .int v_55), (54, .int v_54), (53, .int v_53), (52, .int v_52), (51, .int v_51), (50, .int v_50), (49, .int v_49), (48, .int v_48), (47, .int v_47), (46, .int v_46), (45, .int v_45), (44, .int v_44), (43, .int v_43), (42, .int v_42), (41, .int v_41), (40, .int v_40), (39, .int v_39), (38, .int v_38), (37, .int v_37), (36, .int v_36), (35, .int v_35), (34, .int v_34), (33, .int v_33), (32, .int v_32), (31, .int v_31), (30, .int v_30), (29, .int v_29), (28, .int v_28), (27, .int v_27), (26, .int v_26), (25, .int v_25), (24, .int v_24), (23, .int v_23), (22, .int v_22), (21, .int v_21), (20, .int v_20), (19, .int v_19), (18, .int v_18), (17, .int v_17), (16, .int v_16), (15, .int v_15), (14, .int v_14), (13, .int v_13), (12, .int v_12), (11, .int v_11), (10, .int v_10), (9, .int v_9), (8, .int v_8), (7, .int v_7), (6, .int v_6), (5, .int v_5), (4, .int v_4), (3, .int v_3), (2, .int v_2), (1, .int v_1), (0, .ref a)]) dX8_box_746 (by decide) rfl ?_
  refine R_iload (pc := 748) 31 dX8_box_748 rfl ?_
  refine R_iload (pc := 750) 4 dX8_box_750 rfl ?_
  refine R_ixor (pc := 752) dX8_box_752 ?_
  refine R_topi (fun v_99 ev_99 => ?_)
  refine R_istore (pc := 753) (lv' := [(99, .int v_99), (98, .int v_98), (97, .int v_97), (96, .int v_96), (95, .int v_95), (94, .int v_94), (93, .int v_93), (92, .int v_92), (91, .int v_91), (90, .int v_90), (89, .int v_89), (88, .int v_88), (87, .int v_87), (86, .int v_86), (85, .int v_85), (84, .int v_84), (83, .int v_83), (82, .int v_82), (81, .int v_81), (80, .int v_80), (79, .int v_79), (78, .int v_78), (77, .int v_77), (76, .int v_76), (75, .int v_75), (74, .int v_74), (73, .int v_73), (72, .int v_72), (71, .int v_71), (70, .int v_70), (69, .int v_69), (68, .int v_68), (67, .int v_67), (66, .int v_66), (65, .int v_65), (64, .int v_64), (63, .int v_63), (62, .int v_62), (61, .int v_61), (60, .int v_60), (59, .int v_59), (58, .int v_58), (57, .int v_57), (56, .int v_56), (55, .int v_55), (54, .int v_54), (53, .int v_53), (52, .int v_52), (51, .int v_51), (50, .int v_50), (49, .int v_49), (48, .int v_48), (47, .int v_47), (46, .int v_46), (45, .int v_45), (44, .int v_44), (43, .int v_43), (42, .int v_42), (41, .int v_41), (40, .int v_40), (39, .int v_39), (38, .int v_38), (37, .int v_37), (36, .int v_36), (35, .int v_35), (34, .int v_34), (33, .int v_33), (32, .int v_32), (31, .int v_31), (30, .int v_30), (29, .int v_29), (28, .int v_28), (27, .int v_27), (26, .int v_26), (25, .int v_25), (24, .int v_24), (23, .int v_23), (22, .int v_22), (21, .int v_21), (20, .int v_20), (19, .int v_19), (18, .int v_18), (17, .int v_17), (16, .int v_16), (15, .int v_15), (14, .int v_14), (13, .int v_13), (12, .int v_12), (11, .int v_11), (10, .int v_10), (9, .int v_9), (8, .int v_8), (7, .int v_7), (6, .int v_6), (5, .int v_5), (4, .int v_4), (3, .int v_3), (2, .int v_2), (1, .int v_1), (0, .ref a)]) dX8_box_753 (by decide) rfl ?_
  refine R_iload (pc := 755) 3 dX8_box_755 rfl ?_
  refine R_iload (pc := 757) 2 dX8_box_757 rfl ?_
  refine R_ixor (pc := 759) dX8_box_759 ?_
  refine R_topi (fun v_100 ev_100 => ?_)
  refine R_istore (pc := 760) (lv' := [(100, .int v_100), (99, .int v_99), (98, .int v_98), (97, .int v_97), (96, .int v_96), (95, .int v_95), (94, .int v_94), (93, .int v_93), (92, .int v_92), (91, .int v_91), (90, .int v_90), (89, .int v_89), (88, .int v_88), (87, .int v_87), (86, .int v_86), (85, .int v_85), (84, .int v_84), (83, .int v_83), (82, .int v_82), (81, .int v_81), (80, .int v_80), (79, .int v_79), (78, .int v_78), (77, .int v_77), (76, .int v_76), (75, .int v_75), (74, .int v_74), (73, .int v_73), (72, .int v_72), (71, .int v_71), (70, .int v_70), (69, .int v_69), (68, .int v_68), (67, .int v_67), (66, .int v_66), (65, .int v_65), (64, .int v_64), (63, .int v_63), (62, .int v_62), (61, .int v_61), (60, .int v_60), (59, .int v_59), (58, .int v_58), (57, .int v_57), (56, .int v_56), (55, .int v_55), (54, .int v_54), (53, .int v_53), (52, .int v_52), (51, .int v_51), (50, .int v_50), (49, .int v_49), (48, .int v_48), (47, .int v_47), (46, .int v_46), (45, .int v_45), (44, .int v_44), (43, .int v_43), (42, .int v_42), (41, .int v_41), (40, .int v_40), (39, .int v_39), (38, .int v_38), (37, .int v_37), (36, .int v_36), (35, .int v_35), (34, .int v_34), (33, .int v_33), (32, .int v_32), (31, .int v_31), (30, .int v_30), (29, .int v_29), (28, .int v_28), (27, .int v_27), (26, .int v_26), (25, .int v_25), (24, .int v_24), (23, .int v_23), (22, .int v_22), (21, .int v_21), (20, .int v_20), (19, .int v_19), (18, .int v_18), (17, .int v_17), (16, .int v_16), (15, .int v_15), (14, .int v_14), (13, .int v_13), (12, .int v_12), (11, .int v_11), (10, .int v_10), (9, .int v_9), (8, .int v_8), (7, .int v_7), (6, .int v_6), (5, .int v_5), (4, .int v_4), (3, .int v_3), (2, .int v_2), (1, .int v_1), (0, .ref a)]) dX8_box_760 (by decide) rfl ?_
  refine R_iload (pc := 762) 36 dX8_box_762 rfl ?_
  refine R_iload (pc := 764) 2 dX8_box_764 rfl ?_
  refine R_ixor (pc := 766) dX8_box_766 ?_
  refine R_topi (fun v_101 ev_101 => ?_)
  refine R_istore (pc := 767) (lv' := [(101, .int v_101), (100, .int v_100), (99, .int v_99), (98, .int v_98), (97, .int v_97), (96, .int v_96), (95, .int v_95), (94, .int v_94), (93, .int v_93), (92, .int v_92), (91, .int v_91), (90, .int v_90), (89, .int v_89), (88, .int v_88), (87, .int v_87), (86, .int v_86), (85, .int v_85), (84, .int v_84), (83, .int v_83), (82, .int v_82), (81, .int v_81), (80, .int v_80), (79, .int v_79), (78, .int v_78), (77, .int v_77), (76, .int v_76), (75, .int v_75), (74, .int v_74), (73, .int v_73), (72, .int v_72), (71, .int v_71), (70, .int v_70), (69, .int v_69), (68, .int v_68), (67, .int v_67), (66, .int v_66), (65, .int v_65), (64, .int v_64), (63, .int v_63), (62, .int v_62), (61, .int v_61), (60, .int v_60), (59, .int v_59), (58, .int v_58), (57, .int v_57), (56, .int v_56), (55, .int v_55), (54, .int v_54), (53, .int v_53), (52, .int v_52), (51, .int v_51), (50, .int v_50), (49, .int v_49), (48, .int v_48), (47, .int v_47), (46, .int v_46), (45, .int v_45), (44, .int v_44), (43, .int v_43), (42, .int v_42), (41, .int v_41), (40, .int v_40), (39, .int v_39), (38, .int v_38), (37, .int v_37), (36, .int v_36), (35, .int v_35), (34, .int v_34), (33, .int v_33), (32, .int v_32), (31, .int v_31), (30, .int v_30), (29, .int v_29), (28, .int v_28), (27, .int v_27), (26, .int v_26), (25, .int v_25), (24, .int v_24), (23, .int v_23), (22, .int v_22), (21, .int v_21), (20, .int v_20), (19, .int v_19), (18, .int v_18), (17, .int v_17), (16, .int v_16), (15, .int v_15), (14, .int v_14), (13, .int v_13), (12, .int v_12), (11, .int v_11), (10, .int v_10), (9, .int v_9), (8, .int v_8), (7, .int v_7), (6, .int v_6), (5, .int v_5), (4, .int v_4), (3, .int v_3), (2, .int v_2), (1, .int v_1), (0, .ref a)]) dX8_box_767 (by decide) rfl ?_
  refine R_iload (pc := 769) 2 dX8_box_769 rfl ?_
  refine R_iload (pc := 771) 1 dX8_box_771 rfl ?_
  refine R_ixor (pc := 773) dX8_box_773 ?_
  refine R_topi (fun v_102 ev_102 => ?_)
  refine R_istore (pc := 774) (lv' := [(102, .int v_102), (101, .int v_101), (100, .int v_100), (99, .int v_99), (98, .int v_98), (97, .int v_97), (96, .int v_96), (95, .int v_95), (94, .int v_94), (93, .int v_93), (92, .int v_92), (91, .int v_91), (90, .int v_90), (89, .int v_89), (88, .int v_88), (87, .int v_87), (86, .int v_86), (85, .int v_85), (84, .int v_84), (83, .int v_83), (82, .int v_82), (81, .int v_81), (80, .int v_80), (79, .int v_79), (78, .int v_78), (77, .int v_77), (76, .int v_76), (75, .int v_75), (74, .int v_74), (73, .int v_73), (72, .int v_72), (71, .int v_71), (70, .int v_70), (69, .int v_69), (68, .int v_68), (67, .int v_67), (66, .int v_66), (65, .int v_65), (64, .int v_64), (63, .int v_63), (62, .int v_62), (61, .int v_61), (60, .int v_60), (59, .int v_59), (58, .int v_58), (57, .int v_57), (56, .int v_56), (55, .int v_55), (54, .int v_54), (53, .int v_53), (52, .int v_52), (51, .int v_51), (50, .int v_50), (49, .int v_49), (48, .int v_48), (47, .int v_47), (46, .int v_46), (45, .int v_45), (44, .int v_44), (43, .int v_43), (42, .int v_42), (41, .int v_41), (40, .int v_40), (39, .int v_39), (38, .int v_38), (37, .int v_37), (36, .int v_36), (35, .int v_35), (34, .int v_34), (33, .int v_33), (32, .int v_32), (31, .int v_31), (30, .int v_30), (29, .int v_29), (28, .int v_28), (27, .int v_27), (26, .int v_26), (25, .int v_25), (24, .int v_24), (23, .int v_23), (22, .int v_22), (21, .int v_21), (20, .int v_20), (19, .int v_19), (18, .int v_18), (17, .int v_17), (16, .int v_16), (15, .int v_15), (14, .int v_14), (13, .int v_13), (12, .int v_12), (11, .int v_11), (10, .int v_10), (9, .int v_9), (8, .int v_8), (7, .int v_7), (6, .int v_6), (5, .int v_5), (4, .int v_4), (3, .int v_3), (2, .int v_2), (1, .int v_1), (0, .ref a)]) dX8_box_774 (by decide) rfl ?_
  refine R_iload (pc := 776) 14 dX8_box_776 rfl ?_
  refine R_iload (pc := 778) 1 dX8_box_778 rfl ?_
  refine R_ixor (pc := 780) dX8_box_780 ?_
  refine R_topi (fun v_103 ev_103 => ?_)
  refine R_istore (pc := 781) (lv' := [(103, .int v_103), (102, .int v_102), (101, .int v_101), (100, .int v_100), (99, .int v_99), (98, .int v_98), (97, .int v_97), (96, .int v_96), (95, .int v_95), (94, .int v_94), (93, .int v_93), (92, .int v_92), (91, .int v_91), (90, .int v_90), (89, .int v_89), (88, .int v_88), (87, .int v_87), (86, .int v_86), (85, .int v_85), (84, .int v_84), (83, .int v_83), (82, .int v_82), (81, .int v_81), (80, .int v_80), (79, .int v_79), (78, .int v_78), (77, .int v_77), (76, .int v_76), (75, .int v_75), (74, .int v_74), (73, .int v_73), (72, .int v_72), (71, .int v_71), (70, .int v_70), (69, .int v_69), (68, .int v_68), (67, .int v_67), (66, .int v_66), (65, .int v_65), (64, .int v_64), (63, .int v_63), (62, .int v_62), (61, .int v_61), (60, .int v_60), (59, .int v_59), (58, .int v_58), (57, .int v_57), (56, .int v_56), (55, .int v_55), (54, .int v_54), (53, .int v_53), (52, .int v_52), (51, .int v_51), (50, .int v_50), (49, .int v_49), (48, .int v_48), (47, .int v_47), (46, .int v_46), (45, .int v_45), (44, .int v_44), (43, .int v_43), (42, .int v_42), (41, .int v_41), (40, .int v_40), (39, .int v_39), (38, .int v_38), (37, .int v_37), (36, .int v_36), (35, .int v_35), (34, .int v_34), (33, .int v_33), (32, .int v_32), (31, .int v_31), (30, .int v_30), (29, .int v_29), (28, .int v_28), (27, .int v_27), (26, .int v_26), (25, .int v_25), (24, .int v_24), (23, .int v_23), (22, .int v_22), (21, .int v_21), (20, .int v_20), (19, .int v_19), (18, .int v_18), (17, .int v_17), (16, .int v_16), (15, .int v_15), (14, .int v_14), (13, .int v_13), (12, .int v_12), (11, .int v_11), (10, .int v_10), (9, .int v_9), (8, .int v_8), (7, .int v_7), (6, .int v_6), (5, .int v_5), (4, .int v_4), (3, .int v_3), (2, .int v_2), (1, .int v_1), (0, .ref a)]) dX8_box_781 (by decide) rfl ?_
  refine R_iload (pc := 783) 9 dX8_box_783 rfl ?_
  refine R_iload (pc := 785) 5 dX8_box_785 rfl ?_
  refine R_ixor (pc := 787) dX8_box_787 ?_
  refine R_topi (fun v_104 ev_104 => ?_)
  refine R_istore (pc := 788) (lv' := [(104, .int v_104), (103, .int v_103), (102, .int v_102), (101, .int v_101), (100, .int v_100), (99, .int v_99), (98, .int v_98), (97, .int v_97), (96, .int v_96), (95, .int v_95), (94, .int v_94), (93, .int v_93), (92, .int v_92), (91, .int v_91), (90, .int v_90), (89, .int v_89), (88, .int v_88), (87, .int v_87), (86, .int v_86), (85, .int v_85), (84, .int v_84), (83, .int v_83), (82, .int v_82), (81, .int v_81), (80, .int v_80), (79, .int v_79), (78, .int v_78), (77, .int v_77), (76, .int v_76), (75, .int v_75), (74, .int v_74), (73, .int v_73), (72, .int v_72), (71, .int v_71), (70, .int v_70), (69, .int v_69), (68, .int v_68), (67, .int v_67), (66, .int v_66), (65, .int v_65), (64, .int v_64), (63, .int v_63), (62, .int v_62), (61, .int v_61), (60, .int v_60), (59, .int v_59), (58, .int v_58), (57, .int v_57), (56, .int v_56), (55, .int v_55), (54, .int v_54), (53, .int v_53), (52, .int v_52), (51, .int v_51), (50, .int v_50), (49, .int v_49), (48, .int v_48), (47, .int v_47), (46, .int v_46), (45, .int v_45), (44, .int v_44), (43, .int v_43), (42, .int v_42), (41, .int v_41), (40, .int v_40), (39, .int v_39), (38, .int v_38), (37, .int v_37), (36, .int v_36), (35, .int v_35), (34, .int v_34), (33, .int v_33), (32, .int v_32), (31, .int v_31), (30, .int v_30), (29, .int v_29), (28, .int v_28), (27, .int v_27), (26, .int v_26), (25, .int v_25), (24, .int v_24), (23, .int v_23), (22, .int v_22), (21, .int v_21), (20, .int v_20), (19, .int v_19), (18, .int v_18), (17, .int v_17), (16, .int v_16), (15, .int v_15), (14, .int v_14), (13, .int v_13), (12, .int v_12), (11, .int v_11), (10, .int v_10), (9, .int v_9), (8, .int v_8), (7, .int v_7), (6, .int v_6), (5, .int v_5), (4, .int v_4), (3, .int v_3), (2, .int v_2), (1, .int v_1), (0, .ref a)]) dX8_box_788 (by decide) rfl ?_
  refine R_iload (pc := 790) 5 dX8_box_790 rfl ?_
  refine R_iload (pc := 792) 1 dX8_box_792 rfl ?_
  refine R_ixor (pc := 794) dX8_box_794 ?_
  refine R_ldc (pc := 795) dX8_box_795 cX8_98 ?_
  refine R_ixor (pc := 797) dX8_box_797 ?_
  refine R_topi (fun v_105 ev_105 => ?_)
  refine R_istore (pc := 798) (lv' := [(105, .int v_105), (104, .int v_104), (103, .int v_103), (102, .int v_102), (101, .int v_101), (100, .int v_100), (99, .int v_99), (98, .int v_98), (97, .int v_97), (96, .int v_96), (95, .int v_95), (94, .int v_94), (93, .int v_93), (92, .int v_92), (91, .int v_91), (90, .int v_90), (89, .int v_89), (88, .int v_88), (87, .int v_87), (86, .int v_86), (85, .int v_85), (84, .int v_84), (83, .int v_83), (82, .int v_82), (81, .int v_81), (80, .int v_80), (79, .int v_79), (78, .int v_78), (77, .int v_77), (76, .int v_76), (75, .int v_75), (74, .int v_74), (73, .int v_73), (72, .int v_72), (71, .int v_71), (70, .int v_70), (69, .int v_69), (68, .int v_68), (67, .int v_67), (66, .int v_66), (65, .int v_65), (64, .int v_64), (63, .int v_63), (62, .int v_62), (61, .int v_61), (60, .int v_60), (59, .int v_59), (58, .int v_58), (57, .int v_57), (56, .int v_56), (55, .int v_55), (54, .int v_54), (53, .int v_53), (52, .int v_52), (51, .int v_51), (50, .int v_50), (49, .int v_49), (48, .int v_48), (47, .int v_47), (46, .int v_46), (45, .int v_45), (44, .int v_44), (43, .int v_43), (42, .int v_42), (41, .int v_41), (40, .int v_40), (39, .int v_39), (38, .int v_38), (37, .int v_37), (36, .int v_36), (35, .int v_35), (34, .int v_34), (33, .int v_33), (32, .int v_32), (31, .int v_31), (30, .int v_30), (29, .int v_29), (28, .int v_28), (27, .int v_27), (26, .int v_26), (25, .int v_25), (24, .int v_24), (23, .int v_23), (22, .int v_22), (21, .int v_21), (20, .int v_20), (19, .int v_19), (18, .int v_18), (17, .int v_17), (16, .int v_16), (15, .int v_15), (14, .int v_14), (13, .int v_13), (12, .int v_12), (11, .int v_11), (10, .int v_10), (9, .int v_9), (8, .int v_8), (7, .int v_7), (6, .int v_6), (5, .int v_5), (4, .int v_4), (3, .int v_3), (2, .int v_2), (1, .int v_1), (0, .ref a)]) dX8_box_798 (by decide) rfl ?_
  refine R_iload (pc := 800) 15 dX8_box_800 rfl ?_
  refine R_iload (pc := 802) 3 dX8_box_802 rfl ?_
  refine R_ixor (pc := 804) dX8_box_804 ?_
  refine R_ldc (pc := 805) dX8_box_805 cX8_98 ?_
  refine R_ixor (pc := 807) dX8_box_807 ?_
  refine R_topi (fun v_106 ev_106 => ?_)
  refine R_istore (pc := 808) (lv' := [(106, .int v_106), (105, .int v_105), (104, .int v_104), (103, .int v_103), (102, .int v_102), (101, .int v_101), (100, .int v_100), (99, .int v_99), (98, .int v_98), (97, .int v_97), (96, .int v_96), (95, .int v_95), (94, .int v_94), (93, .int v_93), (92, .int v_92), (91, .int v_91), (90, .int v_90), (89, .int v_89), (88, .int v_88), (87, .int v_87), (86, .int v_86), (85, .int v_85), (84, .int v_84), (83, .int v_83), (82, .int v_82), (81, .int v_81), (80, .int v_80), (79, .int v_79), (78, .int v_78), (77, .int v_77), (76, .int v_76), (75, .int v_75), (74, .int v_74), (73, .int v_73), (72, .int v_72), (71, .int v_71), (70, .int v_70), (69, .int v_69), (68, .int v_68), (67, .int v_67), (66, .int v_66), (65, .int v_65), (64, .int v_64), (63, .int v_63), (62, .int v_62), (61, .int v_61), (60, .int v_60), (59, .int v_59), (58, .int v_58), (57, .int v_57), (56, .int v_56), (55, .int v_55), (54, .int v_54), (53, .int v_53), (52, .int v_52), (51, .int v_51), (50, .int v_50), (49, .int v_49), (48, .int v_48), (47, .int v_47), (46, .int v_46), (45, .int v_45), (44, .int v_44), (43, .int v_43), (42, .int v_42), (41, .int v_41), (40, .int v_40), (39, .int v_39), (38, .int v_38), (37, .int v_37), (36, .int v_36), (35, .int v_35), (34, .int v_34), (33, .int v_33), (32, .int v_32), (31, .int v_31), (30, .int v_30), (29, .int v_29), (28, .int v_28), (27, .int v_27), (26, .int v_26), (25, .int v_25), (24, .int v_24), (23, .int v_23), (22, .int v_22), (21, .int v_21), (20, .int v_20), (19, .int v_19), (18, .int v_18), (17, .int v_17), (16, .int v_16), (15, .int v_15), (14, .int v_14), (13, .int v_13), (12, .int v_12), (11, .int v_11), (10, .int v_10), (9, .int v_9), (8, .int v_8), (7, .int v_7), (6, .int v_6), (5, .int v_5), (4, .int v_4), (3, .int v_3), (2, .int v_2), (1, .int v_1), (0, .ref a)]) dX8_box_808 (by decide) rfl ?_
  refine R_iload (pc := 810) 20 dX8_box_810 rfl ?_
  refine R_iload (pc := 812) 5 dX8_box_812 rfl ?_
  refine R_ixor (pc := 814) dX8_box_814 ?_
  refine R_topi (fun v_107 ev_107 => ?_)
  refine R_istore (pc := 815) (lv' := [(107, .int v_107), (106, .int v_106), (105, .int v_105), (104, .int v_104), (103, .int v_103), (102, .int v_102), (101, .int v_101), (100, .int v_100), (99, .int v_99), (98, .int v_98), (97, .int v_97), (96, .int v_96), (95, .int v_95), (94, .int v_94), (93, .int v_93), (92, .int v_92), (91, .int v_91), (90, .int v_90), (89, .int v_89), (88, .int v_88), (87, .int v_87), (86, .int v_86), (85, .int v_85), (84, .int v_84), (83, .int v_83), (82, .int v_82), (81, .int v_81), (80, .int v_80), (79, .int v_79), (78, .int v_78), (77, .int v_77), (76, .int v_76), (75, .int v_75), (74, .int v_74), (73, .int v_73), (72, .int v_72), (71, .int v_71), (70, .int v_70), (69, .int v_69), (68, .int v_68), (67, .int v_67), (66, .int v_66), (65, .int v_65), (64, .int v_64), (63, .int v_63), (62, .int v_62), (61, .int v_61), (60, .int v_60), (59, .int v_59), (58, .int v_58), (57, .int v_57), (56, .int v_56), (55, .int v_55), (54, .int v_54), (53, .int v_53), (52, .int v_52), (51, .int v_51), (50, .int v_50), (49, .int v_49), (48, .int v_48), (47, .int v_47), (46, .int v_46), (45, .int v_45), (44, .int v_44), (43, .int v_43), (42, .int v_42), (41, .int v_41), (40, .int v_40), (39, .int v_39), (38, .int v_38), (37, .int v_37), (36, .int v_36), (35, .int v_35), (34, .int v_34), (33, .int v_33), (32, .int v_32), (31, .int v_31), (30, .int v_30), (29, .int v_29), (28, .int v_28), (27, .int v_27), (26, .int v_26), (25, .int v_25), (24, .int v_24), (23, .int v_23), (22, .int v_22), (21, .int v_21), (20, .int v_20), (19, .int v_19), (18, .int v_18), (17, .int v_17), (16, .int v_16), (15, .int v_15), (14, .int v_14), (13, .int v_13), (12, .int v_12), (11, .int v_11), (10, .int v_10), (9, .int v_9), (8, .int v_8), (7, .int v_7), (6, .int v_6), (5, .int v_5), (4, .int v_4), (3, .int v_3), (2, .int v_2), (1, .int v_1), (0, .ref a)]) dX8_box_815 (by decide) rfl ?_
  refine R_iload (pc := 817) 25 dX8_box_817 rfl ?_
  refine R_iload (pc := 819) 7 dX8_box_819 rfl ?_
  refine R_ixor (pc := 821) dX8_box_821 ?_
  refine R_topi (fun v_108 ev_108 => ?_)
  refine R_istore (pc := 822) (lv' := [(108, .int v_108), (107, .int v_107), (106, .int v_106), (105, .int v_105), (104, .int v_104), (103, .int v_103), (102, .int v_102), (101, .int v_101), (100, .int v_100), (99, .int v_99), (98, .int v_98), (97, .int v_97), (96, .int v_96), (95, .int v_95), (94, .int v_94), (93, .int v_93), (92, .int v_92), (91, .int v_91), (90, .int v_90), (89, .int v_89), (88, .int v_88), (87, .int v_87), (86, .int v_86), (85, .int v_85), (84, .int v_84), (83, .int v_83), (82, .int v_82), (81, .int v_81), (80, .int v_80), (79, .int v_79), (78, .int v_78), (77, .int v_77), (76, .int v_76), (75, .int v_75), (74, .int v_74), (73, .int v_73), (72, .int v_72), (71, .int v_71), (70, .int v_70), (69, .int v_69), (68, .int v_68), (67, .int v_67), (66, .int v_66), (65, .int v_65), (64, .int v_64), (63, .int v_63), (62, .int v_62), (61, .int v_61), (60, .int v_60), (59, .int v_59), (58, .int v_58), (57, .int v_57), (56, .int v_56), (55, .int v_55), (54, .int v_54), (53, .int v_53), (52, .int v_52), (51, .int v_51), (50, .int v_50), (49, .int v_49), (48, .int v_48), (47, .int v_47), (46, .int v_46), (45, .int v_45), (44, .int v_44), (43, .int v_43), (42, .int v_42), (41, .int v_41), (40, .int v_40), (39, .int v_39), (38, .int v_38), (37, .int v_37), (36, .int v_36), (35, .int v_35), (34, .int v_34), (33, .int v_33), (32, .int v_32), (31, .int v_31), (30, .int v_30), (29, .int v_29), (28, .int v_28), (27, .int v_27), (26, .int v_26), (25, .int v_25), (24, .int v_24), (23, .int v_23), (22, .int v_22), (21, .int v_21), (20, .int v_20), (19, .int v_19), (18, .int v_18), (17, .int v_17), (16, .int v_16), (15, .int v_15), (14, .int v_14), (13, .int v_13), (12, .int v_12), (11, .int v_11), (10, .int v_10), (9, .int v_9), (8, .int v_8), (7, .int v_7), (6, .int v_6), (5, .int v_5), (4, .int v_4), (3, .int v_3), (2, .int v_2), (1, .int v_1), (0, .ref a)]) dX8_box_822 (by decide) rfl ?_
  refine R_iload (pc := 824) 17 dX8_box_824 rfl ?_
  refine R_iload (pc := 826) 11 dX8_box_826 rfl ?_
  refine R_ixor (pc := 828) dX8_box_828 ?_
  refine R_ldc (pc := 829) dX8_box_829 cX8_98 ?_
  refine R_ixor (pc := 831) dX8_box_831 ?_
  refine R_topi (fun v_109 ev_109 => ?_)
  refine R_istore (pc := 832) (lv' := [(109, .int v_109), (108, .int v_108), (107, .int v_107), (106, .int v_106), (105, .int v_105), (104, .int v_104), (103, .int v_103), (102, .int v_102), (101, .int v_101), (100, .int v_100), (99, .int v_99), (98, .int v_98), (97, .int v_97), (96, .int v_96), (95, .int v_95), (94, .int v_94), (93, .int v_93), (92, .int v_92), (91, .int v_91), (90, .int v_90), (89, .int v_89), (88, .int v_88), (87, .int v_87), (86, .int v_86), (85, .int v_85), (84, .int v_84), (83, .int v_83), (82, .int v_82), (81, .int v_81), (80, .int v_80), (79, .int v_79), (78, .int v_78), (77, .int v_77), (76, .int v_76), (75, .int v_75), (74, .int v_74), (73, .int v_73), (72, .int v_72), (71, .int v_71), (70, .int v_70), (69, .int v_69), (68, .int v_68), (67, .int v_67), (66, .int v_66), (65, .int v_65), (64, .int v_64), (63, .int v_63), (62, .int v_62), (61, .int v_61), (60, .int v_60), (59, .int v_59), (58, .int v_58), (57, .int v_57), (56, .int v_56), (55, .int v_55), (54, .int v_54), (53, .int v_53), (52, .int v_52), (51, .int v_51), (50, .int v_50), (49, .int v_49), (48, .int v_48), (47, .int v_47), (46, .int v_46), (45, .int v_45), (44, .int v_44), (43, .int v_43), (42, .int v_42), (41, .int v_41), (40, .int v_40), (39, .int v_39), (38, .int v_38), (37, .int v_37), (36, .int v_36), (35, .int v_35), (34, .int v_34), (33, .int v_33), (32, .int v_32), (31, .int v_31), (30, .int v_30), (29, .int v_29), (28, .int v_28), (27, .int v_27), (26, .int v_26), (25, .int v_25), (24, .int v_24), (23, .int v_23), (22, .int v_22), (21, .int v_21), (20, .int v_20), (19, .int v_19), (18, .int v_18), (17, .int v_17), (16, .int v_16), (15, .int v_15), (14, .int v_14), (13, .int v_13), (12, .int v_12), (11, .int v_11), (10, .int v_10), (9, .int v_9), (8, .int v_8), (7, .int v_7), (6, .int v_6), (5, .int v_5), (4, .int v_4), (3, .int v_3), (2, .int v_2), (1, .int v_1), (0, .ref a)]) dX8_box_832 (by decide) rfl ?_
  refine R_iload (pc := 834) 26 dX8_box_834 rfl ?_
  refine R_iload (pc := 836) 14 dX8_box_836 rfl ?_
  refine R_ixor (pc := 838) dX8_box_838 ?_
  refine R_ldc (pc := 839) dX8_box_839 cX8_98 ?_
  refine R_ixor (pc := 841) dX8_box_841 ?_
  refine R_topi (fun v_110 ev_110 => ?_)
  refine R_istore (pc := 842) (lv' := [(110, .int v_110), (109, .int v_109), (108, .int v_108), (107, .int v_107), (106, .int v_106), (105, .int v_105), (104, .int v_104), (103, .int v_103), (102, .int v_102), (101, .int v_101), (100, .int v_100), (99, .int v_99), (98, .int v_98), (97, .int v_97), (96, .int v_96), (95, .int v_95), (94, .int v_94), (93, .int v_93), (92, .int v_92), (91, .int v_91), (90, .int v_90), (89, .int v_89), (88, .int v_88), (87, .int v_87), (86, .int v_86), (85, .int v_85), (84, .int v_84), (83, .int v_83), (82, .int v_82), (81, .int v_81), (80, .int v_80), (79, .int v_79), (78, .int v_78), (77, .int v_77), (76, .int v_76), (75, .int v_75), (74, .int v_74), (73, .int v_73), (72, .int v_72), (71, .int v_71), (70, .int v_70), (69, .int v_69), (68, .int v_68), (67, .int v_67), (66, .int v_66), (65, .int v_65), (64, .int v_64), (63, .int v_63), (62, .int v_62), (61, .int v_61), (60, .int v_60), (59, .int v_59), (58, .int v_58), (57, .int v_57), (56, .int v_56), (55, .int v_55), (54, .int v_54), (53, .int v_53), (52, .int v_52), (51, .int v_51), (50, .int v_50), (49, .int v_49), (48, .int v_48), (47, .int v_47), (46, .int v_46), (45, .int v_45), (44, .int v_44), (43, .int v_43), (42, .int v_42), (41, .int v_41), (40, .int v_40), (39, .int v_39), (38, .int v_38), (37, .int v_37), (36, .int v_36), (35, .int v_35), (34, .int v_34), (33, .int v_33), (32, .int v_32), (31, .int v_31), (30, .int v_30), (29, .int v_29), (28, .int v_28), (27, .int v_27), (26, .int v_26), (25, .int v_25), (24, .int v_24), (23, .int v_23), (22, .int v_22), (21, .int v_21), (20, .int v_20), (19, .int v_19), (18, .int v_18), (17, .int v_17), (16, .int v_16), (15, .int v_15), (14, .int v_14), (13, .int v_13), (12, .int v_12), (11, .int v_11), (10, .int v_10), (9, .int v_9), (8, .int v_8), (7, .int v_7), (6, .int v_6), (5, .int v_5), (4, .int v_4), (3, .int v_3), (2, .int v_2), (1, .int v_1), (0, .ref a)]) dX8_box_842 (by decide) rfl ?_
  refine R_aload_n (pc := 844) 110 dX8_box_844 rfl rfl ?_
  refine R_iload (pc := 845) 0 dX8_box_845 rfl ?_
  refine R_i2l (pc := 847) (v := v_110.toInt64) dX8_box_847 rfl ?_
  refine R_iload (pc := 848) 1 dX8_box_848 rfl ?_
  refine R_i2l (pc := 850) (v := v_109.toInt64) dX8_box_850 rfl ?_
  refine R_bipush (pc := 851) (v := 16) dX8_box_851 (by decide) ?_
  refine R_lshl (pc := 853) (v := jlshl v_109.toInt64 16) dX8_box_853 rfl ?_
  refine R_lor (pc := 854) dX8_box_854 ?_
  refine R_topl (fun v_111 ev_111 => ?_)
  refine R_iload (pc := 855) 2 dX8_box_855 rfl ?_
  refine R_i2l (pc := 857) (v := v_108.toInt64) dX8_box_857 rfl ?_
  refine R_bipush (pc := 858) (v := 32) dX8_box_858 (by decide) ?_
  refine R_lshl (pc := 860) (v := jlshl v_108.toInt64 32) dX8_box_860 rfl ?_
  refine R_lor (pc := 861) dX8_box_861 ?_
  refine R_iload (pc := 862) 3 dX8_box_862 rfl ?_
  refine R_i2l (pc := 864) (v := v_107.toInt64) dX8_box_864 rfl ?_
  refine R_bipush (pc := 865) (v := 48) dX8_box_865 (by decide) ?_
  refine R_lshl (pc := 867) (v := jlshl v_107.toInt64 48) dX8_box_867 rfl ?_
  refine R_lor (pc := 868) dX8_box_868 ?_
  refine R_topl (fun v_112 ev_112 => ?_)
  refine R_put' (pc := 869) (fs' := [.long v_112, .long hi]) dX8_box_869 fX8_16 tX8_0 rfl rfl ha (by omega) (Nat.le_of_ble_eq_true rfl) rfl (fun h_113 f_114 g_115 => ?_)
  refine R_aload_n (pc := 872) 110 dX8_box_872 rfl rfl ?_
  refine R_iload (pc := 873) 7 dX8_box_873 rfl ?_
  refine R_i2l (pc := 875) (v := v_103.toInt64) dX8_box_875 rfl ?_
  refine R_iload (pc := 876) 4 dX8_box_876 rfl ?_
  refine R_i2l (pc := 878) (v := v_106.toInt64) dX8_box_878 rfl ?_
  refine R_bipush (pc := 879) (v := 16) dX8_box_879 (by decide) ?_
  refine R_lshl (pc := 881) (v := jlshl v_106.toInt64 16) dX8_box_881 rfl ?_
  refine R_lor (pc := 882) dX8_box_882 ?_
  refine R_topl (fun v_116 ev_116 => ?_)
  refine R_iload (pc := 883) 5 dX8_box_883 rfl ?_
  refine R_i2l (pc := 885) (v := v_105.toInt64) dX8_box_885 rfl ?_
  refine R_bipush (pc := 886) (v := 32) dX8_box_886 (by decide) ?_
  refine R_lshl (pc := 888) (v := jlshl v_105.toInt64 32) dX8_box_888 rfl ?_
  refine R_lor (pc := 889) dX8_box_889 ?_
  refine R_iload (pc := 890) 6 dX8_box_890 rfl ?_
  refine R_i2l (pc := 892) (v := v_104.toInt64) dX8_box_892 rfl ?_
  refine R_bipush (pc := 893) (v := 48) dX8_box_893 (by decide) ?_
  refine R_lshl (pc := 895) (v := jlshl v_104.toInt64 48) dX8_box_895 rfl ?_
  refine R_lor (pc := 896) dX8_box_896 ?_
  refine R_topl (fun v_117 ev_117 => ?_)
  refine R_put' (pc := 897) (fs' := [.long v_112, .long v_117]) dX8_box_897 fX8_20 tX8_1 rfl rfl f_114 (by omega) (Nat.le_of_ble_eq_true rfl) rfl (fun h_118 f_119 g_120 => ?_)
  refine R_vreturn (pc := 900) dX8_box_900 rfl (by decide) (by decide) ⟨rfl, rfl, ?_, (fun x_ n0_ => ((g_120 x_ n0_).trans (g_115 x_ n0_)))⟩
  rw [f_119]
  subst ev_117 ev_116 ev_112 ev_111 ev_110 ev_109 ev_108 ev_107 ev_106 ev_105 ev_104 ev_103 ev_102 ev_101 ev_100 ev_99 ev_98 ev_97 ev_96 ev_95 ev_94 ev_93 ev_92 ev_91 ev_90 ev_89 ev_88 ev_87 ev_86 ev_85 ev_84 ev_83 ev_82 ev_81 ev_80 ev_79 ev_78 ev_77 ev_76 ev_75 ev_74 ev_73 ev_72 ev_71 ev_70 ev_69 ev_68 ev_67 ev_66 ev_65 ev_64 ev_63 ev_62 ev_61 ev_60 ev_59 ev_58 ev_57 ev_56 ev_55 ev_54 ev_53 ev_52 ev_51 ev_50 ev_49 ev_48 ev_47 ev_46 ev_45 ev_44 ev_43 ev_42 ev_41 ev_40 ev_39 ev_38 ev_37 ev_36 ev_35 ev_34 ev_33 ev_32 ev_31 ev_30 ev_29 ev_28 ev_27 ev_26 ev_25 ev_24 ev_23 ev_22 ev_21 ev_20 ev_19 ev_18 ev_17 ev_16 ev_15 ev_14 ev_13 ev_12 ev_11 ev_10 ev_9 ev_8 ev_7 ev_6 ev_5 ev_4 ev_3 ev_2 ev_1; rfl
def vX8_boxBack (lo hi : Int64) : Int64 × Int64 := ((vX8_undoLinearEnd ((vX8_box ((vX8_undoLinearEnd lo hi).1) ((vX8_undoLinearEnd lo hi).2)).1) ((vX8_box ((vX8_undoLinearEnd lo hi).1) ((vX8_undoLinearEnd lo hi).2)).2)).1, (vX8_undoLinearEnd ((vX8_box ((vX8_undoLinearEnd lo hi).1) ((vX8_undoLinearEnd lo hi).2)).1) ((vX8_box ((vX8_undoLinearEnd lo hi).1) ((vX8_undoLinearEnd lo hi).2)).2)).2)
set_option maxHeartbeats 4000000 in
set_option maxRecDepth 100000 in
theorem qX8_boxBack (l : Launch) (w : am_W) (h : am_H) (n a : Nat) (lo hi : Int64) (ha : h a = .inr (.inr (8, [.long lo, .long hi]))) (hn : 0 < a ∧ a ≤ n) : RH l w mX8_boxBack h n [.ref a] (fun h' r => r = none ∧ h' a = .inr (.inr (8, [.long ((vX8_boxBack lo hi).1), .long ((vX8_boxBack lo hi).2)])) ∧ ∀ x, x ≠ a → h' x = h x) := by
  refine RC.of [(0, .ref a)] (by decide +kernel) rfl (Nat.le_of_ble_eq_true rfl) ?_
  refine R_aload_n (pc := 0) 0 dX8_boxBack_0 rfl rfl ?_
  refine R_callVh (pc := 1) (μ' := mX8_undoLinearEnd) (As := []) (st := []) dX8_boxBack_1 zX8_undoLinearEnd lX8_90 ⟨by decide, by decide⟩ rfl rfl ⟨by decide, by decide⟩ ha (by omega) rfl (Nat.le_of_ble_eq_true rfl) (qX8_undoLinearEnd l w _ _ _ _ _ ha (by omega)) (fun h_3 r_ q_4 => ?_)
  obtain ⟨rfl, f_1, g_2⟩ := q_4
  refine R_aload_n (pc := 4) 0 dX8_boxBack_4 rfl rfl ?_
  refine R_callVh (pc := 5) (μ' := mX8_box) (As := []) (st := []) dX8_boxBack_5 zX8_box lX8_93 ⟨by decide, by decide⟩ rfl rfl ⟨by decide, by decide⟩ f_1 (by omega) rfl (Nat.le_of_ble_eq_true rfl) (qX8_box l w _ _ _ _ _ f_1 (by omega)) (fun h_7 r_ q_8 => ?_)
  obtain ⟨rfl, f_5, g_6⟩ := q_8
  refine R_aload_n (pc := 8) 0 dX8_boxBack_8 rfl rfl ?_
  refine R_callVh (pc := 9) (μ' := mX8_undoLinearEnd) (As := []) (st := []) dX8_boxBack_9 zX8_undoLinearEnd lX8_90 ⟨by decide, by decide⟩ rfl rfl ⟨by decide, by decide⟩ f_5 (by omega) rfl (Nat.le_of_ble_eq_true rfl) (qX8_undoLinearEnd l w _ _ _ _ _ f_5 (by omega)) (fun h_11 r_ q_12 => ?_)
  obtain ⟨rfl, f_9, g_10⟩ := q_12
  refine R_vreturn (pc := 12) dX8_boxBack_12 rfl (by decide) (by decide) ⟨rfl, rfl, ?_, (fun x_ n0_ => (((g_10 x_ n0_).trans (g_6 x_ n0_)).trans (g_2 x_ n0_)))⟩
  rw [f_9]
  rfl
def vX8_joinFirst (lo hi : Int64) : Int64 := let v_1 := (vX8_gathered (jlushr lo 8)) ||| (jlshl (vX8_gathered (jlushr hi 8)) 32); vX8_turned v_1
set_option maxHeartbeats 4000000 in
set_option maxRecDepth 100000 in
theorem qX8_joinFirst (l : Launch) (w : am_W) (h : am_H) (n a : Nat) (lo hi : Int64) (ha : h a = .inr (.inr (8, [.long lo, .long hi]))) (hn : 0 < a ∧ a ≤ n) : RP l w mX8_joinFirst h n [.ref a] (.long (vX8_joinFirst lo hi)) := by
  refine RC.of [(0, .ref a)] (by decide +kernel) rfl (Nat.le_of_ble_eq_true rfl) ?_
  refine R_aload_n (pc := 0) 0 dX8_joinFirst_0 rfl rfl ?_
  refine R_get (pc := 1) dX8_joinFirst_1 fX8_16 ha (by omega) rfl ?_
  refine R_bipush (pc := 4) (v := 8) dX8_joinFirst_4 (by decide) ?_
  refine R_lushr (pc := 6) (v := jlushr lo 8) dX8_joinFirst_6 rfl ?_
  refine R_callSp (pc := 7) (μ' := mX8_gathered) (As := [.long (jlushr lo 8)]) (st := []) dX8_joinFirst_7 zX8_gathered lX8_23 ⟨by decide, by decide⟩ rfl rfl ⟨by decide, by decide⟩ rfl (Nat.le_of_ble_eq_true rfl) (qX8_gathered l w _ _ _) ?_
  refine R_aload_n (pc := 10) 0 dX8_joinFirst_10 rfl rfl ?_
  refine R_get (pc := 11) dX8_joinFirst_11 fX8_20 ha (by omega) rfl ?_
  refine R_bipush (pc := 14) (v := 8) dX8_joinFirst_14 (by decide) ?_
  refine R_lushr (pc := 16) (v := jlushr hi 8) dX8_joinFirst_16 rfl ?_
  refine R_callSp (pc := 17) (μ' := mX8_gathered) (As := [.long (jlushr hi 8)]) (st := [.long (vX8_gathered (jlushr lo 8))]) dX8_joinFirst_17 zX8_gathered lX8_23 ⟨by decide, by decide⟩ rfl rfl ⟨by decide, by decide⟩ rfl (Nat.le_of_ble_eq_true rfl) (qX8_gathered l w _ _ _) ?_
  refine R_bipush (pc := 20) (v := 32) dX8_joinFirst_20 (by decide) ?_
  refine R_lshl (pc := 22) (v := jlshl (vX8_gathered (jlushr hi 8)) 32) dX8_joinFirst_22 rfl ?_
  refine R_lor (pc := 23) dX8_joinFirst_23 ?_
  refine R_topl (fun v_1 ev_1 => ?_)
  refine R_callSp (pc := 24) (μ' := mX8_turned) (As := [.long v_1]) (st := []) dX8_joinFirst_24 zX8_turned lX8_7 ⟨by decide, by decide⟩ rfl rfl ⟨by decide, by decide⟩ rfl (Nat.le_of_ble_eq_true rfl) (qX8_turned l w _ _ _) ?_
  exact R_lreturn (pc := 27) dX8_joinFirst_27 rfl (by decide) (by decide) ⟨rfl, rfl, by subst ev_1; rfl⟩
def vX8_joinSecond (lo hi : Int64) : Int64 := let v_1 := (vX8_gathered lo) ||| (jlshl (vX8_gathered hi) 32); vX8_turned v_1
set_option maxHeartbeats 4000000 in
set_option maxRecDepth 100000 in
theorem qX8_joinSecond (l : Launch) (w : am_W) (h : am_H) (n a : Nat) (lo hi : Int64) (ha : h a = .inr (.inr (8, [.long lo, .long hi]))) (hn : 0 < a ∧ a ≤ n) : RP l w mX8_joinSecond h n [.ref a] (.long (vX8_joinSecond lo hi)) := by
  refine RC.of [(0, .ref a)] (by decide +kernel) rfl (Nat.le_of_ble_eq_true rfl) ?_
  refine R_aload_n (pc := 0) 0 dX8_joinSecond_0 rfl rfl ?_
  refine R_get (pc := 1) dX8_joinSecond_1 fX8_16 ha (by omega) rfl ?_
  refine R_callSp (pc := 4) (μ' := mX8_gathered) (As := [.long lo]) (st := []) dX8_joinSecond_4 zX8_gathered lX8_23 ⟨by decide, by decide⟩ rfl rfl ⟨by decide, by decide⟩ rfl (Nat.le_of_ble_eq_true rfl) (qX8_gathered l w _ _ _) ?_
  refine R_aload_n (pc := 7) 0 dX8_joinSecond_7 rfl rfl ?_
  refine R_get (pc := 8) dX8_joinSecond_8 fX8_20 ha (by omega) rfl ?_
  refine R_callSp (pc := 11) (μ' := mX8_gathered) (As := [.long hi]) (st := [.long (vX8_gathered lo)]) dX8_joinSecond_11 zX8_gathered lX8_23 ⟨by decide, by decide⟩ rfl rfl ⟨by decide, by decide⟩ rfl (Nat.le_of_ble_eq_true rfl) (qX8_gathered l w _ _ _) ?_
  refine R_bipush (pc := 14) (v := 32) dX8_joinSecond_14 (by decide) ?_
  refine R_lshl (pc := 16) (v := jlshl (vX8_gathered hi) 32) dX8_joinSecond_16 rfl ?_
  refine R_lor (pc := 17) dX8_joinSecond_17 ?_
  refine R_topl (fun v_1 ev_1 => ?_)
  refine R_callSp (pc := 18) (μ' := mX8_turned) (As := [.long v_1]) (st := []) dX8_joinSecond_18 zX8_turned lX8_7 ⟨by decide, by decide⟩ rfl rfl ⟨by decide, by decide⟩ rfl (Nat.le_of_ble_eq_true rfl) (qX8_turned l w _ _ _) ?_
  exact R_lreturn (pc := 21) dX8_joinSecond_21 rfl (by decide) (by decide) ⟨rfl, rfl, by subst ev_1; rfl⟩
