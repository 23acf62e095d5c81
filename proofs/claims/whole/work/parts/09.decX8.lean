theorem dX8_init_0 : decode cX8_init 0 = .ok (.aload_n 0, 1) := by decide +kernel
theorem dX8_init_1 : decode cX8_init 1 = .ok (.invokespecial 1, 3) := by decide +kernel
theorem dX8_init_4 : decode cX8_init 4 = .ok (.return_, 1) := by decide +kernel
theorem dX8_split_0 : decode cX8_split 0 = .ok (.lload_n 1, 1) := by decide +kernel
theorem dX8_split_1 : decode cX8_split 1 = .ok (.invokestatic 7, 3) := by decide +kernel
theorem dX8_split_4 : decode cX8_split 4 = .ok (.lstore 5, 2) := by decide +kernel
theorem dX8_split_6 : decode cX8_split 6 = .ok (.lload_n 3, 1) := by decide +kernel
theorem dX8_split_7 : decode cX8_split 7 = .ok (.invokestatic 7, 3) := by decide +kernel
theorem dX8_split_10 : decode cX8_split 10 = .ok (.lstore 7, 2) := by decide +kernel
theorem dX8_split_12 : decode cX8_split 12 = .ok (.aload_n 0, 1) := by decide +kernel
theorem dX8_split_13 : decode cX8_split 13 = .ok (.lload 5, 2) := by decide +kernel
theorem dX8_split_15 : decode cX8_split 15 = .ok (.invokestatic 13, 3) := by decide +kernel
theorem dX8_split_18 : decode cX8_split 18 = .ok (.bipush 8, 2) := by decide +kernel
theorem dX8_split_20 : decode cX8_split 20 = .ok (.lshl, 1) := by decide +kernel
theorem dX8_split_21 : decode cX8_split 21 = .ok (.lload 7, 2) := by decide +kernel
theorem dX8_split_23 : decode cX8_split 23 = .ok (.invokestatic 13, 3) := by decide +kernel
theorem dX8_split_26 : decode cX8_split 26 = .ok (.lor, 1) := by decide +kernel
theorem dX8_split_27 : decode cX8_split 27 = .ok (.putfield 16, 3) := by decide +kernel
theorem dX8_split_30 : decode cX8_split 30 = .ok (.aload_n 0, 1) := by decide +kernel
theorem dX8_split_31 : decode cX8_split 31 = .ok (.lload 5, 2) := by decide +kernel
theorem dX8_split_33 : decode cX8_split 33 = .ok (.bipush 32, 2) := by decide +kernel
theorem dX8_split_35 : decode cX8_split 35 = .ok (.lushr, 1) := by decide +kernel
theorem dX8_split_36 : decode cX8_split 36 = .ok (.invokestatic 13, 3) := by decide +kernel
theorem dX8_split_39 : decode cX8_split 39 = .ok (.bipush 8, 2) := by decide +kernel
theorem dX8_split_41 : decode cX8_split 41 = .ok (.lshl, 1) := by decide +kernel
theorem dX8_split_42 : decode cX8_split 42 = .ok (.lload 7, 2) := by decide +kernel
theorem dX8_split_44 : decode cX8_split 44 = .ok (.bipush 32, 2) := by decide +kernel
theorem dX8_split_46 : decode cX8_split 46 = .ok (.lushr, 1) := by decide +kernel
theorem dX8_split_47 : decode cX8_split 47 = .ok (.invokestatic 13, 3) := by decide +kernel
theorem dX8_split_50 : decode cX8_split 50 = .ok (.lor, 1) := by decide +kernel
theorem dX8_split_51 : decode cX8_split 51 = .ok (.putfield 20, 3) := by decide +kernel
theorem dX8_split_54 : decode cX8_split 54 = .ok (.return_, 1) := by decide +kernel
theorem dX8_joinFirst_0 : decode cX8_joinFirst 0 = .ok (.aload_n 0, 1) := by decide +kernel
theorem dX8_joinFirst_1 : decode cX8_joinFirst 1 = .ok (.getfield 16, 3) := by decide +kernel
theorem dX8_joinFirst_4 : decode cX8_joinFirst 4 = .ok (.bipush 8, 2) := by decide +kernel
theorem dX8_joinFirst_6 : decode cX8_joinFirst 6 = .ok (.lushr, 1) := by decide +kernel
theorem dX8_joinFirst_7 : decode cX8_joinFirst 7 = .ok (.invokestatic 23, 3) := by decide +kernel
theorem dX8_joinFirst_10 : decode cX8_joinFirst 10 = .ok (.aload_n 0, 1) := by decide +kernel
theorem dX8_joinFirst_11 : decode cX8_joinFirst 11 = .ok (.getfield 20, 3) := by decide +kernel
theorem dX8_joinFirst_14 : decode cX8_joinFirst 14 = .ok (.bipush 8, 2) := by decide +kernel
theorem dX8_joinFirst_16 : decode cX8_joinFirst 16 = .ok (.lushr, 1) := by decide +kernel
theorem dX8_joinFirst_17 : decode cX8_joinFirst 17 = .ok (.invokestatic 23, 3) := by decide +kernel
theorem dX8_joinFirst_20 : decode cX8_joinFirst 20 = .ok (.bipush 32, 2) := by decide +kernel
theorem dX8_joinFirst_22 : decode cX8_joinFirst 22 = .ok (.lshl, 1) := by decide +kernel
theorem dX8_joinFirst_23 : decode cX8_joinFirst 23 = .ok (.lor, 1) := by decide +kernel
theorem dX8_joinFirst_24 : decode cX8_joinFirst 24 = .ok (.invokestatic 7, 3) := by decide +kernel
theorem dX8_joinFirst_27 : decode cX8_joinFirst 27 = .ok (.lreturn, 1) := by decide +kernel
theorem dX8_joinSecond_0 : decode cX8_joinSecond 0 = .ok (.aload_n 0, 1) := by decide +kernel
theorem dX8_joinSecond_1 : decode cX8_joinSecond 1 = .ok (.getfield 16, 3) := by decide +kernel
theorem dX8_joinSecond_4 : decode cX8_joinSecond 4 = .ok (.invokestatic 23, 3) := by decide +kernel
theorem dX8_joinSecond_7 : decode cX8_joinSecond 7 = .ok (.aload_n 0, 1) := by decide +kernel
theorem dX8_joinSecond_8 : decode cX8_joinSecond 8 = .ok (.getfield 20, 3) := by decide +kernel
theorem dX8_joinSecond_11 : decode cX8_joinSecond 11 = .ok (.invokestatic 23, 3) := by decide +kernel
theorem dX8_joinSecond_14 : decode cX8_joinSecond 14 = .ok (.bipush 32, 2) := by decide +kernel
theorem dX8_joinSecond_16 : decode cX8_joinSecond 16 = .ok (.lshl, 1) := by decide +kernel
theorem dX8_joinSecond_17 : decode cX8_joinSecond 17 = .ok (.lor, 1) := by decide +kernel
theorem dX8_joinSecond_18 : decode cX8_joinSecond 18 = .ok (.invokestatic 7, 3) := by decide +kernel
theorem dX8_joinSecond_21 : decode cX8_joinSecond 21 = .ok (.lreturn, 1) := by decide +kernel
theorem dX8_turned_0 : decode cX8_turned 0 = .ok (.lload_n 0, 1) := by decide +kernel
theorem dX8_turned_1 : decode cX8_turned 1 = .ok (.lload_n 0, 1) := by decide +kernel
theorem dX8_turned_2 : decode cX8_turned 2 = .ok (.bipush 7, 2) := by decide +kernel
theorem dX8_turned_4 : decode cX8_turned 4 = .ok (.lushr, 1) := by decide +kernel
theorem dX8_turned_5 : decode cX8_turned 5 = .ok (.lxor, 1) := by decide +kernel
theorem dX8_turned_6 : decode cX8_turned 6 = .ok (.ldc2_w 26, 3) := by decide +kernel
theorem dX8_turned_9 : decode cX8_turned 9 = .ok (.land, 1) := by decide +kernel
theorem dX8_turned_10 : decode cX8_turned 10 = .ok (.lstore_n 2, 1) := by decide +kernel
theorem dX8_turned_11 : decode cX8_turned 11 = .ok (.lload_n 0, 1) := by decide +kernel
theorem dX8_turned_12 : decode cX8_turned 12 = .ok (.lload_n 2, 1) := by decide +kernel
theorem dX8_turned_13 : decode cX8_turned 13 = .ok (.lxor, 1) := by decide +kernel
theorem dX8_turned_14 : decode cX8_turned 14 = .ok (.lload_n 2, 1) := by decide +kernel
theorem dX8_turned_15 : decode cX8_turned 15 = .ok (.bipush 7, 2) := by decide +kernel
theorem dX8_turned_17 : decode cX8_turned 17 = .ok (.lshl, 1) := by decide +kernel
theorem dX8_turned_18 : decode cX8_turned 18 = .ok (.lxor, 1) := by decide +kernel
theorem dX8_turned_19 : decode cX8_turned 19 = .ok (.lstore 4, 2) := by decide +kernel
theorem dX8_turned_21 : decode cX8_turned 21 = .ok (.lload 4, 2) := by decide +kernel
theorem dX8_turned_23 : decode cX8_turned 23 = .ok (.lload 4, 2) := by decide +kernel
theorem dX8_turned_25 : decode cX8_turned 25 = .ok (.bipush 14, 2) := by decide +kernel
theorem dX8_turned_27 : decode cX8_turned 27 = .ok (.lushr, 1) := by decide +kernel
theorem dX8_turned_28 : decode cX8_turned 28 = .ok (.lxor, 1) := by decide +kernel
theorem dX8_turned_29 : decode cX8_turned 29 = .ok (.ldc2_w 28, 3) := by decide +kernel
theorem dX8_turned_32 : decode cX8_turned 32 = .ok (.land, 1) := by decide +kernel
theorem dX8_turned_33 : decode cX8_turned 33 = .ok (.lstore_n 2, 1) := by decide +kernel
theorem dX8_turned_34 : decode cX8_turned 34 = .ok (.lload 4, 2) := by decide +kernel
theorem dX8_turned_36 : decode cX8_turned 36 = .ok (.lload_n 2, 1) := by decide +kernel
theorem dX8_turned_37 : decode cX8_turned 37 = .ok (.lxor, 1) := by decide +kernel
theorem dX8_turned_38 : decode cX8_turned 38 = .ok (.lload_n 2, 1) := by decide +kernel
theorem dX8_turned_39 : decode cX8_turned 39 = .ok (.bipush 14, 2) := by decide +kernel
theorem dX8_turned_41 : decode cX8_turned 41 = .ok (.lshl, 1) := by decide +kernel
theorem dX8_turned_42 : decode cX8_turned 42 = .ok (.lxor, 1) := by decide +kernel
theorem dX8_turned_43 : decode cX8_turned 43 = .ok (.lstore 4, 2) := by decide +kernel
theorem dX8_turned_45 : decode cX8_turned 45 = .ok (.lload 4, 2) := by decide +kernel
theorem dX8_turned_47 : decode cX8_turned 47 = .ok (.lload 4, 2) := by decide +kernel
theorem dX8_turned_49 : decode cX8_turned 49 = .ok (.bipush 28, 2) := by decide +kernel
theorem dX8_turned_51 : decode cX8_turned 51 = .ok (.lushr, 1) := by decide +kernel
theorem dX8_turned_52 : decode cX8_turned 52 = .ok (.lxor, 1) := by decide +kernel
theorem dX8_turned_53 : decode cX8_turned 53 = .ok (.ldc2_w 30, 3) := by decide +kernel
theorem dX8_turned_56 : decode cX8_turned 56 = .ok (.land, 1) := by decide +kernel
theorem dX8_turned_57 : decode cX8_turned 57 = .ok (.lstore_n 2, 1) := by decide +kernel
theorem dX8_turned_58 : decode cX8_turned 58 = .ok (.lload 4, 2) := by decide +kernel
theorem dX8_turned_60 : decode cX8_turned 60 = .ok (.lload_n 2, 1) := by decide +kernel
theorem dX8_turned_61 : decode cX8_turned 61 = .ok (.lxor, 1) := by decide +kernel
theorem dX8_turned_62 : decode cX8_turned 62 = .ok (.lload_n 2, 1) := by decide +kernel
theorem dX8_turned_63 : decode cX8_turned 63 = .ok (.bipush 28, 2) := by decide +kernel
theorem dX8_turned_65 : decode cX8_turned 65 = .ok (.lshl, 1) := by decide +kernel
theorem dX8_turned_66 : decode cX8_turned 66 = .ok (.lxor, 1) := by decide +kernel
theorem dX8_turned_67 : decode cX8_turned 67 = .ok (.lreturn, 1) := by decide +kernel
theorem dX8_spread_0 : decode cX8_spread 0 = .ok (.lload_n 0, 1) := by decide +kernel
theorem dX8_spread_1 : decode cX8_spread 1 = .ok (.ldc2_w 32, 3) := by decide +kernel
theorem dX8_spread_4 : decode cX8_spread 4 = .ok (.land, 1) := by decide +kernel
theorem dX8_spread_5 : decode cX8_spread 5 = .ok (.bipush 16, 2) := by decide +kernel
theorem dX8_spread_7 : decode cX8_spread 7 = .ok (.lshl, 1) := by decide +kernel
theorem dX8_spread_8 : decode cX8_spread 8 = .ok (.lload_n 0, 1) := by decide +kernel
theorem dX8_spread_9 : decode cX8_spread 9 = .ok (.ldc2_w 34, 3) := by decide +kernel
theorem dX8_spread_12 : decode cX8_spread 12 = .ok (.land, 1) := by decide +kernel
theorem dX8_spread_13 : decode cX8_spread 13 = .ok (.lor, 1) := by decide +kernel
theorem dX8_spread_14 : decode cX8_spread 14 = .ok (.lstore_n 2, 1) := by decide +kernel
theorem dX8_spread_15 : decode cX8_spread 15 = .ok (.lload_n 2, 1) := by decide +kernel
theorem dX8_spread_16 : decode cX8_spread 16 = .ok (.ldc2_w 36, 3) := by decide +kernel
theorem dX8_spread_19 : decode cX8_spread 19 = .ok (.land, 1) := by decide +kernel
theorem dX8_spread_20 : decode cX8_spread 20 = .ok (.bipush 8, 2) := by decide +kernel
theorem dX8_spread_22 : decode cX8_spread 22 = .ok (.lshl, 1) := by decide +kernel
theorem dX8_spread_23 : decode cX8_spread 23 = .ok (.lload_n 2, 1) := by decide +kernel
theorem dX8_spread_24 : decode cX8_spread 24 = .ok (.ldc2_w 38, 3) := by decide +kernel
theorem dX8_spread_27 : decode cX8_spread 27 = .ok (.land, 1) := by decide +kernel
theorem dX8_spread_28 : decode cX8_spread 28 = .ok (.lor, 1) := by decide +kernel
theorem dX8_spread_29 : decode cX8_spread 29 = .ok (.lreturn, 1) := by decide +kernel
theorem dX8_gathered_0 : decode cX8_gathered 0 = .ok (.lload_n 0, 1) := by decide +kernel
theorem dX8_gathered_1 : decode cX8_gathered 1 = .ok (.ldc2_w 40, 3) := by decide +kernel
theorem dX8_gathered_4 : decode cX8_gathered 4 = .ok (.land, 1) := by decide +kernel
theorem dX8_gathered_5 : decode cX8_gathered 5 = .ok (.lstore_n 2, 1) := by decide +kernel
theorem dX8_gathered_6 : decode cX8_gathered 6 = .ok (.lload_n 2, 1) := by decide +kernel
theorem dX8_gathered_7 : decode cX8_gathered 7 = .ok (.lload_n 2, 1) := by decide +kernel
theorem dX8_gathered_8 : decode cX8_gathered 8 = .ok (.bipush 8, 2) := by decide +kernel
theorem dX8_gathered_10 : decode cX8_gathered 10 = .ok (.lushr, 1) := by decide +kernel
theorem dX8_gathered_11 : decode cX8_gathered 11 = .ok (.lor, 1) := by decide +kernel
theorem dX8_gathered_12 : decode cX8_gathered 12 = .ok (.ldc2_w 42, 3) := by decide +kernel
theorem dX8_gathered_15 : decode cX8_gathered 15 = .ok (.land, 1) := by decide +kernel
theorem dX8_gathered_16 : decode cX8_gathered 16 = .ok (.lstore_n 2, 1) := by decide +kernel
theorem dX8_gathered_17 : decode cX8_gathered 17 = .ok (.lload_n 2, 1) := by decide +kernel
theorem dX8_gathered_18 : decode cX8_gathered 18 = .ok (.lload_n 2, 1) := by decide +kernel
theorem dX8_gathered_19 : decode cX8_gathered 19 = .ok (.bipush 16, 2) := by decide +kernel
theorem dX8_gathered_21 : decode cX8_gathered 21 = .ok (.lushr, 1) := by decide +kernel
theorem dX8_gathered_22 : decode cX8_gathered 22 = .ok (.lor, 1) := by decide +kernel
theorem dX8_gathered_23 : decode cX8_gathered 23 = .ok (.ldc2_w 44, 3) := by decide +kernel
theorem dX8_gathered_26 : decode cX8_gathered 26 = .ok (.land, 1) := by decide +kernel
theorem dX8_gathered_27 : decode cX8_gathered 27 = .ok (.lreturn, 1) := by decide +kernel
theorem dX8_addKey_0 : decode cX8_addKey 0 = .ok (.iconst 2, 1) := by decide +kernel
theorem dX8_addKey_1 : decode cX8_addKey 1 = .ok (.iload_n 2, 1) := by decide +kernel
theorem dX8_addKey_2 : decode cX8_addKey 2 = .ok (.imul, 1) := by decide +kernel
theorem dX8_addKey_3 : decode cX8_addKey 3 = .ok (.istore_n 3, 1) := by decide +kernel
theorem dX8_addKey_4 : decode cX8_addKey 4 = .ok (.iload_n 3, 1) := by decide +kernel
theorem dX8_addKey_5 : decode cX8_addKey 5 = .ok (.ifCond .lt 37, 3) := by decide +kernel
theorem dX8_addKey_8 : decode cX8_addKey 8 = .ok (.iload_n 3, 1) := by decide +kernel
theorem dX8_addKey_9 : decode cX8_addKey 9 = .ok (.iconst 1, 1) := by decide +kernel
theorem dX8_addKey_10 : decode cX8_addKey 10 = .ok (.iadd, 1) := by decide +kernel
theorem dX8_addKey_11 : decode cX8_addKey 11 = .ok (.aload_n 1, 1) := by decide +kernel
theorem dX8_addKey_12 : decode cX8_addKey 12 = .ok (.arraylength, 1) := by decide +kernel
theorem dX8_addKey_13 : decode cX8_addKey 13 = .ok (.if_icmp .ge 29, 3) := by decide +kernel
theorem dX8_addKey_16 : decode cX8_addKey 16 = .ok (.aload_n 0, 1) := by decide +kernel
theorem dX8_addKey_17 : decode cX8_addKey 17 = .ok (.dup, 1) := by decide +kernel
theorem dX8_addKey_18 : decode cX8_addKey 18 = .ok (.getfield 16, 3) := by decide +kernel
theorem dX8_addKey_21 : decode cX8_addKey 21 = .ok (.aload_n 1, 1) := by decide +kernel
theorem dX8_addKey_22 : decode cX8_addKey 22 = .ok (.iload_n 3, 1) := by decide +kernel
theorem dX8_addKey_23 : decode cX8_addKey 23 = .ok (.laload, 1) := by decide +kernel
theorem dX8_addKey_24 : decode cX8_addKey 24 = .ok (.lxor, 1) := by decide +kernel
theorem dX8_addKey_25 : decode cX8_addKey 25 = .ok (.putfield 16, 3) := by decide +kernel
theorem dX8_addKey_28 : decode cX8_addKey 28 = .ok (.aload_n 0, 1) := by decide +kernel
theorem dX8_addKey_29 : decode cX8_addKey 29 = .ok (.dup, 1) := by decide +kernel
theorem dX8_addKey_30 : decode cX8_addKey 30 = .ok (.getfield 20, 3) := by decide +kernel
theorem dX8_addKey_33 : decode cX8_addKey 33 = .ok (.aload_n 1, 1) := by decide +kernel
theorem dX8_addKey_34 : decode cX8_addKey 34 = .ok (.iload_n 3, 1) := by decide +kernel
theorem dX8_addKey_35 : decode cX8_addKey 35 = .ok (.iconst 1, 1) := by decide +kernel
theorem dX8_addKey_36 : decode cX8_addKey 36 = .ok (.iadd, 1) := by decide +kernel
theorem dX8_addKey_37 : decode cX8_addKey 37 = .ok (.laload, 1) := by decide +kernel
theorem dX8_addKey_38 : decode cX8_addKey 38 = .ok (.lxor, 1) := by decide +kernel
theorem dX8_addKey_39 : decode cX8_addKey 39 = .ok (.putfield 20, 3) := by decide +kernel
theorem dX8_addKey_42 : decode cX8_addKey 42 = .ok (.return_, 1) := by decide +kernel
theorem dX8_shiftRows_0 : decode cX8_shiftRows 0 = .ok (.aload_n 0, 1) := by decide +kernel
theorem dX8_shiftRows_1 : decode cX8_shiftRows 1 = .ok (.aload_n 0, 1) := by decide +kernel
theorem dX8_shiftRows_2 : decode cX8_shiftRows 2 = .ok (.getfield 16, 3) := by decide +kernel
theorem dX8_shiftRows_5 : decode cX8_shiftRows 5 = .ok (.invokestatic 46, 3) := by decide +kernel
theorem dX8_shiftRows_8 : decode cX8_shiftRows 8 = .ok (.putfield 16, 3) := by decide +kernel
theorem dX8_shiftRows_11 : decode cX8_shiftRows 11 = .ok (.aload_n 0, 1) := by decide +kernel
theorem dX8_shiftRows_12 : decode cX8_shiftRows 12 = .ok (.aload_n 0, 1) := by decide +kernel
theorem dX8_shiftRows_13 : decode cX8_shiftRows 13 = .ok (.getfield 20, 3) := by decide +kernel
theorem dX8_shiftRows_16 : decode cX8_shiftRows 16 = .ok (.invokestatic 46, 3) := by decide +kernel
theorem dX8_shiftRows_19 : decode cX8_shiftRows 19 = .ok (.putfield 20, 3) := by decide +kernel
theorem dX8_shiftRows_22 : decode cX8_shiftRows 22 = .ok (.return_, 1) := by decide +kernel
theorem dX8_shiftRowsBack_0 : decode cX8_shiftRowsBack 0 = .ok (.aload_n 0, 1) := by decide +kernel
theorem dX8_shiftRowsBack_1 : decode cX8_shiftRowsBack 1 = .ok (.aload_n 0, 1) := by decide +kernel
theorem dX8_shiftRowsBack_2 : decode cX8_shiftRowsBack 2 = .ok (.getfield 16, 3) := by decide +kernel
theorem dX8_shiftRowsBack_5 : decode cX8_shiftRowsBack 5 = .ok (.invokestatic 49, 3) := by decide +kernel
theorem dX8_shiftRowsBack_8 : decode cX8_shiftRowsBack 8 = .ok (.putfield 16, 3) := by decide +kernel
theorem dX8_shiftRowsBack_11 : decode cX8_shiftRowsBack 11 = .ok (.aload_n 0, 1) := by decide +kernel
theorem dX8_shiftRowsBack_12 : decode cX8_shiftRowsBack 12 = .ok (.aload_n 0, 1) := by decide +kernel
theorem dX8_shiftRowsBack_13 : decode cX8_shiftRowsBack 13 = .ok (.getfield 20, 3) := by decide +kernel
theorem dX8_shiftRowsBack_16 : decode cX8_shiftRowsBack 16 = .ok (.invokestatic 49, 3) := by decide +kernel
theorem dX8_shiftRowsBack_19 : decode cX8_shiftRowsBack 19 = .ok (.putfield 20, 3) := by decide +kernel
theorem dX8_shiftRowsBack_22 : decode cX8_shiftRowsBack 22 = .ok (.return_, 1) := by decide +kernel
theorem dX8_shifted_0 : decode cX8_shifted 0 = .ok (.lload_n 0, 1) := by decide +kernel
theorem dX8_shifted_1 : decode cX8_shifted 1 = .ok (.ldc2_w 52, 3) := by decide +kernel
theorem dX8_shifted_4 : decode cX8_shifted 4 = .ok (.land, 1) := by decide +kernel
theorem dX8_shifted_5 : decode cX8_shifted 5 = .ok (.lload_n 0, 1) := by decide +kernel
theorem dX8_shifted_6 : decode cX8_shifted 6 = .ok (.iconst 4, 1) := by decide +kernel
theorem dX8_shifted_7 : decode cX8_shifted 7 = .ok (.lshl, 1) := by decide +kernel
theorem dX8_shifted_8 : decode cX8_shifted 8 = .ok (.ldc2_w 54, 3) := by decide +kernel
theorem dX8_shifted_11 : decode cX8_shifted 11 = .ok (.land, 1) := by decide +kernel
theorem dX8_shifted_12 : decode cX8_shifted 12 = .ok (.lor, 1) := by decide +kernel
theorem dX8_shifted_13 : decode cX8_shifted 13 = .ok (.lload_n 0, 1) := by decide +kernel
theorem dX8_shifted_14 : decode cX8_shifted 14 = .ok (.bipush 12, 2) := by decide +kernel
theorem dX8_shifted_16 : decode cX8_shifted 16 = .ok (.lushr, 1) := by decide +kernel
theorem dX8_shifted_17 : decode cX8_shifted 17 = .ok (.ldc2_w 56, 3) := by decide +kernel
theorem dX8_shifted_20 : decode cX8_shifted 20 = .ok (.land, 1) := by decide +kernel
theorem dX8_shifted_21 : decode cX8_shifted 21 = .ok (.lor, 1) := by decide +kernel
theorem dX8_shifted_22 : decode cX8_shifted 22 = .ok (.lload_n 0, 1) := by decide +kernel
theorem dX8_shifted_23 : decode cX8_shifted 23 = .ok (.bipush 8, 2) := by decide +kernel
theorem dX8_shifted_25 : decode cX8_shifted 25 = .ok (.lshl, 1) := by decide +kernel
theorem dX8_shifted_26 : decode cX8_shifted 26 = .ok (.ldc2_w 58, 3) := by decide +kernel
theorem dX8_shifted_29 : decode cX8_shifted 29 = .ok (.land, 1) := by decide +kernel
theorem dX8_shifted_30 : decode cX8_shifted 30 = .ok (.lor, 1) := by decide +kernel
theorem dX8_shifted_31 : decode cX8_shifted 31 = .ok (.lload_n 0, 1) := by decide +kernel
theorem dX8_shifted_32 : decode cX8_shifted 32 = .ok (.bipush 8, 2) := by decide +kernel
theorem dX8_shifted_34 : decode cX8_shifted 34 = .ok (.lushr, 1) := by decide +kernel
theorem dX8_shifted_35 : decode cX8_shifted 35 = .ok (.ldc2_w 60, 3) := by decide +kernel
theorem dX8_shifted_38 : decode cX8_shifted 38 = .ok (.land, 1) := by decide +kernel
theorem dX8_shifted_39 : decode cX8_shifted 39 = .ok (.lor, 1) := by decide +kernel
theorem dX8_shifted_40 : decode cX8_shifted 40 = .ok (.lload_n 0, 1) := by decide +kernel
theorem dX8_shifted_41 : decode cX8_shifted 41 = .ok (.bipush 12, 2) := by decide +kernel
theorem dX8_shifted_43 : decode cX8_shifted 43 = .ok (.lshl, 1) := by decide +kernel
theorem dX8_shifted_44 : decode cX8_shifted 44 = .ok (.ldc2_w 62, 3) := by decide +kernel
theorem dX8_shifted_47 : decode cX8_shifted 47 = .ok (.land, 1) := by decide +kernel
theorem dX8_shifted_48 : decode cX8_shifted 48 = .ok (.lor, 1) := by decide +kernel
theorem dX8_shifted_49 : decode cX8_shifted 49 = .ok (.lload_n 0, 1) := by decide +kernel
theorem dX8_shifted_50 : decode cX8_shifted 50 = .ok (.iconst 4, 1) := by decide +kernel
theorem dX8_shifted_51 : decode cX8_shifted 51 = .ok (.lushr, 1) := by decide +kernel
theorem dX8_shifted_52 : decode cX8_shifted 52 = .ok (.ldc2_w 64, 3) := by decide +kernel
theorem dX8_shifted_55 : decode cX8_shifted 55 = .ok (.land, 1) := by decide +kernel
theorem dX8_shifted_56 : decode cX8_shifted 56 = .ok (.lor, 1) := by decide +kernel
theorem dX8_shifted_57 : decode cX8_shifted 57 = .ok (.lreturn, 1) := by decide +kernel
theorem dX8_shiftedBack_0 : decode cX8_shiftedBack 0 = .ok (.lload_n 0, 1) := by decide +kernel
theorem dX8_shiftedBack_1 : decode cX8_shiftedBack 1 = .ok (.ldc2_w 52, 3) := by decide +kernel
theorem dX8_shiftedBack_4 : decode cX8_shiftedBack 4 = .ok (.land, 1) := by decide +kernel
theorem dX8_shiftedBack_5 : decode cX8_shiftedBack 5 = .ok (.lload_n 0, 1) := by decide +kernel
theorem dX8_shiftedBack_6 : decode cX8_shiftedBack 6 = .ok (.iconst 4, 1) := by decide +kernel
theorem dX8_shiftedBack_7 : decode cX8_shiftedBack 7 = .ok (.lushr, 1) := by decide +kernel
theorem dX8_shiftedBack_8 : decode cX8_shiftedBack 8 = .ok (.ldc2_w 66, 3) := by decide +kernel
theorem dX8_shiftedBack_11 : decode cX8_shiftedBack 11 = .ok (.land, 1) := by decide +kernel
theorem dX8_shiftedBack_12 : decode cX8_shiftedBack 12 = .ok (.lor, 1) := by decide +kernel
theorem dX8_shiftedBack_13 : decode cX8_shiftedBack 13 = .ok (.lload_n 0, 1) := by decide +kernel
theorem dX8_shiftedBack_14 : decode cX8_shiftedBack 14 = .ok (.bipush 12, 2) := by decide +kernel
theorem dX8_shiftedBack_16 : decode cX8_shiftedBack 16 = .ok (.lshl, 1) := by decide +kernel
theorem dX8_shiftedBack_17 : decode cX8_shiftedBack 17 = .ok (.ldc2_w 68, 3) := by decide +kernel
theorem dX8_shiftedBack_20 : decode cX8_shiftedBack 20 = .ok (.land, 1) := by decide +kernel
theorem dX8_shiftedBack_21 : decode cX8_shiftedBack 21 = .ok (.lor, 1) := by decide +kernel
theorem dX8_shiftedBack_22 : decode cX8_shiftedBack 22 = .ok (.lload_n 0, 1) := by decide +kernel
theorem dX8_shiftedBack_23 : decode cX8_shiftedBack 23 = .ok (.bipush 8, 2) := by decide +kernel
theorem dX8_shiftedBack_25 : decode cX8_shiftedBack 25 = .ok (.lushr, 1) := by decide +kernel
theorem dX8_shiftedBack_26 : decode cX8_shiftedBack 26 = .ok (.ldc2_w 60, 3) := by decide +kernel
theorem dX8_shiftedBack_29 : decode cX8_shiftedBack 29 = .ok (.land, 1) := by decide +kernel
theorem dX8_shiftedBack_30 : decode cX8_shiftedBack 30 = .ok (.lor, 1) := by decide +kernel
theorem dX8_shiftedBack_31 : decode cX8_shiftedBack 31 = .ok (.lload_n 0, 1) := by decide +kernel
theorem dX8_shiftedBack_32 : decode cX8_shiftedBack 32 = .ok (.bipush 8, 2) := by decide +kernel
theorem dX8_shiftedBack_34 : decode cX8_shiftedBack 34 = .ok (.lshl, 1) := by decide +kernel
theorem dX8_shiftedBack_35 : decode cX8_shiftedBack 35 = .ok (.ldc2_w 58, 3) := by decide +kernel
theorem dX8_shiftedBack_38 : decode cX8_shiftedBack 38 = .ok (.land, 1) := by decide +kernel
theorem dX8_shiftedBack_39 : decode cX8_shiftedBack 39 = .ok (.lor, 1) := by decide +kernel
theorem dX8_shiftedBack_40 : decode cX8_shiftedBack 40 = .ok (.lload_n 0, 1) := by decide +kernel
theorem dX8_shiftedBack_41 : decode cX8_shiftedBack 41 = .ok (.bipush 12, 2) := by decide +kernel
theorem dX8_shiftedBack_43 : decode cX8_shiftedBack 43 = .ok (.lushr, 1) := by decide +kernel
theorem dX8_shiftedBack_44 : decode cX8_shiftedBack 44 = .ok (.ldc2_w 70, 3) := by decide +kernel
theorem dX8_shiftedBack_47 : decode cX8_shiftedBack 47 = .ok (.land, 1) := by decide +kernel
theorem dX8_shiftedBack_48 : decode cX8_shiftedBack 48 = .ok (.lor, 1) := by decide +kernel
theorem dX8_shiftedBack_49 : decode cX8_shiftedBack 49 = .ok (.lload_n 0, 1) := by decide +kernel
theorem dX8_shiftedBack_50 : decode cX8_shiftedBack 50 = .ok (.iconst 4, 1) := by decide +kernel
theorem dX8_shiftedBack_51 : decode cX8_shiftedBack 51 = .ok (.lshl, 1) := by decide +kernel
theorem dX8_shiftedBack_52 : decode cX8_shiftedBack 52 = .ok (.ldc2_w 72, 3) := by decide +kernel
theorem dX8_shiftedBack_55 : decode cX8_shiftedBack 55 = .ok (.land, 1) := by decide +kernel
theorem dX8_shiftedBack_56 : decode cX8_shiftedBack 56 = .ok (.lor, 1) := by decide +kernel
theorem dX8_shiftedBack_57 : decode cX8_shiftedBack 57 = .ok (.lreturn, 1) := by decide +kernel
theorem dX8_mixWords_0 : decode cX8_mixWords 0 = .ok (.aload_n 0, 1) := by decide +kernel
theorem dX8_mixWords_1 : decode cX8_mixWords 1 = .ok (.getfield 16, 3) := by decide +kernel
theorem dX8_mixWords_4 : decode cX8_mixWords 4 = .ok (.invokestatic 74, 3) := by decide +kernel
theorem dX8_mixWords_7 : decode cX8_mixWords 7 = .ok (.lstore_n 1, 1) := by decide +kernel
theorem dX8_mixWords_8 : decode cX8_mixWords 8 = .ok (.aload_n 0, 1) := by decide +kernel
theorem dX8_mixWords_9 : decode cX8_mixWords 9 = .ok (.getfield 20, 3) := by decide +kernel
theorem dX8_mixWords_12 : decode cX8_mixWords 12 = .ok (.invokestatic 74, 3) := by decide +kernel
theorem dX8_mixWords_15 : decode cX8_mixWords 15 = .ok (.lstore_n 3, 1) := by decide +kernel
theorem dX8_mixWords_16 : decode cX8_mixWords 16 = .ok (.aload_n 0, 1) := by decide +kernel
theorem dX8_mixWords_17 : decode cX8_mixWords 17 = .ok (.getfield 16, 3) := by decide +kernel
theorem dX8_mixWords_20 : decode cX8_mixWords 20 = .ok (.lload_n 1, 1) := by decide +kernel
theorem dX8_mixWords_21 : decode cX8_mixWords 21 = .ok (.lxor, 1) := by decide +kernel
theorem dX8_mixWords_22 : decode cX8_mixWords 22 = .ok (.lstore 5, 2) := by decide +kernel
theorem dX8_mixWords_24 : decode cX8_mixWords 24 = .ok (.aload_n 0, 1) := by decide +kernel
theorem dX8_mixWords_25 : decode cX8_mixWords 25 = .ok (.getfield 20, 3) := by decide +kernel
theorem dX8_mixWords_28 : decode cX8_mixWords 28 = .ok (.lload_n 3, 1) := by decide +kernel
theorem dX8_mixWords_29 : decode cX8_mixWords 29 = .ok (.lxor, 1) := by decide +kernel
theorem dX8_mixWords_30 : decode cX8_mixWords 30 = .ok (.lstore 7, 2) := by decide +kernel
theorem dX8_mixWords_32 : decode cX8_mixWords 32 = .ok (.lload 7, 2) := by decide +kernel
theorem dX8_mixWords_34 : decode cX8_mixWords 34 = .ok (.bipush 48, 2) := by decide +kernel
theorem dX8_mixWords_36 : decode cX8_mixWords 36 = .ok (.lushr, 1) := by decide +kernel
theorem dX8_mixWords_37 : decode cX8_mixWords 37 = .ok (.lstore 9, 2) := by decide +kernel
theorem dX8_mixWords_39 : decode cX8_mixWords 39 = .ok (.aload_n 0, 1) := by decide +kernel
theorem dX8_mixWords_40 : decode cX8_mixWords 40 = .ok (.lload 5, 2) := by decide +kernel
theorem dX8_mixWords_42 : decode cX8_mixWords 42 = .ok (.bipush 16, 2) := by decide +kernel
theorem dX8_mixWords_44 : decode cX8_mixWords 44 = .ok (.lshl, 1) := by decide +kernel
theorem dX8_mixWords_45 : decode cX8_mixWords 45 = .ok (.lload 9, 2) := by decide +kernel
theorem dX8_mixWords_47 : decode cX8_mixWords 47 = .ok (.ldc2_w 77, 3) := by decide +kernel
theorem dX8_mixWords_50 : decode cX8_mixWords 50 = .ok (.lmul, 1) := by decide +kernel
theorem dX8_mixWords_51 : decode cX8_mixWords 51 = .ok (.lxor, 1) := by decide +kernel
theorem dX8_mixWords_52 : decode cX8_mixWords 52 = .ok (.lload_n 1, 1) := by decide +kernel
theorem dX8_mixWords_53 : decode cX8_mixWords 53 = .ok (.lxor, 1) := by decide +kernel
theorem dX8_mixWords_54 : decode cX8_mixWords 54 = .ok (.lload 5, 2) := by decide +kernel
theorem dX8_mixWords_56 : decode cX8_mixWords 56 = .ok (.invokestatic 79, 3) := by decide +kernel
theorem dX8_mixWords_59 : decode cX8_mixWords 59 = .ok (.lxor, 1) := by decide +kernel
theorem dX8_mixWords_60 : decode cX8_mixWords 60 = .ok (.putfield 16, 3) := by decide +kernel
theorem dX8_mixWords_63 : decode cX8_mixWords 63 = .ok (.aload_n 0, 1) := by decide +kernel
theorem dX8_mixWords_64 : decode cX8_mixWords 64 = .ok (.lload 7, 2) := by decide +kernel
theorem dX8_mixWords_66 : decode cX8_mixWords 66 = .ok (.bipush 16, 2) := by decide +kernel
theorem dX8_mixWords_68 : decode cX8_mixWords 68 = .ok (.lshl, 1) := by decide +kernel
theorem dX8_mixWords_69 : decode cX8_mixWords 69 = .ok (.lload 5, 2) := by decide +kernel
theorem dX8_mixWords_71 : decode cX8_mixWords 71 = .ok (.bipush 48, 2) := by decide +kernel
theorem dX8_mixWords_73 : decode cX8_mixWords 73 = .ok (.lushr, 1) := by decide +kernel
theorem dX8_mixWords_74 : decode cX8_mixWords 74 = .ok (.lor, 1) := by decide +kernel
theorem dX8_mixWords_75 : decode cX8_mixWords 75 = .ok (.lload 9, 2) := by decide +kernel
theorem dX8_mixWords_77 : decode cX8_mixWords 77 = .ok (.lxor, 1) := by decide +kernel
theorem dX8_mixWords_78 : decode cX8_mixWords 78 = .ok (.lload_n 3, 1) := by decide +kernel
theorem dX8_mixWords_79 : decode cX8_mixWords 79 = .ok (.lxor, 1) := by decide +kernel
theorem dX8_mixWords_80 : decode cX8_mixWords 80 = .ok (.lload 7, 2) := by decide +kernel
theorem dX8_mixWords_82 : decode cX8_mixWords 82 = .ok (.invokestatic 79, 3) := by decide +kernel
theorem dX8_mixWords_85 : decode cX8_mixWords 85 = .ok (.lxor, 1) := by decide +kernel
theorem dX8_mixWords_86 : decode cX8_mixWords 86 = .ok (.putfield 20, 3) := by decide +kernel
theorem dX8_mixWords_89 : decode cX8_mixWords 89 = .ok (.return_, 1) := by decide +kernel
theorem dX8_nextOctets_0 : decode cX8_nextOctets 0 = .ok (.lload_n 0, 1) := by decide +kernel
theorem dX8_nextOctets_1 : decode cX8_nextOctets 1 = .ok (.iconst 1, 1) := by decide +kernel
theorem dX8_nextOctets_2 : decode cX8_nextOctets 2 = .ok (.lshl, 1) := by decide +kernel
theorem dX8_nextOctets_3 : decode cX8_nextOctets 3 = .ok (.ldc2_w 82, 3) := by decide +kernel
theorem dX8_nextOctets_6 : decode cX8_nextOctets 6 = .ok (.land, 1) := by decide +kernel
theorem dX8_nextOctets_7 : decode cX8_nextOctets 7 = .ok (.lload_n 0, 1) := by decide +kernel
theorem dX8_nextOctets_8 : decode cX8_nextOctets 8 = .ok (.iconst 3, 1) := by decide +kernel
theorem dX8_nextOctets_9 : decode cX8_nextOctets 9 = .ok (.lushr, 1) := by decide +kernel
theorem dX8_nextOctets_10 : decode cX8_nextOctets 10 = .ok (.ldc2_w 84, 3) := by decide +kernel
theorem dX8_nextOctets_13 : decode cX8_nextOctets 13 = .ok (.land, 1) := by decide +kernel
theorem dX8_nextOctets_14 : decode cX8_nextOctets 14 = .ok (.lor, 1) := by decide +kernel
theorem dX8_nextOctets_15 : decode cX8_nextOctets 15 = .ok (.lreturn, 1) := by decide +kernel
theorem dX8_acrossOctets_0 : decode cX8_acrossOctets 0 = .ok (.lload_n 0, 1) := by decide +kernel
theorem dX8_acrossOctets_1 : decode cX8_acrossOctets 1 = .ok (.iconst 2, 1) := by decide +kernel
theorem dX8_acrossOctets_2 : decode cX8_acrossOctets 2 = .ok (.lshl, 1) := by decide +kernel
theorem dX8_acrossOctets_3 : decode cX8_acrossOctets 3 = .ok (.ldc2_w 86, 3) := by decide +kernel
theorem dX8_acrossOctets_6 : decode cX8_acrossOctets 6 = .ok (.land, 1) := by decide +kernel
theorem dX8_acrossOctets_7 : decode cX8_acrossOctets 7 = .ok (.lload_n 0, 1) := by decide +kernel
theorem dX8_acrossOctets_8 : decode cX8_acrossOctets 8 = .ok (.iconst 2, 1) := by decide +kernel
theorem dX8_acrossOctets_9 : decode cX8_acrossOctets 9 = .ok (.lushr, 1) := by decide +kernel
theorem dX8_acrossOctets_10 : decode cX8_acrossOctets 10 = .ok (.ldc2_w 88, 3) := by decide +kernel
theorem dX8_acrossOctets_13 : decode cX8_acrossOctets 13 = .ok (.land, 1) := by decide +kernel
theorem dX8_acrossOctets_14 : decode cX8_acrossOctets 14 = .ok (.lor, 1) := by decide +kernel
theorem dX8_acrossOctets_15 : decode cX8_acrossOctets 15 = .ok (.lreturn, 1) := by decide +kernel
theorem dX8_boxBack_0 : decode cX8_boxBack 0 = .ok (.aload_n 0, 1) := by decide +kernel
theorem dX8_boxBack_1 : decode cX8_boxBack 1 = .ok (.invokevirtual 90, 3) := by decide +kernel
theorem dX8_boxBack_4 : decode cX8_boxBack 4 = .ok (.aload_n 0, 1) := by decide +kernel
theorem dX8_boxBack_5 : decode cX8_boxBack 5 = .ok (.invokevirtual 93, 3) := by decide +kernel
theorem dX8_boxBack_8 : decode cX8_boxBack 8 = .ok (.aload_n 0, 1) := by decide +kernel
theorem dX8_boxBack_9 : decode cX8_boxBack 9 = .ok (.invokevirtual 90, 3) := by decide +kernel
theorem dX8_boxBack_12 : decode cX8_boxBack 12 = .ok (.return_, 1) := by decide +kernel
theorem dX8_undoLinearEnd_0 : decode cX8_undoLinearEnd 0 = .ok (.aload_n 0, 1) := by decide +kernel
theorem dX8_undoLinearEnd_1 : decode cX8_undoLinearEnd 1 = .ok (.getfield 16, 3) := by decide +kernel
theorem dX8_undoLinearEnd_4 : decode cX8_undoLinearEnd 4 = .ok (.ldc2_w 44, 3) := by decide +kernel
theorem dX8_undoLinearEnd_7 : decode cX8_undoLinearEnd 7 = .ok (.lxor, 1) := by decide +kernel
theorem dX8_undoLinearEnd_8 : decode cX8_undoLinearEnd 8 = .ok (.lstore_n 1, 1) := by decide +kernel
theorem dX8_undoLinearEnd_9 : decode cX8_undoLinearEnd 9 = .ok (.aload_n 0, 1) := by decide +kernel
theorem dX8_undoLinearEnd_10 : decode cX8_undoLinearEnd 10 = .ok (.getfield 20, 3) := by decide +kernel
theorem dX8_undoLinearEnd_13 : decode cX8_undoLinearEnd 13 = .ok (.ldc2_w 96, 3) := by decide +kernel
theorem dX8_undoLinearEnd_16 : decode cX8_undoLinearEnd 16 = .ok (.lxor, 1) := by decide +kernel
theorem dX8_undoLinearEnd_17 : decode cX8_undoLinearEnd 17 = .ok (.lstore_n 3, 1) := by decide +kernel
theorem dX8_undoLinearEnd_18 : decode cX8_undoLinearEnd 18 = .ok (.aload_n 0, 1) := by decide +kernel
theorem dX8_undoLinearEnd_19 : decode cX8_undoLinearEnd 19 = .ok (.lload_n 1, 1) := by decide +kernel
theorem dX8_undoLinearEnd_20 : decode cX8_undoLinearEnd 20 = .ok (.bipush 32, 2) := by decide +kernel
theorem dX8_undoLinearEnd_22 : decode cX8_undoLinearEnd 22 = .ok (.lushr, 1) := by decide +kernel
theorem dX8_undoLinearEnd_23 : decode cX8_undoLinearEnd 23 = .ok (.lload_n 3, 1) := by decide +kernel
theorem dX8_undoLinearEnd_24 : decode cX8_undoLinearEnd 24 = .ok (.bipush 32, 2) := by decide +kernel
theorem dX8_undoLinearEnd_26 : decode cX8_undoLinearEnd 26 = .ok (.lshl, 1) := by decide +kernel
theorem dX8_undoLinearEnd_27 : decode cX8_undoLinearEnd 27 = .ok (.lor, 1) := by decide +kernel
theorem dX8_undoLinearEnd_28 : decode cX8_undoLinearEnd 28 = .ok (.lload_n 3, 1) := by decide +kernel
theorem dX8_undoLinearEnd_29 : decode cX8_undoLinearEnd 29 = .ok (.bipush 16, 2) := by decide +kernel
theorem dX8_undoLinearEnd_31 : decode cX8_undoLinearEnd 31 = .ok (.lushr, 1) := by decide +kernel
theorem dX8_undoLinearEnd_32 : decode cX8_undoLinearEnd 32 = .ok (.lload_n 1, 1) := by decide +kernel
theorem dX8_undoLinearEnd_33 : decode cX8_undoLinearEnd 33 = .ok (.bipush 48, 2) := by decide +kernel
theorem dX8_undoLinearEnd_35 : decode cX8_undoLinearEnd 35 = .ok (.lshl, 1) := by decide +kernel
theorem dX8_undoLinearEnd_36 : decode cX8_undoLinearEnd 36 = .ok (.lor, 1) := by decide +kernel
theorem dX8_undoLinearEnd_37 : decode cX8_undoLinearEnd 37 = .ok (.lxor, 1) := by decide +kernel
theorem dX8_undoLinearEnd_38 : decode cX8_undoLinearEnd 38 = .ok (.lload_n 3, 1) := by decide +kernel
theorem dX8_undoLinearEnd_39 : decode cX8_undoLinearEnd 39 = .ok (.bipush 48, 2) := by decide +kernel
theorem dX8_undoLinearEnd_41 : decode cX8_undoLinearEnd 41 = .ok (.lushr, 1) := by decide +kernel
theorem dX8_undoLinearEnd_42 : decode cX8_undoLinearEnd 42 = .ok (.lload_n 1, 1) := by decide +kernel
theorem dX8_undoLinearEnd_43 : decode cX8_undoLinearEnd 43 = .ok (.bipush 16, 2) := by decide +kernel
theorem dX8_undoLinearEnd_45 : decode cX8_undoLinearEnd 45 = .ok (.lshl, 1) := by decide +kernel
theorem dX8_undoLinearEnd_46 : decode cX8_undoLinearEnd 46 = .ok (.lor, 1) := by decide +kernel
theorem dX8_undoLinearEnd_47 : decode cX8_undoLinearEnd 47 = .ok (.lxor, 1) := by decide +kernel
theorem dX8_undoLinearEnd_48 : decode cX8_undoLinearEnd 48 = .ok (.putfield 16, 3) := by decide +kernel
theorem dX8_undoLinearEnd_51 : decode cX8_undoLinearEnd 51 = .ok (.aload_n 0, 1) := by decide +kernel
theorem dX8_undoLinearEnd_52 : decode cX8_undoLinearEnd 52 = .ok (.lload_n 3, 1) := by decide +kernel
theorem dX8_undoLinearEnd_53 : decode cX8_undoLinearEnd 53 = .ok (.bipush 32, 2) := by decide +kernel
theorem dX8_undoLinearEnd_55 : decode cX8_undoLinearEnd 55 = .ok (.lushr, 1) := by decide +kernel
theorem dX8_undoLinearEnd_56 : decode cX8_undoLinearEnd 56 = .ok (.lload_n 1, 1) := by decide +kernel
theorem dX8_undoLinearEnd_57 : decode cX8_undoLinearEnd 57 = .ok (.bipush 32, 2) := by decide +kernel
theorem dX8_undoLinearEnd_59 : decode cX8_undoLinearEnd 59 = .ok (.lshl, 1) := by decide +kernel
theorem dX8_undoLinearEnd_60 : decode cX8_undoLinearEnd 60 = .ok (.lor, 1) := by decide +kernel
theorem dX8_undoLinearEnd_61 : decode cX8_undoLinearEnd 61 = .ok (.lload_n 1, 1) := by decide +kernel
theorem dX8_undoLinearEnd_62 : decode cX8_undoLinearEnd 62 = .ok (.bipush 16, 2) := by decide +kernel
theorem dX8_undoLinearEnd_64 : decode cX8_undoLinearEnd 64 = .ok (.lushr, 1) := by decide +kernel
theorem dX8_undoLinearEnd_65 : decode cX8_undoLinearEnd 65 = .ok (.lload_n 3, 1) := by decide +kernel
theorem dX8_undoLinearEnd_66 : decode cX8_undoLinearEnd 66 = .ok (.bipush 48, 2) := by decide +kernel
theorem dX8_undoLinearEnd_68 : decode cX8_undoLinearEnd 68 = .ok (.lshl, 1) := by decide +kernel
theorem dX8_undoLinearEnd_69 : decode cX8_undoLinearEnd 69 = .ok (.lor, 1) := by decide +kernel
theorem dX8_undoLinearEnd_70 : decode cX8_undoLinearEnd 70 = .ok (.lxor, 1) := by decide +kernel
theorem dX8_undoLinearEnd_71 : decode cX8_undoLinearEnd 71 = .ok (.lload_n 1, 1) := by decide +kernel
theorem dX8_undoLinearEnd_72 : decode cX8_undoLinearEnd 72 = .ok (.bipush 48, 2) := by decide +kernel
theorem dX8_undoLinearEnd_74 : decode cX8_undoLinearEnd 74 = .ok (.lushr, 1) := by decide +kernel
theorem dX8_undoLinearEnd_75 : decode cX8_undoLinearEnd 75 = .ok (.lload_n 3, 1) := by decide +kernel
theorem dX8_undoLinearEnd_76 : decode cX8_undoLinearEnd 76 = .ok (.bipush 16, 2) := by decide +kernel
theorem dX8_undoLinearEnd_78 : decode cX8_undoLinearEnd 78 = .ok (.lshl, 1) := by decide +kernel
theorem dX8_undoLinearEnd_79 : decode cX8_undoLinearEnd 79 = .ok (.lor, 1) := by decide +kernel
theorem dX8_undoLinearEnd_80 : decode cX8_undoLinearEnd 80 = .ok (.lxor, 1) := by decide +kernel
theorem dX8_undoLinearEnd_81 : decode cX8_undoLinearEnd 81 = .ok (.putfield 20, 3) := by decide +kernel
theorem dX8_undoLinearEnd_84 : decode cX8_undoLinearEnd 84 = .ok (.return_, 1) := by decide +kernel
theorem dX8_box_0 : decode cX8_box 0 = .ok (.aload_n 0, 1) := by decide +kernel
theorem dX8_box_1 : decode cX8_box 1 = .ok (.getfield 16, 3) := by decide +kernel
theorem dX8_box_4 : decode cX8_box 4 = .ok (.l2i, 1) := by decide +kernel
theorem dX8_box_5 : decode cX8_box 5 = .ok (.ldc 98, 2) := by decide +kernel
theorem dX8_box_7 : decode cX8_box 7 = .ok (.iand, 1) := by decide +kernel
theorem dX8_box_8 : decode cX8_box 8 = .ok (.istore_n 1, 1) := by decide +kernel
theorem dX8_box_9 : decode cX8_box 9 = .ok (.aload_n 0, 1) := by decide +kernel
theorem dX8_box_10 : decode cX8_box 10 = .ok (.getfield 16, 3) := by decide +kernel
theorem dX8_box_13 : decode cX8_box 13 = .ok (.bipush 16, 2) := by decide +kernel
theorem dX8_box_15 : decode cX8_box 15 = .ok (.lushr, 1) := by decide +kernel
theorem dX8_box_16 : decode cX8_box 16 = .ok (.l2i, 1) := by decide +kernel
theorem dX8_box_17 : decode cX8_box 17 = .ok (.ldc 98, 2) := by decide +kernel
theorem dX8_box_19 : decode cX8_box 19 = .ok (.iand, 1) := by decide +kernel
theorem dX8_box_20 : decode cX8_box 20 = .ok (.istore_n 2, 1) := by decide +kernel
theorem dX8_box_21 : decode cX8_box 21 = .ok (.aload_n 0, 1) := by decide +kernel
theorem dX8_box_22 : decode cX8_box 22 = .ok (.getfield 16, 3) := by decide +kernel
theorem dX8_box_25 : decode cX8_box 25 = .ok (.bipush 32, 2) := by decide +kernel
theorem dX8_box_27 : decode cX8_box 27 = .ok (.lushr, 1) := by decide +kernel
theorem dX8_box_28 : decode cX8_box 28 = .ok (.l2i, 1) := by decide +kernel
theorem dX8_box_29 : decode cX8_box 29 = .ok (.ldc 98, 2) := by decide +kernel
theorem dX8_box_31 : decode cX8_box 31 = .ok (.iand, 1) := by decide +kernel
theorem dX8_box_32 : decode cX8_box 32 = .ok (.istore_n 3, 1) := by decide +kernel
theorem dX8_box_33 : decode cX8_box 33 = .ok (.aload_n 0, 1) := by decide +kernel
theorem dX8_box_34 : decode cX8_box 34 = .ok (.getfield 16, 3) := by decide +kernel
theorem dX8_box_37 : decode cX8_box 37 = .ok (.bipush 48, 2) := by decide +kernel
theorem dX8_box_39 : decode cX8_box 39 = .ok (.lushr, 1) := by decide +kernel
theorem dX8_box_40 : decode cX8_box 40 = .ok (.l2i, 1) := by decide +kernel
theorem dX8_box_41 : decode cX8_box 41 = .ok (.istore 4, 2) := by decide +kernel
theorem dX8_box_43 : decode cX8_box 43 = .ok (.aload_n 0, 1) := by decide +kernel
theorem dX8_box_44 : decode cX8_box 44 = .ok (.getfield 20, 3) := by decide +kernel
theorem dX8_box_47 : decode cX8_box 47 = .ok (.l2i, 1) := by decide +kernel
theorem dX8_box_48 : decode cX8_box 48 = .ok (.ldc 98, 2) := by decide +kernel
theorem dX8_box_50 : decode cX8_box 50 = .ok (.iand, 1) := by decide +kernel
theorem dX8_box_51 : decode cX8_box 51 = .ok (.istore 5, 2) := by decide +kernel
theorem dX8_box_53 : decode cX8_box 53 = .ok (.aload_n 0, 1) := by decide +kernel
theorem dX8_box_54 : decode cX8_box 54 = .ok (.getfield 20, 3) := by decide +kernel
theorem dX8_box_57 : decode cX8_box 57 = .ok (.bipush 16, 2) := by decide +kernel
theorem dX8_box_59 : decode cX8_box 59 = .ok (.lushr, 1) := by decide +kernel
theorem dX8_box_60 : decode cX8_box 60 = .ok (.l2i, 1) := by decide +kernel
theorem dX8_box_61 : decode cX8_box 61 = .ok (.ldc 98, 2) := by decide +kernel
theorem dX8_box_63 : decode cX8_box 63 = .ok (.iand, 1) := by decide +kernel
theorem dX8_box_64 : decode cX8_box 64 = .ok (.istore 6, 2) := by decide +kernel
theorem dX8_box_66 : decode cX8_box 66 = .ok (.aload_n 0, 1) := by decide +kernel
theorem dX8_box_67 : decode cX8_box 67 = .ok (.getfield 20, 3) := by decide +kernel
theorem dX8_box_70 : decode cX8_box 70 = .ok (.bipush 32, 2) := by decide +kernel
theorem dX8_box_72 : decode cX8_box 72 = .ok (.lushr, 1) := by decide +kernel
theorem dX8_box_73 : decode cX8_box 73 = .ok (.l2i, 1) := by decide +kernel
theorem dX8_box_74 : decode cX8_box 74 = .ok (.ldc 98, 2) := by decide +kernel
theorem dX8_box_76 : decode cX8_box 76 = .ok (.iand, 1) := by decide +kernel
theorem dX8_box_77 : decode cX8_box 77 = .ok (.istore 7, 2) := by decide +kernel
theorem dX8_box_79 : decode cX8_box 79 = .ok (.aload_n 0, 1) := by decide +kernel
theorem dX8_box_80 : decode cX8_box 80 = .ok (.getfield 20, 3) := by decide +kernel
theorem dX8_box_83 : decode cX8_box 83 = .ok (.bipush 48, 2) := by decide +kernel
theorem dX8_box_85 : decode cX8_box 85 = .ok (.lushr, 1) := by decide +kernel
theorem dX8_box_86 : decode cX8_box 86 = .ok (.l2i, 1) := by decide +kernel
theorem dX8_box_87 : decode cX8_box 87 = .ok (.istore 8, 2) := by decide +kernel
theorem dX8_box_89 : decode cX8_box 89 = .ok (.iload 5, 2) := by decide +kernel
theorem dX8_box_91 : decode cX8_box 91 = .ok (.iload_n 3, 1) := by decide +kernel
theorem dX8_box_92 : decode cX8_box 92 = .ok (.ixor, 1) := by decide +kernel
theorem dX8_box_93 : decode cX8_box 93 = .ok (.istore 9, 2) := by decide +kernel
theorem dX8_box_95 : decode cX8_box 95 = .ok (.iload 8, 2) := by decide +kernel
theorem dX8_box_97 : decode cX8_box 97 = .ok (.iload_n 2, 1) := by decide +kernel
theorem dX8_box_98 : decode cX8_box 98 = .ok (.ixor, 1) := by decide +kernel
theorem dX8_box_99 : decode cX8_box 99 = .ok (.istore 10, 2) := by decide +kernel
theorem dX8_box_101 : decode cX8_box 101 = .ok (.iload 8, 2) := by decide +kernel
theorem dX8_box_103 : decode cX8_box 103 = .ok (.iload 5, 2) := by decide +kernel
theorem dX8_box_105 : decode cX8_box 105 = .ok (.ixor, 1) := by decide +kernel
theorem dX8_box_106 : decode cX8_box 106 = .ok (.istore 11, 2) := by decide +kernel
theorem dX8_box_108 : decode cX8_box 108 = .ok (.iload 8, 2) := by decide +kernel
theorem dX8_box_110 : decode cX8_box 110 = .ok (.iload_n 3, 1) := by decide +kernel
theorem dX8_box_111 : decode cX8_box 111 = .ok (.ixor, 1) := by decide +kernel
theorem dX8_box_112 : decode cX8_box 112 = .ok (.istore 12, 2) := by decide +kernel
theorem dX8_box_114 : decode cX8_box 114 = .ok (.iload 7, 2) := by decide +kernel
theorem dX8_box_116 : decode cX8_box 116 = .ok (.iload 6, 2) := by decide +kernel
theorem dX8_box_118 : decode cX8_box 118 = .ok (.ixor, 1) := by decide +kernel
theorem dX8_box_119 : decode cX8_box 119 = .ok (.istore 13, 2) := by decide +kernel
theorem dX8_box_121 : decode cX8_box 121 = .ok (.iload 13, 2) := by decide +kernel
theorem dX8_box_123 : decode cX8_box 123 = .ok (.iload_n 1, 1) := by decide +kernel
theorem dX8_box_124 : decode cX8_box 124 = .ok (.ixor, 1) := by decide +kernel
theorem dX8_box_125 : decode cX8_box 125 = .ok (.istore 14, 2) := by decide +kernel
theorem dX8_box_127 : decode cX8_box 127 = .ok (.iload 14, 2) := by decide +kernel
theorem dX8_box_129 : decode cX8_box 129 = .ok (.iload 5, 2) := by decide +kernel
theorem dX8_box_131 : decode cX8_box 131 = .ok (.ixor, 1) := by decide +kernel
theorem dX8_box_132 : decode cX8_box 132 = .ok (.istore 15, 2) := by decide +kernel
theorem dX8_box_134 : decode cX8_box 134 = .ok (.iload 10, 2) := by decide +kernel
theorem dX8_box_136 : decode cX8_box 136 = .ok (.iload 9, 2) := by decide +kernel
theorem dX8_box_138 : decode cX8_box 138 = .ok (.ixor, 1) := by decide +kernel
theorem dX8_box_139 : decode cX8_box 139 = .ok (.istore 16, 2) := by decide +kernel
theorem dX8_box_141 : decode cX8_box 141 = .ok (.iload 14, 2) := by decide +kernel
theorem dX8_box_143 : decode cX8_box 143 = .ok (.iload 8, 2) := by decide +kernel
theorem dX8_box_145 : decode cX8_box 145 = .ok (.ixor, 1) := by decide +kernel
theorem dX8_box_146 : decode cX8_box 146 = .ok (.istore 17, 2) := by decide +kernel
theorem dX8_box_148 : decode cX8_box 148 = .ok (.iload 14, 2) := by decide +kernel
theorem dX8_box_150 : decode cX8_box 150 = .ok (.iload_n 2, 1) := by decide +kernel
theorem dX8_box_151 : decode cX8_box 151 = .ok (.ixor, 1) := by decide +kernel
theorem dX8_box_152 : decode cX8_box 152 = .ok (.istore 18, 2) := by decide +kernel
theorem dX8_box_154 : decode cX8_box 154 = .ok (.iload 18, 2) := by decide +kernel
theorem dX8_box_156 : decode cX8_box 156 = .ok (.iload 12, 2) := by decide +kernel
theorem dX8_box_158 : decode cX8_box 158 = .ok (.ixor, 1) := by decide +kernel
theorem dX8_box_159 : decode cX8_box 159 = .ok (.istore 19, 2) := by decide +kernel
theorem dX8_box_161 : decode cX8_box 161 = .ok (.iload 4, 2) := by decide +kernel
theorem dX8_box_163 : decode cX8_box 163 = .ok (.iload 16, 2) := by decide +kernel
theorem dX8_box_165 : decode cX8_box 165 = .ok (.ixor, 1) := by decide +kernel
theorem dX8_box_166 : decode cX8_box 166 = .ok (.istore 20, 2) := by decide +kernel
theorem dX8_box_168 : decode cX8_box 168 = .ok (.iload 20, 2) := by decide +kernel
theorem dX8_box_170 : decode cX8_box 170 = .ok (.iload_n 3, 1) := by decide +kernel
theorem dX8_box_171 : decode cX8_box 171 = .ok (.ixor, 1) := by decide +kernel
theorem dX8_box_172 : decode cX8_box 172 = .ok (.istore 21, 2) := by decide +kernel
theorem dX8_box_174 : decode cX8_box 174 = .ok (.iload 20, 2) := by decide +kernel
theorem dX8_box_176 : decode cX8_box 176 = .ok (.iload 7, 2) := by decide +kernel
theorem dX8_box_178 : decode cX8_box 178 = .ok (.ixor, 1) := by decide +kernel
theorem dX8_box_179 : decode cX8_box 179 = .ok (.istore 22, 2) := by decide +kernel
theorem dX8_box_181 : decode cX8_box 181 = .ok (.iload 21, 2) := by decide +kernel
theorem dX8_box_183 : decode cX8_box 183 = .ok (.iload_n 1, 1) := by decide +kernel
theorem dX8_box_184 : decode cX8_box 184 = .ok (.ixor, 1) := by decide +kernel
theorem dX8_box_185 : decode cX8_box 185 = .ok (.istore 23, 2) := by decide +kernel
theorem dX8_box_187 : decode cX8_box 187 = .ok (.iload 21, 2) := by decide +kernel
theorem dX8_box_189 : decode cX8_box 189 = .ok (.iload 13, 2) := by decide +kernel
theorem dX8_box_191 : decode cX8_box 191 = .ok (.ixor, 1) := by decide +kernel
theorem dX8_box_192 : decode cX8_box 192 = .ok (.istore 24, 2) := by decide +kernel
theorem dX8_box_194 : decode cX8_box 194 = .ok (.iload 22, 2) := by decide +kernel
theorem dX8_box_196 : decode cX8_box 196 = .ok (.iload 11, 2) := by decide +kernel
theorem dX8_box_198 : decode cX8_box 198 = .ok (.ixor, 1) := by decide +kernel
theorem dX8_box_199 : decode cX8_box 199 = .ok (.istore 25, 2) := by decide +kernel
theorem dX8_box_201 : decode cX8_box 201 = .ok (.iload_n 1, 1) := by decide +kernel
theorem dX8_box_202 : decode cX8_box 202 = .ok (.iload 25, 2) := by decide +kernel
theorem dX8_box_204 : decode cX8_box 204 = .ok (.ixor, 1) := by decide +kernel
theorem dX8_box_205 : decode cX8_box 205 = .ok (.istore 26, 2) := by decide +kernel
theorem dX8_box_207 : decode cX8_box 207 = .ok (.iload 24, 2) := by decide +kernel
theorem dX8_box_209 : decode cX8_box 209 = .ok (.iload 25, 2) := by decide +kernel
theorem dX8_box_211 : decode cX8_box 211 = .ok (.ixor, 1) := by decide +kernel
theorem dX8_box_212 : decode cX8_box 212 = .ok (.istore 27, 2) := by decide +kernel
theorem dX8_box_214 : decode cX8_box 214 = .ok (.iload 24, 2) := by decide +kernel
theorem dX8_box_216 : decode cX8_box 216 = .ok (.iload 12, 2) := by decide +kernel
theorem dX8_box_218 : decode cX8_box 218 = .ok (.ixor, 1) := by decide +kernel
theorem dX8_box_219 : decode cX8_box 219 = .ok (.istore 28, 2) := by decide +kernel
theorem dX8_box_221 : decode cX8_box 221 = .ok (.iload 13, 2) := by decide +kernel
theorem dX8_box_223 : decode cX8_box 223 = .ok (.iload 25, 2) := by decide +kernel
theorem dX8_box_225 : decode cX8_box 225 = .ok (.ixor, 1) := by decide +kernel
theorem dX8_box_226 : decode cX8_box 226 = .ok (.istore 29, 2) := by decide +kernel
theorem dX8_box_228 : decode cX8_box 228 = .ok (.iload 10, 2) := by decide +kernel
theorem dX8_box_230 : decode cX8_box 230 = .ok (.iload 29, 2) := by decide +kernel
theorem dX8_box_232 : decode cX8_box 232 = .ok (.ixor, 1) := by decide +kernel
theorem dX8_box_233 : decode cX8_box 233 = .ok (.istore 30, 2) := by decide +kernel
theorem dX8_box_235 : decode cX8_box 235 = .ok (.iload 8, 2) := by decide +kernel
theorem dX8_box_237 : decode cX8_box 237 = .ok (.iload 29, 2) := by decide +kernel
theorem dX8_box_239 : decode cX8_box 239 = .ok (.ixor, 1) := by decide +kernel
theorem dX8_box_240 : decode cX8_box 240 = .ok (.istore 31, 2) := by decide +kernel
theorem dX8_box_242 : decode cX8_box 242 = .ok (.iload 16, 2) := by decide +kernel
theorem dX8_box_244 : decode cX8_box 244 = .ok (.iload 21, 2) := by decide +kernel
theorem dX8_box_246 : decode cX8_box 246 = .ok (.iand, 1) := by decide +kernel
theorem dX8_box_247 : decode cX8_box 247 = .ok (.istore 32, 2) := by decide +kernel
theorem dX8_box_249 : decode cX8_box 249 = .ok (.iload 19, 2) := by decide +kernel
theorem dX8_box_251 : decode cX8_box 251 = .ok (.iload 23, 2) := by decide +kernel
theorem dX8_box_253 : decode cX8_box 253 = .ok (.iand, 1) := by decide +kernel
theorem dX8_box_254 : decode cX8_box 254 = .ok (.iload 32, 2) := by decide +kernel
theorem dX8_box_256 : decode cX8_box 256 = .ok (.ixor, 1) := by decide +kernel
theorem dX8_box_257 : decode cX8_box 257 = .ok (.istore 33, 2) := by decide +kernel
theorem dX8_box_259 : decode cX8_box 259 = .ok (.iload 15, 2) := by decide +kernel
theorem dX8_box_261 : decode cX8_box 261 = .ok (.iload_n 1, 1) := by decide +kernel
theorem dX8_box_262 : decode cX8_box 262 = .ok (.iand, 1) := by decide +kernel
theorem dX8_box_263 : decode cX8_box 263 = .ok (.iload 32, 2) := by decide +kernel
theorem dX8_box_265 : decode cX8_box 265 = .ok (.ixor, 1) := by decide +kernel
theorem dX8_box_266 : decode cX8_box 266 = .ok (.istore 34, 2) := by decide +kernel
theorem dX8_box_268 : decode cX8_box 268 = .ok (.iload 10, 2) := by decide +kernel
theorem dX8_box_270 : decode cX8_box 270 = .ok (.iload 29, 2) := by decide +kernel
theorem dX8_box_272 : decode cX8_box 272 = .ok (.iand, 1) := by decide +kernel
theorem dX8_box_273 : decode cX8_box 273 = .ok (.istore 35, 2) := by decide +kernel
theorem dX8_box_275 : decode cX8_box 275 = .ok (.iload 18, 2) := by decide +kernel
theorem dX8_box_277 : decode cX8_box 277 = .ok (.iload 14, 2) := by decide +kernel
theorem dX8_box_279 : decode cX8_box 279 = .ok (.iand, 1) := by decide +kernel
theorem dX8_box_280 : decode cX8_box 280 = .ok (.iload 35, 2) := by decide +kernel
theorem dX8_box_282 : decode cX8_box 282 = .ok (.ixor, 1) := by decide +kernel
theorem dX8_box_283 : decode cX8_box 283 = .ok (.istore 36, 2) := by decide +kernel
theorem dX8_box_285 : decode cX8_box 285 = .ok (.iload 17, 2) := by decide +kernel
theorem dX8_box_287 : decode cX8_box 287 = .ok (.iload 26, 2) := by decide +kernel
theorem dX8_box_289 : decode cX8_box 289 = .ok (.iand, 1) := by decide +kernel
theorem dX8_box_290 : decode cX8_box 290 = .ok (.iload 35, 2) := by decide +kernel
theorem dX8_box_292 : decode cX8_box 292 = .ok (.ixor, 1) := by decide +kernel
theorem dX8_box_293 : decode cX8_box 293 = .ok (.istore 37, 2) := by decide +kernel
theorem dX8_box_295 : decode cX8_box 295 = .ok (.iload 11, 2) := by decide +kernel
theorem dX8_box_297 : decode cX8_box 297 = .ok (.iload 25, 2) := by decide +kernel
theorem dX8_box_299 : decode cX8_box 299 = .ok (.iand, 1) := by decide +kernel
theorem dX8_box_300 : decode cX8_box 300 = .ok (.istore 38, 2) := by decide +kernel
theorem dX8_box_302 : decode cX8_box 302 = .ok (.iload 9, 2) := by decide +kernel
theorem dX8_box_304 : decode cX8_box 304 = .ok (.iload 27, 2) := by decide +kernel
theorem dX8_box_306 : decode cX8_box 306 = .ok (.iand, 1) := by decide +kernel
theorem dX8_box_307 : decode cX8_box 307 = .ok (.iload 38, 2) := by decide +kernel
theorem dX8_box_309 : decode cX8_box 309 = .ok (.ixor, 1) := by decide +kernel
theorem dX8_box_310 : decode cX8_box 310 = .ok (.istore 39, 2) := by decide +kernel
theorem dX8_box_312 : decode cX8_box 312 = .ok (.iload 12, 2) := by decide +kernel
theorem dX8_box_314 : decode cX8_box 314 = .ok (.iload 24, 2) := by decide +kernel
theorem dX8_box_316 : decode cX8_box 316 = .ok (.iand, 1) := by decide +kernel
theorem dX8_box_317 : decode cX8_box 317 = .ok (.iload 38, 2) := by decide +kernel
theorem dX8_box_319 : decode cX8_box 319 = .ok (.ixor, 1) := by decide +kernel
theorem dX8_box_320 : decode cX8_box 320 = .ok (.istore 40, 2) := by decide +kernel
theorem dX8_box_322 : decode cX8_box 322 = .ok (.iload 33, 2) := by decide +kernel
theorem dX8_box_324 : decode cX8_box 324 = .ok (.iload 39, 2) := by decide +kernel
theorem dX8_box_326 : decode cX8_box 326 = .ok (.ixor, 1) := by decide +kernel
theorem dX8_box_327 : decode cX8_box 327 = .ok (.iload 22, 2) := by decide +kernel
theorem dX8_box_329 : decode cX8_box 329 = .ok (.ixor, 1) := by decide +kernel
theorem dX8_box_330 : decode cX8_box 330 = .ok (.istore 41, 2) := by decide +kernel
theorem dX8_box_332 : decode cX8_box 332 = .ok (.iload 34, 2) := by decide +kernel
theorem dX8_box_334 : decode cX8_box 334 = .ok (.iload 40, 2) := by decide +kernel
theorem dX8_box_336 : decode cX8_box 336 = .ok (.ixor, 1) := by decide +kernel
theorem dX8_box_337 : decode cX8_box 337 = .ok (.iload 28, 2) := by decide +kernel
theorem dX8_box_339 : decode cX8_box 339 = .ok (.ixor, 1) := by decide +kernel
theorem dX8_box_340 : decode cX8_box 340 = .ok (.istore 42, 2) := by decide +kernel
theorem dX8_box_342 : decode cX8_box 342 = .ok (.iload 36, 2) := by decide +kernel
theorem dX8_box_344 : decode cX8_box 344 = .ok (.iload 39, 2) := by decide +kernel
theorem dX8_box_346 : decode cX8_box 346 = .ok (.ixor, 1) := by decide +kernel
theorem dX8_box_347 : decode cX8_box 347 = .ok (.iload 30, 2) := by decide +kernel
theorem dX8_box_349 : decode cX8_box 349 = .ok (.ixor, 1) := by decide +kernel
theorem dX8_box_350 : decode cX8_box 350 = .ok (.istore 43, 2) := by decide +kernel
theorem dX8_box_352 : decode cX8_box 352 = .ok (.iload 37, 2) := by decide +kernel
theorem dX8_box_354 : decode cX8_box 354 = .ok (.iload 40, 2) := by decide +kernel
theorem dX8_box_356 : decode cX8_box 356 = .ok (.ixor, 1) := by decide +kernel
theorem dX8_box_357 : decode cX8_box 357 = .ok (.iload 31, 2) := by decide +kernel
theorem dX8_box_359 : decode cX8_box 359 = .ok (.ixor, 1) := by decide +kernel
theorem dX8_box_360 : decode cX8_box 360 = .ok (.istore 44, 2) := by decide +kernel
theorem dX8_box_362 : decode cX8_box 362 = .ok (.iload 41, 2) := by decide +kernel
theorem dX8_box_364 : decode cX8_box 364 = .ok (.iload 42, 2) := by decide +kernel
theorem dX8_box_366 : decode cX8_box 366 = .ok (.ixor, 1) := by decide +kernel
theorem dX8_box_367 : decode cX8_box 367 = .ok (.istore 45, 2) := by decide +kernel
theorem dX8_box_369 : decode cX8_box 369 = .ok (.iload 41, 2) := by decide +kernel
theorem dX8_box_371 : decode cX8_box 371 = .ok (.iload 43, 2) := by decide +kernel
theorem dX8_box_373 : decode cX8_box 373 = .ok (.iand, 1) := by decide +kernel
theorem dX8_box_374 : decode cX8_box 374 = .ok (.istore 46, 2) := by decide +kernel
theorem dX8_box_376 : decode cX8_box 376 = .ok (.iload 44, 2) := by decide +kernel
theorem dX8_box_378 : decode cX8_box 378 = .ok (.iload 46, 2) := by decide +kernel
theorem dX8_box_380 : decode cX8_box 380 = .ok (.ixor, 1) := by decide +kernel
theorem dX8_box_381 : decode cX8_box 381 = .ok (.istore 47, 2) := by decide +kernel
theorem dX8_box_383 : decode cX8_box 383 = .ok (.iload 45, 2) := by decide +kernel
theorem dX8_box_385 : decode cX8_box 385 = .ok (.iload 47, 2) := by decide +kernel
theorem dX8_box_387 : decode cX8_box 387 = .ok (.iand, 1) := by decide +kernel
theorem dX8_box_388 : decode cX8_box 388 = .ok (.iload 42, 2) := by decide +kernel
theorem dX8_box_390 : decode cX8_box 390 = .ok (.ixor, 1) := by decide +kernel
theorem dX8_box_391 : decode cX8_box 391 = .ok (.istore 48, 2) := by decide +kernel
theorem dX8_box_393 : decode cX8_box 393 = .ok (.iload 43, 2) := by decide +kernel
theorem dX8_box_395 : decode cX8_box 395 = .ok (.iload 44, 2) := by decide +kernel
theorem dX8_box_397 : decode cX8_box 397 = .ok (.ixor, 1) := by decide +kernel
theorem dX8_box_398 : decode cX8_box 398 = .ok (.istore 49, 2) := by decide +kernel
theorem dX8_box_400 : decode cX8_box 400 = .ok (.iload 42, 2) := by decide +kernel
theorem dX8_box_402 : decode cX8_box 402 = .ok (.iload 46, 2) := by decide +kernel
theorem dX8_box_404 : decode cX8_box 404 = .ok (.ixor, 1) := by decide +kernel
theorem dX8_box_405 : decode cX8_box 405 = .ok (.istore 50, 2) := by decide +kernel
theorem dX8_box_407 : decode cX8_box 407 = .ok (.iload 50, 2) := by decide +kernel
theorem dX8_box_409 : decode cX8_box 409 = .ok (.iload 49, 2) := by decide +kernel
theorem dX8_box_411 : decode cX8_box 411 = .ok (.iand, 1) := by decide +kernel
theorem dX8_box_412 : decode cX8_box 412 = .ok (.iload 44, 2) := by decide +kernel
theorem dX8_box_414 : decode cX8_box 414 = .ok (.ixor, 1) := by decide +kernel
theorem dX8_box_415 : decode cX8_box 415 = .ok (.istore 51, 2) := by decide +kernel
theorem dX8_box_417 : decode cX8_box 417 = .ok (.iload 43, 2) := by decide +kernel
theorem dX8_box_419 : decode cX8_box 419 = .ok (.iload 51, 2) := by decide +kernel
theorem dX8_box_421 : decode cX8_box 421 = .ok (.ixor, 1) := by decide +kernel
theorem dX8_box_422 : decode cX8_box 422 = .ok (.istore 52, 2) := by decide +kernel
theorem dX8_box_424 : decode cX8_box 424 = .ok (.iload 47, 2) := by decide +kernel
theorem dX8_box_426 : decode cX8_box 426 = .ok (.iload 51, 2) := by decide +kernel
theorem dX8_box_428 : decode cX8_box 428 = .ok (.ixor, 1) := by decide +kernel
theorem dX8_box_429 : decode cX8_box 429 = .ok (.istore 53, 2) := by decide +kernel
theorem dX8_box_431 : decode cX8_box 431 = .ok (.iload 44, 2) := by decide +kernel
theorem dX8_box_433 : decode cX8_box 433 = .ok (.iload 53, 2) := by decide +kernel
theorem dX8_box_435 : decode cX8_box 435 = .ok (.iand, 1) := by decide +kernel
theorem dX8_box_436 : decode cX8_box 436 = .ok (.istore 54, 2) := by decide +kernel
theorem dX8_box_438 : decode cX8_box 438 = .ok (.iload 54, 2) := by decide +kernel
theorem dX8_box_440 : decode cX8_box 440 = .ok (.iload 52, 2) := by decide +kernel
theorem dX8_box_442 : decode cX8_box 442 = .ok (.ixor, 1) := by decide +kernel
theorem dX8_box_443 : decode cX8_box 443 = .ok (.istore 55, 2) := by decide +kernel
theorem dX8_box_445 : decode cX8_box 445 = .ok (.iload 47, 2) := by decide +kernel
theorem dX8_box_447 : decode cX8_box 447 = .ok (.iload 54, 2) := by decide +kernel
theorem dX8_box_449 : decode cX8_box 449 = .ok (.ixor, 1) := by decide +kernel
theorem dX8_box_450 : decode cX8_box 450 = .ok (.istore 56, 2) := by decide +kernel
theorem dX8_box_452 : decode cX8_box 452 = .ok (.iload 45, 2) := by decide +kernel
theorem dX8_box_454 : decode cX8_box 454 = .ok (.iload 48, 2) := by decide +kernel
theorem dX8_box_456 : decode cX8_box 456 = .ok (.iload 56, 2) := by decide +kernel
theorem dX8_box_458 : decode cX8_box 458 = .ok (.iand, 1) := by decide +kernel
theorem dX8_box_459 : decode cX8_box 459 = .ok (.ixor, 1) := by decide +kernel
theorem dX8_box_460 : decode cX8_box 460 = .ok (.istore 57, 2) := by decide +kernel
theorem dX8_box_462 : decode cX8_box 462 = .ok (.iload 57, 2) := by decide +kernel
theorem dX8_box_464 : decode cX8_box 464 = .ok (.iload 55, 2) := by decide +kernel
theorem dX8_box_466 : decode cX8_box 466 = .ok (.ixor, 1) := by decide +kernel
theorem dX8_box_467 : decode cX8_box 467 = .ok (.istore 58, 2) := by decide +kernel
theorem dX8_box_469 : decode cX8_box 469 = .ok (.iload 48, 2) := by decide +kernel
theorem dX8_box_471 : decode cX8_box 471 = .ok (.iload 51, 2) := by decide +kernel
theorem dX8_box_473 : decode cX8_box 473 = .ok (.ixor, 1) := by decide +kernel
theorem dX8_box_474 : decode cX8_box 474 = .ok (.istore 59, 2) := by decide +kernel
theorem dX8_box_476 : decode cX8_box 476 = .ok (.iload 48, 2) := by decide +kernel
theorem dX8_box_478 : decode cX8_box 478 = .ok (.iload 57, 2) := by decide +kernel
theorem dX8_box_480 : decode cX8_box 480 = .ok (.ixor, 1) := by decide +kernel
theorem dX8_box_481 : decode cX8_box 481 = .ok (.istore 60, 2) := by decide +kernel
theorem dX8_box_483 : decode cX8_box 483 = .ok (.iload 51, 2) := by decide +kernel
theorem dX8_box_485 : decode cX8_box 485 = .ok (.iload 55, 2) := by decide +kernel
theorem dX8_box_487 : decode cX8_box 487 = .ok (.ixor, 1) := by decide +kernel
theorem dX8_box_488 : decode cX8_box 488 = .ok (.istore 61, 2) := by decide +kernel
theorem dX8_box_490 : decode cX8_box 490 = .ok (.iload 59, 2) := by decide +kernel
theorem dX8_box_492 : decode cX8_box 492 = .ok (.iload 58, 2) := by decide +kernel
theorem dX8_box_494 : decode cX8_box 494 = .ok (.ixor, 1) := by decide +kernel
theorem dX8_box_495 : decode cX8_box 495 = .ok (.istore 62, 2) := by decide +kernel
theorem dX8_box_497 : decode cX8_box 497 = .ok (.iload 61, 2) := by decide +kernel
theorem dX8_box_499 : decode cX8_box 499 = .ok (.iload 21, 2) := by decide +kernel
theorem dX8_box_501 : decode cX8_box 501 = .ok (.iand, 1) := by decide +kernel
theorem dX8_box_502 : decode cX8_box 502 = .ok (.istore 63, 2) := by decide +kernel
theorem dX8_box_504 : decode cX8_box 504 = .ok (.iload 55, 2) := by decide +kernel
theorem dX8_box_506 : decode cX8_box 506 = .ok (.iload 23, 2) := by decide +kernel
theorem dX8_box_508 : decode cX8_box 508 = .ok (.iand, 1) := by decide +kernel
theorem dX8_box_509 : decode cX8_box 509 = .ok (.istore 64, 2) := by decide +kernel
theorem dX8_box_511 : decode cX8_box 511 = .ok (.iload 51, 2) := by decide +kernel
theorem dX8_box_513 : decode cX8_box 513 = .ok (.iload_n 1, 1) := by decide +kernel
theorem dX8_box_514 : decode cX8_box 514 = .ok (.iand, 1) := by decide +kernel
theorem dX8_box_515 : decode cX8_box 515 = .ok (.istore 65, 2) := by decide +kernel
theorem dX8_box_517 : decode cX8_box 517 = .ok (.iload 60, 2) := by decide +kernel
theorem dX8_box_519 : decode cX8_box 519 = .ok (.iload 29, 2) := by decide +kernel
theorem dX8_box_521 : decode cX8_box 521 = .ok (.iand, 1) := by decide +kernel
theorem dX8_box_522 : decode cX8_box 522 = .ok (.istore 66, 2) := by decide +kernel
theorem dX8_box_524 : decode cX8_box 524 = .ok (.iload 57, 2) := by decide +kernel
theorem dX8_box_526 : decode cX8_box 526 = .ok (.iload 14, 2) := by decide +kernel
theorem dX8_box_528 : decode cX8_box 528 = .ok (.iand, 1) := by decide +kernel
theorem dX8_box_529 : decode cX8_box 529 = .ok (.istore 67, 2) := by decide +kernel
theorem dX8_box_531 : decode cX8_box 531 = .ok (.iload 48, 2) := by decide +kernel
theorem dX8_box_533 : decode cX8_box 533 = .ok (.iload 26, 2) := by decide +kernel
theorem dX8_box_535 : decode cX8_box 535 = .ok (.iand, 1) := by decide +kernel
theorem dX8_box_536 : decode cX8_box 536 = .ok (.istore 68, 2) := by decide +kernel
theorem dX8_box_538 : decode cX8_box 538 = .ok (.iload 59, 2) := by decide +kernel
theorem dX8_box_540 : decode cX8_box 540 = .ok (.iload 25, 2) := by decide +kernel
theorem dX8_box_542 : decode cX8_box 542 = .ok (.iand, 1) := by decide +kernel
theorem dX8_box_543 : decode cX8_box 543 = .ok (.istore 69, 2) := by decide +kernel
theorem dX8_box_545 : decode cX8_box 545 = .ok (.iload 62, 2) := by decide +kernel
theorem dX8_box_547 : decode cX8_box 547 = .ok (.iload 27, 2) := by decide +kernel
theorem dX8_box_549 : decode cX8_box 549 = .ok (.iand, 1) := by decide +kernel
theorem dX8_box_550 : decode cX8_box 550 = .ok (.istore 70, 2) := by decide +kernel
theorem dX8_box_552 : decode cX8_box 552 = .ok (.iload 58, 2) := by decide +kernel
theorem dX8_box_554 : decode cX8_box 554 = .ok (.iload 24, 2) := by decide +kernel
theorem dX8_box_556 : decode cX8_box 556 = .ok (.iand, 1) := by decide +kernel
theorem dX8_box_557 : decode cX8_box 557 = .ok (.istore 71, 2) := by decide +kernel
theorem dX8_box_559 : decode cX8_box 559 = .ok (.iload 61, 2) := by decide +kernel
theorem dX8_box_561 : decode cX8_box 561 = .ok (.iload 16, 2) := by decide +kernel
theorem dX8_box_563 : decode cX8_box 563 = .ok (.iand, 1) := by decide +kernel
theorem dX8_box_564 : decode cX8_box 564 = .ok (.istore 72, 2) := by decide +kernel
theorem dX8_box_566 : decode cX8_box 566 = .ok (.iload 55, 2) := by decide +kernel
theorem dX8_box_568 : decode cX8_box 568 = .ok (.iload 19, 2) := by decide +kernel
theorem dX8_box_570 : decode cX8_box 570 = .ok (.iand, 1) := by decide +kernel
theorem dX8_box_571 : decode cX8_box 571 = .ok (.istore 73, 2) := by decide +kernel
theorem dX8_box_573 : decode cX8_box 573 = .ok (.iload 51, 2) := by decide +kernel
theorem dX8_box_575 : decode cX8_box 575 = .ok (.iload 15, 2) := by decide +kernel
theorem dX8_box_577 : decode cX8_box 577 = .ok (.iand, 1) := by decide +kernel
theorem dX8_box_578 : decode cX8_box 578 = .ok (.istore 74, 2) := by decide +kernel
theorem dX8_box_580 : decode cX8_box 580 = .ok (.iload 60, 2) := by decide +kernel
theorem dX8_box_582 : decode cX8_box 582 = .ok (.iload 10, 2) := by decide +kernel
theorem dX8_box_584 : decode cX8_box 584 = .ok (.iand, 1) := by decide +kernel
theorem dX8_box_585 : decode cX8_box 585 = .ok (.istore 75, 2) := by decide +kernel
theorem dX8_box_587 : decode cX8_box 587 = .ok (.iload 57, 2) := by decide +kernel
theorem dX8_box_589 : decode cX8_box 589 = .ok (.iload 18, 2) := by decide +kernel
theorem dX8_box_591 : decode cX8_box 591 = .ok (.iand, 1) := by decide +kernel
theorem dX8_box_592 : decode cX8_box 592 = .ok (.istore 76, 2) := by decide +kernel
theorem dX8_box_594 : decode cX8_box 594 = .ok (.iload 48, 2) := by decide +kernel
theorem dX8_box_596 : decode cX8_box 596 = .ok (.iload 17, 2) := by decide +kernel
theorem dX8_box_598 : decode cX8_box 598 = .ok (.iand, 1) := by decide +kernel
theorem dX8_box_599 : decode cX8_box 599 = .ok (.istore 77, 2) := by decide +kernel
theorem dX8_box_601 : decode cX8_box 601 = .ok (.iload 59, 2) := by decide +kernel
theorem dX8_box_603 : decode cX8_box 603 = .ok (.iload 11, 2) := by decide +kernel
theorem dX8_box_605 : decode cX8_box 605 = .ok (.iand, 1) := by decide +kernel
theorem dX8_box_606 : decode cX8_box 606 = .ok (.istore 78, 2) := by decide +kernel
theorem dX8_box_608 : decode cX8_box 608 = .ok (.iload 62, 2) := by decide +kernel
theorem dX8_box_610 : decode cX8_box 610 = .ok (.iload 9, 2) := by decide +kernel
theorem dX8_box_612 : decode cX8_box 612 = .ok (.iand, 1) := by decide +kernel
theorem dX8_box_613 : decode cX8_box 613 = .ok (.istore 79, 2) := by decide +kernel
theorem dX8_box_615 : decode cX8_box 615 = .ok (.iload 58, 2) := by decide +kernel
theorem dX8_box_617 : decode cX8_box 617 = .ok (.iload 12, 2) := by decide +kernel
theorem dX8_box_619 : decode cX8_box 619 = .ok (.iand, 1) := by decide +kernel
theorem dX8_box_620 : decode cX8_box 620 = .ok (.istore 80, 2) := by decide +kernel
theorem dX8_box_622 : decode cX8_box 622 = .ok (.iload 78, 2) := by decide +kernel
theorem dX8_box_624 : decode cX8_box 624 = .ok (.iload 79, 2) := by decide +kernel
theorem dX8_box_626 : decode cX8_box 626 = .ok (.ixor, 1) := by decide +kernel
theorem dX8_box_627 : decode cX8_box 627 = .ok (.istore 81, 2) := by decide +kernel
theorem dX8_box_629 : decode cX8_box 629 = .ok (.iload 73, 2) := by decide +kernel
theorem dX8_box_631 : decode cX8_box 631 = .ok (.iload 74, 2) := by decide +kernel
theorem dX8_box_633 : decode cX8_box 633 = .ok (.ixor, 1) := by decide +kernel
theorem dX8_box_634 : decode cX8_box 634 = .ok (.istore 82, 2) := by decide +kernel
theorem dX8_box_636 : decode cX8_box 636 = .ok (.iload 68, 2) := by decide +kernel
theorem dX8_box_638 : decode cX8_box 638 = .ok (.iload 76, 2) := by decide +kernel
theorem dX8_box_640 : decode cX8_box 640 = .ok (.ixor, 1) := by decide +kernel
theorem dX8_box_641 : decode cX8_box 641 = .ok (.istore 83, 2) := by decide +kernel
theorem dX8_box_643 : decode cX8_box 643 = .ok (.iload 72, 2) := by decide +kernel
theorem dX8_box_645 : decode cX8_box 645 = .ok (.iload 73, 2) := by decide +kernel
theorem dX8_box_647 : decode cX8_box 647 = .ok (.ixor, 1) := by decide +kernel
theorem dX8_box_648 : decode cX8_box 648 = .ok (.istore 84, 2) := by decide +kernel
theorem dX8_box_650 : decode cX8_box 650 = .ok (.iload 65, 2) := by decide +kernel
theorem dX8_box_652 : decode cX8_box 652 = .ok (.iload 75, 2) := by decide +kernel
theorem dX8_box_654 : decode cX8_box 654 = .ok (.ixor, 1) := by decide +kernel
theorem dX8_box_655 : decode cX8_box 655 = .ok (.istore 85, 2) := by decide +kernel
theorem dX8_box_657 : decode cX8_box 657 = .ok (.iload 65, 2) := by decide +kernel
theorem dX8_box_659 : decode cX8_box 659 = .ok (.iload 68, 2) := by decide +kernel
theorem dX8_box_661 : decode cX8_box 661 = .ok (.ixor, 1) := by decide +kernel
theorem dX8_box_662 : decode cX8_box 662 = .ok (.istore 86, 2) := by decide +kernel
theorem dX8_box_664 : decode cX8_box 664 = .ok (.iload 70, 2) := by decide +kernel
theorem dX8_box_666 : decode cX8_box 666 = .ok (.iload 71, 2) := by decide +kernel
theorem dX8_box_668 : decode cX8_box 668 = .ok (.ixor, 1) := by decide +kernel
theorem dX8_box_669 : decode cX8_box 669 = .ok (.istore 87, 2) := by decide +kernel
theorem dX8_box_671 : decode cX8_box 671 = .ok (.iload 63, 2) := by decide +kernel
theorem dX8_box_673 : decode cX8_box 673 = .ok (.iload 66, 2) := by decide +kernel
theorem dX8_box_675 : decode cX8_box 675 = .ok (.ixor, 1) := by decide +kernel
theorem dX8_box_676 : decode cX8_box 676 = .ok (.istore 88, 2) := by decide +kernel
theorem dX8_box_678 : decode cX8_box 678 = .ok (.iload 69, 2) := by decide +kernel
theorem dX8_box_680 : decode cX8_box 680 = .ok (.iload 70, 2) := by decide +kernel
theorem dX8_box_682 : decode cX8_box 682 = .ok (.ixor, 1) := by decide +kernel
theorem dX8_box_683 : decode cX8_box 683 = .ok (.istore 89, 2) := by decide +kernel
theorem dX8_box_685 : decode cX8_box 685 = .ok (.iload 79, 2) := by decide +kernel
theorem dX8_box_687 : decode cX8_box 687 = .ok (.iload 80, 2) := by decide +kernel
theorem dX8_box_689 : decode cX8_box 689 = .ok (.ixor, 1) := by decide +kernel
theorem dX8_box_690 : decode cX8_box 690 = .ok (.istore 90, 2) := by decide +kernel
theorem dX8_box_692 : decode cX8_box 692 = .ok (.iload 75, 2) := by decide +kernel
theorem dX8_box_694 : decode cX8_box 694 = .ok (.iload 83, 2) := by decide +kernel
theorem dX8_box_696 : decode cX8_box 696 = .ok (.ixor, 1) := by decide +kernel
theorem dX8_box_697 : decode cX8_box 697 = .ok (.istore 91, 2) := by decide +kernel
theorem dX8_box_699 : decode cX8_box 699 = .ok (.iload 85, 2) := by decide +kernel
theorem dX8_box_701 : decode cX8_box 701 = .ok (.iload 88, 2) := by decide +kernel
theorem dX8_box_703 : decode cX8_box 703 = .ok (.ixor, 1) := by decide +kernel
theorem dX8_box_704 : decode cX8_box 704 = .ok (.istore 92, 2) := by decide +kernel
theorem dX8_box_706 : decode cX8_box 706 = .ok (.iload 67, 2) := by decide +kernel
theorem dX8_box_708 : decode cX8_box 708 = .ok (.iload 81, 2) := by decide +kernel
theorem dX8_box_710 : decode cX8_box 710 = .ok (.ixor, 1) := by decide +kernel
theorem dX8_box_711 : decode cX8_box 711 = .ok (.istore 93, 2) := by decide +kernel
theorem dX8_box_713 : decode cX8_box 713 = .ok (.iload 66, 2) := by decide +kernel
theorem dX8_box_715 : decode cX8_box 715 = .ok (.iload 89, 2) := by decide +kernel
theorem dX8_box_717 : decode cX8_box 717 = .ok (.ixor, 1) := by decide +kernel
theorem dX8_box_718 : decode cX8_box 718 = .ok (.istore 94, 2) := by decide +kernel
theorem dX8_box_720 : decode cX8_box 720 = .ok (.iload 81, 2) := by decide +kernel
theorem dX8_box_722 : decode cX8_box 722 = .ok (.iload 92, 2) := by decide +kernel
theorem dX8_box_724 : decode cX8_box 724 = .ok (.ixor, 1) := by decide +kernel
theorem dX8_box_725 : decode cX8_box 725 = .ok (.istore 95, 2) := by decide +kernel
theorem dX8_box_727 : decode cX8_box 727 = .ok (.iload 77, 2) := by decide +kernel
theorem dX8_box_729 : decode cX8_box 729 = .ok (.iload 92, 2) := by decide +kernel
theorem dX8_box_731 : decode cX8_box 731 = .ok (.ixor, 1) := by decide +kernel
theorem dX8_box_732 : decode cX8_box 732 = .ok (.istore 96, 2) := by decide +kernel
theorem dX8_box_734 : decode cX8_box 734 = .ok (.iload 87, 2) := by decide +kernel
theorem dX8_box_736 : decode cX8_box 736 = .ok (.iload 93, 2) := by decide +kernel
theorem dX8_box_738 : decode cX8_box 738 = .ok (.ixor, 1) := by decide +kernel
theorem dX8_box_739 : decode cX8_box 739 = .ok (.istore 97, 2) := by decide +kernel
theorem dX8_box_741 : decode cX8_box 741 = .ok (.iload 84, 2) := by decide +kernel
theorem dX8_box_743 : decode cX8_box 743 = .ok (.iload 93, 2) := by decide +kernel
theorem dX8_box_745 : decode cX8_box 745 = .ok (.ixor, 1) := by decide +kernel
theorem dX8_box_746 : decode cX8_box 746 = .ok (.istore 98, 2) := by decide +kernel
theorem dX8_box_748 : decode cX8_box 748 = .ok (.iload 67, 2) := by decide +kernel
theorem dX8_box_750 : decode cX8_box 750 = .ok (.iload 94, 2) := by decide +kernel
theorem dX8_box_752 : decode cX8_box 752 = .ok (.ixor, 1) := by decide +kernel
theorem dX8_box_753 : decode cX8_box 753 = .ok (.istore 99, 2) := by decide +kernel
theorem dX8_box_755 : decode cX8_box 755 = .ok (.iload 96, 2) := by decide +kernel
theorem dX8_box_757 : decode cX8_box 757 = .ok (.iload 97, 2) := by decide +kernel
theorem dX8_box_759 : decode cX8_box 759 = .ok (.ixor, 1) := by decide +kernel
theorem dX8_box_760 : decode cX8_box 760 = .ok (.istore 100, 2) := by decide +kernel
theorem dX8_box_762 : decode cX8_box 762 = .ok (.iload 64, 2) := by decide +kernel
theorem dX8_box_764 : decode cX8_box 764 = .ok (.iload 98, 2) := by decide +kernel
theorem dX8_box_766 : decode cX8_box 766 = .ok (.ixor, 1) := by decide +kernel
theorem dX8_box_767 : decode cX8_box 767 = .ok (.istore 101, 2) := by decide +kernel
theorem dX8_box_769 : decode cX8_box 769 = .ok (.iload 99, 2) := by decide +kernel
theorem dX8_box_771 : decode cX8_box 771 = .ok (.iload 100, 2) := by decide +kernel
theorem dX8_box_773 : decode cX8_box 773 = .ok (.ixor, 1) := by decide +kernel
theorem dX8_box_774 : decode cX8_box 774 = .ok (.istore 102, 2) := by decide +kernel
theorem dX8_box_776 : decode cX8_box 776 = .ok (.iload 88, 2) := by decide +kernel
theorem dX8_box_778 : decode cX8_box 778 = .ok (.iload 101, 2) := by decide +kernel
theorem dX8_box_780 : decode cX8_box 780 = .ok (.ixor, 1) := by decide +kernel
theorem dX8_box_781 : decode cX8_box 781 = .ok (.istore 103, 2) := by decide +kernel
theorem dX8_box_783 : decode cX8_box 783 = .ok (.iload 94, 2) := by decide +kernel
theorem dX8_box_785 : decode cX8_box 785 = .ok (.iload 98, 2) := by decide +kernel
theorem dX8_box_787 : decode cX8_box 787 = .ok (.ixor, 1) := by decide +kernel
theorem dX8_box_788 : decode cX8_box 788 = .ok (.istore 104, 2) := by decide +kernel
theorem dX8_box_790 : decode cX8_box 790 = .ok (.iload 99, 2) := by decide +kernel
theorem dX8_box_792 : decode cX8_box 792 = .ok (.iload 103, 2) := by decide +kernel
theorem dX8_box_794 : decode cX8_box 794 = .ok (.ixor, 1) := by decide +kernel
theorem dX8_box_795 : decode cX8_box 795 = .ok (.ldc 98, 2) := by decide +kernel
theorem dX8_box_797 : decode cX8_box 797 = .ok (.ixor, 1) := by decide +kernel
theorem dX8_box_798 : decode cX8_box 798 = .ok (.istore 105, 2) := by decide +kernel
theorem dX8_box_800 : decode cX8_box 800 = .ok (.iload 90, 2) := by decide +kernel
theorem dX8_box_802 : decode cX8_box 802 = .ok (.iload 102, 2) := by decide +kernel
theorem dX8_box_804 : decode cX8_box 804 = .ok (.ixor, 1) := by decide +kernel
theorem dX8_box_805 : decode cX8_box 805 = .ok (.ldc 98, 2) := by decide +kernel
theorem dX8_box_807 : decode cX8_box 807 = .ok (.ixor, 1) := by decide +kernel
theorem dX8_box_808 : decode cX8_box 808 = .ok (.istore 106, 2) := by decide +kernel
theorem dX8_box_810 : decode cX8_box 810 = .ok (.iload 86, 2) := by decide +kernel
theorem dX8_box_812 : decode cX8_box 812 = .ok (.iload 101, 2) := by decide +kernel
theorem dX8_box_814 : decode cX8_box 814 = .ok (.ixor, 1) := by decide +kernel
theorem dX8_box_815 : decode cX8_box 815 = .ok (.istore 107, 2) := by decide +kernel
theorem dX8_box_817 : decode cX8_box 817 = .ok (.iload 82, 2) := by decide +kernel
theorem dX8_box_819 : decode cX8_box 819 = .ok (.iload 100, 2) := by decide +kernel
theorem dX8_box_821 : decode cX8_box 821 = .ok (.ixor, 1) := by decide +kernel
theorem dX8_box_822 : decode cX8_box 822 = .ok (.istore 108, 2) := by decide +kernel
theorem dX8_box_824 : decode cX8_box 824 = .ok (.iload 91, 2) := by decide +kernel
theorem dX8_box_826 : decode cX8_box 826 = .ok (.iload 97, 2) := by decide +kernel
theorem dX8_box_828 : decode cX8_box 828 = .ok (.ixor, 1) := by decide +kernel
theorem dX8_box_829 : decode cX8_box 829 = .ok (.ldc 98, 2) := by decide +kernel
theorem dX8_box_831 : decode cX8_box 831 = .ok (.ixor, 1) := by decide +kernel
theorem dX8_box_832 : decode cX8_box 832 = .ok (.istore 109, 2) := by decide +kernel
theorem dX8_box_834 : decode cX8_box 834 = .ok (.iload 83, 2) := by decide +kernel
theorem dX8_box_836 : decode cX8_box 836 = .ok (.iload 95, 2) := by decide +kernel
theorem dX8_box_838 : decode cX8_box 838 = .ok (.ixor, 1) := by decide +kernel
theorem dX8_box_839 : decode cX8_box 839 = .ok (.ldc 98, 2) := by decide +kernel
theorem dX8_box_841 : decode cX8_box 841 = .ok (.ixor, 1) := by decide +kernel
theorem dX8_box_842 : decode cX8_box 842 = .ok (.istore 110, 2) := by decide +kernel
theorem dX8_box_844 : decode cX8_box 844 = .ok (.aload_n 0, 1) := by decide +kernel
theorem dX8_box_845 : decode cX8_box 845 = .ok (.iload 110, 2) := by decide +kernel
theorem dX8_box_847 : decode cX8_box 847 = .ok (.i2l, 1) := by decide +kernel
theorem dX8_box_848 : decode cX8_box 848 = .ok (.iload 109, 2) := by decide +kernel
theorem dX8_box_850 : decode cX8_box 850 = .ok (.i2l, 1) := by decide +kernel
theorem dX8_box_851 : decode cX8_box 851 = .ok (.bipush 16, 2) := by decide +kernel
theorem dX8_box_853 : decode cX8_box 853 = .ok (.lshl, 1) := by decide +kernel
theorem dX8_box_854 : decode cX8_box 854 = .ok (.lor, 1) := by decide +kernel
theorem dX8_box_855 : decode cX8_box 855 = .ok (.iload 108, 2) := by decide +kernel
theorem dX8_box_857 : decode cX8_box 857 = .ok (.i2l, 1) := by decide +kernel
theorem dX8_box_858 : decode cX8_box 858 = .ok (.bipush 32, 2) := by decide +kernel
theorem dX8_box_860 : decode cX8_box 860 = .ok (.lshl, 1) := by decide +kernel
theorem dX8_box_861 : decode cX8_box 861 = .ok (.lor, 1) := by decide +kernel
theorem dX8_box_862 : decode cX8_box 862 = .ok (.iload 107, 2) := by decide +kernel
theorem dX8_box_864 : decode cX8_box 864 = .ok (.i2l, 1) := by decide +kernel
theorem dX8_box_865 : decode cX8_box 865 = .ok (.bipush 48, 2) := by decide +kernel
theorem dX8_box_867 : decode cX8_box 867 = .ok (.lshl, 1) := by decide +kernel
theorem dX8_box_868 : decode cX8_box 868 = .ok (.lor, 1) := by decide +kernel
theorem dX8_box_869 : decode cX8_box 869 = .ok (.putfield 16, 3) := by decide +kernel
theorem dX8_box_872 : decode cX8_box 872 = .ok (.aload_n 0, 1) := by decide +kernel
theorem dX8_box_873 : decode cX8_box 873 = .ok (.iload 103, 2) := by decide +kernel
theorem dX8_box_875 : decode cX8_box 875 = .ok (.i2l, 1) := by decide +kernel
theorem dX8_box_876 : decode cX8_box 876 = .ok (.iload 106, 2) := by decide +kernel
theorem dX8_box_878 : decode cX8_box 878 = .ok (.i2l, 1) := by decide +kernel
theorem dX8_box_879 : decode cX8_box 879 = .ok (.bipush 16, 2) := by decide +kernel
theorem dX8_box_881 : decode cX8_box 881 = .ok (.lshl, 1) := by decide +kernel
theorem dX8_box_882 : decode cX8_box 882 = .ok (.lor, 1) := by decide +kernel
theorem dX8_box_883 : decode cX8_box 883 = .ok (.iload 105, 2) := by decide +kernel
theorem dX8_box_885 : decode cX8_box 885 = .ok (.i2l, 1) := by decide +kernel
theorem dX8_box_886 : decode cX8_box 886 = .ok (.bipush 32, 2) := by decide +kernel
theorem dX8_box_888 : decode cX8_box 888 = .ok (.lshl, 1) := by decide +kernel
theorem dX8_box_889 : decode cX8_box 889 = .ok (.lor, 1) := by decide +kernel
theorem dX8_box_890 : decode cX8_box 890 = .ok (.iload 104, 2) := by decide +kernel
theorem dX8_box_892 : decode cX8_box 892 = .ok (.i2l, 1) := by decide +kernel
theorem dX8_box_893 : decode cX8_box 893 = .ok (.bipush 48, 2) := by decide +kernel
theorem dX8_box_895 : decode cX8_box 895 = .ok (.lshl, 1) := by decide +kernel
theorem dX8_box_896 : decode cX8_box 896 = .ok (.lor, 1) := by decide +kernel
theorem dX8_box_897 : decode cX8_box 897 = .ok (.putfield 20, 3) := by decide +kernel
theorem dX8_box_900 : decode cX8_box 900 = .ok (.return_, 1) := by decide +kernel
