theorem dX6_init_0 : decode cX6_init 0 = .ok (.aload_n 0, 1) := by decide +kernel
theorem dX6_init_1 : decode cX6_init 1 = .ok (.invokespecial 1, 3) := by decide +kernel
theorem dX6_init_4 : decode cX6_init 4 = .ok (.aload_n 0, 1) := by decide +kernel
theorem dX6_init_5 : decode cX6_init 5 = .ok (.iload_n 1, 1) := by decide +kernel
theorem dX6_init_6 : decode cX6_init 6 = .ok (.iconst 0, 1) := by decide +kernel
theorem dX6_init_7 : decode cX6_init 7 = .ok (.invokestatic 7, 3) := by decide +kernel
theorem dX6_init_10 : decode cX6_init 10 = .ok (.newarray .int, 2) := by decide +kernel
theorem dX6_init_12 : decode cX6_init 12 = .ok (.putfield 13, 3) := by decide +kernel
theorem dX6_init_15 : decode cX6_init 15 = .ok (.aload_n 0, 1) := by decide +kernel
theorem dX6_init_16 : decode cX6_init 16 = .ok (.iconst 0, 1) := by decide +kernel
theorem dX6_init_17 : decode cX6_init 17 = .ok (.putfield 19, 3) := by decide +kernel
theorem dX6_init_20 : decode cX6_init 20 = .ok (.return_, 1) := by decide +kernel
theorem dX6_room_0 : decode cX6_room 0 = .ok (.aload_n 0, 1) := by decide +kernel
theorem dX6_room_1 : decode cX6_room 1 = .ok (.getfield 13, 3) := by decide +kernel
theorem dX6_room_4 : decode cX6_room 4 = .ok (.arraylength, 1) := by decide +kernel
theorem dX6_room_5 : decode cX6_room 5 = .ok (.ireturn, 1) := by decide +kernel
theorem dX6_has_0 : decode cX6_has 0 = .ok (.iload_n 1, 1) := by decide +kernel
theorem dX6_has_1 : decode cX6_has 1 = .ok (.ifCond .lt 15, 3) := by decide +kernel
theorem dX6_has_4 : decode cX6_has 4 = .ok (.iload_n 1, 1) := by decide +kernel
theorem dX6_has_5 : decode cX6_has 5 = .ok (.aload_n 0, 1) := by decide +kernel
theorem dX6_has_6 : decode cX6_has 6 = .ok (.getfield 19, 3) := by decide +kernel
theorem dX6_has_9 : decode cX6_has 9 = .ok (.if_icmp .ge 7, 3) := by decide +kernel
theorem dX6_has_12 : decode cX6_has 12 = .ok (.iconst 1, 1) := by decide +kernel
theorem dX6_has_13 : decode cX6_has 13 = .ok (.goto 4, 3) := by decide +kernel
theorem dX6_has_16 : decode cX6_has 16 = .ok (.iconst 0, 1) := by decide +kernel
theorem dX6_has_17 : decode cX6_has 17 = .ok (.ireturn, 1) := by decide +kernel
theorem dX6_hasRoomFor_0 : decode cX6_hasRoomFor 0 = .ok (.iload_n 1, 1) := by decide +kernel
theorem dX6_hasRoomFor_1 : decode cX6_hasRoomFor 1 = .ok (.aload_n 0, 1) := by decide +kernel
theorem dX6_hasRoomFor_2 : decode cX6_hasRoomFor 2 = .ok (.getfield 13, 3) := by decide +kernel
theorem dX6_hasRoomFor_5 : decode cX6_hasRoomFor 5 = .ok (.arraylength, 1) := by decide +kernel
theorem dX6_hasRoomFor_6 : decode cX6_hasRoomFor 6 = .ok (.aload_n 0, 1) := by decide +kernel
theorem dX6_hasRoomFor_7 : decode cX6_hasRoomFor 7 = .ok (.getfield 19, 3) := by decide +kernel
theorem dX6_hasRoomFor_10 : decode cX6_hasRoomFor 10 = .ok (.isub, 1) := by decide +kernel
theorem dX6_hasRoomFor_11 : decode cX6_hasRoomFor 11 = .ok (.if_icmp .gt 7, 3) := by decide +kernel
theorem dX6_hasRoomFor_14 : decode cX6_hasRoomFor 14 = .ok (.iconst 1, 1) := by decide +kernel
theorem dX6_hasRoomFor_15 : decode cX6_hasRoomFor 15 = .ok (.goto 4, 3) := by decide +kernel
theorem dX6_hasRoomFor_18 : decode cX6_hasRoomFor 18 = .ok (.iconst 0, 1) := by decide +kernel
theorem dX6_hasRoomFor_19 : decode cX6_hasRoomFor 19 = .ok (.ireturn, 1) := by decide +kernel
theorem dX6_at_0 : decode cX6_at 0 = .ok (.iload_n 1, 1) := by decide +kernel
theorem dX6_at_1 : decode cX6_at 1 = .ok (.ifCond .lt 29, 3) := by decide +kernel
theorem dX6_at_4 : decode cX6_at 4 = .ok (.iload_n 1, 1) := by decide +kernel
theorem dX6_at_5 : decode cX6_at 5 = .ok (.aload_n 0, 1) := by decide +kernel
theorem dX6_at_6 : decode cX6_at 6 = .ok (.getfield 19, 3) := by decide +kernel
theorem dX6_at_9 : decode cX6_at 9 = .ok (.if_icmp .ge 21, 3) := by decide +kernel
theorem dX6_at_12 : decode cX6_at 12 = .ok (.iload_n 1, 1) := by decide +kernel
theorem dX6_at_13 : decode cX6_at 13 = .ok (.aload_n 0, 1) := by decide +kernel
theorem dX6_at_14 : decode cX6_at 14 = .ok (.getfield 13, 3) := by decide +kernel
theorem dX6_at_17 : decode cX6_at 17 = .ok (.arraylength, 1) := by decide +kernel
theorem dX6_at_18 : decode cX6_at 18 = .ok (.if_icmp .ge 12, 3) := by decide +kernel
theorem dX6_at_21 : decode cX6_at 21 = .ok (.aload_n 0, 1) := by decide +kernel
theorem dX6_at_22 : decode cX6_at 22 = .ok (.getfield 13, 3) := by decide +kernel
theorem dX6_at_25 : decode cX6_at 25 = .ok (.iload_n 1, 1) := by decide +kernel
theorem dX6_at_26 : decode cX6_at 26 = .ok (.iaload, 1) := by decide +kernel
theorem dX6_at_27 : decode cX6_at 27 = .ok (.goto 4, 3) := by decide +kernel
theorem dX6_at_30 : decode cX6_at 30 = .ok (.iconst 0, 1) := by decide +kernel
theorem dX6_at_31 : decode cX6_at 31 = .ok (.ireturn, 1) := by decide +kernel
theorem dX6_put_0 : decode cX6_put 0 = .ok (.iload_n 1, 1) := by decide +kernel
theorem dX6_put_1 : decode cX6_put 1 = .ok (.ifCond .lt 31, 3) := by decide +kernel
theorem dX6_put_4 : decode cX6_put 4 = .ok (.iload_n 1, 1) := by decide +kernel
theorem dX6_put_5 : decode cX6_put 5 = .ok (.aload_n 0, 1) := by decide +kernel
theorem dX6_put_6 : decode cX6_put 6 = .ok (.getfield 19, 3) := by decide +kernel
theorem dX6_put_9 : decode cX6_put 9 = .ok (.if_icmp .ge 23, 3) := by decide +kernel
theorem dX6_put_12 : decode cX6_put 12 = .ok (.iload_n 1, 1) := by decide +kernel
theorem dX6_put_13 : decode cX6_put 13 = .ok (.aload_n 0, 1) := by decide +kernel
theorem dX6_put_14 : decode cX6_put 14 = .ok (.getfield 13, 3) := by decide +kernel
theorem dX6_put_17 : decode cX6_put 17 = .ok (.arraylength, 1) := by decide +kernel
theorem dX6_put_18 : decode cX6_put 18 = .ok (.if_icmp .ge 14, 3) := by decide +kernel
theorem dX6_put_21 : decode cX6_put 21 = .ok (.aload_n 0, 1) := by decide +kernel
theorem dX6_put_22 : decode cX6_put 22 = .ok (.getfield 13, 3) := by decide +kernel
theorem dX6_put_25 : decode cX6_put 25 = .ok (.iload_n 1, 1) := by decide +kernel
theorem dX6_put_26 : decode cX6_put 26 = .ok (.iload_n 2, 1) := by decide +kernel
theorem dX6_put_27 : decode cX6_put 27 = .ok (.sipush 255, 3) := by decide +kernel
theorem dX6_put_30 : decode cX6_put 30 = .ok (.iand, 1) := by decide +kernel
theorem dX6_put_31 : decode cX6_put 31 = .ok (.iastore, 1) := by decide +kernel
theorem dX6_put_32 : decode cX6_put 32 = .ok (.return_, 1) := by decide +kernel
theorem dX6_append_0 : decode cX6_append 0 = .ok (.aload_n 0, 1) := by decide +kernel
theorem dX6_append_1 : decode cX6_append 1 = .ok (.getfield 19, 3) := by decide +kernel
theorem dX6_append_4 : decode cX6_append 4 = .ok (.ifCond .lt 39, 3) := by decide +kernel
theorem dX6_append_7 : decode cX6_append 7 = .ok (.aload_n 0, 1) := by decide +kernel
theorem dX6_append_8 : decode cX6_append 8 = .ok (.getfield 19, 3) := by decide +kernel
theorem dX6_append_11 : decode cX6_append 11 = .ok (.aload_n 0, 1) := by decide +kernel
theorem dX6_append_12 : decode cX6_append 12 = .ok (.getfield 13, 3) := by decide +kernel
theorem dX6_append_15 : decode cX6_append 15 = .ok (.arraylength, 1) := by decide +kernel
theorem dX6_append_16 : decode cX6_append 16 = .ok (.if_icmp .ge 27, 3) := by decide +kernel
theorem dX6_append_19 : decode cX6_append 19 = .ok (.aload_n 0, 1) := by decide +kernel
theorem dX6_append_20 : decode cX6_append 20 = .ok (.getfield 13, 3) := by decide +kernel
theorem dX6_append_23 : decode cX6_append 23 = .ok (.aload_n 0, 1) := by decide +kernel
theorem dX6_append_24 : decode cX6_append 24 = .ok (.getfield 19, 3) := by decide +kernel
theorem dX6_append_27 : decode cX6_append 27 = .ok (.iload_n 1, 1) := by decide +kernel
theorem dX6_append_28 : decode cX6_append 28 = .ok (.sipush 255, 3) := by decide +kernel
theorem dX6_append_31 : decode cX6_append 31 = .ok (.iand, 1) := by decide +kernel
theorem dX6_append_32 : decode cX6_append 32 = .ok (.iastore, 1) := by decide +kernel
theorem dX6_append_33 : decode cX6_append 33 = .ok (.aload_n 0, 1) := by decide +kernel
theorem dX6_append_34 : decode cX6_append 34 = .ok (.dup, 1) := by decide +kernel
theorem dX6_append_35 : decode cX6_append 35 = .ok (.getfield 19, 3) := by decide +kernel
theorem dX6_append_38 : decode cX6_append 38 = .ok (.iconst 1, 1) := by decide +kernel
theorem dX6_append_39 : decode cX6_append 39 = .ok (.iadd, 1) := by decide +kernel
theorem dX6_append_40 : decode cX6_append 40 = .ok (.putfield 19, 3) := by decide +kernel
theorem dX6_append_43 : decode cX6_append 43 = .ok (.return_, 1) := by decide +kernel
theorem dX6_keep_0 : decode cX6_keep 0 = .ok (.iload_n 1, 1) := by decide +kernel
theorem dX6_keep_1 : decode cX6_keep 1 = .ok (.ifCond .lt 16, 3) := by decide +kernel
theorem dX6_keep_4 : decode cX6_keep 4 = .ok (.iload_n 1, 1) := by decide +kernel
theorem dX6_keep_5 : decode cX6_keep 5 = .ok (.aload_n 0, 1) := by decide +kernel
theorem dX6_keep_6 : decode cX6_keep 6 = .ok (.getfield 19, 3) := by decide +kernel
theorem dX6_keep_9 : decode cX6_keep 9 = .ok (.if_icmp .ge 8, 3) := by decide +kernel
theorem dX6_keep_12 : decode cX6_keep 12 = .ok (.aload_n 0, 1) := by decide +kernel
theorem dX6_keep_13 : decode cX6_keep 13 = .ok (.iload_n 1, 1) := by decide +kernel
theorem dX6_keep_14 : decode cX6_keep 14 = .ok (.putfield 19, 3) := by decide +kernel
theorem dX6_keep_17 : decode cX6_keep 17 = .ok (.return_, 1) := by decide +kernel
theorem dX6_appendRow_0 : decode cX6_appendRow 0 = .ok (.iconst 0, 1) := by decide +kernel
theorem dX6_appendRow_1 : decode cX6_appendRow 1 = .ok (.istore_n 2, 1) := by decide +kernel
theorem dX6_appendRow_2 : decode cX6_appendRow 2 = .ok (.iload_n 2, 1) := by decide +kernel
theorem dX6_appendRow_3 : decode cX6_appendRow 3 = .ok (.aload_n 1, 1) := by decide +kernel
theorem dX6_appendRow_4 : decode cX6_appendRow 4 = .ok (.getfield 19, 3) := by decide +kernel
theorem dX6_appendRow_7 : decode cX6_appendRow 7 = .ok (.if_icmp .ge 18, 3) := by decide +kernel
theorem dX6_appendRow_10 : decode cX6_appendRow 10 = .ok (.aload_n 0, 1) := by decide +kernel
theorem dX6_appendRow_11 : decode cX6_appendRow 11 = .ok (.aload_n 1, 1) := by decide +kernel
theorem dX6_appendRow_12 : decode cX6_appendRow 12 = .ok (.iload_n 2, 1) := by decide +kernel
theorem dX6_appendRow_13 : decode cX6_appendRow 13 = .ok (.invokevirtual 23, 3) := by decide +kernel
theorem dX6_appendRow_16 : decode cX6_appendRow 16 = .ok (.invokevirtual 27, 3) := by decide +kernel
theorem dX6_appendRow_19 : decode cX6_appendRow 19 = .ok (.iinc 2 1, 3) := by decide +kernel
theorem dX6_appendRow_22 : decode cX6_appendRow 22 = .ok (.goto (-20), 3) := by decide +kernel
theorem dX6_appendRow_25 : decode cX6_appendRow 25 = .ok (.return_, 1) := by decide +kernel
theorem dX6_appendBlock_0 : decode cX6_appendBlock 0 = .ok (.iconst 0, 1) := by decide +kernel
theorem dX6_appendBlock_1 : decode cX6_appendBlock 1 = .ok (.istore_n 3, 1) := by decide +kernel
theorem dX6_appendBlock_2 : decode cX6_appendBlock 2 = .ok (.iload_n 3, 1) := by decide +kernel
theorem dX6_appendBlock_3 : decode cX6_appendBlock 3 = .ok (.iload_n 2, 1) := by decide +kernel
theorem dX6_appendBlock_4 : decode cX6_appendBlock 4 = .ok (.if_icmp .ge 18, 3) := by decide +kernel
theorem dX6_appendBlock_7 : decode cX6_appendBlock 7 = .ok (.aload_n 0, 1) := by decide +kernel
theorem dX6_appendBlock_8 : decode cX6_appendBlock 8 = .ok (.aload_n 1, 1) := by decide +kernel
theorem dX6_appendBlock_9 : decode cX6_appendBlock 9 = .ok (.iload_n 3, 1) := by decide +kernel
theorem dX6_appendBlock_10 : decode cX6_appendBlock 10 = .ok (.invokevirtual 31, 3) := by decide +kernel
theorem dX6_appendBlock_13 : decode cX6_appendBlock 13 = .ok (.invokevirtual 27, 3) := by decide +kernel
theorem dX6_appendBlock_16 : decode cX6_appendBlock 16 = .ok (.iinc 3 1, 3) := by decide +kernel
theorem dX6_appendBlock_19 : decode cX6_appendBlock 19 = .ok (.goto (-17), 3) := by decide +kernel
theorem dX6_appendBlock_22 : decode cX6_appendBlock 22 = .ok (.return_, 1) := by decide +kernel
theorem dX6_copyPart_0 : decode cX6_copyPart 0 = .ok (.aload_n 0, 1) := by decide +kernel
theorem dX6_copyPart_1 : decode cX6_copyPart 1 = .ok (.iconst 0, 1) := by decide +kernel
theorem dX6_copyPart_2 : decode cX6_copyPart 2 = .ok (.putfield 19, 3) := by decide +kernel
theorem dX6_copyPart_5 : decode cX6_copyPart 5 = .ok (.iload_n 2, 1) := by decide +kernel
theorem dX6_copyPart_6 : decode cX6_copyPart 6 = .ok (.istore 4, 2) := by decide +kernel
theorem dX6_copyPart_8 : decode cX6_copyPart 8 = .ok (.iload 4, 2) := by decide +kernel
theorem dX6_copyPart_10 : decode cX6_copyPart 10 = .ok (.iload_n 3, 1) := by decide +kernel
theorem dX6_copyPart_11 : decode cX6_copyPart 11 = .ok (.if_icmp .ge 19, 3) := by decide +kernel
theorem dX6_copyPart_14 : decode cX6_copyPart 14 = .ok (.aload_n 0, 1) := by decide +kernel
theorem dX6_copyPart_15 : decode cX6_copyPart 15 = .ok (.aload_n 1, 1) := by decide +kernel
theorem dX6_copyPart_16 : decode cX6_copyPart 16 = .ok (.iload 4, 2) := by decide +kernel
theorem dX6_copyPart_18 : decode cX6_copyPart 18 = .ok (.invokevirtual 23, 3) := by decide +kernel
theorem dX6_copyPart_21 : decode cX6_copyPart 21 = .ok (.invokevirtual 27, 3) := by decide +kernel
theorem dX6_copyPart_24 : decode cX6_copyPart 24 = .ok (.iinc 4 1, 3) := by decide +kernel
theorem dX6_copyPart_27 : decode cX6_copyPart 27 = .ok (.goto (-19), 3) := by decide +kernel
theorem dX6_copyPart_30 : decode cX6_copyPart 30 = .ok (.return_, 1) := by decide +kernel
theorem dX6_padTo_0 : decode cX6_padTo 0 = .ok (.aload_n 0, 1) := by decide +kernel
theorem dX6_padTo_1 : decode cX6_padTo 1 = .ok (.getfield 19, 3) := by decide +kernel
theorem dX6_padTo_4 : decode cX6_padTo 4 = .ok (.ineg, 1) := by decide +kernel
theorem dX6_padTo_5 : decode cX6_padTo 5 = .ok (.iload_n 1, 1) := by decide +kernel
theorem dX6_padTo_6 : decode cX6_padTo 6 = .ok (.iconst 1, 1) := by decide +kernel
theorem dX6_padTo_7 : decode cX6_padTo 7 = .ok (.isub, 1) := by decide +kernel
theorem dX6_padTo_8 : decode cX6_padTo 8 = .ok (.iand, 1) := by decide +kernel
theorem dX6_padTo_9 : decode cX6_padTo 9 = .ok (.istore_n 2, 1) := by decide +kernel
theorem dX6_padTo_10 : decode cX6_padTo 10 = .ok (.iconst 0, 1) := by decide +kernel
theorem dX6_padTo_11 : decode cX6_padTo 11 = .ok (.istore_n 3, 1) := by decide +kernel
theorem dX6_padTo_12 : decode cX6_padTo 12 = .ok (.iload_n 3, 1) := by decide +kernel
theorem dX6_padTo_13 : decode cX6_padTo 13 = .ok (.iload_n 2, 1) := by decide +kernel
theorem dX6_padTo_14 : decode cX6_padTo 14 = .ok (.if_icmp .ge 14, 3) := by decide +kernel
theorem dX6_padTo_17 : decode cX6_padTo 17 = .ok (.aload_n 0, 1) := by decide +kernel
theorem dX6_padTo_18 : decode cX6_padTo 18 = .ok (.iconst 0, 1) := by decide +kernel
theorem dX6_padTo_19 : decode cX6_padTo 19 = .ok (.invokevirtual 27, 3) := by decide +kernel
theorem dX6_padTo_22 : decode cX6_padTo 22 = .ok (.iinc 3 1, 3) := by decide +kernel
theorem dX6_padTo_25 : decode cX6_padTo 25 = .ok (.goto (-13), 3) := by decide +kernel
theorem dX6_padTo_28 : decode cX6_padTo 28 = .ok (.return_, 1) := by decide +kernel
theorem dX6_eightAt_0 : decode cX6_eightAt 0 = .ok (.lconst 0, 1) := by decide +kernel
theorem dX6_eightAt_1 : decode cX6_eightAt 1 = .ok (.lstore_n 2, 1) := by decide +kernel
theorem dX6_eightAt_2 : decode cX6_eightAt 2 = .ok (.iload_n 1, 1) := by decide +kernel
theorem dX6_eightAt_3 : decode cX6_eightAt 3 = .ok (.istore 4, 2) := by decide +kernel
theorem dX6_eightAt_5 : decode cX6_eightAt 5 = .ok (.iload 4, 2) := by decide +kernel
theorem dX6_eightAt_7 : decode cX6_eightAt 7 = .ok (.iload_n 1, 1) := by decide +kernel
theorem dX6_eightAt_8 : decode cX6_eightAt 8 = .ok (.bipush 8, 2) := by decide +kernel
theorem dX6_eightAt_10 : decode cX6_eightAt 10 = .ok (.iadd, 1) := by decide +kernel
theorem dX6_eightAt_11 : decode cX6_eightAt 11 = .ok (.if_icmp .ge 51, 3) := by decide +kernel
theorem dX6_eightAt_14 : decode cX6_eightAt 14 = .ok (.lload_n 2, 1) := by decide +kernel
theorem dX6_eightAt_15 : decode cX6_eightAt 15 = .ok (.bipush 8, 2) := by decide +kernel
theorem dX6_eightAt_17 : decode cX6_eightAt 17 = .ok (.lshl, 1) := by decide +kernel
theorem dX6_eightAt_18 : decode cX6_eightAt 18 = .ok (.iload 4, 2) := by decide +kernel
theorem dX6_eightAt_20 : decode cX6_eightAt 20 = .ok (.ifCond .lt 32, 3) := by decide +kernel
theorem dX6_eightAt_23 : decode cX6_eightAt 23 = .ok (.iload 4, 2) := by decide +kernel
theorem dX6_eightAt_25 : decode cX6_eightAt 25 = .ok (.aload_n 0, 1) := by decide +kernel
theorem dX6_eightAt_26 : decode cX6_eightAt 26 = .ok (.getfield 19, 3) := by decide +kernel
theorem dX6_eightAt_29 : decode cX6_eightAt 29 = .ok (.if_icmp .ge 23, 3) := by decide +kernel
theorem dX6_eightAt_32 : decode cX6_eightAt 32 = .ok (.iload 4, 2) := by decide +kernel
theorem dX6_eightAt_34 : decode cX6_eightAt 34 = .ok (.aload_n 0, 1) := by decide +kernel
theorem dX6_eightAt_35 : decode cX6_eightAt 35 = .ok (.getfield 13, 3) := by decide +kernel
theorem dX6_eightAt_38 : decode cX6_eightAt 38 = .ok (.arraylength, 1) := by decide +kernel
theorem dX6_eightAt_39 : decode cX6_eightAt 39 = .ok (.if_icmp .ge 13, 3) := by decide +kernel
theorem dX6_eightAt_42 : decode cX6_eightAt 42 = .ok (.aload_n 0, 1) := by decide +kernel
theorem dX6_eightAt_43 : decode cX6_eightAt 43 = .ok (.getfield 13, 3) := by decide +kernel
theorem dX6_eightAt_46 : decode cX6_eightAt 46 = .ok (.iload 4, 2) := by decide +kernel
theorem dX6_eightAt_48 : decode cX6_eightAt 48 = .ok (.iaload, 1) := by decide +kernel
theorem dX6_eightAt_49 : decode cX6_eightAt 49 = .ok (.goto 4, 3) := by decide +kernel
theorem dX6_eightAt_52 : decode cX6_eightAt 52 = .ok (.iconst 0, 1) := by decide +kernel
theorem dX6_eightAt_53 : decode cX6_eightAt 53 = .ok (.i2l, 1) := by decide +kernel
theorem dX6_eightAt_54 : decode cX6_eightAt 54 = .ok (.lor, 1) := by decide +kernel
theorem dX6_eightAt_55 : decode cX6_eightAt 55 = .ok (.lstore_n 2, 1) := by decide +kernel
theorem dX6_eightAt_56 : decode cX6_eightAt 56 = .ok (.iinc 4 1, 3) := by decide +kernel
theorem dX6_eightAt_59 : decode cX6_eightAt 59 = .ok (.goto (-54), 3) := by decide +kernel
theorem dX6_eightAt_62 : decode cX6_eightAt 62 = .ok (.lload_n 2, 1) := by decide +kernel
theorem dX6_eightAt_63 : decode cX6_eightAt 63 = .ok (.lreturn, 1) := by decide +kernel
theorem dX6_putEight_0 : decode cX6_putEight 0 = .ok (.iconst 0, 1) := by decide +kernel
theorem dX6_putEight_1 : decode cX6_putEight 1 = .ok (.istore 4, 2) := by decide +kernel
theorem dX6_putEight_3 : decode cX6_putEight 3 = .ok (.iload 4, 2) := by decide +kernel
theorem dX6_putEight_5 : decode cX6_putEight 5 = .ok (.bipush 8, 2) := by decide +kernel
theorem dX6_putEight_7 : decode cX6_putEight 7 = .ok (.if_icmp .ge 28, 3) := by decide +kernel
theorem dX6_putEight_10 : decode cX6_putEight 10 = .ok (.aload_n 0, 1) := by decide +kernel
theorem dX6_putEight_11 : decode cX6_putEight 11 = .ok (.iload_n 1, 1) := by decide +kernel
theorem dX6_putEight_12 : decode cX6_putEight 12 = .ok (.iload 4, 2) := by decide +kernel
theorem dX6_putEight_14 : decode cX6_putEight 14 = .ok (.iadd, 1) := by decide +kernel
theorem dX6_putEight_15 : decode cX6_putEight 15 = .ok (.lload_n 2, 1) := by decide +kernel
theorem dX6_putEight_16 : decode cX6_putEight 16 = .ok (.bipush 56, 2) := by decide +kernel
theorem dX6_putEight_18 : decode cX6_putEight 18 = .ok (.bipush 8, 2) := by decide +kernel
theorem dX6_putEight_20 : decode cX6_putEight 20 = .ok (.iload 4, 2) := by decide +kernel
theorem dX6_putEight_22 : decode cX6_putEight 22 = .ok (.imul, 1) := by decide +kernel
theorem dX6_putEight_23 : decode cX6_putEight 23 = .ok (.isub, 1) := by decide +kernel
theorem dX6_putEight_24 : decode cX6_putEight 24 = .ok (.lushr, 1) := by decide +kernel
theorem dX6_putEight_25 : decode cX6_putEight 25 = .ok (.l2i, 1) := by decide +kernel
theorem dX6_putEight_26 : decode cX6_putEight 26 = .ok (.invokevirtual 36, 3) := by decide +kernel
theorem dX6_putEight_29 : decode cX6_putEight 29 = .ok (.iinc 4 1, 3) := by decide +kernel
theorem dX6_putEight_32 : decode cX6_putEight 32 = .ok (.goto (-29), 3) := by decide +kernel
theorem dX6_putEight_35 : decode cX6_putEight 35 = .ok (.return_, 1) := by decide +kernel
