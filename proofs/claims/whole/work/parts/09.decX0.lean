theorem dX0_init_0 : decode cX0_init 0 = .ok (.aload_n 0, 1) := by decide +kernel
theorem dX0_init_1 : decode cX0_init 1 = .ok (.invokespecial 1, 3) := by decide +kernel
theorem dX0_init_4 : decode cX0_init 4 = .ok (.return_, 1) := by decide +kernel
theorem dX0_become_0 : decode cX0_become 0 = .ok (.aload_n 0, 1) := by decide +kernel
theorem dX0_become_1 : decode cX0_become 1 = .ok (.lload_n 1, 1) := by decide +kernel
theorem dX0_become_2 : decode cX0_become 2 = .ok (.putfield 7, 3) := by decide +kernel
theorem dX0_become_5 : decode cX0_become 5 = .ok (.aload_n 0, 1) := by decide +kernel
theorem dX0_become_6 : decode cX0_become 6 = .ok (.lload_n 3, 1) := by decide +kernel
theorem dX0_become_7 : decode cX0_become 7 = .ok (.putfield 13, 3) := by decide +kernel
theorem dX0_become_10 : decode cX0_become 10 = .ok (.return_, 1) := by decide +kernel
theorem dX0_copy_0 : decode cX0_copy 0 = .ok (.aload_n 0, 1) := by decide +kernel
theorem dX0_copy_1 : decode cX0_copy 1 = .ok (.aload_n 1, 1) := by decide +kernel
theorem dX0_copy_2 : decode cX0_copy 2 = .ok (.getfield 7, 3) := by decide +kernel
theorem dX0_copy_5 : decode cX0_copy 5 = .ok (.putfield 7, 3) := by decide +kernel
theorem dX0_copy_8 : decode cX0_copy 8 = .ok (.aload_n 0, 1) := by decide +kernel
theorem dX0_copy_9 : decode cX0_copy 9 = .ok (.aload_n 1, 1) := by decide +kernel
theorem dX0_copy_10 : decode cX0_copy 10 = .ok (.getfield 13, 3) := by decide +kernel
theorem dX0_copy_13 : decode cX0_copy 13 = .ok (.putfield 13, 3) := by decide +kernel
theorem dX0_copy_16 : decode cX0_copy 16 = .ok (.return_, 1) := by decide +kernel
theorem dX0_read_0 : decode cX0_read 0 = .ok (.aload_n 0, 1) := by decide +kernel
theorem dX0_read_1 : decode cX0_read 1 = .ok (.aload_n 1, 1) := by decide +kernel
theorem dX0_read_2 : decode cX0_read 2 = .ok (.iload_n 2, 1) := by decide +kernel
theorem dX0_read_3 : decode cX0_read 3 = .ok (.invokevirtual 16, 3) := by decide +kernel
theorem dX0_read_6 : decode cX0_read 6 = .ok (.putfield 7, 3) := by decide +kernel
theorem dX0_read_9 : decode cX0_read 9 = .ok (.aload_n 0, 1) := by decide +kernel
theorem dX0_read_10 : decode cX0_read 10 = .ok (.aload_n 1, 1) := by decide +kernel
theorem dX0_read_11 : decode cX0_read 11 = .ok (.iload_n 2, 1) := by decide +kernel
theorem dX0_read_12 : decode cX0_read 12 = .ok (.bipush 8, 2) := by decide +kernel
theorem dX0_read_14 : decode cX0_read 14 = .ok (.iadd, 1) := by decide +kernel
theorem dX0_read_15 : decode cX0_read 15 = .ok (.invokevirtual 16, 3) := by decide +kernel
theorem dX0_read_18 : decode cX0_read 18 = .ok (.putfield 13, 3) := by decide +kernel
theorem dX0_read_21 : decode cX0_read 21 = .ok (.return_, 1) := by decide +kernel
theorem dX0_addPart_0 : decode cX0_addPart 0 = .ok (.aload_n 0, 1) := by decide +kernel
theorem dX0_addPart_1 : decode cX0_addPart 1 = .ok (.dup, 1) := by decide +kernel
theorem dX0_addPart_2 : decode cX0_addPart 2 = .ok (.getfield 7, 3) := by decide +kernel
theorem dX0_addPart_5 : decode cX0_addPart 5 = .ok (.aload_n 1, 1) := by decide +kernel
theorem dX0_addPart_6 : decode cX0_addPart 6 = .ok (.iload_n 2, 1) := by decide +kernel
theorem dX0_addPart_7 : decode cX0_addPart 7 = .ok (.invokevirtual 16, 3) := by decide +kernel
theorem dX0_addPart_10 : decode cX0_addPart 10 = .ok (.lxor, 1) := by decide +kernel
theorem dX0_addPart_11 : decode cX0_addPart 11 = .ok (.putfield 7, 3) := by decide +kernel
theorem dX0_addPart_14 : decode cX0_addPart 14 = .ok (.aload_n 0, 1) := by decide +kernel
theorem dX0_addPart_15 : decode cX0_addPart 15 = .ok (.dup, 1) := by decide +kernel
theorem dX0_addPart_16 : decode cX0_addPart 16 = .ok (.getfield 13, 3) := by decide +kernel
theorem dX0_addPart_19 : decode cX0_addPart 19 = .ok (.aload_n 1, 1) := by decide +kernel
theorem dX0_addPart_20 : decode cX0_addPart 20 = .ok (.iload_n 2, 1) := by decide +kernel
theorem dX0_addPart_21 : decode cX0_addPart 21 = .ok (.bipush 8, 2) := by decide +kernel
theorem dX0_addPart_23 : decode cX0_addPart 23 = .ok (.iadd, 1) := by decide +kernel
theorem dX0_addPart_24 : decode cX0_addPart 24 = .ok (.invokevirtual 16, 3) := by decide +kernel
theorem dX0_addPart_27 : decode cX0_addPart 27 = .ok (.lxor, 1) := by decide +kernel
theorem dX0_addPart_28 : decode cX0_addPart 28 = .ok (.putfield 13, 3) := by decide +kernel
theorem dX0_addPart_31 : decode cX0_addPart 31 = .ok (.return_, 1) := by decide +kernel
theorem dX0_add_0 : decode cX0_add 0 = .ok (.aload_n 0, 1) := by decide +kernel
theorem dX0_add_1 : decode cX0_add 1 = .ok (.dup, 1) := by decide +kernel
theorem dX0_add_2 : decode cX0_add 2 = .ok (.getfield 7, 3) := by decide +kernel
theorem dX0_add_5 : decode cX0_add 5 = .ok (.aload_n 1, 1) := by decide +kernel
theorem dX0_add_6 : decode cX0_add 6 = .ok (.getfield 7, 3) := by decide +kernel
theorem dX0_add_9 : decode cX0_add 9 = .ok (.lxor, 1) := by decide +kernel
theorem dX0_add_10 : decode cX0_add 10 = .ok (.putfield 7, 3) := by decide +kernel
theorem dX0_add_13 : decode cX0_add 13 = .ok (.aload_n 0, 1) := by decide +kernel
theorem dX0_add_14 : decode cX0_add 14 = .ok (.dup, 1) := by decide +kernel
theorem dX0_add_15 : decode cX0_add 15 = .ok (.getfield 13, 3) := by decide +kernel
theorem dX0_add_18 : decode cX0_add 18 = .ok (.aload_n 1, 1) := by decide +kernel
theorem dX0_add_19 : decode cX0_add 19 = .ok (.getfield 13, 3) := by decide +kernel
theorem dX0_add_22 : decode cX0_add 22 = .ok (.lxor, 1) := by decide +kernel
theorem dX0_add_23 : decode cX0_add 23 = .ok (.putfield 13, 3) := by decide +kernel
theorem dX0_add_26 : decode cX0_add 26 = .ok (.return_, 1) := by decide +kernel
theorem dX0_octetAt_0 : decode cX0_octetAt 0 = .ok (.iload_n 1, 1) := by decide +kernel
theorem dX0_octetAt_1 : decode cX0_octetAt 1 = .ok (.bipush 8, 2) := by decide +kernel
theorem dX0_octetAt_3 : decode cX0_octetAt 3 = .ok (.if_icmp .ge 10, 3) := by decide +kernel
theorem dX0_octetAt_6 : decode cX0_octetAt 6 = .ok (.aload_n 0, 1) := by decide +kernel
theorem dX0_octetAt_7 : decode cX0_octetAt 7 = .ok (.getfield 7, 3) := by decide +kernel
theorem dX0_octetAt_10 : decode cX0_octetAt 10 = .ok (.goto 7, 3) := by decide +kernel
theorem dX0_octetAt_13 : decode cX0_octetAt 13 = .ok (.aload_n 0, 1) := by decide +kernel
theorem dX0_octetAt_14 : decode cX0_octetAt 14 = .ok (.getfield 13, 3) := by decide +kernel
theorem dX0_octetAt_17 : decode cX0_octetAt 17 = .ok (.bipush 56, 2) := by decide +kernel
theorem dX0_octetAt_19 : decode cX0_octetAt 19 = .ok (.bipush 8, 2) := by decide +kernel
theorem dX0_octetAt_21 : decode cX0_octetAt 21 = .ok (.iload_n 1, 1) := by decide +kernel
theorem dX0_octetAt_22 : decode cX0_octetAt 22 = .ok (.bipush 7, 2) := by decide +kernel
theorem dX0_octetAt_24 : decode cX0_octetAt 24 = .ok (.iand, 1) := by decide +kernel
theorem dX0_octetAt_25 : decode cX0_octetAt 25 = .ok (.imul, 1) := by decide +kernel
theorem dX0_octetAt_26 : decode cX0_octetAt 26 = .ok (.isub, 1) := by decide +kernel
theorem dX0_octetAt_27 : decode cX0_octetAt 27 = .ok (.lushr, 1) := by decide +kernel
theorem dX0_octetAt_28 : decode cX0_octetAt 28 = .ok (.l2i, 1) := by decide +kernel
theorem dX0_octetAt_29 : decode cX0_octetAt 29 = .ok (.sipush 255, 3) := by decide +kernel
theorem dX0_octetAt_32 : decode cX0_octetAt 32 = .ok (.iand, 1) := by decide +kernel
theorem dX0_octetAt_33 : decode cX0_octetAt 33 = .ok (.ireturn, 1) := by decide +kernel
theorem dX0_addOctet_0 : decode cX0_addOctet 0 = .ok (.iload_n 2, 1) := by decide +kernel
theorem dX0_addOctet_1 : decode cX0_addOctet 1 = .ok (.i2l, 1) := by decide +kernel
theorem dX0_addOctet_2 : decode cX0_addOctet 2 = .ok (.ldc2_w 22, 3) := by decide +kernel
theorem dX0_addOctet_5 : decode cX0_addOctet 5 = .ok (.land, 1) := by decide +kernel
theorem dX0_addOctet_6 : decode cX0_addOctet 6 = .ok (.bipush 56, 2) := by decide +kernel
theorem dX0_addOctet_8 : decode cX0_addOctet 8 = .ok (.bipush 8, 2) := by decide +kernel
theorem dX0_addOctet_10 : decode cX0_addOctet 10 = .ok (.iload_n 1, 1) := by decide +kernel
theorem dX0_addOctet_11 : decode cX0_addOctet 11 = .ok (.bipush 7, 2) := by decide +kernel
theorem dX0_addOctet_13 : decode cX0_addOctet 13 = .ok (.iand, 1) := by decide +kernel
theorem dX0_addOctet_14 : decode cX0_addOctet 14 = .ok (.imul, 1) := by decide +kernel
theorem dX0_addOctet_15 : decode cX0_addOctet 15 = .ok (.isub, 1) := by decide +kernel
theorem dX0_addOctet_16 : decode cX0_addOctet 16 = .ok (.lshl, 1) := by decide +kernel
theorem dX0_addOctet_17 : decode cX0_addOctet 17 = .ok (.lstore_n 3, 1) := by decide +kernel
theorem dX0_addOctet_18 : decode cX0_addOctet 18 = .ok (.iload_n 1, 1) := by decide +kernel
theorem dX0_addOctet_19 : decode cX0_addOctet 19 = .ok (.bipush 8, 2) := by decide +kernel
theorem dX0_addOctet_21 : decode cX0_addOctet 21 = .ok (.if_icmp .ge 16, 3) := by decide +kernel
theorem dX0_addOctet_24 : decode cX0_addOctet 24 = .ok (.aload_n 0, 1) := by decide +kernel
theorem dX0_addOctet_25 : decode cX0_addOctet 25 = .ok (.dup, 1) := by decide +kernel
theorem dX0_addOctet_26 : decode cX0_addOctet 26 = .ok (.getfield 7, 3) := by decide +kernel
theorem dX0_addOctet_29 : decode cX0_addOctet 29 = .ok (.lload_n 3, 1) := by decide +kernel
theorem dX0_addOctet_30 : decode cX0_addOctet 30 = .ok (.lxor, 1) := by decide +kernel
theorem dX0_addOctet_31 : decode cX0_addOctet 31 = .ok (.putfield 7, 3) := by decide +kernel
theorem dX0_addOctet_34 : decode cX0_addOctet 34 = .ok (.goto 13, 3) := by decide +kernel
theorem dX0_addOctet_37 : decode cX0_addOctet 37 = .ok (.aload_n 0, 1) := by decide +kernel
theorem dX0_addOctet_38 : decode cX0_addOctet 38 = .ok (.dup, 1) := by decide +kernel
theorem dX0_addOctet_39 : decode cX0_addOctet 39 = .ok (.getfield 13, 3) := by decide +kernel
theorem dX0_addOctet_42 : decode cX0_addOctet 42 = .ok (.lload_n 3, 1) := by decide +kernel
theorem dX0_addOctet_43 : decode cX0_addOctet 43 = .ok (.lxor, 1) := by decide +kernel
theorem dX0_addOctet_44 : decode cX0_addOctet 44 = .ok (.putfield 13, 3) := by decide +kernel
theorem dX0_addOctet_47 : decode cX0_addOctet 47 = .ok (.return_, 1) := by decide +kernel
theorem dX0_comeIn_0 : decode cX0_comeIn 0 = .ok (.aload_n 0, 1) := by decide +kernel
theorem dX0_comeIn_1 : decode cX0_comeIn 1 = .ok (.aload_n 0, 1) := by decide +kernel
theorem dX0_comeIn_2 : decode cX0_comeIn 2 = .ok (.getfield 7, 3) := by decide +kernel
theorem dX0_comeIn_5 : decode cX0_comeIn 5 = .ok (.bipush 8, 2) := by decide +kernel
theorem dX0_comeIn_7 : decode cX0_comeIn 7 = .ok (.lshl, 1) := by decide +kernel
theorem dX0_comeIn_8 : decode cX0_comeIn 8 = .ok (.aload_n 0, 1) := by decide +kernel
theorem dX0_comeIn_9 : decode cX0_comeIn 9 = .ok (.getfield 13, 3) := by decide +kernel
theorem dX0_comeIn_12 : decode cX0_comeIn 12 = .ok (.bipush 56, 2) := by decide +kernel
theorem dX0_comeIn_14 : decode cX0_comeIn 14 = .ok (.lushr, 1) := by decide +kernel
theorem dX0_comeIn_15 : decode cX0_comeIn 15 = .ok (.lor, 1) := by decide +kernel
theorem dX0_comeIn_16 : decode cX0_comeIn 16 = .ok (.putfield 7, 3) := by decide +kernel
theorem dX0_comeIn_19 : decode cX0_comeIn 19 = .ok (.aload_n 0, 1) := by decide +kernel
theorem dX0_comeIn_20 : decode cX0_comeIn 20 = .ok (.aload_n 0, 1) := by decide +kernel
theorem dX0_comeIn_21 : decode cX0_comeIn 21 = .ok (.getfield 13, 3) := by decide +kernel
theorem dX0_comeIn_24 : decode cX0_comeIn 24 = .ok (.bipush 8, 2) := by decide +kernel
theorem dX0_comeIn_26 : decode cX0_comeIn 26 = .ok (.lshl, 1) := by decide +kernel
theorem dX0_comeIn_27 : decode cX0_comeIn 27 = .ok (.iload_n 1, 1) := by decide +kernel
theorem dX0_comeIn_28 : decode cX0_comeIn 28 = .ok (.sipush 255, 3) := by decide +kernel
theorem dX0_comeIn_31 : decode cX0_comeIn 31 = .ok (.iand, 1) := by decide +kernel
theorem dX0_comeIn_32 : decode cX0_comeIn 32 = .ok (.i2l, 1) := by decide +kernel
theorem dX0_comeIn_33 : decode cX0_comeIn 33 = .ok (.lor, 1) := by decide +kernel
theorem dX0_comeIn_34 : decode cX0_comeIn 34 = .ok (.putfield 13, 3) := by decide +kernel
theorem dX0_comeIn_37 : decode cX0_comeIn 37 = .ok (.return_, 1) := by decide +kernel
theorem dX0_keepFirst_0 : decode cX0_keepFirst 0 = .ok (.aload_n 0, 1) := by decide +kernel
theorem dX0_keepFirst_1 : decode cX0_keepFirst 1 = .ok (.dup, 1) := by decide +kernel
theorem dX0_keepFirst_2 : decode cX0_keepFirst 2 = .ok (.getfield 7, 3) := by decide +kernel
theorem dX0_keepFirst_5 : decode cX0_keepFirst 5 = .ok (.iload_n 1, 1) := by decide +kernel
theorem dX0_keepFirst_6 : decode cX0_keepFirst 6 = .ok (.invokestatic 24, 3) := by decide +kernel
theorem dX0_keepFirst_9 : decode cX0_keepFirst 9 = .ok (.land, 1) := by decide +kernel
theorem dX0_keepFirst_10 : decode cX0_keepFirst 10 = .ok (.putfield 7, 3) := by decide +kernel
theorem dX0_keepFirst_13 : decode cX0_keepFirst 13 = .ok (.aload_n 0, 1) := by decide +kernel
theorem dX0_keepFirst_14 : decode cX0_keepFirst 14 = .ok (.dup, 1) := by decide +kernel
theorem dX0_keepFirst_15 : decode cX0_keepFirst 15 = .ok (.getfield 13, 3) := by decide +kernel
theorem dX0_keepFirst_18 : decode cX0_keepFirst 18 = .ok (.iload_n 1, 1) := by decide +kernel
theorem dX0_keepFirst_19 : decode cX0_keepFirst 19 = .ok (.bipush 8, 2) := by decide +kernel
theorem dX0_keepFirst_21 : decode cX0_keepFirst 21 = .ok (.isub, 1) := by decide +kernel
theorem dX0_keepFirst_22 : decode cX0_keepFirst 22 = .ok (.invokestatic 24, 3) := by decide +kernel
theorem dX0_keepFirst_25 : decode cX0_keepFirst 25 = .ok (.land, 1) := by decide +kernel
theorem dX0_keepFirst_26 : decode cX0_keepFirst 26 = .ok (.putfield 13, 3) := by decide +kernel
theorem dX0_keepFirst_29 : decode cX0_keepFirst 29 = .ok (.return_, 1) := by decide +kernel
theorem dX0_dropFirst_0 : decode cX0_dropFirst 0 = .ok (.aload_n 0, 1) := by decide +kernel
theorem dX0_dropFirst_1 : decode cX0_dropFirst 1 = .ok (.dup, 1) := by decide +kernel
theorem dX0_dropFirst_2 : decode cX0_dropFirst 2 = .ok (.getfield 7, 3) := by decide +kernel
theorem dX0_dropFirst_5 : decode cX0_dropFirst 5 = .ok (.iload_n 1, 1) := by decide +kernel
theorem dX0_dropFirst_6 : decode cX0_dropFirst 6 = .ok (.invokestatic 24, 3) := by decide +kernel
theorem dX0_dropFirst_9 : decode cX0_dropFirst 9 = .ok (.ldc2_w 27, 3) := by decide +kernel
theorem dX0_dropFirst_12 : decode cX0_dropFirst 12 = .ok (.lxor, 1) := by decide +kernel
theorem dX0_dropFirst_13 : decode cX0_dropFirst 13 = .ok (.land, 1) := by decide +kernel
theorem dX0_dropFirst_14 : decode cX0_dropFirst 14 = .ok (.putfield 7, 3) := by decide +kernel
theorem dX0_dropFirst_17 : decode cX0_dropFirst 17 = .ok (.aload_n 0, 1) := by decide +kernel
theorem dX0_dropFirst_18 : decode cX0_dropFirst 18 = .ok (.dup, 1) := by decide +kernel
theorem dX0_dropFirst_19 : decode cX0_dropFirst 19 = .ok (.getfield 13, 3) := by decide +kernel
theorem dX0_dropFirst_22 : decode cX0_dropFirst 22 = .ok (.iload_n 1, 1) := by decide +kernel
theorem dX0_dropFirst_23 : decode cX0_dropFirst 23 = .ok (.bipush 8, 2) := by decide +kernel
theorem dX0_dropFirst_25 : decode cX0_dropFirst 25 = .ok (.isub, 1) := by decide +kernel
theorem dX0_dropFirst_26 : decode cX0_dropFirst 26 = .ok (.invokestatic 24, 3) := by decide +kernel
theorem dX0_dropFirst_29 : decode cX0_dropFirst 29 = .ok (.ldc2_w 27, 3) := by decide +kernel
theorem dX0_dropFirst_32 : decode cX0_dropFirst 32 = .ok (.lxor, 1) := by decide +kernel
theorem dX0_dropFirst_33 : decode cX0_dropFirst 33 = .ok (.land, 1) := by decide +kernel
theorem dX0_dropFirst_34 : decode cX0_dropFirst 34 = .ok (.putfield 13, 3) := by decide +kernel
theorem dX0_dropFirst_37 : decode cX0_dropFirst 37 = .ok (.return_, 1) := by decide +kernel
theorem dX0_firstOctets_0 : decode cX0_firstOctets 0 = .ok (.iload_n 0, 1) := by decide +kernel
theorem dX0_firstOctets_1 : decode cX0_firstOctets 1 = .ok (.ifCond .gt 5, 3) := by decide +kernel
theorem dX0_firstOctets_4 : decode cX0_firstOctets 4 = .ok (.lconst 0, 1) := by decide +kernel
theorem dX0_firstOctets_5 : decode cX0_firstOctets 5 = .ok (.lreturn, 1) := by decide +kernel
theorem dX0_firstOctets_6 : decode cX0_firstOctets 6 = .ok (.iload_n 0, 1) := by decide +kernel
theorem dX0_firstOctets_7 : decode cX0_firstOctets 7 = .ok (.bipush 8, 2) := by decide +kernel
theorem dX0_firstOctets_9 : decode cX0_firstOctets 9 = .ok (.if_icmp .lt 9, 3) := by decide +kernel
theorem dX0_firstOctets_12 : decode cX0_firstOctets 12 = .ok (.ldc2_w 27, 3) := by decide +kernel
theorem dX0_firstOctets_15 : decode cX0_firstOctets 15 = .ok (.goto 14, 3) := by decide +kernel
theorem dX0_firstOctets_18 : decode cX0_firstOctets 18 = .ok (.ldc2_w 27, 3) := by decide +kernel
theorem dX0_firstOctets_21 : decode cX0_firstOctets 21 = .ok (.bipush 64, 2) := by decide +kernel
theorem dX0_firstOctets_23 : decode cX0_firstOctets 23 = .ok (.bipush 8, 2) := by decide +kernel
theorem dX0_firstOctets_25 : decode cX0_firstOctets 25 = .ok (.iload_n 0, 1) := by decide +kernel
theorem dX0_firstOctets_26 : decode cX0_firstOctets 26 = .ok (.imul, 1) := by decide +kernel
theorem dX0_firstOctets_27 : decode cX0_firstOctets 27 = .ok (.isub, 1) := by decide +kernel
theorem dX0_firstOctets_28 : decode cX0_firstOctets 28 = .ok (.lshl, 1) := by decide +kernel
theorem dX0_firstOctets_29 : decode cX0_firstOctets 29 = .ok (.lreturn, 1) := by decide +kernel
theorem dX0_same_0 : decode cX0_same 0 = .ok (.aload_n 0, 1) := by decide +kernel
theorem dX0_same_1 : decode cX0_same 1 = .ok (.getfield 7, 3) := by decide +kernel
theorem dX0_same_4 : decode cX0_same 4 = .ok (.aload_n 1, 1) := by decide +kernel
theorem dX0_same_5 : decode cX0_same 5 = .ok (.getfield 7, 3) := by decide +kernel
theorem dX0_same_8 : decode cX0_same 8 = .ok (.lxor, 1) := by decide +kernel
theorem dX0_same_9 : decode cX0_same 9 = .ok (.aload_n 0, 1) := by decide +kernel
theorem dX0_same_10 : decode cX0_same 10 = .ok (.getfield 13, 3) := by decide +kernel
theorem dX0_same_13 : decode cX0_same 13 = .ok (.aload_n 1, 1) := by decide +kernel
theorem dX0_same_14 : decode cX0_same 14 = .ok (.getfield 13, 3) := by decide +kernel
theorem dX0_same_17 : decode cX0_same 17 = .ok (.lxor, 1) := by decide +kernel
theorem dX0_same_18 : decode cX0_same 18 = .ok (.lor, 1) := by decide +kernel
theorem dX0_same_19 : decode cX0_same 19 = .ok (.lconst 0, 1) := by decide +kernel
theorem dX0_same_20 : decode cX0_same 20 = .ok (.lcmp, 1) := by decide +kernel
theorem dX0_same_21 : decode cX0_same 21 = .ok (.ifCond .ne 7, 3) := by decide +kernel
theorem dX0_same_24 : decode cX0_same 24 = .ok (.iconst 1, 1) := by decide +kernel
theorem dX0_same_25 : decode cX0_same 25 = .ok (.goto 4, 3) := by decide +kernel
theorem dX0_same_28 : decode cX0_same 28 = .ok (.iconst 0, 1) := by decide +kernel
theorem dX0_same_29 : decode cX0_same 29 = .ok (.ireturn, 1) := by decide +kernel
theorem dX0_makeDouble_0 : decode cX0_makeDouble 0 = .ok (.aload_n 0, 1) := by decide +kernel
theorem dX0_makeDouble_1 : decode cX0_makeDouble 1 = .ok (.getfield 7, 3) := by decide +kernel
theorem dX0_makeDouble_4 : decode cX0_makeDouble 4 = .ok (.bipush 63, 2) := by decide +kernel
theorem dX0_makeDouble_6 : decode cX0_makeDouble 6 = .ok (.lushr, 1) := by decide +kernel
theorem dX0_makeDouble_7 : decode cX0_makeDouble 7 = .ok (.lstore_n 1, 1) := by decide +kernel
theorem dX0_makeDouble_8 : decode cX0_makeDouble 8 = .ok (.aload_n 0, 1) := by decide +kernel
theorem dX0_makeDouble_9 : decode cX0_makeDouble 9 = .ok (.aload_n 0, 1) := by decide +kernel
theorem dX0_makeDouble_10 : decode cX0_makeDouble 10 = .ok (.getfield 7, 3) := by decide +kernel
theorem dX0_makeDouble_13 : decode cX0_makeDouble 13 = .ok (.iconst 1, 1) := by decide +kernel
theorem dX0_makeDouble_14 : decode cX0_makeDouble 14 = .ok (.lshl, 1) := by decide +kernel
theorem dX0_makeDouble_15 : decode cX0_makeDouble 15 = .ok (.aload_n 0, 1) := by decide +kernel
theorem dX0_makeDouble_16 : decode cX0_makeDouble 16 = .ok (.getfield 13, 3) := by decide +kernel
theorem dX0_makeDouble_19 : decode cX0_makeDouble 19 = .ok (.bipush 63, 2) := by decide +kernel
theorem dX0_makeDouble_21 : decode cX0_makeDouble 21 = .ok (.lushr, 1) := by decide +kernel
theorem dX0_makeDouble_22 : decode cX0_makeDouble 22 = .ok (.lor, 1) := by decide +kernel
theorem dX0_makeDouble_23 : decode cX0_makeDouble 23 = .ok (.putfield 7, 3) := by decide +kernel
theorem dX0_makeDouble_26 : decode cX0_makeDouble 26 = .ok (.aload_n 0, 1) := by decide +kernel
theorem dX0_makeDouble_27 : decode cX0_makeDouble 27 = .ok (.aload_n 0, 1) := by decide +kernel
theorem dX0_makeDouble_28 : decode cX0_makeDouble 28 = .ok (.getfield 13, 3) := by decide +kernel
theorem dX0_makeDouble_31 : decode cX0_makeDouble 31 = .ok (.iconst 1, 1) := by decide +kernel
theorem dX0_makeDouble_32 : decode cX0_makeDouble 32 = .ok (.lshl, 1) := by decide +kernel
theorem dX0_makeDouble_33 : decode cX0_makeDouble 33 = .ok (.lload_n 1, 1) := by decide +kernel
theorem dX0_makeDouble_34 : decode cX0_makeDouble 34 = .ok (.ldc2_w 29, 3) := by decide +kernel
theorem dX0_makeDouble_37 : decode cX0_makeDouble 37 = .ok (.lmul, 1) := by decide +kernel
theorem dX0_makeDouble_38 : decode cX0_makeDouble 38 = .ok (.lxor, 1) := by decide +kernel
theorem dX0_makeDouble_39 : decode cX0_makeDouble 39 = .ok (.putfield 13, 3) := by decide +kernel
theorem dX0_makeDouble_42 : decode cX0_makeDouble 42 = .ok (.return_, 1) := by decide +kernel
theorem dX0_makeDoubleLowFirst_0 : decode cX0_makeDoubleLowFirst 0 = .ok (.aload_n 0, 1) := by decide +kernel
theorem dX0_makeDoubleLowFirst_1 : decode cX0_makeDoubleLowFirst 1 = .ok (.getfield 13, 3) := by decide +kernel
theorem dX0_makeDoubleLowFirst_4 : decode cX0_makeDoubleLowFirst 4 = .ok (.bipush 7, 2) := by decide +kernel
theorem dX0_makeDoubleLowFirst_6 : decode cX0_makeDoubleLowFirst 6 = .ok (.lushr, 1) := by decide +kernel
theorem dX0_makeDoubleLowFirst_7 : decode cX0_makeDoubleLowFirst 7 = .ok (.lconst 1, 1) := by decide +kernel
theorem dX0_makeDoubleLowFirst_8 : decode cX0_makeDoubleLowFirst 8 = .ok (.land, 1) := by decide +kernel
theorem dX0_makeDoubleLowFirst_9 : decode cX0_makeDoubleLowFirst 9 = .ok (.ldc2_w 29, 3) := by decide +kernel
theorem dX0_makeDoubleLowFirst_12 : decode cX0_makeDoubleLowFirst 12 = .ok (.lmul, 1) := by decide +kernel
theorem dX0_makeDoubleLowFirst_13 : decode cX0_makeDoubleLowFirst 13 = .ok (.lstore_n 1, 1) := by decide +kernel
theorem dX0_makeDoubleLowFirst_14 : decode cX0_makeDoubleLowFirst 14 = .ok (.aload_n 0, 1) := by decide +kernel
theorem dX0_makeDoubleLowFirst_15 : decode cX0_makeDoubleLowFirst 15 = .ok (.getfield 7, 3) := by decide +kernel
theorem dX0_makeDoubleLowFirst_18 : decode cX0_makeDoubleLowFirst 18 = .ok (.bipush 7, 2) := by decide +kernel
theorem dX0_makeDoubleLowFirst_20 : decode cX0_makeDoubleLowFirst 20 = .ok (.lushr, 1) := by decide +kernel
theorem dX0_makeDoubleLowFirst_21 : decode cX0_makeDoubleLowFirst 21 = .ok (.lconst 1, 1) := by decide +kernel
theorem dX0_makeDoubleLowFirst_22 : decode cX0_makeDoubleLowFirst 22 = .ok (.land, 1) := by decide +kernel
theorem dX0_makeDoubleLowFirst_23 : decode cX0_makeDoubleLowFirst 23 = .ok (.lstore_n 3, 1) := by decide +kernel
theorem dX0_makeDoubleLowFirst_24 : decode cX0_makeDoubleLowFirst 24 = .ok (.aload_n 0, 1) := by decide +kernel
theorem dX0_makeDoubleLowFirst_25 : decode cX0_makeDoubleLowFirst 25 = .ok (.aload_n 0, 1) := by decide +kernel
theorem dX0_makeDoubleLowFirst_26 : decode cX0_makeDoubleLowFirst 26 = .ok (.getfield 7, 3) := by decide +kernel
theorem dX0_makeDoubleLowFirst_29 : decode cX0_makeDoubleLowFirst 29 = .ok (.ldc2_w 31, 3) := by decide +kernel
theorem dX0_makeDoubleLowFirst_32 : decode cX0_makeDoubleLowFirst 32 = .ok (.land, 1) := by decide +kernel
theorem dX0_makeDoubleLowFirst_33 : decode cX0_makeDoubleLowFirst 33 = .ok (.iconst 1, 1) := by decide +kernel
theorem dX0_makeDoubleLowFirst_34 : decode cX0_makeDoubleLowFirst 34 = .ok (.lshl, 1) := by decide +kernel
theorem dX0_makeDoubleLowFirst_35 : decode cX0_makeDoubleLowFirst 35 = .ok (.aload_n 0, 1) := by decide +kernel
theorem dX0_makeDoubleLowFirst_36 : decode cX0_makeDoubleLowFirst 36 = .ok (.getfield 7, 3) := by decide +kernel
theorem dX0_makeDoubleLowFirst_39 : decode cX0_makeDoubleLowFirst 39 = .ok (.ldc2_w 33, 3) := by decide +kernel
theorem dX0_makeDoubleLowFirst_42 : decode cX0_makeDoubleLowFirst 42 = .ok (.land, 1) := by decide +kernel
theorem dX0_makeDoubleLowFirst_43 : decode cX0_makeDoubleLowFirst 43 = .ok (.bipush 15, 2) := by decide +kernel
theorem dX0_makeDoubleLowFirst_45 : decode cX0_makeDoubleLowFirst 45 = .ok (.lushr, 1) := by decide +kernel
theorem dX0_makeDoubleLowFirst_46 : decode cX0_makeDoubleLowFirst 46 = .ok (.lor, 1) := by decide +kernel
theorem dX0_makeDoubleLowFirst_47 : decode cX0_makeDoubleLowFirst 47 = .ok (.putfield 7, 3) := by decide +kernel
theorem dX0_makeDoubleLowFirst_50 : decode cX0_makeDoubleLowFirst 50 = .ok (.aload_n 0, 1) := by decide +kernel
theorem dX0_makeDoubleLowFirst_51 : decode cX0_makeDoubleLowFirst 51 = .ok (.aload_n 0, 1) := by decide +kernel
theorem dX0_makeDoubleLowFirst_52 : decode cX0_makeDoubleLowFirst 52 = .ok (.getfield 13, 3) := by decide +kernel
theorem dX0_makeDoubleLowFirst_55 : decode cX0_makeDoubleLowFirst 55 = .ok (.ldc2_w 31, 3) := by decide +kernel
theorem dX0_makeDoubleLowFirst_58 : decode cX0_makeDoubleLowFirst 58 = .ok (.land, 1) := by decide +kernel
theorem dX0_makeDoubleLowFirst_59 : decode cX0_makeDoubleLowFirst 59 = .ok (.iconst 1, 1) := by decide +kernel
theorem dX0_makeDoubleLowFirst_60 : decode cX0_makeDoubleLowFirst 60 = .ok (.lshl, 1) := by decide +kernel
theorem dX0_makeDoubleLowFirst_61 : decode cX0_makeDoubleLowFirst 61 = .ok (.aload_n 0, 1) := by decide +kernel
theorem dX0_makeDoubleLowFirst_62 : decode cX0_makeDoubleLowFirst 62 = .ok (.getfield 13, 3) := by decide +kernel
theorem dX0_makeDoubleLowFirst_65 : decode cX0_makeDoubleLowFirst 65 = .ok (.ldc2_w 33, 3) := by decide +kernel
theorem dX0_makeDoubleLowFirst_68 : decode cX0_makeDoubleLowFirst 68 = .ok (.land, 1) := by decide +kernel
theorem dX0_makeDoubleLowFirst_69 : decode cX0_makeDoubleLowFirst 69 = .ok (.bipush 15, 2) := by decide +kernel
theorem dX0_makeDoubleLowFirst_71 : decode cX0_makeDoubleLowFirst 71 = .ok (.lushr, 1) := by decide +kernel
theorem dX0_makeDoubleLowFirst_72 : decode cX0_makeDoubleLowFirst 72 = .ok (.lor, 1) := by decide +kernel
theorem dX0_makeDoubleLowFirst_73 : decode cX0_makeDoubleLowFirst 73 = .ok (.putfield 13, 3) := by decide +kernel
theorem dX0_makeDoubleLowFirst_76 : decode cX0_makeDoubleLowFirst 76 = .ok (.aload_n 0, 1) := by decide +kernel
theorem dX0_makeDoubleLowFirst_77 : decode cX0_makeDoubleLowFirst 77 = .ok (.dup, 1) := by decide +kernel
theorem dX0_makeDoubleLowFirst_78 : decode cX0_makeDoubleLowFirst 78 = .ok (.getfield 7, 3) := by decide +kernel
theorem dX0_makeDoubleLowFirst_81 : decode cX0_makeDoubleLowFirst 81 = .ok (.lload_n 1, 1) := by decide +kernel
theorem dX0_makeDoubleLowFirst_82 : decode cX0_makeDoubleLowFirst 82 = .ok (.bipush 56, 2) := by decide +kernel
theorem dX0_makeDoubleLowFirst_84 : decode cX0_makeDoubleLowFirst 84 = .ok (.lshl, 1) := by decide +kernel
theorem dX0_makeDoubleLowFirst_85 : decode cX0_makeDoubleLowFirst 85 = .ok (.lxor, 1) := by decide +kernel
theorem dX0_makeDoubleLowFirst_86 : decode cX0_makeDoubleLowFirst 86 = .ok (.putfield 7, 3) := by decide +kernel
theorem dX0_makeDoubleLowFirst_89 : decode cX0_makeDoubleLowFirst 89 = .ok (.aload_n 0, 1) := by decide +kernel
theorem dX0_makeDoubleLowFirst_90 : decode cX0_makeDoubleLowFirst 90 = .ok (.dup, 1) := by decide +kernel
theorem dX0_makeDoubleLowFirst_91 : decode cX0_makeDoubleLowFirst 91 = .ok (.getfield 13, 3) := by decide +kernel
theorem dX0_makeDoubleLowFirst_94 : decode cX0_makeDoubleLowFirst 94 = .ok (.lload_n 3, 1) := by decide +kernel
theorem dX0_makeDoubleLowFirst_95 : decode cX0_makeDoubleLowFirst 95 = .ok (.bipush 56, 2) := by decide +kernel
theorem dX0_makeDoubleLowFirst_97 : decode cX0_makeDoubleLowFirst 97 = .ok (.lshl, 1) := by decide +kernel
theorem dX0_makeDoubleLowFirst_98 : decode cX0_makeDoubleLowFirst 98 = .ok (.lxor, 1) := by decide +kernel
theorem dX0_makeDoubleLowFirst_99 : decode cX0_makeDoubleLowFirst 99 = .ok (.putfield 13, 3) := by decide +kernel
theorem dX0_makeDoubleLowFirst_102 : decode cX0_makeDoubleLowFirst 102 = .ok (.return_, 1) := by decide +kernel
theorem dX0_addOne_0 : decode cX0_addOne 0 = .ok (.aload_n 0, 1) := by decide +kernel
theorem dX0_addOne_1 : decode cX0_addOne 1 = .ok (.dup, 1) := by decide +kernel
theorem dX0_addOne_2 : decode cX0_addOne 2 = .ok (.getfield 13, 3) := by decide +kernel
theorem dX0_addOne_5 : decode cX0_addOne 5 = .ok (.lconst 1, 1) := by decide +kernel
theorem dX0_addOne_6 : decode cX0_addOne 6 = .ok (.ladd, 1) := by decide +kernel
theorem dX0_addOne_7 : decode cX0_addOne 7 = .ok (.putfield 13, 3) := by decide +kernel
theorem dX0_addOne_10 : decode cX0_addOne 10 = .ok (.aload_n 0, 1) := by decide +kernel
theorem dX0_addOne_11 : decode cX0_addOne 11 = .ok (.dup, 1) := by decide +kernel
theorem dX0_addOne_12 : decode cX0_addOne 12 = .ok (.getfield 7, 3) := by decide +kernel
theorem dX0_addOne_15 : decode cX0_addOne 15 = .ok (.aload_n 0, 1) := by decide +kernel
theorem dX0_addOne_16 : decode cX0_addOne 16 = .ok (.getfield 13, 3) := by decide +kernel
theorem dX0_addOne_19 : decode cX0_addOne 19 = .ok (.aload_n 0, 1) := by decide +kernel
theorem dX0_addOne_20 : decode cX0_addOne 20 = .ok (.getfield 13, 3) := by decide +kernel
theorem dX0_addOne_23 : decode cX0_addOne 23 = .ok (.lneg, 1) := by decide +kernel
theorem dX0_addOne_24 : decode cX0_addOne 24 = .ok (.lor, 1) := by decide +kernel
theorem dX0_addOne_25 : decode cX0_addOne 25 = .ok (.bipush 63, 2) := by decide +kernel
theorem dX0_addOne_27 : decode cX0_addOne 27 = .ok (.lushr, 1) := by decide +kernel
theorem dX0_addOne_28 : decode cX0_addOne 28 = .ok (.lconst 1, 1) := by decide +kernel
theorem dX0_addOne_29 : decode cX0_addOne 29 = .ok (.lxor, 1) := by decide +kernel
theorem dX0_addOne_30 : decode cX0_addOne 30 = .ok (.ladd, 1) := by decide +kernel
theorem dX0_addOne_31 : decode cX0_addOne 31 = .ok (.putfield 7, 3) := by decide +kernel
theorem dX0_addOne_34 : decode cX0_addOne 34 = .ok (.return_, 1) := by decide +kernel
theorem dX0_addOneToLastFour_0 : decode cX0_addOneToLastFour 0 = .ok (.aload_n 0, 1) := by decide +kernel
theorem dX0_addOneToLastFour_1 : decode cX0_addOneToLastFour 1 = .ok (.aload_n 0, 1) := by decide +kernel
theorem dX0_addOneToLastFour_2 : decode cX0_addOneToLastFour 2 = .ok (.getfield 13, 3) := by decide +kernel
theorem dX0_addOneToLastFour_5 : decode cX0_addOneToLastFour 5 = .ok (.ldc2_w 35, 3) := by decide +kernel
theorem dX0_addOneToLastFour_8 : decode cX0_addOneToLastFour 8 = .ok (.land, 1) := by decide +kernel
theorem dX0_addOneToLastFour_9 : decode cX0_addOneToLastFour 9 = .ok (.aload_n 0, 1) := by decide +kernel
theorem dX0_addOneToLastFour_10 : decode cX0_addOneToLastFour 10 = .ok (.getfield 13, 3) := by decide +kernel
theorem dX0_addOneToLastFour_13 : decode cX0_addOneToLastFour 13 = .ok (.lconst 1, 1) := by decide +kernel
theorem dX0_addOneToLastFour_14 : decode cX0_addOneToLastFour 14 = .ok (.ladd, 1) := by decide +kernel
theorem dX0_addOneToLastFour_15 : decode cX0_addOneToLastFour 15 = .ok (.ldc2_w 37, 3) := by decide +kernel
theorem dX0_addOneToLastFour_18 : decode cX0_addOneToLastFour 18 = .ok (.land, 1) := by decide +kernel
theorem dX0_addOneToLastFour_19 : decode cX0_addOneToLastFour 19 = .ok (.lor, 1) := by decide +kernel
theorem dX0_addOneToLastFour_20 : decode cX0_addOneToLastFour 20 = .ok (.putfield 13, 3) := by decide +kernel
theorem dX0_addOneToLastFour_23 : decode cX0_addOneToLastFour 23 = .ok (.return_, 1) := by decide +kernel
theorem dX0_multiply_0 : decode cX0_multiply 0 = .ok (.aload_n 0, 1) := by decide +kernel
theorem dX0_multiply_1 : decode cX0_multiply 1 = .ok (.getfield 7, 3) := by decide +kernel
theorem dX0_multiply_4 : decode cX0_multiply 4 = .ok (.lstore_n 2, 1) := by decide +kernel
theorem dX0_multiply_5 : decode cX0_multiply 5 = .ok (.aload_n 0, 1) := by decide +kernel
theorem dX0_multiply_6 : decode cX0_multiply 6 = .ok (.getfield 13, 3) := by decide +kernel
theorem dX0_multiply_9 : decode cX0_multiply 9 = .ok (.lstore 4, 2) := by decide +kernel
theorem dX0_multiply_11 : decode cX0_multiply 11 = .ok (.aload_n 1, 1) := by decide +kernel
theorem dX0_multiply_12 : decode cX0_multiply 12 = .ok (.getfield 7, 3) := by decide +kernel
theorem dX0_multiply_15 : decode cX0_multiply 15 = .ok (.lstore 6, 2) := by decide +kernel
theorem dX0_multiply_17 : decode cX0_multiply 17 = .ok (.aload_n 1, 1) := by decide +kernel
theorem dX0_multiply_18 : decode cX0_multiply 18 = .ok (.getfield 13, 3) := by decide +kernel
theorem dX0_multiply_21 : decode cX0_multiply 21 = .ok (.lstore 8, 2) := by decide +kernel
theorem dX0_multiply_23 : decode cX0_multiply 23 = .ok (.aload_n 0, 1) := by decide +kernel
theorem dX0_multiply_24 : decode cX0_multiply 24 = .ok (.lconst 0, 1) := by decide +kernel
theorem dX0_multiply_25 : decode cX0_multiply 25 = .ok (.putfield 7, 3) := by decide +kernel
theorem dX0_multiply_28 : decode cX0_multiply 28 = .ok (.aload_n 0, 1) := by decide +kernel
theorem dX0_multiply_29 : decode cX0_multiply 29 = .ok (.lconst 0, 1) := by decide +kernel
theorem dX0_multiply_30 : decode cX0_multiply 30 = .ok (.putfield 13, 3) := by decide +kernel
theorem dX0_multiply_33 : decode cX0_multiply 33 = .ok (.iconst 0, 1) := by decide +kernel
theorem dX0_multiply_34 : decode cX0_multiply 34 = .ok (.istore 10, 2) := by decide +kernel
theorem dX0_multiply_36 : decode cX0_multiply 36 = .ok (.iload 10, 2) := by decide +kernel
theorem dX0_multiply_38 : decode cX0_multiply 38 = .ok (.sipush 128, 3) := by decide +kernel
theorem dX0_multiply_41 : decode cX0_multiply 41 = .ok (.if_icmp .ge 91, 3) := by decide +kernel
theorem dX0_multiply_44 : decode cX0_multiply 44 = .ok (.lload_n 2, 1) := by decide +kernel
theorem dX0_multiply_45 : decode cX0_multiply 45 = .ok (.bipush 63, 2) := by decide +kernel
theorem dX0_multiply_47 : decode cX0_multiply 47 = .ok (.lshr, 1) := by decide +kernel
theorem dX0_multiply_48 : decode cX0_multiply 48 = .ok (.lstore 11, 2) := by decide +kernel
theorem dX0_multiply_50 : decode cX0_multiply 50 = .ok (.aload_n 0, 1) := by decide +kernel
theorem dX0_multiply_51 : decode cX0_multiply 51 = .ok (.dup, 1) := by decide +kernel
theorem dX0_multiply_52 : decode cX0_multiply 52 = .ok (.getfield 7, 3) := by decide +kernel
theorem dX0_multiply_55 : decode cX0_multiply 55 = .ok (.lload 6, 2) := by decide +kernel
theorem dX0_multiply_57 : decode cX0_multiply 57 = .ok (.lload 11, 2) := by decide +kernel
theorem dX0_multiply_59 : decode cX0_multiply 59 = .ok (.land, 1) := by decide +kernel
theorem dX0_multiply_60 : decode cX0_multiply 60 = .ok (.lxor, 1) := by decide +kernel
theorem dX0_multiply_61 : decode cX0_multiply 61 = .ok (.putfield 7, 3) := by decide +kernel
theorem dX0_multiply_64 : decode cX0_multiply 64 = .ok (.aload_n 0, 1) := by decide +kernel
theorem dX0_multiply_65 : decode cX0_multiply 65 = .ok (.dup, 1) := by decide +kernel
theorem dX0_multiply_66 : decode cX0_multiply 66 = .ok (.getfield 13, 3) := by decide +kernel
theorem dX0_multiply_69 : decode cX0_multiply 69 = .ok (.lload 8, 2) := by decide +kernel
theorem dX0_multiply_71 : decode cX0_multiply 71 = .ok (.lload 11, 2) := by decide +kernel
theorem dX0_multiply_73 : decode cX0_multiply 73 = .ok (.land, 1) := by decide +kernel
theorem dX0_multiply_74 : decode cX0_multiply 74 = .ok (.lxor, 1) := by decide +kernel
theorem dX0_multiply_75 : decode cX0_multiply 75 = .ok (.putfield 13, 3) := by decide +kernel
theorem dX0_multiply_78 : decode cX0_multiply 78 = .ok (.lload_n 2, 1) := by decide +kernel
theorem dX0_multiply_79 : decode cX0_multiply 79 = .ok (.iconst 1, 1) := by decide +kernel
theorem dX0_multiply_80 : decode cX0_multiply 80 = .ok (.lshl, 1) := by decide +kernel
theorem dX0_multiply_81 : decode cX0_multiply 81 = .ok (.lload 4, 2) := by decide +kernel
theorem dX0_multiply_83 : decode cX0_multiply 83 = .ok (.bipush 63, 2) := by decide +kernel
theorem dX0_multiply_85 : decode cX0_multiply 85 = .ok (.lushr, 1) := by decide +kernel
theorem dX0_multiply_86 : decode cX0_multiply 86 = .ok (.lor, 1) := by decide +kernel
theorem dX0_multiply_87 : decode cX0_multiply 87 = .ok (.lstore_n 2, 1) := by decide +kernel
theorem dX0_multiply_88 : decode cX0_multiply 88 = .ok (.lload 4, 2) := by decide +kernel
theorem dX0_multiply_90 : decode cX0_multiply 90 = .ok (.iconst 1, 1) := by decide +kernel
theorem dX0_multiply_91 : decode cX0_multiply 91 = .ok (.lshl, 1) := by decide +kernel
theorem dX0_multiply_92 : decode cX0_multiply 92 = .ok (.lstore 4, 2) := by decide +kernel
theorem dX0_multiply_94 : decode cX0_multiply 94 = .ok (.lload 8, 2) := by decide +kernel
theorem dX0_multiply_96 : decode cX0_multiply 96 = .ok (.lconst 1, 1) := by decide +kernel
theorem dX0_multiply_97 : decode cX0_multiply 97 = .ok (.land, 1) := by decide +kernel
theorem dX0_multiply_98 : decode cX0_multiply 98 = .ok (.lneg, 1) := by decide +kernel
theorem dX0_multiply_99 : decode cX0_multiply 99 = .ok (.lstore 13, 2) := by decide +kernel
theorem dX0_multiply_101 : decode cX0_multiply 101 = .ok (.lload 8, 2) := by decide +kernel
theorem dX0_multiply_103 : decode cX0_multiply 103 = .ok (.iconst 1, 1) := by decide +kernel
theorem dX0_multiply_104 : decode cX0_multiply 104 = .ok (.lushr, 1) := by decide +kernel
theorem dX0_multiply_105 : decode cX0_multiply 105 = .ok (.lload 6, 2) := by decide +kernel
theorem dX0_multiply_107 : decode cX0_multiply 107 = .ok (.bipush 63, 2) := by decide +kernel
theorem dX0_multiply_109 : decode cX0_multiply 109 = .ok (.lshl, 1) := by decide +kernel
theorem dX0_multiply_110 : decode cX0_multiply 110 = .ok (.lor, 1) := by decide +kernel
theorem dX0_multiply_111 : decode cX0_multiply 111 = .ok (.lstore 8, 2) := by decide +kernel
theorem dX0_multiply_113 : decode cX0_multiply 113 = .ok (.lload 6, 2) := by decide +kernel
theorem dX0_multiply_115 : decode cX0_multiply 115 = .ok (.iconst 1, 1) := by decide +kernel
theorem dX0_multiply_116 : decode cX0_multiply 116 = .ok (.lushr, 1) := by decide +kernel
theorem dX0_multiply_117 : decode cX0_multiply 117 = .ok (.lload 13, 2) := by decide +kernel
theorem dX0_multiply_119 : decode cX0_multiply 119 = .ok (.ldc2_w 39, 3) := by decide +kernel
theorem dX0_multiply_122 : decode cX0_multiply 122 = .ok (.land, 1) := by decide +kernel
theorem dX0_multiply_123 : decode cX0_multiply 123 = .ok (.lxor, 1) := by decide +kernel
theorem dX0_multiply_124 : decode cX0_multiply 124 = .ok (.lstore 6, 2) := by decide +kernel
theorem dX0_multiply_126 : decode cX0_multiply 126 = .ok (.iinc 10 1, 3) := by decide +kernel
theorem dX0_multiply_129 : decode cX0_multiply 129 = .ok (.goto (-93), 3) := by decide +kernel
theorem dX0_multiply_132 : decode cX0_multiply 132 = .ok (.return_, 1) := by decide +kernel
