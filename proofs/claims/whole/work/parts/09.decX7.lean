theorem dX7_init_0 : decode cX7_init 0 = .ok (.aload_n 0, 1) := by decide +kernel
theorem dX7_init_1 : decode cX7_init 1 = .ok (.invokespecial 1, 3) := by decide +kernel
theorem dX7_init_4 : decode cX7_init 4 = .ok (.aload_n 0, 1) := by decide +kernel
theorem dX7_init_5 : decode cX7_init 5 = .ok (.aload_n 1, 1) := by decide +kernel
theorem dX7_init_6 : decode cX7_init 6 = .ok (.putfield 7, 3) := by decide +kernel
theorem dX7_init_9 : decode cX7_init 9 = .ok (.aload_n 0, 1) := by decide +kernel
theorem dX7_init_10 : decode cX7_init 10 = .ok (.aload_n 2, 1) := by decide +kernel
theorem dX7_init_11 : decode cX7_init 11 = .ok (.putfield 13, 3) := by decide +kernel
theorem dX7_init_14 : decode cX7_init 14 = .ok (.aload_n 0, 1) := by decide +kernel
theorem dX7_init_15 : decode cX7_init 15 = .ok (.aload_n 3, 1) := by decide +kernel
theorem dX7_init_16 : decode cX7_init 16 = .ok (.putfield 16, 3) := by decide +kernel
theorem dX7_init_19 : decode cX7_init 19 = .ok (.aload_n 0, 1) := by decide +kernel
theorem dX7_init_20 : decode cX7_init 20 = .ok (.new 20, 3) := by decide +kernel
theorem dX7_init_23 : decode cX7_init 23 = .ok (.dup, 1) := by decide +kernel
theorem dX7_init_24 : decode cX7_init 24 = .ok (.invokespecial 22, 3) := by decide +kernel
theorem dX7_init_27 : decode cX7_init 27 = .ok (.putfield 23, 3) := by decide +kernel
theorem dX7_init_30 : decode cX7_init 30 = .ok (.aload_n 0, 1) := by decide +kernel
theorem dX7_init_31 : decode cX7_init 31 = .ok (.new 20, 3) := by decide +kernel
theorem dX7_init_34 : decode cX7_init 34 = .ok (.dup, 1) := by decide +kernel
theorem dX7_init_35 : decode cX7_init 35 = .ok (.invokespecial 22, 3) := by decide +kernel
theorem dX7_init_38 : decode cX7_init 38 = .ok (.putfield 27, 3) := by decide +kernel
theorem dX7_init_41 : decode cX7_init 41 = .ok (.aload_n 0, 1) := by decide +kernel
theorem dX7_init_42 : decode cX7_init 42 = .ok (.new 20, 3) := by decide +kernel
theorem dX7_init_45 : decode cX7_init 45 = .ok (.dup, 1) := by decide +kernel
theorem dX7_init_46 : decode cX7_init 46 = .ok (.invokespecial 22, 3) := by decide +kernel
theorem dX7_init_49 : decode cX7_init 49 = .ok (.putfield 30, 3) := by decide +kernel
theorem dX7_init_52 : decode cX7_init 52 = .ok (.aload_n 0, 1) := by decide +kernel
theorem dX7_init_53 : decode cX7_init 53 = .ok (.new 20, 3) := by decide +kernel
theorem dX7_init_56 : decode cX7_init 56 = .ok (.dup, 1) := by decide +kernel
theorem dX7_init_57 : decode cX7_init 57 = .ok (.invokespecial 22, 3) := by decide +kernel
theorem dX7_init_60 : decode cX7_init 60 = .ok (.putfield 33, 3) := by decide +kernel
theorem dX7_init_63 : decode cX7_init 63 = .ok (.return_, 1) := by decide +kernel
theorem dX7_begin_0 : decode cX7_begin 0 = .ok (.aload_n 0, 1) := by decide +kernel
theorem dX7_begin_1 : decode cX7_begin 1 = .ok (.getfield 23, 3) := by decide +kernel
theorem dX7_begin_4 : decode cX7_begin 4 = .ok (.aload_n 0, 1) := by decide +kernel
theorem dX7_begin_5 : decode cX7_begin 5 = .ok (.getfield 16, 3) := by decide +kernel
theorem dX7_begin_8 : decode cX7_begin 8 = .ok (.iconst 0, 1) := by decide +kernel
theorem dX7_begin_9 : decode cX7_begin 9 = .ok (.invokevirtual 36, 3) := by decide +kernel
theorem dX7_begin_12 : decode cX7_begin 12 = .ok (.aload_n 0, 1) := by decide +kernel
theorem dX7_begin_13 : decode cX7_begin 13 = .ok (.getfield 13, 3) := by decide +kernel
theorem dX7_begin_16 : decode cX7_begin 16 = .ok (.aload_n 0, 1) := by decide +kernel
theorem dX7_begin_17 : decode cX7_begin 17 = .ok (.getfield 23, 3) := by decide +kernel
theorem dX7_begin_20 : decode cX7_begin 20 = .ok (.invokevirtual 40, 3) := by decide +kernel
theorem dX7_begin_23 : decode cX7_begin 23 = .ok (.return_, 1) := by decide +kernel
theorem dX7_lockBlock_0 : decode cX7_lockBlock 0 = .ok (.aload_n 1, 1) := by decide +kernel
theorem dX7_lockBlock_1 : decode cX7_lockBlock 1 = .ok (.aload_n 0, 1) := by decide +kernel
theorem dX7_lockBlock_2 : decode cX7_lockBlock 2 = .ok (.getfield 23, 3) := by decide +kernel
theorem dX7_lockBlock_5 : decode cX7_lockBlock 5 = .ok (.invokevirtual 46, 3) := by decide +kernel
theorem dX7_lockBlock_8 : decode cX7_lockBlock 8 = .ok (.aload_n 0, 1) := by decide +kernel
theorem dX7_lockBlock_9 : decode cX7_lockBlock 9 = .ok (.getfield 7, 3) := by decide +kernel
theorem dX7_lockBlock_12 : decode cX7_lockBlock 12 = .ok (.aload_n 1, 1) := by decide +kernel
theorem dX7_lockBlock_13 : decode cX7_lockBlock 13 = .ok (.invokevirtual 40, 3) := by decide +kernel
theorem dX7_lockBlock_16 : decode cX7_lockBlock 16 = .ok (.aload_n 1, 1) := by decide +kernel
theorem dX7_lockBlock_17 : decode cX7_lockBlock 17 = .ok (.aload_n 0, 1) := by decide +kernel
theorem dX7_lockBlock_18 : decode cX7_lockBlock 18 = .ok (.getfield 23, 3) := by decide +kernel
theorem dX7_lockBlock_21 : decode cX7_lockBlock 21 = .ok (.invokevirtual 46, 3) := by decide +kernel
theorem dX7_lockBlock_24 : decode cX7_lockBlock 24 = .ok (.return_, 1) := by decide +kernel
theorem dX7_unlockBlock_0 : decode cX7_unlockBlock 0 = .ok (.aload_n 1, 1) := by decide +kernel
theorem dX7_unlockBlock_1 : decode cX7_unlockBlock 1 = .ok (.aload_n 0, 1) := by decide +kernel
theorem dX7_unlockBlock_2 : decode cX7_unlockBlock 2 = .ok (.getfield 23, 3) := by decide +kernel
theorem dX7_unlockBlock_5 : decode cX7_unlockBlock 5 = .ok (.invokevirtual 46, 3) := by decide +kernel
theorem dX7_unlockBlock_8 : decode cX7_unlockBlock 8 = .ok (.aload_n 0, 1) := by decide +kernel
theorem dX7_unlockBlock_9 : decode cX7_unlockBlock 9 = .ok (.getfield 7, 3) := by decide +kernel
theorem dX7_unlockBlock_12 : decode cX7_unlockBlock 12 = .ok (.aload_n 1, 1) := by decide +kernel
theorem dX7_unlockBlock_13 : decode cX7_unlockBlock 13 = .ok (.invokevirtual 49, 3) := by decide +kernel
theorem dX7_unlockBlock_16 : decode cX7_unlockBlock 16 = .ok (.aload_n 1, 1) := by decide +kernel
theorem dX7_unlockBlock_17 : decode cX7_unlockBlock 17 = .ok (.aload_n 0, 1) := by decide +kernel
theorem dX7_unlockBlock_18 : decode cX7_unlockBlock 18 = .ok (.getfield 23, 3) := by decide +kernel
theorem dX7_unlockBlock_21 : decode cX7_unlockBlock 21 = .ok (.invokevirtual 46, 3) := by decide +kernel
theorem dX7_unlockBlock_24 : decode cX7_unlockBlock 24 = .ok (.return_, 1) := by decide +kernel
theorem dX7_lock_0 : decode cX7_lock 0 = .ok (.aload_n 1, 1) := by decide +kernel
theorem dX7_lock_1 : decode cX7_lock 1 = .ok (.getfield 52, 3) := by decide +kernel
theorem dX7_lock_4 : decode cX7_lock 4 = .ok (.bipush 15, 2) := by decide +kernel
theorem dX7_lock_6 : decode cX7_lock 6 = .ok (.iand, 1) := by decide +kernel
theorem dX7_lock_7 : decode cX7_lock 7 = .ok (.istore_n 3, 1) := by decide +kernel
theorem dX7_lock_8 : decode cX7_lock 8 = .ok (.aload_n 1, 1) := by decide +kernel
theorem dX7_lock_9 : decode cX7_lock 9 = .ok (.getfield 52, 3) := by decide +kernel
theorem dX7_lock_12 : decode cX7_lock 12 = .ok (.iload_n 3, 1) := by decide +kernel
theorem dX7_lock_13 : decode cX7_lock 13 = .ok (.isub, 1) := by decide +kernel
theorem dX7_lock_14 : decode cX7_lock 14 = .ok (.istore 4, 2) := by decide +kernel
theorem dX7_lock_16 : decode cX7_lock 16 = .ok (.aload_n 0, 1) := by decide +kernel
theorem dX7_lock_17 : decode cX7_lock 17 = .ok (.invokevirtual 58, 3) := by decide +kernel
theorem dX7_lock_20 : decode cX7_lock 20 = .ok (.iconst 0, 1) := by decide +kernel
theorem dX7_lock_21 : decode cX7_lock 21 = .ok (.istore 5, 2) := by decide +kernel
theorem dX7_lock_23 : decode cX7_lock 23 = .ok (.iload 5, 2) := by decide +kernel
theorem dX7_lock_25 : decode cX7_lock 25 = .ok (.iload 4, 2) := by decide +kernel
theorem dX7_lock_27 : decode cX7_lock 27 = .ok (.if_icmp .ge 44, 3) := by decide +kernel
theorem dX7_lock_30 : decode cX7_lock 30 = .ok (.aload_n 0, 1) := by decide +kernel
theorem dX7_lock_31 : decode cX7_lock 31 = .ok (.getfield 27, 3) := by decide +kernel
theorem dX7_lock_34 : decode cX7_lock 34 = .ok (.aload_n 1, 1) := by decide +kernel
theorem dX7_lock_35 : decode cX7_lock 35 = .ok (.iload 5, 2) := by decide +kernel
theorem dX7_lock_37 : decode cX7_lock 37 = .ok (.invokevirtual 36, 3) := by decide +kernel
theorem dX7_lock_40 : decode cX7_lock 40 = .ok (.aload_n 0, 1) := by decide +kernel
theorem dX7_lock_41 : decode cX7_lock 41 = .ok (.aload_n 0, 1) := by decide +kernel
theorem dX7_lock_42 : decode cX7_lock 42 = .ok (.getfield 27, 3) := by decide +kernel
theorem dX7_lock_45 : decode cX7_lock 45 = .ok (.invokevirtual 61, 3) := by decide +kernel
theorem dX7_lock_48 : decode cX7_lock 48 = .ok (.aload_n 2, 1) := by decide +kernel
theorem dX7_lock_49 : decode cX7_lock 49 = .ok (.aload_n 0, 1) := by decide +kernel
theorem dX7_lock_50 : decode cX7_lock 50 = .ok (.getfield 27, 3) := by decide +kernel
theorem dX7_lock_53 : decode cX7_lock 53 = .ok (.bipush 16, 2) := by decide +kernel
theorem dX7_lock_55 : decode cX7_lock 55 = .ok (.invokevirtual 64, 3) := by decide +kernel
theorem dX7_lock_58 : decode cX7_lock 58 = .ok (.aload_n 0, 1) := by decide +kernel
theorem dX7_lock_59 : decode cX7_lock 59 = .ok (.getfield 23, 3) := by decide +kernel
theorem dX7_lock_62 : decode cX7_lock 62 = .ok (.invokevirtual 68, 3) := by decide +kernel
theorem dX7_lock_65 : decode cX7_lock 65 = .ok (.iinc 5 16, 3) := by decide +kernel
theorem dX7_lock_68 : decode cX7_lock 68 = .ok (.goto (-45), 3) := by decide +kernel
theorem dX7_lock_71 : decode cX7_lock 71 = .ok (.iload_n 3, 1) := by decide +kernel
theorem dX7_lock_72 : decode cX7_lock 72 = .ok (.ifCond .eq 47, 3) := by decide +kernel
theorem dX7_lock_75 : decode cX7_lock 75 = .ok (.aload_n 2, 1) := by decide +kernel
theorem dX7_lock_76 : decode cX7_lock 76 = .ok (.iload 4, 2) := by decide +kernel
theorem dX7_lock_78 : decode cX7_lock 78 = .ok (.bipush 16, 2) := by decide +kernel
theorem dX7_lock_80 : decode cX7_lock 80 = .ok (.isub, 1) := by decide +kernel
theorem dX7_lock_81 : decode cX7_lock 81 = .ok (.invokevirtual 71, 3) := by decide +kernel
theorem dX7_lock_84 : decode cX7_lock 84 = .ok (.aload_n 0, 1) := by decide +kernel
theorem dX7_lock_85 : decode cX7_lock 85 = .ok (.aload_n 1, 1) := by decide +kernel
theorem dX7_lock_86 : decode cX7_lock 86 = .ok (.iload 4, 2) := by decide +kernel
theorem dX7_lock_88 : decode cX7_lock 88 = .ok (.iload_n 3, 1) := by decide +kernel
theorem dX7_lock_89 : decode cX7_lock 89 = .ok (.invokevirtual 75, 3) := by decide +kernel
theorem dX7_lock_92 : decode cX7_lock 92 = .ok (.aload_n 0, 1) := by decide +kernel
theorem dX7_lock_93 : decode cX7_lock 93 = .ok (.aload_n 0, 1) := by decide +kernel
theorem dX7_lock_94 : decode cX7_lock 94 = .ok (.getfield 30, 3) := by decide +kernel
theorem dX7_lock_97 : decode cX7_lock 97 = .ok (.invokevirtual 61, 3) := by decide +kernel
theorem dX7_lock_100 : decode cX7_lock 100 = .ok (.aload_n 2, 1) := by decide +kernel
theorem dX7_lock_101 : decode cX7_lock 101 = .ok (.aload_n 0, 1) := by decide +kernel
theorem dX7_lock_102 : decode cX7_lock 102 = .ok (.getfield 30, 3) := by decide +kernel
theorem dX7_lock_105 : decode cX7_lock 105 = .ok (.bipush 16, 2) := by decide +kernel
theorem dX7_lock_107 : decode cX7_lock 107 = .ok (.invokevirtual 64, 3) := by decide +kernel
theorem dX7_lock_110 : decode cX7_lock 110 = .ok (.aload_n 2, 1) := by decide +kernel
theorem dX7_lock_111 : decode cX7_lock 111 = .ok (.aload_n 0, 1) := by decide +kernel
theorem dX7_lock_112 : decode cX7_lock 112 = .ok (.getfield 27, 3) := by decide +kernel
theorem dX7_lock_115 : decode cX7_lock 115 = .ok (.iload_n 3, 1) := by decide +kernel
theorem dX7_lock_116 : decode cX7_lock 116 = .ok (.invokevirtual 64, 3) := by decide +kernel
theorem dX7_lock_119 : decode cX7_lock 119 = .ok (.return_, 1) := by decide +kernel
theorem dX7_unlock_0 : decode cX7_unlock 0 = .ok (.aload_n 1, 1) := by decide +kernel
theorem dX7_unlock_1 : decode cX7_unlock 1 = .ok (.getfield 52, 3) := by decide +kernel
theorem dX7_unlock_4 : decode cX7_unlock 4 = .ok (.bipush 15, 2) := by decide +kernel
theorem dX7_unlock_6 : decode cX7_unlock 6 = .ok (.iand, 1) := by decide +kernel
theorem dX7_unlock_7 : decode cX7_unlock 7 = .ok (.istore_n 3, 1) := by decide +kernel
theorem dX7_unlock_8 : decode cX7_unlock 8 = .ok (.iload_n 3, 1) := by decide +kernel
theorem dX7_unlock_9 : decode cX7_unlock 9 = .ok (.ifCond .ne 10, 3) := by decide +kernel
theorem dX7_unlock_12 : decode cX7_unlock 12 = .ok (.aload_n 1, 1) := by decide +kernel
theorem dX7_unlock_13 : decode cX7_unlock 13 = .ok (.getfield 52, 3) := by decide +kernel
theorem dX7_unlock_16 : decode cX7_unlock 16 = .ok (.goto 12, 3) := by decide +kernel
theorem dX7_unlock_19 : decode cX7_unlock 19 = .ok (.aload_n 1, 1) := by decide +kernel
theorem dX7_unlock_20 : decode cX7_unlock 20 = .ok (.getfield 52, 3) := by decide +kernel
theorem dX7_unlock_23 : decode cX7_unlock 23 = .ok (.iload_n 3, 1) := by decide +kernel
theorem dX7_unlock_24 : decode cX7_unlock 24 = .ok (.isub, 1) := by decide +kernel
theorem dX7_unlock_25 : decode cX7_unlock 25 = .ok (.bipush 16, 2) := by decide +kernel
theorem dX7_unlock_27 : decode cX7_unlock 27 = .ok (.isub, 1) := by decide +kernel
theorem dX7_unlock_28 : decode cX7_unlock 28 = .ok (.istore 4, 2) := by decide +kernel
theorem dX7_unlock_30 : decode cX7_unlock 30 = .ok (.aload_n 0, 1) := by decide +kernel
theorem dX7_unlock_31 : decode cX7_unlock 31 = .ok (.invokevirtual 58, 3) := by decide +kernel
theorem dX7_unlock_34 : decode cX7_unlock 34 = .ok (.iconst 0, 1) := by decide +kernel
theorem dX7_unlock_35 : decode cX7_unlock 35 = .ok (.istore 5, 2) := by decide +kernel
theorem dX7_unlock_37 : decode cX7_unlock 37 = .ok (.iload 5, 2) := by decide +kernel
theorem dX7_unlock_39 : decode cX7_unlock 39 = .ok (.iload 4, 2) := by decide +kernel
theorem dX7_unlock_41 : decode cX7_unlock 41 = .ok (.if_icmp .ge 44, 3) := by decide +kernel
theorem dX7_unlock_44 : decode cX7_unlock 44 = .ok (.aload_n 0, 1) := by decide +kernel
theorem dX7_unlock_45 : decode cX7_unlock 45 = .ok (.getfield 27, 3) := by decide +kernel
theorem dX7_unlock_48 : decode cX7_unlock 48 = .ok (.aload_n 1, 1) := by decide +kernel
theorem dX7_unlock_49 : decode cX7_unlock 49 = .ok (.iload 5, 2) := by decide +kernel
theorem dX7_unlock_51 : decode cX7_unlock 51 = .ok (.invokevirtual 36, 3) := by decide +kernel
theorem dX7_unlock_54 : decode cX7_unlock 54 = .ok (.aload_n 0, 1) := by decide +kernel
theorem dX7_unlock_55 : decode cX7_unlock 55 = .ok (.aload_n 0, 1) := by decide +kernel
theorem dX7_unlock_56 : decode cX7_unlock 56 = .ok (.getfield 27, 3) := by decide +kernel
theorem dX7_unlock_59 : decode cX7_unlock 59 = .ok (.invokevirtual 79, 3) := by decide +kernel
theorem dX7_unlock_62 : decode cX7_unlock 62 = .ok (.aload_n 2, 1) := by decide +kernel
theorem dX7_unlock_63 : decode cX7_unlock 63 = .ok (.aload_n 0, 1) := by decide +kernel
theorem dX7_unlock_64 : decode cX7_unlock 64 = .ok (.getfield 27, 3) := by decide +kernel
theorem dX7_unlock_67 : decode cX7_unlock 67 = .ok (.bipush 16, 2) := by decide +kernel
theorem dX7_unlock_69 : decode cX7_unlock 69 = .ok (.invokevirtual 64, 3) := by decide +kernel
theorem dX7_unlock_72 : decode cX7_unlock 72 = .ok (.aload_n 0, 1) := by decide +kernel
theorem dX7_unlock_73 : decode cX7_unlock 73 = .ok (.getfield 23, 3) := by decide +kernel
theorem dX7_unlock_76 : decode cX7_unlock 76 = .ok (.invokevirtual 68, 3) := by decide +kernel
theorem dX7_unlock_79 : decode cX7_unlock 79 = .ok (.iinc 5 16, 3) := by decide +kernel
theorem dX7_unlock_82 : decode cX7_unlock 82 = .ok (.goto (-45), 3) := by decide +kernel
theorem dX7_unlock_85 : decode cX7_unlock 85 = .ok (.iload_n 3, 1) := by decide +kernel
theorem dX7_unlock_86 : decode cX7_unlock 86 = .ok (.ifCond .eq 88, 3) := by decide +kernel
theorem dX7_unlock_89 : decode cX7_unlock 89 = .ok (.aload_n 0, 1) := by decide +kernel
theorem dX7_unlock_90 : decode cX7_unlock 90 = .ok (.getfield 33, 3) := by decide +kernel
theorem dX7_unlock_93 : decode cX7_unlock 93 = .ok (.aload_n 0, 1) := by decide +kernel
theorem dX7_unlock_94 : decode cX7_unlock 94 = .ok (.getfield 23, 3) := by decide +kernel
theorem dX7_unlock_97 : decode cX7_unlock 97 = .ok (.invokevirtual 82, 3) := by decide +kernel
theorem dX7_unlock_100 : decode cX7_unlock 100 = .ok (.aload_n 0, 1) := by decide +kernel
theorem dX7_unlock_101 : decode cX7_unlock 101 = .ok (.getfield 23, 3) := by decide +kernel
theorem dX7_unlock_104 : decode cX7_unlock 104 = .ok (.invokevirtual 68, 3) := by decide +kernel
theorem dX7_unlock_107 : decode cX7_unlock 107 = .ok (.aload_n 0, 1) := by decide +kernel
theorem dX7_unlock_108 : decode cX7_unlock 108 = .ok (.getfield 27, 3) := by decide +kernel
theorem dX7_unlock_111 : decode cX7_unlock 111 = .ok (.aload_n 1, 1) := by decide +kernel
theorem dX7_unlock_112 : decode cX7_unlock 112 = .ok (.iload 4, 2) := by decide +kernel
theorem dX7_unlock_114 : decode cX7_unlock 114 = .ok (.invokevirtual 36, 3) := by decide +kernel
theorem dX7_unlock_117 : decode cX7_unlock 117 = .ok (.aload_n 0, 1) := by decide +kernel
theorem dX7_unlock_118 : decode cX7_unlock 118 = .ok (.aload_n 0, 1) := by decide +kernel
theorem dX7_unlock_119 : decode cX7_unlock 119 = .ok (.getfield 27, 3) := by decide +kernel
theorem dX7_unlock_122 : decode cX7_unlock 122 = .ok (.invokevirtual 79, 3) := by decide +kernel
theorem dX7_unlock_125 : decode cX7_unlock 125 = .ok (.aload_n 0, 1) := by decide +kernel
theorem dX7_unlock_126 : decode cX7_unlock 126 = .ok (.aload_n 1, 1) := by decide +kernel
theorem dX7_unlock_127 : decode cX7_unlock 127 = .ok (.iload 4, 2) := by decide +kernel
theorem dX7_unlock_129 : decode cX7_unlock 129 = .ok (.bipush 16, 2) := by decide +kernel
theorem dX7_unlock_131 : decode cX7_unlock 131 = .ok (.iadd, 1) := by decide +kernel
theorem dX7_unlock_132 : decode cX7_unlock 132 = .ok (.iload_n 3, 1) := by decide +kernel
theorem dX7_unlock_133 : decode cX7_unlock 133 = .ok (.invokevirtual 75, 3) := by decide +kernel
theorem dX7_unlock_136 : decode cX7_unlock 136 = .ok (.aload_n 0, 1) := by decide +kernel
theorem dX7_unlock_137 : decode cX7_unlock 137 = .ok (.getfield 23, 3) := by decide +kernel
theorem dX7_unlock_140 : decode cX7_unlock 140 = .ok (.aload_n 0, 1) := by decide +kernel
theorem dX7_unlock_141 : decode cX7_unlock 141 = .ok (.getfield 33, 3) := by decide +kernel
theorem dX7_unlock_144 : decode cX7_unlock 144 = .ok (.invokevirtual 82, 3) := by decide +kernel
theorem dX7_unlock_147 : decode cX7_unlock 147 = .ok (.aload_n 0, 1) := by decide +kernel
theorem dX7_unlock_148 : decode cX7_unlock 148 = .ok (.aload_n 0, 1) := by decide +kernel
theorem dX7_unlock_149 : decode cX7_unlock 149 = .ok (.getfield 30, 3) := by decide +kernel
theorem dX7_unlock_152 : decode cX7_unlock 152 = .ok (.invokevirtual 79, 3) := by decide +kernel
theorem dX7_unlock_155 : decode cX7_unlock 155 = .ok (.aload_n 2, 1) := by decide +kernel
theorem dX7_unlock_156 : decode cX7_unlock 156 = .ok (.aload_n 0, 1) := by decide +kernel
theorem dX7_unlock_157 : decode cX7_unlock 157 = .ok (.getfield 30, 3) := by decide +kernel
theorem dX7_unlock_160 : decode cX7_unlock 160 = .ok (.bipush 16, 2) := by decide +kernel
theorem dX7_unlock_162 : decode cX7_unlock 162 = .ok (.invokevirtual 64, 3) := by decide +kernel
theorem dX7_unlock_165 : decode cX7_unlock 165 = .ok (.aload_n 2, 1) := by decide +kernel
theorem dX7_unlock_166 : decode cX7_unlock 166 = .ok (.aload_n 0, 1) := by decide +kernel
theorem dX7_unlock_167 : decode cX7_unlock 167 = .ok (.getfield 27, 3) := by decide +kernel
theorem dX7_unlock_170 : decode cX7_unlock 170 = .ok (.iload_n 3, 1) := by decide +kernel
theorem dX7_unlock_171 : decode cX7_unlock 171 = .ok (.invokevirtual 64, 3) := by decide +kernel
theorem dX7_unlock_174 : decode cX7_unlock 174 = .ok (.return_, 1) := by decide +kernel
theorem dX7_borrowEnd_0 : decode cX7_borrowEnd 0 = .ok (.aload_n 0, 1) := by decide +kernel
theorem dX7_borrowEnd_1 : decode cX7_borrowEnd 1 = .ok (.getfield 30, 3) := by decide +kernel
theorem dX7_borrowEnd_4 : decode cX7_borrowEnd 4 = .ok (.aload_n 0, 1) := by decide +kernel
theorem dX7_borrowEnd_5 : decode cX7_borrowEnd 5 = .ok (.getfield 27, 3) := by decide +kernel
theorem dX7_borrowEnd_8 : decode cX7_borrowEnd 8 = .ok (.invokevirtual 82, 3) := by decide +kernel
theorem dX7_borrowEnd_11 : decode cX7_borrowEnd 11 = .ok (.aload_n 0, 1) := by decide +kernel
theorem dX7_borrowEnd_12 : decode cX7_borrowEnd 12 = .ok (.getfield 30, 3) := by decide +kernel
theorem dX7_borrowEnd_15 : decode cX7_borrowEnd 15 = .ok (.iload_n 3, 1) := by decide +kernel
theorem dX7_borrowEnd_16 : decode cX7_borrowEnd 16 = .ok (.invokevirtual 85, 3) := by decide +kernel
theorem dX7_borrowEnd_19 : decode cX7_borrowEnd 19 = .ok (.aload_n 0, 1) := by decide +kernel
theorem dX7_borrowEnd_20 : decode cX7_borrowEnd 20 = .ok (.getfield 30, 3) := by decide +kernel
theorem dX7_borrowEnd_23 : decode cX7_borrowEnd 23 = .ok (.aload_n 1, 1) := by decide +kernel
theorem dX7_borrowEnd_24 : decode cX7_borrowEnd 24 = .ok (.iload_n 2, 1) := by decide +kernel
theorem dX7_borrowEnd_25 : decode cX7_borrowEnd 25 = .ok (.invokevirtual 88, 3) := by decide +kernel
theorem dX7_borrowEnd_28 : decode cX7_borrowEnd 28 = .ok (.return_, 1) := by decide +kernel
