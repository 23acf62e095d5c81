set_option maxHeartbeats 4000000 in
set_option maxRecDepth 100000 in
theorem qX11_init (l : Launch) (w : am_W) (h : am_H) (h1 : h 1 = .inr (.inr (11, [.null, .null, .null, .null, .null, .null, .null, .int 0, .null, .null, .null, .null, .null, .null, .null, .null, .null, .null, .null]))) : RC l w mX11_init h 1 [.ref 1] (fun h' n' q => n' = 60 ∧ q = none ∧ Sys h' (fun _ => []) (fun _ => (0, 0)) (fun _ => (fun _ => 0, fun _ => 0, 10)) (12, 14, 16) ∧ h' 0 = h 0) := by
  refine RC.of [(0, .ref 1)] (by decide +kernel) rfl (Nat.le_of_ble_eq_true rfl) ?_
  refine R_aload_n (pc := 0) 0 dX11_init_0 rfl rfl ?_
  refine R_objInit (pc := 1) dX11_init_1 lX11_3 iO cO (by decide) (Nat.le_of_ble_eq_true rfl) ?_
  refine R_aload_n (pc := 4) 0 dX11_init_4 rfl rfl ?_
  refine R_new' (pc := 5) dX11_init_5 nX11_9 (by decide) (by decide) (fun h_1 f_2 g_3 => ?_)
  have F_4 : h_1 2 = .inr (.inr (6, [.null, .int 0])) := f_2
  refine R_dup (pc := 8) dX11_init_8 rfl ?_
  refine R_bipush (pc := 9) (v := 64) dX11_init_9 (by decide) ?_
  refine R_callI (pc := 11) (μ' := mX6_init) (As := [.int (nI 64)]) (st := [.ref 2, .ref 1]) dX11_init_11 zX6_init rfl lX11_11 ⟨by decide, by decide⟩ ⟨by decide, by decide⟩ rfl (Nat.le_of_ble_eq_true rfl) (qX6_init l w _ 2 2 64 (by omega) (by omega) F_4) (fun h_5 nn_ rr_ q_6 => ?_)
  obtain ⟨rfl, rfl, p_7, p_8, g_9⟩ := q_6
  have F_10 : h_5 2 = .inr (.inr (6, [.ref 3, .int 0])) := p_7
  have F_11 : h_5 3 = .inl (64, (fun _ => 0)) := p_8
  have f_12 := ((g_9 1 (by decide) (by decide)).trans ((g_3 1 (by decide)).trans h1))
  refine R_putF' (pc := 14) (T := TX11) (fs' := [.ref 2, .null, .null, .null, .null, .null, .null, .int 0, .null, .null, .null, .null, .null, .null, .null, .null, .null, .null, .null]) dX11_init_14 fX11_14 kFX11_14 rfl tX11_0 rfl rfl rfl rfl f_12 (by omega) (Nat.le_of_ble_eq_true rfl) rfl (fun h_13 f_14 g_15 => ?_)
  have F_16 : h_13 1 = .inr (.inr (11, [.ref 2, .null, .null, .null, .null, .null, .null, .int 0, .null, .null, .null, .null, .null, .null, .null, .null, .null, .null, .null])) := f_14
  refine R_aload_n (pc := 17) 0 dX11_init_17 rfl rfl ?_
  refine R_new' (pc := 18) dX11_init_18 nX11_9 (by decide) (by decide) (fun h_17 f_18 g_19 => ?_)
  have F_20 : h_17 4 = .inr (.inr (6, [.null, .int 0])) := f_18
  refine R_dup (pc := 21) dX11_init_21 rfl ?_
  refine R_sipush (pc := 22) (v := 512) dX11_init_22 (by decide) ?_
  refine R_callI (pc := 25) (μ' := mX6_init) (As := [.int (nI 512)]) (st := [.ref 4, .ref 1]) dX11_init_25 zX6_init rfl lX11_11 ⟨by decide, by decide⟩ ⟨by decide, by decide⟩ rfl (Nat.le_of_ble_eq_true rfl) (qX6_init l w _ 4 4 512 (by omega) (by omega) F_20) (fun h_21 nn_ rr_ q_22 => ?_)
  obtain ⟨rfl, rfl, p_23, p_24, g_25⟩ := q_22
  have F_26 : h_21 4 = .inr (.inr (6, [.ref 5, .int 0])) := p_23
  have F_27 : h_21 5 = .inl (512, (fun _ => 0)) := p_24
  have f_28 := ((g_25 1 (by decide) (by decide)).trans ((g_19 1 (by decide)).trans F_16))
  refine R_putF' (pc := 28) (T := TX11) (fs' := [.ref 2, .ref 4, .null, .null, .null, .null, .null, .int 0, .null, .null, .null, .null, .null, .null, .null, .null, .null, .null, .null]) dX11_init_28 fX11_18 kFX11_18 rfl tX11_1 rfl rfl rfl rfl f_28 (by omega) (Nat.le_of_ble_eq_true rfl) rfl (fun h_29 f_30 g_31 => ?_)
  have F_32 : h_29 1 = .inr (.inr (11, [.ref 2, .ref 4, .null, .null, .null, .null, .null, .int 0, .null, .null, .null, .null, .null, .null, .null, .null, .null, .null, .null])) := f_30
  refine R_aload_n (pc := 31) 0 dX11_init_31 rfl rfl ?_
  refine R_new' (pc := 32) dX11_init_32 nX11_9 (by decide) (by decide) (fun h_33 f_34 g_35 => ?_)
  have F_36 : h_33 6 = .inr (.inr (6, [.null, .int 0])) := f_34
  refine R_dup (pc := 35) dX11_init_35 rfl ?_
  refine R_bipush (pc := 36) (v := 64) dX11_init_36 (by decide) ?_
  refine R_callI (pc := 38) (μ' := mX6_init) (As := [.int (nI 64)]) (st := [.ref 6, .ref 1]) dX11_init_38 zX6_init rfl lX11_11 ⟨by decide, by decide⟩ ⟨by decide, by decide⟩ rfl (Nat.le_of_ble_eq_true rfl) (qX6_init l w _ 6 6 64 (by omega) (by omega) F_36) (fun h_37 nn_ rr_ q_38 => ?_)
  obtain ⟨rfl, rfl, p_39, p_40, g_41⟩ := q_38
  have F_42 : h_37 6 = .inr (.inr (6, [.ref 7, .int 0])) := p_39
  have F_43 : h_37 7 = .inl (64, (fun _ => 0)) := p_40
  have f_44 := ((g_41 1 (by decide) (by decide)).trans ((g_35 1 (by decide)).trans F_32))
  refine R_putF' (pc := 41) (T := TX11) (fs' := [.ref 2, .ref 4, .ref 6, .null, .null, .null, .null, .int 0, .null, .null, .null, .null, .null, .null, .null, .null, .null, .null, .null]) dX11_init_41 fX11_21 kFX11_21 rfl tX11_2 rfl rfl rfl rfl f_44 (by omega) (Nat.le_of_ble_eq_true rfl) rfl (fun h_45 f_46 g_47 => ?_)
  have F_48 : h_45 1 = .inr (.inr (11, [.ref 2, .ref 4, .ref 6, .null, .null, .null, .null, .int 0, .null, .null, .null, .null, .null, .null, .null, .null, .null, .null, .null])) := f_46
  refine R_aload_n (pc := 44) 0 dX11_init_44 rfl rfl ?_
  refine R_new' (pc := 45) dX11_init_45 nX11_9 (by decide) (by decide) (fun h_49 f_50 g_51 => ?_)
  have F_52 : h_49 8 = .inr (.inr (6, [.null, .int 0])) := f_50
  refine R_dup (pc := 48) dX11_init_48 rfl ?_
  refine R_sipush (pc := 49) (v := 256) dX11_init_49 (by decide) ?_
  refine R_callI (pc := 52) (μ' := mX6_init) (As := [.int (nI 256)]) (st := [.ref 8, .ref 1]) dX11_init_52 zX6_init rfl lX11_11 ⟨by decide, by decide⟩ ⟨by decide, by decide⟩ rfl (Nat.le_of_ble_eq_true rfl) (qX6_init l w _ 8 8 256 (by omega) (by omega) F_52) (fun h_53 nn_ rr_ q_54 => ?_)
  obtain ⟨rfl, rfl, p_55, p_56, g_57⟩ := q_54
  have F_58 : h_53 8 = .inr (.inr (6, [.ref 9, .int 0])) := p_55
  have F_59 : h_53 9 = .inl (256, (fun _ => 0)) := p_56
  have f_60 := ((g_57 1 (by decide) (by decide)).trans ((g_51 1 (by decide)).trans F_48))
  refine R_putF' (pc := 55) (T := TX11) (fs' := [.ref 2, .ref 4, .ref 6, .ref 8, .null, .null, .null, .int 0, .null, .null, .null, .null, .null, .null, .null, .null, .null, .null, .null]) dX11_init_55 fX11_24 kFX11_24 rfl tX11_3 rfl rfl rfl rfl f_60 (by omega) (Nat.le_of_ble_eq_true rfl) rfl (fun h_61 f_62 g_63 => ?_)
  have F_64 : h_61 1 = .inr (.inr (11, [.ref 2, .ref 4, .ref 6, .ref 8, .null, .null, .null, .int 0, .null, .null, .null, .null, .null, .null, .null, .null, .null, .null, .null])) := f_62
  refine R_aload_n (pc := 58) 0 dX11_init_58 rfl rfl ?_
  refine R_new' (pc := 59) dX11_init_59 nX11_9 (by decide) (by decide) (fun h_65 f_66 g_67 => ?_)
  have F_68 : h_65 10 = .inr (.inr (6, [.null, .int 0])) := f_66
  refine R_dup (pc := 62) dX11_init_62 rfl ?_
  refine R_sipush (pc := 63) (v := 512) dX11_init_63 (by decide) ?_
  refine R_callI (pc := 66) (μ' := mX6_init) (As := [.int (nI 512)]) (st := [.ref 10, .ref 1]) dX11_init_66 zX6_init rfl lX11_11 ⟨by decide, by decide⟩ ⟨by decide, by decide⟩ rfl (Nat.le_of_ble_eq_true rfl) (qX6_init l w _ 10 10 512 (by omega) (by omega) F_68) (fun h_69 nn_ rr_ q_70 => ?_)
  obtain ⟨rfl, rfl, p_71, p_72, g_73⟩ := q_70
  have F_74 : h_69 10 = .inr (.inr (6, [.ref 11, .int 0])) := p_71
  have F_75 : h_69 11 = .inl (512, (fun _ => 0)) := p_72
  have f_76 := ((g_73 1 (by decide) (by decide)).trans ((g_67 1 (by decide)).trans F_64))
  refine R_putF' (pc := 69) (T := TX11) (fs' := [.ref 2, .ref 4, .ref 6, .ref 8, .ref 10, .null, .null, .int 0, .null, .null, .null, .null, .null, .null, .null, .null, .null, .null, .null]) dX11_init_69 fX11_27 kFX11_27 rfl tX11_4 rfl rfl rfl rfl f_76 (by omega) (Nat.le_of_ble_eq_true rfl) rfl (fun h_77 f_78 g_79 => ?_)
  have F_80 : h_77 1 = .inr (.inr (11, [.ref 2, .ref 4, .ref 6, .ref 8, .ref 10, .null, .null, .int 0, .null, .null, .null, .null, .null, .null, .null, .null, .null, .null, .null])) := f_78
  refine R_aload_n (pc := 72) 0 dX11_init_72 rfl rfl ?_
  refine R_new' (pc := 73) dX11_init_73 nX11_9 (by decide) (by decide) (fun h_81 f_82 g_83 => ?_)
  have F_84 : h_81 12 = .inr (.inr (6, [.null, .int 0])) := f_82
  refine R_dup (pc := 76) dX11_init_76 rfl ?_
  refine R_sipush (pc := 77) (v := 528) dX11_init_77 (by decide) ?_
  refine R_callI (pc := 80) (μ' := mX6_init) (As := [.int (nI 528)]) (st := [.ref 12, .ref 1]) dX11_init_80 zX6_init rfl lX11_11 ⟨by decide, by decide⟩ ⟨by decide, by decide⟩ rfl (Nat.le_of_ble_eq_true rfl) (qX6_init l w _ 12 12 528 (by omega) (by omega) F_84) (fun h_85 nn_ rr_ q_86 => ?_)
  obtain ⟨rfl, rfl, p_87, p_88, g_89⟩ := q_86
  have F_90 : h_85 12 = .inr (.inr (6, [.ref 13, .int 0])) := p_87
  have F_91 : h_85 13 = .inl (528, (fun _ => 0)) := p_88
  have f_92 := ((g_89 1 (by decide) (by decide)).trans ((g_83 1 (by decide)).trans F_80))
  refine R_put' (pc := 83) (fs' := [.ref 2, .ref 4, .ref 6, .ref 8, .ref 10, .ref 12, .null, .int 0, .null, .null, .null, .null, .null, .null, .null, .null, .null, .null, .null]) dX11_init_83 fX11_30 tX11_5 rfl rfl f_92 (by omega) (Nat.le_of_ble_eq_true rfl) rfl (fun h_93 f_94 g_95 => ?_)
  have F_96 : h_93 1 = .inr (.inr (11, [.ref 2, .ref 4, .ref 6, .ref 8, .ref 10, .ref 12, .null, .int 0, .null, .null, .null, .null, .null, .null, .null, .null, .null, .null, .null])) := f_94
  refine R_aload_n (pc := 86) 0 dX11_init_86 rfl rfl ?_
  refine R_new' (pc := 87) dX11_init_87 nX11_9 (by decide) (by decide) (fun h_97 f_98 g_99 => ?_)
  have F_100 : h_97 14 = .inr (.inr (6, [.null, .int 0])) := f_98
  refine R_dup (pc := 90) dX11_init_90 rfl ?_
  refine R_sipush (pc := 91) (v := 528) dX11_init_91 (by decide) ?_
  refine R_callI (pc := 94) (μ' := mX6_init) (As := [.int (nI 528)]) (st := [.ref 14, .ref 1]) dX11_init_94 zX6_init rfl lX11_11 ⟨by decide, by decide⟩ ⟨by decide, by decide⟩ rfl (Nat.le_of_ble_eq_true rfl) (qX6_init l w _ 14 14 528 (by omega) (by omega) F_100) (fun h_101 nn_ rr_ q_102 => ?_)
  obtain ⟨rfl, rfl, p_103, p_104, g_105⟩ := q_102
  have F_106 : h_101 14 = .inr (.inr (6, [.ref 15, .int 0])) := p_103
  have F_107 : h_101 15 = .inl (528, (fun _ => 0)) := p_104
  have f_108 := ((g_105 1 (by decide) (by decide)).trans ((g_99 1 (by decide)).trans F_96))
  refine R_put' (pc := 97) (fs' := [.ref 2, .ref 4, .ref 6, .ref 8, .ref 10, .ref 12, .ref 14, .int 0, .null, .null, .null, .null, .null, .null, .null, .null, .null, .null, .null]) dX11_init_97 fX11_33 tX11_6 rfl rfl f_108 (by omega) (Nat.le_of_ble_eq_true rfl) rfl (fun h_109 f_110 g_111 => ?_)
  have F_112 : h_109 1 = .inr (.inr (11, [.ref 2, .ref 4, .ref 6, .ref 8, .ref 10, .ref 12, .ref 14, .int 0, .null, .null, .null, .null, .null, .null, .null, .null, .null, .null, .null])) := f_110
  refine R_aload_n (pc := 100) 0 dX11_init_100 rfl rfl ?_
  refine R_bipush (pc := 101) (v := 16) dX11_init_101 (by decide) ?_
  refine R_put' (pc := 103) (fs' := [.ref 2, .ref 4, .ref 6, .ref 8, .ref 10, .ref 12, .ref 14, .int 16, .null, .null, .null, .null, .null, .null, .null, .null, .null, .null, .null]) dX11_init_103 fX11_36 tX11_7 rfl rfl F_112 (by omega) (Nat.le_of_ble_eq_true rfl) rfl (fun h_113 f_114 g_115 => ?_)
  have F_116 : h_113 1 = .inr (.inr (11, [.ref 2, .ref 4, .ref 6, .ref 8, .ref 10, .ref 12, .ref 14, .int 16, .null, .null, .null, .null, .null, .null, .null, .null, .null, .null, .null])) := f_114
  refine R_aload_n (pc := 106) 0 dX11_init_106 rfl rfl ?_
  refine R_new' (pc := 107) dX11_init_107 nX11_40 (by decide) (by decide) (fun h_117 f_118 g_119 => ?_)
  have F_120 : h_117 16 = .inr (.inr (2, [.null, .null, .null, .int 0])) := f_118
  refine R_dup (pc := 110) dX11_init_110 rfl ?_
  refine R_callI (pc := 111) (μ' := mX2_init) (As := []) (st := [.ref 16, .ref 1]) dX11_init_111 zX2_init rfl lX11_42 ⟨by decide, by decide⟩ ⟨by decide, by decide⟩ rfl (Nat.le_of_ble_eq_true rfl) (qX2_init l w _ 16 16  (by omega) F_120) (fun h_121 nn_ rr_ q_122 => ?_)
  obtain ⟨rfl, rfl, p_123, p_124, p_125, p_126, g_127⟩ := q_122
  have F_128 : h_121 16 = .inr (.inr (2, [.ref 17, .ref 18, .ref 19, .int 10])) := p_123
  have F_129 : h_121 17 = .inl (60, (fun _ => 0)) := p_124
  have F_130 : h_121 18 = .inr (.inl (30, (fun _ => 0))) := p_125
  have F_131 : h_121 19 = .inr (.inr (8, [.long 0, .long 0])) := p_126
  have f_132 := ((g_127 1 (by decide) (by decide)).trans ((g_119 1 (by decide)).trans F_116))
  refine R_putF' (pc := 114) (T := TX11) (fs' := [.ref 2, .ref 4, .ref 6, .ref 8, .ref 10, .ref 12, .ref 14, .int 16, .ref 16, .null, .null, .null, .null, .null, .null, .null, .null, .null, .null]) dX11_init_114 fX11_43 kFX11_43 rfl tX11_8 rfl rfl rfl rfl f_132 (by omega) (Nat.le_of_ble_eq_true rfl) rfl (fun h_133 f_134 g_135 => ?_)
  have F_136 : h_133 1 = .inr (.inr (11, [.ref 2, .ref 4, .ref 6, .ref 8, .ref 10, .ref 12, .ref 14, .int 16, .ref 16, .null, .null, .null, .null, .null, .null, .null, .null, .null, .null])) := f_134
  refine R_aload_n (pc := 117) 0 dX11_init_117 rfl rfl ?_
  refine R_new' (pc := 118) dX11_init_118 nX11_40 (by decide) (by decide) (fun h_137 f_138 g_139 => ?_)
  have F_140 : h_137 20 = .inr (.inr (2, [.null, .null, .null, .int 0])) := f_138
  refine R_dup (pc := 121) dX11_init_121 rfl ?_
  refine R_callI (pc := 122) (μ' := mX2_init) (As := []) (st := [.ref 20, .ref 1]) dX11_init_122 zX2_init rfl lX11_42 ⟨by decide, by decide⟩ ⟨by decide, by decide⟩ rfl (Nat.le_of_ble_eq_true rfl) (qX2_init l w _ 20 20  (by omega) F_140) (fun h_141 nn_ rr_ q_142 => ?_)
  obtain ⟨rfl, rfl, p_143, p_144, p_145, p_146, g_147⟩ := q_142
  have F_148 : h_141 20 = .inr (.inr (2, [.ref 21, .ref 22, .ref 23, .int 10])) := p_143
  have F_149 : h_141 21 = .inl (60, (fun _ => 0)) := p_144
  have F_150 : h_141 22 = .inr (.inl (30, (fun _ => 0))) := p_145
  have F_151 : h_141 23 = .inr (.inr (8, [.long 0, .long 0])) := p_146
  have f_152 := ((g_147 1 (by decide) (by decide)).trans ((g_139 1 (by decide)).trans F_136))
  refine R_putF' (pc := 125) (T := TX11) (fs' := [.ref 2, .ref 4, .ref 6, .ref 8, .ref 10, .ref 12, .ref 14, .int 16, .ref 16, .ref 20, .null, .null, .null, .null, .null, .null, .null, .null, .null]) dX11_init_125 fX11_47 kFX11_47 rfl tX11_9 rfl rfl rfl rfl f_152 (by omega) (Nat.le_of_ble_eq_true rfl) rfl (fun h_153 f_154 g_155 => ?_)
  have F_156 : h_153 1 = .inr (.inr (11, [.ref 2, .ref 4, .ref 6, .ref 8, .ref 10, .ref 12, .ref 14, .int 16, .ref 16, .ref 20, .null, .null, .null, .null, .null, .null, .null, .null, .null])) := f_154
  refine R_new' (pc := 128) dX11_init_128 nX11_9 (by decide) (by decide) (fun h_157 f_158 g_159 => ?_)
  have F_160 : h_157 24 = .inr (.inr (6, [.null, .int 0])) := f_158
  refine R_dup (pc := 131) dX11_init_131 rfl ?_
  refine R_sipush (pc := 132) (v := 800) dX11_init_132 (by decide) ?_
  refine R_callI (pc := 135) (μ' := mX6_init) (As := [.int (nI 800)]) (st := [.ref 24]) dX11_init_135 zX6_init rfl lX11_11 ⟨by decide, by decide⟩ ⟨by decide, by decide⟩ rfl (Nat.le_of_ble_eq_true rfl) (qX6_init l w _ 24 24 800 (by omega) (by omega) F_160) (fun h_161 nn_ rr_ q_162 => ?_)
  obtain ⟨rfl, rfl, p_163, p_164, g_165⟩ := q_162
  have F_166 : h_161 24 = .inr (.inr (6, [.ref 25, .int 0])) := p_163
  have F_167 : h_161 25 = .inl (800, (fun _ => 0)) := p_164
  refine R_astore_n (pc := 138) (lv' := [(1, .ref 24), (0, .ref 1)]) dX11_init_138 rfl (by decide) rfl ?_
  refine R_aload_n (pc := 139) 1 dX11_init_139 rfl rfl ?_
  refine R_new' (pc := 140) dX11_init_140 nX11_50 (by decide) (by decide) (fun h_168 f_169 g_170 => ?_)
  have F_171 : h_168 26 = .inr (.inr (1, [.null, .null, .null, .null, .null, .null])) := f_169
  refine R_dup (pc := 143) dX11_init_143 rfl ?_
  refine R_aload_n (pc := 144) 1 dX11_init_144 rfl rfl ?_
  have f_172 := ((g_170 1 (by decide)).trans ((g_165 1 (by decide) (by decide)).trans ((g_159 1 (by decide)).trans F_156)))
  refine R_get (pc := 145) dX11_init_145 fX11_43 f_172 (by omega) rfl ?_
  refine R_aload_n (pc := 148) 1 dX11_init_148 rfl rfl ?_
  refine R_get (pc := 149) dX11_init_149 fX11_21 f_172 (by omega) rfl ?_
  refine R_aload_n (pc := 152) 0 dX11_init_152 rfl rfl ?_
  refine R_callI (pc := 153) (μ' := mX1_init) (As := [.ref 16, .ref 6, .ref 24]) (st := [.ref 26, .ref 1]) dX11_init_153 zX1_init rfl lX11_52 ⟨by decide, by decide⟩ ⟨by decide, by decide⟩ rfl (Nat.le_of_ble_eq_true rfl) (qX1_init l w _ 26 26 16 6 24 (by omega) F_171) (fun h_173 nn_ rr_ q_174 => ?_)
  obtain ⟨rfl, rfl, p_175, p_176, p_177, p_178, g_179⟩ := q_174
  have F_180 : h_173 26 = .inr (.inr (1, [.ref 16, .ref 6, .ref 24, .ref 27, .ref 28, .ref 29])) := p_175
  have F_181 : h_173 27 = .inr (.inr (0, [.long 0, .long 0])) := p_176
  have F_182 : h_173 28 = .inr (.inr (0, [.long 0, .long 0])) := p_177
  have F_183 : h_173 29 = .inr (.inr (0, [.long 0, .long 0])) := p_178
  have f_184 := ((g_179 1 (by decide) (by decide)).trans f_172)
  refine R_putF' (pc := 156) (T := TX11) (fs' := [.ref 2, .ref 4, .ref 6, .ref 8, .ref 10, .ref 12, .ref 14, .int 16, .ref 16, .ref 20, .ref 26, .null, .null, .null, .null, .null, .null, .null, .null]) dX11_init_156 fX11_55 kFX11_55 rfl tX11_10 rfl rfl rfl rfl f_184 (by omega) (Nat.le_of_ble_eq_true rfl) rfl (fun h_185 f_186 g_187 => ?_)
  have F_188 : h_185 1 = .inr (.inr (11, [.ref 2, .ref 4, .ref 6, .ref 8, .ref 10, .ref 12, .ref 14, .int 16, .ref 16, .ref 20, .ref 26, .null, .null, .null, .null, .null, .null, .null, .null])) := f_186
  refine R_aload_n (pc := 159) 1 dX11_init_159 rfl rfl ?_
  refine R_new' (pc := 160) dX11_init_160 nX11_59 (by decide) (by decide) (fun h_189 f_190 g_191 => ?_)
  have F_192 : h_189 30 = .inr (.inr (9, [.null, .null, .null, .null, .null])) := f_190
  refine R_dup (pc := 163) dX11_init_163 rfl ?_
  refine R_aload_n (pc := 164) 1 dX11_init_164 rfl rfl ?_
  have f_193 := ((g_191 1 (by decide)).trans F_188)
  refine R_get (pc := 165) dX11_init_165 fX11_43 f_193 (by omega) rfl ?_
  refine R_aload_n (pc := 168) 1 dX11_init_168 rfl rfl ?_
  refine R_get (pc := 169) dX11_init_169 fX11_21 f_193 (by omega) rfl ?_
  refine R_callI (pc := 172) (μ' := mX9_init) (As := [.ref 16, .ref 6]) (st := [.ref 30, .ref 1]) dX11_init_172 zX9_init rfl lX11_61 ⟨by decide, by decide⟩ ⟨by decide, by decide⟩ rfl (Nat.le_of_ble_eq_true rfl) (qX9_init l w _ 30 30 16 6 (by omega) F_192) (fun h_194 nn_ rr_ q_195 => ?_)
  obtain ⟨rfl, rfl, p_196, p_197, p_198, p_199, g_200⟩ := q_195
  have F_201 : h_194 30 = .inr (.inr (9, [.ref 16, .ref 6, .ref 31, .ref 32, .ref 33])) := p_196
  have F_202 : h_194 31 = .inr (.inr (0, [.long 0, .long 0])) := p_197
  have F_203 : h_194 32 = .inr (.inr (0, [.long 0, .long 0])) := p_198
  have F_204 : h_194 33 = .inr (.inr (0, [.long 0, .long 0])) := p_199
  have f_205 := ((g_200 1 (by decide) (by decide)).trans f_193)
  refine R_putF' (pc := 175) (T := TX11) (fs' := [.ref 2, .ref 4, .ref 6, .ref 8, .ref 10, .ref 12, .ref 14, .int 16, .ref 16, .ref 20, .ref 26, .ref 30, .null, .null, .null, .null, .null, .null, .null]) dX11_init_175 fX11_64 kFX11_64 rfl tX11_11 rfl rfl rfl rfl f_205 (by omega) (Nat.le_of_ble_eq_true rfl) rfl (fun h_206 f_207 g_208 => ?_)
  have F_209 : h_206 1 = .inr (.inr (11, [.ref 2, .ref 4, .ref 6, .ref 8, .ref 10, .ref 12, .ref 14, .int 16, .ref 16, .ref 20, .ref 26, .ref 30, .null, .null, .null, .null, .null, .null, .null])) := f_207
  refine R_aload_n (pc := 178) 1 dX11_init_178 rfl rfl ?_
  refine R_new' (pc := 179) dX11_init_179 nX11_68 (by decide) (by decide) (fun h_210 f_211 g_212 => ?_)
  have F_213 : h_210 34 = .inr (.inr (7, [.null, .null, .null, .null, .null, .null, .null])) := f_211
  refine R_dup (pc := 182) dX11_init_182 rfl ?_
  refine R_aload_n (pc := 183) 1 dX11_init_183 rfl rfl ?_
  have f_214 := ((g_212 1 (by decide)).trans F_209)
  refine R_get (pc := 184) dX11_init_184 fX11_43 f_214 (by omega) rfl ?_
  refine R_aload_n (pc := 187) 1 dX11_init_187 rfl rfl ?_
  refine R_get (pc := 188) dX11_init_188 fX11_47 f_214 (by omega) rfl ?_
  refine R_aload_n (pc := 191) 1 dX11_init_191 rfl rfl ?_
  refine R_get (pc := 192) dX11_init_192 fX11_21 f_214 (by omega) rfl ?_
  refine R_callI (pc := 195) (μ' := mX7_init) (As := [.ref 16, .ref 20, .ref 6]) (st := [.ref 34, .ref 1]) dX11_init_195 zX7_init rfl lX11_70 ⟨by decide, by decide⟩ ⟨by decide, by decide⟩ rfl (Nat.le_of_ble_eq_true rfl) (qX7_init l w _ 34 34 16 20 6 (by omega) F_213) (fun h_215 nn_ rr_ q_216 => ?_)
  obtain ⟨rfl, rfl, p_217, p_218, p_219, p_220, p_221, g_222⟩ := q_216
  have F_223 : h_215 34 = .inr (.inr (7, [.ref 16, .ref 20, .ref 6, .ref 35, .ref 36, .ref 37, .ref 38])) := p_217
  have F_224 : h_215 35 = .inr (.inr (0, [.long 0, .long 0])) := p_218
  have F_225 : h_215 36 = .inr (.inr (0, [.long 0, .long 0])) := p_219
  have F_226 : h_215 37 = .inr (.inr (0, [.long 0, .long 0])) := p_220
  have F_227 : h_215 38 = .inr (.inr (0, [.long 0, .long 0])) := p_221
  have f_228 := ((g_222 1 (by decide) (by decide)).trans f_214)
  refine R_putF' (pc := 198) (T := TX11) (fs' := [.ref 2, .ref 4, .ref 6, .ref 8, .ref 10, .ref 12, .ref 14, .int 16, .ref 16, .ref 20, .ref 26, .ref 30, .ref 34, .null, .null, .null, .null, .null, .null]) dX11_init_198 fX11_73 kFX11_73 rfl tX11_12 rfl rfl rfl rfl f_228 (by omega) (Nat.le_of_ble_eq_true rfl) rfl (fun h_229 f_230 g_231 => ?_)
  have F_232 : h_229 1 = .inr (.inr (11, [.ref 2, .ref 4, .ref 6, .ref 8, .ref 10, .ref 12, .ref 14, .int 16, .ref 16, .ref 20, .ref 26, .ref 30, .ref 34, .null, .null, .null, .null, .null, .null])) := f_230
  refine R_aload_n (pc := 201) 1 dX11_init_201 rfl rfl ?_
  refine R_new' (pc := 202) dX11_init_202 nX11_77 (by decide) (by decide) (fun h_233 f_234 g_235 => ?_)
  have F_236 : h_233 39 = .inr (.inr (10, [.null, .null])) := f_234
  refine R_dup (pc := 205) dX11_init_205 rfl ?_
  refine R_aload_n (pc := 206) 1 dX11_init_206 rfl rfl ?_
  have f_237 := ((g_235 1 (by decide)).trans F_232)
  refine R_get (pc := 207) dX11_init_207 fX11_43 f_237 (by omega) rfl ?_
  refine R_callI (pc := 210) (μ' := mX10_init) (As := [.ref 16]) (st := [.ref 39, .ref 1]) dX11_init_210 zX10_init rfl lX11_79 ⟨by decide, by decide⟩ ⟨by decide, by decide⟩ rfl (Nat.le_of_ble_eq_true rfl) (qX10_init l w _ 39 39 16 (by omega) F_236) (fun h_238 nn_ rr_ q_239 => ?_)
  obtain ⟨rfl, rfl, p_240, p_241, g_242⟩ := q_239
  have F_243 : h_238 39 = .inr (.inr (10, [.ref 16, .ref 40])) := p_240
  have F_244 : h_238 40 = .inr (.inr (0, [.long 0, .long 0])) := p_241
  have f_245 := ((g_242 1 (by decide) (by decide)).trans f_237)
  refine R_putF' (pc := 213) (T := TX11) (fs' := [.ref 2, .ref 4, .ref 6, .ref 8, .ref 10, .ref 12, .ref 14, .int 16, .ref 16, .ref 20, .ref 26, .ref 30, .ref 34, .ref 39, .null, .null, .null, .null, .null]) dX11_init_213 fX11_82 kFX11_82 rfl tX11_13 rfl rfl rfl rfl f_245 (by omega) (Nat.le_of_ble_eq_true rfl) rfl (fun h_246 f_247 g_248 => ?_)
  have F_249 : h_246 1 = .inr (.inr (11, [.ref 2, .ref 4, .ref 6, .ref 8, .ref 10, .ref 12, .ref 14, .int 16, .ref 16, .ref 20, .ref 26, .ref 30, .ref 34, .ref 39, .null, .null, .null, .null, .null])) := f_247
  refine R_aload_n (pc := 216) 1 dX11_init_216 rfl rfl ?_
  refine R_new' (pc := 217) dX11_init_217 nX11_86 (by decide) (by decide) (fun h_250 f_251 g_252 => ?_)
  have F_253 : h_250 41 = .inr (.inr (3, [.null, .null, .null, .null, .null, .null, .null, .null])) := f_251
  refine R_dup (pc := 220) dX11_init_220 rfl ?_
  refine R_aload_n (pc := 221) 1 dX11_init_221 rfl rfl ?_
  have f_254 := ((g_252 1 (by decide)).trans F_249)
  refine R_get (pc := 222) dX11_init_222 fX11_43 f_254 (by omega) rfl ?_
  refine R_aload_n (pc := 225) 1 dX11_init_225 rfl rfl ?_
  refine R_get (pc := 226) dX11_init_226 fX11_21 f_254 (by omega) rfl ?_
  refine R_aload_n (pc := 229) 1 dX11_init_229 rfl rfl ?_
  refine R_get (pc := 230) dX11_init_230 fX11_24 f_254 (by omega) rfl ?_
  refine R_callI (pc := 233) (μ' := mX3_init) (As := [.ref 16, .ref 6, .ref 8]) (st := [.ref 41, .ref 1]) dX11_init_233 zX3_init rfl lX11_88 ⟨by decide, by decide⟩ ⟨by decide, by decide⟩ rfl (Nat.le_of_ble_eq_true rfl) (qX3_init l w _ 41 41 16 6 8 (by omega) F_253) (fun h_255 nn_ rr_ q_256 => ?_)
  obtain ⟨rfl, rfl, p_257, p_258, p_259, p_260, p_261, p_262, g_263⟩ := q_256
  have F_264 : h_255 41 = .inr (.inr (3, [.ref 16, .ref 6, .ref 8, .ref 42, .ref 43, .ref 44, .ref 45, .ref 46])) := p_257
  have F_265 : h_255 42 = .inr (.inr (0, [.long 0, .long 0])) := p_258
  have F_266 : h_255 43 = .inr (.inr (0, [.long 0, .long 0])) := p_259
  have F_267 : h_255 44 = .inr (.inr (0, [.long 0, .long 0])) := p_260
  have F_268 : h_255 45 = .inr (.inr (0, [.long 0, .long 0])) := p_261
  have F_269 : h_255 46 = .inr (.inr (0, [.long 0, .long 0])) := p_262
  have f_270 := ((g_263 1 (by decide) (by decide)).trans f_254)
  refine R_putF' (pc := 236) (T := TX11) (fs' := [.ref 2, .ref 4, .ref 6, .ref 8, .ref 10, .ref 12, .ref 14, .int 16, .ref 16, .ref 20, .ref 26, .ref 30, .ref 34, .ref 39, .ref 41, .null, .null, .null, .null]) dX11_init_236 fX11_89 kFX11_89 rfl tX11_14 rfl rfl rfl rfl f_270 (by omega) (Nat.le_of_ble_eq_true rfl) rfl (fun h_271 f_272 g_273 => ?_)
  have F_274 : h_271 1 = .inr (.inr (11, [.ref 2, .ref 4, .ref 6, .ref 8, .ref 10, .ref 12, .ref 14, .int 16, .ref 16, .ref 20, .ref 26, .ref 30, .ref 34, .ref 39, .ref 41, .null, .null, .null, .null])) := f_272
  refine R_aload_n (pc := 239) 1 dX11_init_239 rfl rfl ?_
  refine R_new' (pc := 240) dX11_init_240 nX11_93 (by decide) (by decide) (fun h_275 f_276 g_277 => ?_)
  have F_278 : h_275 47 = .inr (.inr (4, [.null, .null, .null, .null, .null, .null, .null, .null, .null])) := f_276
  refine R_dup (pc := 243) dX11_init_243 rfl ?_
  refine R_aload_n (pc := 244) 1 dX11_init_244 rfl rfl ?_
  have f_279 := ((g_277 1 (by decide)).trans F_274)
  refine R_get (pc := 245) dX11_init_245 fX11_43 f_279 (by omega) rfl ?_
  refine R_aload_n (pc := 248) 1 dX11_init_248 rfl rfl ?_
  refine R_get (pc := 249) dX11_init_249 fX11_47 f_279 (by omega) rfl ?_
  refine R_aload_n (pc := 252) 1 dX11_init_252 rfl rfl ?_
  refine R_get (pc := 253) dX11_init_253 fX11_64 f_279 (by omega) rfl ?_
  refine R_aload_n (pc := 256) 1 dX11_init_256 rfl rfl ?_
  refine R_get (pc := 257) dX11_init_257 fX11_21 f_279 (by omega) rfl ?_
  refine R_aload_n (pc := 260) 1 dX11_init_260 rfl rfl ?_
  refine R_get (pc := 261) dX11_init_261 fX11_24 f_279 (by omega) rfl ?_
  refine R_aload_n (pc := 264) 0 dX11_init_264 rfl rfl ?_
  refine R_callI (pc := 265) (μ' := mX4_init) (As := [.ref 16, .ref 20, .ref 30, .ref 6, .ref 8, .ref 24]) (st := [.ref 47, .ref 1]) dX11_init_265 zX4_init rfl lX11_95 ⟨by decide, by decide⟩ ⟨by decide, by decide⟩ rfl (Nat.le_of_ble_eq_true rfl) (qX4_init l w _ 47 47 16 20 30 6 8 24 (by omega) F_278) (fun h_280 nn_ rr_ q_281 => ?_)
  obtain ⟨rfl, rfl, p_282, p_283, p_284, p_285, g_286⟩ := q_281
  have F_287 : h_280 47 = .inr (.inr (4, [.ref 16, .ref 20, .ref 30, .ref 6, .ref 8, .ref 24, .ref 48, .ref 49, .ref 50])) := p_282
  have F_288 : h_280 48 = .inr (.inr (0, [.long 0, .long 0])) := p_283
  have F_289 : h_280 49 = .inr (.inr (0, [.long 0, .long 0])) := p_284
  have F_290 : h_280 50 = .inr (.inr (0, [.long 0, .long 0])) := p_285
  have f_291 := ((g_286 1 (by decide) (by decide)).trans f_279)
  refine R_putF' (pc := 268) (T := TX11) (fs' := [.ref 2, .ref 4, .ref 6, .ref 8, .ref 10, .ref 12, .ref 14, .int 16, .ref 16, .ref 20, .ref 26, .ref 30, .ref 34, .ref 39, .ref 41, .ref 47, .null, .null, .null]) dX11_init_268 fX11_98 kFX11_98 rfl tX11_15 rfl rfl rfl rfl f_291 (by omega) (Nat.le_of_ble_eq_true rfl) rfl (fun h_292 f_293 g_294 => ?_)
  have F_295 : h_292 1 = .inr (.inr (11, [.ref 2, .ref 4, .ref 6, .ref 8, .ref 10, .ref 12, .ref 14, .int 16, .ref 16, .ref 20, .ref 26, .ref 30, .ref 34, .ref 39, .ref 41, .ref 47, .null, .null, .null])) := f_293
  refine R_aload_n (pc := 271) 1 dX11_init_271 rfl rfl ?_
  refine R_new' (pc := 272) dX11_init_272 nX11_102 (by decide) (by decide) (fun h_296 f_297 g_298 => ?_)
  have F_299 : h_296 51 = .inr (.inr (5, [.null, .null, .null, .null, .null, .null, .null, .null, .null, .null])) := f_297
  refine R_dup (pc := 275) dX11_init_275 rfl ?_
  refine R_aload_n (pc := 276) 1 dX11_init_276 rfl rfl ?_
  have f_300 := ((g_298 1 (by decide)).trans F_295)
  refine R_get (pc := 277) dX11_init_277 fX11_43 f_300 (by omega) rfl ?_
  refine R_aload_n (pc := 280) 1 dX11_init_280 rfl rfl ?_
  refine R_get (pc := 281) dX11_init_281 fX11_21 f_300 (by omega) rfl ?_
  refine R_aload_n (pc := 284) 1 dX11_init_284 rfl rfl ?_
  refine R_get (pc := 285) dX11_init_285 fX11_24 f_300 (by omega) rfl ?_
  refine R_callI (pc := 288) (μ' := mX5_init) (As := [.ref 16, .ref 6, .ref 8]) (st := [.ref 51, .ref 1]) dX11_init_288 zX5_init rfl lX11_104 ⟨by decide, by decide⟩ ⟨by decide, by decide⟩ rfl (Nat.le_of_ble_eq_true rfl) (qX5_init l w _ 51 51 16 6 8 (by omega) F_299) (fun h_301 nn_ rr_ q_302 => ?_)
  obtain ⟨rfl, rfl, p_303, p_304, p_305, p_306, p_307, p_308, p_309, p_310, g_311⟩ := q_302
  have F_312 : h_301 51 = .inr (.inr (5, [.ref 16, .ref 6, .ref 8, .ref 52, .ref 53, .ref 54, .ref 55, .ref 56, .ref 57, .ref 58])) := p_303
  have F_313 : h_301 52 = .inr (.inr (0, [.long 0, .long 0])) := p_304
  have F_314 : h_301 53 = .inr (.inr (0, [.long 0, .long 0])) := p_305
  have F_315 : h_301 54 = .inr (.inr (0, [.long 0, .long 0])) := p_306
  have F_316 : h_301 55 = .inr (.inr (0, [.long 0, .long 0])) := p_307
  have F_317 : h_301 56 = .inr (.inr (0, [.long 0, .long 0])) := p_308
  have F_318 : h_301 57 = .inr (.inr (0, [.long 0, .long 0])) := p_309
  have F_319 : h_301 58 = .inr (.inr (0, [.long 0, .long 0])) := p_310
  have f_320 := ((g_311 1 (by decide) (by decide)).trans f_300)
  refine R_putF' (pc := 291) (T := TX11) (fs' := [.ref 2, .ref 4, .ref 6, .ref 8, .ref 10, .ref 12, .ref 14, .int 16, .ref 16, .ref 20, .ref 26, .ref 30, .ref 34, .ref 39, .ref 41, .ref 47, .ref 51, .null, .null]) dX11_init_291 fX11_105 kFX11_105 rfl tX11_16 rfl rfl rfl rfl f_320 (by omega) (Nat.le_of_ble_eq_true rfl) rfl (fun h_321 f_322 g_323 => ?_)
  have F_324 : h_321 1 = .inr (.inr (11, [.ref 2, .ref 4, .ref 6, .ref 8, .ref 10, .ref 12, .ref 14, .int 16, .ref 16, .ref 20, .ref 26, .ref 30, .ref 34, .ref 39, .ref 41, .ref 47, .ref 51, .null, .null])) := f_322
  refine R_aload_n (pc := 294) 1 dX11_init_294 rfl rfl ?_
  refine R_new' (pc := 295) dX11_init_295 nX11_109 (by decide) (by decide) (fun h_325 f_326 g_327 => ?_)
  have F_328 : h_325 59 = .inr (.inr (0, [.long 0, .long 0])) := f_326
  refine R_dup (pc := 298) dX11_init_298 rfl ?_
  refine R_callI (pc := 299) (μ' := mX0_init) (As := []) (st := [.ref 59, .ref 1]) dX11_init_299 zX0_init rfl lX11_111 ⟨by decide, by decide⟩ ⟨by decide, by decide⟩ rfl (Nat.le_of_ble_eq_true rfl) (qX0_init l w _ _ _) (fun h_329 nn_ rr_ q_330 => ?_)
  obtain ⟨e_, rfl, rfl⟩ := q_330
  replace e_ := e_.symm
  subst e_
  have f_331 := ((g_327 1 (by decide)).trans F_324)
  refine R_putF' (pc := 302) (T := TX11) (fs' := [.ref 2, .ref 4, .ref 6, .ref 8, .ref 10, .ref 12, .ref 14, .int 16, .ref 16, .ref 20, .ref 26, .ref 30, .ref 34, .ref 39, .ref 41, .ref 47, .ref 51, .ref 59, .null]) dX11_init_302 fX11_112 kFX11_112 rfl tX11_17 rfl rfl rfl rfl f_331 (by omega) (Nat.le_of_ble_eq_true rfl) rfl (fun h_332 f_333 g_334 => ?_)
  have F_335 : h_332 1 = .inr (.inr (11, [.ref 2, .ref 4, .ref 6, .ref 8, .ref 10, .ref 12, .ref 14, .int 16, .ref 16, .ref 20, .ref 26, .ref 30, .ref 34, .ref 39, .ref 41, .ref 47, .ref 51, .ref 59, .null])) := f_333
  refine R_aload_n (pc := 305) 1 dX11_init_305 rfl rfl ?_
  refine R_new' (pc := 306) dX11_init_306 nX11_109 (by decide) (by decide) (fun h_336 f_337 g_338 => ?_)
  have F_339 : h_336 60 = .inr (.inr (0, [.long 0, .long 0])) := f_337
  refine R_dup (pc := 309) dX11_init_309 rfl ?_
  refine R_callI (pc := 310) (μ' := mX0_init) (As := []) (st := [.ref 60, .ref 1]) dX11_init_310 zX0_init rfl lX11_111 ⟨by decide, by decide⟩ ⟨by decide, by decide⟩ rfl (Nat.le_of_ble_eq_true rfl) (qX0_init l w _ _ _) (fun h_340 nn_ rr_ q_341 => ?_)
  obtain ⟨e_, rfl, rfl⟩ := q_341
  replace e_ := e_.symm
  subst e_
  have f_342 := ((g_338 1 (by decide)).trans F_335)
  refine R_putF' (pc := 313) (T := TX11) (fs' := [.ref 2, .ref 4, .ref 6, .ref 8, .ref 10, .ref 12, .ref 14, .int 16, .ref 16, .ref 20, .ref 26, .ref 30, .ref 34, .ref 39, .ref 41, .ref 47, .ref 51, .ref 59, .ref 60]) dX11_init_313 fX11_116 kFX11_116 rfl tX11_18 rfl rfl rfl rfl f_342 (by omega) (Nat.le_of_ble_eq_true rfl) rfl (fun h_343 f_344 g_345 => ?_)
  have F_346 : h_343 1 = .inr (.inr (11, [.ref 2, .ref 4, .ref 6, .ref 8, .ref 10, .ref 12, .ref 14, .int 16, .ref 16, .ref 20, .ref 26, .ref 30, .ref 34, .ref 39, .ref 41, .ref 47, .ref 51, .ref 59, .ref 60])) := f_344
  have E_55 : ∀ x, x ≠ 1 → x ≤ 60 → h_343 x = h_343 x := fun _ _ _ => rfl
  have E_54 : ∀ x, x ≠ 1 → x ≤ 60 → h_343 x = h_336 x := fun x_ a_ b_ => (E_55 x_ a_ (by omega)).trans (g_345 x_ (by omega))
  have E_53 : ∀ x, x ≠ 1 → x ≤ 59 → h_343 x = h_332 x := fun x_ a_ b_ => (E_54 x_ a_ (by omega)).trans (g_338 x_ (by omega))
  have E_52 : ∀ x, x ≠ 1 → x ≤ 59 → h_343 x = h_325 x := fun x_ a_ b_ => (E_53 x_ a_ (by omega)).trans (g_334 x_ (by omega))
  have E_51 : ∀ x, x ≠ 1 → x ≤ 58 → h_343 x = h_321 x := fun x_ a_ b_ => (E_52 x_ a_ (by omega)).trans (g_327 x_ (by omega))
  have E_50 : ∀ x, x ≠ 1 → x ≤ 58 → h_343 x = h_301 x := fun x_ a_ b_ => (E_51 x_ a_ (by omega)).trans (g_323 x_ (by omega))
  have E_49 : ∀ x, x ≠ 1 → x ≤ 50 → h_343 x = h_296 x := fun x_ a_ b_ => (E_50 x_ a_ (by omega)).trans (g_311 x_ (by omega) (by omega))
  have E_48 : ∀ x, x ≠ 1 → x ≤ 50 → h_343 x = h_292 x := fun x_ a_ b_ => (E_49 x_ a_ (by omega)).trans (g_298 x_ (by omega))
  have E_47 : ∀ x, x ≠ 1 → x ≤ 50 → h_343 x = h_280 x := fun x_ a_ b_ => (E_48 x_ a_ (by omega)).trans (g_294 x_ (by omega))
  have E_46 : ∀ x, x ≠ 1 → x ≤ 46 → h_343 x = h_275 x := fun x_ a_ b_ => (E_47 x_ a_ (by omega)).trans (g_286 x_ (by omega) (by omega))
  have E_45 : ∀ x, x ≠ 1 → x ≤ 46 → h_343 x = h_271 x := fun x_ a_ b_ => (E_46 x_ a_ (by omega)).trans (g_277 x_ (by omega))
  have E_44 : ∀ x, x ≠ 1 → x ≤ 46 → h_343 x = h_255 x := fun x_ a_ b_ => (E_45 x_ a_ (by omega)).trans (g_273 x_ (by omega))
  have E_43 : ∀ x, x ≠ 1 → x ≤ 40 → h_343 x = h_250 x := fun x_ a_ b_ => (E_44 x_ a_ (by omega)).trans (g_263 x_ (by omega) (by omega))
  have E_42 : ∀ x, x ≠ 1 → x ≤ 40 → h_343 x = h_246 x := fun x_ a_ b_ => (E_43 x_ a_ (by omega)).trans (g_252 x_ (by omega))
  have E_41 : ∀ x, x ≠ 1 → x ≤ 40 → h_343 x = h_238 x := fun x_ a_ b_ => (E_42 x_ a_ (by omega)).trans (g_248 x_ (by omega))
  have E_40 : ∀ x, x ≠ 1 → x ≤ 38 → h_343 x = h_233 x := fun x_ a_ b_ => (E_41 x_ a_ (by omega)).trans (g_242 x_ (by omega) (by omega))
  have E_39 : ∀ x, x ≠ 1 → x ≤ 38 → h_343 x = h_229 x := fun x_ a_ b_ => (E_40 x_ a_ (by omega)).trans (g_235 x_ (by omega))
  have E_38 : ∀ x, x ≠ 1 → x ≤ 38 → h_343 x = h_215 x := fun x_ a_ b_ => (E_39 x_ a_ (by omega)).trans (g_231 x_ (by omega))
  have E_37 : ∀ x, x ≠ 1 → x ≤ 33 → h_343 x = h_210 x := fun x_ a_ b_ => (E_38 x_ a_ (by omega)).trans (g_222 x_ (by omega) (by omega))
  have E_36 : ∀ x, x ≠ 1 → x ≤ 33 → h_343 x = h_206 x := fun x_ a_ b_ => (E_37 x_ a_ (by omega)).trans (g_212 x_ (by omega))
  have E_35 : ∀ x, x ≠ 1 → x ≤ 33 → h_343 x = h_194 x := fun x_ a_ b_ => (E_36 x_ a_ (by omega)).trans (g_208 x_ (by omega))
  have E_34 : ∀ x, x ≠ 1 → x ≤ 29 → h_343 x = h_189 x := fun x_ a_ b_ => (E_35 x_ a_ (by omega)).trans (g_200 x_ (by omega) (by omega))
  have E_33 : ∀ x, x ≠ 1 → x ≤ 29 → h_343 x = h_185 x := fun x_ a_ b_ => (E_34 x_ a_ (by omega)).trans (g_191 x_ (by omega))
  have E_32 : ∀ x, x ≠ 1 → x ≤ 29 → h_343 x = h_173 x := fun x_ a_ b_ => (E_33 x_ a_ (by omega)).trans (g_187 x_ (by omega))
  have E_31 : ∀ x, x ≠ 1 → x ≤ 25 → h_343 x = h_168 x := fun x_ a_ b_ => (E_32 x_ a_ (by omega)).trans (g_179 x_ (by omega) (by omega))
  have E_30 : ∀ x, x ≠ 1 → x ≤ 25 → h_343 x = h_161 x := fun x_ a_ b_ => (E_31 x_ a_ (by omega)).trans (g_170 x_ (by omega))
  have E_29 : ∀ x, x ≠ 1 → x ≤ 23 → h_343 x = h_157 x := fun x_ a_ b_ => (E_30 x_ a_ (by omega)).trans (g_165 x_ (by omega) (by omega))
  have E_28 : ∀ x, x ≠ 1 → x ≤ 23 → h_343 x = h_153 x := fun x_ a_ b_ => (E_29 x_ a_ (by omega)).trans (g_159 x_ (by omega))
  have E_27 : ∀ x, x ≠ 1 → x ≤ 23 → h_343 x = h_141 x := fun x_ a_ b_ => (E_28 x_ a_ (by omega)).trans (g_155 x_ (by omega))
  have E_26 : ∀ x, x ≠ 1 → x ≤ 19 → h_343 x = h_137 x := fun x_ a_ b_ => (E_27 x_ a_ (by omega)).trans (g_147 x_ (by omega) (by omega))
  have E_25 : ∀ x, x ≠ 1 → x ≤ 19 → h_343 x = h_133 x := fun x_ a_ b_ => (E_26 x_ a_ (by omega)).trans (g_139 x_ (by omega))
  have E_24 : ∀ x, x ≠ 1 → x ≤ 19 → h_343 x = h_121 x := fun x_ a_ b_ => (E_25 x_ a_ (by omega)).trans (g_135 x_ (by omega))
  have E_23 : ∀ x, x ≠ 1 → x ≤ 15 → h_343 x = h_117 x := fun x_ a_ b_ => (E_24 x_ a_ (by omega)).trans (g_127 x_ (by omega) (by omega))
  have E_22 : ∀ x, x ≠ 1 → x ≤ 15 → h_343 x = h_113 x := fun x_ a_ b_ => (E_23 x_ a_ (by omega)).trans (g_119 x_ (by omega))
  have E_21 : ∀ x, x ≠ 1 → x ≤ 15 → h_343 x = h_109 x := fun x_ a_ b_ => (E_22 x_ a_ (by omega)).trans (g_115 x_ (by omega))
  have E_20 : ∀ x, x ≠ 1 → x ≤ 15 → h_343 x = h_101 x := fun x_ a_ b_ => (E_21 x_ a_ (by omega)).trans (g_111 x_ (by omega))
  have E_19 : ∀ x, x ≠ 1 → x ≤ 13 → h_343 x = h_97 x := fun x_ a_ b_ => (E_20 x_ a_ (by omega)).trans (g_105 x_ (by omega) (by omega))
  have E_18 : ∀ x, x ≠ 1 → x ≤ 13 → h_343 x = h_93 x := fun x_ a_ b_ => (E_19 x_ a_ (by omega)).trans (g_99 x_ (by omega))
  have E_17 : ∀ x, x ≠ 1 → x ≤ 13 → h_343 x = h_85 x := fun x_ a_ b_ => (E_18 x_ a_ (by omega)).trans (g_95 x_ (by omega))
  have E_16 : ∀ x, x ≠ 1 → x ≤ 11 → h_343 x = h_81 x := fun x_ a_ b_ => (E_17 x_ a_ (by omega)).trans (g_89 x_ (by omega) (by omega))
  have E_15 : ∀ x, x ≠ 1 → x ≤ 11 → h_343 x = h_77 x := fun x_ a_ b_ => (E_16 x_ a_ (by omega)).trans (g_83 x_ (by omega))
  have E_14 : ∀ x, x ≠ 1 → x ≤ 11 → h_343 x = h_69 x := fun x_ a_ b_ => (E_15 x_ a_ (by omega)).trans (g_79 x_ (by omega))
  have E_13 : ∀ x, x ≠ 1 → x ≤ 9 → h_343 x = h_65 x := fun x_ a_ b_ => (E_14 x_ a_ (by omega)).trans (g_73 x_ (by omega) (by omega))
  have E_12 : ∀ x, x ≠ 1 → x ≤ 9 → h_343 x = h_61 x := fun x_ a_ b_ => (E_13 x_ a_ (by omega)).trans (g_67 x_ (by omega))
  have E_11 : ∀ x, x ≠ 1 → x ≤ 9 → h_343 x = h_53 x := fun x_ a_ b_ => (E_12 x_ a_ (by omega)).trans (g_63 x_ (by omega))
  have E_10 : ∀ x, x ≠ 1 → x ≤ 7 → h_343 x = h_49 x := fun x_ a_ b_ => (E_11 x_ a_ (by omega)).trans (g_57 x_ (by omega) (by omega))
  have E_9 : ∀ x, x ≠ 1 → x ≤ 7 → h_343 x = h_45 x := fun x_ a_ b_ => (E_10 x_ a_ (by omega)).trans (g_51 x_ (by omega))
  have E_8 : ∀ x, x ≠ 1 → x ≤ 7 → h_343 x = h_37 x := fun x_ a_ b_ => (E_9 x_ a_ (by omega)).trans (g_47 x_ (by omega))
  have E_7 : ∀ x, x ≠ 1 → x ≤ 5 → h_343 x = h_33 x := fun x_ a_ b_ => (E_8 x_ a_ (by omega)).trans (g_41 x_ (by omega) (by omega))
  have E_6 : ∀ x, x ≠ 1 → x ≤ 5 → h_343 x = h_29 x := fun x_ a_ b_ => (E_7 x_ a_ (by omega)).trans (g_35 x_ (by omega))
  have E_5 : ∀ x, x ≠ 1 → x ≤ 5 → h_343 x = h_21 x := fun x_ a_ b_ => (E_6 x_ a_ (by omega)).trans (g_31 x_ (by omega))
  have E_4 : ∀ x, x ≠ 1 → x ≤ 3 → h_343 x = h_17 x := fun x_ a_ b_ => (E_5 x_ a_ (by omega)).trans (g_25 x_ (by omega) (by omega))
  have E_3 : ∀ x, x ≠ 1 → x ≤ 3 → h_343 x = h_13 x := fun x_ a_ b_ => (E_4 x_ a_ (by omega)).trans (g_19 x_ (by omega))
  have E_2 : ∀ x, x ≠ 1 → x ≤ 3 → h_343 x = h_5 x := fun x_ a_ b_ => (E_3 x_ a_ (by omega)).trans (g_15 x_ (by omega))
  have E_1 : ∀ x, x ≠ 1 → x ≤ 1 → h_343 x = h_1 x := fun x_ a_ b_ => (E_2 x_ a_ (by omega)).trans (g_9 x_ (by omega) (by omega))
  have E_0 : ∀ x, x ≠ 1 → x ≤ 1 → h_343 x = h x := fun x_ a_ b_ => (E_1 x_ a_ (by omega)).trans (g_3 x_ (by omega))
  have Z_2 : h_343 2 = .inr (.inr (6, [.ref 3, .int 0])) := (E_2 2 (by decide) (by decide)).trans F_10
  have Z_3 : h_343 3 = .inl (64, (fun _ => 0)) := (E_2 3 (by decide) (by decide)).trans F_11
  have Z_4 : h_343 4 = .inr (.inr (6, [.ref 5, .int 0])) := (E_5 4 (by decide) (by decide)).trans F_26
  have Z_5 : h_343 5 = .inl (512, (fun _ => 0)) := (E_5 5 (by decide) (by decide)).trans F_27
  have Z_6 : h_343 6 = .inr (.inr (6, [.ref 7, .int 0])) := (E_8 6 (by decide) (by decide)).trans F_42
  have Z_7 : h_343 7 = .inl (64, (fun _ => 0)) := (E_8 7 (by decide) (by decide)).trans F_43
  have Z_8 : h_343 8 = .inr (.inr (6, [.ref 9, .int 0])) := (E_11 8 (by decide) (by decide)).trans F_58
  have Z_9 : h_343 9 = .inl (256, (fun _ => 0)) := (E_11 9 (by decide) (by decide)).trans F_59
  have Z_10 : h_343 10 = .inr (.inr (6, [.ref 11, .int 0])) := (E_14 10 (by decide) (by decide)).trans F_74
  have Z_11 : h_343 11 = .inl (512, (fun _ => 0)) := (E_14 11 (by decide) (by decide)).trans F_75
  have Z_12 : h_343 12 = .inr (.inr (6, [.ref 13, .int 0])) := (E_17 12 (by decide) (by decide)).trans F_90
  have Z_13 : h_343 13 = .inl (528, (fun _ => 0)) := (E_17 13 (by decide) (by decide)).trans F_91
  have Z_14 : h_343 14 = .inr (.inr (6, [.ref 15, .int 0])) := (E_20 14 (by decide) (by decide)).trans F_106
  have Z_15 : h_343 15 = .inl (528, (fun _ => 0)) := (E_20 15 (by decide) (by decide)).trans F_107
  have Z_16 : h_343 16 = .inr (.inr (2, [.ref 17, .ref 18, .ref 19, .int 10])) := (E_24 16 (by decide) (by decide)).trans F_128
  have Z_17 : h_343 17 = .inl (60, (fun _ => 0)) := (E_24 17 (by decide) (by decide)).trans F_129
  have Z_18 : h_343 18 = .inr (.inl (30, (fun _ => 0))) := (E_24 18 (by decide) (by decide)).trans F_130
  have Z_19 : h_343 19 = .inr (.inr (8, [.long 0, .long 0])) := (E_24 19 (by decide) (by decide)).trans F_131
  have Z_20 : h_343 20 = .inr (.inr (2, [.ref 21, .ref 22, .ref 23, .int 10])) := (E_27 20 (by decide) (by decide)).trans F_148
  have Z_21 : h_343 21 = .inl (60, (fun _ => 0)) := (E_27 21 (by decide) (by decide)).trans F_149
  have Z_22 : h_343 22 = .inr (.inl (30, (fun _ => 0))) := (E_27 22 (by decide) (by decide)).trans F_150
  have Z_23 : h_343 23 = .inr (.inr (8, [.long 0, .long 0])) := (E_27 23 (by decide) (by decide)).trans F_151
  have Z_24 : h_343 24 = .inr (.inr (6, [.ref 25, .int 0])) := (E_30 24 (by decide) (by decide)).trans F_166
  have Z_25 : h_343 25 = .inl (800, (fun _ => 0)) := (E_30 25 (by decide) (by decide)).trans F_167
  have Z_26 : h_343 26 = .inr (.inr (1, [.ref 16, .ref 6, .ref 24, .ref 27, .ref 28, .ref 29])) := (E_32 26 (by decide) (by decide)).trans F_180
  have Z_27 : h_343 27 = .inr (.inr (0, [.long 0, .long 0])) := (E_32 27 (by decide) (by decide)).trans F_181
  have Z_28 : h_343 28 = .inr (.inr (0, [.long 0, .long 0])) := (E_32 28 (by decide) (by decide)).trans F_182
  have Z_29 : h_343 29 = .inr (.inr (0, [.long 0, .long 0])) := (E_32 29 (by decide) (by decide)).trans F_183
  have Z_30 : h_343 30 = .inr (.inr (9, [.ref 16, .ref 6, .ref 31, .ref 32, .ref 33])) := (E_35 30 (by decide) (by decide)).trans F_201
  have Z_31 : h_343 31 = .inr (.inr (0, [.long 0, .long 0])) := (E_35 31 (by decide) (by decide)).trans F_202
  have Z_32 : h_343 32 = .inr (.inr (0, [.long 0, .long 0])) := (E_35 32 (by decide) (by decide)).trans F_203
  have Z_33 : h_343 33 = .inr (.inr (0, [.long 0, .long 0])) := (E_35 33 (by decide) (by decide)).trans F_204
  have Z_34 : h_343 34 = .inr (.inr (7, [.ref 16, .ref 20, .ref 6, .ref 35, .ref 36, .ref 37, .ref 38])) := (E_38 34 (by decide) (by decide)).trans F_223
  have Z_35 : h_343 35 = .inr (.inr (0, [.long 0, .long 0])) := (E_38 35 (by decide) (by decide)).trans F_224
  have Z_36 : h_343 36 = .inr (.inr (0, [.long 0, .long 0])) := (E_38 36 (by decide) (by decide)).trans F_225
  have Z_37 : h_343 37 = .inr (.inr (0, [.long 0, .long 0])) := (E_38 37 (by decide) (by decide)).trans F_226
  have Z_38 : h_343 38 = .inr (.inr (0, [.long 0, .long 0])) := (E_38 38 (by decide) (by decide)).trans F_227
  have Z_39 : h_343 39 = .inr (.inr (10, [.ref 16, .ref 40])) := (E_41 39 (by decide) (by decide)).trans F_243
  have Z_40 : h_343 40 = .inr (.inr (0, [.long 0, .long 0])) := (E_41 40 (by decide) (by decide)).trans F_244
  have Z_41 : h_343 41 = .inr (.inr (3, [.ref 16, .ref 6, .ref 8, .ref 42, .ref 43, .ref 44, .ref 45, .ref 46])) := (E_44 41 (by decide) (by decide)).trans F_264
  have Z_42 : h_343 42 = .inr (.inr (0, [.long 0, .long 0])) := (E_44 42 (by decide) (by decide)).trans F_265
  have Z_43 : h_343 43 = .inr (.inr (0, [.long 0, .long 0])) := (E_44 43 (by decide) (by decide)).trans F_266
  have Z_44 : h_343 44 = .inr (.inr (0, [.long 0, .long 0])) := (E_44 44 (by decide) (by decide)).trans F_267
  have Z_45 : h_343 45 = .inr (.inr (0, [.long 0, .long 0])) := (E_44 45 (by decide) (by decide)).trans F_268
  have Z_46 : h_343 46 = .inr (.inr (0, [.long 0, .long 0])) := (E_44 46 (by decide) (by decide)).trans F_269
  have Z_47 : h_343 47 = .inr (.inr (4, [.ref 16, .ref 20, .ref 30, .ref 6, .ref 8, .ref 24, .ref 48, .ref 49, .ref 50])) := (E_47 47 (by decide) (by decide)).trans F_287
  have Z_48 : h_343 48 = .inr (.inr (0, [.long 0, .long 0])) := (E_47 48 (by decide) (by decide)).trans F_288
  have Z_49 : h_343 49 = .inr (.inr (0, [.long 0, .long 0])) := (E_47 49 (by decide) (by decide)).trans F_289
  have Z_50 : h_343 50 = .inr (.inr (0, [.long 0, .long 0])) := (E_47 50 (by decide) (by decide)).trans F_290
  have Z_51 : h_343 51 = .inr (.inr (5, [.ref 16, .ref 6, .ref 8, .ref 52, .ref 53, .ref 54, .ref 55, .ref 56, .ref 57, .ref 58])) := (E_50 51 (by decide) (by decide)).trans F_312
  have Z_52 : h_343 52 = .inr (.inr (0, [.long 0, .long 0])) := (E_50 52 (by decide) (by decide)).trans F_313
  have Z_53 : h_343 53 = .inr (.inr (0, [.long 0, .long 0])) := (E_50 53 (by decide) (by decide)).trans F_314
  have Z_54 : h_343 54 = .inr (.inr (0, [.long 0, .long 0])) := (E_50 54 (by decide) (by decide)).trans F_315
  have Z_55 : h_343 55 = .inr (.inr (0, [.long 0, .long 0])) := (E_50 55 (by decide) (by decide)).trans F_316
  have Z_56 : h_343 56 = .inr (.inr (0, [.long 0, .long 0])) := (E_50 56 (by decide) (by decide)).trans F_317
  have Z_57 : h_343 57 = .inr (.inr (0, [.long 0, .long 0])) := (E_50 57 (by decide) (by decide)).trans F_318
  have Z_58 : h_343 58 = .inr (.inr (0, [.long 0, .long 0])) := (E_50 58 (by decide) (by decide)).trans F_319
  have Z_59 : h_343 59 = .inr (.inr (0, [.long 0, .long 0])) := (E_52 59 (by decide) (by decide)).trans F_328
  have Z_60 : h_343 60 = .inr (.inr (0, [.long 0, .long 0])) := (E_54 60 (by decide) (by decide)).trans F_339
  refine R_vreturn (pc := 316) dX11_init_316 rfl (by decide) (by decide) ⟨rfl, rfl, ⟨fun r hr => ?_, fun a ha => ?_, fun c hc => ?_, ?_⟩, E_0 0 (by decide) (by decide)⟩
  · rcases rw_cases hr with rfl | rfl | rfl | rfl | rfl | rfl | rfl | rfl
    · exact ⟨Nat.zero_le _, by decide, Z_2, fun _ => 0, Z_3, fun j hj => absurd hj (Nat.not_lt_zero j)⟩
    · exact ⟨Nat.zero_le _, by decide, Z_4, fun _ => 0, Z_5, fun j hj => absurd hj (Nat.not_lt_zero j)⟩
    · exact ⟨Nat.zero_le _, by decide, Z_6, fun _ => 0, Z_7, fun j hj => absurd hj (Nat.not_lt_zero j)⟩
    · exact ⟨Nat.zero_le _, by decide, Z_8, fun _ => 0, Z_9, fun j hj => absurd hj (Nat.not_lt_zero j)⟩
    · exact ⟨Nat.zero_le _, by decide, Z_10, fun _ => 0, Z_11, fun j hj => absurd hj (Nat.not_lt_zero j)⟩
    · exact ⟨Nat.zero_le _, by decide, Z_12, fun _ => 0, Z_13, fun j hj => absurd hj (Nat.not_lt_zero j)⟩
    · exact ⟨Nat.zero_le _, by decide, Z_14, fun _ => 0, Z_15, fun j hj => absurd hj (Nat.not_lt_zero j)⟩
    · exact ⟨Nat.zero_le _, by decide, Z_24, fun _ => 0, Z_25, fun j hj => absurd hj (Nat.not_lt_zero j)⟩
  · have hb := bk_cases ha
    have hb2 : a = 27 ∨ a = 28 ∨ a = 29 ∨ a = 31 ∨ a = 32 ∨ a = 33 ∨ a = 35 ∨ a = 36 ∨ a = 37 ∨ a = 38 ∨ a = 40 ∨ a = 42 ∨ a = 43 ∨ a = 44 ∨ a = 45 ∨ a = 46 ∨ a = 48 ∨ a = 49 ∨ a = 50 ∨ a = 52 ∨ a = 53 ∨ a = 54 ∨ a = 55 ∨ a = 56 ∨ a = 57 ∨ a = 58 ∨ a = 59 ∨ a = 60 := by omega
    rcases hb2 with rfl | rfl | rfl | rfl | rfl | rfl | rfl | rfl | rfl | rfl | rfl | rfl | rfl | rfl | rfl | rfl | rfl | rfl | rfl | rfl | rfl | rfl | rfl | rfl | rfl | rfl | rfl | rfl
    · exact Z_27
    · exact Z_28
    · exact Z_29
    · exact Z_31
    · exact Z_32
    · exact Z_33
    · exact Z_35
    · exact Z_36
    · exact Z_37
    · exact Z_38
    · exact Z_40
    · exact Z_42
    · exact Z_43
    · exact Z_44
    · exact Z_45
    · exact Z_46
    · exact Z_48
    · exact Z_49
    · exact Z_50
    · exact Z_52
    · exact Z_53
    · exact Z_54
    · exact Z_55
    · exact Z_56
    · exact Z_57
    · exact Z_58
    · exact Z_59
    · exact Z_60
  · rcases hc with rfl | rfl
    · exact ⟨Z_16, Z_17, Z_18, 0, 0, Z_19⟩
    · exact ⟨Z_20, Z_21, Z_22, 0, 0, Z_23⟩
  · exact ⟨Z_26, Z_30, Z_34, Z_39, Z_41, Z_47, Z_51, F_346⟩
