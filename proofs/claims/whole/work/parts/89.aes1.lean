def boxI (v_1 v_2 v_3 v_4 v_5 v_6 v_7 v_8 : Int32) : Int32 × Int32 × Int32 × Int32 × Int32 × Int32 × Int32 × Int32 := let v_9 := v_5 ^^^ v_3; let v_10 := v_8 ^^^ v_2; let v_11 := v_8 ^^^ v_5; let v_12 := v_8 ^^^ v_3; let v_13 := v_7 ^^^ v_6; let v_14 := v_13 ^^^ v_1; let v_15 := v_14 ^^^ v_5; let v_16 := v_10 ^^^ v_9; let v_17 := v_14 ^^^ v_8; let v_18 := v_14 ^^^ v_2; let v_19 := v_18 ^^^ v_12; let v_20 := v_4 ^^^ v_16; let v_21 := v_20 ^^^ v_3; let v_22 := v_20 ^^^ v_7; let v_23 := v_21 ^^^ v_1; let v_24 := v_21 ^^^ v_13; let v_25 := v_22 ^^^ v_11; let v_26 := v_1 ^^^ v_25; let v_27 := v_24 ^^^ v_25; let v_28 := v_24 ^^^ v_12; let v_29 := v_13 ^^^ v_25; let v_30 := v_10 ^^^ v_29; let v_31 := v_8 ^^^ v_29; let v_32 := v_16 &&& v_21; let v_33 := (v_19 &&& v_23) ^^^ v_32; let v_34 := (v_15 &&& v_1) ^^^ v_32; let v_35 := v_10 &&& v_29; let v_36 := (v_18 &&& v_14) ^^^ v_35; let v_37 := (v_17 &&& v_26) ^^^ v_35; let v_38 := v_11 &&& v_25; let v_39 := (v_9 &&& v_27) ^^^ v_38; let v_40 := (v_12 &&& v_24) ^^^ v_38; let v_41 := (v_33 ^^^ v_39) ^^^ v_22; let v_42 := (v_34 ^^^ v_40) ^^^ v_28; let v_43 := (v_36 ^^^ v_39) ^^^ v_30; let v_44 := (v_37 ^^^ v_40) ^^^ v_31; let v_45 := v_41 ^^^ v_42; let v_46 := v_41 &&& v_43; let v_47 := v_44 ^^^ v_46; let v_48 := (v_45 &&& v_47) ^^^ v_42; let v_49 := v_43 ^^^ v_44; let v_50 := v_42 ^^^ v_46; let v_51 := (v_50 &&& v_49) ^^^ v_44; let v_52 := v_43 ^^^ v_51; let v_53 := v_47 ^^^ v_51; let v_54 := v_44 &&& v_53; let v_55 := v_54 ^^^ v_52; let v_56 := v_47 ^^^ v_54; let v_57 := v_45 ^^^ (v_48 &&& v_56); let v_58 := v_57 ^^^ v_55; let v_59 := v_48 ^^^ v_51; let v_60 := v_48 ^^^ v_57; let v_61 := v_51 ^^^ v_55; let v_62 := v_59 ^^^ v_58; let v_63 := v_61 &&& v_21; let v_64 := v_55 &&& v_23; let v_65 := v_51 &&& v_1; let v_66 := v_60 &&& v_29; let v_67 := v_57 &&& v_14; let v_68 := v_48 &&& v_26; let v_69 := v_59 &&& v_25; let v_70 := v_62 &&& v_27; let v_71 := v_58 &&& v_24; let v_72 := v_61 &&& v_16; let v_73 := v_55 &&& v_19; let v_74 := v_51 &&& v_15; let v_75 := v_60 &&& v_10; let v_76 := v_57 &&& v_18; let v_77 := v_48 &&& v_17; let v_78 := v_59 &&& v_11; let v_79 := v_62 &&& v_9; let v_80 := v_58 &&& v_12; let v_81 := v_78 ^^^ v_79; let v_82 := v_73 ^^^ v_74; let v_83 := v_68 ^^^ v_76; let v_84 := v_72 ^^^ v_73; let v_85 := v_65 ^^^ v_75; let v_86 := v_65 ^^^ v_68; let v_87 := v_70 ^^^ v_71; let v_88 := v_63 ^^^ v_66; let v_89 := v_69 ^^^ v_70; let v_90 := v_79 ^^^ v_80; let v_91 := v_75 ^^^ v_83; let v_92 := v_85 ^^^ v_88; let v_93 := v_67 ^^^ v_81; let v_94 := v_66 ^^^ v_89; let v_95 := v_81 ^^^ v_92; let v_96 := v_77 ^^^ v_92; let v_97 := v_87 ^^^ v_93; let v_98 := v_84 ^^^ v_93; let v_99 := v_67 ^^^ v_94; let v_100 := v_96 ^^^ v_97; let v_101 := v_64 ^^^ v_98; let v_102 := v_99 ^^^ v_100; let v_103 := v_88 ^^^ v_101; let v_104 := v_94 ^^^ v_98; let v_105 := (v_99 ^^^ v_103) ^^^ (65535 : Int32); let v_106 := (v_90 ^^^ v_102) ^^^ (65535 : Int32); let v_107 := v_86 ^^^ v_101; let v_108 := v_82 ^^^ v_100; let v_109 := (v_91 ^^^ v_97) ^^^ (65535 : Int32); let v_110 := (v_83 ^^^ v_95) ^^^ (65535 : Int32); (v_110, v_109, v_108, v_107, v_103, v_106, v_105, v_104)
def boxB (w_1 w_2 w_3 w_4 w_5 w_6 w_7 w_8 c : Bool) : Bool × Bool × Bool × Bool × Bool × Bool × Bool × Bool := let w_9 := w_5 ^^ w_3; let w_10 := w_8 ^^ w_2; let w_11 := w_8 ^^ w_5; let w_12 := w_8 ^^ w_3; let w_13 := w_7 ^^ w_6; let w_14 := w_13 ^^ w_1; let w_15 := w_14 ^^ w_5; let w_16 := w_10 ^^ w_9; let w_17 := w_14 ^^ w_8; let w_18 := w_14 ^^ w_2; let w_19 := w_18 ^^ w_12; let w_20 := w_4 ^^ w_16; let w_21 := w_20 ^^ w_3; let w_22 := w_20 ^^ w_7; let w_23 := w_21 ^^ w_1; let w_24 := w_21 ^^ w_13; let w_25 := w_22 ^^ w_11; let w_26 := w_1 ^^ w_25; let w_27 := w_24 ^^ w_25; let w_28 := w_24 ^^ w_12; let w_29 := w_13 ^^ w_25; let w_30 := w_10 ^^ w_29; let w_31 := w_8 ^^ w_29; let w_32 := w_16 && w_21; let w_33 := (w_19 && w_23) ^^ w_32; let w_34 := (w_15 && w_1) ^^ w_32; let w_35 := w_10 && w_29; let w_36 := (w_18 && w_14) ^^ w_35; let w_37 := (w_17 && w_26) ^^ w_35; let w_38 := w_11 && w_25; let w_39 := (w_9 && w_27) ^^ w_38; let w_40 := (w_12 && w_24) ^^ w_38; let w_41 := (w_33 ^^ w_39) ^^ w_22; let w_42 := (w_34 ^^ w_40) ^^ w_28; let w_43 := (w_36 ^^ w_39) ^^ w_30; let w_44 := (w_37 ^^ w_40) ^^ w_31; let w_45 := w_41 ^^ w_42; let w_46 := w_41 && w_43; let w_47 := w_44 ^^ w_46; let w_48 := (w_45 && w_47) ^^ w_42; let w_49 := w_43 ^^ w_44; let w_50 := w_42 ^^ w_46; let w_51 := (w_50 && w_49) ^^ w_44; let w_52 := w_43 ^^ w_51; let w_53 := w_47 ^^ w_51; let w_54 := w_44 && w_53; let w_55 := w_54 ^^ w_52; let w_56 := w_47 ^^ w_54; let w_57 := w_45 ^^ (w_48 && w_56); let w_58 := w_57 ^^ w_55; let w_59 := w_48 ^^ w_51; let w_60 := w_48 ^^ w_57; let w_61 := w_51 ^^ w_55; let w_62 := w_59 ^^ w_58; let w_63 := w_61 && w_21; let w_64 := w_55 && w_23; let w_65 := w_51 && w_1; let w_66 := w_60 && w_29; let w_67 := w_57 && w_14; let w_68 := w_48 && w_26; let w_69 := w_59 && w_25; let w_70 := w_62 && w_27; let w_71 := w_58 && w_24; let w_72 := w_61 && w_16; let w_73 := w_55 && w_19; let w_74 := w_51 && w_15; let w_75 := w_60 && w_10; let w_76 := w_57 && w_18; let w_77 := w_48 && w_17; let w_78 := w_59 && w_11; let w_79 := w_62 && w_9; let w_80 := w_58 && w_12; let w_81 := w_78 ^^ w_79; let w_82 := w_73 ^^ w_74; let w_83 := w_68 ^^ w_76; let w_84 := w_72 ^^ w_73; let w_85 := w_65 ^^ w_75; let w_86 := w_65 ^^ w_68; let w_87 := w_70 ^^ w_71; let w_88 := w_63 ^^ w_66; let w_89 := w_69 ^^ w_70; let w_90 := w_79 ^^ w_80; let w_91 := w_75 ^^ w_83; let w_92 := w_85 ^^ w_88; let w_93 := w_67 ^^ w_81; let w_94 := w_66 ^^ w_89; let w_95 := w_81 ^^ w_92; let w_96 := w_77 ^^ w_92; let w_97 := w_87 ^^ w_93; let w_98 := w_84 ^^ w_93; let w_99 := w_67 ^^ w_94; let w_100 := w_96 ^^ w_97; let w_101 := w_64 ^^ w_98; let w_102 := w_99 ^^ w_100; let w_103 := w_88 ^^ w_101; let w_104 := w_94 ^^ w_98; let w_105 := (w_99 ^^ w_103) ^^ c; let w_106 := (w_90 ^^ w_102) ^^ c; let w_107 := w_86 ^^ w_101; let w_108 := w_82 ^^ w_100; let w_109 := (w_91 ^^ w_97) ^^ c; let w_110 := (w_83 ^^ w_95) ^^ c; (w_110, w_109, w_108, w_107, w_103, w_106, w_105, w_104)
theorem k65535 : ∀ j, j < 32 → (65535 : Int32).toBitVec.getLsbD j = decide (j < 16) := by decide
set_option maxHeartbeats 4000000 in
set_option maxRecDepth 100000 in
theorem box_lane (v_1 v_2 v_3 v_4 v_5 v_6 v_7 v_8 : Int32) {j : Nat} (hj : j < 32) : (boxI v_1 v_2 v_3 v_4 v_5 v_6 v_7 v_8).1.toBitVec.getLsbD j = (boxB (v_1.toBitVec.getLsbD j) (v_2.toBitVec.getLsbD j) (v_3.toBitVec.getLsbD j) (v_4.toBitVec.getLsbD j) (v_5.toBitVec.getLsbD j) (v_6.toBitVec.getLsbD j) (v_7.toBitVec.getLsbD j) (v_8.toBitVec.getLsbD j) (decide (j < 16))).1 ∧ (boxI v_1 v_2 v_3 v_4 v_5 v_6 v_7 v_8).2.1.toBitVec.getLsbD j = (boxB (v_1.toBitVec.getLsbD j) (v_2.toBitVec.getLsbD j) (v_3.toBitVec.getLsbD j) (v_4.toBitVec.getLsbD j) (v_5.toBitVec.getLsbD j) (v_6.toBitVec.getLsbD j) (v_7.toBitVec.getLsbD j) (v_8.toBitVec.getLsbD j) (decide (j < 16))).2.1 ∧ (boxI v_1 v_2 v_3 v_4 v_5 v_6 v_7 v_8).2.2.1.toBitVec.getLsbD j = (boxB (v_1.toBitVec.getLsbD j) (v_2.toBitVec.getLsbD j) (v_3.toBitVec.getLsbD j) (v_4.toBitVec.getLsbD j) (v_5.toBitVec.getLsbD j) (v_6.toBitVec.getLsbD j) (v_7.toBitVec.getLsbD j) (v_8.toBitVec.getLsbD j) (decide (j < 16))).2.2.1 ∧ (boxI v_1 v_2 v_3 v_4 v_5 v_6 v_7 v_8).2.2.2.1.toBitVec.getLsbD j = (boxB (v_1.toBitVec.getLsbD j) (v_2.toBitVec.getLsbD j) (v_3.toBitVec.getLsbD j) (v_4.toBitVec.getLsbD j) (v_5.toBitVec.getLsbD j) (v_6.toBitVec.getLsbD j) (v_7.toBitVec.getLsbD j) (v_8.toBitVec.getLsbD j) (decide (j < 16))).2.2.2.1 ∧ (boxI v_1 v_2 v_3 v_4 v_5 v_6 v_7 v_8).2.2.2.2.1.toBitVec.getLsbD j = (boxB (v_1.toBitVec.getLsbD j) (v_2.toBitVec.getLsbD j) (v_3.toBitVec.getLsbD j) (v_4.toBitVec.getLsbD j) (v_5.toBitVec.getLsbD j) (v_6.toBitVec.getLsbD j) (v_7.toBitVec.getLsbD j) (v_8.toBitVec.getLsbD j) (decide (j < 16))).2.2.2.2.1 ∧ (boxI v_1 v_2 v_3 v_4 v_5 v_6 v_7 v_8).2.2.2.2.2.1.toBitVec.getLsbD j = (boxB (v_1.toBitVec.getLsbD j) (v_2.toBitVec.getLsbD j) (v_3.toBitVec.getLsbD j) (v_4.toBitVec.getLsbD j) (v_5.toBitVec.getLsbD j) (v_6.toBitVec.getLsbD j) (v_7.toBitVec.getLsbD j) (v_8.toBitVec.getLsbD j) (decide (j < 16))).2.2.2.2.2.1 ∧ (boxI v_1 v_2 v_3 v_4 v_5 v_6 v_7 v_8).2.2.2.2.2.2.1.toBitVec.getLsbD j = (boxB (v_1.toBitVec.getLsbD j) (v_2.toBitVec.getLsbD j) (v_3.toBitVec.getLsbD j) (v_4.toBitVec.getLsbD j) (v_5.toBitVec.getLsbD j) (v_6.toBitVec.getLsbD j) (v_7.toBitVec.getLsbD j) (v_8.toBitVec.getLsbD j) (decide (j < 16))).2.2.2.2.2.2.1 ∧ (boxI v_1 v_2 v_3 v_4 v_5 v_6 v_7 v_8).2.2.2.2.2.2.2.toBitVec.getLsbD j = (boxB (v_1.toBitVec.getLsbD j) (v_2.toBitVec.getLsbD j) (v_3.toBitVec.getLsbD j) (v_4.toBitVec.getLsbD j) (v_5.toBitVec.getLsbD j) (v_6.toBitVec.getLsbD j) (v_7.toBitVec.getLsbD j) (v_8.toBitVec.getLsbD j) (decide (j < 16))).2.2.2.2.2.2.2 := by
  have hc := k65535 j hj
  generalize decide (j < 16) = c at hc ⊢
  generalize h_1 : v_1.toBitVec.getLsbD j = w_1
  generalize h_2 : v_2.toBitVec.getLsbD j = w_2
  generalize h_3 : v_3.toBitVec.getLsbD j = w_3
  generalize h_4 : v_4.toBitVec.getLsbD j = w_4
  generalize h_5 : v_5.toBitVec.getLsbD j = w_5
  generalize h_6 : v_6.toBitVec.getLsbD j = w_6
  generalize h_7 : v_7.toBitVec.getLsbD j = w_7
  generalize h_8 : v_8.toBitVec.getLsbD j = w_8
  unfold boxI boxB
  extract_lets v_9 v_10 v_11 v_12 v_13 v_14 v_15 v_16 v_17 v_18 v_19 v_20 v_21 v_22 v_23 v_24 v_25 v_26 v_27 v_28 v_29 v_30 v_31 v_32 v_33 v_34 v_35 v_36 v_37 v_38 v_39 v_40 v_41 v_42 v_43 v_44 v_45 v_46 v_47 v_48 v_49 v_50 v_51 v_52 v_53 v_54 v_55 v_56 v_57 v_58 v_59 v_60 v_61 v_62 v_63 v_64 v_65 v_66 v_67 v_68 v_69 v_70 v_71 v_72 v_73 v_74 v_75 v_76 v_77 v_78 v_79 v_80 v_81 v_82 v_83 v_84 v_85 v_86 v_87 v_88 v_89 v_90 v_91 v_92 v_93 v_94 v_95 v_96 v_97 v_98 v_99 v_100 v_101 v_102 v_103 v_104 v_105 v_106 v_107 v_108 v_109 v_110 w_9 w_10 w_11 w_12 w_13 w_14 w_15 w_16 w_17 w_18 w_19 w_20 w_21 w_22 w_23 w_24 w_25 w_26 w_27 w_28 w_29 w_30 w_31 w_32 w_33 w_34 w_35 w_36 w_37 w_38 w_39 w_40 w_41 w_42 w_43 w_44 w_45 w_46 w_47 w_48 w_49 w_50 w_51 w_52 w_53 w_54 w_55 w_56 w_57 w_58 w_59 w_60 w_61 w_62 w_63 w_64 w_65 w_66 w_67 w_68 w_69 w_70 w_71 w_72 w_73 w_74 w_75 w_76 w_77 w_78 w_79 w_80 w_81 w_82 w_83 w_84 w_85 w_86 w_87 w_88 w_89 w_90 w_91 w_92 w_93 w_94 w_95 w_96 w_97 w_98 w_99 w_100 w_101 w_102 w_103 w_104 w_105 w_106 w_107 w_108 w_109 w_110
  have h_9 : v_9.toBitVec.getLsbD j = w_9 := by
    show (v_5 ^^^ v_3).toBitVec.getLsbD j = (w_5 ^^ w_3)
    simp only [Int32.toBitVec_xor, Int32.toBitVec_and, BitVec.getLsbD_xor, BitVec.getLsbD_and, h_3, h_5]
  have h_10 : v_10.toBitVec.getLsbD j = w_10 := by
    show (v_8 ^^^ v_2).toBitVec.getLsbD j = (w_8 ^^ w_2)
    simp only [Int32.toBitVec_xor, Int32.toBitVec_and, BitVec.getLsbD_xor, BitVec.getLsbD_and, h_2, h_8]
  have h_11 : v_11.toBitVec.getLsbD j = w_11 := by
    show (v_8 ^^^ v_5).toBitVec.getLsbD j = (w_8 ^^ w_5)
    simp only [Int32.toBitVec_xor, Int32.toBitVec_and, BitVec.getLsbD_xor, BitVec.getLsbD_and, h_5, h_8]
  have h_12 : v_12.toBitVec.getLsbD j = w_12 := by
    show (v_8 ^^^ v_3).toBitVec.getLsbD j = (w_8 ^^ w_3)
    simp only [Int32.toBitVec_xor, Int32.toBitVec_and, BitVec.getLsbD_xor, BitVec.getLsbD_and, h_3, h_8]
  have h_13 : v_13.toBitVec.getLsbD j = w_13 := by
    show (v_7 ^^^ v_6).toBitVec.getLsbD j = (w_7 ^^ w_6)
    simp only [Int32.toBitVec_xor, Int32.toBitVec_and, BitVec.getLsbD_xor, BitVec.getLsbD_and, h_6, h_7]
  have h_14 : v_14.toBitVec.getLsbD j = w_14 := by
    show (v_13 ^^^ v_1).toBitVec.getLsbD j = (w_13 ^^ w_1)
    simp only [Int32.toBitVec_xor, Int32.toBitVec_and, BitVec.getLsbD_xor, BitVec.getLsbD_and, h_1, h_13]
  have h_15 : v_15.toBitVec.getLsbD j = w_15 := by
    show (v_14 ^^^ v_5).toBitVec.getLsbD j = (w_14 ^^ w_5)
    simp only [Int32.toBitVec_xor, Int32.toBitVec_and, BitVec.getLsbD_xor, BitVec.getLsbD_and, h_5, h_14]
  have h_16 : v_16.toBitVec.getLsbD j = w_16 := by
    show (v_10 ^^^ v_9).toBitVec.getLsbD j = (w_10 ^^ w_9)
    simp only [Int32.toBitVec_xor, Int32.toBitVec_and, BitVec.getLsbD_xor, BitVec.getLsbD_and, h_9, h_10]
  have h_17 : v_17.toBitVec.getLsbD j = w_17 := by
    show (v_14 ^^^ v_8).toBitVec.getLsbD j = (w_14 ^^ w_8)
    simp only [Int32.toBitVec_xor, Int32.toBitVec_and, BitVec.getLsbD_xor, BitVec.getLsbD_and, h_8, h_14]
  have h_18 : v_18.toBitVec.getLsbD j = w_18 := by
    show (v_14 ^^^ v_2).toBitVec.getLsbD j = (w_14 ^^ w_2)
    simp only [Int32.toBitVec_xor, Int32.toBitVec_and, BitVec.getLsbD_xor, BitVec.getLsbD_and, h_2, h_14]
  have h_19 : v_19.toBitVec.getLsbD j = w_19 := by
    show (v_18 ^^^ v_12).toBitVec.getLsbD j = (w_18 ^^ w_12)
    simp only [Int32.toBitVec_xor, Int32.toBitVec_and, BitVec.getLsbD_xor, BitVec.getLsbD_and, h_12, h_18]
  have h_20 : v_20.toBitVec.getLsbD j = w_20 := by
    show (v_4 ^^^ v_16).toBitVec.getLsbD j = (w_4 ^^ w_16)
    simp only [Int32.toBitVec_xor, Int32.toBitVec_and, BitVec.getLsbD_xor, BitVec.getLsbD_and, h_4, h_16]
  have h_21 : v_21.toBitVec.getLsbD j = w_21 := by
    show (v_20 ^^^ v_3).toBitVec.getLsbD j = (w_20 ^^ w_3)
    simp only [Int32.toBitVec_xor, Int32.toBitVec_and, BitVec.getLsbD_xor, BitVec.getLsbD_and, h_3, h_20]
  have h_22 : v_22.toBitVec.getLsbD j = w_22 := by
    show (v_20 ^^^ v_7).toBitVec.getLsbD j = (w_20 ^^ w_7)
    simp only [Int32.toBitVec_xor, Int32.toBitVec_and, BitVec.getLsbD_xor, BitVec.getLsbD_and, h_7, h_20]
  have h_23 : v_23.toBitVec.getLsbD j = w_23 := by
    show (v_21 ^^^ v_1).toBitVec.getLsbD j = (w_21 ^^ w_1)
    simp only [Int32.toBitVec_xor, Int32.toBitVec_and, BitVec.getLsbD_xor, BitVec.getLsbD_and, h_1, h_21]
  have h_24 : v_24.toBitVec.getLsbD j = w_24 := by
    show (v_21 ^^^ v_13).toBitVec.getLsbD j = (w_21 ^^ w_13)
    simp only [Int32.toBitVec_xor, Int32.toBitVec_and, BitVec.getLsbD_xor, BitVec.getLsbD_and, h_13, h_21]
  have h_25 : v_25.toBitVec.getLsbD j = w_25 := by
    show (v_22 ^^^ v_11).toBitVec.getLsbD j = (w_22 ^^ w_11)
    simp only [Int32.toBitVec_xor, Int32.toBitVec_and, BitVec.getLsbD_xor, BitVec.getLsbD_and, h_11, h_22]
  have h_26 : v_26.toBitVec.getLsbD j = w_26 := by
    show (v_1 ^^^ v_25).toBitVec.getLsbD j = (w_1 ^^ w_25)
    simp only [Int32.toBitVec_xor, Int32.toBitVec_and, BitVec.getLsbD_xor, BitVec.getLsbD_and, h_1, h_25]
  have h_27 : v_27.toBitVec.getLsbD j = w_27 := by
    show (v_24 ^^^ v_25).toBitVec.getLsbD j = (w_24 ^^ w_25)
    simp only [Int32.toBitVec_xor, Int32.toBitVec_and, BitVec.getLsbD_xor, BitVec.getLsbD_and, h_24, h_25]
  have h_28 : v_28.toBitVec.getLsbD j = w_28 := by
    show (v_24 ^^^ v_12).toBitVec.getLsbD j = (w_24 ^^ w_12)
    simp only [Int32.toBitVec_xor, Int32.toBitVec_and, BitVec.getLsbD_xor, BitVec.getLsbD_and, h_12, h_24]
  have h_29 : v_29.toBitVec.getLsbD j = w_29 := by
    show (v_13 ^^^ v_25).toBitVec.getLsbD j = (w_13 ^^ w_25)
    simp only [Int32.toBitVec_xor, Int32.toBitVec_and, BitVec.getLsbD_xor, BitVec.getLsbD_and, h_13, h_25]
  have h_30 : v_30.toBitVec.getLsbD j = w_30 := by
    show (v_10 ^^^ v_29).toBitVec.getLsbD j = (w_10 ^^ w_29)
    simp only [Int32.toBitVec_xor, Int32.toBitVec_and, BitVec.getLsbD_xor, BitVec.getLsbD_and, h_10, h_29]
  have h_31 : v_31.toBitVec.getLsbD j = w_31 := by
    show (v_8 ^^^ v_29).toBitVec.getLsbD j = (w_8 ^^ w_29)
    simp only [Int32.toBitVec_xor, Int32.toBitVec_and, BitVec.getLsbD_xor, BitVec.getLsbD_and, h_8, h_29]
  have h_32 : v_32.toBitVec.getLsbD j = w_32 := by
    show (v_16 &&& v_21).toBitVec.getLsbD j = (w_16 && w_21)
    simp only [Int32.toBitVec_xor, Int32.toBitVec_and, BitVec.getLsbD_xor, BitVec.getLsbD_and, h_16, h_21]
  have h_33 : v_33.toBitVec.getLsbD j = w_33 := by
    show ((v_19 &&& v_23) ^^^ v_32).toBitVec.getLsbD j = ((w_19 && w_23) ^^ w_32)
    simp only [Int32.toBitVec_xor, Int32.toBitVec_and, BitVec.getLsbD_xor, BitVec.getLsbD_and, h_19, h_23, h_32]
  have h_34 : v_34.toBitVec.getLsbD j = w_34 := by
    show ((v_15 &&& v_1) ^^^ v_32).toBitVec.getLsbD j = ((w_15 && w_1) ^^ w_32)
    simp only [Int32.toBitVec_xor, Int32.toBitVec_and, BitVec.getLsbD_xor, BitVec.getLsbD_and, h_1, h_15, h_32]
  have h_35 : v_35.toBitVec.getLsbD j = w_35 := by
    show (v_10 &&& v_29).toBitVec.getLsbD j = (w_10 && w_29)
    simp only [Int32.toBitVec_xor, Int32.toBitVec_and, BitVec.getLsbD_xor, BitVec.getLsbD_and, h_10, h_29]
  have h_36 : v_36.toBitVec.getLsbD j = w_36 := by
    show ((v_18 &&& v_14) ^^^ v_35).toBitVec.getLsbD j = ((w_18 && w_14) ^^ w_35)
    simp only [Int32.toBitVec_xor, Int32.toBitVec_and, BitVec.getLsbD_xor, BitVec.getLsbD_and, h_14, h_18, h_35]
  have h_37 : v_37.toBitVec.getLsbD j = w_37 := by
    show ((v_17 &&& v_26) ^^^ v_35).toBitVec.getLsbD j = ((w_17 && w_26) ^^ w_35)
    simp only [Int32.toBitVec_xor, Int32.toBitVec_and, BitVec.getLsbD_xor, BitVec.getLsbD_and, h_17, h_26, h_35]
  have h_38 : v_38.toBitVec.getLsbD j = w_38 := by
    show (v_11 &&& v_25).toBitVec.getLsbD j = (w_11 && w_25)
    simp only [Int32.toBitVec_xor, Int32.toBitVec_and, BitVec.getLsbD_xor, BitVec.getLsbD_and, h_11, h_25]
  have h_39 : v_39.toBitVec.getLsbD j = w_39 := by
    show ((v_9 &&& v_27) ^^^ v_38).toBitVec.getLsbD j = ((w_9 && w_27) ^^ w_38)
    simp only [Int32.toBitVec_xor, Int32.toBitVec_and, BitVec.getLsbD_xor, BitVec.getLsbD_and, h_9, h_27, h_38]
  have h_40 : v_40.toBitVec.getLsbD j = w_40 := by
    show ((v_12 &&& v_24) ^^^ v_38).toBitVec.getLsbD j = ((w_12 && w_24) ^^ w_38)
    simp only [Int32.toBitVec_xor, Int32.toBitVec_and, BitVec.getLsbD_xor, BitVec.getLsbD_and, h_12, h_24, h_38]
  have h_41 : v_41.toBitVec.getLsbD j = w_41 := by
    show ((v_33 ^^^ v_39) ^^^ v_22).toBitVec.getLsbD j = ((w_33 ^^ w_39) ^^ w_22)
    simp only [Int32.toBitVec_xor, Int32.toBitVec_and, BitVec.getLsbD_xor, BitVec.getLsbD_and, h_22, h_33, h_39]
  have h_42 : v_42.toBitVec.getLsbD j = w_42 := by
    show ((v_34 ^^^ v_40) ^^^ v_28).toBitVec.getLsbD j = ((w_34 ^^ w_40) ^^ w_28)
    simp only [Int32.toBitVec_xor, Int32.toBitVec_and, BitVec.getLsbD_xor, BitVec.getLsbD_and, h_28, h_34, h_40]
  have h_43 : v_43.toBitVec.getLsbD j = w_43 := by
    show ((v_36 ^^^ v_39) ^^^ v_30).toBitVec.getLsbD j = ((w_36 ^^ w_39) ^^ w_30)
    simp only [Int32.toBitVec_xor, Int32.toBitVec_and, BitVec.getLsbD_xor, BitVec.getLsbD_and, h_30, h_36, h_39]
  have h_44 : v_44.toBitVec.getLsbD j = w_44 := by
    show ((v_37 ^^^ v_40) ^^^ v_31).toBitVec.getLsbD j = ((w_37 ^^ w_40) ^^ w_31)
    simp only [Int32.toBitVec_xor, Int32.toBitVec_and, BitVec.getLsbD_xor, BitVec.getLsbD_and, h_31, h_37, h_40]
  have h_45 : v_45.toBitVec.getLsbD j = w_45 := by
    show (v_41 ^^^ v_42).toBitVec.getLsbD j = (w_41 ^^ w_42)
    simp only [Int32.toBitVec_xor, Int32.toBitVec_and, BitVec.getLsbD_xor, BitVec.getLsbD_and, h_41, h_42]
  have h_46 : v_46.toBitVec.getLsbD j = w_46 := by
    show (v_41 &&& v_43).toBitVec.getLsbD j = (w_41 && w_43)
    simp only [Int32.toBitVec_xor, Int32.toBitVec_and, BitVec.getLsbD_xor, BitVec.getLsbD_and, h_41, h_43]
  have h_47 : v_47.toBitVec.getLsbD j = w_47 := by
    show (v_44 ^^^ v_46).toBitVec.getLsbD j = (w_44 ^^ w_46)
    simp only [Int32.toBitVec_xor, Int32.toBitVec_and, BitVec.getLsbD_xor, BitVec.getLsbD_and, h_44, h_46]
  have h_48 : v_48.toBitVec.getLsbD j = w_48 := by
    show ((v_45 &&& v_47) ^^^ v_42).toBitVec.getLsbD j = ((w_45 && w_47) ^^ w_42)
    simp only [Int32.toBitVec_xor, Int32.toBitVec_and, BitVec.getLsbD_xor, BitVec.getLsbD_and, h_42, h_45, h_47]
  have h_49 : v_49.toBitVec.getLsbD j = w_49 := by
    show (v_43 ^^^ v_44).toBitVec.getLsbD j = (w_43 ^^ w_44)
    simp only [Int32.toBitVec_xor, Int32.toBitVec_and, BitVec.getLsbD_xor, BitVec.getLsbD_and, h_43, h_44]
  have h_50 : v_50.toBitVec.getLsbD j = w_50 := by
    show (v_42 ^^^ v_46).toBitVec.getLsbD j = (w_42 ^^ w_46)
    simp only [Int32.toBitVec_xor, Int32.toBitVec_and, BitVec.getLsbD_xor, BitVec.getLsbD_and, h_42, h_46]
  have h_51 : v_51.toBitVec.getLsbD j = w_51 := by
    show ((v_50 &&& v_49) ^^^ v_44).toBitVec.getLsbD j = ((w_50 && w_49) ^^ w_44)
    simp only [Int32.toBitVec_xor, Int32.toBitVec_and, BitVec.getLsbD_xor, BitVec.getLsbD_and, h_44, h_49, h_50]
  have h_52 : v_52.toBitVec.getLsbD j = w_52 := by
    show (v_43 ^^^ v_51).toBitVec.getLsbD j = (w_43 ^^ w_51)
    simp only [Int32.toBitVec_xor, Int32.toBitVec_and, BitVec.getLsbD_xor, BitVec.getLsbD_and, h_43, h_51]
  have h_53 : v_53.toBitVec.getLsbD j = w_53 := by
    show (v_47 ^^^ v_51).toBitVec.getLsbD j = (w_47 ^^ w_51)
    simp only [Int32.toBitVec_xor, Int32.toBitVec_and, BitVec.getLsbD_xor, BitVec.getLsbD_and, h_47, h_51]
  have h_54 : v_54.toBitVec.getLsbD j = w_54 := by
    show (v_44 &&& v_53).toBitVec.getLsbD j = (w_44 && w_53)
    simp only [Int32.toBitVec_xor, Int32.toBitVec_and, BitVec.getLsbD_xor, BitVec.getLsbD_and, h_44, h_53]
  have h_55 : v_55.toBitVec.getLsbD j = w_55 := by
    show (v_54 ^^^ v_52).toBitVec.getLsbD j = (w_54 ^^ w_52)
    simp only [Int32.toBitVec_xor, Int32.toBitVec_and, BitVec.getLsbD_xor, BitVec.getLsbD_and, h_52, h_54]
  have h_56 : v_56.toBitVec.getLsbD j = w_56 := by
    show (v_47 ^^^ v_54).toBitVec.getLsbD j = (w_47 ^^ w_54)
    simp only [Int32.toBitVec_xor, Int32.toBitVec_and, BitVec.getLsbD_xor, BitVec.getLsbD_and, h_47, h_54]
  have h_57 : v_57.toBitVec.getLsbD j = w_57 := by
    show (v_45 ^^^ (v_48 &&& v_56)).toBitVec.getLsbD j = (w_45 ^^ (w_48 && w_56))
    simp only [Int32.toBitVec_xor, Int32.toBitVec_and, BitVec.getLsbD_xor, BitVec.getLsbD_and, h_45, h_48, h_56]
  have h_58 : v_58.toBitVec.getLsbD j = w_58 := by
    show (v_57 ^^^ v_55).toBitVec.getLsbD j = (w_57 ^^ w_55)
    simp only [Int32.toBitVec_xor, Int32.toBitVec_and, BitVec.getLsbD_xor, BitVec.getLsbD_and, h_55, h_57]
  have h_59 : v_59.toBitVec.getLsbD j = w_59 := by
    show (v_48 ^^^ v_51).toBitVec.getLsbD j = (w_48 ^^ w_51)
    simp only [Int32.toBitVec_xor, Int32.toBitVec_and, BitVec.getLsbD_xor, BitVec.getLsbD_and, h_48, h_51]
  have h_60 : v_60.toBitVec.getLsbD j = w_60 := by
    show (v_48 ^^^ v_57).toBitVec.getLsbD j = (w_48 ^^ w_57)
    simp only [Int32.toBitVec_xor, Int32.toBitVec_and, BitVec.getLsbD_xor, BitVec.getLsbD_and, h_48, h_57]
  have h_61 : v_61.toBitVec.getLsbD j = w_61 := by
    show (v_51 ^^^ v_55).toBitVec.getLsbD j = (w_51 ^^ w_55)
    simp only [Int32.toBitVec_xor, Int32.toBitVec_and, BitVec.getLsbD_xor, BitVec.getLsbD_and, h_51, h_55]
  have h_62 : v_62.toBitVec.getLsbD j = w_62 := by
    show (v_59 ^^^ v_58).toBitVec.getLsbD j = (w_59 ^^ w_58)
    simp only [Int32.toBitVec_xor, Int32.toBitVec_and, BitVec.getLsbD_xor, BitVec.getLsbD_and, h_58, h_59]
  have h_63 : v_63.toBitVec.getLsbD j = w_63 := by
    show (v_61 &&& v_21).toBitVec.getLsbD j = (w_61 && w_21)
    simp only [Int32.toBitVec_xor, Int32.toBitVec_and, BitVec.getLsbD_xor, BitVec.getLsbD_and, h_21, h_61]
  have h_64 : v_64.toBitVec.getLsbD j = w_64 := by
    show (v_55 &&& v_23).toBitVec.getLsbD j = (w_55 && w_23)
    simp only [Int32.toBitVec_xor, Int32.toBitVec_and, BitVec.getLsbD_xor, BitVec.getLsbD_and, h_23, h_55]
  have h_65 : v_65.toBitVec.getLsbD j = w_65 := by
    show (v_51 &&& v_1).toBitVec.getLsbD j = (w_51 && w_1)
    simp only [Int32.toBitVec_xor, Int32.toBitVec_and, BitVec.getLsbD_xor, BitVec.getLsbD_and, h_1, h_51]
  have h_66 : v_66.toBitVec.getLsbD j = w_66 := by
    show (v_60 &&& v_29).toBitVec.getLsbD j = (w_60 && w_29)
    simp only [Int32.toBitVec_xor, Int32.toBitVec_and, BitVec.getLsbD_xor, BitVec.getLsbD_and, h_29, h_60]
  have h_67 : v_67.toBitVec.getLsbD j = w_67 := by
    show (v_57 &&& v_14).toBitVec.getLsbD j = (w_57 && w_14)
    simp only [Int32.toBitVec_xor, Int32.toBitVec_and, BitVec.getLsbD_xor, BitVec.getLsbD_and, h_14, h_57]
  have h_68 : v_68.toBitVec.getLsbD j = w_68 := by
    show (v_48 &&& v_26).toBitVec.getLsbD j = (w_48 && w_26)
    simp only [Int32.toBitVec_xor, Int32.toBitVec_and, BitVec.getLsbD_xor, BitVec.getLsbD_and, h_26, h_48]
  have h_69 : v_69.toBitVec.getLsbD j = w_69 := by
    show (v_59 &&& v_25).toBitVec.getLsbD j = (w_59 && w_25)
    simp only [Int32.toBitVec_xor, Int32.toBitVec_and, BitVec.getLsbD_xor, BitVec.getLsbD_and, h_25, h_59]
  have h_70 : v_70.toBitVec.getLsbD j = w_70 := by
    show (v_62 &&& v_27).toBitVec.getLsbD j = (w_62 && w_27)
    simp only [Int32.toBitVec_xor, Int32.toBitVec_and, BitVec.getLsbD_xor, BitVec.getLsbD_and, h_27, h_62]
  have h_71 : v_71.toBitVec.getLsbD j = w_71 := by
    show (v_58 &&& v_24).toBitVec.getLsbD j = (w_58 && w_24)
    simp only [Int32.toBitVec_xor, Int32.toBitVec_and, BitVec.getLsbD_xor, BitVec.getLsbD_and, h_24, h_58]
  have h_72 : v_72.toBitVec.getLsbD j = w_72 := by
    show (v_61 &&& v_16).toBitVec.getLsbD j = (w_61 && w_16)
    simp only [Int32.toBitVec_xor, Int32.toBitVec_and, BitVec.getLsbD_xor, BitVec.getLsbD_and, h_16, h_61]
  have h_73 : v_73.toBitVec.getLsbD j = w_73 := by
    show (v_55 &&& v_19).toBitVec.getLsbD j = (w_55 && w_19)
    simp only [Int32.toBitVec_xor, Int32.toBitVec_and, BitVec.getLsbD_xor, BitVec.getLsbD_and, h_19, h_55]
  have h_74 : v_74.toBitVec.getLsbD j = w_74 := by
    show (v_51 &&& v_15).toBitVec.getLsbD j = (w_51 && w_15)
    simp only [Int32.toBitVec_xor, Int32.toBitVec_and, BitVec.getLsbD_xor, BitVec.getLsbD_and, h_15, h_51]
  have h_75 : v_75.toBitVec.getLsbD j = w_75 := by
    show (v_60 &&& v_10).toBitVec.getLsbD j = (w_60 && w_10)
    simp only [Int32.toBitVec_xor, Int32.toBitVec_and, BitVec.getLsbD_xor, BitVec.getLsbD_and, h_10, h_60]
  have h_76 : v_76.toBitVec.getLsbD j = w_76 := by
    show (v_57 &&& v_18).toBitVec.getLsbD j = (w_57 && w_18)
    simp only [Int32.toBitVec_xor, Int32.toBitVec_and, BitVec.getLsbD_xor, BitVec.getLsbD_and, h_18, h_57]
  have h_77 : v_77.toBitVec.getLsbD j = w_77 := by
    show (v_48 &&& v_17).toBitVec.getLsbD j = (w_48 && w_17)
    simp only [Int32.toBitVec_xor, Int32.toBitVec_and, BitVec.getLsbD_xor, BitVec.getLsbD_and, h_17, h_48]
  have h_78 : v_78.toBitVec.getLsbD j = w_78 := by
    show (v_59 &&& v_11).toBitVec.getLsbD j = (w_59 && w_11)
    simp only [Int32.toBitVec_xor, Int32.toBitVec_and, BitVec.getLsbD_xor, BitVec.getLsbD_and, h_11, h_59]
  have h_79 : v_79.toBitVec.getLsbD j = w_79 := by
    show (v_62 &&& v_9).toBitVec.getLsbD j = (w_62 && w_9)
    simp only [Int32.toBitVec_xor, Int32.toBitVec_and, BitVec.getLsbD_xor, BitVec.getLsbD_and, h_9, h_62]
  have h_80 : v_80.toBitVec.getLsbD j = w_80 := by
    show (v_58 &&& v_12).toBitVec.getLsbD j = (w_58 && w_12)
    simp only [Int32.toBitVec_xor, Int32.toBitVec_and, BitVec.getLsbD_xor, BitVec.getLsbD_and, h_12, h_58]
  have h_81 : v_81.toBitVec.getLsbD j = w_81 := by
    show (v_78 ^^^ v_79).toBitVec.getLsbD j = (w_78 ^^ w_79)
    simp only [Int32.toBitVec_xor, Int32.toBitVec_and, BitVec.getLsbD_xor, BitVec.getLsbD_and, h_78, h_79]
  have h_82 : v_82.toBitVec.getLsbD j = w_82 := by
    show (v_73 ^^^ v_74).toBitVec.getLsbD j = (w_73 ^^ w_74)
    simp only [Int32.toBitVec_xor, Int32.toBitVec_and, BitVec.getLsbD_xor, BitVec.getLsbD_and, h_73, h_74]
  have h_83 : v_83.toBitVec.getLsbD j = w_83 := by
    show (v_68 ^^^ v_76).toBitVec.getLsbD j = (w_68 ^^ w_76)
    simp only [Int32.toBitVec_xor, Int32.toBitVec_and, BitVec.getLsbD_xor, BitVec.getLsbD_and, h_68, h_76]
  have h_84 : v_84.toBitVec.getLsbD j = w_84 := by
    show (v_72 ^^^ v_73).toBitVec.getLsbD j = (w_72 ^^ w_73)
    simp only [Int32.toBitVec_xor, Int32.toBitVec_and, BitVec.getLsbD_xor, BitVec.getLsbD_and, h_72, h_73]
  have h_85 : v_85.toBitVec.getLsbD j = w_85 := by
    show (v_65 ^^^ v_75).toBitVec.getLsbD j = (w_65 ^^ w_75)
    simp only [Int32.toBitVec_xor, Int32.toBitVec_and, BitVec.getLsbD_xor, BitVec.getLsbD_and, h_65, h_75]
  have h_86 : v_86.toBitVec.getLsbD j = w_86 := by
    show (v_65 ^^^ v_68).toBitVec.getLsbD j = (w_65 ^^ w_68)
    simp only [Int32.toBitVec_xor, Int32.toBitVec_and, BitVec.getLsbD_xor, BitVec.getLsbD_and, h_65, h_68]
  have h_87 : v_87.toBitVec.getLsbD j = w_87 := by
    show (v_70 ^^^ v_71).toBitVec.getLsbD j = (w_70 ^^ w_71)
    simp only [Int32.toBitVec_xor, Int32.toBitVec_and, BitVec.getLsbD_xor, BitVec.getLsbD_and, h_70, h_71]
  have h_88 : v_88.toBitVec.getLsbD j = w_88 := by
    show (v_63 ^^^ v_66).toBitVec.getLsbD j = (w_63 ^^ w_66)
    simp only [Int32.toBitVec_xor, Int32.toBitVec_and, BitVec.getLsbD_xor, BitVec.getLsbD_and, h_63, h_66]
  have h_89 : v_89.toBitVec.getLsbD j = w_89 := by
    show (v_69 ^^^ v_70).toBitVec.getLsbD j = (w_69 ^^ w_70)
    simp only [Int32.toBitVec_xor, Int32.toBitVec_and, BitVec.getLsbD_xor, BitVec.getLsbD_and, h_69, h_70]
  have h_90 : v_90.toBitVec.getLsbD j = w_90 := by
    show (v_79 ^^^ v_80).toBitVec.getLsbD j = (w_79 ^^ w_80)
    simp only [Int32.toBitVec_xor, Int32.toBitVec_and, BitVec.getLsbD_xor, BitVec.getLsbD_and, h_79, h_80]
  have h_91 : v_91.toBitVec.getLsbD j = w_91 := by
    show (v_75 ^^^ v_83).toBitVec.getLsbD j = (w_75 ^^ w_83)
    simp only [Int32.toBitVec_xor, Int32.toBitVec_and, BitVec.getLsbD_xor, BitVec.getLsbD_and, h_75, h_83]
  have h_92 : v_92.toBitVec.getLsbD j = w_92 := by
    show (v_85 ^^^ v_88).toBitVec.getLsbD j = (w_85 ^^ w_88)
    simp only [Int32.toBitVec_xor, Int32.toBitVec_and, BitVec.getLsbD_xor, BitVec.getLsbD_and, h_85, h_88]
  have h_93 : v_93.toBitVec.getLsbD j = w_93 := by
    show (v_67 ^^^ v_81).toBitVec.getLsbD j = (w_67 ^^ w_81)
    simp only [Int32.toBitVec_xor, Int32.toBitVec_and, BitVec.getLsbD_xor, BitVec.getLsbD_and, h_67, h_81]
  have h_94 : v_94.toBitVec.getLsbD j = w_94 := by
    show (v_66 ^^^ v_89).toBitVec.getLsbD j = (w_66 ^^ w_89)
    simp only [Int32.toBitVec_xor, Int32.toBitVec_and, BitVec.getLsbD_xor, BitVec.getLsbD_and, h_66, h_89]
  have h_95 : v_95.toBitVec.getLsbD j = w_95 := by
    show (v_81 ^^^ v_92).toBitVec.getLsbD j = (w_81 ^^ w_92)
    simp only [Int32.toBitVec_xor, Int32.toBitVec_and, BitVec.getLsbD_xor, BitVec.getLsbD_and, h_81, h_92]
  have h_96 : v_96.toBitVec.getLsbD j = w_96 := by
    show (v_77 ^^^ v_92).toBitVec.getLsbD j = (w_77 ^^ w_92)
    simp only [Int32.toBitVec_xor, Int32.toBitVec_and, BitVec.getLsbD_xor, BitVec.getLsbD_and, h_77, h_92]
  have h_97 : v_97.toBitVec.getLsbD j = w_97 := by
    show (v_87 ^^^ v_93).toBitVec.getLsbD j = (w_87 ^^ w_93)
    simp only [Int32.toBitVec_xor, Int32.toBitVec_and, BitVec.getLsbD_xor, BitVec.getLsbD_and, h_87, h_93]
  have h_98 : v_98.toBitVec.getLsbD j = w_98 := by
    show (v_84 ^^^ v_93).toBitVec.getLsbD j = (w_84 ^^ w_93)
    simp only [Int32.toBitVec_xor, Int32.toBitVec_and, BitVec.getLsbD_xor, BitVec.getLsbD_and, h_84, h_93]
  have h_99 : v_99.toBitVec.getLsbD j = w_99 := by
    show (v_67 ^^^ v_94).toBitVec.getLsbD j = (w_67 ^^ w_94)
    simp only [Int32.toBitVec_xor, Int32.toBitVec_and, BitVec.getLsbD_xor, BitVec.getLsbD_and, h_67, h_94]
  have h_100 : v_100.toBitVec.getLsbD j = w_100 := by
    show (v_96 ^^^ v_97).toBitVec.getLsbD j = (w_96 ^^ w_97)
    simp only [Int32.toBitVec_xor, Int32.toBitVec_and, BitVec.getLsbD_xor, BitVec.getLsbD_and, h_96, h_97]
  have h_101 : v_101.toBitVec.getLsbD j = w_101 := by
    show (v_64 ^^^ v_98).toBitVec.getLsbD j = (w_64 ^^ w_98)
    simp only [Int32.toBitVec_xor, Int32.toBitVec_and, BitVec.getLsbD_xor, BitVec.getLsbD_and, h_64, h_98]
  have h_102 : v_102.toBitVec.getLsbD j = w_102 := by
    show (v_99 ^^^ v_100).toBitVec.getLsbD j = (w_99 ^^ w_100)
    simp only [Int32.toBitVec_xor, Int32.toBitVec_and, BitVec.getLsbD_xor, BitVec.getLsbD_and, h_99, h_100]
  have h_103 : v_103.toBitVec.getLsbD j = w_103 := by
    show (v_88 ^^^ v_101).toBitVec.getLsbD j = (w_88 ^^ w_101)
    simp only [Int32.toBitVec_xor, Int32.toBitVec_and, BitVec.getLsbD_xor, BitVec.getLsbD_and, h_88, h_101]
  have h_104 : v_104.toBitVec.getLsbD j = w_104 := by
    show (v_94 ^^^ v_98).toBitVec.getLsbD j = (w_94 ^^ w_98)
    simp only [Int32.toBitVec_xor, Int32.toBitVec_and, BitVec.getLsbD_xor, BitVec.getLsbD_and, h_94, h_98]
  have h_105 : v_105.toBitVec.getLsbD j = w_105 := by
    show ((v_99 ^^^ v_103) ^^^ (65535 : Int32)).toBitVec.getLsbD j = ((w_99 ^^ w_103) ^^ c)
    simp only [Int32.toBitVec_xor, Int32.toBitVec_and, BitVec.getLsbD_xor, BitVec.getLsbD_and, h_99, h_103, hc]
  have h_106 : v_106.toBitVec.getLsbD j = w_106 := by
    show ((v_90 ^^^ v_102) ^^^ (65535 : Int32)).toBitVec.getLsbD j = ((w_90 ^^ w_102) ^^ c)
    simp only [Int32.toBitVec_xor, Int32.toBitVec_and, BitVec.getLsbD_xor, BitVec.getLsbD_and, h_90, h_102, hc]
  have h_107 : v_107.toBitVec.getLsbD j = w_107 := by
    show (v_86 ^^^ v_101).toBitVec.getLsbD j = (w_86 ^^ w_101)
    simp only [Int32.toBitVec_xor, Int32.toBitVec_and, BitVec.getLsbD_xor, BitVec.getLsbD_and, h_86, h_101]
  have h_108 : v_108.toBitVec.getLsbD j = w_108 := by
    show (v_82 ^^^ v_100).toBitVec.getLsbD j = (w_82 ^^ w_100)
    simp only [Int32.toBitVec_xor, Int32.toBitVec_and, BitVec.getLsbD_xor, BitVec.getLsbD_and, h_82, h_100]
  have h_109 : v_109.toBitVec.getLsbD j = w_109 := by
    show ((v_91 ^^^ v_97) ^^^ (65535 : Int32)).toBitVec.getLsbD j = ((w_91 ^^ w_97) ^^ c)
    simp only [Int32.toBitVec_xor, Int32.toBitVec_and, BitVec.getLsbD_xor, BitVec.getLsbD_and, h_91, h_97, hc]
  have h_110 : v_110.toBitVec.getLsbD j = w_110 := by
    show ((v_83 ^^^ v_95) ^^^ (65535 : Int32)).toBitVec.getLsbD j = ((w_83 ^^ w_95) ^^ c)
    simp only [Int32.toBitVec_xor, Int32.toBitVec_and, BitVec.getLsbD_xor, BitVec.getLsbD_and, h_83, h_95, hc]
  exact ⟨h_110, h_109, h_108, h_107, h_103, h_106, h_105, h_104⟩
theorem box_T : ∀ x : BitVec 8, (boxB (x.getLsbD 0) (x.getLsbD 1) (x.getLsbD 2) (x.getLsbD 3) (x.getLsbD 4) (x.getLsbD 5) (x.getLsbD 6) (x.getLsbD 7) true).1 = (Bx x).getLsbD 0 ∧ (boxB (x.getLsbD 0) (x.getLsbD 1) (x.getLsbD 2) (x.getLsbD 3) (x.getLsbD 4) (x.getLsbD 5) (x.getLsbD 6) (x.getLsbD 7) true).2.1 = (Bx x).getLsbD 1 ∧ (boxB (x.getLsbD 0) (x.getLsbD 1) (x.getLsbD 2) (x.getLsbD 3) (x.getLsbD 4) (x.getLsbD 5) (x.getLsbD 6) (x.getLsbD 7) true).2.2.1 = (Bx x).getLsbD 2 ∧ (boxB (x.getLsbD 0) (x.getLsbD 1) (x.getLsbD 2) (x.getLsbD 3) (x.getLsbD 4) (x.getLsbD 5) (x.getLsbD 6) (x.getLsbD 7) true).2.2.2.1 = (Bx x).getLsbD 3 ∧ (boxB (x.getLsbD 0) (x.getLsbD 1) (x.getLsbD 2) (x.getLsbD 3) (x.getLsbD 4) (x.getLsbD 5) (x.getLsbD 6) (x.getLsbD 7) true).2.2.2.2.1 = (Bx x).getLsbD 4 ∧ (boxB (x.getLsbD 0) (x.getLsbD 1) (x.getLsbD 2) (x.getLsbD 3) (x.getLsbD 4) (x.getLsbD 5) (x.getLsbD 6) (x.getLsbD 7) true).2.2.2.2.2.1 = (Bx x).getLsbD 5 ∧ (boxB (x.getLsbD 0) (x.getLsbD 1) (x.getLsbD 2) (x.getLsbD 3) (x.getLsbD 4) (x.getLsbD 5) (x.getLsbD 6) (x.getLsbD 7) true).2.2.2.2.2.2.1 = (Bx x).getLsbD 6 ∧ (boxB (x.getLsbD 0) (x.getLsbD 1) (x.getLsbD 2) (x.getLsbD 3) (x.getLsbD 4) (x.getLsbD 5) (x.getLsbD 6) (x.getLsbD 7) true).2.2.2.2.2.2.2 = (Bx x).getLsbD 7 := by decide +kernel
theorem box_Z : (boxB false false false false false false false false false).1 = false ∧ (boxB false false false false false false false false false).2.1 = false ∧ (boxB false false false false false false false false false).2.2.1 = false ∧ (boxB false false false false false false false false false).2.2.2.1 = false ∧ (boxB false false false false false false false false false).2.2.2.2.1 = false ∧ (boxB false false false false false false false false false).2.2.2.2.2.1 = false ∧ (boxB false false false false false false false false false).2.2.2.2.2.2.1 = false ∧ (boxB false false false false false false false false false).2.2.2.2.2.2.2 = false := by decide
def cmb (a b c d : Int32) : Int64 := ((a.toInt64 ||| (jlshl b.toInt64 16)) ||| (jlshl c.toInt64 32)) ||| (jlshl d.toInt64 48)
set_option maxRecDepth 100000 in
theorem box_cmb (lo hi : Int64) : vX8_box lo hi = (let q := boxI (lo.toInt32 &&& 65535) ((jlushr lo 16).toInt32 &&& 65535) ((jlushr lo 32).toInt32 &&& 65535) (jlushr lo 48).toInt32 (hi.toInt32 &&& 65535) ((jlushr hi 16).toInt32 &&& 65535) ((jlushr hi 32).toInt32 &&& 65535) (jlushr hi 48).toInt32; (cmb q.1 q.2.1 q.2.2.1 q.2.2.2.1, cmb q.2.2.2.2.1 q.2.2.2.2.2.1 q.2.2.2.2.2.2.1 q.2.2.2.2.2.2.2)) := rfl
theorem ext64 {a : Int32} (ha : ∀ j, 16 ≤ j → j < 32 → a.toBitVec.getLsbD j = false) {n : Nat} (hn : n < 64) : a.toInt64.toBitVec.getLsbD n = (decide (n < 16) && a.toBitVec.getLsbD n) := by
  rw [Int32.toBitVec_toInt64, BitVec.getLsbD_signExtend]
  have hm : a.toBitVec.msb = false := by
    rw [BitVec.msb_eq_getLsbD_last]
    exact ha 31 (by omega) (by omega)
  rw [hm]
  by_cases h : n < 16
  · simp [hn, h, show n < 32 by omega]
  · by_cases h2 : n < 32
    · rw [if_pos h2, ha n (by omega) h2]
      simp [h]
    · simp [h, h2]
theorem cmb_bit {a b c d : Int32} (ha : ∀ j, 16 ≤ j → j < 32 → a.toBitVec.getLsbD j = false) (hb : ∀ j, 16 ≤ j → j < 32 → b.toBitVec.getLsbD j = false) (hc : ∀ j, 16 ≤ j → j < 32 → c.toBitVec.getLsbD j = false) (hd : ∀ j, 16 ≤ j → j < 32 → d.toBitVec.getLsbD j = false) {i t : Nat} (hi : i < 4) (ht : t < 16) : (cmb a b c d).toBitVec.getLsbD (16 * i + t) = (if i = 0 then a else if i = 1 then b else if i = 2 then c else d).toBitVec.getLsbD t := by
  unfold cmb
  simp only [show (16 : Int32) = nI 16 from rfl, show (32 : Int32) = nI 32 from rfl, show (48 : Int32) = nI 48 from rfl]
  rw [Int64.toBitVec_or, Int64.toBitVec_or, Int64.toBitVec_or, BitVec.getLsbD_or, BitVec.getLsbD_or, BitVec.getLsbD_or, jl_bits _ (by omega) (by omega), jl_bits _ (by omega) (by omega), jl_bits _ (by omega) (by omega), ext64 ha (by omega), ext64 hb (by omega), ext64 hc (by omega), ext64 hd (by omega)]
  rcases (show i = 0 ∨ i = 1 ∨ i = 2 ∨ i = 3 by omega) with rfl | rfl | rfl | rfl
  · simp [ht, show ¬ 16 ≤ t by omega, show ¬ 32 ≤ t by omega, show ¬ 48 ≤ t by omega]
  · simp [ht, show ¬ 16 + t < 16 by omega, show ¬ 32 ≤ 16 + t by omega, show ¬ 48 ≤ 16 + t by omega]
  · simp [ht, show ¬ 32 + t < 16 by omega, show ¬ 32 + t - 16 < 16 by omega, show ¬ 48 ≤ 32 + t by omega]
  · simp [ht, show ¬ 48 + t < 16 by omega, show ¬ 48 + t - 16 < 16 by omega, show ¬ 48 + t - 32 < 16 by omega]
/-- bit b of slice i -/
def sbt (q : bP) (i b : Nat) : Bool := if i < 4 then q.1.toBitVec.getLsbD (16 * i + b) else q.2.toBitVec.getLsbD (16 * (i - 4) + b)
/-- the sliced state q holds the octets s -/
def SO (q : bP) (s : sT) : Prop := ∀ k, k < 16 → ∀ i, i < 8 → (s k).getLsbD i = sbt q i (15 - k)
theorem t32_bit (x : Int64) {j : Nat} (hj : j < 32) : x.toInt32.toBitVec.getLsbD j = x.toBitVec.getLsbD j := by
  rw [Int64.toBitVec_toInt32, BitVec.getLsbD_signExtend]
  simp [hj, show j < 64 by omega]
theorem low_in (x : Int64) {j : Nat} (hj : j < 32) : (x.toInt32 &&& 65535).toBitVec.getLsbD j = (decide (j < 16) && x.toBitVec.getLsbD j) := by
  rw [Int32.toBitVec_and, BitVec.getLsbD_and, k65535 j hj, t32_bit x hj, Bool.and_comm]
theorem sl_in (x : Int64) {m : Nat} (hm : m < 64) {j : Nat} (hj : j < 32) : ((jlushr x (nI m)).toInt32 &&& 65535).toBitVec.getLsbD j = (decide (j < 16) && x.toBitVec.getLsbD (m + j)) := by
  rw [low_in _ hj, ju_bits _ hm]
theorem sl_48 (x : Int64) {j : Nat} (hj : j < 32) : (jlushr x 48).toInt32.toBitVec.getLsbD j = (decide (j < 16) && x.toBitVec.getLsbD (48 + j)) := by
  rw [show (48 : Int32) = nI 48 from rfl, t32_bit _ hj, ju_bits _ (by omega)]
  by_cases h : j < 16
  · simp [h]
  · rw [BitVec.getLsbD_of_ge _ _ (by omega)]
    simp
theorem box_in (lo hi : Int64) {j : Nat} (hj : j < 32) (hi16 : ¬ j < 16) : (boxI (lo.toInt32 &&& 65535) ((jlushr lo 16).toInt32 &&& 65535) ((jlushr lo 32).toInt32 &&& 65535) (jlushr lo 48).toInt32 (hi.toInt32 &&& 65535) ((jlushr hi 16).toInt32 &&& 65535) ((jlushr hi 32).toInt32 &&& 65535) (jlushr hi 48).toInt32).1.toBitVec.getLsbD j = false ∧ (boxI (lo.toInt32 &&& 65535) ((jlushr lo 16).toInt32 &&& 65535) ((jlushr lo 32).toInt32 &&& 65535) (jlushr lo 48).toInt32 (hi.toInt32 &&& 65535) ((jlushr hi 16).toInt32 &&& 65535) ((jlushr hi 32).toInt32 &&& 65535) (jlushr hi 48).toInt32).2.1.toBitVec.getLsbD j = false ∧ (boxI (lo.toInt32 &&& 65535) ((jlushr lo 16).toInt32 &&& 65535) ((jlushr lo 32).toInt32 &&& 65535) (jlushr lo 48).toInt32 (hi.toInt32 &&& 65535) ((jlushr hi 16).toInt32 &&& 65535) ((jlushr hi 32).toInt32 &&& 65535) (jlushr hi 48).toInt32).2.2.1.toBitVec.getLsbD j = false ∧ (boxI (lo.toInt32 &&& 65535) ((jlushr lo 16).toInt32 &&& 65535) ((jlushr lo 32).toInt32 &&& 65535) (jlushr lo 48).toInt32 (hi.toInt32 &&& 65535) ((jlushr hi 16).toInt32 &&& 65535) ((jlushr hi 32).toInt32 &&& 65535) (jlushr hi 48).toInt32).2.2.2.1.toBitVec.getLsbD j = false ∧ (boxI (lo.toInt32 &&& 65535) ((jlushr lo 16).toInt32 &&& 65535) ((jlushr lo 32).toInt32 &&& 65535) (jlushr lo 48).toInt32 (hi.toInt32 &&& 65535) ((jlushr hi 16).toInt32 &&& 65535) ((jlushr hi 32).toInt32 &&& 65535) (jlushr hi 48).toInt32).2.2.2.2.1.toBitVec.getLsbD j = false ∧ (boxI (lo.toInt32 &&& 65535) ((jlushr lo 16).toInt32 &&& 65535) ((jlushr lo 32).toInt32 &&& 65535) (jlushr lo 48).toInt32 (hi.toInt32 &&& 65535) ((jlushr hi 16).toInt32 &&& 65535) ((jlushr hi 32).toInt32 &&& 65535) (jlushr hi 48).toInt32).2.2.2.2.2.1.toBitVec.getLsbD j = false ∧ (boxI (lo.toInt32 &&& 65535) ((jlushr lo 16).toInt32 &&& 65535) ((jlushr lo 32).toInt32 &&& 65535) (jlushr lo 48).toInt32 (hi.toInt32 &&& 65535) ((jlushr hi 16).toInt32 &&& 65535) ((jlushr hi 32).toInt32 &&& 65535) (jlushr hi 48).toInt32).2.2.2.2.2.2.1.toBitVec.getLsbD j = false ∧ (boxI (lo.toInt32 &&& 65535) ((jlushr lo 16).toInt32 &&& 65535) ((jlushr lo 32).toInt32 &&& 65535) (jlushr lo 48).toInt32 (hi.toInt32 &&& 65535) ((jlushr hi 16).toInt32 &&& 65535) ((jlushr hi 32).toInt32 &&& 65535) (jlushr hi 48).toInt32).2.2.2.2.2.2.2.toBitVec.getLsbD j = false := by
  have L := box_lane (lo.toInt32 &&& 65535) ((jlushr lo 16).toInt32 &&& 65535) ((jlushr lo 32).toInt32 &&& 65535) (jlushr lo 48).toInt32 (hi.toInt32 &&& 65535) ((jlushr hi 16).toInt32 &&& 65535) ((jlushr hi 32).toInt32 &&& 65535) (jlushr hi 48).toInt32 hj
  rw [low_in lo hj, show ((jlushr lo 16).toInt32 &&& 65535).toBitVec.getLsbD j = _ from sl_in lo (m := 16) (by omega) hj, show ((jlushr lo 32).toInt32 &&& 65535).toBitVec.getLsbD j = _ from sl_in lo (m := 32) (by omega) hj, sl_48 lo hj, low_in hi hj, show ((jlushr hi 16).toInt32 &&& 65535).toBitVec.getLsbD j = _ from sl_in hi (m := 16) (by omega) hj, show ((jlushr hi 32).toInt32 &&& 65535).toBitVec.getLsbD j = _ from sl_in hi (m := 32) (by omega) hj, sl_48 hi hj] at L
  simp only [hi16, decide_false, Bool.false_and] at L
  obtain ⟨z0, z1, z2, z3, z4, z5, z6, z7⟩ := box_Z
  obtain ⟨l0, l1, l2, l3, l4, l5, l6, l7⟩ := L
  exact ⟨l0.trans z0, l1.trans z1, l2.trans z2, l3.trans z3, l4.trans z4, l5.trans z5, l6.trans z6, l7.trans z7⟩
set_option maxHeartbeats 1000000 in
theorem box_bit (lo hi : Int64) {b : Nat} (hb : b < 16) (x : BitVec 8) (hx : ∀ i, i < 8 → x.getLsbD i = sbt (lo, hi) i b) : ∀ i, i < 8 → sbt (vX8_box lo hi) i b = (Bx x).getLsbD i := by
  have hj : b < 32 := by omega
  have L := box_lane (lo.toInt32 &&& 65535) ((jlushr lo 16).toInt32 &&& 65535) ((jlushr lo 32).toInt32 &&& 65535) (jlushr lo 48).toInt32 (hi.toInt32 &&& 65535) ((jlushr hi 16).toInt32 &&& 65535) ((jlushr hi 32).toInt32 &&& 65535) (jlushr hi 48).toInt32 hj
  rw [low_in lo hj, show ((jlushr lo 16).toInt32 &&& 65535).toBitVec.getLsbD b = _ from sl_in lo (m := 16) (by omega) hj, show ((jlushr lo 32).toInt32 &&& 65535).toBitVec.getLsbD b = _ from sl_in lo (m := 32) (by omega) hj, sl_48 lo hj, low_in hi hj, show ((jlushr hi 16).toInt32 &&& 65535).toBitVec.getLsbD b = _ from sl_in hi (m := 16) (by omega) hj, show ((jlushr hi 32).toInt32 &&& 65535).toBitVec.getLsbD b = _ from sl_in hi (m := 32) (by omega) hj, sl_48 hi hj] at L
  simp only [hb, decide_true, Bool.true_and] at L
  have x0 : x.getLsbD 0 = lo.toBitVec.getLsbD (16 * 0 + b) := hx 0 (by omega)
  have x1 : x.getLsbD 1 = lo.toBitVec.getLsbD (16 * 1 + b) := hx 1 (by omega)
  have x2 : x.getLsbD 2 = lo.toBitVec.getLsbD (16 * 2 + b) := hx 2 (by omega)
  have x3 : x.getLsbD 3 = lo.toBitVec.getLsbD (16 * 3 + b) := hx 3 (by omega)
  have x4 : x.getLsbD 4 = hi.toBitVec.getLsbD (16 * 0 + b) := hx 4 (by omega)
  have x5 : x.getLsbD 5 = hi.toBitVec.getLsbD (16 * 1 + b) := hx 5 (by omega)
  have x6 : x.getLsbD 6 = hi.toBitVec.getLsbD (16 * 2 + b) := hx 6 (by omega)
  have x7 : x.getLsbD 7 = hi.toBitVec.getLsbD (16 * 3 + b) := hx 7 (by omega)
  have T := box_T x
  rw [x0, x1, x2, x3, x4, x5, x6, x7] at T
  simp only [Nat.mul_zero, Nat.zero_add, Nat.reduceMul] at T
  obtain ⟨t0, t1, t2, t3, t4, t5, t6, t7⟩ := T
  obtain ⟨l0, l1, l2, l3, l4, l5, l6, l7⟩ := L
  have Z : ∀ j, 16 ≤ j → j < 32 → _ := fun j h1 h2 => box_in lo hi (j := j) h2 (by omega)
  intro i hi8
  rw [box_cmb]
  unfold sbt
  by_cases h4 : i < 4
  · rw [if_pos h4]
    have C := cmb_bit (fun j a c => (Z j a c).1) (fun j a c => (Z j a c).2.1) (fun j a c => (Z j a c).2.2.1) (fun j a c => (Z j a c).2.2.2.1) h4 hb
    refine Eq.trans C ?_
    rcases (show i = 0 ∨ i = 1 ∨ i = 2 ∨ i = 3 by omega) with rfl | rfl | rfl | rfl
    · exact l0.trans t0
    · exact l1.trans t1
    · exact l2.trans t2
    · exact l3.trans t3
  · rw [if_neg h4]
    have C := cmb_bit (fun j a c => (Z j a c).2.2.2.2.1) (fun j a c => (Z j a c).2.2.2.2.2.1) (fun j a c => (Z j a c).2.2.2.2.2.2.1) (fun j a c => (Z j a c).2.2.2.2.2.2.2) (show i - 4 < 4 by omega) hb
    refine Eq.trans C ?_
    rcases (show i = 4 ∨ i = 5 ∨ i = 6 ∨ i = 7 by omega) with rfl | rfl | rfl | rfl
    · exact l4.trans t4
    · exact l5.trans t5
    · exact l6.trans t6
    · exact l7.trans t7
theorem SO.box {q : bP} {s : sT} (h : SO q s) : SO (bX q) (fun k => Bx (s k)) := fun k hk i hi => (box_bit q.1 q.2 (b := 15 - k) (by omega) (s k) (fun i hi => h k hk i hi) i hi).symm
