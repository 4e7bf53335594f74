/-! ===== the methods ===== -/
theorem zm_0 : zx_ms 0 = some (0, zy_0, prog_2_method_2_code, 5, some Jvm.ClassFile.FieldType.int, false) := rfl
theorem zm_1 : zx_ms 1 = some (0, zy_1, prog_2_method_3_code, 5, some Jvm.ClassFile.FieldType.int, false) := rfl
theorem zm_2 : zx_ms 2 = some (0, zy_2, prog_2_method_4_code, 5, none, false) := rfl
theorem zm_3 : zx_ms 3 = some (0, zy_3, prog_2_method_5_code, 4, some Jvm.ClassFile.FieldType.int, false) := rfl
theorem zm_4 : zx_ms 4 = some (0, zy_4, prog_2_method_6_code, 3, some Jvm.ClassFile.FieldType.int, false) := rfl
theorem zm_5 : zx_ms 5 = some (0, zy_5, prog_2_method_7_code, 4, some Jvm.ClassFile.FieldType.int, false) := rfl
theorem zm_6 : zx_ms 6 = some (0, zy_6, prog_2_method_8_code, 4, some Jvm.ClassFile.FieldType.int, false) := rfl
theorem zm_7 : zx_ms 7 = some (0, zy_7, prog_2_method_9_code, 5, some Jvm.ClassFile.FieldType.int, false) := rfl
theorem zm_8 : zx_ms 8 = some (1, zy_8, prog_3_method_1_code, 1, none, true) := rfl
theorem zm_9 : zx_ms 9 = some (1, zy_9, prog_3_method_2_code, 1, none, false) := rfl
theorem zm_10 : zx_ms 10 = some (1, zy_10, prog_3_method_3_code, 3, none, false) := rfl
theorem zm_11 : zx_ms 11 = some (1, zy_11, prog_3_method_4_code, 2, none, false) := rfl
theorem zm_12 : zx_ms 12 = some (1, zy_12, prog_3_method_5_code, 4, some Jvm.ClassFile.FieldType.boolean, false) := rfl
theorem zm_13 : zx_ms 13 = some (1, zy_13, prog_3_method_6_code, 5, some Jvm.ClassFile.FieldType.int, false) := rfl
theorem zm_14 : zx_ms 14 = some (2, zy_14, prog_4_method_1_code, 1, none, true) := rfl
theorem zm_15 : zx_ms 15 = some (2, zy_15, prog_4_method_2_code, 5, some Jvm.ClassFile.FieldType.boolean, false) := rfl
theorem zm_16 : zx_ms 16 = some (2, zy_16, prog_4_method_3_code, 2, some Jvm.ClassFile.FieldType.boolean, false) := rfl
theorem zm_17 : zx_ms 17 = some (2, zy_17, prog_4_method_4_code, 6, some Jvm.ClassFile.FieldType.int, false) := rfl
theorem zm_18 : zx_ms 18 = some (2, zy_18, prog_4_method_5_code, 5, some Jvm.ClassFile.FieldType.int, false) := rfl
theorem zm_19 : zx_ms 19 = some (2, zy_19, prog_4_method_6_code, 2, none, false) := rfl
theorem zm_20 : zx_ms 20 = some (2, zy_20, prog_4_method_7_code, 3, none, false) := rfl
theorem zm_21 : zx_ms 21 = some (2, zy_21, prog_4_method_8_code, 2, none, false) := rfl
theorem zm_22 : zx_ms 22 = some (2, zy_22, prog_4_method_9_code, 5, none, false) := rfl
theorem zm_23 : zx_ms 23 = some (2, zy_23, prog_4_method_10_code, 1, some Jvm.ClassFile.FieldType.int, false) := rfl
theorem zm_24 : zx_ms 24 = some (3, zy_24, prog_5_method_1_code, 2, none, true) := rfl
theorem zm_25 : zx_ms 25 = some (3, zy_25, prog_5_method_2_code, 1, none, false) := rfl
theorem zm_26 : zx_ms 26 = some (3, zy_26, prog_5_method_3_code, 3, none, false) := rfl
theorem zm_27 : zx_ms 27 = some (3, zy_27, prog_5_method_4_code, 4, none, false) := rfl
theorem zm_28 : zx_ms 28 = some (4, zy_28, prog_6_method_1_code, 1, none, true) := rfl
theorem zm_29 : zx_ms 29 = some (4, zy_29, prog_6_method_2_code, 1, some Jvm.ClassFile.FieldType.int, false) := rfl
theorem zm_30 : zx_ms 30 = some (4, zy_30, prog_6_method_3_code, 4, some Jvm.ClassFile.FieldType.int, false) := rfl
theorem zm_31 : zx_ms 31 = some (4, zy_31, prog_6_method_4_code, 1, some Jvm.ClassFile.FieldType.boolean, false) := rfl
theorem zm_32 : zx_ms 32 = some (4, zy_32, prog_6_method_5_code, 3, some Jvm.ClassFile.FieldType.boolean, false) := rfl
theorem zm_33 : zx_ms 33 = some (4, zy_33, prog_6_method_6_code, 3, some Jvm.ClassFile.FieldType.boolean, false) := rfl
theorem zm_34 : zx_ms 34 = some (4, zy_34, prog_6_method_7_code, 2, some Jvm.ClassFile.FieldType.boolean, false) := rfl
theorem zm_35 : zx_ms 35 = some (4, zy_35, prog_6_method_8_code, 2, some Jvm.ClassFile.FieldType.boolean, false) := rfl
theorem zm_36 : zx_ms 36 = some (4, zy_36, prog_6_method_9_code, 2, some Jvm.ClassFile.FieldType.boolean, false) := rfl
theorem zm_37 : zx_ms 37 = some (4, zy_37, prog_6_method_10_code, 5, some Jvm.ClassFile.FieldType.boolean, false) := rfl
theorem zm_38 : zx_ms 38 = some (4, zy_38, prog_6_method_11_code, 2, some Jvm.ClassFile.FieldType.boolean, false) := rfl
theorem zm_39 : zx_ms 39 = some (5, zy_39, prog_7_method_1_code, 1, none, true) := rfl
theorem zm_40 : zx_ms 40 = some (5, zy_40, prog_7_method_2_code, 6, none, false) := rfl
theorem zm_41 : zx_ms 41 = some (5, zy_41, prog_7_method_3_code, 6, none, false) := rfl
theorem zm_42 : zx_ms 42 = some (5, zy_42, prog_7_method_4_code, 7, some Jvm.ClassFile.FieldType.boolean, false) := rfl
theorem zm_43 : zx_ms 43 = some (5, zy_43, prog_7_method_5_code, 3, some Jvm.ClassFile.FieldType.boolean, false) := rfl
theorem zm_44 : zx_ms 44 = some (5, zy_44, prog_7_method_6_code, 4, none, false) := rfl
theorem zm_45 : zx_ms 45 = some (6, zy_45, prog_8_method_1_code, 1, none, true) := rfl
theorem zm_46 : zx_ms 46 = some (6, zy_46, prog_8_method_2_code, 1, none, false) := rfl
theorem zm_47 : zx_ms 47 = some (6, zy_47, prog_8_method_3_code, 3, none, false) := rfl
theorem zm_48 : zx_ms 48 = some (6, zy_48, prog_8_method_4_code, 2, some Jvm.ClassFile.FieldType.boolean, false) := rfl
theorem zm_49 : zx_ms 49 = some (6, zy_49, prog_8_method_5_code, 2, some Jvm.ClassFile.FieldType.boolean, false) := rfl
theorem zm_50 : zx_ms 50 = some (6, zy_50, prog_8_method_6_code, 2, some Jvm.ClassFile.FieldType.int, false) := rfl
theorem zm_51 : zx_ms 51 = some (6, zy_51, prog_8_method_7_code, 2, some Jvm.ClassFile.FieldType.int, false) := rfl
theorem zm_52 : zx_ms 52 = some (6, zy_52, prog_8_method_8_code, 5, none, false) := rfl
theorem zm_53 : zx_ms 53 = some (6, zy_53, prog_8_method_9_code, 3, none, false) := rfl
theorem zm_54 : zx_ms 54 = some (6, zy_54, prog_8_method_10_code, 4, none, false) := rfl
theorem zm_55 : zx_ms 55 = some (6, zy_55, prog_8_method_11_code, 3, some Jvm.ClassFile.FieldType.boolean, false) := rfl
theorem zm_56 : zx_ms 56 = some (6, zy_56, prog_8_method_12_code, 4, some Jvm.ClassFile.FieldType.int, false) := rfl
theorem zm_57 : zx_ms 57 = some (6, zy_57, prog_8_method_13_code, 3, some Jvm.ClassFile.FieldType.boolean, false) := rfl
theorem zm_58 : zx_ms 58 = some (6, zy_58, prog_8_method_14_code, 5, some Jvm.ClassFile.FieldType.long, false) := rfl
theorem zm_59 : zx_ms 59 = some (6, zy_59, prog_8_method_15_code, 3, some Jvm.ClassFile.FieldType.boolean, false) := rfl
theorem zm_60 : zx_ms 60 = some (6, zy_60, prog_8_method_16_code, 4, some Jvm.ClassFile.FieldType.int, false) := rfl
theorem zm_61 : zx_ms 61 = some (6, zy_61, prog_8_method_17_code, 8, some Jvm.ClassFile.FieldType.int, false) := rfl
theorem zm_62 : zx_ms 62 = some (6, zy_62, prog_8_method_18_code, 5, some Jvm.ClassFile.FieldType.int, false) := rfl
theorem zm_63 : zx_ms 63 = some (6, zy_63, prog_8_method_19_code, 14, some Jvm.ClassFile.FieldType.long, false) := rfl
theorem zm_64 : zx_ms 64 = some (6, zy_64, prog_8_method_20_code, 6, some Jvm.ClassFile.FieldType.int, false) := rfl
theorem zm_65 : zx_ms 65 = some (6, zy_65, prog_8_method_21_code, 7, some Jvm.ClassFile.FieldType.long, false) := rfl
theorem zm_66 : zx_ms 66 = some (6, zy_66, prog_8_method_22_code, 7, some Jvm.ClassFile.FieldType.int, false) := rfl
theorem zm_67 : zx_ms 67 = some (7, zy_67, prog_9_method_1_code, 2, none, true) := rfl
theorem zm_68 : zx_ms 68 = some (7, zy_68, prog_9_method_2_code, 2, none, false) := rfl
theorem zm_69 : zx_ms 69 = some (7, zy_69, prog_9_method_3_code, 3, none, false) := rfl
theorem zm_70 : zx_ms 70 = some (7, zy_70, prog_9_method_4_code, 2, some Jvm.ClassFile.FieldType.boolean, false) := rfl
theorem zm_71 : zx_ms 71 = some (7, zy_71, prog_9_method_5_code, 2, some Jvm.ClassFile.FieldType.boolean, false) := rfl
theorem zm_72 : zx_ms 72 = some (7, zy_72, prog_9_method_6_code, 3, some Jvm.ClassFile.FieldType.int, false) := rfl
theorem zm_73 : zx_ms 73 = some (7, zy_73, prog_9_method_7_code, 4, some Jvm.ClassFile.FieldType.int, false) := rfl
theorem zm_74 : zx_ms 74 = some (7, zy_74, prog_9_method_8_code, 4, some Jvm.ClassFile.FieldType.int, false) := rfl
theorem zm_75 : zx_ms 75 = some (8, zy_75, prog_10_method_1_code, 1, none, true) := rfl
theorem zm_76 : zx_ms 76 = some (8, zy_76, prog_10_method_2_code, 2, none, false) := rfl
theorem zm_77 : zx_ms 77 = some (8, zy_77, prog_10_method_3_code, 2, some Jvm.ClassFile.FieldType.int, false) := rfl
theorem zm_78 : zx_ms 78 = some (8, zy_78, prog_10_method_4_code, 2, none, false) := rfl
theorem zm_79 : zx_ms 79 = some (8, zy_79, prog_10_method_5_code, 2, some Jvm.ClassFile.FieldType.boolean, false) := rfl
theorem zm_80 : zx_ms 80 = some (8, zy_80, prog_10_method_6_code, 2, some Jvm.ClassFile.FieldType.int, false) := rfl
theorem zm_81 : zx_ms 81 = some (8, zy_81, prog_10_method_7_code, 5, some Jvm.ClassFile.FieldType.int, false) := rfl
theorem zm_82 : zx_ms 82 = some (8, zy_82, prog_10_method_8_code, 2, some Jvm.ClassFile.FieldType.boolean, false) := rfl
theorem zm_83 : zx_ms 83 = some (8, zy_83, prog_10_method_9_code, 1, some Jvm.ClassFile.FieldType.boolean, false) := rfl
theorem zm_84 : zx_ms 84 = some (8, zy_84, prog_10_method_10_code, 2, some Jvm.ClassFile.FieldType.boolean, false) := rfl
theorem zm_85 : zx_ms 85 = some (9, zy_85, prog_11_method_1_code, 1, none, true) := rfl
theorem zm_86 : zx_ms 86 = some (9, zy_86, prog_11_method_2_code, 4, none, false) := rfl
theorem zm_87 : zx_ms 87 = some (9, zy_87, prog_11_method_3_code, 2, some Jvm.ClassFile.FieldType.long, false) := rfl
theorem zm_88 : zx_ms 88 = some (9, zy_88, prog_11_method_4_code, 4, none, false) := rfl
theorem zm_89 : zx_ms 89 = some (9, zy_89, prog_11_method_5_code, 3, some Jvm.ClassFile.FieldType.long, false) := rfl
theorem zm_90 : zx_ms 90 = some (10, zy_90, prog_12_method_1_code, 1, none, true) := rfl
theorem zm_91 : zx_ms 91 = some (10, zy_91, prog_12_method_2_code, 6, none, false) := rfl
theorem zm_92 : zx_ms 92 = some (10, zy_92, prog_12_method_3_code, 5, none, false) := rfl
theorem zm_93 : zx_ms 93 = some (10, zy_93, prog_12_method_4_code, 6, some Jvm.ClassFile.FieldType.long, false) := rfl
theorem zm_94 : zx_ms 94 = some (10, zy_94, prog_12_method_5_code, 7, some Jvm.ClassFile.FieldType.long, false) := rfl
theorem zm_95 : zx_ms 95 = some (10, zy_95, prog_12_method_6_code, 7, some Jvm.ClassFile.FieldType.int, false) := rfl
theorem zm_96 : zx_ms 96 = some (10, zy_96, prog_12_method_7_code, 7, some Jvm.ClassFile.FieldType.long, false) := rfl
theorem zm_97 : zx_ms 97 = some (10, zy_97, prog_12_method_8_code, 8, some Jvm.ClassFile.FieldType.long, false) := rfl
theorem zm_98 : zx_ms 98 = some (10, zy_98, prog_12_method_9_code, 10, some Jvm.ClassFile.FieldType.int, false) := rfl
theorem zm_99 : zx_ms 99 = some (11, zy_99, prog_1_method_1_code, 2, none, true) := rfl
theorem zm_100 : zx_ms 100 = some (11, zy_100, prog_1_method_2_code, 6, some Jvm.ClassFile.FieldType.int, false) := rfl
theorem zm_101 : zx_ms 101 = some (11, zy_101, prog_1_method_3_code, 4, none, false) := rfl
theorem zm_102 : zx_ms 102 = some (11, zy_102, prog_1_method_4_code, 2, some Jvm.ClassFile.FieldType.int, false) := rfl
theorem zm_103 : zx_ms 103 = some (11, zy_103, prog_1_method_5_code, 2, some Jvm.ClassFile.FieldType.int, false) := rfl
theorem zm_104 : zx_ms 104 = some (11, zy_104, prog_1_method_6_code, 3, some Jvm.ClassFile.FieldType.int, false) := rfl
theorem zm_105 : zx_ms 105 = some (11, zy_105, prog_1_method_7_code, 2, some Jvm.ClassFile.FieldType.int, false) := rfl
theorem zm_106 : zx_ms 106 = some (11, zy_106, prog_1_method_8_code, 2, some Jvm.ClassFile.FieldType.long, false) := rfl
theorem zm_107 : zx_ms 107 = some (11, zy_107, prog_1_method_9_code, 1, some Jvm.ClassFile.FieldType.long, false) := rfl
theorem zm_108 : zx_ms 108 = some (11, zy_108, prog_1_method_10_code, 2, some Jvm.ClassFile.FieldType.int, false) := rfl
theorem zm_109 : zx_ms 109 = some (11, zy_109, prog_1_method_11_code, 2, some Jvm.ClassFile.FieldType.int, false) := rfl
theorem zm_110 : zx_ms 110 = some (11, zy_110, prog_1_method_12_code, 4, some Jvm.ClassFile.FieldType.int, false) := rfl
theorem zm_111 : zx_ms 111 = some (11, zy_111, prog_1_method_13_code, 5, some Jvm.ClassFile.FieldType.int, false) := rfl
theorem zm_112 : zx_ms 112 = some (11, zy_112, prog_1_method_14_code, 4, some Jvm.ClassFile.FieldType.int, false) := rfl
theorem zm_113 : zx_ms 113 = some (11, zy_113, prog_1_method_15_code, 4, some Jvm.ClassFile.FieldType.int, false) := rfl
theorem zm_114 : zx_ms 114 = some (11, zy_114, prog_1_method_16_code, 4, some Jvm.ClassFile.FieldType.int, false) := rfl
theorem zm_115 : zx_ms 115 = some (11, zy_115, prog_1_method_17_code, 2, some Jvm.ClassFile.FieldType.int, false) := rfl
theorem zm_116 : zx_ms 116 = some (11, zy_116, prog_1_method_18_code, 7, some Jvm.ClassFile.FieldType.int, false) := rfl
theorem zm_117 : zx_ms 117 = some (11, zy_117, prog_1_method_19_code, 5, some Jvm.ClassFile.FieldType.int, false) := rfl
theorem zm_118 : zx_ms 118 = some (11, zy_118, prog_1_method_20_code, 11, some Jvm.ClassFile.FieldType.int, false) := rfl
theorem zm_119 : zx_ms 119 = some (11, zy_119, prog_1_method_21_code, 1, some Jvm.ClassFile.FieldType.int, false) := rfl
theorem zm_120 : zx_ms 120 = some (11, zy_120, prog_1_method_22_code, 4, some Jvm.ClassFile.FieldType.int, false) := rfl
theorem zm_121 : zx_ms 121 = some (11, zy_121, prog_1_method_23_code, 5, some Jvm.ClassFile.FieldType.int, false) := rfl
theorem zm_122 : zx_ms 122 = some (11, zy_122, prog_1_method_24_code, 3, some Jvm.ClassFile.FieldType.int, false) := rfl
theorem zm_123 : zx_ms 123 = some (11, zy_123, prog_1_method_25_code, 3, some Jvm.ClassFile.FieldType.int, false) := rfl
theorem zm_124 : zx_ms 124 = some (11, zy_124, prog_1_method_26_code, 3, some Jvm.ClassFile.FieldType.int, false) := rfl
theorem zm_125 : zx_ms 125 = some (11, zy_125, prog_1_method_27_code, 2, some Jvm.ClassFile.FieldType.int, false) := rfl
theorem zm_126 : zx_ms 126 = some (11, zy_126, prog_1_method_28_code, 3, some Jvm.ClassFile.FieldType.int, false) := rfl
theorem zm_127 : zx_ms 127 = some (11, zy_127, prog_1_method_29_code, 3, some Jvm.ClassFile.FieldType.int, false) := rfl
theorem zm_128 : zx_ms 128 = some (11, zy_128, prog_1_method_30_code, 3, some Jvm.ClassFile.FieldType.long, false) := rfl
theorem zm_129 : zx_ms 129 = some (11, zy_129, prog_1_method_31_code, 4, some Jvm.ClassFile.FieldType.long, false) := rfl
theorem zm_130 : zx_ms 130 = some (11, zy_130, prog_1_method_32_code, 5, some Jvm.ClassFile.FieldType.int, false) := rfl
theorem zm_131 : zx_ms 131 = some (11, zy_131, prog_1_method_33_code, 3, some Jvm.ClassFile.FieldType.int, false) := rfl
theorem zm_132 : zx_ms 132 = some (11, zy_132, prog_1_method_34_code, 4, some Jvm.ClassFile.FieldType.int, false) := rfl
theorem zm_133 : zx_ms 133 = some (11, zy_133, prog_1_method_35_code, 5, some Jvm.ClassFile.FieldType.int, false) := rfl
theorem zm_134 : zx_ms 134 = some (11, zy_134, prog_1_method_36_code, 4, some Jvm.ClassFile.FieldType.boolean, false) := rfl
theorem zm_135 : zx_ms 135 = some (11, zy_135, prog_1_method_37_code, 4, some Jvm.ClassFile.FieldType.int, false) := rfl
theorem zm_136 : zx_ms 136 = some (11, zy_136, prog_1_method_38_code, 8, some Jvm.ClassFile.FieldType.long, false) := rfl
theorem zm_137 : zx_ms 137 = some (11, zy_137, prog_1_method_39_code, 4, some Jvm.ClassFile.FieldType.int, false) := rfl
theorem zm_138 : zx_ms 138 = some (11, zy_138, prog_1_method_40_code, 5, some Jvm.ClassFile.FieldType.int, false) := rfl
theorem zm_139 : zx_ms 139 = some (11, zy_139, prog_1_method_41_code, 6, some Jvm.ClassFile.FieldType.int, false) := rfl
theorem zm_140 : zx_ms 140 = some (11, zy_140, prog_1_method_42_code, 4, some Jvm.ClassFile.FieldType.int, false) := rfl
theorem zm_141 : zx_ms 141 = some (11, zy_141, prog_1_method_43_code, 4, some Jvm.ClassFile.FieldType.int, false) := rfl
theorem zm_142 : zx_ms 142 = some (11, zy_142, prog_1_method_44_code, 2, some (Jvm.ClassFile.FieldType.object "TurnedStatues$Tray"), false) := rfl
theorem zm_143 : zx_ms 143 = some (11, zy_143, prog_1_method_45_code, 5, some Jvm.ClassFile.FieldType.int, false) := rfl
theorem zm_144 : zx_ms 144 = some (11, zy_144, prog_1_method_46_code, 6, some Jvm.ClassFile.FieldType.long, false) := rfl
theorem zm_145 : zx_ms 145 = some (11, zy_145, prog_1_method_47_code, 5, some Jvm.ClassFile.FieldType.int, false) := rfl
theorem zm_146 : zx_ms 146 = some (11, zy_146, prog_1_method_48_code, 2, some Jvm.ClassFile.FieldType.int, false) := rfl
theorem zm_147 : zx_ms 147 = some (11, zy_147, prog_1_method_49_code, 2, some Jvm.ClassFile.FieldType.int, false) := rfl
theorem zm_148 : zx_ms 148 = some (11, zy_148, prog_1_method_50_code, 2, some Jvm.ClassFile.FieldType.boolean, false) := rfl
theorem zm_149 : zx_ms 149 = some (11, zy_149, prog_1_method_51_code, 2, some Jvm.ClassFile.FieldType.int, false) := rfl
theorem zm_150 : zx_ms 150 = some (12, zy_150, prog_14_method_2_code, 6, some Jvm.ClassFile.FieldType.boolean, false) := rfl
theorem zm_151 : zx_ms 151 = some (12, zy_151, prog_14_method_3_code, 1, none, true) := rfl
theorem zm_152 : zx_ms 152 = some (12, zy_152, prog_14_method_4_code, 2, none, false) := rfl
theorem zm_153 : zx_ms 153 = some (12, zy_153, prog_14_method_5_code, 8, some Jvm.ClassFile.FieldType.int, false) := rfl
theorem zm_154 : zx_ms 154 = some (12, zy_154, prog_14_method_6_code, 2, some Jvm.ClassFile.FieldType.int, false) := rfl
theorem zm_155 : zx_ms 155 = some (12, zy_155, prog_14_method_7_code, 1, some Jvm.ClassFile.FieldType.boolean, false) := rfl
theorem zm_156 : zx_ms 156 = some (12, zy_156, prog_14_method_8_code, 1, some Jvm.ClassFile.FieldType.boolean, false) := rfl
theorem zm_157 : zx_ms 157 = some (12, zy_157, prog_14_method_9_code, 4, some Jvm.ClassFile.FieldType.int, false) := rfl
theorem zm_158 : zx_ms 158 = some (12, zy_158, prog_14_method_10_code, 2, none, false) := rfl
theorem zm_159 : zx_ms 159 = some (12, zy_159, prog_14_method_11_code, 2, none, false) := rfl
theorem zm_160 : zx_ms 160 = some (12, zy_160, prog_14_method_12_code, 2, some Jvm.ClassFile.FieldType.boolean, false) := rfl
theorem zm_161 : zx_ms 161 = some (12, zy_161, prog_14_method_13_code, 2, some Jvm.ClassFile.FieldType.boolean, false) := rfl
theorem zm_162 : zx_ms 162 = some (12, zy_162, prog_14_method_14_code, 4, some Jvm.ClassFile.FieldType.int, false) := rfl
theorem zm_163 : zx_ms 163 = some (12, zy_163, prog_14_method_15_code, 3, some Jvm.ClassFile.FieldType.boolean, false) := rfl
theorem zm_164 : zx_ms 164 = some (12, zy_164, prog_14_method_16_code, 2, none, false) := rfl
theorem zm_165 : zx_ms 165 = some (12, zy_165, prog_14_method_17_code, 2, some Jvm.ClassFile.FieldType.boolean, false) := rfl
theorem zm_166 : zx_ms 166 = some (12, zy_166, prog_14_method_18_code, 2, none, false) := rfl
theorem zm_167 : zx_ms 167 = some (12, zy_167, prog_14_method_19_code, 2, none, false) := rfl
theorem zm_168 : zx_ms 168 = some (12, zy_168, prog_14_method_20_code, 3, none, false) := rfl
theorem zm_169 : zx_ms 169 = some (12, zy_169, prog_14_method_21_code, 3, none, false) := rfl
theorem zm_170 : zx_ms 170 = some (12, zy_170, prog_14_method_22_code, 2, none, false) := rfl
theorem zm_171 : zx_ms 171 = some (12, zy_171, prog_14_method_23_code, 2, none, false) := rfl
theorem zm_172 : zx_ms 172 = some (12, zy_172, prog_14_method_24_code, 3, none, false) := rfl
theorem zm_173 : zx_ms 173 = some (12, zy_173, prog_14_method_25_code, 3, some Jvm.ClassFile.FieldType.int, false) := rfl
theorem zm_174 : zx_ms 174 = some (12, zy_174, prog_14_method_26_code, 3, some Jvm.ClassFile.FieldType.int, false) := rfl
theorem zm_175 : zx_ms 175 = some (12, zy_175, prog_14_method_27_code, 5, none, false) := rfl
theorem zm_176 : zx_ms 176 = some (12, zy_176, prog_14_method_28_code, 3, none, false) := rfl
theorem zm_177 : zx_ms 177 = some (12, zy_177, prog_14_method_29_code, 6, none, false) := rfl
theorem zm_178 : zx_ms 178 = some (12, zy_178, prog_14_method_30_code, 3, none, false) := rfl
theorem zm_179 : zx_ms 179 = some (12, zy_179, prog_14_method_31_code, 1, none, false) := rfl
theorem zm_180 : zx_ms 180 = some (12, zy_180, prog_14_method_32_code, 2, none, false) := rfl
theorem zm_181 : zx_ms 181 = some (12, zy_181, prog_14_method_33_code, 3, some Jvm.ClassFile.FieldType.int, false) := rfl
theorem zm_182 : zx_ms 182 = some (12, zy_182, prog_14_method_34_code, 2, some Jvm.ClassFile.FieldType.int, false) := rfl
theorem zm_183 : zx_ms 183 = some (12, zy_183, prog_14_method_35_code, 3, some Jvm.ClassFile.FieldType.boolean, false) := rfl
theorem zm_184 : zx_ms 184 = some (12, zy_184, prog_14_method_36_code, 1, some Jvm.ClassFile.FieldType.int, false) := rfl
theorem zm_185 : zx_ms 185 = some (12, zy_185, prog_14_method_37_code, 3, some Jvm.ClassFile.FieldType.boolean, false) := rfl
theorem zm_186 : zx_ms 186 = some (12, zy_186, prog_14_method_38_code, 2, some Jvm.ClassFile.FieldType.boolean, false) := rfl
theorem zm_187 : zx_ms 187 = some (12, zy_187, prog_14_method_39_code, 2, some Jvm.ClassFile.FieldType.boolean, false) := rfl
theorem zm_188 : zx_ms 188 = some (12, zy_188, prog_14_method_40_code, 2, some Jvm.ClassFile.FieldType.boolean, false) := rfl
theorem zm_189 : zx_ms 189 = some (12, zy_189, prog_14_method_41_code, 1, some Jvm.ClassFile.FieldType.int, false) := rfl
theorem zm_190 : zx_ms 190 = some (12, zy_190, prog_14_method_42_code, 5, some Jvm.ClassFile.FieldType.int, false) := rfl
theorem zm_191 : zx_ms 191 = some (12, zy_191, prog_14_method_43_code, 4, some Jvm.ClassFile.FieldType.int, false) := rfl
theorem zm_192 : zx_ms 192 = some (12, zy_192, prog_14_method_44_code, 5, some Jvm.ClassFile.FieldType.int, false) := rfl
theorem zm_193 : zx_ms 193 = some (12, zy_193, prog_14_method_45_code, 5, some Jvm.ClassFile.FieldType.long, false) := rfl
theorem zm_194 : zx_ms 194 = some (12, zy_194, prog_14_method_46_code, 4, some Jvm.ClassFile.FieldType.long, false) := rfl
theorem zm_195 : zx_ms 195 = some (12, zy_195, prog_14_method_47_code, 2, some Jvm.ClassFile.FieldType.int, false) := rfl
theorem zm_196 : zx_ms 196 = some (12, zy_196, prog_14_method_48_code, 4, some Jvm.ClassFile.FieldType.int, false) := rfl
theorem zm_197 : zx_ms 197 = some (12, zy_197, prog_14_method_49_code, 5, some Jvm.ClassFile.FieldType.int, false) := rfl
theorem zm_198 : zx_ms 198 = some (12, zy_198, prog_14_method_50_code, 4, some Jvm.ClassFile.FieldType.int, false) := rfl
theorem zm_199 : zx_ms 199 = some (12, zy_199, prog_14_method_51_code, 3, some Jvm.ClassFile.FieldType.int, false) := rfl
theorem zm_200 : zx_ms 200 = some (12, zy_200, prog_14_method_52_code, 5, some Jvm.ClassFile.FieldType.boolean, false) := rfl
theorem zm_201 : zx_ms 201 = some (12, zy_201, prog_14_method_53_code, 2, some Jvm.ClassFile.FieldType.boolean, false) := rfl
theorem zm_202 : zx_ms 202 = some (12, zy_202, prog_14_method_54_code, 2, some Jvm.ClassFile.FieldType.boolean, false) := rfl
theorem zm_203 : zx_ms 203 = some (12, zy_203, prog_14_method_55_code, 3, some Jvm.ClassFile.FieldType.int, false) := rfl
theorem zm_204 : zx_ms 204 = some (12, zy_204, prog_14_method_56_code, 3, some Jvm.ClassFile.FieldType.int, false) := rfl
theorem zm_205 : zx_ms 205 = some (12, zy_205, prog_14_method_57_code, 3, some Jvm.ClassFile.FieldType.int, false) := rfl
theorem zm_206 : zx_ms 206 = some (12, zy_206, prog_14_method_58_code, 2, some Jvm.ClassFile.FieldType.int, false) := rfl
theorem zm_207 : zx_ms 207 = some (12, zy_207, prog_14_method_59_code, 2, some Jvm.ClassFile.FieldType.long, false) := rfl
theorem zm_208 : zx_ms 208 = some (12, zy_208, prog_14_method_60_code, 1, some Jvm.ClassFile.FieldType.long, false) := rfl
theorem zm_209 : zx_ms 209 = some (12, zy_209, prog_14_method_61_code, 4, some Jvm.ClassFile.FieldType.int, false) := rfl
theorem zm_210 : zx_ms 210 = some (12, zy_210, prog_14_method_62_code, 2, some Jvm.ClassFile.FieldType.int, false) := rfl
theorem zm_211 : zx_ms 211 = some (12, zy_211, prog_14_method_63_code, 2, none, false) := rfl
theorem zm_212 : zx_ms 212 = some (12, zy_212, prog_14_method_64_code, 2, none, false) := rfl
theorem zm_213 : zx_ms 213 = some (12, zy_213, prog_14_method_65_code, 2, none, false) := rfl
theorem zm_214 : zx_ms 214 = some (12, zy_214, prog_14_method_66_code, 2, none, false) := rfl
theorem zm_215 : zx_ms 215 = some (12, zy_215, prog_14_method_67_code, 2, none, false) := rfl
theorem zm_216 : zx_ms 216 = some (12, zy_216, prog_14_method_68_code, 4, some Jvm.ClassFile.FieldType.int, false) := rfl
theorem zm_217 : zx_ms 217 = some (12, zy_217, prog_14_method_69_code, 5, some Jvm.ClassFile.FieldType.int, false) := rfl
theorem zm_218 : zx_ms 218 = some (12, zy_218, prog_14_method_70_code, 2, some Jvm.ClassFile.FieldType.int, false) := rfl
theorem zm_219 : zx_ms 219 = some (12, zy_219, prog_14_method_71_code, 6, some Jvm.ClassFile.FieldType.int, false) := rfl
theorem zm_220 : zx_ms 220 = some (12, zy_220, prog_14_method_72_code, 3, some Jvm.ClassFile.FieldType.int, false) := rfl
theorem zm_221 : zx_ms 221 = some (12, zy_221, prog_14_method_73_code, 2, some Jvm.ClassFile.FieldType.int, false) := rfl
theorem zm_222 : zx_ms 222 = some (12, zy_222, prog_14_method_74_code, 2, some Jvm.ClassFile.FieldType.int, false) := rfl
theorem zm_223 : zx_ms 223 = some (12, zy_223, prog_14_method_75_code, 4, some Jvm.ClassFile.FieldType.int, false) := rfl
theorem zm_224 : zx_ms 224 = some (12, zy_224, prog_14_method_76_code, 3, some Jvm.ClassFile.FieldType.int, false) := rfl
theorem zm_225 : zx_ms 225 = some (12, zy_225, prog_14_method_77_code, 3, some Jvm.ClassFile.FieldType.int, false) := rfl
theorem zm_226 : zx_ms 226 = some (12, zy_226, prog_14_method_78_code, 2, some Jvm.ClassFile.FieldType.int, false) := rfl
theorem zm_227 : zx_ms 227 = some (12, zy_227, prog_14_method_79_code, 6, some Jvm.ClassFile.FieldType.int, false) := rfl
theorem zm_228 : zx_ms 228 = some (12, zy_228, prog_14_method_80_code, 4, some Jvm.ClassFile.FieldType.int, false) := rfl
theorem zm_229 : zx_ms 229 = some (12, zy_229, prog_14_method_81_code, 2, some Jvm.ClassFile.FieldType.int, false) := rfl
theorem zm_230 : zx_ms 230 = some (12, zy_230, prog_14_method_82_code, 3, some Jvm.ClassFile.FieldType.int, false) := rfl
theorem zm_231 : zx_ms 231 = some (12, zy_231, prog_14_method_83_code, 6, some Jvm.ClassFile.FieldType.int, false) := rfl
theorem zm_232 : zx_ms 232 = some (12, zy_232, prog_14_method_84_code, 4, some Jvm.ClassFile.FieldType.int, false) := rfl
theorem zm_233 : zx_ms 233 = some (12, zy_233, prog_14_method_85_code, 5, some Jvm.ClassFile.FieldType.int, false) := rfl
theorem zm_234 : zx_ms 234 = some (12, zy_234, prog_14_method_86_code, 4, some Jvm.ClassFile.FieldType.int, false) := rfl
theorem zm_235 : zx_ms 235 = some (12, zy_235, prog_14_method_87_code, 3, some Jvm.ClassFile.FieldType.int, false) := rfl
theorem zm_236 : zx_ms 236 = some (12, zy_236, prog_14_method_88_code, 4, some Jvm.ClassFile.FieldType.int, false) := rfl
theorem zm_237 : zx_ms 237 = some (12, zy_237, prog_14_method_89_code, 3, some Jvm.ClassFile.FieldType.int, false) := rfl
theorem zm_238 : zx_ms 238 = some (12, zy_238, prog_14_method_90_code, 2, some Jvm.ClassFile.FieldType.int, false) := rfl
theorem zm_239 : zx_ms 239 = some (12, zy_239, prog_14_method_91_code, 3, some Jvm.ClassFile.FieldType.int, false) := rfl
theorem zm_240 : zx_ms 240 = some (12, zy_240, prog_14_method_92_code, 6, some Jvm.ClassFile.FieldType.long, false) := rfl
theorem zm_241 : zx_ms 241 = some (12, zy_241, prog_14_method_93_code, 3, none, false) := rfl
theorem zm_242 : zx_ms 242 = some (12, zy_242, prog_14_method_94_code, 7, some Jvm.ClassFile.FieldType.long, false) := rfl
theorem zm_243 : zx_ms 243 = some (12, zy_243, prog_14_method_95_code, 3, some Jvm.ClassFile.FieldType.int, false) := rfl
theorem zm_244 : zx_ms 244 = some (12, zy_244, prog_14_method_96_code, 6, some Jvm.ClassFile.FieldType.int, false) := rfl
theorem zm_245 : zx_ms 245 = some (12, zy_245, prog_14_method_97_code, 4, some Jvm.ClassFile.FieldType.int, false) := rfl
theorem zm_246 : zx_ms 246 = some (12, zy_246, prog_14_method_98_code, 6, some Jvm.ClassFile.FieldType.long, false) := rfl
theorem zm_247 : zx_ms 247 = some (12, zy_247, prog_14_method_99_code, 6, some Jvm.ClassFile.FieldType.long, false) := rfl
theorem zm_248 : zx_ms 248 = some (12, zy_248, prog_14_method_100_code, 5, some Jvm.ClassFile.FieldType.long, false) := rfl
theorem zm_249 : zx_ms 249 = some (12, zy_249, prog_14_method_101_code, 9, some Jvm.ClassFile.FieldType.int, false) := rfl
theorem zm_250 : zx_ms 250 = some (12, zy_250, prog_14_method_102_code, 2, some Jvm.ClassFile.FieldType.boolean, false) := rfl
theorem zm_251 : zx_ms 251 = some (12, zy_251, prog_14_method_103_code, 4, some Jvm.ClassFile.FieldType.int, false) := rfl
theorem zm_252 : zx_ms 252 = some (12, zy_252, prog_14_method_104_code, 7, some Jvm.ClassFile.FieldType.int, false) := rfl
theorem zm_253 : zx_ms 253 = some (12, zy_253, prog_14_method_105_code, 4, some Jvm.ClassFile.FieldType.int, false) := rfl
theorem zm_254 : zx_ms 254 = some (12, zy_254, prog_14_method_106_code, 4, some Jvm.ClassFile.FieldType.int, false) := rfl
theorem zm_255 : zx_ms 255 = some (12, zy_255, prog_14_method_107_code, 5, some Jvm.ClassFile.FieldType.long, false) := rfl
theorem zm_256 : zx_ms 256 = some (12, zy_256, prog_14_method_108_code, 3, some Jvm.ClassFile.FieldType.boolean, false) := rfl
theorem zm_257 : zx_ms 257 = some (12, zy_257, prog_14_method_109_code, 9, some Jvm.ClassFile.FieldType.int, false) := rfl
theorem zm_258 : zx_ms 258 = some (12, zy_258, prog_14_method_110_code, 7, none, false) := rfl
theorem zm_259 : zx_ms 259 = some (12, zy_259, prog_14_method_111_code, 6, some Jvm.ClassFile.FieldType.int, false) := rfl
theorem zm_260 : zx_ms 260 = some (12, zy_260, prog_14_method_112_code, 4, some Jvm.ClassFile.FieldType.int, false) := rfl
theorem zm_261 : zx_ms 261 = some (12, zy_261, prog_14_method_113_code, 5, some Jvm.ClassFile.FieldType.int, false) := rfl
theorem zm_262 : zx_ms 262 = some (12, zy_262, prog_14_method_114_code, 4, some Jvm.ClassFile.FieldType.int, false) := rfl
theorem zm_263 : zx_ms 263 = some (12, zy_263, prog_14_method_115_code, 3, some Jvm.ClassFile.FieldType.long, false) := rfl
theorem zm_264 : zx_ms 264 = some (12, zy_264, prog_14_method_116_code, 5, some Jvm.ClassFile.FieldType.int, false) := rfl
theorem zm_265 : zx_ms 265 = some (12, zy_265, prog_14_method_117_code, 6, some Jvm.ClassFile.FieldType.long, false) := rfl
theorem zm_266 : zx_ms 266 = some (12, zy_266, prog_14_method_118_code, 5, some Jvm.ClassFile.FieldType.int, false) := rfl
theorem zm_267 : zx_ms 267 = some (12, zy_267, prog_14_method_119_code, 3, some Jvm.ClassFile.FieldType.int, false) := rfl
theorem zm_268 : zx_ms 268 = some (12, zy_268, prog_14_method_120_code, 3, some Jvm.ClassFile.FieldType.int, false) := rfl
theorem zm_269 : zx_ms 269 = some (12, zy_269, prog_14_method_121_code, 3, some Jvm.ClassFile.FieldType.int, false) := rfl
theorem zm_270 : zx_ms 270 = some (12, zy_270, prog_14_method_122_code, 3, some Jvm.ClassFile.FieldType.int, false) := rfl
theorem zm_271 : zx_ms 271 = some (12, zy_271, prog_14_method_123_code, 3, some Jvm.ClassFile.FieldType.int, false) := rfl
theorem zm_272 : zx_ms 272 = some (12, zy_272, prog_14_method_124_code, 2, some Jvm.ClassFile.FieldType.int, false) := rfl
theorem zm_273 : zx_ms 273 = some (13, zy_273, prog_15_method_48_code, 2, some Jvm.ClassFile.FieldType.int, false) := rfl
theorem zm_274 : zx_ms 274 = some (13, zy_274, prog_15_method_49_code, 1, some Jvm.ClassFile.FieldType.int, false) := rfl
theorem zm_275 : zx_ms 275 = some (14, zy_275, prog_16_method_49_code, 3, some Jvm.ClassFile.FieldType.int, false) := rfl
theorem zm_276 : zx_ms 276 = some (14, zy_276, prog_16_method_50_code, 2, some Jvm.ClassFile.FieldType.int, false) := rfl
theorem zm_277 : zx_ms 277 = some (16, zy_277, prog_18_method_54_code, 1, some Jvm.ClassFile.FieldType.int, false) := rfl
theorem zm_278 : zx_ms 278 = some (16, zy_278, prog_18_method_56_code, 2, some Jvm.ClassFile.FieldType.char, false) := rfl
theorem zm_279 : zx_ms 279 = some (16, zy_279, prog_18_method_152_code, 1, some Jvm.ClassFile.FieldType.byte, false) := rfl
theorem zm_280 : zx_ms 280 = some (16, zy_280, prog_18_method_154_code, 1, some Jvm.ClassFile.FieldType.boolean, false) := rfl
theorem zm_281 : zx_ms 281 = some (16, zy_281, prog_18_method_155_code, 2, none, false) := rfl
theorem zm_282 : zx_ms 282 = some (17, zy_282, prog_19_method_2_code, 2, some Jvm.ClassFile.FieldType.char, false) := rfl
theorem zm_283 : zx_ms 283 = some (19, zy_283, prog_22_method_11_code, 3, some Jvm.ClassFile.FieldType.int, false) := rfl
theorem zm_300 : zx_ms 300 = some (20, zy_300, code, 4, some Jvm.ClassFile.FieldType.boolean, false) := rfl
section INC
variable {d m pc : Nat} {ls ls2 st : List Value} {L : zx_Lay} {I : zx_MI} {J : zx_MJ} {P : Option Value → zx_Lay → zx_MI → zx_MJ → Prop}
variable {o mx : Nat} {y : MethodName} {b : ByteArray} {rt : Option FieldType} {ini : Bool} {x z : Int32}
theorem zr_inc {k : Nat} {n : Int} (hm : zx_ms m = some (o, y, b, mx, rt, ini)) (hd : decode b pc = .ok (.iinc k n, 3)) (hv : Int32.ofInt n = z) (hl : ls[k]? = some (.int x)) (hs : zx_st1 ls k (.int (x + z)) = some ls2) : zx_wp d m pc ls st L I J P = zx_wp d m (pc + 3) ls2 st L I J P := by
  subst hv
  exact zx_nx hm hd (.inl rfl) (by rw [zx_act]; rw [hl]; dsimp only; rw [hs]; rfl)
end INC
