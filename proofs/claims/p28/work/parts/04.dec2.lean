theorem dX5_towerProperty_35 : decode cX5_towerProperty 35 = .ok (.iload_n 1, 1) := by decide +kernel
theorem dX5_towerProperty_36 : decode cX5_towerProperty 36 = .ok (.iaload, 1) := by decide +kernel
theorem dX5_towerProperty_37 : decode cX5_towerProperty 37 = .ok (.ireturn, 1) := by decide +kernel
theorem dX5_towerProperty_38 : decode cX5_towerProperty 38 = .ok (.aload_n 0, 1) := by decide +kernel
theorem dX5_towerProperty_39 : decode cX5_towerProperty 39 = .ok (.getfield 10, 3) := by decide +kernel
theorem dX5_towerProperty_42 : decode cX5_towerProperty 42 = .ok (.getfield 247, 3) := by decide +kernel
theorem dX5_towerProperty_45 : decode cX5_towerProperty 45 = .ok (.iload_n 1, 1) := by decide +kernel
theorem dX5_towerProperty_46 : decode cX5_towerProperty 46 = .ok (.iaload, 1) := by decide +kernel
theorem dX5_towerProperty_47 : decode cX5_towerProperty 47 = .ok (.ireturn, 1) := by decide +kernel
theorem dX5_towerProperty_48 : decode cX5_towerProperty 48 = .ok (.aload_n 0, 1) := by decide +kernel
theorem dX5_towerProperty_49 : decode cX5_towerProperty 49 = .ok (.getfield 10, 3) := by decide +kernel
theorem dX5_towerProperty_52 : decode cX5_towerProperty 52 = .ok (.iload_n 1, 1) := by decide +kernel
theorem dX5_towerProperty_53 : decode cX5_towerProperty 53 = .ok (.invokevirtual 250, 3) := by decide +kernel
theorem dX5_towerProperty_56 : decode cX5_towerProperty 56 = .ok (.ireturn, 1) := by decide +kernel
theorem dX5_towerProperty_57 : decode cX5_towerProperty 57 = .ok (.aload_n 0, 1) := by decide +kernel
theorem dX5_towerProperty_58 : decode cX5_towerProperty 58 = .ok (.getfield 10, 3) := by decide +kernel
theorem dX5_towerProperty_61 : decode cX5_towerProperty 61 = .ok (.iload_n 1, 1) := by decide +kernel
theorem dX5_towerProperty_62 : decode cX5_towerProperty 62 = .ok (.invokevirtual 253, 3) := by decide +kernel
theorem dX5_towerProperty_65 : decode cX5_towerProperty 65 = .ok (.ireturn, 1) := by decide +kernel
theorem dX5_playerProperty_0 : decode cX5_playerProperty 0 = .ok (.iload_n 2, 1) := by decide +kernel
theorem dX5_playerProperty_1 : decode cX5_playerProperty 1 = .ok (.tableswitch 134 0 7 #[47, 57, 67, 77, 94, 104, 114, 124], 47) := by decide +kernel
theorem dX5_playerProperty_48 : decode cX5_playerProperty 48 = .ok (.aload_n 0, 1) := by decide +kernel
theorem dX5_playerProperty_49 : decode cX5_playerProperty 49 = .ok (.getfield 10, 3) := by decide +kernel
theorem dX5_playerProperty_52 : decode cX5_playerProperty 52 = .ok (.getfield 256, 3) := by decide +kernel
theorem dX5_playerProperty_55 : decode cX5_playerProperty 55 = .ok (.iload_n 1, 1) := by decide +kernel
theorem dX5_playerProperty_56 : decode cX5_playerProperty 56 = .ok (.iaload, 1) := by decide +kernel
theorem dX5_playerProperty_57 : decode cX5_playerProperty 57 = .ok (.ireturn, 1) := by decide +kernel
theorem dX5_playerProperty_58 : decode cX5_playerProperty 58 = .ok (.aload_n 0, 1) := by decide +kernel
theorem dX5_playerProperty_59 : decode cX5_playerProperty 59 = .ok (.getfield 10, 3) := by decide +kernel
theorem dX5_playerProperty_62 : decode cX5_playerProperty 62 = .ok (.getfield 259, 3) := by decide +kernel
theorem dX5_playerProperty_65 : decode cX5_playerProperty 65 = .ok (.iload_n 1, 1) := by decide +kernel
theorem dX5_playerProperty_66 : decode cX5_playerProperty 66 = .ok (.iaload, 1) := by decide +kernel
theorem dX5_playerProperty_67 : decode cX5_playerProperty 67 = .ok (.ireturn, 1) := by decide +kernel
theorem dX5_playerProperty_68 : decode cX5_playerProperty 68 = .ok (.aload_n 0, 1) := by decide +kernel
theorem dX5_playerProperty_69 : decode cX5_playerProperty 69 = .ok (.getfield 10, 3) := by decide +kernel
theorem dX5_playerProperty_72 : decode cX5_playerProperty 72 = .ok (.getfield 262, 3) := by decide +kernel
theorem dX5_playerProperty_75 : decode cX5_playerProperty 75 = .ok (.iload_n 1, 1) := by decide +kernel
theorem dX5_playerProperty_76 : decode cX5_playerProperty 76 = .ok (.iaload, 1) := by decide +kernel
theorem dX5_playerProperty_77 : decode cX5_playerProperty 77 = .ok (.ireturn, 1) := by decide +kernel
theorem dX5_playerProperty_78 : decode cX5_playerProperty 78 = .ok (.aload_n 0, 1) := by decide +kernel
theorem dX5_playerProperty_79 : decode cX5_playerProperty 79 = .ok (.getfield 10, 3) := by decide +kernel
theorem dX5_playerProperty_82 : decode cX5_playerProperty 82 = .ok (.getfield 265, 3) := by decide +kernel
theorem dX5_playerProperty_85 : decode cX5_playerProperty 85 = .ok (.iload_n 1, 1) := by decide +kernel
theorem dX5_playerProperty_86 : decode cX5_playerProperty 86 = .ok (.if_icmp .ne 7, 3) := by decide +kernel
theorem dX5_playerProperty_89 : decode cX5_playerProperty 89 = .ok (.iconst 1, 1) := by decide +kernel
theorem dX5_playerProperty_90 : decode cX5_playerProperty 90 = .ok (.goto 4, 3) := by decide +kernel
theorem dX5_playerProperty_93 : decode cX5_playerProperty 93 = .ok (.iconst 0, 1) := by decide +kernel
theorem dX5_playerProperty_94 : decode cX5_playerProperty 94 = .ok (.ireturn, 1) := by decide +kernel
theorem dX5_playerProperty_95 : decode cX5_playerProperty 95 = .ok (.aload_n 0, 1) := by decide +kernel
theorem dX5_playerProperty_96 : decode cX5_playerProperty 96 = .ok (.getfield 10, 3) := by decide +kernel
theorem dX5_playerProperty_99 : decode cX5_playerProperty 99 = .ok (.getfield 268, 3) := by decide +kernel
theorem dX5_playerProperty_102 : decode cX5_playerProperty 102 = .ok (.iload_n 1, 1) := by decide +kernel
theorem dX5_playerProperty_103 : decode cX5_playerProperty 103 = .ok (.iaload, 1) := by decide +kernel
theorem dX5_playerProperty_104 : decode cX5_playerProperty 104 = .ok (.ireturn, 1) := by decide +kernel
theorem dX5_playerProperty_105 : decode cX5_playerProperty 105 = .ok (.aload_n 0, 1) := by decide +kernel
theorem dX5_playerProperty_106 : decode cX5_playerProperty 106 = .ok (.getfield 10, 3) := by decide +kernel
theorem dX5_playerProperty_109 : decode cX5_playerProperty 109 = .ok (.getfield 271, 3) := by decide +kernel
theorem dX5_playerProperty_112 : decode cX5_playerProperty 112 = .ok (.iload_n 1, 1) := by decide +kernel
theorem dX5_playerProperty_113 : decode cX5_playerProperty 113 = .ok (.iaload, 1) := by decide +kernel
theorem dX5_playerProperty_114 : decode cX5_playerProperty 114 = .ok (.ireturn, 1) := by decide +kernel
theorem dX5_playerProperty_115 : decode cX5_playerProperty 115 = .ok (.aload_n 0, 1) := by decide +kernel
theorem dX5_playerProperty_116 : decode cX5_playerProperty 116 = .ok (.getfield 10, 3) := by decide +kernel
theorem dX5_playerProperty_119 : decode cX5_playerProperty 119 = .ok (.getfield 274, 3) := by decide +kernel
theorem dX5_playerProperty_122 : decode cX5_playerProperty 122 = .ok (.iload_n 1, 1) := by decide +kernel
theorem dX5_playerProperty_123 : decode cX5_playerProperty 123 = .ok (.iaload, 1) := by decide +kernel
theorem dX5_playerProperty_124 : decode cX5_playerProperty 124 = .ok (.ireturn, 1) := by decide +kernel
theorem dX5_playerProperty_125 : decode cX5_playerProperty 125 = .ok (.aload_n 0, 1) := by decide +kernel
theorem dX5_playerProperty_126 : decode cX5_playerProperty 126 = .ok (.getfield 10, 3) := by decide +kernel
theorem dX5_playerProperty_129 : decode cX5_playerProperty 129 = .ok (.getfield 277, 3) := by decide +kernel
theorem dX5_playerProperty_132 : decode cX5_playerProperty 132 = .ok (.iload_n 1, 1) := by decide +kernel
theorem dX5_playerProperty_133 : decode cX5_playerProperty 133 = .ok (.iaload, 1) := by decide +kernel
theorem dX5_playerProperty_134 : decode cX5_playerProperty 134 = .ok (.ireturn, 1) := by decide +kernel
theorem dX5_playerProperty_135 : decode cX5_playerProperty 135 = .ok (.aload_n 0, 1) := by decide +kernel
theorem dX5_playerProperty_136 : decode cX5_playerProperty 136 = .ok (.getfield 10, 3) := by decide +kernel
theorem dX5_playerProperty_139 : decode cX5_playerProperty 139 = .ok (.iload_n 1, 1) := by decide +kernel
theorem dX5_playerProperty_140 : decode cX5_playerProperty 140 = .ok (.invokevirtual 280, 3) := by decide +kernel
theorem dX5_playerProperty_143 : decode cX5_playerProperty 143 = .ok (.ireturn, 1) := by decide +kernel
theorem dX5_number_0 : decode cX5_number 0 = .ok (.iload_n 1, 1) := by decide +kernel
theorem dX5_number_1 : decode cX5_number 1 = .ok (.tableswitch 171 0 9 #[55, 63, 85, 107, 115, 123, 131, 147, 155, 163], 55) := by decide +kernel
theorem dX5_number_56 : decode cX5_number 56 = .ok (.aload_n 0, 1) := by decide +kernel
theorem dX5_number_57 : decode cX5_number 57 = .ok (.getfield 10, 3) := by decide +kernel
theorem dX5_number_60 : decode cX5_number 60 = .ok (.getfield 78, 3) := by decide +kernel
theorem dX5_number_63 : decode cX5_number 63 = .ok (.ireturn, 1) := by decide +kernel
theorem dX5_number_64 : decode cX5_number 64 = .ok (.aload_n 0, 1) := by decide +kernel
theorem dX5_number_65 : decode cX5_number 65 = .ok (.getfield 10, 3) := by decide +kernel
theorem dX5_number_68 : decode cX5_number 68 = .ok (.getfield 78, 3) := by decide +kernel
theorem dX5_number_71 : decode cX5_number 71 = .ok (.ifCond .le 13, 3) := by decide +kernel
theorem dX5_number_74 : decode cX5_number 74 = .ok (.aload_n 0, 1) := by decide +kernel
theorem dX5_number_75 : decode cX5_number 75 = .ok (.getfield 10, 3) := by decide +kernel
theorem dX5_number_78 : decode cX5_number 78 = .ok (.getfield 283, 3) := by decide +kernel
theorem dX5_number_81 : decode cX5_number 81 = .ok (.goto 4, 3) := by decide +kernel
theorem dX5_number_84 : decode cX5_number 84 = .ok (.iconst (-1), 1) := by decide +kernel
theorem dX5_number_85 : decode cX5_number 85 = .ok (.ireturn, 1) := by decide +kernel
theorem dX5_number_86 : decode cX5_number 86 = .ok (.aload_n 0, 1) := by decide +kernel
theorem dX5_number_87 : decode cX5_number 87 = .ok (.getfield 10, 3) := by decide +kernel
theorem dX5_number_90 : decode cX5_number 90 = .ok (.getfield 78, 3) := by decide +kernel
theorem dX5_number_93 : decode cX5_number 93 = .ok (.ifCond .le 13, 3) := by decide +kernel
theorem dX5_number_96 : decode cX5_number 96 = .ok (.aload_n 0, 1) := by decide +kernel
theorem dX5_number_97 : decode cX5_number 97 = .ok (.getfield 10, 3) := by decide +kernel
theorem dX5_number_100 : decode cX5_number 100 = .ok (.getfield 265, 3) := by decide +kernel
theorem dX5_number_103 : decode cX5_number 103 = .ok (.goto 4, 3) := by decide +kernel
theorem dX5_number_106 : decode cX5_number 106 = .ok (.iconst (-1), 1) := by decide +kernel
theorem dX5_number_107 : decode cX5_number 107 = .ok (.ireturn, 1) := by decide +kernel
theorem dX5_number_108 : decode cX5_number 108 = .ok (.aload_n 0, 1) := by decide +kernel
theorem dX5_number_109 : decode cX5_number 109 = .ok (.getfield 10, 3) := by decide +kernel
theorem dX5_number_112 : decode cX5_number 112 = .ok (.getfield 173, 3) := by decide +kernel
theorem dX5_number_115 : decode cX5_number 115 = .ok (.ireturn, 1) := by decide +kernel
theorem dX5_number_116 : decode cX5_number 116 = .ok (.aload_n 0, 1) := by decide +kernel
theorem dX5_number_117 : decode cX5_number 117 = .ok (.getfield 10, 3) := by decide +kernel
theorem dX5_number_120 : decode cX5_number 120 = .ok (.getfield 286, 3) := by decide +kernel
theorem dX5_number_123 : decode cX5_number 123 = .ok (.ireturn, 1) := by decide +kernel
theorem dX5_number_124 : decode cX5_number 124 = .ok (.aload_n 0, 1) := by decide +kernel
theorem dX5_number_125 : decode cX5_number 125 = .ok (.getfield 10, 3) := by decide +kernel
theorem dX5_number_128 : decode cX5_number 128 = .ok (.getfield 289, 3) := by decide +kernel
theorem dX5_number_131 : decode cX5_number 131 = .ok (.ireturn, 1) := by decide +kernel
theorem dX5_number_132 : decode cX5_number 132 = .ok (.aload_n 0, 1) := by decide +kernel
theorem dX5_number_133 : decode cX5_number 133 = .ok (.getfield 10, 3) := by decide +kernel
theorem dX5_number_136 : decode cX5_number 136 = .ok (.invokevirtual 292, 3) := by decide +kernel
theorem dX5_number_139 : decode cX5_number 139 = .ok (.aload_n 0, 1) := by decide +kernel
theorem dX5_number_140 : decode cX5_number 140 = .ok (.getfield 10, 3) := by decide +kernel
theorem dX5_number_143 : decode cX5_number 143 = .ok (.invokevirtual 295, 3) := by decide +kernel
theorem dX5_number_146 : decode cX5_number 146 = .ok (.iadd, 1) := by decide +kernel
theorem dX5_number_147 : decode cX5_number 147 = .ok (.ireturn, 1) := by decide +kernel
theorem dX5_number_148 : decode cX5_number 148 = .ok (.aload_n 0, 1) := by decide +kernel
theorem dX5_number_149 : decode cX5_number 149 = .ok (.getfield 10, 3) := by decide +kernel
theorem dX5_number_152 : decode cX5_number 152 = .ok (.invokevirtual 292, 3) := by decide +kernel
theorem dX5_number_155 : decode cX5_number 155 = .ok (.ireturn, 1) := by decide +kernel
theorem dX5_number_156 : decode cX5_number 156 = .ok (.aload_n 0, 1) := by decide +kernel
theorem dX5_number_157 : decode cX5_number 157 = .ok (.getfield 10, 3) := by decide +kernel
theorem dX5_number_160 : decode cX5_number 160 = .ok (.invokevirtual 295, 3) := by decide +kernel
theorem dX5_number_163 : decode cX5_number 163 = .ok (.ireturn, 1) := by decide +kernel
theorem dX5_number_164 : decode cX5_number 164 = .ok (.aload_n 0, 1) := by decide +kernel
theorem dX5_number_165 : decode cX5_number 165 = .ok (.getfield 10, 3) := by decide +kernel
theorem dX5_number_168 : decode cX5_number 168 = .ok (.getfield 298, 3) := by decide +kernel
theorem dX5_number_171 : decode cX5_number 171 = .ok (.ireturn, 1) := by decide +kernel
theorem dX5_number_172 : decode cX5_number 172 = .ok (.aload_n 0, 1) := by decide +kernel
theorem dX5_number_173 : decode cX5_number 173 = .ok (.getfield 27, 3) := by decide +kernel
theorem dX5_number_176 : decode cX5_number 176 = .ok (.getfield 178, 3) := by decide +kernel
theorem dX5_number_179 : decode cX5_number 179 = .ok (.ireturn, 1) := by decide +kernel
theorem dJ6_bitCount_0f7a4_0 : decode cJ6_bitCount_0f7a4 0 = .ok (.iload_n 0, 1) := by decide +kernel
theorem dJ6_bitCount_0f7a4_1 : decode cJ6_bitCount_0f7a4 1 = .ok (.iload_n 0, 1) := by decide +kernel
theorem dJ6_bitCount_0f7a4_2 : decode cJ6_bitCount_0f7a4 2 = .ok (.iconst 1, 1) := by decide +kernel
theorem dJ6_bitCount_0f7a4_3 : decode cJ6_bitCount_0f7a4 3 = .ok (.iushr, 1) := by decide +kernel
theorem dJ6_bitCount_0f7a4_4 : decode cJ6_bitCount_0f7a4 4 = .ok (.ldc_w 265, 3) := by decide +kernel
theorem dJ6_bitCount_0f7a4_7 : decode cJ6_bitCount_0f7a4 7 = .ok (.iand, 1) := by decide +kernel
theorem dJ6_bitCount_0f7a4_8 : decode cJ6_bitCount_0f7a4 8 = .ok (.isub, 1) := by decide +kernel
theorem dJ6_bitCount_0f7a4_9 : decode cJ6_bitCount_0f7a4 9 = .ok (.istore_n 0, 1) := by decide +kernel
theorem dJ6_bitCount_0f7a4_10 : decode cJ6_bitCount_0f7a4 10 = .ok (.iload_n 0, 1) := by decide +kernel
theorem dJ6_bitCount_0f7a4_11 : decode cJ6_bitCount_0f7a4 11 = .ok (.ldc_w 266, 3) := by decide +kernel
theorem dJ6_bitCount_0f7a4_14 : decode cJ6_bitCount_0f7a4 14 = .ok (.iand, 1) := by decide +kernel
theorem dJ6_bitCount_0f7a4_15 : decode cJ6_bitCount_0f7a4 15 = .ok (.iload_n 0, 1) := by decide +kernel
theorem dJ6_bitCount_0f7a4_16 : decode cJ6_bitCount_0f7a4 16 = .ok (.iconst 2, 1) := by decide +kernel
theorem dJ6_bitCount_0f7a4_17 : decode cJ6_bitCount_0f7a4 17 = .ok (.iushr, 1) := by decide +kernel
theorem dJ6_bitCount_0f7a4_18 : decode cJ6_bitCount_0f7a4 18 = .ok (.ldc_w 266, 3) := by decide +kernel
theorem dJ6_bitCount_0f7a4_21 : decode cJ6_bitCount_0f7a4 21 = .ok (.iand, 1) := by decide +kernel
theorem dJ6_bitCount_0f7a4_22 : decode cJ6_bitCount_0f7a4 22 = .ok (.iadd, 1) := by decide +kernel
theorem dJ6_bitCount_0f7a4_23 : decode cJ6_bitCount_0f7a4 23 = .ok (.istore_n 0, 1) := by decide +kernel
theorem dJ6_bitCount_0f7a4_24 : decode cJ6_bitCount_0f7a4 24 = .ok (.iload_n 0, 1) := by decide +kernel
theorem dJ6_bitCount_0f7a4_25 : decode cJ6_bitCount_0f7a4 25 = .ok (.iload_n 0, 1) := by decide +kernel
theorem dJ6_bitCount_0f7a4_26 : decode cJ6_bitCount_0f7a4 26 = .ok (.iconst 4, 1) := by decide +kernel
theorem dJ6_bitCount_0f7a4_27 : decode cJ6_bitCount_0f7a4 27 = .ok (.iushr, 1) := by decide +kernel
theorem dJ6_bitCount_0f7a4_28 : decode cJ6_bitCount_0f7a4 28 = .ok (.iadd, 1) := by decide +kernel
theorem dJ6_bitCount_0f7a4_29 : decode cJ6_bitCount_0f7a4 29 = .ok (.ldc_w 267, 3) := by decide +kernel
theorem dJ6_bitCount_0f7a4_32 : decode cJ6_bitCount_0f7a4 32 = .ok (.iand, 1) := by decide +kernel
theorem dJ6_bitCount_0f7a4_33 : decode cJ6_bitCount_0f7a4 33 = .ok (.istore_n 0, 1) := by decide +kernel
theorem dJ6_bitCount_0f7a4_34 : decode cJ6_bitCount_0f7a4 34 = .ok (.iload_n 0, 1) := by decide +kernel
theorem dJ6_bitCount_0f7a4_35 : decode cJ6_bitCount_0f7a4 35 = .ok (.iload_n 0, 1) := by decide +kernel
theorem dJ6_bitCount_0f7a4_36 : decode cJ6_bitCount_0f7a4 36 = .ok (.bipush 8, 2) := by decide +kernel
theorem dJ6_bitCount_0f7a4_38 : decode cJ6_bitCount_0f7a4 38 = .ok (.iushr, 1) := by decide +kernel
theorem dJ6_bitCount_0f7a4_39 : decode cJ6_bitCount_0f7a4 39 = .ok (.iadd, 1) := by decide +kernel
theorem dJ6_bitCount_0f7a4_40 : decode cJ6_bitCount_0f7a4 40 = .ok (.istore_n 0, 1) := by decide +kernel
theorem dJ6_bitCount_0f7a4_41 : decode cJ6_bitCount_0f7a4 41 = .ok (.iload_n 0, 1) := by decide +kernel
theorem dJ6_bitCount_0f7a4_42 : decode cJ6_bitCount_0f7a4 42 = .ok (.iload_n 0, 1) := by decide +kernel
theorem dJ6_bitCount_0f7a4_43 : decode cJ6_bitCount_0f7a4 43 = .ok (.bipush 16, 2) := by decide +kernel
theorem dJ6_bitCount_0f7a4_45 : decode cJ6_bitCount_0f7a4 45 = .ok (.iushr, 1) := by decide +kernel
theorem dJ6_bitCount_0f7a4_46 : decode cJ6_bitCount_0f7a4 46 = .ok (.iadd, 1) := by decide +kernel
theorem dJ6_bitCount_0f7a4_47 : decode cJ6_bitCount_0f7a4 47 = .ok (.istore_n 0, 1) := by decide +kernel
theorem dJ6_bitCount_0f7a4_48 : decode cJ6_bitCount_0f7a4 48 = .ok (.iload_n 0, 1) := by decide +kernel
theorem dJ6_bitCount_0f7a4_49 : decode cJ6_bitCount_0f7a4 49 = .ok (.bipush 63, 2) := by decide +kernel
theorem dJ6_bitCount_0f7a4_51 : decode cJ6_bitCount_0f7a4 51 = .ok (.iand, 1) := by decide +kernel
theorem dJ6_bitCount_0f7a4_52 : decode cJ6_bitCount_0f7a4 52 = .ok (.ireturn, 1) := by decide +kernel
theorem dJ9_abs_0f7a4_0 : decode cJ9_abs_0f7a4 0 = .ok (.iload_n 0, 1) := by decide +kernel
theorem dJ9_abs_0f7a4_1 : decode cJ9_abs_0f7a4 1 = .ok (.ifCond .ge 8, 3) := by decide +kernel
theorem dJ9_abs_0f7a4_4 : decode cJ9_abs_0f7a4 4 = .ok (.iload_n 0, 1) := by decide +kernel
theorem dJ9_abs_0f7a4_5 : decode cJ9_abs_0f7a4 5 = .ok (.ineg, 1) := by decide +kernel
theorem dJ9_abs_0f7a4_6 : decode cJ9_abs_0f7a4 6 = .ok (.goto 4, 3) := by decide +kernel
theorem dJ9_abs_0f7a4_9 : decode cJ9_abs_0f7a4 9 = .ok (.iload_n 0, 1) := by decide +kernel
theorem dJ9_abs_0f7a4_10 : decode cJ9_abs_0f7a4 10 = .ok (.ireturn, 1) := by decide +kernel
theorem dJ9_max_7cf53_0 : decode cJ9_max_7cf53 0 = .ok (.iload_n 0, 1) := by decide +kernel
theorem dJ9_max_7cf53_1 : decode cJ9_max_7cf53 1 = .ok (.iload_n 1, 1) := by decide +kernel
theorem dJ9_max_7cf53_2 : decode cJ9_max_7cf53 2 = .ok (.if_icmp .lt 7, 3) := by decide +kernel
theorem dJ9_max_7cf53_5 : decode cJ9_max_7cf53 5 = .ok (.iload_n 0, 1) := by decide +kernel
theorem dJ9_max_7cf53_6 : decode cJ9_max_7cf53 6 = .ok (.goto 4, 3) := by decide +kernel
theorem dJ9_max_7cf53_9 : decode cJ9_max_7cf53 9 = .ok (.iload_n 1, 1) := by decide +kernel
theorem dJ9_max_7cf53_10 : decode cJ9_max_7cf53 10 = .ok (.ireturn, 1) := by decide +kernel
theorem dJ9_min_7cf53_0 : decode cJ9_min_7cf53 0 = .ok (.iload_n 0, 1) := by decide +kernel
theorem dJ9_min_7cf53_1 : decode cJ9_min_7cf53 1 = .ok (.iload_n 1, 1) := by decide +kernel
theorem dJ9_min_7cf53_2 : decode cJ9_min_7cf53 2 = .ok (.if_icmp .gt 7, 3) := by decide +kernel
theorem dJ9_min_7cf53_5 : decode cJ9_min_7cf53 5 = .ok (.iload_n 0, 1) := by decide +kernel
theorem dJ9_min_7cf53_6 : decode cJ9_min_7cf53 6 = .ok (.goto 4, 3) := by decide +kernel
theorem dJ9_min_7cf53_9 : decode cJ9_min_7cf53 9 = .ok (.iload_n 1, 1) := by decide +kernel
theorem dJ9_min_7cf53_10 : decode cJ9_min_7cf53 10 = .ok (.ireturn, 1) := by decide +kernel
theorem dL_cell_0 : decode cL_cell 0 = .ok (.iload_n 1, 1) := by decide +kernel
theorem dL_cell_1 : decode cL_cell 1 = .ok (.aload_n 0, 1) := by decide +kernel
theorem dL_cell_2 : decode cL_cell 2 = .ok (.arraylength, 1) := by decide +kernel
theorem dL_cell_3 : decode cL_cell 3 = .ok (.if_icmp .ge 9, 3) := by decide +kernel
theorem dL_cell_6 : decode cL_cell 6 = .ok (.aload_n 0, 1) := by decide +kernel
theorem dL_cell_7 : decode cL_cell 7 = .ok (.iload_n 1, 1) := by decide +kernel
theorem dL_cell_8 : decode cL_cell 8 = .ok (.iaload, 1) := by decide +kernel
theorem dL_cell_9 : decode cL_cell 9 = .ok (.goto 11, 3) := by decide +kernel
theorem dL_cell_12 : decode cL_cell 12 = .ok (.ldc 7, 2) := by decide +kernel
theorem dL_cell_14 : decode cL_cell 14 = .ok (.iload_n 1, 1) := by decide +kernel
theorem dL_cell_15 : decode cL_cell 15 = .ok (.imul, 1) := by decide +kernel
theorem dL_cell_16 : decode cL_cell 16 = .ok (.sipush 26801, 3) := by decide +kernel
theorem dL_cell_19 : decode cL_cell 19 = .ok (.iadd, 1) := by decide +kernel
theorem dL_cell_20 : decode cL_cell 20 = .ok (.ireturn, 1) := by decide +kernel
theorem dL_low_0 : decode cL_low 0 = .ok (.iload_n 0, 1) := by decide +kernel
theorem dL_low_1 : decode cL_low 1 = .ok (.ldc 8, 2) := by decide +kernel
theorem dL_low_3 : decode cL_low 3 = .ok (.iand, 1) := by decide +kernel
theorem dL_low_4 : decode cL_low 4 = .ok (.iload_n 1, 1) := by decide +kernel
theorem dL_low_5 : decode cL_low 5 = .ok (.irem, 1) := by decide +kernel
theorem dL_low_6 : decode cL_low 6 = .ok (.ireturn, 1) := by decide +kernel
theorem dL_size_0 : decode cL_size 0 = .ok (.iload_n 0, 1) := by decide +kernel
theorem dL_size_1 : decode cL_size 1 = .ok (.ifCond .ge 8, 3) := by decide +kernel
theorem dL_size_4 : decode cL_size 4 = .ok (.iload_n 0, 1) := by decide +kernel
theorem dL_size_5 : decode cL_size 5 = .ok (.ineg, 1) := by decide +kernel
theorem dL_size_6 : decode cL_size 6 = .ok (.goto 4, 3) := by decide +kernel
theorem dL_size_9 : decode cL_size 9 = .ok (.iload_n 0, 1) := by decide +kernel
theorem dL_size_10 : decode cL_size 10 = .ok (.ireturn, 1) := by decide +kernel
theorem dL_sees_0 : decode cL_sees 0 = .ok (.aload_n 0, 1) := by decide +kernel
theorem dL_sees_1 : decode cL_sees 1 = .ok (.iload_n 1, 1) := by decide +kernel
theorem dL_sees_2 : decode cL_sees 2 = .ok (.iconst 0, 1) := by decide +kernel
theorem dL_sees_3 : decode cL_sees 3 = .ok (.invokevirtual 9, 3) := by decide +kernel
theorem dL_sees_6 : decode cL_sees 6 = .ok (.aload_n 0, 1) := by decide +kernel
theorem dL_sees_7 : decode cL_sees 7 = .ok (.iload_n 2, 1) := by decide +kernel
theorem dL_sees_8 : decode cL_sees 8 = .ok (.iconst 0, 1) := by decide +kernel
theorem dL_sees_9 : decode cL_sees 9 = .ok (.invokevirtual 9, 3) := by decide +kernel
theorem dL_sees_12 : decode cL_sees 12 = .ok (.if_icmp .le 12, 3) := by decide +kernel
theorem dL_sees_15 : decode cL_sees 15 = .ok (.aload_n 0, 1) := by decide +kernel
theorem dL_sees_16 : decode cL_sees 16 = .ok (.iload_n 1, 1) := by decide +kernel
theorem dL_sees_17 : decode cL_sees 17 = .ok (.iconst 0, 1) := by decide +kernel
theorem dL_sees_18 : decode cL_sees 18 = .ok (.invokevirtual 9, 3) := by decide +kernel
theorem dL_sees_21 : decode cL_sees 21 = .ok (.goto 9, 3) := by decide +kernel
theorem dL_sees_24 : decode cL_sees 24 = .ok (.aload_n 0, 1) := by decide +kernel
theorem dL_sees_25 : decode cL_sees 25 = .ok (.iload_n 2, 1) := by decide +kernel
theorem dL_sees_26 : decode cL_sees 26 = .ok (.iconst 0, 1) := by decide +kernel
theorem dL_sees_27 : decode cL_sees 27 = .ok (.invokevirtual 9, 3) := by decide +kernel
theorem dL_sees_30 : decode cL_sees 30 = .ok (.istore_n 3, 1) := by decide +kernel
theorem dL_sees_31 : decode cL_sees 31 = .ok (.iload_n 1, 1) := by decide +kernel
theorem dL_sees_32 : decode cL_sees 32 = .ok (.iload_n 2, 1) := by decide +kernel
theorem dL_sees_33 : decode cL_sees 33 = .ok (.if_icmp .ge 9, 3) := by decide +kernel
theorem dL_sees_36 : decode cL_sees 36 = .ok (.iload_n 1, 1) := by decide +kernel
theorem dL_sees_37 : decode cL_sees 37 = .ok (.iconst 1, 1) := by decide +kernel
theorem dL_sees_38 : decode cL_sees 38 = .ok (.iadd, 1) := by decide +kernel
theorem dL_sees_39 : decode cL_sees 39 = .ok (.goto 6, 3) := by decide +kernel
theorem dL_sees_42 : decode cL_sees 42 = .ok (.iload_n 2, 1) := by decide +kernel
theorem dL_sees_43 : decode cL_sees 43 = .ok (.iconst 1, 1) := by decide +kernel
theorem dL_sees_44 : decode cL_sees 44 = .ok (.iadd, 1) := by decide +kernel
theorem dL_sees_45 : decode cL_sees 45 = .ok (.istore 4, 2) := by decide +kernel
theorem dL_sees_47 : decode cL_sees 47 = .ok (.iload 4, 2) := by decide +kernel
theorem dL_sees_49 : decode cL_sees 49 = .ok (.iload_n 1, 1) := by decide +kernel
theorem dL_sees_50 : decode cL_sees 50 = .ok (.iload_n 2, 1) := by decide +kernel
theorem dL_sees_51 : decode cL_sees 51 = .ok (.if_icmp .ge 7, 3) := by decide +kernel
theorem dL_sees_54 : decode cL_sees 54 = .ok (.iload_n 2, 1) := by decide +kernel
theorem dL_sees_55 : decode cL_sees 55 = .ok (.goto 4, 3) := by decide +kernel
theorem dL_sees_58 : decode cL_sees 58 = .ok (.iload_n 1, 1) := by decide +kernel
theorem dL_sees_59 : decode cL_sees 59 = .ok (.if_icmp .ge 22, 3) := by decide +kernel
theorem dL_sees_62 : decode cL_sees 62 = .ok (.aload_n 0, 1) := by decide +kernel
theorem dL_sees_63 : decode cL_sees 63 = .ok (.iload 4, 2) := by decide +kernel
theorem dL_sees_65 : decode cL_sees 65 = .ok (.iconst 0, 1) := by decide +kernel
theorem dL_sees_66 : decode cL_sees 66 = .ok (.invokevirtual 9, 3) := by decide +kernel
theorem dL_sees_69 : decode cL_sees 69 = .ok (.iload_n 3, 1) := by decide +kernel
theorem dL_sees_70 : decode cL_sees 70 = .ok (.if_icmp .le 5, 3) := by decide +kernel
theorem dL_sees_73 : decode cL_sees 73 = .ok (.iconst 0, 1) := by decide +kernel
theorem dL_sees_74 : decode cL_sees 74 = .ok (.ireturn, 1) := by decide +kernel
theorem dL_sees_75 : decode cL_sees 75 = .ok (.iinc 4 1, 3) := by decide +kernel
theorem dL_sees_78 : decode cL_sees 78 = .ok (.goto (-31), 3) := by decide +kernel
theorem dL_sees_81 : decode cL_sees 81 = .ok (.iconst 1, 1) := by decide +kernel
theorem dL_sees_82 : decode cL_sees 82 = .ok (.ireturn, 1) := by decide +kernel
theorem dL_stride_0 : decode cL_stride 0 = .ok (.aload_n 0, 1) := by decide +kernel
theorem dL_stride_1 : decode cL_stride 1 = .ok (.iload_n 2, 1) := by decide +kernel
theorem dL_stride_2 : decode cL_stride 2 = .ok (.iconst 0, 1) := by decide +kernel
theorem dL_stride_3 : decode cL_stride 3 = .ok (.invokevirtual 9, 3) := by decide +kernel
theorem dL_stride_6 : decode cL_stride 6 = .ok (.aload_n 0, 1) := by decide +kernel
theorem dL_stride_7 : decode cL_stride 7 = .ok (.iload_n 1, 1) := by decide +kernel
theorem dL_stride_8 : decode cL_stride 8 = .ok (.iconst 0, 1) := by decide +kernel
theorem dL_stride_9 : decode cL_stride 9 = .ok (.invokevirtual 9, 3) := by decide +kernel
theorem dL_stride_12 : decode cL_stride 12 = .ok (.isub, 1) := by decide +kernel
theorem dL_stride_13 : decode cL_stride 13 = .ok (.istore_n 3, 1) := by decide +kernel
theorem dL_stride_14 : decode cL_stride 14 = .ok (.aload_n 0, 1) := by decide +kernel
theorem dL_stride_15 : decode cL_stride 15 = .ok (.iconst 1, 1) := by decide +kernel
theorem dL_stride_16 : decode cL_stride 16 = .ok (.invokevirtual 15, 3) := by decide +kernel
theorem dL_stride_19 : decode cL_stride 19 = .ok (.iload_n 1, 1) := by decide +kernel
theorem dL_stride_20 : decode cL_stride 20 = .ok (.iload_n 2, 1) := by decide +kernel
theorem dL_stride_21 : decode cL_stride 21 = .ok (.isub, 1) := by decide +kernel
theorem dL_stride_22 : decode cL_stride 22 = .ok (.invokestatic 19, 3) := by decide +kernel
theorem dL_stride_25 : decode cL_stride 25 = .ok (.imul, 1) := by decide +kernel
theorem dL_stride_26 : decode cL_stride 26 = .ok (.iload_n 3, 1) := by decide +kernel
theorem dL_stride_27 : decode cL_stride 27 = .ok (.ifCond .le 7, 3) := by decide +kernel
theorem dL_stride_30 : decode cL_stride 30 = .ok (.iload_n 3, 1) := by decide +kernel
theorem dL_stride_31 : decode cL_stride 31 = .ok (.goto 4, 3) := by decide +kernel
theorem dL_stride_34 : decode cL_stride 34 = .ok (.iconst 0, 1) := by decide +kernel
theorem dL_stride_35 : decode cL_stride 35 = .ok (.iadd, 1) := by decide +kernel
theorem dL_stride_36 : decode cL_stride 36 = .ok (.ireturn, 1) := by decide +kernel
theorem dL_towers_0 : decode cL_towers 0 = .ok (.aload_n 0, 1) := by decide +kernel
theorem dL_towers_1 : decode cL_towers 1 = .ok (.iconst 0, 1) := by decide +kernel
theorem dL_towers_2 : decode cL_towers 2 = .ok (.invokevirtual 24, 3) := by decide +kernel
theorem dL_towers_5 : decode cL_towers 5 = .ok (.istore_n 1, 1) := by decide +kernel
theorem dL_towers_6 : decode cL_towers 6 = .ok (.iconst 0, 1) := by decide +kernel
theorem dL_towers_7 : decode cL_towers 7 = .ok (.istore_n 2, 1) := by decide +kernel
theorem dL_towers_8 : decode cL_towers 8 = .ok (.iconst 0, 1) := by decide +kernel
theorem dL_towers_9 : decode cL_towers 9 = .ok (.istore_n 3, 1) := by decide +kernel
theorem dL_towers_10 : decode cL_towers 10 = .ok (.iconst 0, 1) := by decide +kernel
theorem dL_towers_11 : decode cL_towers 11 = .ok (.istore 4, 2) := by decide +kernel
theorem dL_towers_13 : decode cL_towers 13 = .ok (.iconst 0, 1) := by decide +kernel
theorem dL_towers_14 : decode cL_towers 14 = .ok (.istore 5, 2) := by decide +kernel
theorem dL_towers_16 : decode cL_towers 16 = .ok (.iload 5, 2) := by decide +kernel
theorem dL_towers_18 : decode cL_towers 18 = .ok (.bipush 10, 2) := by decide +kernel
theorem dL_towers_20 : decode cL_towers 20 = .ok (.if_icmp .ge 191, 3) := by decide +kernel
theorem dL_towers_23 : decode cL_towers 23 = .ok (.iconst 0, 1) := by decide +kernel
theorem dL_towers_24 : decode cL_towers 24 = .ok (.istore 6, 2) := by decide +kernel
theorem dL_towers_26 : decode cL_towers 26 = .ok (.iconst 0, 1) := by decide +kernel
theorem dL_towers_27 : decode cL_towers 27 = .ok (.istore 7, 2) := by decide +kernel
theorem dL_towers_29 : decode cL_towers 29 = .ok (.iconst 0, 1) := by decide +kernel
theorem dL_towers_30 : decode cL_towers 30 = .ok (.istore 8, 2) := by decide +kernel
theorem dL_towers_32 : decode cL_towers 32 = .ok (.iconst 0, 1) := by decide +kernel
theorem dL_towers_33 : decode cL_towers 33 = .ok (.istore 9, 2) := by decide +kernel
theorem dL_towers_35 : decode cL_towers 35 = .ok (.iload 9, 2) := by decide +kernel
theorem dL_towers_37 : decode cL_towers 37 = .ok (.bipush 10, 2) := by decide +kernel
theorem dL_towers_39 : decode cL_towers 39 = .ok (.if_icmp .ge 52, 3) := by decide +kernel
theorem dL_towers_42 : decode cL_towers 42 = .ok (.aload_n 0, 1) := by decide +kernel
theorem dL_towers_43 : decode cL_towers 43 = .ok (.iload 5, 2) := by decide +kernel
theorem dL_towers_45 : decode cL_towers 45 = .ok (.iload 9, 2) := by decide +kernel
theorem dL_towers_47 : decode cL_towers 47 = .ok (.invokestatic 27, 3) := by decide +kernel
theorem dL_towers_50 : decode cL_towers 50 = .ok (.istore 10, 2) := by decide +kernel
theorem dL_towers_52 : decode cL_towers 52 = .ok (.iload 6, 2) := by decide +kernel
theorem dL_towers_54 : decode cL_towers 54 = .ok (.iload 10, 2) := by decide +kernel
theorem dL_towers_56 : decode cL_towers 56 = .ok (.ifCond .eq 10, 3) := by decide +kernel
theorem dL_towers_59 : decode cL_towers 59 = .ok (.iconst 1, 1) := by decide +kernel
theorem dL_towers_60 : decode cL_towers 60 = .ok (.iload 9, 2) := by decide +kernel
theorem dL_towers_62 : decode cL_towers 62 = .ok (.ishl, 1) := by decide +kernel
theorem dL_towers_63 : decode cL_towers 63 = .ok (.goto 4, 3) := by decide +kernel
theorem dL_towers_66 : decode cL_towers 66 = .ok (.iconst 0, 1) := by decide +kernel
theorem dL_towers_67 : decode cL_towers 67 = .ok (.ior, 1) := by decide +kernel
theorem dL_towers_68 : decode cL_towers 68 = .ok (.istore 6, 2) := by decide +kernel
theorem dL_towers_70 : decode cL_towers 70 = .ok (.iload 7, 2) := by decide +kernel
theorem dL_towers_72 : decode cL_towers 72 = .ok (.iload 10, 2) := by decide +kernel
theorem dL_towers_74 : decode cL_towers 74 = .ok (.ifCond .eq 7, 3) := by decide +kernel
theorem dL_towers_77 : decode cL_towers 77 = .ok (.iconst 1, 1) := by decide +kernel
theorem dL_towers_78 : decode cL_towers 78 = .ok (.goto 4, 3) := by decide +kernel
theorem dL_towers_81 : decode cL_towers 81 = .ok (.iconst 0, 1) := by decide +kernel
theorem dL_towers_82 : decode cL_towers 82 = .ok (.iadd, 1) := by decide +kernel
theorem dL_towers_83 : decode cL_towers 83 = .ok (.istore 7, 2) := by decide +kernel
theorem dL_towers_85 : decode cL_towers 85 = .ok (.iinc 9 1, 3) := by decide +kernel
theorem dL_towers_88 : decode cL_towers 88 = .ok (.goto (-53), 3) := by decide +kernel
theorem dL_towers_91 : decode cL_towers 91 = .ok (.iconst 0, 1) := by decide +kernel
theorem dL_towers_92 : decode cL_towers 92 = .ok (.istore 9, 2) := by decide +kernel
theorem dL_towers_94 : decode cL_towers 94 = .ok (.iload 9, 2) := by decide +kernel
theorem dL_towers_96 : decode cL_towers 96 = .ok (.iload_n 1, 1) := by decide +kernel
theorem dL_towers_97 : decode cL_towers 97 = .ok (.if_icmp .ge 34, 3) := by decide +kernel
theorem dL_towers_100 : decode cL_towers 100 = .ok (.iload 8, 2) := by decide +kernel
theorem dL_towers_102 : decode cL_towers 102 = .ok (.aload_n 0, 1) := by decide +kernel
theorem dL_towers_103 : decode cL_towers 103 = .ok (.iload 9, 2) := by decide +kernel
theorem dL_towers_105 : decode cL_towers 105 = .ok (.iconst 0, 1) := by decide +kernel
theorem dL_towers_106 : decode cL_towers 106 = .ok (.invokevirtual 31, 3) := by decide +kernel
theorem dL_towers_109 : decode cL_towers 109 = .ok (.iload 5, 2) := by decide +kernel
theorem dL_towers_111 : decode cL_towers 111 = .ok (.if_icmp .ne 10, 3) := by decide +kernel
theorem dL_towers_114 : decode cL_towers 114 = .ok (.iconst 1, 1) := by decide +kernel
theorem dL_towers_115 : decode cL_towers 115 = .ok (.iload 9, 2) := by decide +kernel
theorem dL_towers_117 : decode cL_towers 117 = .ok (.ishl, 1) := by decide +kernel
theorem dL_towers_118 : decode cL_towers 118 = .ok (.goto 4, 3) := by decide +kernel
theorem dL_towers_121 : decode cL_towers 121 = .ok (.iconst 0, 1) := by decide +kernel
theorem dL_towers_122 : decode cL_towers 122 = .ok (.ior, 1) := by decide +kernel
theorem dL_towers_123 : decode cL_towers 123 = .ok (.istore 8, 2) := by decide +kernel
theorem dL_towers_125 : decode cL_towers 125 = .ok (.iinc 9 1, 3) := by decide +kernel
theorem dL_towers_128 : decode cL_towers 128 = .ok (.goto (-34), 3) := by decide +kernel
theorem dL_towers_131 : decode cL_towers 131 = .ok (.aload_n 0, 1) := by decide +kernel
theorem dL_towers_132 : decode cL_towers 132 = .ok (.iload 5, 2) := by decide +kernel
theorem dL_towers_134 : decode cL_towers 134 = .ok (.iconst 3, 1) := by decide +kernel
theorem dL_towers_135 : decode cL_towers 135 = .ok (.invokevirtual 9, 3) := by decide +kernel
theorem dL_towers_138 : decode cL_towers 138 = .ok (.iload 6, 2) := by decide +kernel
theorem dL_towers_140 : decode cL_towers 140 = .ok (.if_icmp .ne 25, 3) := by decide +kernel
theorem dL_towers_143 : decode cL_towers 143 = .ok (.aload_n 0, 1) := by decide +kernel
theorem dL_towers_144 : decode cL_towers 144 = .ok (.iload 5, 2) := by decide +kernel
theorem dL_towers_146 : decode cL_towers 146 = .ok (.iconst 2, 1) := by decide +kernel
theorem dL_towers_147 : decode cL_towers 147 = .ok (.invokevirtual 9, 3) := by decide +kernel
theorem dL_towers_150 : decode cL_towers 150 = .ok (.iload 8, 2) := by decide +kernel
theorem dL_towers_152 : decode cL_towers 152 = .ok (.if_icmp .ne 13, 3) := by decide +kernel
theorem dL_towers_155 : decode cL_towers 155 = .ok (.aload_n 0, 1) := by decide +kernel
theorem dL_towers_156 : decode cL_towers 156 = .ok (.iload 5, 2) := by decide +kernel
theorem dL_towers_158 : decode cL_towers 158 = .ok (.iconst 1, 1) := by decide +kernel
theorem dL_towers_159 : decode cL_towers 159 = .ok (.invokevirtual 9, 3) := by decide +kernel
theorem dL_towers_162 : decode cL_towers 162 = .ok (.ifCond .ge 5, 3) := by decide +kernel
theorem dL_towers_165 : decode cL_towers 165 = .ok (.iconst 0, 1) := by decide +kernel
theorem dL_towers_166 : decode cL_towers 166 = .ok (.ireturn, 1) := by decide +kernel
theorem dL_towers_167 : decode cL_towers 167 = .ok (.iload_n 2, 1) := by decide +kernel
theorem dL_towers_168 : decode cL_towers 168 = .ok (.aload_n 0, 1) := by decide +kernel
theorem dL_towers_169 : decode cL_towers 169 = .ok (.iload 5, 2) := by decide +kernel
theorem dL_towers_171 : decode cL_towers 171 = .ok (.iconst 1, 1) := by decide +kernel
theorem dL_towers_172 : decode cL_towers 172 = .ok (.invokevirtual 9, 3) := by decide +kernel
theorem dL_towers_175 : decode cL_towers 175 = .ok (.iadd, 1) := by decide +kernel
theorem dL_towers_176 : decode cL_towers 176 = .ok (.istore_n 2, 1) := by decide +kernel
theorem dL_towers_177 : decode cL_towers 177 = .ok (.iload 7, 2) := by decide +kernel
theorem dL_towers_179 : decode cL_towers 179 = .ok (.iload_n 3, 1) := by decide +kernel
theorem dL_towers_180 : decode cL_towers 180 = .ok (.if_icmp .le 8, 3) := by decide +kernel
theorem dL_towers_183 : decode cL_towers 183 = .ok (.iload 5, 2) := by decide +kernel
theorem dL_towers_185 : decode cL_towers 185 = .ok (.goto 5, 3) := by decide +kernel
theorem dL_towers_188 : decode cL_towers 188 = .ok (.iload 4, 2) := by decide +kernel
theorem dL_towers_190 : decode cL_towers 190 = .ok (.istore 4, 2) := by decide +kernel
theorem dL_towers_192 : decode cL_towers 192 = .ok (.iload 7, 2) := by decide +kernel
theorem dL_towers_194 : decode cL_towers 194 = .ok (.iload_n 3, 1) := by decide +kernel
theorem dL_towers_195 : decode cL_towers 195 = .ok (.if_icmp .le 8, 3) := by decide +kernel
theorem dL_towers_198 : decode cL_towers 198 = .ok (.iload 7, 2) := by decide +kernel
theorem dL_towers_200 : decode cL_towers 200 = .ok (.goto 4, 3) := by decide +kernel
theorem dL_towers_203 : decode cL_towers 203 = .ok (.iload_n 3, 1) := by decide +kernel
theorem dL_towers_204 : decode cL_towers 204 = .ok (.istore_n 3, 1) := by decide +kernel
theorem dL_towers_205 : decode cL_towers 205 = .ok (.iinc 5 1, 3) := by decide +kernel
theorem dL_towers_208 : decode cL_towers 208 = .ok (.goto (-192), 3) := by decide +kernel
theorem dL_towers_211 : decode cL_towers 211 = .ok (.iconst 0, 1) := by decide +kernel
theorem dL_towers_212 : decode cL_towers 212 = .ok (.istore 5, 2) := by decide +kernel
theorem dL_towers_214 : decode cL_towers 214 = .ok (.iconst 0, 1) := by decide +kernel
theorem dL_towers_215 : decode cL_towers 215 = .ok (.istore 6, 2) := by decide +kernel
theorem dL_towers_217 : decode cL_towers 217 = .ok (.iconst 0, 1) := by decide +kernel
theorem dL_towers_218 : decode cL_towers 218 = .ok (.istore 7, 2) := by decide +kernel
theorem dL_towers_220 : decode cL_towers 220 = .ok (.iconst 0, 1) := by decide +kernel
theorem dL_towers_221 : decode cL_towers 221 = .ok (.istore 8, 2) := by decide +kernel
theorem dL_towers_223 : decode cL_towers 223 = .ok (.iconst 0, 1) := by decide +kernel
theorem dL_towers_224 : decode cL_towers 224 = .ok (.istore 9, 2) := by decide +kernel
theorem dL_towers_226 : decode cL_towers 226 = .ok (.iconst 0, 1) := by decide +kernel
theorem dL_towers_227 : decode cL_towers 227 = .ok (.istore 10, 2) := by decide +kernel
theorem dL_towers_229 : decode cL_towers 229 = .ok (.iload 10, 2) := by decide +kernel
theorem dL_towers_231 : decode cL_towers 231 = .ok (.iload_n 1, 1) := by decide +kernel
theorem dL_towers_232 : decode cL_towers 232 = .ok (.if_icmp .ge 134, 3) := by decide +kernel
theorem dL_towers_235 : decode cL_towers 235 = .ok (.aload_n 0, 1) := by decide +kernel
theorem dL_towers_236 : decode cL_towers 236 = .ok (.iload 10, 2) := by decide +kernel
theorem dL_towers_238 : decode cL_towers 238 = .ok (.iconst 1, 1) := by decide +kernel
theorem dL_towers_239 : decode cL_towers 239 = .ok (.invokevirtual 31, 3) := by decide +kernel
theorem dL_towers_242 : decode cL_towers 242 = .ok (.ifCond .lt 47, 3) := by decide +kernel
theorem dL_towers_245 : decode cL_towers 245 = .ok (.aload_n 0, 1) := by decide +kernel
theorem dL_towers_246 : decode cL_towers 246 = .ok (.iload 10, 2) := by decide +kernel
theorem dL_towers_248 : decode cL_towers 248 = .ok (.iconst 2, 1) := by decide +kernel
theorem dL_towers_249 : decode cL_towers 249 = .ok (.invokevirtual 31, 3) := by decide +kernel
theorem dL_towers_252 : decode cL_towers 252 = .ok (.ifCond .lt 37, 3) := by decide +kernel
theorem dL_towers_255 : decode cL_towers 255 = .ok (.aload_n 0, 1) := by decide +kernel
theorem dL_towers_256 : decode cL_towers 256 = .ok (.iload 10, 2) := by decide +kernel
theorem dL_towers_258 : decode cL_towers 258 = .ok (.iconst 3, 1) := by decide +kernel
theorem dL_towers_259 : decode cL_towers 259 = .ok (.invokevirtual 31, 3) := by decide +kernel
theorem dL_towers_262 : decode cL_towers 262 = .ok (.iconst 1, 1) := by decide +kernel
theorem dL_towers_263 : decode cL_towers 263 = .ok (.if_icmp .ne 7, 3) := by decide +kernel
theorem dL_towers_266 : decode cL_towers 266 = .ok (.iconst 1, 1) := by decide +kernel
theorem dL_towers_267 : decode cL_towers 267 = .ok (.goto 4, 3) := by decide +kernel
theorem dL_towers_270 : decode cL_towers 270 = .ok (.iconst 0, 1) := by decide +kernel
theorem dL_towers_271 : decode cL_towers 271 = .ok (.aload_n 0, 1) := by decide +kernel
theorem dL_towers_272 : decode cL_towers 272 = .ok (.iconst 2, 1) := by decide +kernel
theorem dL_towers_273 : decode cL_towers 273 = .ok (.invokevirtual 24, 3) := by decide +kernel
theorem dL_towers_276 : decode cL_towers 276 = .ok (.iload 10, 2) := by decide +kernel
theorem dL_towers_278 : decode cL_towers 278 = .ok (.if_icmp .ne 7, 3) := by decide +kernel
theorem dL_towers_281 : decode cL_towers 281 = .ok (.iconst 1, 1) := by decide +kernel
theorem dL_towers_282 : decode cL_towers 282 = .ok (.goto 4, 3) := by decide +kernel
theorem dL_towers_285 : decode cL_towers 285 = .ok (.iconst 0, 1) := by decide +kernel
theorem dL_towers_286 : decode cL_towers 286 = .ok (.if_icmp .eq 5, 3) := by decide +kernel
theorem dL_towers_289 : decode cL_towers 289 = .ok (.iconst 0, 1) := by decide +kernel
theorem dL_towers_290 : decode cL_towers 290 = .ok (.ireturn, 1) := by decide +kernel
theorem dL_towers_291 : decode cL_towers 291 = .ok (.iload 5, 2) := by decide +kernel
theorem dL_towers_293 : decode cL_towers 293 = .ok (.aload_n 0, 1) := by decide +kernel
theorem dL_towers_294 : decode cL_towers 294 = .ok (.iload 10, 2) := by decide +kernel
theorem dL_towers_296 : decode cL_towers 296 = .ok (.iconst 1, 1) := by decide +kernel
theorem dL_towers_297 : decode cL_towers 297 = .ok (.invokevirtual 31, 3) := by decide +kernel
theorem dL_towers_300 : decode cL_towers 300 = .ok (.aload_n 0, 1) := by decide +kernel
theorem dL_towers_301 : decode cL_towers 301 = .ok (.iload 10, 2) := by decide +kernel
theorem dL_towers_303 : decode cL_towers 303 = .ok (.iconst 2, 1) := by decide +kernel
theorem dL_towers_304 : decode cL_towers 304 = .ok (.invokevirtual 31, 3) := by decide +kernel
theorem dL_towers_307 : decode cL_towers 307 = .ok (.iadd, 1) := by decide +kernel
theorem dL_towers_308 : decode cL_towers 308 = .ok (.iadd, 1) := by decide +kernel
theorem dL_towers_309 : decode cL_towers 309 = .ok (.istore 5, 2) := by decide +kernel
theorem dL_towers_311 : decode cL_towers 311 = .ok (.iload 6, 2) := by decide +kernel
theorem dL_towers_313 : decode cL_towers 313 = .ok (.aload_n 0, 1) := by decide +kernel
theorem dL_towers_314 : decode cL_towers 314 = .ok (.iload 10, 2) := by decide +kernel
theorem dL_towers_316 : decode cL_towers 316 = .ok (.iconst 3, 1) := by decide +kernel
theorem dL_towers_317 : decode cL_towers 317 = .ok (.invokevirtual 31, 3) := by decide +kernel
theorem dL_towers_320 : decode cL_towers 320 = .ok (.iadd, 1) := by decide +kernel
theorem dL_towers_321 : decode cL_towers 321 = .ok (.istore 6, 2) := by decide +kernel
theorem dL_towers_323 : decode cL_towers 323 = .ok (.iload 7, 2) := by decide +kernel
theorem dL_towers_325 : decode cL_towers 325 = .ok (.aload_n 0, 1) := by decide +kernel
theorem dL_towers_326 : decode cL_towers 326 = .ok (.iload 10, 2) := by decide +kernel
theorem dL_towers_328 : decode cL_towers 328 = .ok (.iconst 4, 1) := by decide +kernel
theorem dL_towers_329 : decode cL_towers 329 = .ok (.invokevirtual 31, 3) := by decide +kernel
theorem dL_towers_332 : decode cL_towers 332 = .ok (.iadd, 1) := by decide +kernel
theorem dL_towers_333 : decode cL_towers 333 = .ok (.istore 7, 2) := by decide +kernel
theorem dL_towers_335 : decode cL_towers 335 = .ok (.iload 8, 2) := by decide +kernel
theorem dL_towers_337 : decode cL_towers 337 = .ok (.aload_n 0, 1) := by decide +kernel
theorem dL_towers_338 : decode cL_towers 338 = .ok (.iload 10, 2) := by decide +kernel
theorem dL_towers_340 : decode cL_towers 340 = .ok (.iconst 5, 1) := by decide +kernel
theorem dL_towers_341 : decode cL_towers 341 = .ok (.invokevirtual 31, 3) := by decide +kernel
theorem dL_towers_344 : decode cL_towers 344 = .ok (.iadd, 1) := by decide +kernel
theorem dL_towers_345 : decode cL_towers 345 = .ok (.istore 8, 2) := by decide +kernel
theorem dL_towers_347 : decode cL_towers 347 = .ok (.iload 9, 2) := by decide +kernel
theorem dL_towers_349 : decode cL_towers 349 = .ok (.aload_n 0, 1) := by decide +kernel
theorem dL_towers_350 : decode cL_towers 350 = .ok (.iload 10, 2) := by decide +kernel
theorem dL_towers_352 : decode cL_towers 352 = .ok (.bipush 6, 2) := by decide +kernel
theorem dL_towers_354 : decode cL_towers 354 = .ok (.invokevirtual 31, 3) := by decide +kernel
theorem dL_towers_357 : decode cL_towers 357 = .ok (.iadd, 1) := by decide +kernel
theorem dL_towers_358 : decode cL_towers 358 = .ok (.istore 9, 2) := by decide +kernel
theorem dL_towers_360 : decode cL_towers 360 = .ok (.iinc 10 1, 3) := by decide +kernel
theorem dL_towers_363 : decode cL_towers 363 = .ok (.goto (-134), 3) := by decide +kernel
theorem dL_towers_366 : decode cL_towers 366 = .ok (.aload_n 0, 1) := by decide +kernel
theorem dL_towers_367 : decode cL_towers 367 = .ok (.bipush 7, 2) := by decide +kernel
theorem dL_towers_369 : decode cL_towers 369 = .ok (.invokevirtual 24, 3) := by decide +kernel
theorem dL_towers_372 : decode cL_towers 372 = .ok (.iload 5, 2) := by decide +kernel
theorem dL_towers_374 : decode cL_towers 374 = .ok (.if_icmp .ne 45, 3) := by decide +kernel
theorem dL_towers_377 : decode cL_towers 377 = .ok (.aload_n 0, 1) := by decide +kernel
theorem dL_towers_378 : decode cL_towers 378 = .ok (.bipush 8, 2) := by decide +kernel
theorem dL_towers_380 : decode cL_towers 380 = .ok (.invokevirtual 24, 3) := by decide +kernel
theorem dL_towers_383 : decode cL_towers 383 = .ok (.iload_n 2, 1) := by decide +kernel
theorem dL_towers_384 : decode cL_towers 384 = .ok (.if_icmp .ne 35, 3) := by decide +kernel
theorem dL_towers_387 : decode cL_towers 387 = .ok (.aload_n 0, 1) := by decide +kernel
theorem dL_towers_388 : decode cL_towers 388 = .ok (.bipush 6, 2) := by decide +kernel
theorem dL_towers_390 : decode cL_towers 390 = .ok (.invokevirtual 24, 3) := by decide +kernel
theorem dL_towers_393 : decode cL_towers 393 = .ok (.iload_n 2, 1) := by decide +kernel
theorem dL_towers_394 : decode cL_towers 394 = .ok (.iload 5, 2) := by decide +kernel
theorem dL_towers_396 : decode cL_towers 396 = .ok (.iadd, 1) := by decide +kernel
theorem dL_towers_397 : decode cL_towers 397 = .ok (.if_icmp .ne 22, 3) := by decide +kernel
theorem dL_towers_400 : decode cL_towers 400 = .ok (.aload_n 0, 1) := by decide +kernel
theorem dL_towers_401 : decode cL_towers 401 = .ok (.bipush 6, 2) := by decide +kernel
theorem dL_towers_403 : decode cL_towers 403 = .ok (.invokevirtual 24, 3) := by decide +kernel
theorem dL_towers_406 : decode cL_towers 406 = .ok (.aload_n 0, 1) := by decide +kernel
theorem dL_towers_407 : decode cL_towers 407 = .ok (.bipush 9, 2) := by decide +kernel
theorem dL_towers_409 : decode cL_towers 409 = .ok (.invokevirtual 24, 3) := by decide +kernel
theorem dL_towers_412 : decode cL_towers 412 = .ok (.if_icmp .ne 7, 3) := by decide +kernel
theorem dL_towers_415 : decode cL_towers 415 = .ok (.iconst 1, 1) := by decide +kernel
theorem dL_towers_416 : decode cL_towers 416 = .ok (.goto 4, 3) := by decide +kernel
theorem dL_towers_419 : decode cL_towers 419 = .ok (.iconst 0, 1) := by decide +kernel
theorem dL_towers_420 : decode cL_towers 420 = .ok (.istore 10, 2) := by decide +kernel
theorem dL_towers_422 : decode cL_towers 422 = .ok (.iload 10, 2) := by decide +kernel
theorem dL_towers_424 : decode cL_towers 424 = .ok (.ifCond .eq 57, 3) := by decide +kernel
theorem dL_towers_427 : decode cL_towers 427 = .ok (.aload_n 0, 1) := by decide +kernel
theorem dL_towers_428 : decode cL_towers 428 = .ok (.invokevirtual 34, 3) := by decide +kernel
theorem dL_towers_431 : decode cL_towers 431 = .ok (.iload 4, 2) := by decide +kernel
theorem dL_towers_433 : decode cL_towers 433 = .ok (.if_icmp .ne 48, 3) := by decide +kernel
theorem dL_towers_436 : decode cL_towers 436 = .ok (.iload 6, 2) := by decide +kernel
theorem dL_towers_438 : decode cL_towers 438 = .ok (.iload_n 1, 1) := by decide +kernel
theorem dL_towers_439 : decode cL_towers 439 = .ok (.ifCond .ne 7, 3) := by decide +kernel
theorem dL_towers_442 : decode cL_towers 442 = .ok (.iconst 0, 1) := by decide +kernel
theorem dL_towers_443 : decode cL_towers 443 = .ok (.goto 4, 3) := by decide +kernel
theorem dL_towers_446 : decode cL_towers 446 = .ok (.iconst 1, 1) := by decide +kernel
theorem dL_towers_447 : decode cL_towers 447 = .ok (.if_icmp .ne 34, 3) := by decide +kernel
theorem dL_towers_450 : decode cL_towers 450 = .ok (.iload 7, 2) := by decide +kernel
theorem dL_towers_452 : decode cL_towers 452 = .ok (.aload_n 0, 1) := by decide +kernel
theorem dL_towers_453 : decode cL_towers 453 = .ok (.iconst 3, 1) := by decide +kernel
theorem dL_towers_454 : decode cL_towers 454 = .ok (.invokevirtual 24, 3) := by decide +kernel
theorem dL_towers_457 : decode cL_towers 457 = .ok (.if_icmp .ne 24, 3) := by decide +kernel
theorem dL_towers_460 : decode cL_towers 460 = .ok (.iload 8, 2) := by decide +kernel
theorem dL_towers_462 : decode cL_towers 462 = .ok (.aload_n 0, 1) := by decide +kernel
theorem dL_towers_463 : decode cL_towers 463 = .ok (.iconst 5, 1) := by decide +kernel
theorem dL_towers_464 : decode cL_towers 464 = .ok (.invokevirtual 24, 3) := by decide +kernel
theorem dL_towers_467 : decode cL_towers 467 = .ok (.if_icmp .ne 14, 3) := by decide +kernel
theorem dL_towers_470 : decode cL_towers 470 = .ok (.iload 9, 2) := by decide +kernel
theorem dL_towers_472 : decode cL_towers 472 = .ok (.iload 8, 2) := by decide +kernel
theorem dL_towers_474 : decode cL_towers 474 = .ok (.if_icmp .ne 7, 3) := by decide +kernel
theorem dL_towers_477 : decode cL_towers 477 = .ok (.iconst 1, 1) := by decide +kernel
theorem dL_towers_478 : decode cL_towers 478 = .ok (.goto 4, 3) := by decide +kernel
theorem dL_towers_481 : decode cL_towers 481 = .ok (.iconst 0, 1) := by decide +kernel
theorem dL_towers_482 : decode cL_towers 482 = .ok (.ireturn, 1) := by decide +kernel
theorem dL_reasons_0 : decode cL_reasons 0 = .ok (.aload_n 0, 1) := by decide +kernel
theorem dL_reasons_1 : decode cL_reasons 1 = .ok (.iconst 0, 1) := by decide +kernel
theorem dL_reasons_2 : decode cL_reasons 2 = .ok (.invokevirtual 24, 3) := by decide +kernel
theorem dL_reasons_5 : decode cL_reasons 5 = .ok (.istore_n 1, 1) := by decide +kernel
theorem dL_reasons_6 : decode cL_reasons 6 = .ok (.iconst 0, 1) := by decide +kernel
theorem dL_reasons_7 : decode cL_reasons 7 = .ok (.istore_n 2, 1) := by decide +kernel
theorem dL_reasons_8 : decode cL_reasons 8 = .ok (.iload_n 2, 1) := by decide +kernel
theorem dL_reasons_9 : decode cL_reasons 9 = .ok (.iload_n 1, 1) := by decide +kernel
theorem dL_reasons_10 : decode cL_reasons 10 = .ok (.if_icmp .ge 128, 3) := by decide +kernel
theorem dL_reasons_13 : decode cL_reasons 13 = .ok (.aload_n 0, 1) := by decide +kernel
theorem dL_reasons_14 : decode cL_reasons 14 = .ok (.iload_n 2, 1) := by decide +kernel
theorem dL_reasons_15 : decode cL_reasons 15 = .ok (.iconst 0, 1) := by decide +kernel
theorem dL_reasons_16 : decode cL_reasons 16 = .ok (.invokevirtual 31, 3) := by decide +kernel
theorem dL_reasons_19 : decode cL_reasons 19 = .ok (.istore_n 3, 1) := by decide +kernel
theorem dL_reasons_20 : decode cL_reasons 20 = .ok (.iconst 0, 1) := by decide +kernel
theorem dL_reasons_21 : decode cL_reasons 21 = .ok (.istore 4, 2) := by decide +kernel
theorem dL_reasons_23 : decode cL_reasons 23 = .ok (.iconst 0, 1) := by decide +kernel
theorem dL_reasons_24 : decode cL_reasons 24 = .ok (.istore 5, 2) := by decide +kernel
theorem dL_reasons_26 : decode cL_reasons 26 = .ok (.iload 5, 2) := by decide +kernel
theorem dL_reasons_28 : decode cL_reasons 28 = .ok (.bipush 10, 2) := by decide +kernel
theorem dL_reasons_30 : decode cL_reasons 30 = .ok (.if_icmp .ge 88, 3) := by decide +kernel
theorem dL_reasons_33 : decode cL_reasons 33 = .ok (.iload 5, 2) := by decide +kernel
theorem dL_reasons_35 : decode cL_reasons 35 = .ok (.iload_n 3, 1) := by decide +kernel
theorem dL_reasons_36 : decode cL_reasons 36 = .ok (.if_icmp .ne 7, 3) := by decide +kernel
theorem dL_reasons_39 : decode cL_reasons 39 = .ok (.iconst 1, 1) := by decide +kernel
theorem dL_reasons_40 : decode cL_reasons 40 = .ok (.goto 38, 3) := by decide +kernel
theorem dL_reasons_43 : decode cL_reasons 43 = .ok (.aload_n 0, 1) := by decide +kernel
theorem dL_reasons_44 : decode cL_reasons 44 = .ok (.iload_n 3, 1) := by decide +kernel
theorem dL_reasons_45 : decode cL_reasons 45 = .ok (.iload 5, 2) := by decide +kernel
theorem dL_reasons_47 : decode cL_reasons 47 = .ok (.invokestatic 27, 3) := by decide +kernel
theorem dL_reasons_50 : decode cL_reasons 50 = .ok (.ifCond .ne 7, 3) := by decide +kernel
theorem dL_reasons_53 : decode cL_reasons 53 = .ok (.iconst 2, 1) := by decide +kernel
theorem dL_reasons_54 : decode cL_reasons 54 = .ok (.goto 24, 3) := by decide +kernel
theorem dL_reasons_57 : decode cL_reasons 57 = .ok (.aload_n 0, 1) := by decide +kernel
theorem dL_reasons_58 : decode cL_reasons 58 = .ok (.iload_n 3, 1) := by decide +kernel
theorem dL_reasons_59 : decode cL_reasons 59 = .ok (.iload 5, 2) := by decide +kernel
theorem dL_reasons_61 : decode cL_reasons 61 = .ok (.invokestatic 38, 3) := by decide +kernel
theorem dL_reasons_64 : decode cL_reasons 64 = .ok (.aload_n 0, 1) := by decide +kernel
theorem dL_reasons_65 : decode cL_reasons 65 = .ok (.iload_n 2, 1) := by decide +kernel
theorem dL_reasons_66 : decode cL_reasons 66 = .ok (.iconst 2, 1) := by decide +kernel
theorem dL_reasons_67 : decode cL_reasons 67 = .ok (.invokevirtual 31, 3) := by decide +kernel
theorem dL_reasons_70 : decode cL_reasons 70 = .ok (.if_icmp .le 7, 3) := by decide +kernel
theorem dL_reasons_73 : decode cL_reasons 73 = .ok (.iconst 3, 1) := by decide +kernel
theorem dL_reasons_74 : decode cL_reasons 74 = .ok (.goto 4, 3) := by decide +kernel
theorem dL_reasons_77 : decode cL_reasons 77 = .ok (.iconst 0, 1) := by decide +kernel
theorem dL_reasons_78 : decode cL_reasons 78 = .ok (.istore 6, 2) := by decide +kernel
theorem dL_reasons_80 : decode cL_reasons 80 = .ok (.iload 4, 2) := by decide +kernel
theorem dL_reasons_82 : decode cL_reasons 82 = .ok (.iload 6, 2) := by decide +kernel
theorem dL_reasons_84 : decode cL_reasons 84 = .ok (.ifCond .ne 10, 3) := by decide +kernel
theorem dL_reasons_87 : decode cL_reasons 87 = .ok (.iconst 1, 1) := by decide +kernel
theorem dL_reasons_88 : decode cL_reasons 88 = .ok (.iload 5, 2) := by decide +kernel
theorem dL_reasons_90 : decode cL_reasons 90 = .ok (.ishl, 1) := by decide +kernel
theorem dL_reasons_91 : decode cL_reasons 91 = .ok (.goto 4, 3) := by decide +kernel
theorem dL_reasons_94 : decode cL_reasons 94 = .ok (.iconst 0, 1) := by decide +kernel
theorem dL_reasons_95 : decode cL_reasons 95 = .ok (.ior, 1) := by decide +kernel
theorem dL_reasons_96 : decode cL_reasons 96 = .ok (.istore 4, 2) := by decide +kernel
theorem dL_reasons_98 : decode cL_reasons 98 = .ok (.aload_n 0, 1) := by decide +kernel
theorem dL_reasons_99 : decode cL_reasons 99 = .ok (.iload_n 2, 1) := by decide +kernel
theorem dL_reasons_100 : decode cL_reasons 100 = .ok (.iload 5, 2) := by decide +kernel
theorem dL_reasons_102 : decode cL_reasons 102 = .ok (.invokevirtual 42, 3) := by decide +kernel
theorem dL_reasons_105 : decode cL_reasons 105 = .ok (.iload 6, 2) := by decide +kernel
theorem dL_reasons_107 : decode cL_reasons 107 = .ok (.if_icmp .eq 5, 3) := by decide +kernel
theorem dL_reasons_110 : decode cL_reasons 110 = .ok (.iconst 0, 1) := by decide +kernel
theorem dL_reasons_111 : decode cL_reasons 111 = .ok (.ireturn, 1) := by decide +kernel
theorem dL_reasons_112 : decode cL_reasons 112 = .ok (.iinc 5 1, 3) := by decide +kernel
theorem dL_reasons_115 : decode cL_reasons 115 = .ok (.goto (-89), 3) := by decide +kernel
theorem dL_reasons_118 : decode cL_reasons 118 = .ok (.aload_n 0, 1) := by decide +kernel
theorem dL_reasons_119 : decode cL_reasons 119 = .ok (.iload_n 2, 1) := by decide +kernel
theorem dL_reasons_120 : decode cL_reasons 120 = .ok (.bipush 8, 2) := by decide +kernel
theorem dL_reasons_122 : decode cL_reasons 122 = .ok (.invokevirtual 31, 3) := by decide +kernel
theorem dL_reasons_125 : decode cL_reasons 125 = .ok (.iload 4, 2) := by decide +kernel
theorem dL_reasons_127 : decode cL_reasons 127 = .ok (.if_icmp .eq 5, 3) := by decide +kernel
theorem dL_reasons_130 : decode cL_reasons 130 = .ok (.iconst 0, 1) := by decide +kernel
theorem dL_reasons_131 : decode cL_reasons 131 = .ok (.ireturn, 1) := by decide +kernel
theorem dL_reasons_132 : decode cL_reasons 132 = .ok (.iinc 2 1, 3) := by decide +kernel
theorem dL_reasons_135 : decode cL_reasons 135 = .ok (.goto (-127), 3) := by decide +kernel
theorem dL_reasons_138 : decode cL_reasons 138 = .ok (.iconst 0, 1) := by decide +kernel
theorem dL_reasons_139 : decode cL_reasons 139 = .ok (.istore_n 2, 1) := by decide +kernel
theorem dL_reasons_140 : decode cL_reasons 140 = .ok (.iconst 0, 1) := by decide +kernel
theorem dL_reasons_141 : decode cL_reasons 141 = .ok (.istore_n 3, 1) := by decide +kernel
theorem dL_reasons_142 : decode cL_reasons 142 = .ok (.iload_n 3, 1) := by decide +kernel
theorem dL_reasons_143 : decode cL_reasons 143 = .ok (.iload_n 1, 1) := by decide +kernel
theorem dL_reasons_144 : decode cL_reasons 144 = .ok (.if_icmp .ge 77, 3) := by decide +kernel
theorem dL_reasons_147 : decode cL_reasons 147 = .ok (.aload_n 0, 1) := by decide +kernel
theorem dL_reasons_148 : decode cL_reasons 148 = .ok (.iconst 2, 1) := by decide +kernel
theorem dL_reasons_149 : decode cL_reasons 149 = .ok (.invokevirtual 24, 3) := by decide +kernel
theorem dL_reasons_152 : decode cL_reasons 152 = .ok (.istore 4, 2) := by decide +kernel
