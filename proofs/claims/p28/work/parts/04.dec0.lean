theorem dX0_init_0 : decode cX0_init 0 = .ok (.aload_n 0, 1) := by decide +kernel
theorem dX0_init_1 : decode cX0_init 1 = .ok (.invokespecial 3, 3) := by decide +kernel
theorem dX0_init_4 : decode cX0_init 4 = .ok (.aload_n 0, 1) := by decide +kernel
theorem dX0_init_5 : decode cX0_init 5 = .ok (.bipush 10, 2) := by decide +kernel
theorem dX0_init_7 : decode cX0_init 7 = .ok (.newarray .int, 2) := by decide +kernel
theorem dX0_init_9 : decode cX0_init 9 = .ok (.putfield 9, 3) := by decide +kernel
theorem dX0_init_12 : decode cX0_init 12 = .ok (.aload_n 0, 1) := by decide +kernel
theorem dX0_init_13 : decode cX0_init 13 = .ok (.bipush 10, 2) := by decide +kernel
theorem dX0_init_15 : decode cX0_init 15 = .ok (.newarray .int, 2) := by decide +kernel
theorem dX0_init_17 : decode cX0_init 17 = .ok (.putfield 15, 3) := by decide +kernel
theorem dX0_init_20 : decode cX0_init 20 = .ok (.aload_n 0, 1) := by decide +kernel
theorem dX0_init_21 : decode cX0_init 21 = .ok (.iconst 4, 1) := by decide +kernel
theorem dX0_init_22 : decode cX0_init 22 = .ok (.newarray .int, 2) := by decide +kernel
theorem dX0_init_24 : decode cX0_init 24 = .ok (.putfield 18, 3) := by decide +kernel
theorem dX0_init_27 : decode cX0_init 27 = .ok (.aload_n 0, 1) := by decide +kernel
theorem dX0_init_28 : decode cX0_init 28 = .ok (.iconst 4, 1) := by decide +kernel
theorem dX0_init_29 : decode cX0_init 29 = .ok (.newarray .int, 2) := by decide +kernel
theorem dX0_init_31 : decode cX0_init 31 = .ok (.putfield 21, 3) := by decide +kernel
theorem dX0_init_34 : decode cX0_init 34 = .ok (.aload_n 0, 1) := by decide +kernel
theorem dX0_init_35 : decode cX0_init 35 = .ok (.iconst 4, 1) := by decide +kernel
theorem dX0_init_36 : decode cX0_init 36 = .ok (.newarray .int, 2) := by decide +kernel
theorem dX0_init_38 : decode cX0_init 38 = .ok (.putfield 24, 3) := by decide +kernel
theorem dX0_init_41 : decode cX0_init 41 = .ok (.aload_n 0, 1) := by decide +kernel
theorem dX0_init_42 : decode cX0_init 42 = .ok (.iconst 4, 1) := by decide +kernel
theorem dX0_init_43 : decode cX0_init 43 = .ok (.newarray .int, 2) := by decide +kernel
theorem dX0_init_45 : decode cX0_init 45 = .ok (.putfield 27, 3) := by decide +kernel
theorem dX0_init_48 : decode cX0_init 48 = .ok (.aload_n 0, 1) := by decide +kernel
theorem dX0_init_49 : decode cX0_init 49 = .ok (.iconst 4, 1) := by decide +kernel
theorem dX0_init_50 : decode cX0_init 50 = .ok (.newarray .int, 2) := by decide +kernel
theorem dX0_init_52 : decode cX0_init 52 = .ok (.putfield 30, 3) := by decide +kernel
theorem dX0_init_55 : decode cX0_init 55 = .ok (.aload_n 0, 1) := by decide +kernel
theorem dX0_init_56 : decode cX0_init 56 = .ok (.iconst 4, 1) := by decide +kernel
theorem dX0_init_57 : decode cX0_init 57 = .ok (.newarray .int, 2) := by decide +kernel
theorem dX0_init_59 : decode cX0_init 59 = .ok (.putfield 33, 3) := by decide +kernel
theorem dX0_init_62 : decode cX0_init 62 = .ok (.aload_n 0, 1) := by decide +kernel
theorem dX0_init_63 : decode cX0_init 63 = .ok (.iconst 4, 1) := by decide +kernel
theorem dX0_init_64 : decode cX0_init 64 = .ok (.newarray .int, 2) := by decide +kernel
theorem dX0_init_66 : decode cX0_init 66 = .ok (.putfield 36, 3) := by decide +kernel
theorem dX0_init_69 : decode cX0_init 69 = .ok (.aload_n 0, 1) := by decide +kernel
theorem dX0_init_70 : decode cX0_init 70 = .ok (.iconst 4, 1) := by decide +kernel
theorem dX0_init_71 : decode cX0_init 71 = .ok (.newarray .int, 2) := by decide +kernel
theorem dX0_init_73 : decode cX0_init 73 = .ok (.putfield 39, 3) := by decide +kernel
theorem dX0_init_76 : decode cX0_init 76 = .ok (.aload_n 0, 1) := by decide +kernel
theorem dX0_init_77 : decode cX0_init 77 = .ok (.iconst 0, 1) := by decide +kernel
theorem dX0_init_78 : decode cX0_init 78 = .ok (.putfield 42, 3) := by decide +kernel
theorem dX0_init_81 : decode cX0_init 81 = .ok (.aload_n 0, 1) := by decide +kernel
theorem dX0_init_82 : decode cX0_init 82 = .ok (.iconst 0, 1) := by decide +kernel
theorem dX0_init_83 : decode cX0_init 83 = .ok (.putfield 46, 3) := by decide +kernel
theorem dX0_init_86 : decode cX0_init 86 = .ok (.aload_n 0, 1) := by decide +kernel
theorem dX0_init_87 : decode cX0_init 87 = .ok (.iconst 0, 1) := by decide +kernel
theorem dX0_init_88 : decode cX0_init 88 = .ok (.putfield 49, 3) := by decide +kernel
theorem dX0_init_91 : decode cX0_init 91 = .ok (.aload_n 0, 1) := by decide +kernel
theorem dX0_init_92 : decode cX0_init 92 = .ok (.iconst 0, 1) := by decide +kernel
theorem dX0_init_93 : decode cX0_init 93 = .ok (.putfield 52, 3) := by decide +kernel
theorem dX0_init_96 : decode cX0_init 96 = .ok (.aload_n 0, 1) := by decide +kernel
theorem dX0_init_97 : decode cX0_init 97 = .ok (.iconst 0, 1) := by decide +kernel
theorem dX0_init_98 : decode cX0_init 98 = .ok (.putfield 55, 3) := by decide +kernel
theorem dX0_init_101 : decode cX0_init 101 = .ok (.aload_n 0, 1) := by decide +kernel
theorem dX0_init_102 : decode cX0_init 102 = .ok (.iconst 0, 1) := by decide +kernel
theorem dX0_init_103 : decode cX0_init 103 = .ok (.putfield 58, 3) := by decide +kernel
theorem dX0_init_106 : decode cX0_init 106 = .ok (.aload_n 0, 1) := by decide +kernel
theorem dX0_init_107 : decode cX0_init 107 = .ok (.iconst 0, 1) := by decide +kernel
theorem dX0_init_108 : decode cX0_init 108 = .ok (.putfield 61, 3) := by decide +kernel
theorem dX0_init_111 : decode cX0_init 111 = .ok (.iconst 0, 1) := by decide +kernel
theorem dX0_init_112 : decode cX0_init 112 = .ok (.istore_n 1, 1) := by decide +kernel
theorem dX0_init_113 : decode cX0_init 113 = .ok (.iload_n 1, 1) := by decide +kernel
theorem dX0_init_114 : decode cX0_init 114 = .ok (.iconst 4, 1) := by decide +kernel
theorem dX0_init_115 : decode cX0_init 115 = .ok (.if_icmp .ge 20, 3) := by decide +kernel
theorem dX0_init_118 : decode cX0_init 118 = .ok (.aload_n 0, 1) := by decide +kernel
theorem dX0_init_119 : decode cX0_init 119 = .ok (.getfield 18, 3) := by decide +kernel
theorem dX0_init_122 : decode cX0_init 122 = .ok (.iload_n 1, 1) := by decide +kernel
theorem dX0_init_123 : decode cX0_init 123 = .ok (.getstatic 64, 3) := by decide +kernel
theorem dX0_init_126 : decode cX0_init 126 = .ok (.iload_n 1, 1) := by decide +kernel
theorem dX0_init_127 : decode cX0_init 127 = .ok (.iaload, 1) := by decide +kernel
theorem dX0_init_128 : decode cX0_init 128 = .ok (.iastore, 1) := by decide +kernel
theorem dX0_init_129 : decode cX0_init 129 = .ok (.iinc 1 1, 3) := by decide +kernel
theorem dX0_init_132 : decode cX0_init 132 = .ok (.goto (-19), 3) := by decide +kernel
theorem dX0_init_135 : decode cX0_init 135 = .ok (.return_, 1) := by decide +kernel
theorem dX0_become_0 : decode cX0_become 0 = .ok (.aload_n 1, 1) := by decide +kernel
theorem dX0_become_1 : decode cX0_become 1 = .ok (.getfield 9, 3) := by decide +kernel
theorem dX0_become_4 : decode cX0_become 4 = .ok (.iconst 0, 1) := by decide +kernel
theorem dX0_become_5 : decode cX0_become 5 = .ok (.aload_n 0, 1) := by decide +kernel
theorem dX0_become_6 : decode cX0_become 6 = .ok (.getfield 9, 3) := by decide +kernel
theorem dX0_become_9 : decode cX0_become 9 = .ok (.iconst 0, 1) := by decide +kernel
theorem dX0_become_10 : decode cX0_become 10 = .ok (.bipush 10, 2) := by decide +kernel
theorem dX0_become_12 : decode cX0_become 12 = .ok (.invokestatic 67, 3) := by decide +kernel
theorem dX0_become_15 : decode cX0_become 15 = .ok (.aload_n 1, 1) := by decide +kernel
theorem dX0_become_16 : decode cX0_become 16 = .ok (.getfield 15, 3) := by decide +kernel
theorem dX0_become_19 : decode cX0_become 19 = .ok (.iconst 0, 1) := by decide +kernel
theorem dX0_become_20 : decode cX0_become 20 = .ok (.aload_n 0, 1) := by decide +kernel
theorem dX0_become_21 : decode cX0_become 21 = .ok (.getfield 15, 3) := by decide +kernel
theorem dX0_become_24 : decode cX0_become 24 = .ok (.iconst 0, 1) := by decide +kernel
theorem dX0_become_25 : decode cX0_become 25 = .ok (.bipush 10, 2) := by decide +kernel
theorem dX0_become_27 : decode cX0_become 27 = .ok (.invokestatic 67, 3) := by decide +kernel
theorem dX0_become_30 : decode cX0_become 30 = .ok (.aload_n 1, 1) := by decide +kernel
theorem dX0_become_31 : decode cX0_become 31 = .ok (.getfield 18, 3) := by decide +kernel
theorem dX0_become_34 : decode cX0_become 34 = .ok (.iconst 0, 1) := by decide +kernel
theorem dX0_become_35 : decode cX0_become 35 = .ok (.aload_n 0, 1) := by decide +kernel
theorem dX0_become_36 : decode cX0_become 36 = .ok (.getfield 18, 3) := by decide +kernel
theorem dX0_become_39 : decode cX0_become 39 = .ok (.iconst 0, 1) := by decide +kernel
theorem dX0_become_40 : decode cX0_become 40 = .ok (.iconst 4, 1) := by decide +kernel
theorem dX0_become_41 : decode cX0_become 41 = .ok (.invokestatic 67, 3) := by decide +kernel
theorem dX0_become_44 : decode cX0_become 44 = .ok (.aload_n 1, 1) := by decide +kernel
theorem dX0_become_45 : decode cX0_become 45 = .ok (.getfield 21, 3) := by decide +kernel
theorem dX0_become_48 : decode cX0_become 48 = .ok (.iconst 0, 1) := by decide +kernel
theorem dX0_become_49 : decode cX0_become 49 = .ok (.aload_n 0, 1) := by decide +kernel
theorem dX0_become_50 : decode cX0_become 50 = .ok (.getfield 21, 3) := by decide +kernel
theorem dX0_become_53 : decode cX0_become 53 = .ok (.iconst 0, 1) := by decide +kernel
theorem dX0_become_54 : decode cX0_become 54 = .ok (.iconst 4, 1) := by decide +kernel
theorem dX0_become_55 : decode cX0_become 55 = .ok (.invokestatic 67, 3) := by decide +kernel
theorem dX0_become_58 : decode cX0_become 58 = .ok (.aload_n 1, 1) := by decide +kernel
theorem dX0_become_59 : decode cX0_become 59 = .ok (.getfield 24, 3) := by decide +kernel
theorem dX0_become_62 : decode cX0_become 62 = .ok (.iconst 0, 1) := by decide +kernel
theorem dX0_become_63 : decode cX0_become 63 = .ok (.aload_n 0, 1) := by decide +kernel
theorem dX0_become_64 : decode cX0_become 64 = .ok (.getfield 24, 3) := by decide +kernel
theorem dX0_become_67 : decode cX0_become 67 = .ok (.iconst 0, 1) := by decide +kernel
theorem dX0_become_68 : decode cX0_become 68 = .ok (.iconst 4, 1) := by decide +kernel
theorem dX0_become_69 : decode cX0_become 69 = .ok (.invokestatic 67, 3) := by decide +kernel
theorem dX0_become_72 : decode cX0_become 72 = .ok (.aload_n 1, 1) := by decide +kernel
theorem dX0_become_73 : decode cX0_become 73 = .ok (.getfield 27, 3) := by decide +kernel
theorem dX0_become_76 : decode cX0_become 76 = .ok (.iconst 0, 1) := by decide +kernel
theorem dX0_become_77 : decode cX0_become 77 = .ok (.aload_n 0, 1) := by decide +kernel
theorem dX0_become_78 : decode cX0_become 78 = .ok (.getfield 27, 3) := by decide +kernel
theorem dX0_become_81 : decode cX0_become 81 = .ok (.iconst 0, 1) := by decide +kernel
theorem dX0_become_82 : decode cX0_become 82 = .ok (.iconst 4, 1) := by decide +kernel
theorem dX0_become_83 : decode cX0_become 83 = .ok (.invokestatic 67, 3) := by decide +kernel
theorem dX0_become_86 : decode cX0_become 86 = .ok (.aload_n 1, 1) := by decide +kernel
theorem dX0_become_87 : decode cX0_become 87 = .ok (.getfield 30, 3) := by decide +kernel
theorem dX0_become_90 : decode cX0_become 90 = .ok (.iconst 0, 1) := by decide +kernel
theorem dX0_become_91 : decode cX0_become 91 = .ok (.aload_n 0, 1) := by decide +kernel
theorem dX0_become_92 : decode cX0_become 92 = .ok (.getfield 30, 3) := by decide +kernel
theorem dX0_become_95 : decode cX0_become 95 = .ok (.iconst 0, 1) := by decide +kernel
theorem dX0_become_96 : decode cX0_become 96 = .ok (.iconst 4, 1) := by decide +kernel
theorem dX0_become_97 : decode cX0_become 97 = .ok (.invokestatic 67, 3) := by decide +kernel
theorem dX0_become_100 : decode cX0_become 100 = .ok (.aload_n 1, 1) := by decide +kernel
theorem dX0_become_101 : decode cX0_become 101 = .ok (.getfield 33, 3) := by decide +kernel
theorem dX0_become_104 : decode cX0_become 104 = .ok (.iconst 0, 1) := by decide +kernel
theorem dX0_become_105 : decode cX0_become 105 = .ok (.aload_n 0, 1) := by decide +kernel
theorem dX0_become_106 : decode cX0_become 106 = .ok (.getfield 33, 3) := by decide +kernel
theorem dX0_become_109 : decode cX0_become 109 = .ok (.iconst 0, 1) := by decide +kernel
theorem dX0_become_110 : decode cX0_become 110 = .ok (.iconst 4, 1) := by decide +kernel
theorem dX0_become_111 : decode cX0_become 111 = .ok (.invokestatic 67, 3) := by decide +kernel
theorem dX0_become_114 : decode cX0_become 114 = .ok (.aload_n 1, 1) := by decide +kernel
theorem dX0_become_115 : decode cX0_become 115 = .ok (.getfield 36, 3) := by decide +kernel
theorem dX0_become_118 : decode cX0_become 118 = .ok (.iconst 0, 1) := by decide +kernel
theorem dX0_become_119 : decode cX0_become 119 = .ok (.aload_n 0, 1) := by decide +kernel
theorem dX0_become_120 : decode cX0_become 120 = .ok (.getfield 36, 3) := by decide +kernel
theorem dX0_become_123 : decode cX0_become 123 = .ok (.iconst 0, 1) := by decide +kernel
theorem dX0_become_124 : decode cX0_become 124 = .ok (.iconst 4, 1) := by decide +kernel
theorem dX0_become_125 : decode cX0_become 125 = .ok (.invokestatic 67, 3) := by decide +kernel
theorem dX0_become_128 : decode cX0_become 128 = .ok (.aload_n 1, 1) := by decide +kernel
theorem dX0_become_129 : decode cX0_become 129 = .ok (.getfield 39, 3) := by decide +kernel
theorem dX0_become_132 : decode cX0_become 132 = .ok (.iconst 0, 1) := by decide +kernel
theorem dX0_become_133 : decode cX0_become 133 = .ok (.aload_n 0, 1) := by decide +kernel
theorem dX0_become_134 : decode cX0_become 134 = .ok (.getfield 39, 3) := by decide +kernel
theorem dX0_become_137 : decode cX0_become 137 = .ok (.iconst 0, 1) := by decide +kernel
theorem dX0_become_138 : decode cX0_become 138 = .ok (.iconst 4, 1) := by decide +kernel
theorem dX0_become_139 : decode cX0_become 139 = .ok (.invokestatic 67, 3) := by decide +kernel
theorem dX0_become_142 : decode cX0_become 142 = .ok (.aload_n 0, 1) := by decide +kernel
theorem dX0_become_143 : decode cX0_become 143 = .ok (.aload_n 1, 1) := by decide +kernel
theorem dX0_become_144 : decode cX0_become 144 = .ok (.getfield 42, 3) := by decide +kernel
theorem dX0_become_147 : decode cX0_become 147 = .ok (.putfield 42, 3) := by decide +kernel
theorem dX0_become_150 : decode cX0_become 150 = .ok (.aload_n 0, 1) := by decide +kernel
theorem dX0_become_151 : decode cX0_become 151 = .ok (.aload_n 1, 1) := by decide +kernel
theorem dX0_become_152 : decode cX0_become 152 = .ok (.getfield 46, 3) := by decide +kernel
theorem dX0_become_155 : decode cX0_become 155 = .ok (.putfield 46, 3) := by decide +kernel
theorem dX0_become_158 : decode cX0_become 158 = .ok (.aload_n 0, 1) := by decide +kernel
theorem dX0_become_159 : decode cX0_become 159 = .ok (.aload_n 1, 1) := by decide +kernel
theorem dX0_become_160 : decode cX0_become 160 = .ok (.getfield 49, 3) := by decide +kernel
theorem dX0_become_163 : decode cX0_become 163 = .ok (.putfield 49, 3) := by decide +kernel
theorem dX0_become_166 : decode cX0_become 166 = .ok (.aload_n 0, 1) := by decide +kernel
theorem dX0_become_167 : decode cX0_become 167 = .ok (.aload_n 1, 1) := by decide +kernel
theorem dX0_become_168 : decode cX0_become 168 = .ok (.getfield 52, 3) := by decide +kernel
theorem dX0_become_171 : decode cX0_become 171 = .ok (.putfield 52, 3) := by decide +kernel
theorem dX0_become_174 : decode cX0_become 174 = .ok (.aload_n 0, 1) := by decide +kernel
theorem dX0_become_175 : decode cX0_become 175 = .ok (.aload_n 1, 1) := by decide +kernel
theorem dX0_become_176 : decode cX0_become 176 = .ok (.getfield 55, 3) := by decide +kernel
theorem dX0_become_179 : decode cX0_become 179 = .ok (.putfield 55, 3) := by decide +kernel
theorem dX0_become_182 : decode cX0_become 182 = .ok (.aload_n 0, 1) := by decide +kernel
theorem dX0_become_183 : decode cX0_become 183 = .ok (.aload_n 1, 1) := by decide +kernel
theorem dX0_become_184 : decode cX0_become 184 = .ok (.getfield 58, 3) := by decide +kernel
theorem dX0_become_187 : decode cX0_become 187 = .ok (.putfield 58, 3) := by decide +kernel
theorem dX0_become_190 : decode cX0_become 190 = .ok (.aload_n 0, 1) := by decide +kernel
theorem dX0_become_191 : decode cX0_become 191 = .ok (.aload_n 1, 1) := by decide +kernel
theorem dX0_become_192 : decode cX0_become 192 = .ok (.getfield 61, 3) := by decide +kernel
theorem dX0_become_195 : decode cX0_become 195 = .ok (.putfield 61, 3) := by decide +kernel
theorem dX0_become_198 : decode cX0_become 198 = .ok (.return_, 1) := by decide +kernel
theorem dX0_hasPlayer_0 : decode cX0_hasPlayer 0 = .ok (.iload_n 1, 1) := by decide +kernel
theorem dX0_hasPlayer_1 : decode cX0_hasPlayer 1 = .ok (.ifCond .lt 15, 3) := by decide +kernel
theorem dX0_hasPlayer_4 : decode cX0_hasPlayer 4 = .ok (.iload_n 1, 1) := by decide +kernel
theorem dX0_hasPlayer_5 : decode cX0_hasPlayer 5 = .ok (.aload_n 0, 1) := by decide +kernel
theorem dX0_hasPlayer_6 : decode cX0_hasPlayer 6 = .ok (.getfield 42, 3) := by decide +kernel
theorem dX0_hasPlayer_9 : decode cX0_hasPlayer 9 = .ok (.if_icmp .ge 7, 3) := by decide +kernel
theorem dX0_hasPlayer_12 : decode cX0_hasPlayer 12 = .ok (.iconst 1, 1) := by decide +kernel
theorem dX0_hasPlayer_13 : decode cX0_hasPlayer 13 = .ok (.goto 4, 3) := by decide +kernel
theorem dX0_hasPlayer_16 : decode cX0_hasPlayer 16 = .ok (.iconst 0, 1) := by decide +kernel
theorem dX0_hasPlayer_17 : decode cX0_hasPlayer 17 = .ok (.ireturn, 1) := by decide +kernel
theorem dX0_takesMoves_0 : decode cX0_takesMoves 0 = .ok (.aload_n 0, 1) := by decide +kernel
theorem dX0_takesMoves_1 : decode cX0_takesMoves 1 = .ok (.getfield 42, 3) := by decide +kernel
theorem dX0_takesMoves_4 : decode cX0_takesMoves 4 = .ok (.ifCond .le 17, 3) := by decide +kernel
theorem dX0_takesMoves_7 : decode cX0_takesMoves 7 = .ok (.aload_n 0, 1) := by decide +kernel
theorem dX0_takesMoves_8 : decode cX0_takesMoves 8 = .ok (.getfield 52, 3) := by decide +kernel
theorem dX0_takesMoves_11 : decode cX0_takesMoves 11 = .ok (.sipush 9999, 3) := by decide +kernel
theorem dX0_takesMoves_14 : decode cX0_takesMoves 14 = .ok (.if_icmp .ge 7, 3) := by decide +kernel
theorem dX0_takesMoves_17 : decode cX0_takesMoves 17 = .ok (.iconst 1, 1) := by decide +kernel
theorem dX0_takesMoves_18 : decode cX0_takesMoves 18 = .ok (.goto 4, 3) := by decide +kernel
theorem dX0_takesMoves_21 : decode cX0_takesMoves 21 = .ok (.iconst 0, 1) := by decide +kernel
theorem dX0_takesMoves_22 : decode cX0_takesMoves 22 = .ok (.ireturn, 1) := by decide +kernel
theorem dX0_addPlayer_0 : decode cX0_addPlayer 0 = .ok (.aload_n 0, 1) := by decide +kernel
theorem dX0_addPlayer_1 : decode cX0_addPlayer 1 = .ok (.getfield 42, 3) := by decide +kernel
theorem dX0_addPlayer_4 : decode cX0_addPlayer 4 = .ok (.istore_n 3, 1) := by decide +kernel
theorem dX0_addPlayer_5 : decode cX0_addPlayer 5 = .ok (.aload_n 0, 1) := by decide +kernel
theorem dX0_addPlayer_6 : decode cX0_addPlayer 6 = .ok (.getfield 21, 3) := by decide +kernel
theorem dX0_addPlayer_9 : decode cX0_addPlayer 9 = .ok (.iload_n 3, 1) := by decide +kernel
theorem dX0_addPlayer_10 : decode cX0_addPlayer 10 = .ok (.iload_n 1, 1) := by decide +kernel
theorem dX0_addPlayer_11 : decode cX0_addPlayer 11 = .ok (.iastore, 1) := by decide +kernel
theorem dX0_addPlayer_12 : decode cX0_addPlayer 12 = .ok (.aload_n 0, 1) := by decide +kernel
theorem dX0_addPlayer_13 : decode cX0_addPlayer 13 = .ok (.getfield 24, 3) := by decide +kernel
theorem dX0_addPlayer_16 : decode cX0_addPlayer 16 = .ok (.iload_n 3, 1) := by decide +kernel
theorem dX0_addPlayer_17 : decode cX0_addPlayer 17 = .ok (.iload_n 2, 1) := by decide +kernel
theorem dX0_addPlayer_18 : decode cX0_addPlayer 18 = .ok (.iastore, 1) := by decide +kernel
theorem dX0_addPlayer_19 : decode cX0_addPlayer 19 = .ok (.aload_n 0, 1) := by decide +kernel
theorem dX0_addPlayer_20 : decode cX0_addPlayer 20 = .ok (.dup, 1) := by decide +kernel
theorem dX0_addPlayer_21 : decode cX0_addPlayer 21 = .ok (.getfield 61, 3) := by decide +kernel
theorem dX0_addPlayer_24 : decode cX0_addPlayer 24 = .ok (.iload_n 2, 1) := by decide +kernel
theorem dX0_addPlayer_25 : decode cX0_addPlayer 25 = .ok (.iadd, 1) := by decide +kernel
theorem dX0_addPlayer_26 : decode cX0_addPlayer 26 = .ok (.putfield 61, 3) := by decide +kernel
theorem dX0_addPlayer_29 : decode cX0_addPlayer 29 = .ok (.aload_n 0, 1) := by decide +kernel
theorem dX0_addPlayer_30 : decode cX0_addPlayer 30 = .ok (.dup, 1) := by decide +kernel
theorem dX0_addPlayer_31 : decode cX0_addPlayer 31 = .ok (.getfield 42, 3) := by decide +kernel
theorem dX0_addPlayer_34 : decode cX0_addPlayer 34 = .ok (.iconst 1, 1) := by decide +kernel
theorem dX0_addPlayer_35 : decode cX0_addPlayer 35 = .ok (.iadd, 1) := by decide +kernel
theorem dX0_addPlayer_36 : decode cX0_addPlayer 36 = .ok (.putfield 42, 3) := by decide +kernel
theorem dX0_addPlayer_39 : decode cX0_addPlayer 39 = .ok (.iload_n 3, 1) := by decide +kernel
theorem dX0_addPlayer_40 : decode cX0_addPlayer 40 = .ok (.ireturn, 1) := by decide +kernel
theorem dX0_sees_0 : decode cX0_sees 0 = .ok (.aload_n 0, 1) := by decide +kernel
theorem dX0_sees_1 : decode cX0_sees 1 = .ok (.getfield 9, 3) := by decide +kernel
theorem dX0_sees_4 : decode cX0_sees 4 = .ok (.iload_n 1, 1) := by decide +kernel
theorem dX0_sees_5 : decode cX0_sees 5 = .ok (.iaload, 1) := by decide +kernel
theorem dX0_sees_6 : decode cX0_sees 6 = .ok (.aload_n 0, 1) := by decide +kernel
theorem dX0_sees_7 : decode cX0_sees 7 = .ok (.getfield 9, 3) := by decide +kernel
theorem dX0_sees_10 : decode cX0_sees 10 = .ok (.iload_n 2, 1) := by decide +kernel
theorem dX0_sees_11 : decode cX0_sees 11 = .ok (.iaload, 1) := by decide +kernel
theorem dX0_sees_12 : decode cX0_sees 12 = .ok (.invokestatic 73, 3) := by decide +kernel
theorem dX0_sees_15 : decode cX0_sees 15 = .ok (.istore_n 3, 1) := by decide +kernel
theorem dX0_sees_16 : decode cX0_sees 16 = .ok (.iload_n 1, 1) := by decide +kernel
theorem dX0_sees_17 : decode cX0_sees 17 = .ok (.iload_n 2, 1) := by decide +kernel
theorem dX0_sees_18 : decode cX0_sees 18 = .ok (.invokestatic 73, 3) := by decide +kernel
theorem dX0_sees_21 : decode cX0_sees 21 = .ok (.istore 4, 2) := by decide +kernel
theorem dX0_sees_23 : decode cX0_sees 23 = .ok (.iload_n 1, 1) := by decide +kernel
theorem dX0_sees_24 : decode cX0_sees 24 = .ok (.iload_n 2, 1) := by decide +kernel
theorem dX0_sees_25 : decode cX0_sees 25 = .ok (.invokestatic 79, 3) := by decide +kernel
theorem dX0_sees_28 : decode cX0_sees 28 = .ok (.iconst 1, 1) := by decide +kernel
theorem dX0_sees_29 : decode cX0_sees 29 = .ok (.iadd, 1) := by decide +kernel
theorem dX0_sees_30 : decode cX0_sees 30 = .ok (.istore 5, 2) := by decide +kernel
theorem dX0_sees_32 : decode cX0_sees 32 = .ok (.iload 5, 2) := by decide +kernel
theorem dX0_sees_34 : decode cX0_sees 34 = .ok (.iload 4, 2) := by decide +kernel
theorem dX0_sees_36 : decode cX0_sees 36 = .ok (.if_icmp .ge 22, 3) := by decide +kernel
theorem dX0_sees_39 : decode cX0_sees 39 = .ok (.aload_n 0, 1) := by decide +kernel
theorem dX0_sees_40 : decode cX0_sees 40 = .ok (.getfield 9, 3) := by decide +kernel
theorem dX0_sees_43 : decode cX0_sees 43 = .ok (.iload 5, 2) := by decide +kernel
theorem dX0_sees_45 : decode cX0_sees 45 = .ok (.iaload, 1) := by decide +kernel
theorem dX0_sees_46 : decode cX0_sees 46 = .ok (.iload_n 3, 1) := by decide +kernel
theorem dX0_sees_47 : decode cX0_sees 47 = .ok (.if_icmp .le 5, 3) := by decide +kernel
theorem dX0_sees_50 : decode cX0_sees 50 = .ok (.iconst 0, 1) := by decide +kernel
theorem dX0_sees_51 : decode cX0_sees 51 = .ok (.ireturn, 1) := by decide +kernel
theorem dX0_sees_52 : decode cX0_sees 52 = .ok (.iinc 5 1, 3) := by decide +kernel
theorem dX0_sees_55 : decode cX0_sees 55 = .ok (.goto (-23), 3) := by decide +kernel
theorem dX0_sees_58 : decode cX0_sees 58 = .ok (.iconst 1, 1) := by decide +kernel
theorem dX0_sees_59 : decode cX0_sees 59 = .ok (.ireturn, 1) := by decide +kernel
theorem dX0_towersSeenFrom_0 : decode cX0_towersSeenFrom 0 = .ok (.iconst 0, 1) := by decide +kernel
theorem dX0_towersSeenFrom_1 : decode cX0_towersSeenFrom 1 = .ok (.istore_n 2, 1) := by decide +kernel
theorem dX0_towersSeenFrom_2 : decode cX0_towersSeenFrom 2 = .ok (.iconst 0, 1) := by decide +kernel
theorem dX0_towersSeenFrom_3 : decode cX0_towersSeenFrom 3 = .ok (.istore_n 3, 1) := by decide +kernel
theorem dX0_towersSeenFrom_4 : decode cX0_towersSeenFrom 4 = .ok (.iload_n 3, 1) := by decide +kernel
theorem dX0_towersSeenFrom_5 : decode cX0_towersSeenFrom 5 = .ok (.bipush 10, 2) := by decide +kernel
theorem dX0_towersSeenFrom_7 : decode cX0_towersSeenFrom 7 = .ok (.if_icmp .ge 24, 3) := by decide +kernel
theorem dX0_towersSeenFrom_10 : decode cX0_towersSeenFrom 10 = .ok (.aload_n 0, 1) := by decide +kernel
theorem dX0_towersSeenFrom_11 : decode cX0_towersSeenFrom 11 = .ok (.iload_n 1, 1) := by decide +kernel
theorem dX0_towersSeenFrom_12 : decode cX0_towersSeenFrom 12 = .ok (.iload_n 3, 1) := by decide +kernel
theorem dX0_towersSeenFrom_13 : decode cX0_towersSeenFrom 13 = .ok (.invokevirtual 82, 3) := by decide +kernel
theorem dX0_towersSeenFrom_16 : decode cX0_towersSeenFrom 16 = .ok (.ifCond .eq 9, 3) := by decide +kernel
theorem dX0_towersSeenFrom_19 : decode cX0_towersSeenFrom 19 = .ok (.iload_n 2, 1) := by decide +kernel
theorem dX0_towersSeenFrom_20 : decode cX0_towersSeenFrom 20 = .ok (.iconst 1, 1) := by decide +kernel
theorem dX0_towersSeenFrom_21 : decode cX0_towersSeenFrom 21 = .ok (.iload_n 3, 1) := by decide +kernel
theorem dX0_towersSeenFrom_22 : decode cX0_towersSeenFrom 22 = .ok (.ishl, 1) := by decide +kernel
theorem dX0_towersSeenFrom_23 : decode cX0_towersSeenFrom 23 = .ok (.ior, 1) := by decide +kernel
theorem dX0_towersSeenFrom_24 : decode cX0_towersSeenFrom 24 = .ok (.istore_n 2, 1) := by decide +kernel
theorem dX0_towersSeenFrom_25 : decode cX0_towersSeenFrom 25 = .ok (.iinc 3 1, 3) := by decide +kernel
theorem dX0_towersSeenFrom_28 : decode cX0_towersSeenFrom 28 = .ok (.goto (-24), 3) := by decide +kernel
theorem dX0_towersSeenFrom_31 : decode cX0_towersSeenFrom 31 = .ok (.iload_n 2, 1) := by decide +kernel
theorem dX0_towersSeenFrom_32 : decode cX0_towersSeenFrom 32 = .ok (.ireturn, 1) := by decide +kernel
theorem dX0_towerThatSeesMost_0 : decode cX0_towerThatSeesMost 0 = .ok (.iconst 0, 1) := by decide +kernel
theorem dX0_towerThatSeesMost_1 : decode cX0_towerThatSeesMost 1 = .ok (.istore_n 1, 1) := by decide +kernel
theorem dX0_towerThatSeesMost_2 : decode cX0_towerThatSeesMost 2 = .ok (.iconst 0, 1) := by decide +kernel
theorem dX0_towerThatSeesMost_3 : decode cX0_towerThatSeesMost 3 = .ok (.istore_n 2, 1) := by decide +kernel
theorem dX0_towerThatSeesMost_4 : decode cX0_towerThatSeesMost 4 = .ok (.iconst 0, 1) := by decide +kernel
theorem dX0_towerThatSeesMost_5 : decode cX0_towerThatSeesMost 5 = .ok (.istore_n 3, 1) := by decide +kernel
theorem dX0_towerThatSeesMost_6 : decode cX0_towerThatSeesMost 6 = .ok (.iload_n 3, 1) := by decide +kernel
theorem dX0_towerThatSeesMost_7 : decode cX0_towerThatSeesMost 7 = .ok (.bipush 10, 2) := by decide +kernel
theorem dX0_towerThatSeesMost_9 : decode cX0_towerThatSeesMost 9 = .ok (.if_icmp .ge 30, 3) := by decide +kernel
theorem dX0_towerThatSeesMost_12 : decode cX0_towerThatSeesMost 12 = .ok (.aload_n 0, 1) := by decide +kernel
theorem dX0_towerThatSeesMost_13 : decode cX0_towerThatSeesMost 13 = .ok (.iload_n 3, 1) := by decide +kernel
theorem dX0_towerThatSeesMost_14 : decode cX0_towerThatSeesMost 14 = .ok (.invokevirtual 86, 3) := by decide +kernel
theorem dX0_towerThatSeesMost_17 : decode cX0_towerThatSeesMost 17 = .ok (.invokestatic 90, 3) := by decide +kernel
theorem dX0_towerThatSeesMost_20 : decode cX0_towerThatSeesMost 20 = .ok (.istore 4, 2) := by decide +kernel
theorem dX0_towerThatSeesMost_22 : decode cX0_towerThatSeesMost 22 = .ok (.iload 4, 2) := by decide +kernel
theorem dX0_towerThatSeesMost_24 : decode cX0_towerThatSeesMost 24 = .ok (.iload_n 2, 1) := by decide +kernel
theorem dX0_towerThatSeesMost_25 : decode cX0_towerThatSeesMost 25 = .ok (.if_icmp .le 8, 3) := by decide +kernel
theorem dX0_towerThatSeesMost_28 : decode cX0_towerThatSeesMost 28 = .ok (.iload 4, 2) := by decide +kernel
theorem dX0_towerThatSeesMost_30 : decode cX0_towerThatSeesMost 30 = .ok (.istore_n 2, 1) := by decide +kernel
theorem dX0_towerThatSeesMost_31 : decode cX0_towerThatSeesMost 31 = .ok (.iload_n 3, 1) := by decide +kernel
theorem dX0_towerThatSeesMost_32 : decode cX0_towerThatSeesMost 32 = .ok (.istore_n 1, 1) := by decide +kernel
theorem dX0_towerThatSeesMost_33 : decode cX0_towerThatSeesMost 33 = .ok (.iinc 3 1, 3) := by decide +kernel
theorem dX0_towerThatSeesMost_36 : decode cX0_towerThatSeesMost 36 = .ok (.goto (-30), 3) := by decide +kernel
theorem dX0_towerThatSeesMost_39 : decode cX0_towerThatSeesMost 39 = .ok (.iload_n 1, 1) := by decide +kernel
theorem dX0_towerThatSeesMost_40 : decode cX0_towerThatSeesMost 40 = .ok (.ireturn, 1) := by decide +kernel
theorem dX0_playersOn_0 : decode cX0_playersOn 0 = .ok (.iconst 0, 1) := by decide +kernel
theorem dX0_playersOn_1 : decode cX0_playersOn 1 = .ok (.istore_n 2, 1) := by decide +kernel
theorem dX0_playersOn_2 : decode cX0_playersOn 2 = .ok (.iconst 0, 1) := by decide +kernel
theorem dX0_playersOn_3 : decode cX0_playersOn 3 = .ok (.istore_n 3, 1) := by decide +kernel
theorem dX0_playersOn_4 : decode cX0_playersOn 4 = .ok (.iload_n 3, 1) := by decide +kernel
theorem dX0_playersOn_5 : decode cX0_playersOn 5 = .ok (.aload_n 0, 1) := by decide +kernel
theorem dX0_playersOn_6 : decode cX0_playersOn 6 = .ok (.getfield 42, 3) := by decide +kernel
theorem dX0_playersOn_9 : decode cX0_playersOn 9 = .ok (.if_icmp .ge 25, 3) := by decide +kernel
theorem dX0_playersOn_12 : decode cX0_playersOn 12 = .ok (.aload_n 0, 1) := by decide +kernel
theorem dX0_playersOn_13 : decode cX0_playersOn 13 = .ok (.getfield 21, 3) := by decide +kernel
theorem dX0_playersOn_16 : decode cX0_playersOn 16 = .ok (.iload_n 3, 1) := by decide +kernel
theorem dX0_playersOn_17 : decode cX0_playersOn 17 = .ok (.iaload, 1) := by decide +kernel
theorem dX0_playersOn_18 : decode cX0_playersOn 18 = .ok (.iload_n 1, 1) := by decide +kernel
theorem dX0_playersOn_19 : decode cX0_playersOn 19 = .ok (.if_icmp .ne 9, 3) := by decide +kernel
theorem dX0_playersOn_22 : decode cX0_playersOn 22 = .ok (.iload_n 2, 1) := by decide +kernel
theorem dX0_playersOn_23 : decode cX0_playersOn 23 = .ok (.iconst 1, 1) := by decide +kernel
theorem dX0_playersOn_24 : decode cX0_playersOn 24 = .ok (.iload_n 3, 1) := by decide +kernel
theorem dX0_playersOn_25 : decode cX0_playersOn 25 = .ok (.ishl, 1) := by decide +kernel
theorem dX0_playersOn_26 : decode cX0_playersOn 26 = .ok (.ior, 1) := by decide +kernel
theorem dX0_playersOn_27 : decode cX0_playersOn 27 = .ok (.istore_n 2, 1) := by decide +kernel
theorem dX0_playersOn_28 : decode cX0_playersOn 28 = .ok (.iinc 3 1, 3) := by decide +kernel
theorem dX0_playersOn_31 : decode cX0_playersOn 31 = .ok (.goto (-27), 3) := by decide +kernel
theorem dX0_playersOn_34 : decode cX0_playersOn 34 = .ok (.iload_n 2, 1) := by decide +kernel
theorem dX0_playersOn_35 : decode cX0_playersOn 35 = .ok (.ireturn, 1) := by decide +kernel
theorem dX0_priceOfStride_0 : decode cX0_priceOfStride 0 = .ok (.aload_n 0, 1) := by decide +kernel
theorem dX0_priceOfStride_1 : decode cX0_priceOfStride 1 = .ok (.getfield 18, 3) := by decide +kernel
theorem dX0_priceOfStride_4 : decode cX0_priceOfStride 4 = .ok (.iconst 1, 1) := by decide +kernel
theorem dX0_priceOfStride_5 : decode cX0_priceOfStride 5 = .ok (.iaload, 1) := by decide +kernel
theorem dX0_priceOfStride_6 : decode cX0_priceOfStride 6 = .ok (.iload_n 2, 1) := by decide +kernel
theorem dX0_priceOfStride_7 : decode cX0_priceOfStride 7 = .ok (.iload_n 1, 1) := by decide +kernel
theorem dX0_priceOfStride_8 : decode cX0_priceOfStride 8 = .ok (.isub, 1) := by decide +kernel
theorem dX0_priceOfStride_9 : decode cX0_priceOfStride 9 = .ok (.invokestatic 95, 3) := by decide +kernel
theorem dX0_priceOfStride_12 : decode cX0_priceOfStride 12 = .ok (.imul, 1) := by decide +kernel
theorem dX0_priceOfStride_13 : decode cX0_priceOfStride 13 = .ok (.iconst 0, 1) := by decide +kernel
theorem dX0_priceOfStride_14 : decode cX0_priceOfStride 14 = .ok (.aload_n 0, 1) := by decide +kernel
theorem dX0_priceOfStride_15 : decode cX0_priceOfStride 15 = .ok (.getfield 9, 3) := by decide +kernel
theorem dX0_priceOfStride_18 : decode cX0_priceOfStride 18 = .ok (.iload_n 2, 1) := by decide +kernel
theorem dX0_priceOfStride_19 : decode cX0_priceOfStride 19 = .ok (.iaload, 1) := by decide +kernel
theorem dX0_priceOfStride_20 : decode cX0_priceOfStride 20 = .ok (.aload_n 0, 1) := by decide +kernel
theorem dX0_priceOfStride_21 : decode cX0_priceOfStride 21 = .ok (.getfield 9, 3) := by decide +kernel
theorem dX0_priceOfStride_24 : decode cX0_priceOfStride 24 = .ok (.iload_n 1, 1) := by decide +kernel
theorem dX0_priceOfStride_25 : decode cX0_priceOfStride 25 = .ok (.iaload, 1) := by decide +kernel
theorem dX0_priceOfStride_26 : decode cX0_priceOfStride 26 = .ok (.isub, 1) := by decide +kernel
theorem dX0_priceOfStride_27 : decode cX0_priceOfStride 27 = .ok (.invokestatic 73, 3) := by decide +kernel
theorem dX0_priceOfStride_30 : decode cX0_priceOfStride 30 = .ok (.iadd, 1) := by decide +kernel
theorem dX0_priceOfStride_31 : decode cX0_priceOfStride 31 = .ok (.ireturn, 1) := by decide +kernel
theorem dX0_refusalOfStride_0 : decode cX0_refusalOfStride 0 = .ok (.aload_n 0, 1) := by decide +kernel
theorem dX0_refusalOfStride_1 : decode cX0_refusalOfStride 1 = .ok (.getfield 21, 3) := by decide +kernel
theorem dX0_refusalOfStride_4 : decode cX0_refusalOfStride 4 = .ok (.iload_n 1, 1) := by decide +kernel
theorem dX0_refusalOfStride_5 : decode cX0_refusalOfStride 5 = .ok (.iaload, 1) := by decide +kernel
theorem dX0_refusalOfStride_6 : decode cX0_refusalOfStride 6 = .ok (.istore_n 3, 1) := by decide +kernel
theorem dX0_refusalOfStride_7 : decode cX0_refusalOfStride 7 = .ok (.iload_n 3, 1) := by decide +kernel
theorem dX0_refusalOfStride_8 : decode cX0_refusalOfStride 8 = .ok (.iload_n 2, 1) := by decide +kernel
theorem dX0_refusalOfStride_9 : decode cX0_refusalOfStride 9 = .ok (.if_icmp .ne 5, 3) := by decide +kernel
theorem dX0_refusalOfStride_12 : decode cX0_refusalOfStride 12 = .ok (.iconst 1, 1) := by decide +kernel
theorem dX0_refusalOfStride_13 : decode cX0_refusalOfStride 13 = .ok (.ireturn, 1) := by decide +kernel
theorem dX0_refusalOfStride_14 : decode cX0_refusalOfStride 14 = .ok (.aload_n 0, 1) := by decide +kernel
theorem dX0_refusalOfStride_15 : decode cX0_refusalOfStride 15 = .ok (.iload_n 3, 1) := by decide +kernel
theorem dX0_refusalOfStride_16 : decode cX0_refusalOfStride 16 = .ok (.iload_n 2, 1) := by decide +kernel
theorem dX0_refusalOfStride_17 : decode cX0_refusalOfStride 17 = .ok (.invokevirtual 82, 3) := by decide +kernel
theorem dX0_refusalOfStride_20 : decode cX0_refusalOfStride 20 = .ok (.ifCond .ne 5, 3) := by decide +kernel
theorem dX0_refusalOfStride_23 : decode cX0_refusalOfStride 23 = .ok (.iconst 2, 1) := by decide +kernel
theorem dX0_refusalOfStride_24 : decode cX0_refusalOfStride 24 = .ok (.ireturn, 1) := by decide +kernel
theorem dX0_refusalOfStride_25 : decode cX0_refusalOfStride 25 = .ok (.aload_n 0, 1) := by decide +kernel
theorem dX0_refusalOfStride_26 : decode cX0_refusalOfStride 26 = .ok (.iload_n 3, 1) := by decide +kernel
theorem dX0_refusalOfStride_27 : decode cX0_refusalOfStride 27 = .ok (.iload_n 2, 1) := by decide +kernel
theorem dX0_refusalOfStride_28 : decode cX0_refusalOfStride 28 = .ok (.invokevirtual 98, 3) := by decide +kernel
theorem dX0_refusalOfStride_31 : decode cX0_refusalOfStride 31 = .ok (.aload_n 0, 1) := by decide +kernel
theorem dX0_refusalOfStride_32 : decode cX0_refusalOfStride 32 = .ok (.getfield 27, 3) := by decide +kernel
theorem dX0_refusalOfStride_35 : decode cX0_refusalOfStride 35 = .ok (.iload_n 1, 1) := by decide +kernel
theorem dX0_refusalOfStride_36 : decode cX0_refusalOfStride 36 = .ok (.iaload, 1) := by decide +kernel
theorem dX0_refusalOfStride_37 : decode cX0_refusalOfStride 37 = .ok (.if_icmp .le 7, 3) := by decide +kernel
theorem dX0_refusalOfStride_40 : decode cX0_refusalOfStride 40 = .ok (.iconst 3, 1) := by decide +kernel
theorem dX0_refusalOfStride_41 : decode cX0_refusalOfStride 41 = .ok (.goto 4, 3) := by decide +kernel
theorem dX0_refusalOfStride_44 : decode cX0_refusalOfStride 44 = .ok (.iconst 0, 1) := by decide +kernel
theorem dX0_refusalOfStride_45 : decode cX0_refusalOfStride 45 = .ok (.ireturn, 1) := by decide +kernel
theorem dX0_towersToStrideTo_0 : decode cX0_towersToStrideTo 0 = .ok (.iconst 0, 1) := by decide +kernel
theorem dX0_towersToStrideTo_1 : decode cX0_towersToStrideTo 1 = .ok (.istore_n 2, 1) := by decide +kernel
theorem dX0_towersToStrideTo_2 : decode cX0_towersToStrideTo 2 = .ok (.iconst 0, 1) := by decide +kernel
theorem dX0_towersToStrideTo_3 : decode cX0_towersToStrideTo 3 = .ok (.istore_n 3, 1) := by decide +kernel
theorem dX0_towersToStrideTo_4 : decode cX0_towersToStrideTo 4 = .ok (.iload_n 3, 1) := by decide +kernel
theorem dX0_towersToStrideTo_5 : decode cX0_towersToStrideTo 5 = .ok (.bipush 10, 2) := by decide +kernel
theorem dX0_towersToStrideTo_7 : decode cX0_towersToStrideTo 7 = .ok (.if_icmp .ge 24, 3) := by decide +kernel
theorem dX0_towersToStrideTo_10 : decode cX0_towersToStrideTo 10 = .ok (.aload_n 0, 1) := by decide +kernel
theorem dX0_towersToStrideTo_11 : decode cX0_towersToStrideTo 11 = .ok (.iload_n 1, 1) := by decide +kernel
theorem dX0_towersToStrideTo_12 : decode cX0_towersToStrideTo 12 = .ok (.iload_n 3, 1) := by decide +kernel
theorem dX0_towersToStrideTo_13 : decode cX0_towersToStrideTo 13 = .ok (.invokevirtual 101, 3) := by decide +kernel
theorem dX0_towersToStrideTo_16 : decode cX0_towersToStrideTo 16 = .ok (.ifCond .ne 9, 3) := by decide +kernel
theorem dX0_towersToStrideTo_19 : decode cX0_towersToStrideTo 19 = .ok (.iload_n 2, 1) := by decide +kernel
theorem dX0_towersToStrideTo_20 : decode cX0_towersToStrideTo 20 = .ok (.iconst 1, 1) := by decide +kernel
theorem dX0_towersToStrideTo_21 : decode cX0_towersToStrideTo 21 = .ok (.iload_n 3, 1) := by decide +kernel
theorem dX0_towersToStrideTo_22 : decode cX0_towersToStrideTo 22 = .ok (.ishl, 1) := by decide +kernel
theorem dX0_towersToStrideTo_23 : decode cX0_towersToStrideTo 23 = .ok (.ior, 1) := by decide +kernel
theorem dX0_towersToStrideTo_24 : decode cX0_towersToStrideTo 24 = .ok (.istore_n 2, 1) := by decide +kernel
theorem dX0_towersToStrideTo_25 : decode cX0_towersToStrideTo 25 = .ok (.iinc 3 1, 3) := by decide +kernel
theorem dX0_towersToStrideTo_28 : decode cX0_towersToStrideTo 28 = .ok (.goto (-24), 3) := by decide +kernel
theorem dX0_towersToStrideTo_31 : decode cX0_towersToStrideTo 31 = .ok (.iload_n 2, 1) := by decide +kernel
theorem dX0_towersToStrideTo_32 : decode cX0_towersToStrideTo 32 = .ok (.ireturn, 1) := by decide +kernel
theorem dX0_refusalOfTag_0 : decode cX0_refusalOfTag 0 = .ok (.iload_n 1, 1) := by decide +kernel
theorem dX0_refusalOfTag_1 : decode cX0_refusalOfTag 1 = .ok (.aload_n 0, 1) := by decide +kernel
theorem dX0_refusalOfTag_2 : decode cX0_refusalOfTag 2 = .ok (.getfield 49, 3) := by decide +kernel
theorem dX0_refusalOfTag_5 : decode cX0_refusalOfTag 5 = .ok (.if_icmp .eq 5, 3) := by decide +kernel
theorem dX0_refusalOfTag_8 : decode cX0_refusalOfTag 8 = .ok (.iconst 5, 1) := by decide +kernel
theorem dX0_refusalOfTag_9 : decode cX0_refusalOfTag 9 = .ok (.ireturn, 1) := by decide +kernel
theorem dX0_refusalOfTag_10 : decode cX0_refusalOfTag 10 = .ok (.iload_n 1, 1) := by decide +kernel
theorem dX0_refusalOfTag_11 : decode cX0_refusalOfTag 11 = .ok (.iload_n 2, 1) := by decide +kernel
theorem dX0_refusalOfTag_12 : decode cX0_refusalOfTag 12 = .ok (.if_icmp .ne 6, 3) := by decide +kernel
theorem dX0_refusalOfTag_15 : decode cX0_refusalOfTag 15 = .ok (.bipush 6, 2) := by decide +kernel
theorem dX0_refusalOfTag_17 : decode cX0_refusalOfTag 17 = .ok (.ireturn, 1) := by decide +kernel
theorem dX0_refusalOfTag_18 : decode cX0_refusalOfTag 18 = .ok (.aload_n 0, 1) := by decide +kernel
theorem dX0_refusalOfTag_19 : decode cX0_refusalOfTag 19 = .ok (.aload_n 0, 1) := by decide +kernel
theorem dX0_refusalOfTag_20 : decode cX0_refusalOfTag 20 = .ok (.getfield 21, 3) := by decide +kernel
theorem dX0_refusalOfTag_23 : decode cX0_refusalOfTag 23 = .ok (.iload_n 1, 1) := by decide +kernel
theorem dX0_refusalOfTag_24 : decode cX0_refusalOfTag 24 = .ok (.iaload, 1) := by decide +kernel
theorem dX0_refusalOfTag_25 : decode cX0_refusalOfTag 25 = .ok (.aload_n 0, 1) := by decide +kernel
theorem dX0_refusalOfTag_26 : decode cX0_refusalOfTag 26 = .ok (.getfield 21, 3) := by decide +kernel
theorem dX0_refusalOfTag_29 : decode cX0_refusalOfTag 29 = .ok (.iload_n 2, 1) := by decide +kernel
theorem dX0_refusalOfTag_30 : decode cX0_refusalOfTag 30 = .ok (.iaload, 1) := by decide +kernel
theorem dX0_refusalOfTag_31 : decode cX0_refusalOfTag 31 = .ok (.invokevirtual 82, 3) := by decide +kernel
theorem dX0_refusalOfTag_34 : decode cX0_refusalOfTag 34 = .ok (.ifCond .ne 5, 3) := by decide +kernel
theorem dX0_refusalOfTag_37 : decode cX0_refusalOfTag 37 = .ok (.iconst 2, 1) := by decide +kernel
theorem dX0_refusalOfTag_38 : decode cX0_refusalOfTag 38 = .ok (.ireturn, 1) := by decide +kernel
theorem dX0_refusalOfTag_39 : decode cX0_refusalOfTag 39 = .ok (.aload_n 0, 1) := by decide +kernel
theorem dX0_refusalOfTag_40 : decode cX0_refusalOfTag 40 = .ok (.getfield 21, 3) := by decide +kernel
theorem dX0_refusalOfTag_43 : decode cX0_refusalOfTag 43 = .ok (.iload_n 1, 1) := by decide +kernel
theorem dX0_refusalOfTag_44 : decode cX0_refusalOfTag 44 = .ok (.iaload, 1) := by decide +kernel
theorem dX0_refusalOfTag_45 : decode cX0_refusalOfTag 45 = .ok (.aload_n 0, 1) := by decide +kernel
theorem dX0_refusalOfTag_46 : decode cX0_refusalOfTag 46 = .ok (.getfield 21, 3) := by decide +kernel
theorem dX0_refusalOfTag_49 : decode cX0_refusalOfTag 49 = .ok (.iload_n 2, 1) := by decide +kernel
theorem dX0_refusalOfTag_50 : decode cX0_refusalOfTag 50 = .ok (.iaload, 1) := by decide +kernel
theorem dX0_refusalOfTag_51 : decode cX0_refusalOfTag 51 = .ok (.isub, 1) := by decide +kernel
theorem dX0_refusalOfTag_52 : decode cX0_refusalOfTag 52 = .ok (.invokestatic 95, 3) := by decide +kernel
theorem dX0_refusalOfTag_55 : decode cX0_refusalOfTag 55 = .ok (.aload_n 0, 1) := by decide +kernel
theorem dX0_refusalOfTag_56 : decode cX0_refusalOfTag 56 = .ok (.getfield 18, 3) := by decide +kernel
theorem dX0_refusalOfTag_59 : decode cX0_refusalOfTag 59 = .ok (.iconst 3, 1) := by decide +kernel
theorem dX0_refusalOfTag_60 : decode cX0_refusalOfTag 60 = .ok (.iaload, 1) := by decide +kernel
theorem dX0_refusalOfTag_61 : decode cX0_refusalOfTag 61 = .ok (.if_icmp .le 8, 3) := by decide +kernel
theorem dX0_refusalOfTag_64 : decode cX0_refusalOfTag 64 = .ok (.bipush 7, 2) := by decide +kernel
theorem dX0_refusalOfTag_66 : decode cX0_refusalOfTag 66 = .ok (.goto 4, 3) := by decide +kernel
theorem dX0_refusalOfTag_69 : decode cX0_refusalOfTag 69 = .ok (.iconst 0, 1) := by decide +kernel
theorem dX0_refusalOfTag_70 : decode cX0_refusalOfTag 70 = .ok (.ireturn, 1) := by decide +kernel
theorem dX0_playersInReachOfIt_0 : decode cX0_playersInReachOfIt 0 = .ok (.iconst 0, 1) := by decide +kernel
theorem dX0_playersInReachOfIt_1 : decode cX0_playersInReachOfIt 1 = .ok (.istore_n 1, 1) := by decide +kernel
theorem dX0_playersInReachOfIt_2 : decode cX0_playersInReachOfIt 2 = .ok (.iconst 0, 1) := by decide +kernel
theorem dX0_playersInReachOfIt_3 : decode cX0_playersInReachOfIt 3 = .ok (.istore_n 2, 1) := by decide +kernel
theorem dX0_playersInReachOfIt_4 : decode cX0_playersInReachOfIt 4 = .ok (.iload_n 2, 1) := by decide +kernel
theorem dX0_playersInReachOfIt_5 : decode cX0_playersInReachOfIt 5 = .ok (.aload_n 0, 1) := by decide +kernel
theorem dX0_playersInReachOfIt_6 : decode cX0_playersInReachOfIt 6 = .ok (.getfield 42, 3) := by decide +kernel
theorem dX0_playersInReachOfIt_9 : decode cX0_playersInReachOfIt 9 = .ok (.if_icmp .ge 27, 3) := by decide +kernel
theorem dX0_playersInReachOfIt_12 : decode cX0_playersInReachOfIt 12 = .ok (.aload_n 0, 1) := by decide +kernel
theorem dX0_playersInReachOfIt_13 : decode cX0_playersInReachOfIt 13 = .ok (.aload_n 0, 1) := by decide +kernel
theorem dX0_playersInReachOfIt_14 : decode cX0_playersInReachOfIt 14 = .ok (.getfield 49, 3) := by decide +kernel
theorem dX0_playersInReachOfIt_17 : decode cX0_playersInReachOfIt 17 = .ok (.iload_n 2, 1) := by decide +kernel
theorem dX0_playersInReachOfIt_18 : decode cX0_playersInReachOfIt 18 = .ok (.invokevirtual 104, 3) := by decide +kernel
theorem dX0_playersInReachOfIt_21 : decode cX0_playersInReachOfIt 21 = .ok (.ifCond .ne 9, 3) := by decide +kernel
theorem dX0_playersInReachOfIt_24 : decode cX0_playersInReachOfIt 24 = .ok (.iload_n 1, 1) := by decide +kernel
theorem dX0_playersInReachOfIt_25 : decode cX0_playersInReachOfIt 25 = .ok (.iconst 1, 1) := by decide +kernel
theorem dX0_playersInReachOfIt_26 : decode cX0_playersInReachOfIt 26 = .ok (.iload_n 2, 1) := by decide +kernel
theorem dX0_playersInReachOfIt_27 : decode cX0_playersInReachOfIt 27 = .ok (.ishl, 1) := by decide +kernel
theorem dX0_playersInReachOfIt_28 : decode cX0_playersInReachOfIt 28 = .ok (.ior, 1) := by decide +kernel
theorem dX0_playersInReachOfIt_29 : decode cX0_playersInReachOfIt 29 = .ok (.istore_n 1, 1) := by decide +kernel
theorem dX0_playersInReachOfIt_30 : decode cX0_playersInReachOfIt 30 = .ok (.iinc 2 1, 3) := by decide +kernel
theorem dX0_playersInReachOfIt_33 : decode cX0_playersInReachOfIt 33 = .ok (.goto (-29), 3) := by decide +kernel
theorem dX0_playersInReachOfIt_36 : decode cX0_playersInReachOfIt 36 = .ok (.iload_n 1, 1) := by decide +kernel
theorem dX0_playersInReachOfIt_37 : decode cX0_playersInReachOfIt 37 = .ok (.ireturn, 1) := by decide +kernel
theorem dX0_moveByStride_0 : decode cX0_moveByStride 0 = .ok (.aload_n 0, 1) := by decide +kernel
theorem dX0_moveByStride_1 : decode cX0_moveByStride 1 = .ok (.aload_n 0, 1) := by decide +kernel
theorem dX0_moveByStride_2 : decode cX0_moveByStride 2 = .ok (.getfield 46, 3) := by decide +kernel
theorem dX0_moveByStride_5 : decode cX0_moveByStride 5 = .ok (.iload_n 1, 1) := by decide +kernel
theorem dX0_moveByStride_6 : decode cX0_moveByStride 6 = .ok (.invokevirtual 101, 3) := by decide +kernel
theorem dX0_moveByStride_9 : decode cX0_moveByStride 9 = .ok (.istore_n 2, 1) := by decide +kernel
theorem dX0_moveByStride_10 : decode cX0_moveByStride 10 = .ok (.iload_n 2, 1) := by decide +kernel
theorem dX0_moveByStride_11 : decode cX0_moveByStride 11 = .ok (.ifCond .eq 9, 3) := by decide +kernel
theorem dX0_moveByStride_14 : decode cX0_moveByStride 14 = .ok (.aload_n 0, 1) := by decide +kernel
theorem dX0_moveByStride_15 : decode cX0_moveByStride 15 = .ok (.iload_n 2, 1) := by decide +kernel
theorem dX0_moveByStride_16 : decode cX0_moveByStride 16 = .ok (.invokevirtual 107, 3) := by decide +kernel
theorem dX0_moveByStride_19 : decode cX0_moveByStride 19 = .ok (.ireturn, 1) := by decide +kernel
theorem dX0_moveByStride_20 : decode cX0_moveByStride 20 = .ok (.aload_n 0, 1) := by decide +kernel
theorem dX0_moveByStride_21 : decode cX0_moveByStride 21 = .ok (.aload_n 0, 1) := by decide +kernel
theorem dX0_moveByStride_22 : decode cX0_moveByStride 22 = .ok (.aload_n 0, 1) := by decide +kernel
theorem dX0_moveByStride_23 : decode cX0_moveByStride 23 = .ok (.getfield 21, 3) := by decide +kernel
theorem dX0_moveByStride_26 : decode cX0_moveByStride 26 = .ok (.aload_n 0, 1) := by decide +kernel
theorem dX0_moveByStride_27 : decode cX0_moveByStride 27 = .ok (.getfield 46, 3) := by decide +kernel
theorem dX0_moveByStride_30 : decode cX0_moveByStride 30 = .ok (.iaload, 1) := by decide +kernel
theorem dX0_moveByStride_31 : decode cX0_moveByStride 31 = .ok (.iload_n 1, 1) := by decide +kernel
theorem dX0_moveByStride_32 : decode cX0_moveByStride 32 = .ok (.invokevirtual 98, 3) := by decide +kernel
theorem dX0_moveByStride_35 : decode cX0_moveByStride 35 = .ok (.invokevirtual 110, 3) := by decide +kernel
theorem dX0_moveByStride_38 : decode cX0_moveByStride 38 = .ok (.aload_n 0, 1) := by decide +kernel
theorem dX0_moveByStride_39 : decode cX0_moveByStride 39 = .ok (.getfield 21, 3) := by decide +kernel
theorem dX0_moveByStride_42 : decode cX0_moveByStride 42 = .ok (.aload_n 0, 1) := by decide +kernel
theorem dX0_moveByStride_43 : decode cX0_moveByStride 43 = .ok (.getfield 46, 3) := by decide +kernel
theorem dX0_moveByStride_46 : decode cX0_moveByStride 46 = .ok (.iload_n 1, 1) := by decide +kernel
theorem dX0_moveByStride_47 : decode cX0_moveByStride 47 = .ok (.iastore, 1) := by decide +kernel
theorem dX0_moveByStride_48 : decode cX0_moveByStride 48 = .ok (.aload_n 0, 1) := by decide +kernel
theorem dX0_moveByStride_49 : decode cX0_moveByStride 49 = .ok (.getfield 24, 3) := by decide +kernel
theorem dX0_moveByStride_52 : decode cX0_moveByStride 52 = .ok (.aload_n 0, 1) := by decide +kernel
theorem dX0_moveByStride_53 : decode cX0_moveByStride 53 = .ok (.getfield 46, 3) := by decide +kernel
theorem dX0_moveByStride_56 : decode cX0_moveByStride 56 = .ok (.dup2, 1) := by decide +kernel
theorem dX0_moveByStride_57 : decode cX0_moveByStride 57 = .ok (.iaload, 1) := by decide +kernel
theorem dX0_moveByStride_58 : decode cX0_moveByStride 58 = .ok (.aload_n 0, 1) := by decide +kernel
theorem dX0_moveByStride_59 : decode cX0_moveByStride 59 = .ok (.getfield 15, 3) := by decide +kernel
theorem dX0_moveByStride_62 : decode cX0_moveByStride 62 = .ok (.iload_n 1, 1) := by decide +kernel
theorem dX0_moveByStride_63 : decode cX0_moveByStride 63 = .ok (.iaload, 1) := by decide +kernel
theorem dX0_moveByStride_64 : decode cX0_moveByStride 64 = .ok (.iadd, 1) := by decide +kernel
theorem dX0_moveByStride_65 : decode cX0_moveByStride 65 = .ok (.iastore, 1) := by decide +kernel
theorem dX0_moveByStride_66 : decode cX0_moveByStride 66 = .ok (.aload_n 0, 1) := by decide +kernel
theorem dX0_moveByStride_67 : decode cX0_moveByStride 67 = .ok (.getfield 15, 3) := by decide +kernel
theorem dX0_moveByStride_70 : decode cX0_moveByStride 70 = .ok (.iload_n 1, 1) := by decide +kernel
theorem dX0_moveByStride_71 : decode cX0_moveByStride 71 = .ok (.iconst 0, 1) := by decide +kernel
theorem dX0_moveByStride_72 : decode cX0_moveByStride 72 = .ok (.iastore, 1) := by decide +kernel
theorem dX0_moveByStride_73 : decode cX0_moveByStride 73 = .ok (.aload_n 0, 1) := by decide +kernel
theorem dX0_moveByStride_74 : decode cX0_moveByStride 74 = .ok (.invokevirtual 114, 3) := by decide +kernel
theorem dX0_moveByStride_77 : decode cX0_moveByStride 77 = .ok (.pop, 1) := by decide +kernel
theorem dX0_moveByStride_78 : decode cX0_moveByStride 78 = .ok (.iconst 0, 1) := by decide +kernel
theorem dX0_moveByStride_79 : decode cX0_moveByStride 79 = .ok (.ireturn, 1) := by decide +kernel
theorem dX0_moveByTurn_0 : decode cX0_moveByTurn 0 = .ok (.aload_n 0, 1) := by decide +kernel
theorem dX0_moveByTurn_1 : decode cX0_moveByTurn 1 = .ok (.getfield 18, 3) := by decide +kernel
theorem dX0_moveByTurn_4 : decode cX0_moveByTurn 4 = .ok (.iconst 2, 1) := by decide +kernel
theorem dX0_moveByTurn_5 : decode cX0_moveByTurn 5 = .ok (.iaload, 1) := by decide +kernel
theorem dX0_moveByTurn_6 : decode cX0_moveByTurn 6 = .ok (.aload_n 0, 1) := by decide +kernel
theorem dX0_moveByTurn_7 : decode cX0_moveByTurn 7 = .ok (.getfield 27, 3) := by decide +kernel
theorem dX0_moveByTurn_10 : decode cX0_moveByTurn 10 = .ok (.aload_n 0, 1) := by decide +kernel
theorem dX0_moveByTurn_11 : decode cX0_moveByTurn 11 = .ok (.getfield 46, 3) := by decide +kernel
theorem dX0_moveByTurn_14 : decode cX0_moveByTurn 14 = .ok (.iaload, 1) := by decide +kernel
theorem dX0_moveByTurn_15 : decode cX0_moveByTurn 15 = .ok (.if_icmp .le 9, 3) := by decide +kernel
theorem dX0_moveByTurn_18 : decode cX0_moveByTurn 18 = .ok (.aload_n 0, 1) := by decide +kernel
theorem dX0_moveByTurn_19 : decode cX0_moveByTurn 19 = .ok (.iconst 4, 1) := by decide +kernel
theorem dX0_moveByTurn_20 : decode cX0_moveByTurn 20 = .ok (.invokevirtual 107, 3) := by decide +kernel
theorem dX0_moveByTurn_23 : decode cX0_moveByTurn 23 = .ok (.ireturn, 1) := by decide +kernel
theorem dX0_moveByTurn_24 : decode cX0_moveByTurn 24 = .ok (.aload_n 0, 1) := by decide +kernel
theorem dX0_moveByTurn_25 : decode cX0_moveByTurn 25 = .ok (.aload_n 0, 1) := by decide +kernel
theorem dX0_moveByTurn_26 : decode cX0_moveByTurn 26 = .ok (.getfield 18, 3) := by decide +kernel
theorem dX0_moveByTurn_29 : decode cX0_moveByTurn 29 = .ok (.iconst 2, 1) := by decide +kernel
theorem dX0_moveByTurn_30 : decode cX0_moveByTurn 30 = .ok (.iaload, 1) := by decide +kernel
theorem dX0_moveByTurn_31 : decode cX0_moveByTurn 31 = .ok (.invokevirtual 110, 3) := by decide +kernel
theorem dX0_moveByTurn_34 : decode cX0_moveByTurn 34 = .ok (.aload_n 0, 1) := by decide +kernel
theorem dX0_moveByTurn_35 : decode cX0_moveByTurn 35 = .ok (.getfield 24, 3) := by decide +kernel
theorem dX0_moveByTurn_38 : decode cX0_moveByTurn 38 = .ok (.aload_n 0, 1) := by decide +kernel
theorem dX0_moveByTurn_39 : decode cX0_moveByTurn 39 = .ok (.getfield 46, 3) := by decide +kernel
theorem dX0_moveByTurn_42 : decode cX0_moveByTurn 42 = .ok (.iaload, 1) := by decide +kernel
theorem dX0_moveByTurn_43 : decode cX0_moveByTurn 43 = .ok (.istore_n 1, 1) := by decide +kernel
theorem dX0_moveByTurn_44 : decode cX0_moveByTurn 44 = .ok (.aload_n 0, 1) := by decide +kernel
theorem dX0_moveByTurn_45 : decode cX0_moveByTurn 45 = .ok (.getfield 24, 3) := by decide +kernel
theorem dX0_moveByTurn_48 : decode cX0_moveByTurn 48 = .ok (.aload_n 0, 1) := by decide +kernel
theorem dX0_moveByTurn_49 : decode cX0_moveByTurn 49 = .ok (.getfield 46, 3) := by decide +kernel
theorem dX0_moveByTurn_52 : decode cX0_moveByTurn 52 = .ok (.aload_n 0, 1) := by decide +kernel
theorem dX0_moveByTurn_53 : decode cX0_moveByTurn 53 = .ok (.getfield 27, 3) := by decide +kernel
theorem dX0_moveByTurn_56 : decode cX0_moveByTurn 56 = .ok (.aload_n 0, 1) := by decide +kernel
theorem dX0_moveByTurn_57 : decode cX0_moveByTurn 57 = .ok (.getfield 46, 3) := by decide +kernel
theorem dX0_moveByTurn_60 : decode cX0_moveByTurn 60 = .ok (.iaload, 1) := by decide +kernel
theorem dX0_moveByTurn_61 : decode cX0_moveByTurn 61 = .ok (.iastore, 1) := by decide +kernel
theorem dX0_moveByTurn_62 : decode cX0_moveByTurn 62 = .ok (.aload_n 0, 1) := by decide +kernel
theorem dX0_moveByTurn_63 : decode cX0_moveByTurn 63 = .ok (.getfield 27, 3) := by decide +kernel
theorem dX0_moveByTurn_66 : decode cX0_moveByTurn 66 = .ok (.aload_n 0, 1) := by decide +kernel
theorem dX0_moveByTurn_67 : decode cX0_moveByTurn 67 = .ok (.getfield 46, 3) := by decide +kernel
theorem dX0_moveByTurn_70 : decode cX0_moveByTurn 70 = .ok (.iload_n 1, 1) := by decide +kernel
theorem dX0_moveByTurn_71 : decode cX0_moveByTurn 71 = .ok (.iastore, 1) := by decide +kernel
theorem dX0_moveByTurn_72 : decode cX0_moveByTurn 72 = .ok (.aload_n 0, 1) := by decide +kernel
theorem dX0_moveByTurn_73 : decode cX0_moveByTurn 73 = .ok (.invokevirtual 114, 3) := by decide +kernel
theorem dX0_moveByTurn_76 : decode cX0_moveByTurn 76 = .ok (.pop, 1) := by decide +kernel
theorem dX0_moveByTurn_77 : decode cX0_moveByTurn 77 = .ok (.iconst 0, 1) := by decide +kernel
theorem dX0_moveByTurn_78 : decode cX0_moveByTurn 78 = .ok (.ireturn, 1) := by decide +kernel
theorem dX0_moveByTag_0 : decode cX0_moveByTag 0 = .ok (.aload_n 0, 1) := by decide +kernel
theorem dX0_moveByTag_1 : decode cX0_moveByTag 1 = .ok (.aload_n 0, 1) := by decide +kernel
theorem dX0_moveByTag_2 : decode cX0_moveByTag 2 = .ok (.getfield 46, 3) := by decide +kernel
theorem dX0_moveByTag_5 : decode cX0_moveByTag 5 = .ok (.iload_n 1, 1) := by decide +kernel
theorem dX0_moveByTag_6 : decode cX0_moveByTag 6 = .ok (.invokevirtual 104, 3) := by decide +kernel
theorem dX0_moveByTag_9 : decode cX0_moveByTag 9 = .ok (.istore_n 2, 1) := by decide +kernel
theorem dX0_moveByTag_10 : decode cX0_moveByTag 10 = .ok (.iload_n 2, 1) := by decide +kernel
theorem dX0_moveByTag_11 : decode cX0_moveByTag 11 = .ok (.ifCond .eq 9, 3) := by decide +kernel
theorem dX0_moveByTag_14 : decode cX0_moveByTag 14 = .ok (.aload_n 0, 1) := by decide +kernel
theorem dX0_moveByTag_15 : decode cX0_moveByTag 15 = .ok (.iload_n 2, 1) := by decide +kernel
theorem dX0_moveByTag_16 : decode cX0_moveByTag 16 = .ok (.invokevirtual 107, 3) := by decide +kernel
theorem dX0_moveByTag_19 : decode cX0_moveByTag 19 = .ok (.ireturn, 1) := by decide +kernel
theorem dX0_moveByTag_20 : decode cX0_moveByTag 20 = .ok (.aload_n 0, 1) := by decide +kernel
theorem dX0_moveByTag_21 : decode cX0_moveByTag 21 = .ok (.getfield 27, 3) := by decide +kernel
theorem dX0_moveByTag_24 : decode cX0_moveByTag 24 = .ok (.iload_n 1, 1) := by decide +kernel
theorem dX0_moveByTag_25 : decode cX0_moveByTag 25 = .ok (.iaload, 1) := by decide +kernel
theorem dX0_moveByTag_26 : decode cX0_moveByTag 26 = .ok (.iconst 2, 1) := by decide +kernel
theorem dX0_moveByTag_27 : decode cX0_moveByTag 27 = .ok (.idiv, 1) := by decide +kernel
theorem dX0_moveByTag_28 : decode cX0_moveByTag 28 = .ok (.istore_n 3, 1) := by decide +kernel
theorem dX0_moveByTag_29 : decode cX0_moveByTag 29 = .ok (.aload_n 0, 1) := by decide +kernel
theorem dX0_moveByTag_30 : decode cX0_moveByTag 30 = .ok (.getfield 27, 3) := by decide +kernel
theorem dX0_moveByTag_33 : decode cX0_moveByTag 33 = .ok (.iload_n 1, 1) := by decide +kernel
theorem dX0_moveByTag_34 : decode cX0_moveByTag 34 = .ok (.dup2, 1) := by decide +kernel
theorem dX0_moveByTag_35 : decode cX0_moveByTag 35 = .ok (.iaload, 1) := by decide +kernel
theorem dX0_moveByTag_36 : decode cX0_moveByTag 36 = .ok (.iload_n 3, 1) := by decide +kernel
theorem dX0_moveByTag_37 : decode cX0_moveByTag 37 = .ok (.isub, 1) := by decide +kernel
theorem dX0_moveByTag_38 : decode cX0_moveByTag 38 = .ok (.iastore, 1) := by decide +kernel
theorem dX0_moveByTag_39 : decode cX0_moveByTag 39 = .ok (.aload_n 0, 1) := by decide +kernel
theorem dX0_moveByTag_40 : decode cX0_moveByTag 40 = .ok (.getfield 24, 3) := by decide +kernel
theorem dX0_moveByTag_43 : decode cX0_moveByTag 43 = .ok (.aload_n 0, 1) := by decide +kernel
theorem dX0_moveByTag_44 : decode cX0_moveByTag 44 = .ok (.getfield 46, 3) := by decide +kernel
theorem dX0_moveByTag_47 : decode cX0_moveByTag 47 = .ok (.dup2, 1) := by decide +kernel
theorem dX0_moveByTag_48 : decode cX0_moveByTag 48 = .ok (.iaload, 1) := by decide +kernel
theorem dX0_moveByTag_49 : decode cX0_moveByTag 49 = .ok (.iload_n 3, 1) := by decide +kernel
theorem dX0_moveByTag_50 : decode cX0_moveByTag 50 = .ok (.iadd, 1) := by decide +kernel
theorem dX0_moveByTag_51 : decode cX0_moveByTag 51 = .ok (.iastore, 1) := by decide +kernel
theorem dX0_moveByTag_52 : decode cX0_moveByTag 52 = .ok (.aload_n 0, 1) := by decide +kernel
theorem dX0_moveByTag_53 : decode cX0_moveByTag 53 = .ok (.getfield 33, 3) := by decide +kernel
theorem dX0_moveByTag_56 : decode cX0_moveByTag 56 = .ok (.aload_n 0, 1) := by decide +kernel
theorem dX0_moveByTag_57 : decode cX0_moveByTag 57 = .ok (.getfield 46, 3) := by decide +kernel
theorem dX0_moveByTag_60 : decode cX0_moveByTag 60 = .ok (.dup2, 1) := by decide +kernel
theorem dX0_moveByTag_61 : decode cX0_moveByTag 61 = .ok (.iaload, 1) := by decide +kernel
theorem dX0_moveByTag_62 : decode cX0_moveByTag 62 = .ok (.iconst 1, 1) := by decide +kernel
theorem dX0_moveByTag_63 : decode cX0_moveByTag 63 = .ok (.iadd, 1) := by decide +kernel
theorem dX0_moveByTag_64 : decode cX0_moveByTag 64 = .ok (.iastore, 1) := by decide +kernel
theorem dX0_moveByTag_65 : decode cX0_moveByTag 65 = .ok (.aload_n 0, 1) := by decide +kernel
theorem dX0_moveByTag_66 : decode cX0_moveByTag 66 = .ok (.getfield 36, 3) := by decide +kernel
theorem dX0_moveByTag_69 : decode cX0_moveByTag 69 = .ok (.iload_n 1, 1) := by decide +kernel
theorem dX0_moveByTag_70 : decode cX0_moveByTag 70 = .ok (.dup2, 1) := by decide +kernel
theorem dX0_moveByTag_71 : decode cX0_moveByTag 71 = .ok (.iaload, 1) := by decide +kernel
theorem dX0_moveByTag_72 : decode cX0_moveByTag 72 = .ok (.iconst 1, 1) := by decide +kernel
theorem dX0_moveByTag_73 : decode cX0_moveByTag 73 = .ok (.iadd, 1) := by decide +kernel
theorem dX0_moveByTag_74 : decode cX0_moveByTag 74 = .ok (.iastore, 1) := by decide +kernel
theorem dX0_moveByTag_75 : decode cX0_moveByTag 75 = .ok (.aload_n 0, 1) := by decide +kernel
theorem dX0_moveByTag_76 : decode cX0_moveByTag 76 = .ok (.dup, 1) := by decide +kernel
theorem dX0_moveByTag_77 : decode cX0_moveByTag 77 = .ok (.getfield 58, 3) := by decide +kernel
theorem dX0_moveByTag_80 : decode cX0_moveByTag 80 = .ok (.iconst 1, 1) := by decide +kernel
theorem dX0_moveByTag_81 : decode cX0_moveByTag 81 = .ok (.iadd, 1) := by decide +kernel
theorem dX0_moveByTag_82 : decode cX0_moveByTag 82 = .ok (.putfield 58, 3) := by decide +kernel
theorem dX0_moveByTag_85 : decode cX0_moveByTag 85 = .ok (.aload_n 0, 1) := by decide +kernel
theorem dX0_moveByTag_86 : decode cX0_moveByTag 86 = .ok (.iload_n 1, 1) := by decide +kernel
theorem dX0_moveByTag_87 : decode cX0_moveByTag 87 = .ok (.putfield 49, 3) := by decide +kernel
theorem dX0_moveByTag_90 : decode cX0_moveByTag 90 = .ok (.aload_n 0, 1) := by decide +kernel
theorem dX0_moveByTag_91 : decode cX0_moveByTag 91 = .ok (.invokevirtual 114, 3) := by decide +kernel
theorem dX0_moveByTag_94 : decode cX0_moveByTag 94 = .ok (.pop, 1) := by decide +kernel
theorem dX0_moveByTag_95 : decode cX0_moveByTag 95 = .ok (.iconst 0, 1) := by decide +kernel
theorem dX0_moveByTag_96 : decode cX0_moveByTag 96 = .ok (.ireturn, 1) := by decide +kernel
theorem dX0_refuse_0 : decode cX0_refuse 0 = .ok (.aload_n 0, 1) := by decide +kernel
theorem dX0_refuse_1 : decode cX0_refuse 1 = .ok (.dup, 1) := by decide +kernel
theorem dX0_refuse_2 : decode cX0_refuse 2 = .ok (.getfield 55, 3) := by decide +kernel
theorem dX0_refuse_5 : decode cX0_refuse 5 = .ok (.iconst 1, 1) := by decide +kernel
