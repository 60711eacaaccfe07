theorem dX0_init_0 : decode cX0_init 0 = .ok (.aload_n 0, 1) := by decide +kernel
theorem dX0_init_1 : decode cX0_init 1 = .ok (.invokespecial 3, 3) := by decide +kernel
theorem dX0_init_4 : decode cX0_init 4 = .ok (.aload_n 0, 1) := by decide +kernel
theorem dX0_init_5 : decode cX0_init 5 = .ok (.bipush 10, 2) := by decide +kernel
theorem dX0_init_7 : decode cX0_init 7 = .ok (.newarray .int, 2) := by decide +kernel
theorem dX0_init_9 : decode cX0_init 9 = .ok (.putfield 9, 3) := by decide +kernel
theorem dX0_init_12 : decode cX0_init 12 = .ok (.aload_n 0, 1) := by decide +kernel
theorem dX0_init_13 : decode cX0_init 13 = .ok (.bipush 10, 2) := by decide +kernel
theorem dX0_init_15 : decode cX0_init 15 = .ok (.newarray .int, 2) := by decide +kernel
theorem dX0_init_17 : decode cX0_init 17 = .ok (.putfield 15, 3) := by decide +kernel
theorem dX0_init_20 : decode cX0_init 20 = .ok (.aload_n 0, 1) := by decide +kernel
theorem dX0_init_21 : decode cX0_init 21 = .ok (.iconst 4, 1) := by decide +kernel
theorem dX0_init_22 : decode cX0_init 22 = .ok (.newarray .int, 2) := by decide +kernel
theorem dX0_init_24 : decode cX0_init 24 = .ok (.putfield 18, 3) := by decide +kernel
theorem dX0_init_27 : decode cX0_init 27 = .ok (.aload_n 0, 1) := by decide +kernel
theorem dX0_init_28 : decode cX0_init 28 = .ok (.iconst 4, 1) := by decide +kernel
theorem dX0_init_29 : decode cX0_init 29 = .ok (.newarray .int, 2) := by decide +kernel
theorem dX0_init_31 : decode cX0_init 31 = .ok (.putfield 21, 3) := by decide +kernel
theorem dX0_init_34 : decode cX0_init 34 = .ok (.aload_n 0, 1) := by decide +kernel
theorem dX0_init_35 : decode cX0_init 35 = .ok (.iconst 4, 1) := by decide +kernel
theorem dX0_init_36 : decode cX0_init 36 = .ok (.newarray .int, 2) := by decide +kernel
theorem dX0_init_38 : decode cX0_init 38 = .ok (.putfield 24, 3) := by decide +kernel
theorem dX0_init_41 : decode cX0_init 41 = .ok (.aload_n 0, 1) := by decide +kernel
theorem dX0_init_42 : decode cX0_init 42 = .ok (.iconst 4, 1) := by decide +kernel
theorem dX0_init_43 : decode cX0_init 43 = .ok (.newarray .int, 2) := by decide +kernel
theorem dX0_init_45 : decode cX0_init 45 = .ok (.putfield 27, 3) := by decide +kernel
theorem dX0_init_48 : decode cX0_init 48 = .ok (.aload_n 0, 1) := by decide +kernel
theorem dX0_init_49 : decode cX0_init 49 = .ok (.iconst 4, 1) := by decide +kernel
theorem dX0_init_50 : decode cX0_init 50 = .ok (.newarray .int, 2) := by decide +kernel
theorem dX0_init_52 : decode cX0_init 52 = .ok (.putfield 30, 3) := by decide +kernel
theorem dX0_init_55 : decode cX0_init 55 = .ok (.aload_n 0, 1) := by decide +kernel
theorem dX0_init_56 : decode cX0_init 56 = .ok (.iconst 4, 1) := by decide +kernel
theorem dX0_init_57 : decode cX0_init 57 = .ok (.newarray .int, 2) := by decide +kernel
theorem dX0_init_59 : decode cX0_init 59 = .ok (.putfield 33, 3) := by decide +kernel
theorem dX0_init_62 : decode cX0_init 62 = .ok (.aload_n 0, 1) := by decide +kernel
theorem dX0_init_63 : decode cX0_init 63 = .ok (.iconst 4, 1) := by decide +kernel
theorem dX0_init_64 : decode cX0_init 64 = .ok (.newarray .int, 2) := by decide +kernel
theorem dX0_init_66 : decode cX0_init 66 = .ok (.putfield 36, 3) := by decide +kernel
theorem dX0_init_69 : decode cX0_init 69 = .ok (.aload_n 0, 1) := by decide +kernel
theorem dX0_init_70 : decode cX0_init 70 = .ok (.iconst 4, 1) := by decide +kernel
theorem dX0_init_71 : decode cX0_init 71 = .ok (.newarray .int, 2) := by decide +kernel
theorem dX0_init_73 : decode cX0_init 73 = .ok (.putfield 39, 3) := by decide +kernel
theorem dX0_init_76 : decode cX0_init 76 = .ok (.aload_n 0, 1) := by decide +kernel
theorem dX0_init_77 : decode cX0_init 77 = .ok (.iconst 0, 1) := by decide +kernel
theorem dX0_init_78 : decode cX0_init 78 = .ok (.putfield 42, 3) := by decide +kernel
theorem dX0_init_81 : decode cX0_init 81 = .ok (.aload_n 0, 1) := by decide +kernel
theorem dX0_init_82 : decode cX0_init 82 = .ok (.iconst 0, 1) := by decide +kernel
theorem dX0_init_83 : decode cX0_init 83 = .ok (.putfield 46, 3) := by decide +kernel
theorem dX0_init_86 : decode cX0_init 86 = .ok (.aload_n 0, 1) := by decide +kernel
theorem dX0_init_87 : decode cX0_init 87 = .ok (.iconst 0, 1) := by decide +kernel
theorem dX0_init_88 : decode cX0_init 88 = .ok (.putfield 49, 3) := by decide +kernel
theorem dX0_init_91 : decode cX0_init 91 = .ok (.aload_n 0, 1) := by decide +kernel
theorem dX0_init_92 : decode cX0_init 92 = .ok (.iconst 0, 1) := by decide +kernel
theorem dX0_init_93 : decode cX0_init 93 = .ok (.putfield 52, 3) := by decide +kernel
theorem dX0_init_96 : decode cX0_init 96 = .ok (.aload_n 0, 1) := by decide +kernel
theorem dX0_init_97 : decode cX0_init 97 = .ok (.iconst 0, 1) := by decide +kernel
theorem dX0_init_98 : decode cX0_init 98 = .ok (.putfield 55, 3) := by decide +kernel
theorem dX0_init_101 : decode cX0_init 101 = .ok (.aload_n 0, 1) := by decide +kernel
theorem dX0_init_102 : decode cX0_init 102 = .ok (.iconst 0, 1) := by decide +kernel
theorem dX0_init_103 : decode cX0_init 103 = .ok (.putfield 58, 3) := by decide +kernel
theorem dX0_init_106 : decode cX0_init 106 = .ok (.aload_n 0, 1) := by decide +kernel
theorem dX0_init_107 : decode cX0_init 107 = .ok (.iconst 0, 1) := by decide +kernel
theorem dX0_init_108 : decode cX0_init 108 = .ok (.putfield 61, 3) := by decide +kernel
theorem dX0_init_111 : decode cX0_init 111 = .ok (.iconst 0, 1) := by decide +kernel
theorem dX0_init_112 : decode cX0_init 112 = .ok (.istore_n 1, 1) := by decide +kernel
theorem dX0_init_113 : decode cX0_init 113 = .ok (.iload_n 1, 1) := by decide +kernel
theorem dX0_init_114 : decode cX0_init 114 = .ok (.iconst 4, 1) := by decide +kernel
theorem dX0_init_115 : decode cX0_init 115 = .ok (.if_icmp .ge 20, 3) := by decide +kernel
theorem dX0_init_118 : decode cX0_init 118 = .ok (.aload_n 0, 1) := by decide +kernel
theorem dX0_init_119 : decode cX0_init 119 = .ok (.getfield 18, 3) := by decide +kernel
theorem dX0_init_122 : decode cX0_init 122 = .ok (.iload_n 1, 1) := by decide +kernel
theorem dX0_init_123 : decode cX0_init 123 = .ok (.getstatic 64, 3) := by decide +kernel
theorem dX0_init_126 : decode cX0_init 126 = .ok (.iload_n 1, 1) := by decide +kernel
theorem dX0_init_127 : decode cX0_init 127 = .ok (.iaload, 1) := by decide +kernel
theorem dX0_init_128 : decode cX0_init 128 = .ok (.iastore, 1) := by decide +kernel
theorem dX0_init_129 : decode cX0_init 129 = .ok (.iinc 1 1, 3) := by decide +kernel
theorem dX0_init_132 : decode cX0_init 132 = .ok (.goto (-19), 3) := by decide +kernel
theorem dX0_init_135 : decode cX0_init 135 = .ok (.return_, 1) := by decide +kernel
theorem dX0_become_0 : decode cX0_become 0 = .ok (.aload_n 1, 1) := by decide +kernel
theorem dX0_become_1 : decode cX0_become 1 = .ok (.getfield 9, 3) := by decide +kernel
theorem dX0_become_4 : decode cX0_become 4 = .ok (.iconst 0, 1) := by decide +kernel
theorem dX0_become_5 : decode cX0_become 5 = .ok (.aload_n 0, 1) := by decide +kernel
theorem dX0_become_6 : decode cX0_become 6 = .ok (.getfield 9, 3) := by decide +kernel
theorem dX0_become_9 : decode cX0_become 9 = .ok (.iconst 0, 1) := by decide +kernel
theorem dX0_become_10 : decode cX0_become 10 = .ok (.bipush 10, 2) := by decide +kernel
theorem dX0_become_12 : decode cX0_become 12 = .ok (.invokestatic 67, 3) := by decide +kernel
theorem dX0_become_15 : decode cX0_become 15 = .ok (.aload_n 1, 1) := by decide +kernel
theorem dX0_become_16 : decode cX0_become 16 = .ok (.getfield 15, 3) := by decide +kernel
theorem dX0_become_19 : decode cX0_become 19 = .ok (.iconst 0, 1) := by decide +kernel
theorem dX0_become_20 : decode cX0_become 20 = .ok (.aload_n 0, 1) := by decide +kernel
theorem dX0_become_21 : decode cX0_become 21 = .ok (.getfield 15, 3) := by decide +kernel
theorem dX0_become_24 : decode cX0_become 24 = .ok (.iconst 0, 1) := by decide +kernel
theorem dX0_become_25 : decode cX0_become 25 = .ok (.bipush 10, 2) := by decide +kernel
theorem dX0_become_27 : decode cX0_become 27 = .ok (.invokestatic 67, 3) := by decide +kernel
theorem dX0_become_30 : decode cX0_become 30 = .ok (.aload_n 1, 1) := by decide +kernel
theorem dX0_become_31 : decode cX0_become 31 = .ok (.getfield 18, 3) := by decide +kernel
theorem dX0_become_34 : decode cX0_become 34 = .ok (.iconst 0, 1) := by decide +kernel
theorem dX0_become_35 : decode cX0_become 35 = .ok (.aload_n 0, 1) := by decide +kernel
theorem dX0_become_36 : decode cX0_become 36 = .ok (.getfield 18, 3) := by decide +kernel
theorem dX0_become_39 : decode cX0_become 39 = .ok (.iconst 0, 1) := by decide +kernel
theorem dX0_become_40 : decode cX0_become 40 = .ok (.iconst 4, 1) := by decide +kernel
theorem dX0_become_41 : decode cX0_become 41 = .ok (.invokestatic 67, 3) := by decide +kernel
theorem dX0_become_44 : decode cX0_become 44 = .ok (.aload_n 1, 1) := by decide +kernel
theorem dX0_become_45 : decode cX0_become 45 = .ok (.getfield 21, 3) := by decide +kernel
theorem dX0_become_48 : decode cX0_become 48 = .ok (.iconst 0, 1) := by decide +kernel
theorem dX0_become_49 : decode cX0_become 49 = .ok (.aload_n 0, 1) := by decide +kernel
theorem dX0_become_50 : decode cX0_become 50 = .ok (.getfield 21, 3) := by decide +kernel
theorem dX0_become_53 : decode cX0_become 53 = .ok (.iconst 0, 1) := by decide +kernel
theorem dX0_become_54 : decode cX0_become 54 = .ok (.iconst 4, 1) := by decide +kernel
theorem dX0_become_55 : decode cX0_become 55 = .ok (.invokestatic 67, 3) := by decide +kernel
theorem dX0_become_58 : decode cX0_become 58 = .ok (.aload_n 1, 1) := by decide +kernel
theorem dX0_become_59 : decode cX0_become 59 = .ok (.getfield 24, 3) := by decide +kernel
theorem dX0_become_62 : decode cX0_become 62 = .ok (.iconst 0, 1) := by decide +kernel
theorem dX0_become_63 : decode cX0_become 63 = .ok (.aload_n 0, 1) := by decide +kernel
theorem dX0_become_64 : decode cX0_become 64 = .ok (.getfield 24, 3) := by decide +kernel
theorem dX0_become_67 : decode cX0_become 67 = .ok (.iconst 0, 1) := by decide +kernel
theorem dX0_become_68 : decode cX0_become 68 = .ok (.iconst 4, 1) := by decide +kernel
theorem dX0_become_69 : decode cX0_become 69 = .ok (.invokestatic 67, 3) := by decide +kernel
theorem dX0_become_72 : decode cX0_become 72 = .ok (.aload_n 1, 1) := by decide +kernel
theorem dX0_become_73 : decode cX0_become 73 = .ok (.getfield 27, 3) := by decide +kernel
theorem dX0_become_76 : decode cX0_become 76 = .ok (.iconst 0, 1) := by decide +kernel
theorem dX0_become_77 : decode cX0_become 77 = .ok (.aload_n 0, 1) := by decide +kernel
theorem dX0_become_78 : decode cX0_become 78 = .ok (.getfield 27, 3) := by decide +kernel
theorem dX0_become_81 : decode cX0_become 81 = .ok (.iconst 0, 1) := by decide +kernel
theorem dX0_become_82 : decode cX0_become 82 = .ok (.iconst 4, 1) := by decide +kernel
theorem dX0_become_83 : decode cX0_become 83 = .ok (.invokestatic 67, 3) := by decide +kernel
theorem dX0_become_86 : decode cX0_become 86 = .ok (.aload_n 1, 1) := by decide +kernel
theorem dX0_become_87 : decode cX0_become 87 = .ok (.getfield 30, 3) := by decide +kernel
theorem dX0_become_90 : decode cX0_become 90 = .ok (.iconst 0, 1) := by decide +kernel
theorem dX0_become_91 : decode cX0_become 91 = .ok (.aload_n 0, 1) := by decide +kernel
theorem dX0_become_92 : decode cX0_become 92 = .ok (.getfield 30, 3) := by decide +kernel
theorem dX0_become_95 : decode cX0_become 95 = .ok (.iconst 0, 1) := by decide +kernel
theorem dX0_become_96 : decode cX0_become 96 = .ok (.iconst 4, 1) := by decide +kernel
theorem dX0_become_97 : decode cX0_become 97 = .ok (.invokestatic 67, 3) := by decide +kernel
theorem dX0_become_100 : decode cX0_become 100 = .ok (.aload_n 1, 1) := by decide +kernel
theorem dX0_become_101 : decode cX0_become 101 = .ok (.getfield 33, 3) := by decide +kernel
theorem dX0_become_104 : decode cX0_become 104 = .ok (.iconst 0, 1) := by decide +kernel
theorem dX0_become_105 : decode cX0_become 105 = .ok (.aload_n 0, 1) := by decide +kernel
theorem dX0_become_106 : decode cX0_become 106 = .ok (.getfield 33, 3) := by decide +kernel
theorem dX0_become_109 : decode cX0_become 109 = .ok (.iconst 0, 1) := by decide +kernel
theorem dX0_become_110 : decode cX0_become 110 = .ok (.iconst 4, 1) := by decide +kernel
theorem dX0_become_111 : decode cX0_become 111 = .ok (.invokestatic 67, 3) := by decide +kernel
theorem dX0_become_114 : decode cX0_become 114 = .ok (.aload_n 1, 1) := by decide +kernel
theorem dX0_become_115 : decode cX0_become 115 = .ok (.getfield 36, 3) := by decide +kernel
theorem dX0_become_118 : decode cX0_become 118 = .ok (.iconst 0, 1) := by decide +kernel
theorem dX0_become_119 : decode cX0_become 119 = .ok (.aload_n 0, 1) := by decide +kernel
theorem dX0_become_120 : decode cX0_become 120 = .ok (.getfield 36, 3) := by decide +kernel
theorem dX0_become_123 : decode cX0_become 123 = .ok (.iconst 0, 1) := by decide +kernel
theorem dX0_become_124 : decode cX0_become 124 = .ok (.iconst 4, 1) := by decide +kernel
theorem dX0_become_125 : decode cX0_become 125 = .ok (.invokestatic 67, 3) := by decide +kernel
theorem dX0_become_128 : decode cX0_become 128 = .ok (.aload_n 1, 1) := by decide +kernel
theorem dX0_become_129 : decode cX0_become 129 = .ok (.getfield 39, 3) := by decide +kernel
theorem dX0_become_132 : decode cX0_become 132 = .ok (.iconst 0, 1) := by decide +kernel
theorem dX0_become_133 : decode cX0_become 133 = .ok (.aload_n 0, 1) := by decide +kernel
theorem dX0_become_134 : decode cX0_become 134 = .ok (.getfield 39, 3) := by decide +kernel
theorem dX0_become_137 : decode cX0_become 137 = .ok (.iconst 0, 1) := by decide +kernel
theorem dX0_become_138 : decode cX0_become 138 = .ok (.iconst 4, 1) := by decide +kernel
theorem dX0_become_139 : decode cX0_become 139 = .ok (.invokestatic 67, 3) := by decide +kernel
theorem dX0_become_142 : decode cX0_become 142 = .ok (.aload_n 0, 1) := by decide +kernel
theorem dX0_become_143 : decode cX0_become 143 = .ok (.aload_n 1, 1) := by decide +kernel
theorem dX0_become_144 : decode cX0_become 144 = .ok (.getfield 42, 3) := by decide +kernel
theorem dX0_become_147 : decode cX0_become 147 = .ok (.putfield 42, 3) := by decide +kernel
theorem dX0_become_150 : decode cX0_become 150 = .ok (.aload_n 0, 1) := by decide +kernel
theorem dX0_become_151 : decode cX0_become 151 = .ok (.aload_n 1, 1) := by decide +kernel
theorem dX0_become_152 : decode cX0_become 152 = .ok (.getfield 46, 3) := by decide +kernel
theorem dX0_become_155 : decode cX0_become 155 = .ok (.putfield 46, 3) := by decide +kernel
theorem dX0_become_158 : decode cX0_become 158 = .ok (.aload_n 0, 1) := by decide +kernel
theorem dX0_become_159 : decode cX0_become 159 = .ok (.aload_n 1, 1) := by decide +kernel
theorem dX0_become_160 : decode cX0_become 160 = .ok (.getfield 49, 3) := by decide +kernel
theorem dX0_become_163 : decode cX0_become 163 = .ok (.putfield 49, 3) := by decide +kernel
theorem dX0_become_166 : decode cX0_become 166 = .ok (.aload_n 0, 1) := by decide +kernel
theorem dX0_become_167 : decode cX0_become 167 = .ok (.aload_n 1, 1) := by decide +kernel
theorem dX0_become_168 : decode cX0_become 168 = .ok (.getfield 52, 3) := by decide +kernel
theorem dX0_become_171 : decode cX0_become 171 = .ok (.putfield 52, 3) := by decide +kernel
theorem dX0_become_174 : decode cX0_become 174 = .ok (.aload_n 0, 1) := by decide +kernel
theorem dX0_become_175 : decode cX0_become 175 = .ok (.aload_n 1, 1) := by decide +kernel
theorem dX0_become_176 : decode cX0_become 176 = .ok (.getfield 55, 3) := by decide +kernel
theorem dX0_become_179 : decode cX0_become 179 = .ok (.putfield 55, 3) := by decide +kernel
theorem dX0_become_182 : decode cX0_become 182 = .ok (.aload_n 0, 1) := by decide +kernel
theorem dX0_become_183 : decode cX0_become 183 = .ok (.aload_n 1, 1) := by decide +kernel
theorem dX0_become_184 : decode cX0_become 184 = .ok (.getfield 58, 3) := by decide +kernel
theorem dX0_become_187 : decode cX0_become 187 = .ok (.putfield 58, 3) := by decide +kernel
theorem dX0_become_190 : decode cX0_become 190 = .ok (.aload_n 0, 1) := by decide +kernel
theorem dX0_become_191 : decode cX0_become 191 = .ok (.aload_n 1, 1) := by decide +kernel
theorem dX0_become_192 : decode cX0_become 192 = .ok (.getfield 61, 3) := by decide +kernel
theorem dX0_become_195 : decode cX0_become 195 = .ok (.putfield 61, 3) := by decide +kernel
theorem dX0_become_198 : decode cX0_become 198 = .ok (.return_, 1) := by decide +kernel
theorem dX0_hasPlayer_0 : decode cX0_hasPlayer 0 = .ok (.iload_n 1, 1) := by decide +kernel
theorem dX0_hasPlayer_1 : decode cX0_hasPlayer 1 = .ok (.ifCond .lt 15, 3) := by decide +kernel
theorem dX0_hasPlayer_4 : decode cX0_hasPlayer 4 = .ok (.iload_n 1, 1) := by decide +kernel
theorem dX0_hasPlayer_5 : decode cX0_hasPlayer 5 = .ok (.aload_n 0, 1) := by decide +kernel
theorem dX0_hasPlayer_6 : decode cX0_hasPlayer 6 = .ok (.getfield 42, 3) := by decide +kernel
theorem dX0_hasPlayer_9 : decode cX0_hasPlayer 9 = .ok (.if_icmp .ge 7, 3) := by decide +kernel
theorem dX0_hasPlayer_12 : decode cX0_hasPlayer 12 = .ok (.iconst 1, 1) := by decide +kernel
theorem dX0_hasPlayer_13 : decode cX0_hasPlayer 13 = .ok (.goto 4, 3) := by decide +kernel
theorem dX0_hasPlayer_16 : decode cX0_hasPlayer 16 = .ok (.iconst 0, 1) := by decide +kernel
theorem dX0_hasPlayer_17 : decode cX0_hasPlayer 17 = .ok (.ireturn, 1) := by decide +kernel
theorem dX0_takesMoves_0 : decode cX0_takesMoves 0 = .ok (.aload_n 0, 1) := by decide +kernel
theorem dX0_takesMoves_1 : decode cX0_takesMoves 1 = .ok (.getfield 42, 3) := by decide +kernel
theorem dX0_takesMoves_4 : decode cX0_takesMoves 4 = .ok (.ifCond .le 17, 3) := by decide +kernel
theorem dX0_takesMoves_7 : decode cX0_takesMoves 7 = .ok (.aload_n 0, 1) := by decide +kernel
theorem dX0_takesMoves_8 : decode cX0_takesMoves 8 = .ok (.getfield 52, 3) := by decide +kernel
theorem dX0_takesMoves_11 : decode cX0_takesMoves 11 = .ok (.sipush 9999, 3) := by decide +kernel
theorem dX0_takesMoves_14 : decode cX0_takesMoves 14 = .ok (.if_icmp .ge 7, 3) := by decide +kernel
theorem dX0_takesMoves_17 : decode cX0_takesMoves 17 = .ok (.iconst 1, 1) := by decide +kernel
theorem dX0_takesMoves_18 : decode cX0_takesMoves 18 = .ok (.goto 4, 3) := by decide +kernel
theorem dX0_takesMoves_21 : decode cX0_takesMoves 21 = .ok (.iconst 0, 1) := by decide +kernel
theorem dX0_takesMoves_22 : decode cX0_takesMoves 22 = .ok (.ireturn, 1) := by decide +kernel
theorem dX0_addPlayer_0 : decode cX0_addPlayer 0 = .ok (.aload_n 0, 1) := by decide +kernel
theorem dX0_addPlayer_1 : decode cX0_addPlayer 1 = .ok (.getfield 42, 3) := by decide +kernel
theorem dX0_addPlayer_4 : decode cX0_addPlayer 4 = .ok (.istore_n 3, 1) := by decide +kernel
theorem dX0_addPlayer_5 : decode cX0_addPlayer 5 = .ok (.aload_n 0, 1) := by decide +kernel
theorem dX0_addPlayer_6 : decode cX0_addPlayer 6 = .ok (.getfield 21, 3) := by decide +kernel
theorem dX0_addPlayer_9 : decode cX0_addPlayer 9 = .ok (.iload_n 3, 1) := by decide +kernel
theorem dX0_addPlayer_10 : decode cX0_addPlayer 10 = .ok (.iload_n 1, 1) := by decide +kernel
theorem dX0_addPlayer_11 : decode cX0_addPlayer 11 = .ok (.iastore, 1) := by decide +kernel
theorem dX0_addPlayer_12 : decode cX0_addPlayer 12 = .ok (.aload_n 0, 1) := by decide +kernel
theorem dX0_addPlayer_13 : decode cX0_addPlayer 13 = .ok (.getfield 24, 3) := by decide +kernel
theorem dX0_addPlayer_16 : decode cX0_addPlayer 16 = .ok (.iload_n 3, 1) := by decide +kernel
theorem dX0_addPlayer_17 : decode cX0_addPlayer 17 = .ok (.iload_n 2, 1) := by decide +kernel
theorem dX0_addPlayer_18 : decode cX0_addPlayer 18 = .ok (.iastore, 1) := by decide +kernel
theorem dX0_addPlayer_19 : decode cX0_addPlayer 19 = .ok (.aload_n 0, 1) := by decide +kernel
theorem dX0_addPlayer_20 : decode cX0_addPlayer 20 = .ok (.dup, 1) := by decide +kernel
theorem dX0_addPlayer_21 : decode cX0_addPlayer 21 = .ok (.getfield 61, 3) := by decide +kernel
theorem dX0_addPlayer_24 : decode cX0_addPlayer 24 = .ok (.iload_n 2, 1) := by decide +kernel
theorem dX0_addPlayer_25 : decode cX0_addPlayer 25 = .ok (.iadd, 1) := by decide +kernel
theorem dX0_addPlayer_26 : decode cX0_addPlayer 26 = .ok (.putfield 61, 3) := by decide +kernel
theorem dX0_addPlayer_29 : decode cX0_addPlayer 29 = .ok (.aload_n 0, 1) := by decide +kernel
theorem dX0_addPlayer_30 : decode cX0_addPlayer 30 = .ok (.dup, 1) := by decide +kernel
theorem dX0_addPlayer_31 : decode cX0_addPlayer 31 = .ok (.getfield 42, 3) := by decide +kernel
theorem dX0_addPlayer_34 : decode cX0_addPlayer 34 = .ok (.iconst 1, 1) := by decide +kernel
theorem dX0_addPlayer_35 : decode cX0_addPlayer 35 = .ok (.iadd, 1) := by decide +kernel
theorem dX0_addPlayer_36 : decode cX0_addPlayer 36 = .ok (.putfield 42, 3) := by decide +kernel
theorem dX0_addPlayer_39 : decode cX0_addPlayer 39 = .ok (.iload_n 3, 1) := by decide +kernel
theorem dX0_addPlayer_40 : decode cX0_addPlayer 40 = .ok (.ireturn, 1) := by decide +kernel
theorem dX0_sees_0 : decode cX0_sees 0 = .ok (.aload_n 0, 1) := by decide +kernel
theorem dX0_sees_1 : decode cX0_sees 1 = .ok (.getfield 9, 3) := by decide +kernel
theorem dX0_sees_4 : decode cX0_sees 4 = .ok (.iload_n 1, 1) := by decide +kernel
theorem dX0_sees_5 : decode cX0_sees 5 = .ok (.iaload, 1) := by decide +kernel
theorem dX0_sees_6 : decode cX0_sees 6 = .ok (.aload_n 0, 1) := by decide +kernel
theorem dX0_sees_7 : decode cX0_sees 7 = .ok (.getfield 9, 3) := by decide +kernel
theorem dX0_sees_10 : decode cX0_sees 10 = .ok (.iload_n 2, 1) := by decide +kernel
theorem dX0_sees_11 : decode cX0_sees 11 = .ok (.iaload, 1) := by decide +kernel
theorem dX0_sees_12 : decode cX0_sees 12 = .ok (.invokestatic 73, 3) := by decide +kernel
theorem dX0_sees_15 : decode cX0_sees 15 = .ok (.istore_n 3, 1) := by decide +kernel
theorem dX0_sees_16 : decode cX0_sees 16 = .ok (.iload_n 1, 1) := by decide +kernel
theorem dX0_sees_17 : decode cX0_sees 17 = .ok (.iload_n 2, 1) := by decide +kernel
theorem dX0_sees_18 : decode cX0_sees 18 = .ok (.invokestatic 73, 3) := by decide +kernel
theorem dX0_sees_21 : decode cX0_sees 21 = .ok (.istore 4, 2) := by decide +kernel
theorem dX0_sees_23 : decode cX0_sees 23 = .ok (.iload_n 1, 1) := by decide +kernel
theorem dX0_sees_24 : decode cX0_sees 24 = .ok (.iload_n 2, 1) := by decide +kernel
theorem dX0_sees_25 : decode cX0_sees 25 = .ok (.invokestatic 79, 3) := by decide +kernel
theorem dX0_sees_28 : decode cX0_sees 28 = .ok (.iconst 1, 1) := by decide +kernel
theorem dX0_sees_29 : decode cX0_sees 29 = .ok (.iadd, 1) := by decide +kernel
theorem dX0_sees_30 : decode cX0_sees 30 = .ok (.istore 5, 2) := by decide +kernel
theorem dX0_sees_32 : decode cX0_sees 32 = .ok (.iload 5, 2) := by decide +kernel
theorem dX0_sees_34 : decode cX0_sees 34 = .ok (.iload 4, 2) := by decide +kernel
theorem dX0_sees_36 : decode cX0_sees 36 = .ok (.if_icmp .ge 22, 3) := by decide +kernel
theorem dX0_sees_39 : decode cX0_sees 39 = .ok (.aload_n 0, 1) := by decide +kernel
theorem dX0_sees_40 : decode cX0_sees 40 = .ok (.getfield 9, 3) := by decide +kernel
theorem dX0_sees_43 : decode cX0_sees 43 = .ok (.iload 5, 2) := by decide +kernel
theorem dX0_sees_45 : decode cX0_sees 45 = .ok (.iaload, 1) := by decide +kernel
theorem dX0_sees_46 : decode cX0_sees 46 = .ok (.iload_n 3, 1) := by decide +kernel
theorem dX0_sees_47 : decode cX0_sees 47 = .ok (.if_icmp .le 5, 3) := by decide +kernel
theorem dX0_sees_50 : decode cX0_sees 50 = .ok (.iconst 0, 1) := by decide +kernel
theorem dX0_sees_51 : decode cX0_sees 51 = .ok (.ireturn, 1) := by decide +kernel
theorem dX0_sees_52 : decode cX0_sees 52 = .ok (.iinc 5 1, 3) := by decide +kernel
theorem dX0_sees_55 : decode cX0_sees 55 = .ok (.goto (-23), 3) := by decide +kernel
theorem dX0_sees_58 : decode cX0_sees 58 = .ok (.iconst 1, 1) := by decide +kernel
theorem dX0_sees_59 : decode cX0_sees 59 = .ok (.ireturn, 1) := by decide +kernel
theorem dX0_towersSeenFrom_0 : decode cX0_towersSeenFrom 0 = .ok (.iconst 0, 1) := by decide +kernel
theorem dX0_towersSeenFrom_1 : decode cX0_towersSeenFrom 1 = .ok (.istore_n 2, 1) := by decide +kernel
theorem dX0_towersSeenFrom_2 : decode cX0_towersSeenFrom 2 = .ok (.iconst 0, 1) := by decide +kernel
theorem dX0_towersSeenFrom_3 : decode cX0_towersSeenFrom 3 = .ok (.istore_n 3, 1) := by decide +kernel
theorem dX0_towersSeenFrom_4 : decode cX0_towersSeenFrom 4 = .ok (.iload_n 3, 1) := by decide +kernel
theorem dX0_towersSeenFrom_5 : decode cX0_towersSeenFrom 5 = .ok (.bipush 10, 2) := by decide +kernel
theorem dX0_towersSeenFrom_7 : decode cX0_towersSeenFrom 7 = .ok (.if_icmp .ge 24, 3) := by decide +kernel
theorem dX0_towersSeenFrom_10 : decode cX0_towersSeenFrom 10 = .ok (.aload_n 0, 1) := by decide +kernel
theorem dX0_towersSeenFrom_11 : decode cX0_towersSeenFrom 11 = .ok (.iload_n 1, 1) := by decide +kernel
theorem dX0_towersSeenFrom_12 : decode cX0_towersSeenFrom 12 = .ok (.iload_n 3, 1) := by decide +kernel
theorem dX0_towersSeenFrom_13 : decode cX0_towersSeenFrom 13 = .ok (.invokevirtual 82, 3) := by decide +kernel
theorem dX0_towersSeenFrom_16 : decode cX0_towersSeenFrom 16 = .ok (.ifCond .eq 9, 3) := by decide +kernel
theorem dX0_towersSeenFrom_19 : decode cX0_towersSeenFrom 19 = .ok (.iload_n 2, 1) := by decide +kernel
theorem dX0_towersSeenFrom_20 : decode cX0_towersSeenFrom 20 = .ok (.iconst 1, 1) := by decide +kernel
theorem dX0_towersSeenFrom_21 : decode cX0_towersSeenFrom 21 = .ok (.iload_n 3, 1) := by decide +kernel
theorem dX0_towersSeenFrom_22 : decode cX0_towersSeenFrom 22 = .ok (.ishl, 1) := by decide +kernel
theorem dX0_towersSeenFrom_23 : decode cX0_towersSeenFrom 23 = .ok (.ior, 1) := by decide +kernel
theorem dX0_towersSeenFrom_24 : decode cX0_towersSeenFrom 24 = .ok (.istore_n 2, 1) := by decide +kernel
theorem dX0_towersSeenFrom_25 : decode cX0_towersSeenFrom 25 = .ok (.iinc 3 1, 3) := by decide +kernel
theorem dX0_towersSeenFrom_28 : decode cX0_towersSeenFrom 28 = .ok (.goto (-24), 3) := by decide +kernel
theorem dX0_towersSeenFrom_31 : decode cX0_towersSeenFrom 31 = .ok (.iload_n 2, 1) := by decide +kernel
theorem dX0_towersSeenFrom_32 : decode cX0_towersSeenFrom 32 = .ok (.ireturn, 1) := by decide +kernel
theorem dX0_towerThatSeesMost_0 : decode cX0_towerThatSeesMost 0 = .ok (.iconst 0, 1) := by decide +kernel
theorem dX0_towerThatSeesMost_1 : decode cX0_towerThatSeesMost 1 = .ok (.istore_n 1, 1) := by decide +kernel
theorem dX0_towerThatSeesMost_2 : decode cX0_towerThatSeesMost 2 = .ok (.iconst 0, 1) := by decide +kernel
theorem dX0_towerThatSeesMost_3 : decode cX0_towerThatSeesMost 3 = .ok (.istore_n 2, 1) := by decide +kernel
theorem dX0_towerThatSeesMost_4 : decode cX0_towerThatSeesMost 4 = .ok (.iconst 0, 1) := by decide +kernel
theorem dX0_towerThatSeesMost_5 : decode cX0_towerThatSeesMost 5 = .ok (.istore_n 3, 1) := by decide +kernel
theorem dX0_towerThatSeesMost_6 : decode cX0_towerThatSeesMost 6 = .ok (.iload_n 3, 1) := by decide +kernel
theorem dX0_towerThatSeesMost_7 : decode cX0_towerThatSeesMost 7 = .ok (.bipush 10, 2) := by decide +kernel
theorem dX0_towerThatSeesMost_9 : decode cX0_towerThatSeesMost 9 = .ok (.if_icmp .ge 30, 3) := by decide +kernel
theorem dX0_towerThatSeesMost_12 : decode cX0_towerThatSeesMost 12 = .ok (.aload_n 0, 1) := by decide +kernel
theorem dX0_towerThatSeesMost_13 : decode cX0_towerThatSeesMost 13 = .ok (.iload_n 3, 1) := by decide +kernel
theorem dX0_towerThatSeesMost_14 : decode cX0_towerThatSeesMost 14 = .ok (.invokevirtual 86, 3) := by decide +kernel
theorem dX0_towerThatSeesMost_17 : decode cX0_towerThatSeesMost 17 = .ok (.invokestatic 90, 3) := by decide +kernel
theorem dX0_towerThatSeesMost_20 : decode cX0_towerThatSeesMost 20 = .ok (.istore 4, 2) := by decide +kernel
theorem dX0_towerThatSeesMost_22 : decode cX0_towerThatSeesMost 22 = .ok (.iload 4, 2) := by decide +kernel
theorem dX0_towerThatSeesMost_24 : decode cX0_towerThatSeesMost 24 = .ok (.iload_n 2, 1) := by decide +kernel
theorem dX0_towerThatSeesMost_25 : decode cX0_towerThatSeesMost 25 = .ok (.if_icmp .le 8, 3) := by decide +kernel
theorem dX0_towerThatSeesMost_28 : decode cX0_towerThatSeesMost 28 = .ok (.iload 4, 2) := by decide +kernel
theorem dX0_towerThatSeesMost_30 : decode cX0_towerThatSeesMost 30 = .ok (.istore_n 2, 1) := by decide +kernel
theorem dX0_towerThatSeesMost_31 : decode cX0_towerThatSeesMost 31 = .ok (.iload_n 3, 1) := by decide +kernel
theorem dX0_towerThatSeesMost_32 : decode cX0_towerThatSeesMost 32 = .ok (.istore_n 1, 1) := by decide +kernel
theorem dX0_towerThatSeesMost_33 : decode cX0_towerThatSeesMost 33 = .ok (.iinc 3 1, 3) := by decide +kernel
theorem dX0_towerThatSeesMost_36 : decode cX0_towerThatSeesMost 36 = .ok (.goto (-30), 3) := by decide +kernel
theorem dX0_towerThatSeesMost_39 : decode cX0_towerThatSeesMost 39 = .ok (.iload_n 1, 1) := by decide +kernel
theorem dX0_towerThatSeesMost_40 : decode cX0_towerThatSeesMost 40 = .ok (.ireturn, 1) := by decide +kernel
theorem dX0_playersOn_0 : decode cX0_playersOn 0 = .ok (.iconst 0, 1) := by decide +kernel
theorem dX0_playersOn_1 : decode cX0_playersOn 1 = .ok (.istore_n 2, 1) := by decide +kernel
theorem dX0_playersOn_2 : decode cX0_playersOn 2 = .ok (.iconst 0, 1) := by decide +kernel
theorem dX0_playersOn_3 : decode cX0_playersOn 3 = .ok (.istore_n 3, 1) := by decide +kernel
theorem dX0_playersOn_4 : decode cX0_playersOn 4 = .ok (.iload_n 3, 1) := by decide +kernel
theorem dX0_playersOn_5 : decode cX0_playersOn 5 = .ok (.aload_n 0, 1) := by decide +kernel
theorem dX0_playersOn_6 : decode cX0_playersOn 6 = .ok (.getfield 42, 3) := by decide +kernel
theorem dX0_playersOn_9 : decode cX0_playersOn 9 = .ok (.if_icmp .ge 25, 3) := by decide +kernel
theorem dX0_playersOn_12 : decode cX0_playersOn 12 = .ok (.aload_n 0, 1) := by decide +kernel
theorem dX0_playersOn_13 : decode cX0_playersOn 13 = .ok (.getfield 21, 3) := by decide +kernel
theorem dX0_playersOn_16 : decode cX0_playersOn 16 = .ok (.iload_n 3, 1) := by decide +kernel
theorem dX0_playersOn_17 : decode cX0_playersOn 17 = .ok (.iaload, 1) := by decide +kernel
theorem dX0_playersOn_18 : decode cX0_playersOn 18 = .ok (.iload_n 1, 1) := by decide +kernel
theorem dX0_playersOn_19 : decode cX0_playersOn 19 = .ok (.if_icmp .ne 9, 3) := by decide +kernel
theorem dX0_playersOn_22 : decode cX0_playersOn 22 = .ok (.iload_n 2, 1) := by decide +kernel
theorem dX0_playersOn_23 : decode cX0_playersOn 23 = .ok (.iconst 1, 1) := by decide +kernel
theorem dX0_playersOn_24 : decode cX0_playersOn 24 = .ok (.iload_n 3, 1) := by decide +kernel
theorem dX0_playersOn_25 : decode cX0_playersOn 25 = .ok (.ishl, 1) := by decide +kernel
theorem dX0_playersOn_26 : decode cX0_playersOn 26 = .ok (.ior, 1) := by decide +kernel
theorem dX0_playersOn_27 : decode cX0_playersOn 27 = .ok (.istore_n 2, 1) := by decide +kernel
theorem dX0_playersOn_28 : decode cX0_playersOn 28 = .ok (.iinc 3 1, 3) := by decide +kernel
theorem dX0_playersOn_31 : decode cX0_playersOn 31 = .ok (.goto (-27), 3) := by decide +kernel
theorem dX0_playersOn_34 : decode cX0_playersOn 34 = .ok (.iload_n 2, 1) := by decide +kernel
theorem dX0_playersOn_35 : decode cX0_playersOn 35 = .ok (.ireturn, 1) := by decide +kernel
theorem dX0_priceOfStride_0 : decode cX0_priceOfStride 0 = .ok (.aload_n 0, 1) := by decide +kernel
theorem dX0_priceOfStride_1 : decode cX0_priceOfStride 1 = .ok (.getfield 18, 3) := by decide +kernel
theorem dX0_priceOfStride_4 : decode cX0_priceOfStride 4 = .ok (.iconst 1, 1) := by decide +kernel
theorem dX0_priceOfStride_5 : decode cX0_priceOfStride 5 = .ok (.iaload, 1) := by decide +kernel
theorem dX0_priceOfStride_6 : decode cX0_priceOfStride 6 = .ok (.iload_n 2, 1) := by decide +kernel
theorem dX0_priceOfStride_7 : decode cX0_priceOfStride 7 = .ok (.iload_n 1, 1) := by decide +kernel
theorem dX0_priceOfStride_8 : decode cX0_priceOfStride 8 = .ok (.isub, 1) := by decide +kernel
theorem dX0_priceOfStride_9 : decode cX0_priceOfStride 9 = .ok (.invokestatic 95, 3) := by decide +kernel
theorem dX0_priceOfStride_12 : decode cX0_priceOfStride 12 = .ok (.imul, 1) := by decide +kernel
theorem dX0_priceOfStride_13 : decode cX0_priceOfStride 13 = .ok (.iconst 0, 1) := by decide +kernel
theorem dX0_priceOfStride_14 : decode cX0_priceOfStride 14 = .ok (.aload_n 0, 1) := by decide +kernel
theorem dX0_priceOfStride_15 : decode cX0_priceOfStride 15 = .ok (.getfield 9, 3) := by decide +kernel
theorem dX0_priceOfStride_18 : decode cX0_priceOfStride 18 = .ok (.iload_n 2, 1) := by decide +kernel
theorem dX0_priceOfStride_19 : decode cX0_priceOfStride 19 = .ok (.iaload, 1) := by decide +kernel
theorem dX0_priceOfStride_20 : decode cX0_priceOfStride 20 = .ok (.aload_n 0, 1) := by decide +kernel
theorem dX0_priceOfStride_21 : decode cX0_priceOfStride 21 = .ok (.getfield 9, 3) := by decide +kernel
theorem dX0_priceOfStride_24 : decode cX0_priceOfStride 24 = .ok (.iload_n 1, 1) := by decide +kernel
theorem dX0_priceOfStride_25 : decode cX0_priceOfStride 25 = .ok (.iaload, 1) := by decide +kernel
theorem dX0_priceOfStride_26 : decode cX0_priceOfStride 26 = .ok (.isub, 1) := by decide +kernel
theorem dX0_priceOfStride_27 : decode cX0_priceOfStride 27 = .ok (.invokestatic 73, 3) := by decide +kernel
theorem dX0_priceOfStride_30 : decode cX0_priceOfStride 30 = .ok (.iadd, 1) := by decide +kernel
theorem dX0_priceOfStride_31 : decode cX0_priceOfStride 31 = .ok (.ireturn, 1) := by decide +kernel
theorem dX0_refusalOfStride_0 : decode cX0_refusalOfStride 0 = .ok (.aload_n 0, 1) := by decide +kernel
theorem dX0_refusalOfStride_1 : decode cX0_refusalOfStride 1 = .ok (.getfield 21, 3) := by decide +kernel
theorem dX0_refusalOfStride_4 : decode cX0_refusalOfStride 4 = .ok (.iload_n 1, 1) := by decide +kernel
theorem dX0_refusalOfStride_5 : decode cX0_refusalOfStride 5 = .ok (.iaload, 1) := by decide +kernel
theorem dX0_refusalOfStride_6 : decode cX0_refusalOfStride 6 = .ok (.istore_n 3, 1) := by decide +kernel
theorem dX0_refusalOfStride_7 : decode cX0_refusalOfStride 7 = .ok (.iload_n 3, 1) := by decide +kernel
theorem dX0_refusalOfStride_8 : decode cX0_refusalOfStride 8 = .ok (.iload_n 2, 1) := by decide +kernel
theorem dX0_refusalOfStride_9 : decode cX0_refusalOfStride 9 = .ok (.if_icmp .ne 5, 3) := by decide +kernel
theorem dX0_refusalOfStride_12 : decode cX0_refusalOfStride 12 = .ok (.iconst 1, 1) := by decide +kernel
theorem dX0_refusalOfStride_13 : decode cX0_refusalOfStride 13 = .ok (.ireturn, 1) := by decide +kernel
theorem dX0_refusalOfStride_14 : decode cX0_refusalOfStride 14 = .ok (.aload_n 0, 1) := by decide +kernel
theorem dX0_refusalOfStride_15 : decode cX0_refusalOfStride 15 = .ok (.iload_n 3, 1) := by decide +kernel
theorem dX0_refusalOfStride_16 : decode cX0_refusalOfStride 16 = .ok (.iload_n 2, 1) := by decide +kernel
theorem dX0_refusalOfStride_17 : decode cX0_refusalOfStride 17 = .ok (.invokevirtual 82, 3) := by decide +kernel
theorem dX0_refusalOfStride_20 : decode cX0_refusalOfStride 20 = .ok (.ifCond .ne 5, 3) := by decide +kernel
theorem dX0_refusalOfStride_23 : decode cX0_refusalOfStride 23 = .ok (.iconst 2, 1) := by decide +kernel
theorem dX0_refusalOfStride_24 : decode cX0_refusalOfStride 24 = .ok (.ireturn, 1) := by decide +kernel
theorem dX0_refusalOfStride_25 : decode cX0_refusalOfStride 25 = .ok (.aload_n 0, 1) := by decide +kernel
theorem dX0_refusalOfStride_26 : decode cX0_refusalOfStride 26 = .ok (.iload_n 3, 1) := by decide +kernel
theorem dX0_refusalOfStride_27 : decode cX0_refusalOfStride 27 = .ok (.iload_n 2, 1) := by decide +kernel
theorem dX0_refusalOfStride_28 : decode cX0_refusalOfStride 28 = .ok (.invokevirtual 98, 3) := by decide +kernel
theorem dX0_refusalOfStride_31 : decode cX0_refusalOfStride 31 = .ok (.aload_n 0, 1) := by decide +kernel
theorem dX0_refusalOfStride_32 : decode cX0_refusalOfStride 32 = .ok (.getfield 27, 3) := by decide +kernel
theorem dX0_refusalOfStride_35 : decode cX0_refusalOfStride 35 = .ok (.iload_n 1, 1) := by decide +kernel
theorem dX0_refusalOfStride_36 : decode cX0_refusalOfStride 36 = .ok (.iaload, 1) := by decide +kernel
theorem dX0_refusalOfStride_37 : decode cX0_refusalOfStride 37 = .ok (.if_icmp .le 7, 3) := by decide +kernel
theorem dX0_refusalOfStride_40 : decode cX0_refusalOfStride 40 = .ok (.iconst 3, 1) := by decide +kernel
theorem dX0_refusalOfStride_41 : decode cX0_refusalOfStride 41 = .ok (.goto 4, 3) := by decide +kernel
theorem dX0_refusalOfStride_44 : decode cX0_refusalOfStride 44 = .ok (.iconst 0, 1) := by decide +kernel
theorem dX0_refusalOfStride_45 : decode cX0_refusalOfStride 45 = .ok (.ireturn, 1) := by decide +kernel
theorem dX0_towersToStrideTo_0 : decode cX0_towersToStrideTo 0 = .ok (.iconst 0, 1) := by decide +kernel
theorem dX0_towersToStrideTo_1 : decode cX0_towersToStrideTo 1 = .ok (.istore_n 2, 1) := by decide +kernel
theorem dX0_towersToStrideTo_2 : decode cX0_towersToStrideTo 2 = .ok (.iconst 0, 1) := by decide +kernel
theorem dX0_towersToStrideTo_3 : decode cX0_towersToStrideTo 3 = .ok (.istore_n 3, 1) := by decide +kernel
theorem dX0_towersToStrideTo_4 : decode cX0_towersToStrideTo 4 = .ok (.iload_n 3, 1) := by decide +kernel
theorem dX0_towersToStrideTo_5 : decode cX0_towersToStrideTo 5 = .ok (.bipush 10, 2) := by decide +kernel
theorem dX0_towersToStrideTo_7 : decode cX0_towersToStrideTo 7 = .ok (.if_icmp .ge 24, 3) := by decide +kernel
theorem dX0_towersToStrideTo_10 : decode cX0_towersToStrideTo 10 = .ok (.aload_n 0, 1) := by decide +kernel
theorem dX0_towersToStrideTo_11 : decode cX0_towersToStrideTo 11 = .ok (.iload_n 1, 1) := by decide +kernel
theorem dX0_towersToStrideTo_12 : decode cX0_towersToStrideTo 12 = .ok (.iload_n 3, 1) := by decide +kernel
theorem dX0_towersToStrideTo_13 : decode cX0_towersToStrideTo 13 = .ok (.invokevirtual 101, 3) := by decide +kernel
theorem dX0_towersToStrideTo_16 : decode cX0_towersToStrideTo 16 = .ok (.ifCond .ne 9, 3) := by decide +kernel
theorem dX0_towersToStrideTo_19 : decode cX0_towersToStrideTo 19 = .ok (.iload_n 2, 1) := by decide +kernel
theorem dX0_towersToStrideTo_20 : decode cX0_towersToStrideTo 20 = .ok (.iconst 1, 1) := by decide +kernel
theorem dX0_towersToStrideTo_21 : decode cX0_towersToStrideTo 21 = .ok (.iload_n 3, 1) := by decide +kernel
theorem dX0_towersToStrideTo_22 : decode cX0_towersToStrideTo 22 = .ok (.ishl, 1) := by decide +kernel
theorem dX0_towersToStrideTo_23 : decode cX0_towersToStrideTo 23 = .ok (.ior, 1) := by decide +kernel
theorem dX0_towersToStrideTo_24 : decode cX0_towersToStrideTo 24 = .ok (.istore_n 2, 1) := by decide +kernel
theorem dX0_towersToStrideTo_25 : decode cX0_towersToStrideTo 25 = .ok (.iinc 3 1, 3) := by decide +kernel
theorem dX0_towersToStrideTo_28 : decode cX0_towersToStrideTo 28 = .ok (.goto (-24), 3) := by decide +kernel
theorem dX0_towersToStrideTo_31 : decode cX0_towersToStrideTo 31 = .ok (.iload_n 2, 1) := by decide +kernel
theorem dX0_towersToStrideTo_32 : decode cX0_towersToStrideTo 32 = .ok (.ireturn, 1) := by decide +kernel
theorem dX0_refusalOfTag_0 : decode cX0_refusalOfTag 0 = .ok (.iload_n 1, 1) := by decide +kernel
theorem dX0_refusalOfTag_1 : decode cX0_refusalOfTag 1 = .ok (.aload_n 0, 1) := by decide +kernel
theorem dX0_refusalOfTag_2 : decode cX0_refusalOfTag 2 = .ok (.getfield 49, 3) := by decide +kernel
theorem dX0_refusalOfTag_5 : decode cX0_refusalOfTag 5 = .ok (.if_icmp .eq 5, 3) := by decide +kernel
theorem dX0_refusalOfTag_8 : decode cX0_refusalOfTag 8 = .ok (.iconst 5, 1) := by decide +kernel
theorem dX0_refusalOfTag_9 : decode cX0_refusalOfTag 9 = .ok (.ireturn, 1) := by decide +kernel
theorem dX0_refusalOfTag_10 : decode cX0_refusalOfTag 10 = .ok (.iload_n 1, 1) := by decide +kernel
theorem dX0_refusalOfTag_11 : decode cX0_refusalOfTag 11 = .ok (.iload_n 2, 1) := by decide +kernel
theorem dX0_refusalOfTag_12 : decode cX0_refusalOfTag 12 = .ok (.if_icmp .ne 6, 3) := by decide +kernel
theorem dX0_refusalOfTag_15 : decode cX0_refusalOfTag 15 = .ok (.bipush 6, 2) := by decide +kernel
theorem dX0_refusalOfTag_17 : decode cX0_refusalOfTag 17 = .ok (.ireturn, 1) := by decide +kernel
theorem dX0_refusalOfTag_18 : decode cX0_refusalOfTag 18 = .ok (.aload_n 0, 1) := by decide +kernel
theorem dX0_refusalOfTag_19 : decode cX0_refusalOfTag 19 = .ok (.aload_n 0, 1) := by decide +kernel
theorem dX0_refusalOfTag_20 : decode cX0_refusalOfTag 20 = .ok (.getfield 21, 3) := by decide +kernel
theorem dX0_refusalOfTag_23 : decode cX0_refusalOfTag 23 = .ok (.iload_n 1, 1) := by decide +kernel
theorem dX0_refusalOfTag_24 : decode cX0_refusalOfTag 24 = .ok (.iaload, 1) := by decide +kernel
theorem dX0_refusalOfTag_25 : decode cX0_refusalOfTag 25 = .ok (.aload_n 0, 1) := by decide +kernel
theorem dX0_refusalOfTag_26 : decode cX0_refusalOfTag 26 = .ok (.getfield 21, 3) := by decide +kernel
theorem dX0_refusalOfTag_29 : decode cX0_refusalOfTag 29 = .ok (.iload_n 2, 1) := by decide +kernel
theorem dX0_refusalOfTag_30 : decode cX0_refusalOfTag 30 = .ok (.iaload, 1) := by decide +kernel
theorem dX0_refusalOfTag_31 : decode cX0_refusalOfTag 31 = .ok (.invokevirtual 82, 3) := by decide +kernel
theorem dX0_refusalOfTag_34 : decode cX0_refusalOfTag 34 = .ok (.ifCond .ne 5, 3) := by decide +kernel
theorem dX0_refusalOfTag_37 : decode cX0_refusalOfTag 37 = .ok (.iconst 2, 1) := by decide +kernel
theorem dX0_refusalOfTag_38 : decode cX0_refusalOfTag 38 = .ok (.ireturn, 1) := by decide +kernel
theorem dX0_refusalOfTag_39 : decode cX0_refusalOfTag 39 = .ok (.aload_n 0, 1) := by decide +kernel
theorem dX0_refusalOfTag_40 : decode cX0_refusalOfTag 40 = .ok (.getfield 21, 3) := by decide +kernel
theorem dX0_refusalOfTag_43 : decode cX0_refusalOfTag 43 = .ok (.iload_n 1, 1) := by decide +kernel
theorem dX0_refusalOfTag_44 : decode cX0_refusalOfTag 44 = .ok (.iaload, 1) := by decide +kernel
theorem dX0_refusalOfTag_45 : decode cX0_refusalOfTag 45 = .ok (.aload_n 0, 1) := by decide +kernel
theorem dX0_refusalOfTag_46 : decode cX0_refusalOfTag 46 = .ok (.getfield 21, 3) := by decide +kernel
theorem dX0_refusalOfTag_49 : decode cX0_refusalOfTag 49 = .ok (.iload_n 2, 1) := by decide +kernel
theorem dX0_refusalOfTag_50 : decode cX0_refusalOfTag 50 = .ok (.iaload, 1) := by decide +kernel
theorem dX0_refusalOfTag_51 : decode cX0_refusalOfTag 51 = .ok (.isub, 1) := by decide +kernel
theorem dX0_refusalOfTag_52 : decode cX0_refusalOfTag 52 = .ok (.invokestatic 95, 3) := by decide +kernel
theorem dX0_refusalOfTag_55 : decode cX0_refusalOfTag 55 = .ok (.aload_n 0, 1) := by decide +kernel
theorem dX0_refusalOfTag_56 : decode cX0_refusalOfTag 56 = .ok (.getfield 18, 3) := by decide +kernel
theorem dX0_refusalOfTag_59 : decode cX0_refusalOfTag 59 = .ok (.iconst 3, 1) := by decide +kernel
theorem dX0_refusalOfTag_60 : decode cX0_refusalOfTag 60 = .ok (.iaload, 1) := by decide +kernel
theorem dX0_refusalOfTag_61 : decode cX0_refusalOfTag 61 = .ok (.if_icmp .le 8, 3) := by decide +kernel
theorem dX0_refusalOfTag_64 : decode cX0_refusalOfTag 64 = .ok (.bipush 7, 2) := by decide +kernel
theorem dX0_refusalOfTag_66 : decode cX0_refusalOfTag 66 = .ok (.goto 4, 3) := by decide +kernel
theorem dX0_refusalOfTag_69 : decode cX0_refusalOfTag 69 = .ok (.iconst 0, 1) := by decide +kernel
theorem dX0_refusalOfTag_70 : decode cX0_refusalOfTag 70 = .ok (.ireturn, 1) := by decide +kernel
theorem dX0_playersInReachOfIt_0 : decode cX0_playersInReachOfIt 0 = .ok (.iconst 0, 1) := by decide +kernel
theorem dX0_playersInReachOfIt_1 : decode cX0_playersInReachOfIt 1 = .ok (.istore_n 1, 1) := by decide +kernel
theorem dX0_playersInReachOfIt_2 : decode cX0_playersInReachOfIt 2 = .ok (.iconst 0, 1) := by decide +kernel
theorem dX0_playersInReachOfIt_3 : decode cX0_playersInReachOfIt 3 = .ok (.istore_n 2, 1) := by decide +kernel
theorem dX0_playersInReachOfIt_4 : decode cX0_playersInReachOfIt 4 = .ok (.iload_n 2, 1) := by decide +kernel
theorem dX0_playersInReachOfIt_5 : decode cX0_playersInReachOfIt 5 = .ok (.aload_n 0, 1) := by decide +kernel
theorem dX0_playersInReachOfIt_6 : decode cX0_playersInReachOfIt 6 = .ok (.getfield 42, 3) := by decide +kernel
theorem dX0_playersInReachOfIt_9 : decode cX0_playersInReachOfIt 9 = .ok (.if_icmp .ge 27, 3) := by decide +kernel
theorem dX0_playersInReachOfIt_12 : decode cX0_playersInReachOfIt 12 = .ok (.aload_n 0, 1) := by decide +kernel
theorem dX0_playersInReachOfIt_13 : decode cX0_playersInReachOfIt 13 = .ok (.aload_n 0, 1) := by decide +kernel
theorem dX0_playersInReachOfIt_14 : decode cX0_playersInReachOfIt 14 = .ok (.getfield 49, 3) := by decide +kernel
theorem dX0_playersInReachOfIt_17 : decode cX0_playersInReachOfIt 17 = .ok (.iload_n 2, 1) := by decide +kernel
theorem dX0_playersInReachOfIt_18 : decode cX0_playersInReachOfIt 18 = .ok (.invokevirtual 104, 3) := by decide +kernel
theorem dX0_playersInReachOfIt_21 : decode cX0_playersInReachOfIt 21 = .ok (.ifCond .ne 9, 3) := by decide +kernel
theorem dX0_playersInReachOfIt_24 : decode cX0_playersInReachOfIt 24 = .ok (.iload_n 1, 1) := by decide +kernel
theorem dX0_playersInReachOfIt_25 : decode cX0_playersInReachOfIt 25 = .ok (.iconst 1, 1) := by decide +kernel
theorem dX0_playersInReachOfIt_26 : decode cX0_playersInReachOfIt 26 = .ok (.iload_n 2, 1) := by decide +kernel
theorem dX0_playersInReachOfIt_27 : decode cX0_playersInReachOfIt 27 = .ok (.ishl, 1) := by decide +kernel
theorem dX0_playersInReachOfIt_28 : decode cX0_playersInReachOfIt 28 = .ok (.ior, 1) := by decide +kernel
theorem dX0_playersInReachOfIt_29 : decode cX0_playersInReachOfIt 29 = .ok (.istore_n 1, 1) := by decide +kernel
theorem dX0_playersInReachOfIt_30 : decode cX0_playersInReachOfIt 30 = .ok (.iinc 2 1, 3) := by decide +kernel
theorem dX0_playersInReachOfIt_33 : decode cX0_playersInReachOfIt 33 = .ok (.goto (-29), 3) := by decide +kernel
theorem dX0_playersInReachOfIt_36 : decode cX0_playersInReachOfIt 36 = .ok (.iload_n 1, 1) := by decide +kernel
theorem dX0_playersInReachOfIt_37 : decode cX0_playersInReachOfIt 37 = .ok (.ireturn, 1) := by decide +kernel
theorem dX0_moveByStride_0 : decode cX0_moveByStride 0 = .ok (.aload_n 0, 1) := by decide +kernel
theorem dX0_moveByStride_1 : decode cX0_moveByStride 1 = .ok (.aload_n 0, 1) := by decide +kernel
theorem dX0_moveByStride_2 : decode cX0_moveByStride 2 = .ok (.getfield 46, 3) := by decide +kernel
theorem dX0_moveByStride_5 : decode cX0_moveByStride 5 = .ok (.iload_n 1, 1) := by decide +kernel
theorem dX0_moveByStride_6 : decode cX0_moveByStride 6 = .ok (.invokevirtual 101, 3) := by decide +kernel
theorem dX0_moveByStride_9 : decode cX0_moveByStride 9 = .ok (.istore_n 2, 1) := by decide +kernel
theorem dX0_moveByStride_10 : decode cX0_moveByStride 10 = .ok (.iload_n 2, 1) := by decide +kernel
theorem dX0_moveByStride_11 : decode cX0_moveByStride 11 = .ok (.ifCond .eq 9, 3) := by decide +kernel
theorem dX0_moveByStride_14 : decode cX0_moveByStride 14 = .ok (.aload_n 0, 1) := by decide +kernel
theorem dX0_moveByStride_15 : decode cX0_moveByStride 15 = .ok (.iload_n 2, 1) := by decide +kernel
theorem dX0_moveByStride_16 : decode cX0_moveByStride 16 = .ok (.invokevirtual 107, 3) := by decide +kernel
theorem dX0_moveByStride_19 : decode cX0_moveByStride 19 = .ok (.ireturn, 1) := by decide +kernel
theorem dX0_moveByStride_20 : decode cX0_moveByStride 20 = .ok (.aload_n 0, 1) := by decide +kernel
theorem dX0_moveByStride_21 : decode cX0_moveByStride 21 = .ok (.aload_n 0, 1) := by decide +kernel
theorem dX0_moveByStride_22 : decode cX0_moveByStride 22 = .ok (.aload_n 0, 1) := by decide +kernel
theorem dX0_moveByStride_23 : decode cX0_moveByStride 23 = .ok (.getfield 21, 3) := by decide +kernel
theorem dX0_moveByStride_26 : decode cX0_moveByStride 26 = .ok (.aload_n 0, 1) := by decide +kernel
theorem dX0_moveByStride_27 : decode cX0_moveByStride 27 = .ok (.getfield 46, 3) := by decide +kernel
theorem dX0_moveByStride_30 : decode cX0_moveByStride 30 = .ok (.iaload, 1) := by decide +kernel
theorem dX0_moveByStride_31 : decode cX0_moveByStride 31 = .ok (.iload_n 1, 1) := by decide +kernel
theorem dX0_moveByStride_32 : decode cX0_moveByStride 32 = .ok (.invokevirtual 98, 3) := by decide +kernel
theorem dX0_moveByStride_35 : decode cX0_moveByStride 35 = .ok (.invokevirtual 110, 3) := by decide +kernel
theorem dX0_moveByStride_38 : decode cX0_moveByStride 38 = .ok (.aload_n 0, 1) := by decide +kernel
theorem dX0_moveByStride_39 : decode cX0_moveByStride 39 = .ok (.getfield 21, 3) := by decide +kernel
theorem dX0_moveByStride_42 : decode cX0_moveByStride 42 = .ok (.aload_n 0, 1) := by decide +kernel
theorem dX0_moveByStride_43 : decode cX0_moveByStride 43 = .ok (.getfield 46, 3) := by decide +kernel
theorem dX0_moveByStride_46 : decode cX0_moveByStride 46 = .ok (.iload_n 1, 1) := by decide +kernel
theorem dX0_moveByStride_47 : decode cX0_moveByStride 47 = .ok (.iastore, 1) := by decide +kernel
theorem dX0_moveByStride_48 : decode cX0_moveByStride 48 = .ok (.aload_n 0, 1) := by decide +kernel
theorem dX0_moveByStride_49 : decode cX0_moveByStride 49 = .ok (.getfield 24, 3) := by decide +kernel
theorem dX0_moveByStride_52 : decode cX0_moveByStride 52 = .ok (.aload_n 0, 1) := by decide +kernel
theorem dX0_moveByStride_53 : decode cX0_moveByStride 53 = .ok (.getfield 46, 3) := by decide +kernel
theorem dX0_moveByStride_56 : decode cX0_moveByStride 56 = .ok (.dup2, 1) := by decide +kernel
theorem dX0_moveByStride_57 : decode cX0_moveByStride 57 = .ok (.iaload, 1) := by decide +kernel
theorem dX0_moveByStride_58 : decode cX0_moveByStride 58 = .ok (.aload_n 0, 1) := by decide +kernel
theorem dX0_moveByStride_59 : decode cX0_moveByStride 59 = .ok (.getfield 15, 3) := by decide +kernel
theorem dX0_moveByStride_62 : decode cX0_moveByStride 62 = .ok (.iload_n 1, 1) := by decide +kernel
theorem dX0_moveByStride_63 : decode cX0_moveByStride 63 = .ok (.iaload, 1) := by decide +kernel
theorem dX0_moveByStride_64 : decode cX0_moveByStride 64 = .ok (.iadd, 1) := by decide +kernel
theorem dX0_moveByStride_65 : decode cX0_moveByStride 65 = .ok (.iastore, 1) := by decide +kernel
theorem dX0_moveByStride_66 : decode cX0_moveByStride 66 = .ok (.aload_n 0, 1) := by decide +kernel
theorem dX0_moveByStride_67 : decode cX0_moveByStride 67 = .ok (.getfield 15, 3) := by decide +kernel
theorem dX0_moveByStride_70 : decode cX0_moveByStride 70 = .ok (.iload_n 1, 1) := by decide +kernel
theorem dX0_moveByStride_71 : decode cX0_moveByStride 71 = .ok (.iconst 0, 1) := by decide +kernel
theorem dX0_moveByStride_72 : decode cX0_moveByStride 72 = .ok (.iastore, 1) := by decide +kernel
theorem dX0_moveByStride_73 : decode cX0_moveByStride 73 = .ok (.aload_n 0, 1) := by decide +kernel
theorem dX0_moveByStride_74 : decode cX0_moveByStride 74 = .ok (.invokevirtual 114, 3) := by decide +kernel
theorem dX0_moveByStride_77 : decode cX0_moveByStride 77 = .ok (.pop, 1) := by decide +kernel
theorem dX0_moveByStride_78 : decode cX0_moveByStride 78 = .ok (.iconst 0, 1) := by decide +kernel
theorem dX0_moveByStride_79 : decode cX0_moveByStride 79 = .ok (.ireturn, 1) := by decide +kernel
theorem dX0_moveByTurn_0 : decode cX0_moveByTurn 0 = .ok (.aload_n 0, 1) := by decide +kernel
theorem dX0_moveByTurn_1 : decode cX0_moveByTurn 1 = .ok (.getfield 18, 3) := by decide +kernel
theorem dX0_moveByTurn_4 : decode cX0_moveByTurn 4 = .ok (.iconst 2, 1) := by decide +kernel
theorem dX0_moveByTurn_5 : decode cX0_moveByTurn 5 = .ok (.iaload, 1) := by decide +kernel
theorem dX0_moveByTurn_6 : decode cX0_moveByTurn 6 = .ok (.aload_n 0, 1) := by decide +kernel
theorem dX0_moveByTurn_7 : decode cX0_moveByTurn 7 = .ok (.getfield 27, 3) := by decide +kernel
theorem dX0_moveByTurn_10 : decode cX0_moveByTurn 10 = .ok (.aload_n 0, 1) := by decide +kernel
theorem dX0_moveByTurn_11 : decode cX0_moveByTurn 11 = .ok (.getfield 46, 3) := by decide +kernel
theorem dX0_moveByTurn_14 : decode cX0_moveByTurn 14 = .ok (.iaload, 1) := by decide +kernel
theorem dX0_moveByTurn_15 : decode cX0_moveByTurn 15 = .ok (.if_icmp .le 9, 3) := by decide +kernel
theorem dX0_moveByTurn_18 : decode cX0_moveByTurn 18 = .ok (.aload_n 0, 1) := by decide +kernel
theorem dX0_moveByTurn_19 : decode cX0_moveByTurn 19 = .ok (.iconst 4, 1) := by decide +kernel
theorem dX0_moveByTurn_20 : decode cX0_moveByTurn 20 = .ok (.invokevirtual 107, 3) := by decide +kernel
theorem dX0_moveByTurn_23 : decode cX0_moveByTurn 23 = .ok (.ireturn, 1) := by decide +kernel
theorem dX0_moveByTurn_24 : decode cX0_moveByTurn 24 = .ok (.aload_n 0, 1) := by decide +kernel
theorem dX0_moveByTurn_25 : decode cX0_moveByTurn 25 = .ok (.aload_n 0, 1) := by decide +kernel
theorem dX0_moveByTurn_26 : decode cX0_moveByTurn 26 = .ok (.getfield 18, 3) := by decide +kernel
theorem dX0_moveByTurn_29 : decode cX0_moveByTurn 29 = .ok (.iconst 2, 1) := by decide +kernel
theorem dX0_moveByTurn_30 : decode cX0_moveByTurn 30 = .ok (.iaload, 1) := by decide +kernel
theorem dX0_moveByTurn_31 : decode cX0_moveByTurn 31 = .ok (.invokevirtual 110, 3) := by decide +kernel
theorem dX0_moveByTurn_34 : decode cX0_moveByTurn 34 = .ok (.aload_n 0, 1) := by decide +kernel
theorem dX0_moveByTurn_35 : decode cX0_moveByTurn 35 = .ok (.getfield 24, 3) := by decide +kernel
theorem dX0_moveByTurn_38 : decode cX0_moveByTurn 38 = .ok (.aload_n 0, 1) := by decide +kernel
theorem dX0_moveByTurn_39 : decode cX0_moveByTurn 39 = .ok (.getfield 46, 3) := by decide +kernel
theorem dX0_moveByTurn_42 : decode cX0_moveByTurn 42 = .ok (.iaload, 1) := by decide +kernel
theorem dX0_moveByTurn_43 : decode cX0_moveByTurn 43 = .ok (.istore_n 1, 1) := by decide +kernel
theorem dX0_moveByTurn_44 : decode cX0_moveByTurn 44 = .ok (.aload_n 0, 1) := by decide +kernel
theorem dX0_moveByTurn_45 : decode cX0_moveByTurn 45 = .ok (.getfield 24, 3) := by decide +kernel
theorem dX0_moveByTurn_48 : decode cX0_moveByTurn 48 = .ok (.aload_n 0, 1) := by decide +kernel
theorem dX0_moveByTurn_49 : decode cX0_moveByTurn 49 = .ok (.getfield 46, 3) := by decide +kernel
theorem dX0_moveByTurn_52 : decode cX0_moveByTurn 52 = .ok (.aload_n 0, 1) := by decide +kernel
theorem dX0_moveByTurn_53 : decode cX0_moveByTurn 53 = .ok (.getfield 27, 3) := by decide +kernel
theorem dX0_moveByTurn_56 : decode cX0_moveByTurn 56 = .ok (.aload_n 0, 1) := by decide +kernel
theorem dX0_moveByTurn_57 : decode cX0_moveByTurn 57 = .ok (.getfield 46, 3) := by decide +kernel
theorem dX0_moveByTurn_60 : decode cX0_moveByTurn 60 = .ok (.iaload, 1) := by decide +kernel
theorem dX0_moveByTurn_61 : decode cX0_moveByTurn 61 = .ok (.iastore, 1) := by decide +kernel
theorem dX0_moveByTurn_62 : decode cX0_moveByTurn 62 = .ok (.aload_n 0, 1) := by decide +kernel
theorem dX0_moveByTurn_63 : decode cX0_moveByTurn 63 = .ok (.getfield 27, 3) := by decide +kernel
theorem dX0_moveByTurn_66 : decode cX0_moveByTurn 66 = .ok (.aload_n 0, 1) := by decide +kernel
theorem dX0_moveByTurn_67 : decode cX0_moveByTurn 67 = .ok (.getfield 46, 3) := by decide +kernel
theorem dX0_moveByTurn_70 : decode cX0_moveByTurn 70 = .ok (.iload_n 1, 1) := by decide +kernel
theorem dX0_moveByTurn_71 : decode cX0_moveByTurn 71 = .ok (.iastore, 1) := by decide +kernel
theorem dX0_moveByTurn_72 : decode cX0_moveByTurn 72 = .ok (.aload_n 0, 1) := by decide +kernel
theorem dX0_moveByTurn_73 : decode cX0_moveByTurn 73 = .ok (.invokevirtual 114, 3) := by decide +kernel
theorem dX0_moveByTurn_76 : decode cX0_moveByTurn 76 = .ok (.pop, 1) := by decide +kernel
theorem dX0_moveByTurn_77 : decode cX0_moveByTurn 77 = .ok (.iconst 0, 1) := by decide +kernel
theorem dX0_moveByTurn_78 : decode cX0_moveByTurn 78 = .ok (.ireturn, 1) := by decide +kernel
theorem dX0_moveByTag_0 : decode cX0_moveByTag 0 = .ok (.aload_n 0, 1) := by decide +kernel
theorem dX0_moveByTag_1 : decode cX0_moveByTag 1 = .ok (.aload_n 0, 1) := by decide +kernel
theorem dX0_moveByTag_2 : decode cX0_moveByTag 2 = .ok (.getfield 46, 3) := by decide +kernel
theorem dX0_moveByTag_5 : decode cX0_moveByTag 5 = .ok (.iload_n 1, 1) := by decide +kernel
theorem dX0_moveByTag_6 : decode cX0_moveByTag 6 = .ok (.invokevirtual 104, 3) := by decide +kernel
theorem dX0_moveByTag_9 : decode cX0_moveByTag 9 = .ok (.istore_n 2, 1) := by decide +kernel
theorem dX0_moveByTag_10 : decode cX0_moveByTag 10 = .ok (.iload_n 2, 1) := by decide +kernel
theorem dX0_moveByTag_11 : decode cX0_moveByTag 11 = .ok (.ifCond .eq 9, 3) := by decide +kernel
theorem dX0_moveByTag_14 : decode cX0_moveByTag 14 = .ok (.aload_n 0, 1) := by decide +kernel
theorem dX0_moveByTag_15 : decode cX0_moveByTag 15 = .ok (.iload_n 2, 1) := by decide +kernel
theorem dX0_moveByTag_16 : decode cX0_moveByTag 16 = .ok (.invokevirtual 107, 3) := by decide +kernel
theorem dX0_moveByTag_19 : decode cX0_moveByTag 19 = .ok (.ireturn, 1) := by decide +kernel
theorem dX0_moveByTag_20 : decode cX0_moveByTag 20 = .ok (.aload_n 0, 1) := by decide +kernel
theorem dX0_moveByTag_21 : decode cX0_moveByTag 21 = .ok (.getfield 27, 3) := by decide +kernel
theorem dX0_moveByTag_24 : decode cX0_moveByTag 24 = .ok (.iload_n 1, 1) := by decide +kernel
theorem dX0_moveByTag_25 : decode cX0_moveByTag 25 = .ok (.iaload, 1) := by decide +kernel
theorem dX0_moveByTag_26 : decode cX0_moveByTag 26 = .ok (.iconst 2, 1) := by decide +kernel
theorem dX0_moveByTag_27 : decode cX0_moveByTag 27 = .ok (.idiv, 1) := by decide +kernel
theorem dX0_moveByTag_28 : decode cX0_moveByTag 28 = .ok (.istore_n 3, 1) := by decide +kernel
theorem dX0_moveByTag_29 : decode cX0_moveByTag 29 = .ok (.aload_n 0, 1) := by decide +kernel
theorem dX0_moveByTag_30 : decode cX0_moveByTag 30 = .ok (.getfield 27, 3) := by decide +kernel
theorem dX0_moveByTag_33 : decode cX0_moveByTag 33 = .ok (.iload_n 1, 1) := by decide +kernel
theorem dX0_moveByTag_34 : decode cX0_moveByTag 34 = .ok (.dup2, 1) := by decide +kernel
theorem dX0_moveByTag_35 : decode cX0_moveByTag 35 = .ok (.iaload, 1) := by decide +kernel
theorem dX0_moveByTag_36 : decode cX0_moveByTag 36 = .ok (.iload_n 3, 1) := by decide +kernel
theorem dX0_moveByTag_37 : decode cX0_moveByTag 37 = .ok (.isub, 1) := by decide +kernel
theorem dX0_moveByTag_38 : decode cX0_moveByTag 38 = .ok (.iastore, 1) := by decide +kernel
theorem dX0_moveByTag_39 : decode cX0_moveByTag 39 = .ok (.aload_n 0, 1) := by decide +kernel
theorem dX0_moveByTag_40 : decode cX0_moveByTag 40 = .ok (.getfield 24, 3) := by decide +kernel
theorem dX0_moveByTag_43 : decode cX0_moveByTag 43 = .ok (.aload_n 0, 1) := by decide +kernel
theorem dX0_moveByTag_44 : decode cX0_moveByTag 44 = .ok (.getfield 46, 3) := by decide +kernel
theorem dX0_moveByTag_47 : decode cX0_moveByTag 47 = .ok (.dup2, 1) := by decide +kernel
theorem dX0_moveByTag_48 : decode cX0_moveByTag 48 = .ok (.iaload, 1) := by decide +kernel
theorem dX0_moveByTag_49 : decode cX0_moveByTag 49 = .ok (.iload_n 3, 1) := by decide +kernel
theorem dX0_moveByTag_50 : decode cX0_moveByTag 50 = .ok (.iadd, 1) := by decide +kernel
theorem dX0_moveByTag_51 : decode cX0_moveByTag 51 = .ok (.iastore, 1) := by decide +kernel
theorem dX0_moveByTag_52 : decode cX0_moveByTag 52 = .ok (.aload_n 0, 1) := by decide +kernel
theorem dX0_moveByTag_53 : decode cX0_moveByTag 53 = .ok (.getfield 33, 3) := by decide +kernel
theorem dX0_moveByTag_56 : decode cX0_moveByTag 56 = .ok (.aload_n 0, 1) := by decide +kernel
theorem dX0_moveByTag_57 : decode cX0_moveByTag 57 = .ok (.getfield 46, 3) := by decide +kernel
theorem dX0_moveByTag_60 : decode cX0_moveByTag 60 = .ok (.dup2, 1) := by decide +kernel
theorem dX0_moveByTag_61 : decode cX0_moveByTag 61 = .ok (.iaload, 1) := by decide +kernel
theorem dX0_moveByTag_62 : decode cX0_moveByTag 62 = .ok (.iconst 1, 1) := by decide +kernel
theorem dX0_moveByTag_63 : decode cX0_moveByTag 63 = .ok (.iadd, 1) := by decide +kernel
theorem dX0_moveByTag_64 : decode cX0_moveByTag 64 = .ok (.iastore, 1) := by decide +kernel
theorem dX0_moveByTag_65 : decode cX0_moveByTag 65 = .ok (.aload_n 0, 1) := by decide +kernel
theorem dX0_moveByTag_66 : decode cX0_moveByTag 66 = .ok (.getfield 36, 3) := by decide +kernel
theorem dX0_moveByTag_69 : decode cX0_moveByTag 69 = .ok (.iload_n 1, 1) := by decide +kernel
theorem dX0_moveByTag_70 : decode cX0_moveByTag 70 = .ok (.dup2, 1) := by decide +kernel
theorem dX0_moveByTag_71 : decode cX0_moveByTag 71 = .ok (.iaload, 1) := by decide +kernel
theorem dX0_moveByTag_72 : decode cX0_moveByTag 72 = .ok (.iconst 1, 1) := by decide +kernel
theorem dX0_moveByTag_73 : decode cX0_moveByTag 73 = .ok (.iadd, 1) := by decide +kernel
theorem dX0_moveByTag_74 : decode cX0_moveByTag 74 = .ok (.iastore, 1) := by decide +kernel
theorem dX0_moveByTag_75 : decode cX0_moveByTag 75 = .ok (.aload_n 0, 1) := by decide +kernel
theorem dX0_moveByTag_76 : decode cX0_moveByTag 76 = .ok (.dup, 1) := by decide +kernel
theorem dX0_moveByTag_77 : decode cX0_moveByTag 77 = .ok (.getfield 58, 3) := by decide +kernel
theorem dX0_moveByTag_80 : decode cX0_moveByTag 80 = .ok (.iconst 1, 1) := by decide +kernel
theorem dX0_moveByTag_81 : decode cX0_moveByTag 81 = .ok (.iadd, 1) := by decide +kernel
theorem dX0_moveByTag_82 : decode cX0_moveByTag 82 = .ok (.putfield 58, 3) := by decide +kernel
theorem dX0_moveByTag_85 : decode cX0_moveByTag 85 = .ok (.aload_n 0, 1) := by decide +kernel
theorem dX0_moveByTag_86 : decode cX0_moveByTag 86 = .ok (.iload_n 1, 1) := by decide +kernel
theorem dX0_moveByTag_87 : decode cX0_moveByTag 87 = .ok (.putfield 49, 3) := by decide +kernel
theorem dX0_moveByTag_90 : decode cX0_moveByTag 90 = .ok (.aload_n 0, 1) := by decide +kernel
theorem dX0_moveByTag_91 : decode cX0_moveByTag 91 = .ok (.invokevirtual 114, 3) := by decide +kernel
theorem dX0_moveByTag_94 : decode cX0_moveByTag 94 = .ok (.pop, 1) := by decide +kernel
theorem dX0_moveByTag_95 : decode cX0_moveByTag 95 = .ok (.iconst 0, 1) := by decide +kernel
theorem dX0_moveByTag_96 : decode cX0_moveByTag 96 = .ok (.ireturn, 1) := by decide +kernel
theorem dX0_refuse_0 : decode cX0_refuse 0 = .ok (.aload_n 0, 1) := by decide +kernel
theorem dX0_refuse_1 : decode cX0_refuse 1 = .ok (.dup, 1) := by decide +kernel
theorem dX0_refuse_2 : decode cX0_refuse 2 = .ok (.getfield 55, 3) := by decide +kernel
theorem dX0_refuse_5 : decode cX0_refuse 5 = .ok (.iconst 1, 1) := by decide +kernel
theorem dX0_refuse_6 : decode cX0_refuse 6 = .ok (.iadd, 1) := by decide +kernel
theorem dX0_refuse_7 : decode cX0_refuse 7 = .ok (.putfield 55, 3) := by decide +kernel
theorem dX0_refuse_10 : decode cX0_refuse 10 = .ok (.iload_n 1, 1) := by decide +kernel
theorem dX0_refuse_11 : decode cX0_refuse 11 = .ok (.ireturn, 1) := by decide +kernel
theorem dX0_pay_0 : decode cX0_pay 0 = .ok (.aload_n 0, 1) := by decide +kernel
theorem dX0_pay_1 : decode cX0_pay 1 = .ok (.getfield 27, 3) := by decide +kernel
theorem dX0_pay_4 : decode cX0_pay 4 = .ok (.aload_n 0, 1) := by decide +kernel
theorem dX0_pay_5 : decode cX0_pay 5 = .ok (.getfield 46, 3) := by decide +kernel
theorem dX0_pay_8 : decode cX0_pay 8 = .ok (.dup2, 1) := by decide +kernel
theorem dX0_pay_9 : decode cX0_pay 9 = .ok (.iaload, 1) := by decide +kernel
theorem dX0_pay_10 : decode cX0_pay 10 = .ok (.iload_n 1, 1) := by decide +kernel
theorem dX0_pay_11 : decode cX0_pay 11 = .ok (.isub, 1) := by decide +kernel
theorem dX0_pay_12 : decode cX0_pay 12 = .ok (.iastore, 1) := by decide +kernel
theorem dX0_pay_13 : decode cX0_pay 13 = .ok (.aload_n 0, 1) := by decide +kernel
theorem dX0_pay_14 : decode cX0_pay 14 = .ok (.getfield 39, 3) := by decide +kernel
theorem dX0_pay_17 : decode cX0_pay 17 = .ok (.aload_n 0, 1) := by decide +kernel
theorem dX0_pay_18 : decode cX0_pay 18 = .ok (.getfield 46, 3) := by decide +kernel
theorem dX0_pay_21 : decode cX0_pay 21 = .ok (.dup2, 1) := by decide +kernel
theorem dX0_pay_22 : decode cX0_pay 22 = .ok (.iaload, 1) := by decide +kernel
theorem dX0_pay_23 : decode cX0_pay 23 = .ok (.iload_n 1, 1) := by decide +kernel
theorem dX0_pay_24 : decode cX0_pay 24 = .ok (.iadd, 1) := by decide +kernel
theorem dX0_pay_25 : decode cX0_pay 25 = .ok (.iastore, 1) := by decide +kernel
theorem dX0_pay_26 : decode cX0_pay 26 = .ok (.aload_n 0, 1) := by decide +kernel
theorem dX0_pay_27 : decode cX0_pay 27 = .ok (.getfield 15, 3) := by decide +kernel
theorem dX0_pay_30 : decode cX0_pay 30 = .ok (.aload_n 0, 1) := by decide +kernel
theorem dX0_pay_31 : decode cX0_pay 31 = .ok (.getfield 21, 3) := by decide +kernel
theorem dX0_pay_34 : decode cX0_pay 34 = .ok (.aload_n 0, 1) := by decide +kernel
theorem dX0_pay_35 : decode cX0_pay 35 = .ok (.getfield 46, 3) := by decide +kernel
theorem dX0_pay_38 : decode cX0_pay 38 = .ok (.iaload, 1) := by decide +kernel
theorem dX0_pay_39 : decode cX0_pay 39 = .ok (.dup2, 1) := by decide +kernel
theorem dX0_pay_40 : decode cX0_pay 40 = .ok (.iaload, 1) := by decide +kernel
theorem dX0_pay_41 : decode cX0_pay 41 = .ok (.iload_n 1, 1) := by decide +kernel
theorem dX0_pay_42 : decode cX0_pay 42 = .ok (.iadd, 1) := by decide +kernel
theorem dX0_pay_43 : decode cX0_pay 43 = .ok (.iastore, 1) := by decide +kernel
theorem dX0_pay_44 : decode cX0_pay 44 = .ok (.return_, 1) := by decide +kernel
theorem dX0_endMove_0 : decode cX0_endMove 0 = .ok (.aload_n 0, 1) := by decide +kernel
theorem dX0_endMove_1 : decode cX0_endMove 1 = .ok (.getfield 18, 3) := by decide +kernel
theorem dX0_endMove_4 : decode cX0_endMove 4 = .ok (.iconst 0, 1) := by decide +kernel
theorem dX0_endMove_5 : decode cX0_endMove 5 = .ok (.iaload, 1) := by decide +kernel
theorem dX0_endMove_6 : decode cX0_endMove 6 = .ok (.aload_n 0, 1) := by decide +kernel
theorem dX0_endMove_7 : decode cX0_endMove 7 = .ok (.getfield 24, 3) := by decide +kernel
theorem dX0_endMove_10 : decode cX0_endMove 10 = .ok (.aload_n 0, 1) := by decide +kernel
theorem dX0_endMove_11 : decode cX0_endMove 11 = .ok (.getfield 46, 3) := by decide +kernel
theorem dX0_endMove_14 : decode cX0_endMove 14 = .ok (.iaload, 1) := by decide +kernel
theorem dX0_endMove_15 : decode cX0_endMove 15 = .ok (.invokestatic 79, 3) := by decide +kernel
theorem dX0_endMove_18 : decode cX0_endMove 18 = .ok (.istore_n 1, 1) := by decide +kernel
theorem dX0_endMove_19 : decode cX0_endMove 19 = .ok (.aload_n 0, 1) := by decide +kernel
theorem dX0_endMove_20 : decode cX0_endMove 20 = .ok (.getfield 24, 3) := by decide +kernel
theorem dX0_endMove_23 : decode cX0_endMove 23 = .ok (.aload_n 0, 1) := by decide +kernel
theorem dX0_endMove_24 : decode cX0_endMove 24 = .ok (.getfield 46, 3) := by decide +kernel
theorem dX0_endMove_27 : decode cX0_endMove 27 = .ok (.dup2, 1) := by decide +kernel
theorem dX0_endMove_28 : decode cX0_endMove 28 = .ok (.iaload, 1) := by decide +kernel
theorem dX0_endMove_29 : decode cX0_endMove 29 = .ok (.iload_n 1, 1) := by decide +kernel
theorem dX0_endMove_30 : decode cX0_endMove 30 = .ok (.isub, 1) := by decide +kernel
theorem dX0_endMove_31 : decode cX0_endMove 31 = .ok (.iastore, 1) := by decide +kernel
theorem dX0_endMove_32 : decode cX0_endMove 32 = .ok (.aload_n 0, 1) := by decide +kernel
theorem dX0_endMove_33 : decode cX0_endMove 33 = .ok (.getfield 27, 3) := by decide +kernel
theorem dX0_endMove_36 : decode cX0_endMove 36 = .ok (.aload_n 0, 1) := by decide +kernel
theorem dX0_endMove_37 : decode cX0_endMove 37 = .ok (.getfield 46, 3) := by decide +kernel
theorem dX0_endMove_40 : decode cX0_endMove 40 = .ok (.dup2, 1) := by decide +kernel
theorem dX0_endMove_41 : decode cX0_endMove 41 = .ok (.iaload, 1) := by decide +kernel
theorem dX0_endMove_42 : decode cX0_endMove 42 = .ok (.iload_n 1, 1) := by decide +kernel
theorem dX0_endMove_43 : decode cX0_endMove 43 = .ok (.iadd, 1) := by decide +kernel
theorem dX0_endMove_44 : decode cX0_endMove 44 = .ok (.iastore, 1) := by decide +kernel
theorem dX0_endMove_45 : decode cX0_endMove 45 = .ok (.aload_n 0, 1) := by decide +kernel
theorem dX0_endMove_46 : decode cX0_endMove 46 = .ok (.getfield 30, 3) := by decide +kernel
theorem dX0_endMove_49 : decode cX0_endMove 49 = .ok (.aload_n 0, 1) := by decide +kernel
theorem dX0_endMove_50 : decode cX0_endMove 50 = .ok (.getfield 46, 3) := by decide +kernel
theorem dX0_endMove_53 : decode cX0_endMove 53 = .ok (.dup2, 1) := by decide +kernel
theorem dX0_endMove_54 : decode cX0_endMove 54 = .ok (.iaload, 1) := by decide +kernel
theorem dX0_endMove_55 : decode cX0_endMove 55 = .ok (.iconst 1, 1) := by decide +kernel
theorem dX0_endMove_56 : decode cX0_endMove 56 = .ok (.iadd, 1) := by decide +kernel
theorem dX0_endMove_57 : decode cX0_endMove 57 = .ok (.iastore, 1) := by decide +kernel
theorem dX0_endMove_58 : decode cX0_endMove 58 = .ok (.aload_n 0, 1) := by decide +kernel
theorem dX0_endMove_59 : decode cX0_endMove 59 = .ok (.dup, 1) := by decide +kernel
theorem dX0_endMove_60 : decode cX0_endMove 60 = .ok (.getfield 52, 3) := by decide +kernel
theorem dX0_endMove_63 : decode cX0_endMove 63 = .ok (.iconst 1, 1) := by decide +kernel
theorem dX0_endMove_64 : decode cX0_endMove 64 = .ok (.iadd, 1) := by decide +kernel
theorem dX0_endMove_65 : decode cX0_endMove 65 = .ok (.putfield 52, 3) := by decide +kernel
theorem dX0_endMove_68 : decode cX0_endMove 68 = .ok (.aload_n 0, 1) := by decide +kernel
theorem dX0_endMove_69 : decode cX0_endMove 69 = .ok (.aload_n 0, 1) := by decide +kernel
theorem dX0_endMove_70 : decode cX0_endMove 70 = .ok (.getfield 46, 3) := by decide +kernel
theorem dX0_endMove_73 : decode cX0_endMove 73 = .ok (.iconst 1, 1) := by decide +kernel
theorem dX0_endMove_74 : decode cX0_endMove 74 = .ok (.iadd, 1) := by decide +kernel
theorem dX0_endMove_75 : decode cX0_endMove 75 = .ok (.aload_n 0, 1) := by decide +kernel
theorem dX0_endMove_76 : decode cX0_endMove 76 = .ok (.getfield 42, 3) := by decide +kernel
theorem dX0_endMove_79 : decode cX0_endMove 79 = .ok (.if_icmp .ge 12, 3) := by decide +kernel
theorem dX0_endMove_82 : decode cX0_endMove 82 = .ok (.aload_n 0, 1) := by decide +kernel
theorem dX0_endMove_83 : decode cX0_endMove 83 = .ok (.getfield 46, 3) := by decide +kernel
theorem dX0_endMove_86 : decode cX0_endMove 86 = .ok (.iconst 1, 1) := by decide +kernel
theorem dX0_endMove_87 : decode cX0_endMove 87 = .ok (.iadd, 1) := by decide +kernel
theorem dX0_endMove_88 : decode cX0_endMove 88 = .ok (.goto 4, 3) := by decide +kernel
theorem dX0_endMove_91 : decode cX0_endMove 91 = .ok (.iconst 0, 1) := by decide +kernel
theorem dX0_endMove_92 : decode cX0_endMove 92 = .ok (.putfield 46, 3) := by decide +kernel
theorem dX0_endMove_95 : decode cX0_endMove 95 = .ok (.iload_n 1, 1) := by decide +kernel
theorem dX0_endMove_96 : decode cX0_endMove 96 = .ok (.ireturn, 1) := by decide +kernel
theorem dX0_sandBelow_0 : decode cX0_sandBelow 0 = .ok (.iconst 0, 1) := by decide +kernel
theorem dX0_sandBelow_1 : decode cX0_sandBelow 1 = .ok (.istore_n 1, 1) := by decide +kernel
theorem dX0_sandBelow_2 : decode cX0_sandBelow 2 = .ok (.iconst 0, 1) := by decide +kernel
theorem dX0_sandBelow_3 : decode cX0_sandBelow 3 = .ok (.istore_n 2, 1) := by decide +kernel
theorem dX0_sandBelow_4 : decode cX0_sandBelow 4 = .ok (.iload_n 2, 1) := by decide +kernel
theorem dX0_sandBelow_5 : decode cX0_sandBelow 5 = .ok (.aload_n 0, 1) := by decide +kernel
theorem dX0_sandBelow_6 : decode cX0_sandBelow 6 = .ok (.getfield 42, 3) := by decide +kernel
theorem dX0_sandBelow_9 : decode cX0_sandBelow 9 = .ok (.if_icmp .ge 18, 3) := by decide +kernel
theorem dX0_sandBelow_12 : decode cX0_sandBelow 12 = .ok (.iload_n 1, 1) := by decide +kernel
theorem dX0_sandBelow_13 : decode cX0_sandBelow 13 = .ok (.aload_n 0, 1) := by decide +kernel
theorem dX0_sandBelow_14 : decode cX0_sandBelow 14 = .ok (.getfield 27, 3) := by decide +kernel
theorem dX0_sandBelow_17 : decode cX0_sandBelow 17 = .ok (.iload_n 2, 1) := by decide +kernel
theorem dX0_sandBelow_18 : decode cX0_sandBelow 18 = .ok (.iaload, 1) := by decide +kernel
theorem dX0_sandBelow_19 : decode cX0_sandBelow 19 = .ok (.iadd, 1) := by decide +kernel
theorem dX0_sandBelow_20 : decode cX0_sandBelow 20 = .ok (.istore_n 1, 1) := by decide +kernel
theorem dX0_sandBelow_21 : decode cX0_sandBelow 21 = .ok (.iinc 2 1, 3) := by decide +kernel
theorem dX0_sandBelow_24 : decode cX0_sandBelow 24 = .ok (.goto (-20), 3) := by decide +kernel
theorem dX0_sandBelow_27 : decode cX0_sandBelow 27 = .ok (.iload_n 1, 1) := by decide +kernel
theorem dX0_sandBelow_28 : decode cX0_sandBelow 28 = .ok (.ireturn, 1) := by decide +kernel
theorem dX0_sandInGlasses_0 : decode cX0_sandInGlasses 0 = .ok (.aload_n 0, 1) := by decide +kernel
theorem dX0_sandInGlasses_1 : decode cX0_sandInGlasses 1 = .ok (.invokevirtual 118, 3) := by decide +kernel
theorem dX0_sandInGlasses_4 : decode cX0_sandInGlasses 4 = .ok (.istore_n 1, 1) := by decide +kernel
theorem dX0_sandInGlasses_5 : decode cX0_sandInGlasses 5 = .ok (.iconst 0, 1) := by decide +kernel
theorem dX0_sandInGlasses_6 : decode cX0_sandInGlasses 6 = .ok (.istore_n 2, 1) := by decide +kernel
theorem dX0_sandInGlasses_7 : decode cX0_sandInGlasses 7 = .ok (.iload_n 2, 1) := by decide +kernel
theorem dX0_sandInGlasses_8 : decode cX0_sandInGlasses 8 = .ok (.aload_n 0, 1) := by decide +kernel
theorem dX0_sandInGlasses_9 : decode cX0_sandInGlasses 9 = .ok (.getfield 42, 3) := by decide +kernel
theorem dX0_sandInGlasses_12 : decode cX0_sandInGlasses 12 = .ok (.if_icmp .ge 18, 3) := by decide +kernel
theorem dX0_sandInGlasses_15 : decode cX0_sandInGlasses 15 = .ok (.iload_n 1, 1) := by decide +kernel
theorem dX0_sandInGlasses_16 : decode cX0_sandInGlasses 16 = .ok (.aload_n 0, 1) := by decide +kernel
theorem dX0_sandInGlasses_17 : decode cX0_sandInGlasses 17 = .ok (.getfield 24, 3) := by decide +kernel
theorem dX0_sandInGlasses_20 : decode cX0_sandInGlasses 20 = .ok (.iload_n 2, 1) := by decide +kernel
theorem dX0_sandInGlasses_21 : decode cX0_sandInGlasses 21 = .ok (.iaload, 1) := by decide +kernel
theorem dX0_sandInGlasses_22 : decode cX0_sandInGlasses 22 = .ok (.iadd, 1) := by decide +kernel
theorem dX0_sandInGlasses_23 : decode cX0_sandInGlasses 23 = .ok (.istore_n 1, 1) := by decide +kernel
theorem dX0_sandInGlasses_24 : decode cX0_sandInGlasses 24 = .ok (.iinc 2 1, 3) := by decide +kernel
theorem dX0_sandInGlasses_27 : decode cX0_sandInGlasses 27 = .ok (.goto (-20), 3) := by decide +kernel
theorem dX0_sandInGlasses_30 : decode cX0_sandInGlasses 30 = .ok (.iload_n 1, 1) := by decide +kernel
theorem dX0_sandInGlasses_31 : decode cX0_sandInGlasses 31 = .ok (.ireturn, 1) := by decide +kernel
theorem dX0_sandOnTowers_0 : decode cX0_sandOnTowers 0 = .ok (.iconst 0, 1) := by decide +kernel
theorem dX0_sandOnTowers_1 : decode cX0_sandOnTowers 1 = .ok (.istore_n 1, 1) := by decide +kernel
theorem dX0_sandOnTowers_2 : decode cX0_sandOnTowers 2 = .ok (.iconst 0, 1) := by decide +kernel
theorem dX0_sandOnTowers_3 : decode cX0_sandOnTowers 3 = .ok (.istore_n 2, 1) := by decide +kernel
theorem dX0_sandOnTowers_4 : decode cX0_sandOnTowers 4 = .ok (.iload_n 2, 1) := by decide +kernel
theorem dX0_sandOnTowers_5 : decode cX0_sandOnTowers 5 = .ok (.bipush 10, 2) := by decide +kernel
theorem dX0_sandOnTowers_7 : decode cX0_sandOnTowers 7 = .ok (.if_icmp .ge 18, 3) := by decide +kernel
theorem dX0_sandOnTowers_10 : decode cX0_sandOnTowers 10 = .ok (.iload_n 1, 1) := by decide +kernel
theorem dX0_sandOnTowers_11 : decode cX0_sandOnTowers 11 = .ok (.aload_n 0, 1) := by decide +kernel
theorem dX0_sandOnTowers_12 : decode cX0_sandOnTowers 12 = .ok (.getfield 15, 3) := by decide +kernel
theorem dX0_sandOnTowers_15 : decode cX0_sandOnTowers 15 = .ok (.iload_n 2, 1) := by decide +kernel
theorem dX0_sandOnTowers_16 : decode cX0_sandOnTowers 16 = .ok (.iaload, 1) := by decide +kernel
theorem dX0_sandOnTowers_17 : decode cX0_sandOnTowers 17 = .ok (.iadd, 1) := by decide +kernel
theorem dX0_sandOnTowers_18 : decode cX0_sandOnTowers 18 = .ok (.istore_n 1, 1) := by decide +kernel
theorem dX0_sandOnTowers_19 : decode cX0_sandOnTowers 19 = .ok (.iinc 2 1, 3) := by decide +kernel
theorem dX0_sandOnTowers_22 : decode cX0_sandOnTowers 22 = .ok (.goto (-18), 3) := by decide +kernel
theorem dX0_sandOnTowers_25 : decode cX0_sandOnTowers 25 = .ok (.iload_n 1, 1) := by decide +kernel
theorem dX0_sandOnTowers_26 : decode cX0_sandOnTowers 26 = .ok (.ireturn, 1) := by decide +kernel
theorem dX0_shareOfSandBelow_0 : decode cX0_shareOfSandBelow 0 = .ok (.aload_n 0, 1) := by decide +kernel
theorem dX0_shareOfSandBelow_1 : decode cX0_shareOfSandBelow 1 = .ok (.invokevirtual 121, 3) := by decide +kernel
theorem dX0_shareOfSandBelow_4 : decode cX0_shareOfSandBelow 4 = .ok (.istore_n 1, 1) := by decide +kernel
theorem dX0_shareOfSandBelow_5 : decode cX0_shareOfSandBelow 5 = .ok (.iload_n 1, 1) := by decide +kernel
theorem dX0_shareOfSandBelow_6 : decode cX0_shareOfSandBelow 6 = .ok (.ifCond .gt 5, 3) := by decide +kernel
theorem dX0_shareOfSandBelow_9 : decode cX0_shareOfSandBelow 9 = .ok (.dconst 0, 1) := by decide +kernel
theorem dX0_shareOfSandBelow_10 : decode cX0_shareOfSandBelow 10 = .ok (.dreturn, 1) := by decide +kernel
theorem dX0_shareOfSandBelow_11 : decode cX0_shareOfSandBelow 11 = .ok (.aload_n 0, 1) := by decide +kernel
theorem dX0_shareOfSandBelow_12 : decode cX0_shareOfSandBelow 12 = .ok (.invokevirtual 118, 3) := by decide +kernel
theorem dX0_shareOfSandBelow_15 : decode cX0_shareOfSandBelow 15 = .ok (.i2d, 1) := by decide +kernel
theorem dX0_shareOfSandBelow_16 : decode cX0_shareOfSandBelow 16 = .ok (.iload_n 1, 1) := by decide +kernel
theorem dX0_shareOfSandBelow_17 : decode cX0_shareOfSandBelow 17 = .ok (.i2d, 1) := by decide +kernel
theorem dX0_shareOfSandBelow_18 : decode cX0_shareOfSandBelow 18 = .ok (.ddiv, 1) := by decide +kernel
theorem dX0_shareOfSandBelow_19 : decode cX0_shareOfSandBelow 19 = .ok (.dreturn, 1) := by decide +kernel
theorem dX1_init_0 : decode cX1_init 0 = .ok (.aload_n 0, 1) := by decide +kernel
theorem dX1_init_1 : decode cX1_init 1 = .ok (.invokespecial 1, 3) := by decide +kernel
theorem dX1_init_4 : decode cX1_init 4 = .ok (.aload_n 0, 1) := by decide +kernel
theorem dX1_init_5 : decode cX1_init 5 = .ok (.bipush 6, 2) := by decide +kernel
theorem dX1_init_7 : decode cX1_init 7 = .ok (.anewarray 9, 3) := by decide +kernel
theorem dX1_init_10 : decode cX1_init 10 = .ok (.putfield 11, 3) := by decide +kernel
theorem dX1_init_13 : decode cX1_init 13 = .ok (.aload_n 0, 1) := by decide +kernel
theorem dX1_init_14 : decode cX1_init 14 = .ok (.iconst 0, 1) := by decide +kernel
theorem dX1_init_15 : decode cX1_init 15 = .ok (.putfield 15, 3) := by decide +kernel
theorem dX1_init_18 : decode cX1_init 18 = .ok (.aload_n 0, 1) := by decide +kernel
theorem dX1_init_19 : decode cX1_init 19 = .ok (.iconst 0, 1) := by decide +kernel
theorem dX1_init_20 : decode cX1_init 20 = .ok (.putfield 19, 3) := by decide +kernel
theorem dX1_init_23 : decode cX1_init 23 = .ok (.iconst 0, 1) := by decide +kernel
theorem dX1_init_24 : decode cX1_init 24 = .ok (.istore_n 1, 1) := by decide +kernel
theorem dX1_init_25 : decode cX1_init 25 = .ok (.iload_n 1, 1) := by decide +kernel
theorem dX1_init_26 : decode cX1_init 26 = .ok (.bipush 6, 2) := by decide +kernel
theorem dX1_init_28 : decode cX1_init 28 = .ok (.if_icmp .ge 22, 3) := by decide +kernel
theorem dX1_init_31 : decode cX1_init 31 = .ok (.aload_n 0, 1) := by decide +kernel
theorem dX1_init_32 : decode cX1_init 32 = .ok (.getfield 11, 3) := by decide +kernel
theorem dX1_init_35 : decode cX1_init 35 = .ok (.iload_n 1, 1) := by decide +kernel
theorem dX1_init_36 : decode cX1_init 36 = .ok (.new 9, 3) := by decide +kernel
theorem dX1_init_39 : decode cX1_init 39 = .ok (.dup, 1) := by decide +kernel
theorem dX1_init_40 : decode cX1_init 40 = .ok (.invokespecial 22, 3) := by decide +kernel
theorem dX1_init_43 : decode cX1_init 43 = .ok (.aastore, 1) := by decide +kernel
theorem dX1_init_44 : decode cX1_init 44 = .ok (.iinc 1 1, 3) := by decide +kernel
theorem dX1_init_47 : decode cX1_init 47 = .ok (.goto (-22), 3) := by decide +kernel
theorem dX1_init_50 : decode cX1_init 50 = .ok (.return_, 1) := by decide +kernel
theorem dX1_save_0 : decode cX1_save 0 = .ok (.aload_n 0, 1) := by decide +kernel
theorem dX1_save_1 : decode cX1_save 1 = .ok (.getfield 19, 3) := by decide +kernel
theorem dX1_save_4 : decode cX1_save 4 = .ok (.bipush 6, 2) := by decide +kernel
theorem dX1_save_6 : decode cX1_save 6 = .ok (.if_icmp .ne 26, 3) := by decide +kernel
theorem dX1_save_9 : decode cX1_save 9 = .ok (.aload_n 0, 1) := by decide +kernel
theorem dX1_save_10 : decode cX1_save 10 = .ok (.aload_n 0, 1) := by decide +kernel
theorem dX1_save_11 : decode cX1_save 11 = .ok (.getfield 15, 3) := by decide +kernel
theorem dX1_save_14 : decode cX1_save 14 = .ok (.iconst 1, 1) := by decide +kernel
theorem dX1_save_15 : decode cX1_save 15 = .ok (.iadd, 1) := by decide +kernel
theorem dX1_save_16 : decode cX1_save 16 = .ok (.bipush 6, 2) := by decide +kernel
theorem dX1_save_18 : decode cX1_save 18 = .ok (.irem, 1) := by decide +kernel
theorem dX1_save_19 : decode cX1_save 19 = .ok (.putfield 15, 3) := by decide +kernel
theorem dX1_save_22 : decode cX1_save 22 = .ok (.aload_n 0, 1) := by decide +kernel
theorem dX1_save_23 : decode cX1_save 23 = .ok (.dup, 1) := by decide +kernel
theorem dX1_save_24 : decode cX1_save 24 = .ok (.getfield 19, 3) := by decide +kernel
theorem dX1_save_27 : decode cX1_save 27 = .ok (.iconst 1, 1) := by decide +kernel
theorem dX1_save_28 : decode cX1_save 28 = .ok (.isub, 1) := by decide +kernel
theorem dX1_save_29 : decode cX1_save 29 = .ok (.putfield 19, 3) := by decide +kernel
theorem dX1_save_32 : decode cX1_save 32 = .ok (.aload_n 0, 1) := by decide +kernel
theorem dX1_save_33 : decode cX1_save 33 = .ok (.getfield 11, 3) := by decide +kernel
theorem dX1_save_36 : decode cX1_save 36 = .ok (.aload_n 0, 1) := by decide +kernel
theorem dX1_save_37 : decode cX1_save 37 = .ok (.getfield 15, 3) := by decide +kernel
theorem dX1_save_40 : decode cX1_save 40 = .ok (.aload_n 0, 1) := by decide +kernel
theorem dX1_save_41 : decode cX1_save 41 = .ok (.getfield 19, 3) := by decide +kernel
theorem dX1_save_44 : decode cX1_save 44 = .ok (.iadd, 1) := by decide +kernel
theorem dX1_save_45 : decode cX1_save 45 = .ok (.bipush 6, 2) := by decide +kernel
theorem dX1_save_47 : decode cX1_save 47 = .ok (.irem, 1) := by decide +kernel
theorem dX1_save_48 : decode cX1_save 48 = .ok (.aaload, 1) := by decide +kernel
theorem dX1_save_49 : decode cX1_save 49 = .ok (.aload_n 1, 1) := by decide +kernel
theorem dX1_save_50 : decode cX1_save 50 = .ok (.invokevirtual 23, 3) := by decide +kernel
theorem dX1_save_53 : decode cX1_save 53 = .ok (.aload_n 0, 1) := by decide +kernel
theorem dX1_save_54 : decode cX1_save 54 = .ok (.dup, 1) := by decide +kernel
theorem dX1_save_55 : decode cX1_save 55 = .ok (.getfield 19, 3) := by decide +kernel
theorem dX1_save_58 : decode cX1_save 58 = .ok (.iconst 1, 1) := by decide +kernel
theorem dX1_save_59 : decode cX1_save 59 = .ok (.iadd, 1) := by decide +kernel
theorem dX1_save_60 : decode cX1_save 60 = .ok (.putfield 19, 3) := by decide +kernel
theorem dX1_save_63 : decode cX1_save 63 = .ok (.return_, 1) := by decide +kernel
theorem dX1_restoreLatest_0 : decode cX1_restoreLatest 0 = .ok (.aload_n 0, 1) := by decide +kernel
theorem dX1_restoreLatest_1 : decode cX1_restoreLatest 1 = .ok (.getfield 19, 3) := by decide +kernel
theorem dX1_restoreLatest_4 : decode cX1_restoreLatest 4 = .ok (.ifCond .le 34, 3) := by decide +kernel
theorem dX1_restoreLatest_7 : decode cX1_restoreLatest 7 = .ok (.aload_n 0, 1) := by decide +kernel
theorem dX1_restoreLatest_8 : decode cX1_restoreLatest 8 = .ok (.dup, 1) := by decide +kernel
theorem dX1_restoreLatest_9 : decode cX1_restoreLatest 9 = .ok (.getfield 19, 3) := by decide +kernel
theorem dX1_restoreLatest_12 : decode cX1_restoreLatest 12 = .ok (.iconst 1, 1) := by decide +kernel
theorem dX1_restoreLatest_13 : decode cX1_restoreLatest 13 = .ok (.isub, 1) := by decide +kernel
theorem dX1_restoreLatest_14 : decode cX1_restoreLatest 14 = .ok (.putfield 19, 3) := by decide +kernel
theorem dX1_restoreLatest_17 : decode cX1_restoreLatest 17 = .ok (.aload_n 1, 1) := by decide +kernel
theorem dX1_restoreLatest_18 : decode cX1_restoreLatest 18 = .ok (.aload_n 0, 1) := by decide +kernel
theorem dX1_restoreLatest_19 : decode cX1_restoreLatest 19 = .ok (.getfield 11, 3) := by decide +kernel
theorem dX1_restoreLatest_22 : decode cX1_restoreLatest 22 = .ok (.aload_n 0, 1) := by decide +kernel
theorem dX1_restoreLatest_23 : decode cX1_restoreLatest 23 = .ok (.getfield 15, 3) := by decide +kernel
theorem dX1_restoreLatest_26 : decode cX1_restoreLatest 26 = .ok (.aload_n 0, 1) := by decide +kernel
theorem dX1_restoreLatest_27 : decode cX1_restoreLatest 27 = .ok (.getfield 19, 3) := by decide +kernel
theorem dX1_restoreLatest_30 : decode cX1_restoreLatest 30 = .ok (.iadd, 1) := by decide +kernel
theorem dX1_restoreLatest_31 : decode cX1_restoreLatest 31 = .ok (.bipush 6, 2) := by decide +kernel
theorem dX1_restoreLatest_33 : decode cX1_restoreLatest 33 = .ok (.irem, 1) := by decide +kernel
theorem dX1_restoreLatest_34 : decode cX1_restoreLatest 34 = .ok (.aaload, 1) := by decide +kernel
theorem dX1_restoreLatest_35 : decode cX1_restoreLatest 35 = .ok (.invokevirtual 23, 3) := by decide +kernel
theorem dX1_restoreLatest_38 : decode cX1_restoreLatest 38 = .ok (.return_, 1) := by decide +kernel
theorem dX2_init_0 : decode cX2_init 0 = .ok (.aload_n 0, 1) := by decide +kernel
theorem dX2_init_1 : decode cX2_init 1 = .ok (.invokespecial 3, 3) := by decide +kernel
theorem dX2_init_4 : decode cX2_init 4 = .ok (.aload_n 0, 1) := by decide +kernel
theorem dX2_init_5 : decode cX2_init 5 = .ok (.bipush 60, 2) := by decide +kernel
theorem dX2_init_7 : decode cX2_init 7 = .ok (.newarray .int, 2) := by decide +kernel
theorem dX2_init_9 : decode cX2_init 9 = .ok (.putfield 11, 3) := by decide +kernel
theorem dX2_init_12 : decode cX2_init 12 = .ok (.aload_n 0, 1) := by decide +kernel
theorem dX2_init_13 : decode cX2_init 13 = .ok (.iconst 0, 1) := by decide +kernel
theorem dX2_init_14 : decode cX2_init 14 = .ok (.putfield 15, 3) := by decide +kernel
theorem dX2_init_17 : decode cX2_init 17 = .ok (.return_, 1) := by decide +kernel
theorem dX2_add_0 : decode cX2_add 0 = .ok (.aload_n 0, 1) := by decide +kernel
theorem dX2_add_1 : decode cX2_add 1 = .ok (.getfield 15, 3) := by decide +kernel
theorem dX2_add_4 : decode cX2_add 4 = .ok (.bipush 60, 2) := by decide +kernel
theorem dX2_add_6 : decode cX2_add 6 = .ok (.if_icmp .ge 23, 3) := by decide +kernel
theorem dX2_add_9 : decode cX2_add 9 = .ok (.aload_n 0, 1) := by decide +kernel
theorem dX2_add_10 : decode cX2_add 10 = .ok (.getfield 11, 3) := by decide +kernel
theorem dX2_add_13 : decode cX2_add 13 = .ok (.aload_n 0, 1) := by decide +kernel
theorem dX2_add_14 : decode cX2_add 14 = .ok (.getfield 15, 3) := by decide +kernel
theorem dX2_add_17 : decode cX2_add 17 = .ok (.iload_n 1, 1) := by decide +kernel
theorem dX2_add_18 : decode cX2_add 18 = .ok (.iastore, 1) := by decide +kernel
theorem dX2_add_19 : decode cX2_add 19 = .ok (.aload_n 0, 1) := by decide +kernel
theorem dX2_add_20 : decode cX2_add 20 = .ok (.dup, 1) := by decide +kernel
theorem dX2_add_21 : decode cX2_add 21 = .ok (.getfield 15, 3) := by decide +kernel
theorem dX2_add_24 : decode cX2_add 24 = .ok (.iconst 1, 1) := by decide +kernel
theorem dX2_add_25 : decode cX2_add 25 = .ok (.iadd, 1) := by decide +kernel
theorem dX2_add_26 : decode cX2_add 26 = .ok (.putfield 15, 3) := by decide +kernel
theorem dX2_add_29 : decode cX2_add 29 = .ok (.aload_n 0, 1) := by decide +kernel
theorem dX2_add_30 : decode cX2_add 30 = .ok (.getfield 15, 3) := by decide +kernel
theorem dX2_add_33 : decode cX2_add 33 = .ok (.ireturn, 1) := by decide +kernel
theorem dX2_empty_0 : decode cX2_empty 0 = .ok (.aload_n 0, 1) := by decide +kernel
theorem dX2_empty_1 : decode cX2_empty 1 = .ok (.getfield 15, 3) := by decide +kernel
theorem dX2_empty_4 : decode cX2_empty 4 = .ok (.istore_n 1, 1) := by decide +kernel
theorem dX2_empty_5 : decode cX2_empty 5 = .ok (.aload_n 0, 1) := by decide +kernel
theorem dX2_empty_6 : decode cX2_empty 6 = .ok (.iconst 0, 1) := by decide +kernel
theorem dX2_empty_7 : decode cX2_empty 7 = .ok (.putfield 15, 3) := by decide +kernel
theorem dX2_empty_10 : decode cX2_empty 10 = .ok (.iload_n 1, 1) := by decide +kernel
theorem dX2_empty_11 : decode cX2_empty 11 = .ok (.ireturn, 1) := by decide +kernel
theorem dX2_firstWrong_0 : decode cX2_firstWrong 0 = .ok (.iconst 0, 1) := by decide +kernel
theorem dX2_firstWrong_1 : decode cX2_firstWrong 1 = .ok (.istore_n 1, 1) := by decide +kernel
theorem dX2_firstWrong_2 : decode cX2_firstWrong 2 = .ok (.iconst 0, 1) := by decide +kernel
theorem dX2_firstWrong_3 : decode cX2_firstWrong 3 = .ok (.istore_n 2, 1) := by decide +kernel
theorem dX2_firstWrong_4 : decode cX2_firstWrong 4 = .ok (.iload_n 2, 1) := by decide +kernel
theorem dX2_firstWrong_5 : decode cX2_firstWrong 5 = .ok (.aload_n 0, 1) := by decide +kernel
theorem dX2_firstWrong_6 : decode cX2_firstWrong 6 = .ok (.getfield 15, 3) := by decide +kernel
theorem dX2_firstWrong_9 : decode cX2_firstWrong 9 = .ok (.if_icmp .ge 27, 3) := by decide +kernel
theorem dX2_firstWrong_12 : decode cX2_firstWrong 12 = .ok (.iload_n 1, 1) := by decide +kernel
theorem dX2_firstWrong_13 : decode cX2_firstWrong 13 = .ok (.aload_n 0, 1) := by decide +kernel
theorem dX2_firstWrong_14 : decode cX2_firstWrong 14 = .ok (.getfield 11, 3) := by decide +kernel
theorem dX2_firstWrong_17 : decode cX2_firstWrong 17 = .ok (.iload_n 2, 1) := by decide +kernel
theorem dX2_firstWrong_18 : decode cX2_firstWrong 18 = .ok (.iaload, 1) := by decide +kernel
theorem dX2_firstWrong_19 : decode cX2_firstWrong 19 = .ok (.invokestatic 19, 3) := by decide +kernel
theorem dX2_firstWrong_22 : decode cX2_firstWrong 22 = .ok (.istore_n 1, 1) := by decide +kernel
theorem dX2_firstWrong_23 : decode cX2_firstWrong 23 = .ok (.iload_n 1, 1) := by decide +kernel
theorem dX2_firstWrong_24 : decode cX2_firstWrong 24 = .ok (.iconst 3, 1) := by decide +kernel
theorem dX2_firstWrong_25 : decode cX2_firstWrong 25 = .ok (.if_icmp .ne 5, 3) := by decide +kernel
theorem dX2_firstWrong_28 : decode cX2_firstWrong 28 = .ok (.iload_n 2, 1) := by decide +kernel
theorem dX2_firstWrong_29 : decode cX2_firstWrong 29 = .ok (.ireturn, 1) := by decide +kernel
theorem dX2_firstWrong_30 : decode cX2_firstWrong 30 = .ok (.iinc 2 1, 3) := by decide +kernel
theorem dX2_firstWrong_33 : decode cX2_firstWrong 33 = .ok (.goto (-29), 3) := by decide +kernel
theorem dX2_firstWrong_36 : decode cX2_firstWrong 36 = .ok (.aload_n 0, 1) := by decide +kernel
theorem dX2_firstWrong_37 : decode cX2_firstWrong 37 = .ok (.getfield 15, 3) := by decide +kernel
theorem dX2_firstWrong_40 : decode cX2_firstWrong 40 = .ok (.ireturn, 1) := by decide +kernel
theorem dX2_tellsGame_0 : decode cX2_tellsGame 0 = .ok (.aload_n 0, 1) := by decide +kernel
theorem dX2_tellsGame_1 : decode cX2_tellsGame 1 = .ok (.getfield 15, 3) := by decide +kernel
theorem dX2_tellsGame_4 : decode cX2_tellsGame 4 = .ok (.ifCond .le 35, 3) := by decide +kernel
theorem dX2_tellsGame_7 : decode cX2_tellsGame 7 = .ok (.aload_n 0, 1) := by decide +kernel
theorem dX2_tellsGame_8 : decode cX2_tellsGame 8 = .ok (.invokevirtual 23, 3) := by decide +kernel
theorem dX2_tellsGame_11 : decode cX2_tellsGame 11 = .ok (.aload_n 0, 1) := by decide +kernel
theorem dX2_tellsGame_12 : decode cX2_tellsGame 12 = .ok (.getfield 15, 3) := by decide +kernel
theorem dX2_tellsGame_15 : decode cX2_tellsGame 15 = .ok (.if_icmp .ne 24, 3) := by decide +kernel
theorem dX2_tellsGame_18 : decode cX2_tellsGame 18 = .ok (.aload_n 0, 1) := by decide +kernel
theorem dX2_tellsGame_19 : decode cX2_tellsGame 19 = .ok (.getfield 11, 3) := by decide +kernel
theorem dX2_tellsGame_22 : decode cX2_tellsGame 22 = .ok (.aload_n 0, 1) := by decide +kernel
theorem dX2_tellsGame_23 : decode cX2_tellsGame 23 = .ok (.getfield 15, 3) := by decide +kernel
theorem dX2_tellsGame_26 : decode cX2_tellsGame 26 = .ok (.iconst 1, 1) := by decide +kernel
theorem dX2_tellsGame_27 : decode cX2_tellsGame 27 = .ok (.isub, 1) := by decide +kernel
theorem dX2_tellsGame_28 : decode cX2_tellsGame 28 = .ok (.iaload, 1) := by decide +kernel
theorem dX2_tellsGame_29 : decode cX2_tellsGame 29 = .ok (.invokestatic 27, 3) := by decide +kernel
theorem dX2_tellsGame_32 : decode cX2_tellsGame 32 = .ok (.ifCond .ne 7, 3) := by decide +kernel
theorem dX2_tellsGame_35 : decode cX2_tellsGame 35 = .ok (.iconst 1, 1) := by decide +kernel
theorem dX2_tellsGame_36 : decode cX2_tellsGame 36 = .ok (.goto 4, 3) := by decide +kernel
theorem dX2_tellsGame_39 : decode cX2_tellsGame 39 = .ok (.iconst 0, 1) := by decide +kernel
theorem dX2_tellsGame_40 : decode cX2_tellsGame 40 = .ok (.ireturn, 1) := by decide +kernel
theorem dX2_codeAt_0 : decode cX2_codeAt 0 = .ok (.iload_n 1, 1) := by decide +kernel
theorem dX2_codeAt_1 : decode cX2_codeAt 1 = .ok (.ifCond .lt 20, 3) := by decide +kernel
theorem dX2_codeAt_4 : decode cX2_codeAt 4 = .ok (.iload_n 1, 1) := by decide +kernel
theorem dX2_codeAt_5 : decode cX2_codeAt 5 = .ok (.aload_n 0, 1) := by decide +kernel
theorem dX2_codeAt_6 : decode cX2_codeAt 6 = .ok (.getfield 15, 3) := by decide +kernel
theorem dX2_codeAt_9 : decode cX2_codeAt 9 = .ok (.if_icmp .ge 12, 3) := by decide +kernel
theorem dX2_codeAt_12 : decode cX2_codeAt 12 = .ok (.aload_n 0, 1) := by decide +kernel
theorem dX2_codeAt_13 : decode cX2_codeAt 13 = .ok (.getfield 11, 3) := by decide +kernel
theorem dX2_codeAt_16 : decode cX2_codeAt 16 = .ok (.iload_n 1, 1) := by decide +kernel
theorem dX2_codeAt_17 : decode cX2_codeAt 17 = .ok (.iaload, 1) := by decide +kernel
theorem dX2_codeAt_18 : decode cX2_codeAt 18 = .ok (.goto 4, 3) := by decide +kernel
theorem dX2_codeAt_21 : decode cX2_codeAt 21 = .ok (.iconst (-1), 1) := by decide +kernel
theorem dX2_codeAt_22 : decode cX2_codeAt 22 = .ok (.ireturn, 1) := by decide +kernel
theorem dX2_digitAt_0 : decode cX2_digitAt 0 = .ok (.aload_n 0, 1) := by decide +kernel
theorem dX2_digitAt_1 : decode cX2_digitAt 1 = .ok (.iload_n 1, 1) := by decide +kernel
theorem dX2_digitAt_2 : decode cX2_digitAt 2 = .ok (.invokevirtual 31, 3) := by decide +kernel
theorem dX2_digitAt_5 : decode cX2_digitAt 5 = .ok (.istore_n 2, 1) := by decide +kernel
theorem dX2_digitAt_6 : decode cX2_digitAt 6 = .ok (.iload_n 2, 1) := by decide +kernel
theorem dX2_digitAt_7 : decode cX2_digitAt 7 = .ok (.bipush 48, 2) := by decide +kernel
theorem dX2_digitAt_9 : decode cX2_digitAt 9 = .ok (.if_icmp .lt 16, 3) := by decide +kernel
theorem dX2_digitAt_12 : decode cX2_digitAt 12 = .ok (.iload_n 2, 1) := by decide +kernel
theorem dX2_digitAt_13 : decode cX2_digitAt 13 = .ok (.bipush 57, 2) := by decide +kernel
theorem dX2_digitAt_15 : decode cX2_digitAt 15 = .ok (.if_icmp .gt 10, 3) := by decide +kernel
theorem dX2_digitAt_18 : decode cX2_digitAt 18 = .ok (.iload_n 2, 1) := by decide +kernel
theorem dX2_digitAt_19 : decode cX2_digitAt 19 = .ok (.bipush 48, 2) := by decide +kernel
theorem dX2_digitAt_21 : decode cX2_digitAt 21 = .ok (.isub, 1) := by decide +kernel
theorem dX2_digitAt_22 : decode cX2_digitAt 22 = .ok (.goto 4, 3) := by decide +kernel
theorem dX2_digitAt_25 : decode cX2_digitAt 25 = .ok (.iconst (-1), 1) := by decide +kernel
theorem dX2_digitAt_26 : decode cX2_digitAt 26 = .ok (.ireturn, 1) := by decide +kernel
theorem dX2_widthOfMove_0 : decode cX2_widthOfMove 0 = .ok (.aload_n 0, 1) := by decide +kernel
theorem dX2_widthOfMove_1 : decode cX2_widthOfMove 1 = .ok (.iload_n 1, 1) := by decide +kernel
theorem dX2_widthOfMove_2 : decode cX2_widthOfMove 2 = .ok (.invokevirtual 31, 3) := by decide +kernel
theorem dX2_widthOfMove_5 : decode cX2_widthOfMove 5 = .ok (.invokestatic 27, 3) := by decide +kernel
theorem dX2_widthOfMove_8 : decode cX2_widthOfMove 8 = .ok (.ifCond .eq 7, 3) := by decide +kernel
theorem dX2_widthOfMove_11 : decode cX2_widthOfMove 11 = .ok (.iconst 2, 1) := by decide +kernel
theorem dX2_widthOfMove_12 : decode cX2_widthOfMove 12 = .ok (.goto 4, 3) := by decide +kernel
theorem dX2_widthOfMove_15 : decode cX2_widthOfMove 15 = .ok (.iconst 1, 1) := by decide +kernel
theorem dX2_widthOfMove_16 : decode cX2_widthOfMove 16 = .ok (.ireturn, 1) := by decide +kernel
theorem dX2_needsDigit_0 : decode cX2_needsDigit 0 = .ok (.iload_n 0, 1) := by decide +kernel
theorem dX2_needsDigit_1 : decode cX2_needsDigit 1 = .ok (.bipush 115, 2) := by decide +kernel
theorem dX2_needsDigit_3 : decode cX2_needsDigit 3 = .ok (.if_icmp .eq 9, 3) := by decide +kernel
theorem dX2_needsDigit_6 : decode cX2_needsDigit 6 = .ok (.iload_n 0, 1) := by decide +kernel
theorem dX2_needsDigit_7 : decode cX2_needsDigit 7 = .ok (.bipush 116, 2) := by decide +kernel
theorem dX2_needsDigit_9 : decode cX2_needsDigit 9 = .ok (.if_icmp .ne 7, 3) := by decide +kernel
theorem dX2_needsDigit_12 : decode cX2_needsDigit 12 = .ok (.iconst 1, 1) := by decide +kernel
theorem dX2_needsDigit_13 : decode cX2_needsDigit 13 = .ok (.goto 4, 3) := by decide +kernel
theorem dX2_needsDigit_16 : decode cX2_needsDigit 16 = .ok (.iconst 0, 1) := by decide +kernel
theorem dX2_needsDigit_17 : decode cX2_needsDigit 17 = .ok (.ireturn, 1) := by decide +kernel
theorem dX2_awaitedBehind_0 : decode cX2_awaitedBehind 0 = .ok (.iload_n 0, 1) := by decide +kernel
theorem dX2_awaitedBehind_1 : decode cX2_awaitedBehind 1 = .ok (.lookupswitch 63 #[(1, 27), (2, 45)], 27) := by decide +kernel
theorem dX2_awaitedBehind_28 : decode cX2_awaitedBehind 28 = .ok (.iload_n 1, 1) := by decide +kernel
theorem dX2_awaitedBehind_29 : decode cX2_awaitedBehind 29 = .ok (.bipush 48, 2) := by decide +kernel
theorem dX2_awaitedBehind_31 : decode cX2_awaitedBehind 31 = .ok (.if_icmp .lt 13, 3) := by decide +kernel
theorem dX2_awaitedBehind_34 : decode cX2_awaitedBehind 34 = .ok (.iload_n 1, 1) := by decide +kernel
theorem dX2_awaitedBehind_35 : decode cX2_awaitedBehind 35 = .ok (.bipush 57, 2) := by decide +kernel
theorem dX2_awaitedBehind_37 : decode cX2_awaitedBehind 37 = .ok (.if_icmp .gt 7, 3) := by decide +kernel
theorem dX2_awaitedBehind_40 : decode cX2_awaitedBehind 40 = .ok (.iconst 0, 1) := by decide +kernel
theorem dX2_awaitedBehind_41 : decode cX2_awaitedBehind 41 = .ok (.goto 4, 3) := by decide +kernel
theorem dX2_awaitedBehind_44 : decode cX2_awaitedBehind 44 = .ok (.iconst 3, 1) := by decide +kernel
theorem dX2_awaitedBehind_45 : decode cX2_awaitedBehind 45 = .ok (.ireturn, 1) := by decide +kernel
theorem dX2_awaitedBehind_46 : decode cX2_awaitedBehind 46 = .ok (.iload_n 1, 1) := by decide +kernel
theorem dX2_awaitedBehind_47 : decode cX2_awaitedBehind 47 = .ok (.bipush 48, 2) := by decide +kernel
theorem dX2_awaitedBehind_49 : decode cX2_awaitedBehind 49 = .ok (.if_icmp .lt 13, 3) := by decide +kernel
theorem dX2_awaitedBehind_52 : decode cX2_awaitedBehind 52 = .ok (.iload_n 1, 1) := by decide +kernel
theorem dX2_awaitedBehind_53 : decode cX2_awaitedBehind 53 = .ok (.bipush 51, 2) := by decide +kernel
theorem dX2_awaitedBehind_55 : decode cX2_awaitedBehind 55 = .ok (.if_icmp .gt 7, 3) := by decide +kernel
theorem dX2_awaitedBehind_58 : decode cX2_awaitedBehind 58 = .ok (.iconst 0, 1) := by decide +kernel
theorem dX2_awaitedBehind_59 : decode cX2_awaitedBehind 59 = .ok (.goto 4, 3) := by decide +kernel
theorem dX2_awaitedBehind_62 : decode cX2_awaitedBehind 62 = .ok (.iconst 3, 1) := by decide +kernel
theorem dX2_awaitedBehind_63 : decode cX2_awaitedBehind 63 = .ok (.ireturn, 1) := by decide +kernel
theorem dX2_awaitedBehind_64 : decode cX2_awaitedBehind 64 = .ok (.iload_n 1, 1) := by decide +kernel
theorem dX2_awaitedBehind_65 : decode cX2_awaitedBehind 65 = .ok (.invokestatic 35, 3) := by decide +kernel
theorem dX2_awaitedBehind_68 : decode cX2_awaitedBehind 68 = .ok (.ireturn, 1) := by decide +kernel
theorem dX2_awaitedBehindLetter_0 : decode cX2_awaitedBehindLetter 0 = .ok (.iload_n 0, 1) := by decide +kernel
theorem dX2_awaitedBehindLetter_1 : decode cX2_awaitedBehindLetter 1 = .ok (.tableswitch 57 111 119 #[51, 57, 57, 57, 53, 55, 57, 57, 51], 51) := by decide +kernel
theorem dX2_awaitedBehindLetter_52 : decode cX2_awaitedBehindLetter 52 = .ok (.iconst 0, 1) := by decide +kernel
theorem dX2_awaitedBehindLetter_53 : decode cX2_awaitedBehindLetter 53 = .ok (.ireturn, 1) := by decide +kernel
theorem dX2_awaitedBehindLetter_54 : decode cX2_awaitedBehindLetter 54 = .ok (.iconst 1, 1) := by decide +kernel
theorem dX2_awaitedBehindLetter_55 : decode cX2_awaitedBehindLetter 55 = .ok (.ireturn, 1) := by decide +kernel
theorem dX2_awaitedBehindLetter_56 : decode cX2_awaitedBehindLetter 56 = .ok (.iconst 2, 1) := by decide +kernel
theorem dX2_awaitedBehindLetter_57 : decode cX2_awaitedBehindLetter 57 = .ok (.ireturn, 1) := by decide +kernel
theorem dX2_awaitedBehindLetter_58 : decode cX2_awaitedBehindLetter 58 = .ok (.iconst 3, 1) := by decide +kernel
theorem dX2_awaitedBehindLetter_59 : decode cX2_awaitedBehindLetter 59 = .ok (.ireturn, 1) := by decide +kernel
theorem dX3_init_0 : decode cX3_init 0 = .ok (.aload_n 0, 1) := by decide +kernel
theorem dX3_init_1 : decode cX3_init 1 = .ok (.invokespecial 3, 3) := by decide +kernel
theorem dX3_init_4 : decode cX3_init 4 = .ok (.aload_n 0, 1) := by decide +kernel
theorem dX3_init_5 : decode cX3_init 5 = .ok (.bipush 10, 2) := by decide +kernel
theorem dX3_init_7 : decode cX3_init 7 = .ok (.newarray .int, 2) := by decide +kernel
theorem dX3_init_9 : decode cX3_init 9 = .ok (.putfield 9, 3) := by decide +kernel
theorem dX3_init_12 : decode cX3_init 12 = .ok (.aload_n 0, 1) := by decide +kernel
theorem dX3_init_13 : decode cX3_init 13 = .ok (.iconst 0, 1) := by decide +kernel
theorem dX3_init_14 : decode cX3_init 14 = .ok (.putfield 15, 3) := by decide +kernel
theorem dX3_init_17 : decode cX3_init 17 = .ok (.aload_n 0, 1) := by decide +kernel
theorem dX3_init_18 : decode cX3_init 18 = .ok (.iconst 0, 1) := by decide +kernel
theorem dX3_init_19 : decode cX3_init 19 = .ok (.putfield 19, 3) := by decide +kernel
theorem dX3_init_22 : decode cX3_init 22 = .ok (.aload_n 0, 1) := by decide +kernel
theorem dX3_init_23 : decode cX3_init 23 = .ok (.iconst 0, 1) := by decide +kernel
theorem dX3_init_24 : decode cX3_init 24 = .ok (.putfield 22, 3) := by decide +kernel
theorem dX3_init_27 : decode cX3_init 27 = .ok (.return_, 1) := by decide +kernel
theorem dX3_fewestTurns_0 : decode cX3_fewestTurns 0 = .ok (.aload_n 1, 1) := by decide +kernel
theorem dX3_fewestTurns_1 : decode cX3_fewestTurns 1 = .ok (.getfield 25, 3) := by decide +kernel
theorem dX3_fewestTurns_4 : decode cX3_fewestTurns 4 = .ok (.iload_n 3, 1) := by decide +kernel
theorem dX3_fewestTurns_5 : decode cX3_fewestTurns 5 = .ok (.iaload, 1) := by decide +kernel
theorem dX3_fewestTurns_6 : decode cX3_fewestTurns 6 = .ok (.iload 4, 2) := by decide +kernel
theorem dX3_fewestTurns_8 : decode cX3_fewestTurns 8 = .ok (.if_icmp .ne 5, 3) := by decide +kernel
theorem dX3_fewestTurns_11 : decode cX3_fewestTurns 11 = .ok (.iconst 0, 1) := by decide +kernel
theorem dX3_fewestTurns_12 : decode cX3_fewestTurns 12 = .ok (.ireturn, 1) := by decide +kernel
theorem dX3_fewestTurns_13 : decode cX3_fewestTurns 13 = .ok (.aload_n 1, 1) := by decide +kernel
theorem dX3_fewestTurns_14 : decode cX3_fewestTurns 14 = .ok (.getfield 30, 3) := by decide +kernel
theorem dX3_fewestTurns_17 : decode cX3_fewestTurns 17 = .ok (.iconst 0, 1) := by decide +kernel
theorem dX3_fewestTurns_18 : decode cX3_fewestTurns 18 = .ok (.aload_n 0, 1) := by decide +kernel
theorem dX3_fewestTurns_19 : decode cX3_fewestTurns 19 = .ok (.getfield 9, 3) := by decide +kernel
theorem dX3_fewestTurns_22 : decode cX3_fewestTurns 22 = .ok (.iconst 0, 1) := by decide +kernel
theorem dX3_fewestTurns_23 : decode cX3_fewestTurns 23 = .ok (.bipush 10, 2) := by decide +kernel
theorem dX3_fewestTurns_25 : decode cX3_fewestTurns 25 = .ok (.invokestatic 31, 3) := by decide +kernel
theorem dX3_fewestTurns_28 : decode cX3_fewestTurns 28 = .ok (.aload_n 0, 1) := by decide +kernel
theorem dX3_fewestTurns_29 : decode cX3_fewestTurns 29 = .ok (.iload 4, 2) := by decide +kernel
theorem dX3_fewestTurns_31 : decode cX3_fewestTurns 31 = .ok (.putfield 15, 3) := by decide +kernel
theorem dX3_fewestTurns_34 : decode cX3_fewestTurns 34 = .ok (.aload_n 0, 1) := by decide +kernel
theorem dX3_fewestTurns_35 : decode cX3_fewestTurns 35 = .ok (.aload_n 1, 1) := by decide +kernel
theorem dX3_fewestTurns_36 : decode cX3_fewestTurns 36 = .ok (.getfield 37, 3) := by decide +kernel
theorem dX3_fewestTurns_39 : decode cX3_fewestTurns 39 = .ok (.iconst 0, 1) := by decide +kernel
theorem dX3_fewestTurns_40 : decode cX3_fewestTurns 40 = .ok (.iaload, 1) := by decide +kernel
theorem dX3_fewestTurns_41 : decode cX3_fewestTurns 41 = .ok (.putfield 19, 3) := by decide +kernel
theorem dX3_fewestTurns_44 : decode cX3_fewestTurns 44 = .ok (.aload_n 0, 1) := by decide +kernel
theorem dX3_fewestTurns_45 : decode cX3_fewestTurns 45 = .ok (.aload_n 1, 1) := by decide +kernel
theorem dX3_fewestTurns_46 : decode cX3_fewestTurns 46 = .ok (.getfield 37, 3) := by decide +kernel
theorem dX3_fewestTurns_49 : decode cX3_fewestTurns 49 = .ok (.iconst 2, 1) := by decide +kernel
theorem dX3_fewestTurns_50 : decode cX3_fewestTurns 50 = .ok (.iaload, 1) := by decide +kernel
theorem dX3_fewestTurns_51 : decode cX3_fewestTurns 51 = .ok (.putfield 22, 3) := by decide +kernel
theorem dX3_fewestTurns_54 : decode cX3_fewestTurns 54 = .ok (.iconst 1, 1) := by decide +kernel
theorem dX3_fewestTurns_55 : decode cX3_fewestTurns 55 = .ok (.istore 5, 2) := by decide +kernel
theorem dX3_fewestTurns_57 : decode cX3_fewestTurns 57 = .ok (.iload 5, 2) := by decide +kernel
theorem dX3_fewestTurns_59 : decode cX3_fewestTurns 59 = .ok (.iconst 4, 1) := by decide +kernel
theorem dX3_fewestTurns_60 : decode cX3_fewestTurns 60 = .ok (.if_icmp .gt 40, 3) := by decide +kernel
theorem dX3_fewestTurns_63 : decode cX3_fewestTurns 63 = .ok (.aload_n 0, 1) := by decide +kernel
theorem dX3_fewestTurns_64 : decode cX3_fewestTurns 64 = .ok (.aload_n 2, 1) := by decide +kernel
theorem dX3_fewestTurns_65 : decode cX3_fewestTurns 65 = .ok (.aload_n 1, 1) := by decide +kernel
theorem dX3_fewestTurns_66 : decode cX3_fewestTurns 66 = .ok (.getfield 25, 3) := by decide +kernel
theorem dX3_fewestTurns_69 : decode cX3_fewestTurns 69 = .ok (.iload_n 3, 1) := by decide +kernel
theorem dX3_fewestTurns_70 : decode cX3_fewestTurns 70 = .ok (.iaload, 1) := by decide +kernel
theorem dX3_fewestTurns_71 : decode cX3_fewestTurns 71 = .ok (.aload_n 1, 1) := by decide +kernel
theorem dX3_fewestTurns_72 : decode cX3_fewestTurns 72 = .ok (.getfield 40, 3) := by decide +kernel
theorem dX3_fewestTurns_75 : decode cX3_fewestTurns 75 = .ok (.iload_n 3, 1) := by decide +kernel
theorem dX3_fewestTurns_76 : decode cX3_fewestTurns 76 = .ok (.iaload, 1) := by decide +kernel
theorem dX3_fewestTurns_77 : decode cX3_fewestTurns 77 = .ok (.aload_n 1, 1) := by decide +kernel
theorem dX3_fewestTurns_78 : decode cX3_fewestTurns 78 = .ok (.getfield 43, 3) := by decide +kernel
theorem dX3_fewestTurns_81 : decode cX3_fewestTurns 81 = .ok (.iload_n 3, 1) := by decide +kernel
theorem dX3_fewestTurns_82 : decode cX3_fewestTurns 82 = .ok (.iaload, 1) := by decide +kernel
theorem dX3_fewestTurns_83 : decode cX3_fewestTurns 83 = .ok (.iload 5, 2) := by decide +kernel
theorem dX3_fewestTurns_85 : decode cX3_fewestTurns 85 = .ok (.invokestatic 46, 3) := by decide +kernel
theorem dX3_fewestTurns_88 : decode cX3_fewestTurns 88 = .ok (.ifCond .eq 6, 3) := by decide +kernel
theorem dX3_fewestTurns_91 : decode cX3_fewestTurns 91 = .ok (.iload 5, 2) := by decide +kernel
theorem dX3_fewestTurns_93 : decode cX3_fewestTurns 93 = .ok (.ireturn, 1) := by decide +kernel
theorem dX3_fewestTurns_94 : decode cX3_fewestTurns 94 = .ok (.iinc 5 1, 3) := by decide +kernel
theorem dX3_fewestTurns_97 : decode cX3_fewestTurns 97 = .ok (.goto (-40), 3) := by decide +kernel
theorem dX3_fewestTurns_100 : decode cX3_fewestTurns 100 = .ok (.iconst (-1), 1) := by decide +kernel
theorem dX3_fewestTurns_101 : decode cX3_fewestTurns 101 = .ok (.ireturn, 1) := by decide +kernel
theorem dX3_reaches_0 : decode cX3_reaches 0 = .ok (.iload 5, 2) := by decide +kernel
theorem dX3_reaches_2 : decode cX3_reaches 2 = .ok (.ifCond .gt 5, 3) := by decide +kernel
theorem dX3_reaches_5 : decode cX3_reaches 5 = .ok (.iconst 0, 1) := by decide +kernel
theorem dX3_reaches_6 : decode cX3_reaches 6 = .ok (.ireturn, 1) := by decide +kernel
theorem dX3_reaches_7 : decode cX3_reaches 7 = .ok (.aload_n 1, 1) := by decide +kernel
theorem dX3_reaches_8 : decode cX3_reaches 8 = .ok (.getfield 50, 3) := by decide +kernel
theorem dX3_reaches_11 : decode cX3_reaches 11 = .ok (.iload_n 2, 1) := by decide +kernel
theorem dX3_reaches_12 : decode cX3_reaches 12 = .ok (.aaload, 1) := by decide +kernel
theorem dX3_reaches_13 : decode cX3_reaches 13 = .ok (.aload_n 0, 1) := by decide +kernel
theorem dX3_reaches_14 : decode cX3_reaches 14 = .ok (.getfield 15, 3) := by decide +kernel
theorem dX3_reaches_17 : decode cX3_reaches 17 = .ok (.iaload, 1) := by decide +kernel
theorem dX3_reaches_18 : decode cX3_reaches 18 = .ok (.iload 4, 2) := by decide +kernel
theorem dX3_reaches_20 : decode cX3_reaches 20 = .ok (.if_icmp .gt 5, 3) := by decide +kernel
theorem dX3_reaches_23 : decode cX3_reaches 23 = .ok (.iconst 1, 1) := by decide +kernel
theorem dX3_reaches_24 : decode cX3_reaches 24 = .ok (.ireturn, 1) := by decide +kernel
theorem dX3_reaches_25 : decode cX3_reaches 25 = .ok (.iload 5, 2) := by decide +kernel
theorem dX3_reaches_27 : decode cX3_reaches 27 = .ok (.iconst 1, 1) := by decide +kernel
theorem dX3_reaches_28 : decode cX3_reaches 28 = .ok (.if_icmp .ne 5, 3) := by decide +kernel
theorem dX3_reaches_31 : decode cX3_reaches 31 = .ok (.iconst 0, 1) := by decide +kernel
theorem dX3_reaches_32 : decode cX3_reaches 32 = .ok (.ireturn, 1) := by decide +kernel
theorem dX3_reaches_33 : decode cX3_reaches 33 = .ok (.aload_n 0, 1) := by decide +kernel
theorem dX3_reaches_34 : decode cX3_reaches 34 = .ok (.aload_n 1, 1) := by decide +kernel
theorem dX3_reaches_35 : decode cX3_reaches 35 = .ok (.iload_n 2, 1) := by decide +kernel
theorem dX3_reaches_36 : decode cX3_reaches 36 = .ok (.iload_n 3, 1) := by decide +kernel
theorem dX3_reaches_37 : decode cX3_reaches 37 = .ok (.iload 4, 2) := by decide +kernel
theorem dX3_reaches_39 : decode cX3_reaches 39 = .ok (.iload 5, 2) := by decide +kernel
theorem dX3_reaches_41 : decode cX3_reaches 41 = .ok (.invokestatic 56, 3) := by decide +kernel
theorem dX3_reaches_44 : decode cX3_reaches 44 = .ok (.ifCond .ne 31, 3) := by decide +kernel
theorem dX3_reaches_47 : decode cX3_reaches 47 = .ok (.aload_n 0, 1) := by decide +kernel
theorem dX3_reaches_48 : decode cX3_reaches 48 = .ok (.aload_n 1, 1) := by decide +kernel
theorem dX3_reaches_49 : decode cX3_reaches 49 = .ok (.iload_n 2, 1) := by decide +kernel
theorem dX3_reaches_50 : decode cX3_reaches 50 = .ok (.iload_n 3, 1) := by decide +kernel
theorem dX3_reaches_51 : decode cX3_reaches 51 = .ok (.iload 4, 2) := by decide +kernel
theorem dX3_reaches_53 : decode cX3_reaches 53 = .ok (.iload 5, 2) := by decide +kernel
theorem dX3_reaches_55 : decode cX3_reaches 55 = .ok (.invokestatic 59, 3) := by decide +kernel
theorem dX3_reaches_58 : decode cX3_reaches 58 = .ok (.ifCond .ne 17, 3) := by decide +kernel
theorem dX3_reaches_61 : decode cX3_reaches 61 = .ok (.aload_n 0, 1) := by decide +kernel
theorem dX3_reaches_62 : decode cX3_reaches 62 = .ok (.aload_n 1, 1) := by decide +kernel
theorem dX3_reaches_63 : decode cX3_reaches 63 = .ok (.iload_n 2, 1) := by decide +kernel
theorem dX3_reaches_64 : decode cX3_reaches 64 = .ok (.iload_n 3, 1) := by decide +kernel
theorem dX3_reaches_65 : decode cX3_reaches 65 = .ok (.iload 4, 2) := by decide +kernel
theorem dX3_reaches_67 : decode cX3_reaches 67 = .ok (.iload 5, 2) := by decide +kernel
theorem dX3_reaches_69 : decode cX3_reaches 69 = .ok (.invokestatic 62, 3) := by decide +kernel
theorem dX3_reaches_72 : decode cX3_reaches 72 = .ok (.ifCond .eq 7, 3) := by decide +kernel
theorem dX3_reaches_75 : decode cX3_reaches 75 = .ok (.iconst 1, 1) := by decide +kernel
theorem dX3_reaches_76 : decode cX3_reaches 76 = .ok (.goto 4, 3) := by decide +kernel
theorem dX3_reaches_79 : decode cX3_reaches 79 = .ok (.iconst 0, 1) := by decide +kernel
theorem dX3_reaches_80 : decode cX3_reaches 80 = .ok (.ireturn, 1) := by decide +kernel
theorem dX3_reachesBehindRun_0 : decode cX3_reachesBehindRun 0 = .ok (.aload_n 0, 1) := by decide +kernel
theorem dX3_reachesBehindRun_1 : decode cX3_reachesBehindRun 1 = .ok (.getfield 19, 3) := by decide +kernel
theorem dX3_reachesBehindRun_4 : decode cX3_reachesBehindRun 4 = .ok (.iload_n 3, 1) := by decide +kernel
theorem dX3_reachesBehindRun_5 : decode cX3_reachesBehindRun 5 = .ok (.invokestatic 65, 3) := by decide +kernel
theorem dX3_reachesBehindRun_8 : decode cX3_reachesBehindRun 8 = .ok (.istore 6, 2) := by decide +kernel
theorem dX3_reachesBehindRun_10 : decode cX3_reachesBehindRun 10 = .ok (.aload_n 0, 1) := by decide +kernel
theorem dX3_reachesBehindRun_11 : decode cX3_reachesBehindRun 11 = .ok (.aload_n 1, 1) := by decide +kernel
theorem dX3_reachesBehindRun_12 : decode cX3_reachesBehindRun 12 = .ok (.iload_n 2, 1) := by decide +kernel
theorem dX3_reachesBehindRun_13 : decode cX3_reachesBehindRun 13 = .ok (.iload_n 3, 1) := by decide +kernel
theorem dX3_reachesBehindRun_14 : decode cX3_reachesBehindRun 14 = .ok (.iload 6, 2) := by decide +kernel
theorem dX3_reachesBehindRun_16 : decode cX3_reachesBehindRun 16 = .ok (.isub, 1) := by decide +kernel
theorem dX3_reachesBehindRun_17 : decode cX3_reachesBehindRun 17 = .ok (.iload 4, 2) := by decide +kernel
theorem dX3_reachesBehindRun_19 : decode cX3_reachesBehindRun 19 = .ok (.iload 6, 2) := by decide +kernel
theorem dX3_reachesBehindRun_21 : decode cX3_reachesBehindRun 21 = .ok (.iadd, 1) := by decide +kernel
theorem dX3_reachesBehindRun_22 : decode cX3_reachesBehindRun 22 = .ok (.iload 5, 2) := by decide +kernel
theorem dX3_reachesBehindRun_24 : decode cX3_reachesBehindRun 24 = .ok (.iconst 1, 1) := by decide +kernel
theorem dX3_reachesBehindRun_25 : decode cX3_reachesBehindRun 25 = .ok (.isub, 1) := by decide +kernel
theorem dX3_reachesBehindRun_26 : decode cX3_reachesBehindRun 26 = .ok (.invokestatic 46, 3) := by decide +kernel
theorem dX3_reachesBehindRun_29 : decode cX3_reachesBehindRun 29 = .ok (.ireturn, 1) := by decide +kernel
theorem dX3_reachesBehindTurn_0 : decode cX3_reachesBehindTurn 0 = .ok (.aload_n 0, 1) := by decide +kernel
theorem dX3_reachesBehindTurn_1 : decode cX3_reachesBehindTurn 1 = .ok (.getfield 22, 3) := by decide +kernel
theorem dX3_reachesBehindTurn_4 : decode cX3_reachesBehindTurn 4 = .ok (.istore 6, 2) := by decide +kernel
theorem dX3_reachesBehindTurn_6 : decode cX3_reachesBehindTurn 6 = .ok (.iload 6, 2) := by decide +kernel
theorem dX3_reachesBehindTurn_8 : decode cX3_reachesBehindTurn 8 = .ok (.iload 4, 2) := by decide +kernel
theorem dX3_reachesBehindTurn_10 : decode cX3_reachesBehindTurn 10 = .ok (.if_icmp .le 5, 3) := by decide +kernel
theorem dX3_reachesBehindTurn_13 : decode cX3_reachesBehindTurn 13 = .ok (.iconst 0, 1) := by decide +kernel
theorem dX3_reachesBehindTurn_14 : decode cX3_reachesBehindTurn 14 = .ok (.ireturn, 1) := by decide +kernel
theorem dX3_reachesBehindTurn_15 : decode cX3_reachesBehindTurn 15 = .ok (.aload_n 0, 1) := by decide +kernel
theorem dX3_reachesBehindTurn_16 : decode cX3_reachesBehindTurn 16 = .ok (.getfield 9, 3) := by decide +kernel
theorem dX3_reachesBehindTurn_19 : decode cX3_reachesBehindTurn 19 = .ok (.iload_n 2, 1) := by decide +kernel
theorem dX3_reachesBehindTurn_20 : decode cX3_reachesBehindTurn 20 = .ok (.dup2, 1) := by decide +kernel
theorem dX3_reachesBehindTurn_21 : decode cX3_reachesBehindTurn 21 = .ok (.iaload, 1) := by decide +kernel
theorem dX3_reachesBehindTurn_22 : decode cX3_reachesBehindTurn 22 = .ok (.iload 6, 2) := by decide +kernel
theorem dX3_reachesBehindTurn_24 : decode cX3_reachesBehindTurn 24 = .ok (.iadd, 1) := by decide +kernel
theorem dX3_reachesBehindTurn_25 : decode cX3_reachesBehindTurn 25 = .ok (.iastore, 1) := by decide +kernel
theorem dX3_reachesBehindTurn_26 : decode cX3_reachesBehindTurn 26 = .ok (.aload_n 0, 1) := by decide +kernel
theorem dX3_reachesBehindTurn_27 : decode cX3_reachesBehindTurn 27 = .ok (.aload_n 1, 1) := by decide +kernel
theorem dX3_reachesBehindTurn_28 : decode cX3_reachesBehindTurn 28 = .ok (.iload_n 2, 1) := by decide +kernel
theorem dX3_reachesBehindTurn_29 : decode cX3_reachesBehindTurn 29 = .ok (.iload 4, 2) := by decide +kernel
theorem dX3_reachesBehindTurn_31 : decode cX3_reachesBehindTurn 31 = .ok (.iload 6, 2) := by decide +kernel
theorem dX3_reachesBehindTurn_33 : decode cX3_reachesBehindTurn 33 = .ok (.isub, 1) := by decide +kernel
theorem dX3_reachesBehindTurn_34 : decode cX3_reachesBehindTurn 34 = .ok (.iload_n 3, 1) := by decide +kernel
theorem dX3_reachesBehindTurn_35 : decode cX3_reachesBehindTurn 35 = .ok (.iload 5, 2) := by decide +kernel
theorem dX3_reachesBehindTurn_37 : decode cX3_reachesBehindTurn 37 = .ok (.invokestatic 56, 3) := by decide +kernel
theorem dX3_reachesBehindTurn_40 : decode cX3_reachesBehindTurn 40 = .ok (.istore 7, 2) := by decide +kernel
theorem dX3_reachesBehindTurn_42 : decode cX3_reachesBehindTurn 42 = .ok (.aload_n 0, 1) := by decide +kernel
theorem dX3_reachesBehindTurn_43 : decode cX3_reachesBehindTurn 43 = .ok (.getfield 9, 3) := by decide +kernel
theorem dX3_reachesBehindTurn_46 : decode cX3_reachesBehindTurn 46 = .ok (.iload_n 2, 1) := by decide +kernel
theorem dX3_reachesBehindTurn_47 : decode cX3_reachesBehindTurn 47 = .ok (.dup2, 1) := by decide +kernel
theorem dX3_reachesBehindTurn_48 : decode cX3_reachesBehindTurn 48 = .ok (.iaload, 1) := by decide +kernel
theorem dX3_reachesBehindTurn_49 : decode cX3_reachesBehindTurn 49 = .ok (.iload 6, 2) := by decide +kernel
theorem dX3_reachesBehindTurn_51 : decode cX3_reachesBehindTurn 51 = .ok (.isub, 1) := by decide +kernel
theorem dX3_reachesBehindTurn_52 : decode cX3_reachesBehindTurn 52 = .ok (.iastore, 1) := by decide +kernel
theorem dX3_reachesBehindTurn_53 : decode cX3_reachesBehindTurn 53 = .ok (.iload 7, 2) := by decide +kernel
theorem dX3_reachesBehindTurn_55 : decode cX3_reachesBehindTurn 55 = .ok (.ireturn, 1) := by decide +kernel
theorem dX3_reachesBehindStride_0 : decode cX3_reachesBehindStride 0 = .ok (.iconst 0, 1) := by decide +kernel
theorem dX3_reachesBehindStride_1 : decode cX3_reachesBehindStride 1 = .ok (.istore 6, 2) := by decide +kernel
theorem dX3_reachesBehindStride_3 : decode cX3_reachesBehindStride 3 = .ok (.iconst 0, 1) := by decide +kernel
theorem dX3_reachesBehindStride_4 : decode cX3_reachesBehindStride 4 = .ok (.istore 7, 2) := by decide +kernel
theorem dX3_reachesBehindStride_6 : decode cX3_reachesBehindStride 6 = .ok (.iload 7, 2) := by decide +kernel
theorem dX3_reachesBehindStride_8 : decode cX3_reachesBehindStride 8 = .ok (.bipush 10, 2) := by decide +kernel
theorem dX3_reachesBehindStride_10 : decode cX3_reachesBehindStride 10 = .ok (.if_icmp .ge 106, 3) := by decide +kernel
theorem dX3_reachesBehindStride_13 : decode cX3_reachesBehindStride 13 = .ok (.iload 6, 2) := by decide +kernel
theorem dX3_reachesBehindStride_15 : decode cX3_reachesBehindStride 15 = .ok (.ifCond .ne 101, 3) := by decide +kernel
theorem dX3_reachesBehindStride_18 : decode cX3_reachesBehindStride 18 = .ok (.aload_n 1, 1) := by decide +kernel
theorem dX3_reachesBehindStride_19 : decode cX3_reachesBehindStride 19 = .ok (.getfield 50, 3) := by decide +kernel
theorem dX3_reachesBehindStride_22 : decode cX3_reachesBehindStride 22 = .ok (.iload_n 2, 1) := by decide +kernel
theorem dX3_reachesBehindStride_23 : decode cX3_reachesBehindStride 23 = .ok (.aaload, 1) := by decide +kernel
theorem dX3_reachesBehindStride_24 : decode cX3_reachesBehindStride 24 = .ok (.iload 7, 2) := by decide +kernel
theorem dX3_reachesBehindStride_26 : decode cX3_reachesBehindStride 26 = .ok (.iaload, 1) := by decide +kernel
theorem dX3_reachesBehindStride_27 : decode cX3_reachesBehindStride 27 = .ok (.istore 8, 2) := by decide +kernel
theorem dX3_reachesBehindStride_29 : decode cX3_reachesBehindStride 29 = .ok (.iload 7, 2) := by decide +kernel
theorem dX3_reachesBehindStride_31 : decode cX3_reachesBehindStride 31 = .ok (.iload_n 2, 1) := by decide +kernel
theorem dX3_reachesBehindStride_32 : decode cX3_reachesBehindStride 32 = .ok (.if_icmp .eq 78, 3) := by decide +kernel
theorem dX3_reachesBehindStride_35 : decode cX3_reachesBehindStride 35 = .ok (.iload 8, 2) := by decide +kernel
theorem dX3_reachesBehindStride_37 : decode cX3_reachesBehindStride 37 = .ok (.iload 4, 2) := by decide +kernel
theorem dX3_reachesBehindStride_39 : decode cX3_reachesBehindStride 39 = .ok (.if_icmp .gt 71, 3) := by decide +kernel
theorem dX3_reachesBehindStride_42 : decode cX3_reachesBehindStride 42 = .ok (.aload_n 0, 1) := by decide +kernel
theorem dX3_reachesBehindStride_43 : decode cX3_reachesBehindStride 43 = .ok (.getfield 9, 3) := by decide +kernel
theorem dX3_reachesBehindStride_46 : decode cX3_reachesBehindStride 46 = .ok (.iload 7, 2) := by decide +kernel
theorem dX3_reachesBehindStride_48 : decode cX3_reachesBehindStride 48 = .ok (.iaload, 1) := by decide +kernel
theorem dX3_reachesBehindStride_49 : decode cX3_reachesBehindStride 49 = .ok (.istore 9, 2) := by decide +kernel
theorem dX3_reachesBehindStride_51 : decode cX3_reachesBehindStride 51 = .ok (.aload_n 0, 1) := by decide +kernel
theorem dX3_reachesBehindStride_52 : decode cX3_reachesBehindStride 52 = .ok (.getfield 9, 3) := by decide +kernel
theorem dX3_reachesBehindStride_55 : decode cX3_reachesBehindStride 55 = .ok (.iload 7, 2) := by decide +kernel
theorem dX3_reachesBehindStride_57 : decode cX3_reachesBehindStride 57 = .ok (.iconst 0, 1) := by decide +kernel
theorem dX3_reachesBehindStride_58 : decode cX3_reachesBehindStride 58 = .ok (.iastore, 1) := by decide +kernel
theorem dX3_reachesBehindStride_59 : decode cX3_reachesBehindStride 59 = .ok (.aload_n 0, 1) := by decide +kernel
theorem dX3_reachesBehindStride_60 : decode cX3_reachesBehindStride 60 = .ok (.getfield 9, 3) := by decide +kernel
theorem dX3_reachesBehindStride_63 : decode cX3_reachesBehindStride 63 = .ok (.iload_n 2, 1) := by decide +kernel
theorem dX3_reachesBehindStride_64 : decode cX3_reachesBehindStride 64 = .ok (.dup2, 1) := by decide +kernel
theorem dX3_reachesBehindStride_65 : decode cX3_reachesBehindStride 65 = .ok (.iaload, 1) := by decide +kernel
theorem dX3_reachesBehindStride_66 : decode cX3_reachesBehindStride 66 = .ok (.iload 8, 2) := by decide +kernel
theorem dX3_reachesBehindStride_68 : decode cX3_reachesBehindStride 68 = .ok (.iadd, 1) := by decide +kernel
theorem dX3_reachesBehindStride_69 : decode cX3_reachesBehindStride 69 = .ok (.iastore, 1) := by decide +kernel
theorem dX3_reachesBehindStride_70 : decode cX3_reachesBehindStride 70 = .ok (.aload_n 0, 1) := by decide +kernel
theorem dX3_reachesBehindStride_71 : decode cX3_reachesBehindStride 71 = .ok (.aload_n 1, 1) := by decide +kernel
theorem dX3_reachesBehindStride_72 : decode cX3_reachesBehindStride 72 = .ok (.iload 7, 2) := by decide +kernel
theorem dX3_reachesBehindStride_74 : decode cX3_reachesBehindStride 74 = .ok (.iload_n 3, 1) := by decide +kernel
theorem dX3_reachesBehindStride_75 : decode cX3_reachesBehindStride 75 = .ok (.iload 9, 2) := by decide +kernel
theorem dX3_reachesBehindStride_77 : decode cX3_reachesBehindStride 77 = .ok (.iadd, 1) := by decide +kernel
theorem dX3_reachesBehindStride_78 : decode cX3_reachesBehindStride 78 = .ok (.iload 4, 2) := by decide +kernel
theorem dX3_reachesBehindStride_80 : decode cX3_reachesBehindStride 80 = .ok (.iload 8, 2) := by decide +kernel
theorem dX3_reachesBehindStride_82 : decode cX3_reachesBehindStride 82 = .ok (.isub, 1) := by decide +kernel
theorem dX3_reachesBehindStride_83 : decode cX3_reachesBehindStride 83 = .ok (.iload 5, 2) := by decide +kernel
theorem dX3_reachesBehindStride_85 : decode cX3_reachesBehindStride 85 = .ok (.invokestatic 56, 3) := by decide +kernel
theorem dX3_reachesBehindStride_88 : decode cX3_reachesBehindStride 88 = .ok (.istore 6, 2) := by decide +kernel
theorem dX3_reachesBehindStride_90 : decode cX3_reachesBehindStride 90 = .ok (.aload_n 0, 1) := by decide +kernel
theorem dX3_reachesBehindStride_91 : decode cX3_reachesBehindStride 91 = .ok (.getfield 9, 3) := by decide +kernel
theorem dX3_reachesBehindStride_94 : decode cX3_reachesBehindStride 94 = .ok (.iload_n 2, 1) := by decide +kernel
theorem dX3_reachesBehindStride_95 : decode cX3_reachesBehindStride 95 = .ok (.dup2, 1) := by decide +kernel
theorem dX3_reachesBehindStride_96 : decode cX3_reachesBehindStride 96 = .ok (.iaload, 1) := by decide +kernel
theorem dX3_reachesBehindStride_97 : decode cX3_reachesBehindStride 97 = .ok (.iload 8, 2) := by decide +kernel
theorem dX3_reachesBehindStride_99 : decode cX3_reachesBehindStride 99 = .ok (.isub, 1) := by decide +kernel
theorem dX3_reachesBehindStride_100 : decode cX3_reachesBehindStride 100 = .ok (.iastore, 1) := by decide +kernel
theorem dX3_reachesBehindStride_101 : decode cX3_reachesBehindStride 101 = .ok (.aload_n 0, 1) := by decide +kernel
theorem dX3_reachesBehindStride_102 : decode cX3_reachesBehindStride 102 = .ok (.getfield 9, 3) := by decide +kernel
theorem dX3_reachesBehindStride_105 : decode cX3_reachesBehindStride 105 = .ok (.iload 7, 2) := by decide +kernel
theorem dX3_reachesBehindStride_107 : decode cX3_reachesBehindStride 107 = .ok (.iload 9, 2) := by decide +kernel
theorem dX3_reachesBehindStride_109 : decode cX3_reachesBehindStride 109 = .ok (.iastore, 1) := by decide +kernel
theorem dX3_reachesBehindStride_110 : decode cX3_reachesBehindStride 110 = .ok (.iinc 7 1, 3) := by decide +kernel
theorem dX3_reachesBehindStride_113 : decode cX3_reachesBehindStride 113 = .ok (.goto (-107), 3) := by decide +kernel
theorem dX3_reachesBehindStride_116 : decode cX3_reachesBehindStride 116 = .ok (.iload 6, 2) := by decide +kernel
theorem dX3_reachesBehindStride_118 : decode cX3_reachesBehindStride 118 = .ok (.ireturn, 1) := by decide +kernel
theorem dX4_init_0 : decode cX4_init 0 = .ok (.aload_n 0, 1) := by decide +kernel
theorem dX4_init_1 : decode cX4_init 1 = .ok (.invokespecial 3, 3) := by decide +kernel
theorem dX4_init_4 : decode cX4_init 4 = .ok (.aload_n 0, 1) := by decide +kernel
theorem dX4_init_5 : decode cX4_init 5 = .ok (.bipush 10, 2) := by decide +kernel
theorem dX4_init_7 : decode cX4_init 7 = .ok (.bipush 10, 2) := by decide +kernel
theorem dX4_init_9 : decode cX4_init 9 = .ok (.multianewarray 9 2, 4) := by decide +kernel
theorem dX4_init_13 : decode cX4_init 13 = .ok (.putfield 11, 3) := by decide +kernel
theorem dX4_init_16 : decode cX4_init 16 = .ok (.aload_n 0, 1) := by decide +kernel
theorem dX4_init_17 : decode cX4_init 17 = .ok (.bipush 10, 2) := by decide +kernel
theorem dX4_init_19 : decode cX4_init 19 = .ok (.bipush 10, 2) := by decide +kernel
theorem dX4_init_21 : decode cX4_init 21 = .ok (.multianewarray 9 2, 4) := by decide +kernel
theorem dX4_init_25 : decode cX4_init 25 = .ok (.putfield 16, 3) := by decide +kernel
theorem dX4_init_28 : decode cX4_init 28 = .ok (.aload_n 0, 1) := by decide +kernel
theorem dX4_init_29 : decode cX4_init 29 = .ok (.bipush 10, 2) := by decide +kernel
theorem dX4_init_31 : decode cX4_init 31 = .ok (.newarray .int, 2) := by decide +kernel
theorem dX4_init_33 : decode cX4_init 33 = .ok (.putfield 19, 3) := by decide +kernel
theorem dX4_init_36 : decode cX4_init 36 = .ok (.aload_n 0, 1) := by decide +kernel
theorem dX4_init_37 : decode cX4_init 37 = .ok (.bipush 10, 2) := by decide +kernel
theorem dX4_init_39 : decode cX4_init 39 = .ok (.newarray .boolean, 2) := by decide +kernel
theorem dX4_init_41 : decode cX4_init 41 = .ok (.putfield 23, 3) := by decide +kernel
theorem dX4_init_44 : decode cX4_init 44 = .ok (.return_, 1) := by decide +kernel
theorem dX4_layOut_0 : decode cX4_layOut 0 = .ok (.iconst 0, 1) := by decide +kernel
theorem dX4_layOut_1 : decode cX4_layOut 1 = .ok (.istore_n 2, 1) := by decide +kernel
theorem dX4_layOut_2 : decode cX4_layOut 2 = .ok (.iload_n 2, 1) := by decide +kernel
theorem dX4_layOut_3 : decode cX4_layOut 3 = .ok (.bipush 10, 2) := by decide +kernel
theorem dX4_layOut_5 : decode cX4_layOut 5 = .ok (.if_icmp .ge 51, 3) := by decide +kernel
theorem dX4_layOut_8 : decode cX4_layOut 8 = .ok (.iconst 0, 1) := by decide +kernel
theorem dX4_layOut_9 : decode cX4_layOut 9 = .ok (.istore_n 3, 1) := by decide +kernel
theorem dX4_layOut_10 : decode cX4_layOut 10 = .ok (.iload_n 3, 1) := by decide +kernel
theorem dX4_layOut_11 : decode cX4_layOut 11 = .ok (.bipush 10, 2) := by decide +kernel
theorem dX4_layOut_13 : decode cX4_layOut 13 = .ok (.if_icmp .ge 37, 3) := by decide +kernel
theorem dX4_layOut_16 : decode cX4_layOut 16 = .ok (.aload_n 0, 1) := by decide +kernel
theorem dX4_layOut_17 : decode cX4_layOut 17 = .ok (.getfield 11, 3) := by decide +kernel
theorem dX4_layOut_20 : decode cX4_layOut 20 = .ok (.iload_n 2, 1) := by decide +kernel
theorem dX4_layOut_21 : decode cX4_layOut 21 = .ok (.aaload, 1) := by decide +kernel
theorem dX4_layOut_22 : decode cX4_layOut 22 = .ok (.iload_n 3, 1) := by decide +kernel
theorem dX4_layOut_23 : decode cX4_layOut 23 = .ok (.aload_n 1, 1) := by decide +kernel
theorem dX4_layOut_24 : decode cX4_layOut 24 = .ok (.iload_n 2, 1) := by decide +kernel
theorem dX4_layOut_25 : decode cX4_layOut 25 = .ok (.iload_n 3, 1) := by decide +kernel
theorem dX4_layOut_26 : decode cX4_layOut 26 = .ok (.invokevirtual 27, 3) := by decide +kernel
theorem dX4_layOut_29 : decode cX4_layOut 29 = .ok (.ifCond .eq 12, 3) := by decide +kernel
theorem dX4_layOut_32 : decode cX4_layOut 32 = .ok (.aload_n 1, 1) := by decide +kernel
theorem dX4_layOut_33 : decode cX4_layOut 33 = .ok (.iload_n 2, 1) := by decide +kernel
theorem dX4_layOut_34 : decode cX4_layOut 34 = .ok (.iload_n 3, 1) := by decide +kernel
theorem dX4_layOut_35 : decode cX4_layOut 35 = .ok (.invokevirtual 33, 3) := by decide +kernel
theorem dX4_layOut_38 : decode cX4_layOut 38 = .ok (.goto 5, 3) := by decide +kernel
theorem dX4_layOut_41 : decode cX4_layOut 41 = .ok (.ldc 37, 2) := by decide +kernel
theorem dX4_layOut_43 : decode cX4_layOut 43 = .ok (.iastore, 1) := by decide +kernel
theorem dX4_layOut_44 : decode cX4_layOut 44 = .ok (.iinc 3 1, 3) := by decide +kernel
theorem dX4_layOut_47 : decode cX4_layOut 47 = .ok (.goto (-37), 3) := by decide +kernel
theorem dX4_layOut_50 : decode cX4_layOut 50 = .ok (.iinc 2 1, 3) := by decide +kernel
theorem dX4_layOut_53 : decode cX4_layOut 53 = .ok (.goto (-51), 3) := by decide +kernel
theorem dX4_layOut_56 : decode cX4_layOut 56 = .ok (.return_, 1) := by decide +kernel
theorem dX4_cheapestBySettling_0 : decode cX4_cheapestBySettling 0 = .ok (.iconst 0, 1) := by decide +kernel
theorem dX4_cheapestBySettling_1 : decode cX4_cheapestBySettling 1 = .ok (.istore_n 3, 1) := by decide +kernel
theorem dX4_cheapestBySettling_2 : decode cX4_cheapestBySettling 2 = .ok (.iload_n 3, 1) := by decide +kernel
theorem dX4_cheapestBySettling_3 : decode cX4_cheapestBySettling 3 = .ok (.bipush 10, 2) := by decide +kernel
theorem dX4_cheapestBySettling_5 : decode cX4_cheapestBySettling 5 = .ok (.if_icmp .ge 33, 3) := by decide +kernel
theorem dX4_cheapestBySettling_8 : decode cX4_cheapestBySettling 8 = .ok (.aload_n 0, 1) := by decide +kernel
theorem dX4_cheapestBySettling_9 : decode cX4_cheapestBySettling 9 = .ok (.getfield 19, 3) := by decide +kernel
theorem dX4_cheapestBySettling_12 : decode cX4_cheapestBySettling 12 = .ok (.iload_n 3, 1) := by decide +kernel
theorem dX4_cheapestBySettling_13 : decode cX4_cheapestBySettling 13 = .ok (.iload_n 3, 1) := by decide +kernel
theorem dX4_cheapestBySettling_14 : decode cX4_cheapestBySettling 14 = .ok (.iload_n 1, 1) := by decide +kernel
theorem dX4_cheapestBySettling_15 : decode cX4_cheapestBySettling 15 = .ok (.if_icmp .ne 7, 3) := by decide +kernel
theorem dX4_cheapestBySettling_18 : decode cX4_cheapestBySettling 18 = .ok (.iconst 0, 1) := by decide +kernel
theorem dX4_cheapestBySettling_19 : decode cX4_cheapestBySettling 19 = .ok (.goto 5, 3) := by decide +kernel
theorem dX4_cheapestBySettling_22 : decode cX4_cheapestBySettling 22 = .ok (.ldc 37, 2) := by decide +kernel
theorem dX4_cheapestBySettling_24 : decode cX4_cheapestBySettling 24 = .ok (.iastore, 1) := by decide +kernel
theorem dX4_cheapestBySettling_25 : decode cX4_cheapestBySettling 25 = .ok (.aload_n 0, 1) := by decide +kernel
theorem dX4_cheapestBySettling_26 : decode cX4_cheapestBySettling 26 = .ok (.getfield 23, 3) := by decide +kernel
theorem dX4_cheapestBySettling_29 : decode cX4_cheapestBySettling 29 = .ok (.iload_n 3, 1) := by decide +kernel
theorem dX4_cheapestBySettling_30 : decode cX4_cheapestBySettling 30 = .ok (.iconst 0, 1) := by decide +kernel
theorem dX4_cheapestBySettling_31 : decode cX4_cheapestBySettling 31 = .ok (.bastore, 1) := by decide +kernel
theorem dX4_cheapestBySettling_32 : decode cX4_cheapestBySettling 32 = .ok (.iinc 3 1, 3) := by decide +kernel
theorem dX4_cheapestBySettling_35 : decode cX4_cheapestBySettling 35 = .ok (.goto (-33), 3) := by decide +kernel
theorem dX4_cheapestBySettling_38 : decode cX4_cheapestBySettling 38 = .ok (.iconst 0, 1) := by decide +kernel
theorem dX4_cheapestBySettling_39 : decode cX4_cheapestBySettling 39 = .ok (.istore_n 3, 1) := by decide +kernel
theorem dX4_cheapestBySettling_40 : decode cX4_cheapestBySettling 40 = .ok (.iload_n 3, 1) := by decide +kernel
theorem dX4_cheapestBySettling_41 : decode cX4_cheapestBySettling 41 = .ok (.bipush 10, 2) := by decide +kernel
theorem dX4_cheapestBySettling_43 : decode cX4_cheapestBySettling 43 = .ok (.if_icmp .ge 83, 3) := by decide +kernel
theorem dX4_cheapestBySettling_46 : decode cX4_cheapestBySettling 46 = .ok (.aload_n 0, 1) := by decide +kernel
theorem dX4_cheapestBySettling_47 : decode cX4_cheapestBySettling 47 = .ok (.invokevirtual 38, 3) := by decide +kernel
theorem dX4_cheapestBySettling_50 : decode cX4_cheapestBySettling 50 = .ok (.istore 4, 2) := by decide +kernel
theorem dX4_cheapestBySettling_52 : decode cX4_cheapestBySettling 52 = .ok (.iload 4, 2) := by decide +kernel
theorem dX4_cheapestBySettling_54 : decode cX4_cheapestBySettling 54 = .ok (.iconst (-1), 1) := by decide +kernel
theorem dX4_cheapestBySettling_55 : decode cX4_cheapestBySettling 55 = .ok (.if_icmp .ne 6, 3) := by decide +kernel
theorem dX4_cheapestBySettling_58 : decode cX4_cheapestBySettling 58 = .ok (.goto 68, 3) := by decide +kernel
theorem dX4_cheapestBySettling_61 : decode cX4_cheapestBySettling 61 = .ok (.aload_n 0, 1) := by decide +kernel
theorem dX4_cheapestBySettling_62 : decode cX4_cheapestBySettling 62 = .ok (.getfield 23, 3) := by decide +kernel
theorem dX4_cheapestBySettling_65 : decode cX4_cheapestBySettling 65 = .ok (.iload 4, 2) := by decide +kernel
theorem dX4_cheapestBySettling_67 : decode cX4_cheapestBySettling 67 = .ok (.iconst 1, 1) := by decide +kernel
theorem dX4_cheapestBySettling_68 : decode cX4_cheapestBySettling 68 = .ok (.bastore, 1) := by decide +kernel
theorem dX4_cheapestBySettling_69 : decode cX4_cheapestBySettling 69 = .ok (.iconst 0, 1) := by decide +kernel
theorem dX4_cheapestBySettling_70 : decode cX4_cheapestBySettling 70 = .ok (.istore 5, 2) := by decide +kernel
theorem dX4_cheapestBySettling_72 : decode cX4_cheapestBySettling 72 = .ok (.iload 5, 2) := by decide +kernel
theorem dX4_cheapestBySettling_74 : decode cX4_cheapestBySettling 74 = .ok (.bipush 10, 2) := by decide +kernel
theorem dX4_cheapestBySettling_76 : decode cX4_cheapestBySettling 76 = .ok (.if_icmp .ge 44, 3) := by decide +kernel
theorem dX4_cheapestBySettling_79 : decode cX4_cheapestBySettling 79 = .ok (.aload_n 0, 1) := by decide +kernel
theorem dX4_cheapestBySettling_80 : decode cX4_cheapestBySettling 80 = .ok (.getfield 19, 3) := by decide +kernel
theorem dX4_cheapestBySettling_83 : decode cX4_cheapestBySettling 83 = .ok (.iload 5, 2) := by decide +kernel
theorem dX4_cheapestBySettling_85 : decode cX4_cheapestBySettling 85 = .ok (.aload_n 0, 1) := by decide +kernel
theorem dX4_cheapestBySettling_86 : decode cX4_cheapestBySettling 86 = .ok (.getfield 19, 3) := by decide +kernel
theorem dX4_cheapestBySettling_89 : decode cX4_cheapestBySettling 89 = .ok (.iload 5, 2) := by decide +kernel
theorem dX4_cheapestBySettling_91 : decode cX4_cheapestBySettling 91 = .ok (.iaload, 1) := by decide +kernel
theorem dX4_cheapestBySettling_92 : decode cX4_cheapestBySettling 92 = .ok (.aload_n 0, 1) := by decide +kernel
theorem dX4_cheapestBySettling_93 : decode cX4_cheapestBySettling 93 = .ok (.getfield 19, 3) := by decide +kernel
theorem dX4_cheapestBySettling_96 : decode cX4_cheapestBySettling 96 = .ok (.iload 4, 2) := by decide +kernel
theorem dX4_cheapestBySettling_98 : decode cX4_cheapestBySettling 98 = .ok (.iaload, 1) := by decide +kernel
theorem dX4_cheapestBySettling_99 : decode cX4_cheapestBySettling 99 = .ok (.aload_n 0, 1) := by decide +kernel
theorem dX4_cheapestBySettling_100 : decode cX4_cheapestBySettling 100 = .ok (.getfield 11, 3) := by decide +kernel
theorem dX4_cheapestBySettling_103 : decode cX4_cheapestBySettling 103 = .ok (.iload 4, 2) := by decide +kernel
theorem dX4_cheapestBySettling_105 : decode cX4_cheapestBySettling 105 = .ok (.aaload, 1) := by decide +kernel
theorem dX4_cheapestBySettling_106 : decode cX4_cheapestBySettling 106 = .ok (.iload 5, 2) := by decide +kernel
theorem dX4_cheapestBySettling_108 : decode cX4_cheapestBySettling 108 = .ok (.iaload, 1) := by decide +kernel
theorem dX4_cheapestBySettling_109 : decode cX4_cheapestBySettling 109 = .ok (.iadd, 1) := by decide +kernel
theorem dX4_cheapestBySettling_110 : decode cX4_cheapestBySettling 110 = .ok (.invokestatic 42, 3) := by decide +kernel
theorem dX4_cheapestBySettling_113 : decode cX4_cheapestBySettling 113 = .ok (.iastore, 1) := by decide +kernel
theorem dX4_cheapestBySettling_114 : decode cX4_cheapestBySettling 114 = .ok (.iinc 5 1, 3) := by decide +kernel
theorem dX4_cheapestBySettling_117 : decode cX4_cheapestBySettling 117 = .ok (.goto (-45), 3) := by decide +kernel
theorem dX4_cheapestBySettling_120 : decode cX4_cheapestBySettling 120 = .ok (.iinc 3 1, 3) := by decide +kernel
theorem dX4_cheapestBySettling_123 : decode cX4_cheapestBySettling 123 = .ok (.goto (-83), 3) := by decide +kernel
theorem dX4_cheapestBySettling_126 : decode cX4_cheapestBySettling 126 = .ok (.aload_n 0, 1) := by decide +kernel
theorem dX4_cheapestBySettling_127 : decode cX4_cheapestBySettling 127 = .ok (.getfield 19, 3) := by decide +kernel
theorem dX4_cheapestBySettling_130 : decode cX4_cheapestBySettling 130 = .ok (.iload_n 2, 1) := by decide +kernel
theorem dX4_cheapestBySettling_131 : decode cX4_cheapestBySettling 131 = .ok (.iaload, 1) := by decide +kernel
theorem dX4_cheapestBySettling_132 : decode cX4_cheapestBySettling 132 = .ok (.ireturn, 1) := by decide +kernel
theorem dX4_cheapestUnsettled_0 : decode cX4_cheapestUnsettled 0 = .ok (.iconst (-1), 1) := by decide +kernel
theorem dX4_cheapestUnsettled_1 : decode cX4_cheapestUnsettled 1 = .ok (.istore_n 1, 1) := by decide +kernel
theorem dX4_cheapestUnsettled_2 : decode cX4_cheapestUnsettled 2 = .ok (.iconst 0, 1) := by decide +kernel
theorem dX4_cheapestUnsettled_3 : decode cX4_cheapestUnsettled 3 = .ok (.istore_n 2, 1) := by decide +kernel
theorem dX4_cheapestUnsettled_4 : decode cX4_cheapestUnsettled 4 = .ok (.iload_n 2, 1) := by decide +kernel
theorem dX4_cheapestUnsettled_5 : decode cX4_cheapestUnsettled 5 = .ok (.bipush 10, 2) := by decide +kernel
theorem dX4_cheapestUnsettled_7 : decode cX4_cheapestUnsettled 7 = .ok (.if_icmp .ge 40, 3) := by decide +kernel
theorem dX4_cheapestUnsettled_10 : decode cX4_cheapestUnsettled 10 = .ok (.aload_n 0, 1) := by decide +kernel
theorem dX4_cheapestUnsettled_11 : decode cX4_cheapestUnsettled 11 = .ok (.getfield 23, 3) := by decide +kernel
theorem dX4_cheapestUnsettled_14 : decode cX4_cheapestUnsettled 14 = .ok (.iload_n 2, 1) := by decide +kernel
theorem dX4_cheapestUnsettled_15 : decode cX4_cheapestUnsettled 15 = .ok (.baload, 1) := by decide +kernel
theorem dX4_cheapestUnsettled_16 : decode cX4_cheapestUnsettled 16 = .ok (.ifCond .ne 25, 3) := by decide +kernel
theorem dX4_cheapestUnsettled_19 : decode cX4_cheapestUnsettled 19 = .ok (.iload_n 1, 1) := by decide +kernel
theorem dX4_cheapestUnsettled_20 : decode cX4_cheapestUnsettled 20 = .ok (.iconst (-1), 1) := by decide +kernel
theorem dX4_cheapestUnsettled_21 : decode cX4_cheapestUnsettled 21 = .ok (.if_icmp .eq 18, 3) := by decide +kernel
theorem dX4_cheapestUnsettled_24 : decode cX4_cheapestUnsettled 24 = .ok (.aload_n 0, 1) := by decide +kernel
theorem dX4_cheapestUnsettled_25 : decode cX4_cheapestUnsettled 25 = .ok (.getfield 19, 3) := by decide +kernel
theorem dX4_cheapestUnsettled_28 : decode cX4_cheapestUnsettled 28 = .ok (.iload_n 2, 1) := by decide +kernel
theorem dX4_cheapestUnsettled_29 : decode cX4_cheapestUnsettled 29 = .ok (.iaload, 1) := by decide +kernel
theorem dX4_cheapestUnsettled_30 : decode cX4_cheapestUnsettled 30 = .ok (.aload_n 0, 1) := by decide +kernel
theorem dX4_cheapestUnsettled_31 : decode cX4_cheapestUnsettled 31 = .ok (.getfield 19, 3) := by decide +kernel
theorem dX4_cheapestUnsettled_34 : decode cX4_cheapestUnsettled 34 = .ok (.iload_n 1, 1) := by decide +kernel
theorem dX4_cheapestUnsettled_35 : decode cX4_cheapestUnsettled 35 = .ok (.iaload, 1) := by decide +kernel
theorem dX4_cheapestUnsettled_36 : decode cX4_cheapestUnsettled 36 = .ok (.if_icmp .ge 5, 3) := by decide +kernel
theorem dX4_cheapestUnsettled_39 : decode cX4_cheapestUnsettled 39 = .ok (.iload_n 2, 1) := by decide +kernel
theorem dX4_cheapestUnsettled_40 : decode cX4_cheapestUnsettled 40 = .ok (.istore_n 1, 1) := by decide +kernel
theorem dX4_cheapestUnsettled_41 : decode cX4_cheapestUnsettled 41 = .ok (.iinc 2 1, 3) := by decide +kernel
theorem dX4_cheapestUnsettled_44 : decode cX4_cheapestUnsettled 44 = .ok (.goto (-40), 3) := by decide +kernel
theorem dX4_cheapestUnsettled_47 : decode cX4_cheapestUnsettled 47 = .ok (.iload_n 1, 1) := by decide +kernel
theorem dX4_cheapestUnsettled_48 : decode cX4_cheapestUnsettled 48 = .ok (.ireturn, 1) := by decide +kernel
theorem dX4_cheapestByGoingOver_0 : decode cX4_cheapestByGoingOver 0 = .ok (.iconst 0, 1) := by decide +kernel
theorem dX4_cheapestByGoingOver_1 : decode cX4_cheapestByGoingOver 1 = .ok (.istore_n 3, 1) := by decide +kernel
theorem dX4_cheapestByGoingOver_2 : decode cX4_cheapestByGoingOver 2 = .ok (.iload_n 3, 1) := by decide +kernel
theorem dX4_cheapestByGoingOver_3 : decode cX4_cheapestByGoingOver 3 = .ok (.bipush 10, 2) := by decide +kernel
theorem dX4_cheapestByGoingOver_5 : decode cX4_cheapestByGoingOver 5 = .ok (.if_icmp .ge 28, 3) := by decide +kernel
theorem dX4_cheapestByGoingOver_8 : decode cX4_cheapestByGoingOver 8 = .ok (.aload_n 0, 1) := by decide +kernel
theorem dX4_cheapestByGoingOver_9 : decode cX4_cheapestByGoingOver 9 = .ok (.getfield 11, 3) := by decide +kernel
theorem dX4_cheapestByGoingOver_12 : decode cX4_cheapestByGoingOver 12 = .ok (.iload_n 3, 1) := by decide +kernel
theorem dX4_cheapestByGoingOver_13 : decode cX4_cheapestByGoingOver 13 = .ok (.aaload, 1) := by decide +kernel
theorem dX4_cheapestByGoingOver_14 : decode cX4_cheapestByGoingOver 14 = .ok (.iconst 0, 1) := by decide +kernel
theorem dX4_cheapestByGoingOver_15 : decode cX4_cheapestByGoingOver 15 = .ok (.aload_n 0, 1) := by decide +kernel
theorem dX4_cheapestByGoingOver_16 : decode cX4_cheapestByGoingOver 16 = .ok (.getfield 16, 3) := by decide +kernel
theorem dX4_cheapestByGoingOver_19 : decode cX4_cheapestByGoingOver 19 = .ok (.iload_n 3, 1) := by decide +kernel
theorem dX4_cheapestByGoingOver_20 : decode cX4_cheapestByGoingOver 20 = .ok (.aaload, 1) := by decide +kernel
theorem dX4_cheapestByGoingOver_21 : decode cX4_cheapestByGoingOver 21 = .ok (.iconst 0, 1) := by decide +kernel
theorem dX4_cheapestByGoingOver_22 : decode cX4_cheapestByGoingOver 22 = .ok (.bipush 10, 2) := by decide +kernel
theorem dX4_cheapestByGoingOver_24 : decode cX4_cheapestByGoingOver 24 = .ok (.invokestatic 47, 3) := by decide +kernel
theorem dX4_cheapestByGoingOver_27 : decode cX4_cheapestByGoingOver 27 = .ok (.iinc 3 1, 3) := by decide +kernel
theorem dX4_cheapestByGoingOver_30 : decode cX4_cheapestByGoingOver 30 = .ok (.goto (-28), 3) := by decide +kernel
theorem dX4_cheapestByGoingOver_33 : decode cX4_cheapestByGoingOver 33 = .ok (.iconst 0, 1) := by decide +kernel
theorem dX4_cheapestByGoingOver_34 : decode cX4_cheapestByGoingOver 34 = .ok (.istore_n 3, 1) := by decide +kernel
theorem dX4_cheapestByGoingOver_35 : decode cX4_cheapestByGoingOver 35 = .ok (.iload_n 3, 1) := by decide +kernel
theorem dX4_cheapestByGoingOver_36 : decode cX4_cheapestByGoingOver 36 = .ok (.bipush 10, 2) := by decide +kernel
theorem dX4_cheapestByGoingOver_38 : decode cX4_cheapestByGoingOver 38 = .ok (.if_icmp .ge 14, 3) := by decide +kernel
theorem dX4_cheapestByGoingOver_41 : decode cX4_cheapestByGoingOver 41 = .ok (.aload_n 0, 1) := by decide +kernel
theorem dX4_cheapestByGoingOver_42 : decode cX4_cheapestByGoingOver 42 = .ok (.iload_n 3, 1) := by decide +kernel
theorem dX4_cheapestByGoingOver_43 : decode cX4_cheapestByGoingOver 43 = .ok (.invokevirtual 53, 3) := by decide +kernel
theorem dX4_cheapestByGoingOver_46 : decode cX4_cheapestByGoingOver 46 = .ok (.iinc 3 1, 3) := by decide +kernel
theorem dX4_cheapestByGoingOver_49 : decode cX4_cheapestByGoingOver 49 = .ok (.goto (-14), 3) := by decide +kernel
theorem dX4_cheapestByGoingOver_52 : decode cX4_cheapestByGoingOver 52 = .ok (.aload_n 0, 1) := by decide +kernel
theorem dX4_cheapestByGoingOver_53 : decode cX4_cheapestByGoingOver 53 = .ok (.getfield 16, 3) := by decide +kernel
theorem dX4_cheapestByGoingOver_56 : decode cX4_cheapestByGoingOver 56 = .ok (.iload_n 1, 1) := by decide +kernel
theorem dX4_cheapestByGoingOver_57 : decode cX4_cheapestByGoingOver 57 = .ok (.aaload, 1) := by decide +kernel
theorem dX4_cheapestByGoingOver_58 : decode cX4_cheapestByGoingOver 58 = .ok (.iload_n 2, 1) := by decide +kernel
theorem dX4_cheapestByGoingOver_59 : decode cX4_cheapestByGoingOver 59 = .ok (.iaload, 1) := by decide +kernel
theorem dX4_cheapestByGoingOver_60 : decode cX4_cheapestByGoingOver 60 = .ok (.ireturn, 1) := by decide +kernel
theorem dX4_allowGoingOver_0 : decode cX4_allowGoingOver 0 = .ok (.iconst 0, 1) := by decide +kernel
theorem dX4_allowGoingOver_1 : decode cX4_allowGoingOver 1 = .ok (.istore_n 2, 1) := by decide +kernel
theorem dX4_allowGoingOver_2 : decode cX4_allowGoingOver 2 = .ok (.iload_n 2, 1) := by decide +kernel
theorem dX4_allowGoingOver_3 : decode cX4_allowGoingOver 3 = .ok (.bipush 10, 2) := by decide +kernel
theorem dX4_allowGoingOver_5 : decode cX4_allowGoingOver 5 = .ok (.if_icmp .ge 59, 3) := by decide +kernel
theorem dX4_allowGoingOver_8 : decode cX4_allowGoingOver 8 = .ok (.iconst 0, 1) := by decide +kernel
theorem dX4_allowGoingOver_9 : decode cX4_allowGoingOver 9 = .ok (.istore_n 3, 1) := by decide +kernel
theorem dX4_allowGoingOver_10 : decode cX4_allowGoingOver 10 = .ok (.iload_n 3, 1) := by decide +kernel
theorem dX4_allowGoingOver_11 : decode cX4_allowGoingOver 11 = .ok (.bipush 10, 2) := by decide +kernel
theorem dX4_allowGoingOver_13 : decode cX4_allowGoingOver 13 = .ok (.if_icmp .ge 45, 3) := by decide +kernel
theorem dX4_allowGoingOver_16 : decode cX4_allowGoingOver 16 = .ok (.aload_n 0, 1) := by decide +kernel
theorem dX4_allowGoingOver_17 : decode cX4_allowGoingOver 17 = .ok (.getfield 16, 3) := by decide +kernel
theorem dX4_allowGoingOver_20 : decode cX4_allowGoingOver 20 = .ok (.iload_n 2, 1) := by decide +kernel
theorem dX4_allowGoingOver_21 : decode cX4_allowGoingOver 21 = .ok (.aaload, 1) := by decide +kernel
theorem dX4_allowGoingOver_22 : decode cX4_allowGoingOver 22 = .ok (.iload_n 3, 1) := by decide +kernel
theorem dX4_allowGoingOver_23 : decode cX4_allowGoingOver 23 = .ok (.aload_n 0, 1) := by decide +kernel
theorem dX4_allowGoingOver_24 : decode cX4_allowGoingOver 24 = .ok (.getfield 16, 3) := by decide +kernel
theorem dX4_allowGoingOver_27 : decode cX4_allowGoingOver 27 = .ok (.iload_n 2, 1) := by decide +kernel
theorem dX4_allowGoingOver_28 : decode cX4_allowGoingOver 28 = .ok (.aaload, 1) := by decide +kernel
theorem dX4_allowGoingOver_29 : decode cX4_allowGoingOver 29 = .ok (.iload_n 3, 1) := by decide +kernel
theorem dX4_allowGoingOver_30 : decode cX4_allowGoingOver 30 = .ok (.iaload, 1) := by decide +kernel
theorem dX4_allowGoingOver_31 : decode cX4_allowGoingOver 31 = .ok (.aload_n 0, 1) := by decide +kernel
theorem dX4_allowGoingOver_32 : decode cX4_allowGoingOver 32 = .ok (.getfield 16, 3) := by decide +kernel
theorem dX4_allowGoingOver_35 : decode cX4_allowGoingOver 35 = .ok (.iload_n 2, 1) := by decide +kernel
theorem dX4_allowGoingOver_36 : decode cX4_allowGoingOver 36 = .ok (.aaload, 1) := by decide +kernel
theorem dX4_allowGoingOver_37 : decode cX4_allowGoingOver 37 = .ok (.iload_n 1, 1) := by decide +kernel
theorem dX4_allowGoingOver_38 : decode cX4_allowGoingOver 38 = .ok (.iaload, 1) := by decide +kernel
theorem dX4_allowGoingOver_39 : decode cX4_allowGoingOver 39 = .ok (.aload_n 0, 1) := by decide +kernel
