theorem dX3_init_0 : decode cX3_init 0 = .ok (.aload_n 0, 1) := by decide +kernel
theorem dX3_init_1 : decode cX3_init 1 = .ok (.invokespecial 3, 3) := by decide +kernel
theorem dX3_init_4 : decode cX3_init 4 = .ok (.aload_n 0, 1) := by decide +kernel
theorem dX3_init_5 : decode cX3_init 5 = .ok (.bipush 50, 2) := by decide +kernel
theorem dX3_init_7 : decode cX3_init 7 = .ok (.newarray .int, 2) := by decide +kernel
theorem dX3_init_9 : decode cX3_init 9 = .ok (.putfield 9, 3) := by decide +kernel
theorem dX3_init_12 : decode cX3_init 12 = .ok (.aload_n 0, 1) := by decide +kernel
theorem dX3_init_13 : decode cX3_init 13 = .ok (.bipush 50, 2) := by decide +kernel
theorem dX3_init_15 : decode cX3_init 15 = .ok (.newarray .int, 2) := by decide +kernel
theorem dX3_init_17 : decode cX3_init 17 = .ok (.putfield 15, 3) := by decide +kernel
theorem dX3_init_20 : decode cX3_init 20 = .ok (.aload_n 0, 1) := by decide +kernel
theorem dX3_init_21 : decode cX3_init 21 = .ok (.iload_n 1, 1) := by decide +kernel
theorem dX3_init_22 : decode cX3_init 22 = .ok (.putfield 18, 3) := by decide +kernel
theorem dX3_init_25 : decode cX3_init 25 = .ok (.aload_n 0, 1) := by decide +kernel
theorem dX3_init_26 : decode cX3_init 26 = .ok (.iload_n 2, 1) := by decide +kernel
theorem dX3_init_27 : decode cX3_init 27 = .ok (.putfield 22, 3) := by decide +kernel
theorem dX3_init_30 : decode cX3_init 30 = .ok (.aload_n 0, 1) := by decide +kernel
theorem dX3_init_31 : decode cX3_init 31 = .ok (.aload_n 3, 1) := by decide +kernel
theorem dX3_init_32 : decode cX3_init 32 = .ok (.aload_n 3, 1) := by decide +kernel
theorem dX3_init_33 : decode cX3_init 33 = .ok (.arraylength, 1) := by decide +kernel
theorem dX3_init_34 : decode cX3_init 34 = .ok (.invokevirtual 25, 3) := by decide +kernel
theorem dX3_init_37 : decode cX3_init 37 = .ok (.return_, 1) := by decide +kernel
theorem dX3_takeCode_0 : decode cX3_takeCode 0 = .ok (.aload_n 0, 1) := by decide +kernel
theorem dX3_takeCode_1 : decode cX3_takeCode 1 = .ok (.iload_n 2, 1) := by decide +kernel
theorem dX3_takeCode_2 : decode cX3_takeCode 2 = .ok (.aload_n 1, 1) := by decide +kernel
theorem dX3_takeCode_3 : decode cX3_takeCode 3 = .ok (.arraylength, 1) := by decide +kernel
theorem dX3_takeCode_4 : decode cX3_takeCode 4 = .ok (.invokestatic 29, 3) := by decide +kernel
theorem dX3_takeCode_7 : decode cX3_takeCode 7 = .ok (.aload_n 0, 1) := by decide +kernel
theorem dX3_takeCode_8 : decode cX3_takeCode 8 = .ok (.getfield 9, 3) := by decide +kernel
theorem dX3_takeCode_11 : decode cX3_takeCode 11 = .ok (.arraylength, 1) := by decide +kernel
theorem dX3_takeCode_12 : decode cX3_takeCode 12 = .ok (.invokestatic 29, 3) := by decide +kernel
theorem dX3_takeCode_15 : decode cX3_takeCode 15 = .ok (.putfield 35, 3) := by decide +kernel
theorem dX3_takeCode_18 : decode cX3_takeCode 18 = .ok (.aload_n 1, 1) := by decide +kernel
theorem dX3_takeCode_19 : decode cX3_takeCode 19 = .ok (.iconst 0, 1) := by decide +kernel
theorem dX3_takeCode_20 : decode cX3_takeCode 20 = .ok (.aload_n 0, 1) := by decide +kernel
theorem dX3_takeCode_21 : decode cX3_takeCode 21 = .ok (.getfield 9, 3) := by decide +kernel
theorem dX3_takeCode_24 : decode cX3_takeCode 24 = .ok (.iconst 0, 1) := by decide +kernel
theorem dX3_takeCode_25 : decode cX3_takeCode 25 = .ok (.aload_n 0, 1) := by decide +kernel
theorem dX3_takeCode_26 : decode cX3_takeCode 26 = .ok (.getfield 35, 3) := by decide +kernel
theorem dX3_takeCode_29 : decode cX3_takeCode 29 = .ok (.invokestatic 38, 3) := by decide +kernel
theorem dX3_takeCode_32 : decode cX3_takeCode 32 = .ok (.return_, 1) := by decide +kernel
theorem dX3_gives_0 : decode cX3_gives 0 = .ok (.iconst 0, 1) := by decide +kernel
theorem dX3_gives_1 : decode cX3_gives 1 = .ok (.istore 4, 2) := by decide +kernel
theorem dX3_gives_3 : decode cX3_gives 3 = .ok (.iconst 0, 1) := by decide +kernel
theorem dX3_gives_4 : decode cX3_gives 4 = .ok (.istore 5, 2) := by decide +kernel
theorem dX3_gives_6 : decode cX3_gives 6 = .ok (.iload 5, 2) := by decide +kernel
theorem dX3_gives_8 : decode cX3_gives 8 = .ok (.aload_n 0, 1) := by decide +kernel
theorem dX3_gives_9 : decode cX3_gives 9 = .ok (.getfield 35, 3) := by decide +kernel
theorem dX3_gives_12 : decode cX3_gives 12 = .ok (.if_icmp .ge 162, 3) := by decide +kernel
theorem dX3_gives_15 : decode cX3_gives 15 = .ok (.aload_n 0, 1) := by decide +kernel
theorem dX3_gives_16 : decode cX3_gives 16 = .ok (.getfield 9, 3) := by decide +kernel
theorem dX3_gives_19 : decode cX3_gives 19 = .ok (.iload 5, 2) := by decide +kernel
theorem dX3_gives_21 : decode cX3_gives 21 = .ok (.iaload, 1) := by decide +kernel
theorem dX3_gives_22 : decode cX3_gives 22 = .ok (.istore 6, 2) := by decide +kernel
theorem dX3_gives_24 : decode cX3_gives 24 = .ok (.iload 6, 2) := by decide +kernel
theorem dX3_gives_26 : decode cX3_gives 26 = .ok (.bipush (-3), 2) := by decide +kernel
theorem dX3_gives_28 : decode cX3_gives 28 = .ok (.if_icmp .lt 58, 3) := by decide +kernel
theorem dX3_gives_31 : decode cX3_gives 31 = .ok (.iload 4, 2) := by decide +kernel
theorem dX3_gives_33 : decode cX3_gives 33 = .ok (.aload_n 0, 1) := by decide +kernel
theorem dX3_gives_34 : decode cX3_gives 34 = .ok (.getfield 15, 3) := by decide +kernel
theorem dX3_gives_37 : decode cX3_gives 37 = .ok (.arraylength, 1) := by decide +kernel
theorem dX3_gives_38 : decode cX3_gives 38 = .ok (.if_icmp .ge 48, 3) := by decide +kernel
theorem dX3_gives_41 : decode cX3_gives 41 = .ok (.aload_n 0, 1) := by decide +kernel
theorem dX3_gives_42 : decode cX3_gives 42 = .ok (.getfield 15, 3) := by decide +kernel
theorem dX3_gives_45 : decode cX3_gives 45 = .ok (.iload 4, 2) := by decide +kernel
theorem dX3_gives_47 : decode cX3_gives 47 = .ok (.iload 6, 2) := by decide +kernel
theorem dX3_gives_49 : decode cX3_gives 49 = .ok (.ifCond .lt 8, 3) := by decide +kernel
theorem dX3_gives_52 : decode cX3_gives 52 = .ok (.iload 6, 2) := by decide +kernel
theorem dX3_gives_54 : decode cX3_gives 54 = .ok (.goto 25, 3) := by decide +kernel
theorem dX3_gives_57 : decode cX3_gives 57 = .ok (.iload 6, 2) := by decide +kernel
theorem dX3_gives_59 : decode cX3_gives 59 = .ok (.iconst (-1), 1) := by decide +kernel
theorem dX3_gives_60 : decode cX3_gives 60 = .ok (.if_icmp .ne 7, 3) := by decide +kernel
theorem dX3_gives_63 : decode cX3_gives 63 = .ok (.iload_n 1, 1) := by decide +kernel
theorem dX3_gives_64 : decode cX3_gives 64 = .ok (.goto 15, 3) := by decide +kernel
theorem dX3_gives_67 : decode cX3_gives 67 = .ok (.iload 6, 2) := by decide +kernel
theorem dX3_gives_69 : decode cX3_gives 69 = .ok (.bipush (-2), 2) := by decide +kernel
theorem dX3_gives_71 : decode cX3_gives 71 = .ok (.if_icmp .ne 7, 3) := by decide +kernel
theorem dX3_gives_74 : decode cX3_gives 74 = .ok (.iload_n 2, 1) := by decide +kernel
theorem dX3_gives_75 : decode cX3_gives 75 = .ok (.goto 4, 3) := by decide +kernel
theorem dX3_gives_78 : decode cX3_gives 78 = .ok (.iload_n 3, 1) := by decide +kernel
theorem dX3_gives_79 : decode cX3_gives 79 = .ok (.iastore, 1) := by decide +kernel
theorem dX3_gives_80 : decode cX3_gives 80 = .ok (.iinc 4 1, 3) := by decide +kernel
theorem dX3_gives_83 : decode cX3_gives 83 = .ok (.goto 85, 3) := by decide +kernel
theorem dX3_gives_86 : decode cX3_gives 86 = .ok (.iload 6, 2) := by decide +kernel
theorem dX3_gives_88 : decode cX3_gives 88 = .ok (.bipush (-33), 2) := by decide +kernel
theorem dX3_gives_90 : decode cX3_gives 90 = .ok (.if_icmp .ne 38, 3) := by decide +kernel
theorem dX3_gives_93 : decode cX3_gives 93 = .ok (.iload 4, 2) := by decide +kernel
theorem dX3_gives_95 : decode cX3_gives 95 = .ok (.iconst 1, 1) := by decide +kernel
theorem dX3_gives_96 : decode cX3_gives 96 = .ok (.if_icmp .lt 32, 3) := by decide +kernel
theorem dX3_gives_99 : decode cX3_gives 99 = .ok (.aload_n 0, 1) := by decide +kernel
theorem dX3_gives_100 : decode cX3_gives 100 = .ok (.getfield 15, 3) := by decide +kernel
theorem dX3_gives_103 : decode cX3_gives 103 = .ok (.iload 4, 2) := by decide +kernel
theorem dX3_gives_105 : decode cX3_gives 105 = .ok (.iconst 1, 1) := by decide +kernel
theorem dX3_gives_106 : decode cX3_gives 106 = .ok (.isub, 1) := by decide +kernel
theorem dX3_gives_107 : decode cX3_gives 107 = .ok (.aload_n 0, 1) := by decide +kernel
theorem dX3_gives_108 : decode cX3_gives 108 = .ok (.getfield 15, 3) := by decide +kernel
theorem dX3_gives_111 : decode cX3_gives 111 = .ok (.iload 4, 2) := by decide +kernel
theorem dX3_gives_113 : decode cX3_gives 113 = .ok (.iconst 1, 1) := by decide +kernel
theorem dX3_gives_114 : decode cX3_gives 114 = .ok (.isub, 1) := by decide +kernel
theorem dX3_gives_115 : decode cX3_gives 115 = .ok (.iaload, 1) := by decide +kernel
theorem dX3_gives_116 : decode cX3_gives 116 = .ok (.ifCond .ne 7, 3) := by decide +kernel
theorem dX3_gives_119 : decode cX3_gives 119 = .ok (.iconst 1, 1) := by decide +kernel
theorem dX3_gives_120 : decode cX3_gives 120 = .ok (.goto 4, 3) := by decide +kernel
theorem dX3_gives_123 : decode cX3_gives 123 = .ok (.iconst 0, 1) := by decide +kernel
theorem dX3_gives_124 : decode cX3_gives 124 = .ok (.iastore, 1) := by decide +kernel
theorem dX3_gives_125 : decode cX3_gives 125 = .ok (.goto 43, 3) := by decide +kernel
theorem dX3_gives_128 : decode cX3_gives 128 = .ok (.iload 4, 2) := by decide +kernel
theorem dX3_gives_130 : decode cX3_gives 130 = .ok (.iconst 2, 1) := by decide +kernel
theorem dX3_gives_131 : decode cX3_gives 131 = .ok (.if_icmp .lt 37, 3) := by decide +kernel
theorem dX3_gives_134 : decode cX3_gives 134 = .ok (.iinc 4 (-1), 3) := by decide +kernel
theorem dX3_gives_137 : decode cX3_gives 137 = .ok (.aload_n 0, 1) := by decide +kernel
theorem dX3_gives_138 : decode cX3_gives 138 = .ok (.getfield 15, 3) := by decide +kernel
theorem dX3_gives_141 : decode cX3_gives 141 = .ok (.iload 4, 2) := by decide +kernel
theorem dX3_gives_143 : decode cX3_gives 143 = .ok (.iconst 1, 1) := by decide +kernel
theorem dX3_gives_144 : decode cX3_gives 144 = .ok (.isub, 1) := by decide +kernel
theorem dX3_gives_145 : decode cX3_gives 145 = .ok (.iload 6, 2) := by decide +kernel
theorem dX3_gives_147 : decode cX3_gives 147 = .ok (.ineg, 1) := by decide +kernel
theorem dX3_gives_148 : decode cX3_gives 148 = .ok (.aload_n 0, 1) := by decide +kernel
theorem dX3_gives_149 : decode cX3_gives 149 = .ok (.getfield 15, 3) := by decide +kernel
theorem dX3_gives_152 : decode cX3_gives 152 = .ok (.iload 4, 2) := by decide +kernel
theorem dX3_gives_154 : decode cX3_gives 154 = .ok (.iconst 1, 1) := by decide +kernel
theorem dX3_gives_155 : decode cX3_gives 155 = .ok (.isub, 1) := by decide +kernel
theorem dX3_gives_156 : decode cX3_gives 156 = .ok (.iaload, 1) := by decide +kernel
theorem dX3_gives_157 : decode cX3_gives 157 = .ok (.aload_n 0, 1) := by decide +kernel
theorem dX3_gives_158 : decode cX3_gives 158 = .ok (.getfield 15, 3) := by decide +kernel
theorem dX3_gives_161 : decode cX3_gives 161 = .ok (.iload 4, 2) := by decide +kernel
theorem dX3_gives_163 : decode cX3_gives 163 = .ok (.iaload, 1) := by decide +kernel
theorem dX3_gives_164 : decode cX3_gives 164 = .ok (.invokestatic 44, 3) := by decide +kernel
theorem dX3_gives_167 : decode cX3_gives 167 = .ok (.iastore, 1) := by decide +kernel
theorem dX3_gives_168 : decode cX3_gives 168 = .ok (.iinc 5 1, 3) := by decide +kernel
theorem dX3_gives_171 : decode cX3_gives 171 = .ok (.goto (-165), 3) := by decide +kernel
theorem dX3_gives_174 : decode cX3_gives 174 = .ok (.aload_n 0, 1) := by decide +kernel
theorem dX3_gives_175 : decode cX3_gives 175 = .ok (.getfield 18, 3) := by decide +kernel
theorem dX3_gives_178 : decode cX3_gives 178 = .ok (.aload_n 0, 1) := by decide +kernel
theorem dX3_gives_179 : decode cX3_gives 179 = .ok (.getfield 22, 3) := by decide +kernel
theorem dX3_gives_182 : decode cX3_gives 182 = .ok (.aload_n 0, 1) := by decide +kernel
theorem dX3_gives_183 : decode cX3_gives 183 = .ok (.getfield 15, 3) := by decide +kernel
theorem dX3_gives_186 : decode cX3_gives 186 = .ok (.iconst 0, 1) := by decide +kernel
theorem dX3_gives_187 : decode cX3_gives 187 = .ok (.iaload, 1) := by decide +kernel
theorem dX3_gives_188 : decode cX3_gives 188 = .ok (.invokestatic 29, 3) := by decide +kernel
theorem dX3_gives_191 : decode cX3_gives 191 = .ok (.invokestatic 48, 3) := by decide +kernel
theorem dX3_gives_194 : decode cX3_gives 194 = .ok (.ireturn, 1) := by decide +kernel
theorem dX3_joined_0 : decode cX3_joined 0 = .ok (.iload_n 0, 1) := by decide +kernel
theorem dX3_joined_1 : decode cX3_joined 1 = .ok (.lookupswitch 168 #[(38, 97), (42, 152), (43, 144), (45, 148), (47, 156), (60, 111), (61, 122), (62, 133), (124, 83)], 83) := by decide +kernel
theorem dX3_joined_84 : decode cX3_joined 84 = .ok (.iload_n 1, 1) := by decide +kernel
theorem dX3_joined_85 : decode cX3_joined 85 = .ok (.ifCond .ne 7, 3) := by decide +kernel
theorem dX3_joined_88 : decode cX3_joined 88 = .ok (.iload_n 2, 1) := by decide +kernel
theorem dX3_joined_89 : decode cX3_joined 89 = .ok (.ifCond .eq 7, 3) := by decide +kernel
theorem dX3_joined_92 : decode cX3_joined 92 = .ok (.iconst 1, 1) := by decide +kernel
theorem dX3_joined_93 : decode cX3_joined 93 = .ok (.goto 4, 3) := by decide +kernel
theorem dX3_joined_96 : decode cX3_joined 96 = .ok (.iconst 0, 1) := by decide +kernel
theorem dX3_joined_97 : decode cX3_joined 97 = .ok (.ireturn, 1) := by decide +kernel
theorem dX3_joined_98 : decode cX3_joined 98 = .ok (.iload_n 1, 1) := by decide +kernel
theorem dX3_joined_99 : decode cX3_joined 99 = .ok (.ifCond .eq 11, 3) := by decide +kernel
theorem dX3_joined_102 : decode cX3_joined 102 = .ok (.iload_n 2, 1) := by decide +kernel
theorem dX3_joined_103 : decode cX3_joined 103 = .ok (.ifCond .eq 7, 3) := by decide +kernel
theorem dX3_joined_106 : decode cX3_joined 106 = .ok (.iconst 1, 1) := by decide +kernel
theorem dX3_joined_107 : decode cX3_joined 107 = .ok (.goto 4, 3) := by decide +kernel
theorem dX3_joined_110 : decode cX3_joined 110 = .ok (.iconst 0, 1) := by decide +kernel
theorem dX3_joined_111 : decode cX3_joined 111 = .ok (.ireturn, 1) := by decide +kernel
theorem dX3_joined_112 : decode cX3_joined 112 = .ok (.iload_n 1, 1) := by decide +kernel
theorem dX3_joined_113 : decode cX3_joined 113 = .ok (.iload_n 2, 1) := by decide +kernel
theorem dX3_joined_114 : decode cX3_joined 114 = .ok (.if_icmp .ge 7, 3) := by decide +kernel
theorem dX3_joined_117 : decode cX3_joined 117 = .ok (.iconst 1, 1) := by decide +kernel
theorem dX3_joined_118 : decode cX3_joined 118 = .ok (.goto 4, 3) := by decide +kernel
theorem dX3_joined_121 : decode cX3_joined 121 = .ok (.iconst 0, 1) := by decide +kernel
theorem dX3_joined_122 : decode cX3_joined 122 = .ok (.ireturn, 1) := by decide +kernel
theorem dX3_joined_123 : decode cX3_joined 123 = .ok (.iload_n 1, 1) := by decide +kernel
theorem dX3_joined_124 : decode cX3_joined 124 = .ok (.iload_n 2, 1) := by decide +kernel
theorem dX3_joined_125 : decode cX3_joined 125 = .ok (.if_icmp .ne 7, 3) := by decide +kernel
theorem dX3_joined_128 : decode cX3_joined 128 = .ok (.iconst 1, 1) := by decide +kernel
theorem dX3_joined_129 : decode cX3_joined 129 = .ok (.goto 4, 3) := by decide +kernel
theorem dX3_joined_132 : decode cX3_joined 132 = .ok (.iconst 0, 1) := by decide +kernel
theorem dX3_joined_133 : decode cX3_joined 133 = .ok (.ireturn, 1) := by decide +kernel
theorem dX3_joined_134 : decode cX3_joined 134 = .ok (.iload_n 1, 1) := by decide +kernel
theorem dX3_joined_135 : decode cX3_joined 135 = .ok (.iload_n 2, 1) := by decide +kernel
theorem dX3_joined_136 : decode cX3_joined 136 = .ok (.if_icmp .le 7, 3) := by decide +kernel
theorem dX3_joined_139 : decode cX3_joined 139 = .ok (.iconst 1, 1) := by decide +kernel
theorem dX3_joined_140 : decode cX3_joined 140 = .ok (.goto 4, 3) := by decide +kernel
theorem dX3_joined_143 : decode cX3_joined 143 = .ok (.iconst 0, 1) := by decide +kernel
theorem dX3_joined_144 : decode cX3_joined 144 = .ok (.ireturn, 1) := by decide +kernel
theorem dX3_joined_145 : decode cX3_joined 145 = .ok (.iload_n 1, 1) := by decide +kernel
theorem dX3_joined_146 : decode cX3_joined 146 = .ok (.iload_n 2, 1) := by decide +kernel
theorem dX3_joined_147 : decode cX3_joined 147 = .ok (.iadd, 1) := by decide +kernel
theorem dX3_joined_148 : decode cX3_joined 148 = .ok (.ireturn, 1) := by decide +kernel
theorem dX3_joined_149 : decode cX3_joined 149 = .ok (.iload_n 1, 1) := by decide +kernel
theorem dX3_joined_150 : decode cX3_joined 150 = .ok (.iload_n 2, 1) := by decide +kernel
theorem dX3_joined_151 : decode cX3_joined 151 = .ok (.isub, 1) := by decide +kernel
theorem dX3_joined_152 : decode cX3_joined 152 = .ok (.ireturn, 1) := by decide +kernel
theorem dX3_joined_153 : decode cX3_joined 153 = .ok (.iload_n 1, 1) := by decide +kernel
theorem dX3_joined_154 : decode cX3_joined 154 = .ok (.iload_n 2, 1) := by decide +kernel
theorem dX3_joined_155 : decode cX3_joined 155 = .ok (.imul, 1) := by decide +kernel
theorem dX3_joined_156 : decode cX3_joined 156 = .ok (.ireturn, 1) := by decide +kernel
theorem dX3_joined_157 : decode cX3_joined 157 = .ok (.iload_n 2, 1) := by decide +kernel
theorem dX3_joined_158 : decode cX3_joined 158 = .ok (.ifCond .ne 7, 3) := by decide +kernel
theorem dX3_joined_161 : decode cX3_joined 161 = .ok (.iconst 0, 1) := by decide +kernel
theorem dX3_joined_162 : decode cX3_joined 162 = .ok (.goto 6, 3) := by decide +kernel
theorem dX3_joined_165 : decode cX3_joined 165 = .ok (.iload_n 1, 1) := by decide +kernel
theorem dX3_joined_166 : decode cX3_joined 166 = .ok (.iload_n 2, 1) := by decide +kernel
theorem dX3_joined_167 : decode cX3_joined 167 = .ok (.idiv, 1) := by decide +kernel
theorem dX3_joined_168 : decode cX3_joined 168 = .ok (.ireturn, 1) := by decide +kernel
theorem dX3_joined_169 : decode cX3_joined 169 = .ok (.iload_n 2, 1) := by decide +kernel
theorem dX3_joined_170 : decode cX3_joined 170 = .ok (.ifCond .ne 7, 3) := by decide +kernel
theorem dX3_joined_173 : decode cX3_joined 173 = .ok (.iconst 0, 1) := by decide +kernel
theorem dX3_joined_174 : decode cX3_joined 174 = .ok (.goto 6, 3) := by decide +kernel
theorem dX3_joined_177 : decode cX3_joined 177 = .ok (.iload_n 1, 1) := by decide +kernel
theorem dX3_joined_178 : decode cX3_joined 178 = .ok (.iload_n 2, 1) := by decide +kernel
theorem dX3_joined_179 : decode cX3_joined 179 = .ok (.irem, 1) := by decide +kernel
theorem dX3_joined_180 : decode cX3_joined 180 = .ok (.ireturn, 1) := by decide +kernel
