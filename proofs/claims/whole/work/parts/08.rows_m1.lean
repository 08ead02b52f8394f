theorem dX10_init_0 : decode cX10_init 0 = .ok (.aload_n 0, 1) := by decide +kernel
theorem dX10_init_1 : decode cX10_init 1 = .ok (.invokespecial 1, 3) := by decide +kernel
theorem dX10_init_4 : decode cX10_init 4 = .ok (.aload_n 0, 1) := by decide +kernel
theorem dX10_init_5 : decode cX10_init 5 = .ok (.bipush 99, 2) := by decide +kernel
theorem dX10_init_7 : decode cX10_init 7 = .ok (.newarray .int, 2) := by decide +kernel
theorem dX10_init_9 : decode cX10_init 9 = .ok (.putfield 7, 3) := by decide +kernel
theorem dX10_init_12 : decode cX10_init 12 = .ok (.aload_n 0, 1) := by decide +kernel
theorem dX10_init_13 : decode cX10_init 13 = .ok (.bipush 99, 2) := by decide +kernel
theorem dX10_init_15 : decode cX10_init 15 = .ok (.newarray .int, 2) := by decide +kernel
theorem dX10_init_17 : decode cX10_init 17 = .ok (.putfield 13, 3) := by decide +kernel
theorem dX10_init_20 : decode cX10_init 20 = .ok (.aload_n 0, 1) := by decide +kernel
theorem dX10_init_21 : decode cX10_init 21 = .ok (.sipush 594, 3) := by decide +kernel
theorem dX10_init_24 : decode cX10_init 24 = .ok (.newarray .int, 2) := by decide +kernel
theorem dX10_init_26 : decode cX10_init 26 = .ok (.putfield 16, 3) := by decide +kernel
theorem dX10_init_29 : decode cX10_init 29 = .ok (.aload_n 0, 1) := by decide +kernel
theorem dX10_init_30 : decode cX10_init 30 = .ok (.sipush 200, 3) := by decide +kernel
theorem dX10_init_33 : decode cX10_init 33 = .ok (.newarray .int, 2) := by decide +kernel
theorem dX10_init_35 : decode cX10_init 35 = .ok (.putfield 19, 3) := by decide +kernel
theorem dX10_init_38 : decode cX10_init 38 = .ok (.aload_n 0, 1) := by decide +kernel
theorem dX10_init_39 : decode cX10_init 39 = .ok (.bipush 12, 2) := by decide +kernel
theorem dX10_init_41 : decode cX10_init 41 = .ok (.newarray .int, 2) := by decide +kernel
theorem dX10_init_43 : decode cX10_init 43 = .ok (.putfield 22, 3) := by decide +kernel
theorem dX10_init_46 : decode cX10_init 46 = .ok (.aload_n 0, 1) := by decide +kernel
theorem dX10_init_47 : decode cX10_init 47 = .ok (.bipush 12, 2) := by decide +kernel
theorem dX10_init_49 : decode cX10_init 49 = .ok (.newarray .int, 2) := by decide +kernel
theorem dX10_init_51 : decode cX10_init 51 = .ok (.putfield 25, 3) := by decide +kernel
theorem dX10_init_54 : decode cX10_init 54 = .ok (.aload_n 0, 1) := by decide +kernel
theorem dX10_init_55 : decode cX10_init 55 = .ok (.bipush 16, 2) := by decide +kernel
theorem dX10_init_57 : decode cX10_init 57 = .ok (.newarray .long, 2) := by decide +kernel
theorem dX10_init_59 : decode cX10_init 59 = .ok (.putfield 28, 3) := by decide +kernel
theorem dX10_init_62 : decode cX10_init 62 = .ok (.aload_n 0, 1) := by decide +kernel
theorem dX10_init_63 : decode cX10_init 63 = .ok (.bipush 16, 2) := by decide +kernel
theorem dX10_init_65 : decode cX10_init 65 = .ok (.newarray .long, 2) := by decide +kernel
theorem dX10_init_67 : decode cX10_init 67 = .ok (.putfield 32, 3) := by decide +kernel
theorem dX10_init_70 : decode cX10_init 70 = .ok (.aload_n 0, 1) := by decide +kernel
theorem dX10_init_71 : decode cX10_init 71 = .ok (.bipush 9, 2) := by decide +kernel
theorem dX10_init_73 : decode cX10_init 73 = .ok (.newarray .int, 2) := by decide +kernel
theorem dX10_init_75 : decode cX10_init 75 = .ok (.putfield 35, 3) := by decide +kernel
theorem dX10_init_78 : decode cX10_init 78 = .ok (.aload_n 0, 1) := by decide +kernel
theorem dX10_init_79 : decode cX10_init 79 = .ok (.bipush 9, 2) := by decide +kernel
theorem dX10_init_81 : decode cX10_init 81 = .ok (.newarray .int, 2) := by decide +kernel
theorem dX10_init_83 : decode cX10_init 83 = .ok (.putfield 38, 3) := by decide +kernel
theorem dX10_init_86 : decode cX10_init 86 = .ok (.aload_n 0, 1) := by decide +kernel
theorem dX10_init_87 : decode cX10_init 87 = .ok (.sipush 198, 3) := by decide +kernel
theorem dX10_init_90 : decode cX10_init 90 = .ok (.newarray .int, 2) := by decide +kernel
theorem dX10_init_92 : decode cX10_init 92 = .ok (.putfield 41, 3) := by decide +kernel
theorem dX10_init_95 : decode cX10_init 95 = .ok (.aload_n 0, 1) := by decide +kernel
theorem dX10_init_96 : decode cX10_init 96 = .ok (.bipush 9, 2) := by decide +kernel
theorem dX10_init_98 : decode cX10_init 98 = .ok (.newarray .int, 2) := by decide +kernel
theorem dX10_init_100 : decode cX10_init 100 = .ok (.putfield 44, 3) := by decide +kernel
theorem dX10_init_103 : decode cX10_init 103 = .ok (.aload_n 0, 1) := by decide +kernel
theorem dX10_init_104 : decode cX10_init 104 = .ok (.bipush 9, 2) := by decide +kernel
theorem dX10_init_106 : decode cX10_init 106 = .ok (.newarray .int, 2) := by decide +kernel
theorem dX10_init_108 : decode cX10_init 108 = .ok (.putfield 47, 3) := by decide +kernel
theorem dX10_init_111 : decode cX10_init 111 = .ok (.aload_n 0, 1) := by decide +kernel
theorem dX10_init_112 : decode cX10_init 112 = .ok (.getfield 7, 3) := by decide +kernel
theorem dX10_init_115 : decode cX10_init 115 = .ok (.iconst 0, 1) := by decide +kernel
theorem dX10_init_116 : decode cX10_init 116 = .ok (.iconst 3, 1) := by decide +kernel
theorem dX10_init_117 : decode cX10_init 117 = .ok (.iastore, 1) := by decide +kernel
theorem dX10_init_118 : decode cX10_init 118 = .ok (.aload_n 0, 1) := by decide +kernel
theorem dX10_init_119 : decode cX10_init 119 = .ok (.getfield 7, 3) := by decide +kernel
theorem dX10_init_122 : decode cX10_init 122 = .ok (.iconst 1, 1) := by decide +kernel
theorem dX10_init_123 : decode cX10_init 123 = .ok (.iconst 2, 1) := by decide +kernel
theorem dX10_init_124 : decode cX10_init 124 = .ok (.iastore, 1) := by decide +kernel
theorem dX10_init_125 : decode cX10_init 125 = .ok (.aload_n 0, 1) := by decide +kernel
theorem dX10_init_126 : decode cX10_init 126 = .ok (.getfield 7, 3) := by decide +kernel
theorem dX10_init_129 : decode cX10_init 129 = .ok (.iconst 2, 1) := by decide +kernel
theorem dX10_init_130 : decode cX10_init 130 = .ok (.iconst 2, 1) := by decide +kernel
theorem dX10_init_131 : decode cX10_init 131 = .ok (.iastore, 1) := by decide +kernel
theorem dX10_init_132 : decode cX10_init 132 = .ok (.aload_n 0, 1) := by decide +kernel
theorem dX10_init_133 : decode cX10_init 133 = .ok (.getfield 7, 3) := by decide +kernel
theorem dX10_init_136 : decode cX10_init 136 = .ok (.iconst 3, 1) := by decide +kernel
theorem dX10_init_137 : decode cX10_init 137 = .ok (.iconst 4, 1) := by decide +kernel
theorem dX10_init_138 : decode cX10_init 138 = .ok (.iastore, 1) := by decide +kernel
theorem dX10_init_139 : decode cX10_init 139 = .ok (.aload_n 0, 1) := by decide +kernel
theorem dX10_init_140 : decode cX10_init 140 = .ok (.getfield 7, 3) := by decide +kernel
theorem dX10_init_143 : decode cX10_init 143 = .ok (.iconst 0, 1) := by decide +kernel
theorem dX10_init_144 : decode cX10_init 144 = .ok (.iconst 0, 1) := by decide +kernel
theorem dX10_init_145 : decode cX10_init 145 = .ok (.iconst 1, 1) := by decide +kernel
theorem dX10_init_146 : decode cX10_init 146 = .ok (.iconst 0, 1) := by decide +kernel
theorem dX10_init_147 : decode cX10_init 147 = .ok (.iconst 1, 1) := by decide +kernel
theorem dX10_init_148 : decode cX10_init 148 = .ok (.invokestatic 50, 3) := by decide +kernel
theorem dX10_init_151 : decode cX10_init 151 = .ok (.aload_n 0, 1) := by decide +kernel
theorem dX10_init_152 : decode cX10_init 152 = .ok (.getfield 7, 3) := by decide +kernel
theorem dX10_init_155 : decode cX10_init 155 = .ok (.iconst 0, 1) := by decide +kernel
theorem dX10_init_156 : decode cX10_init 156 = .ok (.iconst 1, 1) := by decide +kernel
theorem dX10_init_157 : decode cX10_init 157 = .ok (.iconst 0, 1) := by decide +kernel
theorem dX10_init_158 : decode cX10_init 158 = .ok (.iconst (-1), 1) := by decide +kernel
theorem dX10_init_159 : decode cX10_init 159 = .ok (.iconst (-1), 1) := by decide +kernel
theorem dX10_init_160 : decode cX10_init 160 = .ok (.invokestatic 50, 3) := by decide +kernel
theorem dX10_init_163 : decode cX10_init 163 = .ok (.aload_n 0, 1) := by decide +kernel
theorem dX10_init_164 : decode cX10_init 164 = .ok (.getfield 7, 3) := by decide +kernel
theorem dX10_init_167 : decode cX10_init 167 = .ok (.iconst 1, 1) := by decide +kernel
theorem dX10_init_168 : decode cX10_init 168 = .ok (.iconst 0, 1) := by decide +kernel
theorem dX10_init_169 : decode cX10_init 169 = .ok (.iconst 0, 1) := by decide +kernel
theorem dX10_init_170 : decode cX10_init 170 = .ok (.iconst (-1), 1) := by decide +kernel
theorem dX10_init_171 : decode cX10_init 171 = .ok (.iconst (-1), 1) := by decide +kernel
theorem dX10_init_172 : decode cX10_init 172 = .ok (.invokestatic 50, 3) := by decide +kernel
theorem dX10_init_175 : decode cX10_init 175 = .ok (.aload_n 0, 1) := by decide +kernel
theorem dX10_init_176 : decode cX10_init 176 = .ok (.getfield 7, 3) := by decide +kernel
theorem dX10_init_179 : decode cX10_init 179 = .ok (.iconst 1, 1) := by decide +kernel
theorem dX10_init_180 : decode cX10_init 180 = .ok (.iconst 0, 1) := by decide +kernel
theorem dX10_init_181 : decode cX10_init 181 = .ok (.iconst 1, 1) := by decide +kernel
theorem dX10_init_182 : decode cX10_init 182 = .ok (.iconst 1, 1) := by decide +kernel
theorem dX10_init_183 : decode cX10_init 183 = .ok (.iconst (-1), 1) := by decide +kernel
theorem dX10_init_184 : decode cX10_init 184 = .ok (.invokestatic 50, 3) := by decide +kernel
theorem dX10_init_187 : decode cX10_init 187 = .ok (.aload_n 0, 1) := by decide +kernel
theorem dX10_init_188 : decode cX10_init 188 = .ok (.getfield 7, 3) := by decide +kernel
theorem dX10_init_191 : decode cX10_init 191 = .ok (.iconst 1, 1) := by decide +kernel
theorem dX10_init_192 : decode cX10_init 192 = .ok (.iconst 1, 1) := by decide +kernel
theorem dX10_init_193 : decode cX10_init 193 = .ok (.iconst 2, 1) := by decide +kernel
theorem dX10_init_194 : decode cX10_init 194 = .ok (.iconst (-1), 1) := by decide +kernel
theorem dX10_init_195 : decode cX10_init 195 = .ok (.iconst (-1), 1) := by decide +kernel
theorem dX10_init_196 : decode cX10_init 196 = .ok (.invokestatic 50, 3) := by decide +kernel
theorem dX10_init_199 : decode cX10_init 199 = .ok (.aload_n 0, 1) := by decide +kernel
theorem dX10_init_200 : decode cX10_init 200 = .ok (.getfield 7, 3) := by decide +kernel
theorem dX10_init_203 : decode cX10_init 203 = .ok (.iconst 1, 1) := by decide +kernel
theorem dX10_init_204 : decode cX10_init 204 = .ok (.iconst 1, 1) := by decide +kernel
theorem dX10_init_205 : decode cX10_init 205 = .ok (.iconst 0, 1) := by decide +kernel
theorem dX10_init_206 : decode cX10_init 206 = .ok (.iconst 1, 1) := by decide +kernel
theorem dX10_init_207 : decode cX10_init 207 = .ok (.iconst (-1), 1) := by decide +kernel
theorem dX10_init_208 : decode cX10_init 208 = .ok (.invokestatic 50, 3) := by decide +kernel
theorem dX10_init_211 : decode cX10_init 211 = .ok (.aload_n 0, 1) := by decide +kernel
theorem dX10_init_212 : decode cX10_init 212 = .ok (.getfield 7, 3) := by decide +kernel
theorem dX10_init_215 : decode cX10_init 215 = .ok (.bipush 86, 2) := by decide +kernel
theorem dX10_init_217 : decode cX10_init 217 = .ok (.iconst 1, 1) := by decide +kernel
theorem dX10_init_218 : decode cX10_init 218 = .ok (.iastore, 1) := by decide +kernel
theorem dX10_init_219 : decode cX10_init 219 = .ok (.return_, 1) := by decide +kernel
theorem dX10_in_0 : decode cX10_in 0 = .ok (.lload_n 0, 1) := by decide +kernel
theorem dX10_in_1 : decode cX10_in 1 = .ok (.lload_n 2, 1) := by decide +kernel
theorem dX10_in_2 : decode cX10_in 2 = .ok (.lcmp, 1) := by decide +kernel
theorem dX10_in_3 : decode cX10_in 3 = .ok (.ifCond .lt 14, 3) := by decide +kernel
theorem dX10_in_6 : decode cX10_in 6 = .ok (.lload_n 0, 1) := by decide +kernel
theorem dX10_in_7 : decode cX10_in 7 = .ok (.lload 4, 2) := by decide +kernel
theorem dX10_in_9 : decode cX10_in 9 = .ok (.lcmp, 1) := by decide +kernel
theorem dX10_in_10 : decode cX10_in 10 = .ok (.ifCond .gt 7, 3) := by decide +kernel
theorem dX10_in_13 : decode cX10_in 13 = .ok (.iconst 1, 1) := by decide +kernel
theorem dX10_in_14 : decode cX10_in 14 = .ok (.goto 4, 3) := by decide +kernel
theorem dX10_in_17 : decode cX10_in 17 = .ok (.iconst 0, 1) := by decide +kernel
theorem dX10_in_18 : decode cX10_in 18 = .ok (.ireturn, 1) := by decide +kernel
theorem dX10_rule_0 : decode cX10_rule 0 = .ok (.iconst 5, 1) := by decide +kernel
theorem dX10_rule_1 : decode cX10_rule 1 = .ok (.iconst 5, 1) := by decide +kernel
theorem dX10_rule_2 : decode cX10_rule 2 = .ok (.aload_n 0, 1) := by decide +kernel
theorem dX10_rule_3 : decode cX10_rule 3 = .ok (.iconst 4, 1) := by decide +kernel
theorem dX10_rule_4 : decode cX10_rule 4 = .ok (.iaload, 1) := by decide +kernel
theorem dX10_rule_5 : decode cX10_rule 5 = .ok (.imul, 1) := by decide +kernel
theorem dX10_rule_6 : decode cX10_rule 6 = .ok (.iadd, 1) := by decide +kernel
theorem dX10_rule_7 : decode cX10_rule 7 = .ok (.istore 6, 2) := by decide +kernel
theorem dX10_rule_9 : decode cX10_rule 9 = .ok (.aload_n 0, 1) := by decide +kernel
theorem dX10_rule_10 : decode cX10_rule 10 = .ok (.iload 6, 2) := by decide +kernel
theorem dX10_rule_12 : decode cX10_rule 12 = .ok (.iload_n 1, 1) := by decide +kernel
theorem dX10_rule_13 : decode cX10_rule 13 = .ok (.iastore, 1) := by decide +kernel
theorem dX10_rule_14 : decode cX10_rule 14 = .ok (.aload_n 0, 1) := by decide +kernel
theorem dX10_rule_15 : decode cX10_rule 15 = .ok (.iload 6, 2) := by decide +kernel
theorem dX10_rule_17 : decode cX10_rule 17 = .ok (.iconst 1, 1) := by decide +kernel
theorem dX10_rule_18 : decode cX10_rule 18 = .ok (.iadd, 1) := by decide +kernel
theorem dX10_rule_19 : decode cX10_rule 19 = .ok (.iload_n 2, 1) := by decide +kernel
theorem dX10_rule_20 : decode cX10_rule 20 = .ok (.iastore, 1) := by decide +kernel
theorem dX10_rule_21 : decode cX10_rule 21 = .ok (.aload_n 0, 1) := by decide +kernel
theorem dX10_rule_22 : decode cX10_rule 22 = .ok (.iload 6, 2) := by decide +kernel
theorem dX10_rule_24 : decode cX10_rule 24 = .ok (.iconst 2, 1) := by decide +kernel
theorem dX10_rule_25 : decode cX10_rule 25 = .ok (.iadd, 1) := by decide +kernel
theorem dX10_rule_26 : decode cX10_rule 26 = .ok (.iload_n 3, 1) := by decide +kernel
theorem dX10_rule_27 : decode cX10_rule 27 = .ok (.iastore, 1) := by decide +kernel
theorem dX10_rule_28 : decode cX10_rule 28 = .ok (.aload_n 0, 1) := by decide +kernel
theorem dX10_rule_29 : decode cX10_rule 29 = .ok (.iload 6, 2) := by decide +kernel
theorem dX10_rule_31 : decode cX10_rule 31 = .ok (.iconst 3, 1) := by decide +kernel
theorem dX10_rule_32 : decode cX10_rule 32 = .ok (.iadd, 1) := by decide +kernel
theorem dX10_rule_33 : decode cX10_rule 33 = .ok (.iload 4, 2) := by decide +kernel
theorem dX10_rule_35 : decode cX10_rule 35 = .ok (.iastore, 1) := by decide +kernel
theorem dX10_rule_36 : decode cX10_rule 36 = .ok (.aload_n 0, 1) := by decide +kernel
theorem dX10_rule_37 : decode cX10_rule 37 = .ok (.iload 6, 2) := by decide +kernel
theorem dX10_rule_39 : decode cX10_rule 39 = .ok (.iconst 4, 1) := by decide +kernel
theorem dX10_rule_40 : decode cX10_rule 40 = .ok (.iadd, 1) := by decide +kernel
theorem dX10_rule_41 : decode cX10_rule 41 = .ok (.iload 5, 2) := by decide +kernel
theorem dX10_rule_43 : decode cX10_rule 43 = .ok (.iastore, 1) := by decide +kernel
theorem dX10_rule_44 : decode cX10_rule 44 = .ok (.aload_n 0, 1) := by decide +kernel
theorem dX10_rule_45 : decode cX10_rule 45 = .ok (.iconst 4, 1) := by decide +kernel
theorem dX10_rule_46 : decode cX10_rule 46 = .ok (.dup2, 1) := by decide +kernel
theorem dX10_rule_47 : decode cX10_rule 47 = .ok (.iaload, 1) := by decide +kernel
theorem dX10_rule_48 : decode cX10_rule 48 = .ok (.iconst 1, 1) := by decide +kernel
theorem dX10_rule_49 : decode cX10_rule 49 = .ok (.iadd, 1) := by decide +kernel
theorem dX10_rule_50 : decode cX10_rule 50 = .ok (.iastore, 1) := by decide +kernel
theorem dX10_rule_51 : decode cX10_rule 51 = .ok (.return_, 1) := by decide +kernel
theorem dX10_hasRoom_0 : decode cX10_hasRoom 0 = .ok (.iconst 0, 1) := by decide +kernel
theorem dX10_hasRoom_1 : decode cX10_hasRoom 1 = .ok (.istore_n 3, 1) := by decide +kernel
theorem dX10_hasRoom_2 : decode cX10_hasRoom 2 = .ok (.iconst 0, 1) := by decide +kernel
theorem dX10_hasRoom_3 : decode cX10_hasRoom 3 = .ok (.istore 4, 2) := by decide +kernel
theorem dX10_hasRoom_5 : decode cX10_hasRoom 5 = .ok (.iload 4, 2) := by decide +kernel
theorem dX10_hasRoom_7 : decode cX10_hasRoom 7 = .ok (.aload_n 0, 1) := by decide +kernel
theorem dX10_hasRoom_8 : decode cX10_hasRoom 8 = .ok (.iconst 4, 1) := by decide +kernel
theorem dX10_hasRoom_9 : decode cX10_hasRoom 9 = .ok (.iaload, 1) := by decide +kernel
theorem dX10_hasRoom_10 : decode cX10_hasRoom 10 = .ok (.if_icmp .ge 43, 3) := by decide +kernel
theorem dX10_hasRoom_13 : decode cX10_hasRoom 13 = .ok (.iload_n 3, 1) := by decide +kernel
theorem dX10_hasRoom_14 : decode cX10_hasRoom 14 = .ok (.aload_n 0, 1) := by decide +kernel
theorem dX10_hasRoom_15 : decode cX10_hasRoom 15 = .ok (.iconst 5, 1) := by decide +kernel
theorem dX10_hasRoom_16 : decode cX10_hasRoom 16 = .ok (.iconst 5, 1) := by decide +kernel
theorem dX10_hasRoom_17 : decode cX10_hasRoom 17 = .ok (.iload 4, 2) := by decide +kernel
theorem dX10_hasRoom_19 : decode cX10_hasRoom 19 = .ok (.imul, 1) := by decide +kernel
theorem dX10_hasRoom_20 : decode cX10_hasRoom 20 = .ok (.iadd, 1) := by decide +kernel
theorem dX10_hasRoom_21 : decode cX10_hasRoom 21 = .ok (.iaload, 1) := by decide +kernel
theorem dX10_hasRoom_22 : decode cX10_hasRoom 22 = .ok (.iload_n 1, 1) := by decide +kernel
theorem dX10_hasRoom_23 : decode cX10_hasRoom 23 = .ok (.if_icmp .ne 21, 3) := by decide +kernel
theorem dX10_hasRoom_26 : decode cX10_hasRoom 26 = .ok (.aload_n 0, 1) := by decide +kernel
theorem dX10_hasRoom_27 : decode cX10_hasRoom 27 = .ok (.iconst 5, 1) := by decide +kernel
theorem dX10_hasRoom_28 : decode cX10_hasRoom 28 = .ok (.iconst 5, 1) := by decide +kernel
theorem dX10_hasRoom_29 : decode cX10_hasRoom 29 = .ok (.iload 4, 2) := by decide +kernel
theorem dX10_hasRoom_31 : decode cX10_hasRoom 31 = .ok (.imul, 1) := by decide +kernel
theorem dX10_hasRoom_32 : decode cX10_hasRoom 32 = .ok (.iadd, 1) := by decide +kernel
theorem dX10_hasRoom_33 : decode cX10_hasRoom 33 = .ok (.iconst 1, 1) := by decide +kernel
theorem dX10_hasRoom_34 : decode cX10_hasRoom 34 = .ok (.iadd, 1) := by decide +kernel
theorem dX10_hasRoom_35 : decode cX10_hasRoom 35 = .ok (.iaload, 1) := by decide +kernel
theorem dX10_hasRoom_36 : decode cX10_hasRoom 36 = .ok (.iload_n 2, 1) := by decide +kernel
theorem dX10_hasRoom_37 : decode cX10_hasRoom 37 = .ok (.if_icmp .ne 7, 3) := by decide +kernel
theorem dX10_hasRoom_40 : decode cX10_hasRoom 40 = .ok (.iconst 1, 1) := by decide +kernel
theorem dX10_hasRoom_41 : decode cX10_hasRoom 41 = .ok (.goto 4, 3) := by decide +kernel
theorem dX10_hasRoom_44 : decode cX10_hasRoom 44 = .ok (.iconst 0, 1) := by decide +kernel
theorem dX10_hasRoom_45 : decode cX10_hasRoom 45 = .ok (.iadd, 1) := by decide +kernel
theorem dX10_hasRoom_46 : decode cX10_hasRoom 46 = .ok (.istore_n 3, 1) := by decide +kernel
theorem dX10_hasRoom_47 : decode cX10_hasRoom 47 = .ok (.iinc 4 1, 3) := by decide +kernel
theorem dX10_hasRoom_50 : decode cX10_hasRoom 50 = .ok (.goto (-45), 3) := by decide +kernel
theorem dX10_hasRoom_53 : decode cX10_hasRoom 53 = .ok (.iload_n 3, 1) := by decide +kernel
theorem dX10_hasRoom_54 : decode cX10_hasRoom 54 = .ok (.iconst 3, 1) := by decide +kernel
theorem dX10_hasRoom_55 : decode cX10_hasRoom 55 = .ok (.if_icmp .ge 15, 3) := by decide +kernel
theorem dX10_hasRoom_58 : decode cX10_hasRoom 58 = .ok (.aload_n 0, 1) := by decide +kernel
theorem dX10_hasRoom_59 : decode cX10_hasRoom 59 = .ok (.iconst 4, 1) := by decide +kernel
theorem dX10_hasRoom_60 : decode cX10_hasRoom 60 = .ok (.iaload, 1) := by decide +kernel
theorem dX10_hasRoom_61 : decode cX10_hasRoom 61 = .ok (.bipush 16, 2) := by decide +kernel
theorem dX10_hasRoom_63 : decode cX10_hasRoom 63 = .ok (.if_icmp .ge 7, 3) := by decide +kernel
theorem dX10_hasRoom_66 : decode cX10_hasRoom 66 = .ok (.iconst 1, 1) := by decide +kernel
theorem dX10_hasRoom_67 : decode cX10_hasRoom 67 = .ok (.goto 4, 3) := by decide +kernel
theorem dX10_hasRoom_70 : decode cX10_hasRoom 70 = .ok (.iconst 0, 1) := by decide +kernel
theorem dX10_hasRoom_71 : decode cX10_hasRoom 71 = .ok (.ireturn, 1) := by decide +kernel
set_option maxRecDepth 20000 in
theorem ggX10_append_X10_in : GoodIn wsX10_append wsX10_in := goodIn_r _ [8] (by decide +kernel) (by decide +kernel)
set_option maxRecDepth 20000 in
theorem gX10_append_X10_in : GoodIn wsX10_append (va_wsS RX10 58 yX10_in wsX10_in) := goodIn_app (goodIn_of _ (by decide +kernel)) ggX10_append_X10_in
theorem dX10_append_0 : decode cX10_append 0 = .ok (.iload_n 1, 1) := by decide +kernel
theorem dX10_append_1 : decode cX10_append 1 = .ok (.i2l, 1) := by decide +kernel
theorem dX10_append_2 : decode cX10_append 2 = .ok (.ldc2_w 54, 3) := by decide +kernel
theorem dX10_append_5 : decode cX10_append 5 = .ok (.ldc2_w 56, 3) := by decide +kernel
theorem dX10_append_8 : decode cX10_append 8 = .ok (.invokestatic 58, 3) := by decide +kernel
theorem dX10_append_11 : decode cX10_append 11 = .ok (.ifCond .ne 5, 3) := by decide +kernel
theorem dX10_append_14 : decode cX10_append 14 = .ok (.iconst (-1), 1) := by decide +kernel
theorem dX10_append_15 : decode cX10_append 15 = .ok (.ireturn, 1) := by decide +kernel
theorem dX10_append_16 : decode cX10_append 16 = .ok (.aload_n 0, 1) := by decide +kernel
theorem dX10_append_17 : decode cX10_append 17 = .ok (.getfield 62, 3) := by decide +kernel
theorem dX10_append_20 : decode cX10_append 20 = .ok (.sipush 200, 3) := by decide +kernel
theorem dX10_append_23 : decode cX10_append 23 = .ok (.if_icmp .ne 6, 3) := by decide +kernel
theorem dX10_append_26 : decode cX10_append 26 = .ok (.bipush (-3), 2) := by decide +kernel
theorem dX10_append_28 : decode cX10_append 28 = .ok (.ireturn, 1) := by decide +kernel
theorem dX10_append_29 : decode cX10_append 29 = .ok (.aload_n 0, 1) := by decide +kernel
theorem dX10_append_30 : decode cX10_append 30 = .ok (.getfield 19, 3) := by decide +kernel
theorem dX10_append_33 : decode cX10_append 33 = .ok (.aload_n 0, 1) := by decide +kernel
theorem dX10_append_34 : decode cX10_append 34 = .ok (.getfield 62, 3) := by decide +kernel
theorem dX10_append_37 : decode cX10_append 37 = .ok (.iload_n 1, 1) := by decide +kernel
theorem dX10_append_38 : decode cX10_append 38 = .ok (.iastore, 1) := by decide +kernel
theorem dX10_append_39 : decode cX10_append 39 = .ok (.aload_n 0, 1) := by decide +kernel
theorem dX10_append_40 : decode cX10_append 40 = .ok (.dup, 1) := by decide +kernel
theorem dX10_append_41 : decode cX10_append 41 = .ok (.getfield 62, 3) := by decide +kernel
theorem dX10_append_44 : decode cX10_append 44 = .ok (.iconst 1, 1) := by decide +kernel
theorem dX10_append_45 : decode cX10_append 45 = .ok (.iadd, 1) := by decide +kernel
theorem dX10_append_46 : decode cX10_append 46 = .ok (.putfield 62, 3) := by decide +kernel
theorem dX10_append_49 : decode cX10_append 49 = .ok (.aload_n 0, 1) := by decide +kernel
theorem dX10_append_50 : decode cX10_append 50 = .ok (.getfield 62, 3) := by decide +kernel
theorem dX10_append_53 : decode cX10_append 53 = .ok (.ireturn, 1) := by decide +kernel
theorem dX10_clearText_0 : decode cX10_clearText 0 = .ok (.aload_n 0, 1) := by decide +kernel
theorem dX10_clearText_1 : decode cX10_clearText 1 = .ok (.getfield 62, 3) := by decide +kernel
theorem dX10_clearText_4 : decode cX10_clearText 4 = .ok (.istore_n 1, 1) := by decide +kernel
theorem dX10_clearText_5 : decode cX10_clearText 5 = .ok (.aload_n 0, 1) := by decide +kernel
theorem dX10_clearText_6 : decode cX10_clearText 6 = .ok (.iconst 0, 1) := by decide +kernel
theorem dX10_clearText_7 : decode cX10_clearText 7 = .ok (.putfield 62, 3) := by decide +kernel
theorem dX10_clearText_10 : decode cX10_clearText 10 = .ok (.iload_n 1, 1) := by decide +kernel
theorem dX10_clearText_11 : decode cX10_clearText 11 = .ok (.ireturn, 1) := by decide +kernel
theorem dX10_letter_0 : decode cX10_letter 0 = .ok (.aload_n 0, 1) := by decide +kernel
theorem dX10_letter_1 : decode cX10_letter 1 = .ok (.getfield 66, 3) := by decide +kernel
theorem dX10_letter_4 : decode cX10_letter 4 = .ok (.aload_n 0, 1) := by decide +kernel
theorem dX10_letter_5 : decode cX10_letter 5 = .ok (.getfield 62, 3) := by decide +kernel
theorem dX10_letter_8 : decode cX10_letter 8 = .ok (.if_icmp .ge 15, 3) := by decide +kernel
theorem dX10_letter_11 : decode cX10_letter 11 = .ok (.aload_n 0, 1) := by decide +kernel
theorem dX10_letter_12 : decode cX10_letter 12 = .ok (.getfield 19, 3) := by decide +kernel
theorem dX10_letter_15 : decode cX10_letter 15 = .ok (.aload_n 0, 1) := by decide +kernel
theorem dX10_letter_16 : decode cX10_letter 16 = .ok (.getfield 66, 3) := by decide +kernel
theorem dX10_letter_19 : decode cX10_letter 19 = .ok (.iaload, 1) := by decide +kernel
theorem dX10_letter_20 : decode cX10_letter 20 = .ok (.goto 4, 3) := by decide +kernel
theorem dX10_letter_23 : decode cX10_letter 23 = .ok (.iconst 0, 1) := by decide +kernel
theorem dX10_letter_24 : decode cX10_letter 24 = .ok (.istore_n 1, 1) := by decide +kernel
theorem dX10_letter_25 : decode cX10_letter 25 = .ok (.aload_n 0, 1) := by decide +kernel
theorem dX10_letter_26 : decode cX10_letter 26 = .ok (.dup, 1) := by decide +kernel
theorem dX10_letter_27 : decode cX10_letter 27 = .ok (.getfield 66, 3) := by decide +kernel
theorem dX10_letter_30 : decode cX10_letter 30 = .ok (.iconst 1, 1) := by decide +kernel
theorem dX10_letter_31 : decode cX10_letter 31 = .ok (.iadd, 1) := by decide +kernel
theorem dX10_letter_32 : decode cX10_letter 32 = .ok (.putfield 66, 3) := by decide +kernel
theorem dX10_letter_35 : decode cX10_letter 35 = .ok (.iload_n 1, 1) := by decide +kernel
theorem dX10_letter_36 : decode cX10_letter 36 = .ok (.ireturn, 1) := by decide +kernel
set_option maxRecDepth 20000 in
theorem ggX10_figure_X10_letter : GoodIn wsX10_figure wsX10_letter := goodIn_r _ [5, 6, 7, 8, 12, 13, 14, 15, 16, 17, 18, 19, 20, 21, 22, 23, 24, 25, 26, 27, 28] (by decide +kernel) (by decide +kernel)
set_option maxRecDepth 20000 in
theorem gX10_figure_X10_letter : GoodIn wsX10_figure (wsV RX10 69 RX10 yX10_letter wsX10_letter) := goodIn_app (goodIn_of _ (by decide +kernel)) ggX10_figure_X10_letter
set_option maxRecDepth 20000 in
theorem ggX10_figure_X10_in : GoodIn wsX10_figure wsX10_in := goodIn_r _ [11] (by decide +kernel) (by decide +kernel)
set_option maxRecDepth 20000 in
theorem gX10_figure_X10_in : GoodIn wsX10_figure (va_wsS RX10 58 yX10_in wsX10_in) := goodIn_app (goodIn_of _ (by decide +kernel)) ggX10_figure_X10_in
theorem dX10_figure_0 : decode cX10_figure 0 = .ok (.aload_n 0, 1) := by decide +kernel
theorem dX10_figure_1 : decode cX10_figure 1 = .ok (.invokevirtual 69, 3) := by decide +kernel
theorem dX10_figure_4 : decode cX10_figure 4 = .ok (.bipush 48, 2) := by decide +kernel
theorem dX10_figure_6 : decode cX10_figure 6 = .ok (.isub, 1) := by decide +kernel
theorem dX10_figure_7 : decode cX10_figure 7 = .ok (.istore_n 2, 1) := by decide +kernel
theorem dX10_figure_8 : decode cX10_figure 8 = .ok (.iload_n 2, 1) := by decide +kernel
theorem dX10_figure_9 : decode cX10_figure 9 = .ok (.i2l, 1) := by decide +kernel
theorem dX10_figure_10 : decode cX10_figure 10 = .ok (.lconst 0, 1) := by decide +kernel
theorem dX10_figure_11 : decode cX10_figure 11 = .ok (.iload_n 1, 1) := by decide +kernel
theorem dX10_figure_12 : decode cX10_figure 12 = .ok (.iconst 1, 1) := by decide +kernel
theorem dX10_figure_13 : decode cX10_figure 13 = .ok (.isub, 1) := by decide +kernel
theorem dX10_figure_14 : decode cX10_figure 14 = .ok (.i2l, 1) := by decide +kernel
theorem dX10_figure_15 : decode cX10_figure 15 = .ok (.invokestatic 58, 3) := by decide +kernel
theorem dX10_figure_18 : decode cX10_figure 18 = .ok (.ifCond .eq 7, 3) := by decide +kernel
theorem dX10_figure_21 : decode cX10_figure 21 = .ok (.iload_n 2, 1) := by decide +kernel
theorem dX10_figure_22 : decode cX10_figure 22 = .ok (.goto 4, 3) := by decide +kernel
theorem dX10_figure_25 : decode cX10_figure 25 = .ok (.iconst (-1), 1) := by decide +kernel
theorem dX10_figure_26 : decode cX10_figure 26 = .ok (.ireturn, 1) := by decide +kernel
set_option maxRecDepth 20000 in
theorem ggX10_ruleIs_X10_figure : GoodIn wsX10_ruleIs wsX10_figure := goodIn_r _ [6, 7, 8, 9, 5, 10, 11, 12, 13, 14, 15, 16, 23, 24, 25, 26, 27, 28, 29, 30, 31, 32, 33, 34, 35, 36, 37, 38, 39] (by decide +kernel) (by decide +kernel)
set_option maxRecDepth 20000 in
theorem gX10_ruleIs_X10_figure : GoodIn wsX10_ruleIs (wsV RX10 73 RX10 yX10_figure wsX10_figure) := goodIn_app (goodIn_of _ (by decide +kernel)) ggX10_ruleIs_X10_figure
set_option maxRecDepth 20000 in
theorem ggX10_ruleIs_X10_letter : GoodIn wsX10_ruleIs wsX10_letter := goodIn_r _ [10, 11, 12, 13, 23, 24, 25, 26, 27, 28, 29, 30, 31, 32, 33, 34, 35, 36, 37, 38, 39] (by decide +kernel) (by decide +kernel)
set_option maxRecDepth 20000 in
theorem gX10_ruleIs_X10_letter : GoodIn wsX10_ruleIs (wsV RX10 69 RX10 yX10_letter wsX10_letter) := goodIn_app (goodIn_of _ (by decide +kernel)) ggX10_ruleIs_X10_letter
set_option maxRecDepth 20000 in
theorem ggX10_ruleIs_X10_hasRoom : GoodIn wsX10_ruleIs wsX10_hasRoom := goodIn_r _ [19] (by decide +kernel) (by decide +kernel)
set_option maxRecDepth 20000 in
theorem gX10_ruleIs_X10_hasRoom : GoodIn wsX10_ruleIs (va_wsS RX10 77 yX10_hasRoom wsX10_hasRoom) := goodIn_app (goodIn_of _ (by decide +kernel)) ggX10_ruleIs_X10_hasRoom
set_option maxRecDepth 20000 in
theorem ggX10_ruleIs_X10_rule : GoodIn wsX10_ruleIs wsX10_rule := goodIn_r _ [22] (by decide +kernel) (by decide +kernel)
set_option maxRecDepth 20000 in
theorem gX10_ruleIs_X10_rule : GoodIn wsX10_ruleIs (va_wsS RX10 50 yX10_rule wsX10_rule) := goodIn_app (goodIn_of _ (by decide +kernel)) ggX10_ruleIs_X10_rule
theorem dX10_ruleIs_0 : decode cX10_ruleIs 0 = .ok (.aload_n 0, 1) := by decide +kernel
theorem dX10_ruleIs_1 : decode cX10_ruleIs 1 = .ok (.aload_n 0, 1) := by decide +kernel
theorem dX10_ruleIs_2 : decode cX10_ruleIs 2 = .ok (.getfield 13, 3) := by decide +kernel
theorem dX10_ruleIs_5 : decode cX10_ruleIs 5 = .ok (.iconst 0, 1) := by decide +kernel
theorem dX10_ruleIs_6 : decode cX10_ruleIs 6 = .ok (.iaload, 1) := by decide +kernel
theorem dX10_ruleIs_7 : decode cX10_ruleIs 7 = .ok (.invokevirtual 73, 3) := by decide +kernel
theorem dX10_ruleIs_10 : decode cX10_ruleIs 10 = .ok (.istore_n 1, 1) := by decide +kernel
theorem dX10_ruleIs_11 : decode cX10_ruleIs 11 = .ok (.iload_n 1, 1) := by decide +kernel
theorem dX10_ruleIs_12 : decode cX10_ruleIs 12 = .ok (.ifCond .lt 12, 3) := by decide +kernel
theorem dX10_ruleIs_15 : decode cX10_ruleIs 15 = .ok (.aload_n 0, 1) := by decide +kernel
theorem dX10_ruleIs_16 : decode cX10_ruleIs 16 = .ok (.invokevirtual 69, 3) := by decide +kernel
theorem dX10_ruleIs_19 : decode cX10_ruleIs 19 = .ok (.bipush 44, 2) := by decide +kernel
theorem dX10_ruleIs_21 : decode cX10_ruleIs 21 = .ok (.if_icmp .eq 5, 3) := by decide +kernel
theorem dX10_ruleIs_24 : decode cX10_ruleIs 24 = .ok (.iconst 0, 1) := by decide +kernel
theorem dX10_ruleIs_25 : decode cX10_ruleIs 25 = .ok (.ireturn, 1) := by decide +kernel
theorem dX10_ruleIs_26 : decode cX10_ruleIs 26 = .ok (.aload_n 0, 1) := by decide +kernel
theorem dX10_ruleIs_27 : decode cX10_ruleIs 27 = .ok (.aload_n 0, 1) := by decide +kernel
theorem dX10_ruleIs_28 : decode cX10_ruleIs 28 = .ok (.getfield 13, 3) := by decide +kernel
theorem dX10_ruleIs_31 : decode cX10_ruleIs 31 = .ok (.iconst 1, 1) := by decide +kernel
theorem dX10_ruleIs_32 : decode cX10_ruleIs 32 = .ok (.iaload, 1) := by decide +kernel
theorem dX10_ruleIs_33 : decode cX10_ruleIs 33 = .ok (.invokevirtual 73, 3) := by decide +kernel
theorem dX10_ruleIs_36 : decode cX10_ruleIs 36 = .ok (.istore_n 2, 1) := by decide +kernel
theorem dX10_ruleIs_37 : decode cX10_ruleIs 37 = .ok (.iload_n 2, 1) := by decide +kernel
theorem dX10_ruleIs_38 : decode cX10_ruleIs 38 = .ok (.ifCond .lt 12, 3) := by decide +kernel
theorem dX10_ruleIs_41 : decode cX10_ruleIs 41 = .ok (.aload_n 0, 1) := by decide +kernel
theorem dX10_ruleIs_42 : decode cX10_ruleIs 42 = .ok (.invokevirtual 69, 3) := by decide +kernel
theorem dX10_ruleIs_45 : decode cX10_ruleIs 45 = .ok (.bipush 44, 2) := by decide +kernel
theorem dX10_ruleIs_47 : decode cX10_ruleIs 47 = .ok (.if_icmp .eq 5, 3) := by decide +kernel
theorem dX10_ruleIs_50 : decode cX10_ruleIs 50 = .ok (.iconst 0, 1) := by decide +kernel
theorem dX10_ruleIs_51 : decode cX10_ruleIs 51 = .ok (.ireturn, 1) := by decide +kernel
theorem dX10_ruleIs_52 : decode cX10_ruleIs 52 = .ok (.aload_n 0, 1) := by decide +kernel
theorem dX10_ruleIs_53 : decode cX10_ruleIs 53 = .ok (.aload_n 0, 1) := by decide +kernel
theorem dX10_ruleIs_54 : decode cX10_ruleIs 54 = .ok (.getfield 13, 3) := by decide +kernel
theorem dX10_ruleIs_57 : decode cX10_ruleIs 57 = .ok (.iconst 0, 1) := by decide +kernel
theorem dX10_ruleIs_58 : decode cX10_ruleIs 58 = .ok (.iaload, 1) := by decide +kernel
theorem dX10_ruleIs_59 : decode cX10_ruleIs 59 = .ok (.invokevirtual 73, 3) := by decide +kernel
theorem dX10_ruleIs_62 : decode cX10_ruleIs 62 = .ok (.istore_n 3, 1) := by decide +kernel
theorem dX10_ruleIs_63 : decode cX10_ruleIs 63 = .ok (.iconst (-1), 1) := by decide +kernel
theorem dX10_ruleIs_64 : decode cX10_ruleIs 64 = .ok (.istore 4, 2) := by decide +kernel
theorem dX10_ruleIs_66 : decode cX10_ruleIs 66 = .ok (.iconst (-1), 1) := by decide +kernel
theorem dX10_ruleIs_67 : decode cX10_ruleIs 67 = .ok (.istore 5, 2) := by decide +kernel
theorem dX10_ruleIs_69 : decode cX10_ruleIs 69 = .ok (.aload_n 0, 1) := by decide +kernel
theorem dX10_ruleIs_70 : decode cX10_ruleIs 70 = .ok (.invokevirtual 69, 3) := by decide +kernel
theorem dX10_ruleIs_73 : decode cX10_ruleIs 73 = .ok (.istore 6, 2) := by decide +kernel
theorem dX10_ruleIs_75 : decode cX10_ruleIs 75 = .ok (.iload_n 3, 1) := by decide +kernel
theorem dX10_ruleIs_76 : decode cX10_ruleIs 76 = .ok (.ifCond .lt 71, 3) := by decide +kernel
theorem dX10_ruleIs_79 : decode cX10_ruleIs 79 = .ok (.iload 6, 2) := by decide +kernel
theorem dX10_ruleIs_81 : decode cX10_ruleIs 81 = .ok (.bipush 44, 2) := by decide +kernel
theorem dX10_ruleIs_83 : decode cX10_ruleIs 83 = .ok (.if_icmp .ne 64, 3) := by decide +kernel
theorem dX10_ruleIs_86 : decode cX10_ruleIs 86 = .ok (.aload_n 0, 1) := by decide +kernel
theorem dX10_ruleIs_87 : decode cX10_ruleIs 87 = .ok (.aload_n 0, 1) := by decide +kernel
theorem dX10_ruleIs_88 : decode cX10_ruleIs 88 = .ok (.getfield 13, 3) := by decide +kernel
theorem dX10_ruleIs_91 : decode cX10_ruleIs 91 = .ok (.iconst 1, 1) := by decide +kernel
theorem dX10_ruleIs_92 : decode cX10_ruleIs 92 = .ok (.iaload, 1) := by decide +kernel
theorem dX10_ruleIs_93 : decode cX10_ruleIs 93 = .ok (.invokevirtual 73, 3) := by decide +kernel
theorem dX10_ruleIs_96 : decode cX10_ruleIs 96 = .ok (.istore 4, 2) := by decide +kernel
theorem dX10_ruleIs_98 : decode cX10_ruleIs 98 = .ok (.iload 4, 2) := by decide +kernel
theorem dX10_ruleIs_100 : decode cX10_ruleIs 100 = .ok (.ifCond .ge 7, 3) := by decide +kernel
theorem dX10_ruleIs_103 : decode cX10_ruleIs 103 = .ok (.iconst 0, 1) := by decide +kernel
theorem dX10_ruleIs_104 : decode cX10_ruleIs 104 = .ok (.goto 7, 3) := by decide +kernel
theorem dX10_ruleIs_107 : decode cX10_ruleIs 107 = .ok (.aload_n 0, 1) := by decide +kernel
theorem dX10_ruleIs_108 : decode cX10_ruleIs 108 = .ok (.invokevirtual 69, 3) := by decide +kernel
theorem dX10_ruleIs_111 : decode cX10_ruleIs 111 = .ok (.istore 6, 2) := by decide +kernel
theorem dX10_ruleIs_113 : decode cX10_ruleIs 113 = .ok (.iload 6, 2) := by decide +kernel
theorem dX10_ruleIs_115 : decode cX10_ruleIs 115 = .ok (.bipush 44, 2) := by decide +kernel
theorem dX10_ruleIs_117 : decode cX10_ruleIs 117 = .ok (.if_icmp .ne 30, 3) := by decide +kernel
theorem dX10_ruleIs_120 : decode cX10_ruleIs 120 = .ok (.aload_n 0, 1) := by decide +kernel
theorem dX10_ruleIs_121 : decode cX10_ruleIs 121 = .ok (.aload_n 0, 1) := by decide +kernel
theorem dX10_ruleIs_122 : decode cX10_ruleIs 122 = .ok (.getfield 13, 3) := by decide +kernel
theorem dX10_ruleIs_125 : decode cX10_ruleIs 125 = .ok (.iconst 1, 1) := by decide +kernel
theorem dX10_ruleIs_126 : decode cX10_ruleIs 126 = .ok (.iaload, 1) := by decide +kernel
theorem dX10_ruleIs_127 : decode cX10_ruleIs 127 = .ok (.invokevirtual 73, 3) := by decide +kernel
theorem dX10_ruleIs_130 : decode cX10_ruleIs 130 = .ok (.istore 5, 2) := by decide +kernel
theorem dX10_ruleIs_132 : decode cX10_ruleIs 132 = .ok (.iload 5, 2) := by decide +kernel
theorem dX10_ruleIs_134 : decode cX10_ruleIs 134 = .ok (.ifCond .ge 7, 3) := by decide +kernel
theorem dX10_ruleIs_137 : decode cX10_ruleIs 137 = .ok (.iconst 0, 1) := by decide +kernel
theorem dX10_ruleIs_138 : decode cX10_ruleIs 138 = .ok (.goto 7, 3) := by decide +kernel
theorem dX10_ruleIs_141 : decode cX10_ruleIs 141 = .ok (.aload_n 0, 1) := by decide +kernel
theorem dX10_ruleIs_142 : decode cX10_ruleIs 142 = .ok (.invokevirtual 69, 3) := by decide +kernel
theorem dX10_ruleIs_145 : decode cX10_ruleIs 145 = .ok (.istore 6, 2) := by decide +kernel
theorem dX10_ruleIs_147 : decode cX10_ruleIs 147 = .ok (.iload_n 3, 1) := by decide +kernel
theorem dX10_ruleIs_148 : decode cX10_ruleIs 148 = .ok (.ifCond .lt 22, 3) := by decide +kernel
theorem dX10_ruleIs_151 : decode cX10_ruleIs 151 = .ok (.iload 6, 2) := by decide +kernel
theorem dX10_ruleIs_153 : decode cX10_ruleIs 153 = .ok (.bipush 59, 2) := by decide +kernel
theorem dX10_ruleIs_155 : decode cX10_ruleIs 155 = .ok (.if_icmp .ne 15, 3) := by decide +kernel
theorem dX10_ruleIs_158 : decode cX10_ruleIs 158 = .ok (.aload_n 0, 1) := by decide +kernel
theorem dX10_ruleIs_159 : decode cX10_ruleIs 159 = .ok (.getfield 13, 3) := by decide +kernel
theorem dX10_ruleIs_162 : decode cX10_ruleIs 162 = .ok (.iload_n 1, 1) := by decide +kernel
theorem dX10_ruleIs_163 : decode cX10_ruleIs 163 = .ok (.iload_n 2, 1) := by decide +kernel
theorem dX10_ruleIs_164 : decode cX10_ruleIs 164 = .ok (.invokestatic 77, 3) := by decide +kernel
theorem dX10_ruleIs_167 : decode cX10_ruleIs 167 = .ok (.ifCond .ne 5, 3) := by decide +kernel
theorem dX10_ruleIs_170 : decode cX10_ruleIs 170 = .ok (.iconst 0, 1) := by decide +kernel
theorem dX10_ruleIs_171 : decode cX10_ruleIs 171 = .ok (.ireturn, 1) := by decide +kernel
theorem dX10_ruleIs_172 : decode cX10_ruleIs 172 = .ok (.aload_n 0, 1) := by decide +kernel
theorem dX10_ruleIs_173 : decode cX10_ruleIs 173 = .ok (.getfield 13, 3) := by decide +kernel
theorem dX10_ruleIs_176 : decode cX10_ruleIs 176 = .ok (.iload_n 1, 1) := by decide +kernel
theorem dX10_ruleIs_177 : decode cX10_ruleIs 177 = .ok (.iload_n 2, 1) := by decide +kernel
theorem dX10_ruleIs_178 : decode cX10_ruleIs 178 = .ok (.iload_n 3, 1) := by decide +kernel
theorem dX10_ruleIs_179 : decode cX10_ruleIs 179 = .ok (.iload 4, 2) := by decide +kernel
theorem dX10_ruleIs_181 : decode cX10_ruleIs 181 = .ok (.iload 5, 2) := by decide +kernel
theorem dX10_ruleIs_183 : decode cX10_ruleIs 183 = .ok (.invokestatic 50, 3) := by decide +kernel
theorem dX10_ruleIs_186 : decode cX10_ruleIs 186 = .ok (.iconst 1, 1) := by decide +kernel
theorem dX10_ruleIs_187 : decode cX10_ruleIs 187 = .ok (.ireturn, 1) := by decide +kernel
set_option maxRecDepth 20000 in
theorem ggX10_statement_X10_letter : GoodIn wsX10_statement wsX10_letter := goodIn_r _ [6, 7, 8, 9, 27, 28, 29, 30, 31, 32, 33, 34, 35, 36, 37, 38, 39, 40, 41, 42, 43] (by decide +kernel) (by decide +kernel)
set_option maxRecDepth 20000 in
theorem gX10_statement_X10_letter : GoodIn wsX10_statement (wsV RX10 69 RX10 yX10_letter wsX10_letter) := goodIn_app (goodIn_of _ (by decide +kernel)) ggX10_statement_X10_letter
set_option maxRecDepth 20000 in
theorem ggX10_statement_X10_figure : GoodIn wsX10_statement wsX10_figure := goodIn_r _ [13, 2, 3, 4, 5, 6, 7, 8, 9, 14, 15, 16, 27, 28, 29, 30, 31, 32, 33, 34, 35, 36, 37, 38, 39, 40, 41, 42, 43] (by decide +kernel) (by decide +kernel)
set_option maxRecDepth 20000 in
theorem gX10_statement_X10_figure : GoodIn wsX10_statement (wsV RX10 73 RX10 yX10_figure wsX10_figure) := goodIn_app (goodIn_of _ (by decide +kernel)) ggX10_statement_X10_figure
set_option maxRecDepth 20000 in
theorem ggX10_statement_X10_ruleIs : GoodIn wsX10_statement wsX10_ruleIs := goodIn_r _ [20, 1, 10, 11, 12, 5, 13, 2, 3, 4, 6, 7, 8, 9, 14, 15, 16, 21, 22, 23, 24, 25, 26, 27, 28, 29, 30, 31, 32, 33, 34, 35, 36, 37, 38, 39, 40, 41, 42, 43] (by decide +kernel) (by decide +kernel)
set_option maxRecDepth 20000 in
theorem gX10_statement_X10_ruleIs : GoodIn wsX10_statement (wsV RX10 81 RX10 yX10_ruleIs wsX10_ruleIs) := goodIn_app (goodIn_of _ (by decide +kernel)) ggX10_statement_X10_ruleIs
theorem dX10_statement_0 : decode cX10_statement 0 = .ok (.aload_n 0, 1) := by decide +kernel
theorem dX10_statement_1 : decode cX10_statement 1 = .ok (.invokevirtual 69, 3) := by decide +kernel
theorem dX10_statement_4 : decode cX10_statement 4 = .ok (.istore_n 2, 1) := by decide +kernel
theorem dX10_statement_5 : decode cX10_statement 5 = .ok (.iload_n 2, 1) := by decide +kernel
theorem dX10_statement_6 : decode cX10_statement 6 = .ok (.bipush 103, 2) := by decide +kernel
theorem dX10_statement_8 : decode cX10_statement 8 = .ok (.if_icmp .ne 7, 3) := by decide +kernel
theorem dX10_statement_11 : decode cX10_statement 11 = .ok (.iconst 1, 1) := by decide +kernel
theorem dX10_statement_12 : decode cX10_statement 12 = .ok (.goto 4, 3) := by decide +kernel
theorem dX10_statement_15 : decode cX10_statement 15 = .ok (.iconst 0, 1) := by decide +kernel
theorem dX10_statement_16 : decode cX10_statement 16 = .ok (.iload_n 1, 1) := by decide +kernel
theorem dX10_statement_17 : decode cX10_statement 17 = .ok (.if_icmp .eq 5, 3) := by decide +kernel
theorem dX10_statement_20 : decode cX10_statement 20 = .ok (.iconst 0, 1) := by decide +kernel
theorem dX10_statement_21 : decode cX10_statement 21 = .ok (.ireturn, 1) := by decide +kernel
theorem dX10_statement_22 : decode cX10_statement 22 = .ok (.iload_n 1, 1) := by decide +kernel
theorem dX10_statement_23 : decode cX10_statement 23 = .ok (.ifCond .eq 81, 3) := by decide +kernel
theorem dX10_statement_26 : decode cX10_statement 26 = .ok (.aload_n 0, 1) := by decide +kernel
theorem dX10_statement_27 : decode cX10_statement 27 = .ok (.getfield 13, 3) := by decide +kernel
theorem dX10_statement_30 : decode cX10_statement 30 = .ok (.iconst 0, 1) := by decide +kernel
theorem dX10_statement_31 : decode cX10_statement 31 = .ok (.aload_n 0, 1) := by decide +kernel
theorem dX10_statement_32 : decode cX10_statement 32 = .ok (.iconst 5, 1) := by decide +kernel
theorem dX10_statement_33 : decode cX10_statement 33 = .ok (.invokevirtual 73, 3) := by decide +kernel
theorem dX10_statement_36 : decode cX10_statement 36 = .ok (.iastore, 1) := by decide +kernel
theorem dX10_statement_37 : decode cX10_statement 37 = .ok (.aload_n 0, 1) := by decide +kernel
theorem dX10_statement_38 : decode cX10_statement 38 = .ok (.getfield 13, 3) := by decide +kernel
theorem dX10_statement_41 : decode cX10_statement 41 = .ok (.iconst 0, 1) := by decide +kernel
theorem dX10_statement_42 : decode cX10_statement 42 = .ok (.iaload, 1) := by decide +kernel
theorem dX10_statement_43 : decode cX10_statement 43 = .ok (.ifCond .le 16, 3) := by decide +kernel
theorem dX10_statement_46 : decode cX10_statement 46 = .ok (.aload_n 0, 1) := by decide +kernel
theorem dX10_statement_47 : decode cX10_statement 47 = .ok (.invokevirtual 69, 3) := by decide +kernel
theorem dX10_statement_50 : decode cX10_statement 50 = .ok (.bipush 44, 2) := by decide +kernel
theorem dX10_statement_52 : decode cX10_statement 52 = .ok (.if_icmp .ne 7, 3) := by decide +kernel
theorem dX10_statement_55 : decode cX10_statement 55 = .ok (.iconst 1, 1) := by decide +kernel
theorem dX10_statement_56 : decode cX10_statement 56 = .ok (.goto 4, 3) := by decide +kernel
theorem dX10_statement_59 : decode cX10_statement 59 = .ok (.iconst 0, 1) := by decide +kernel
theorem dX10_statement_60 : decode cX10_statement 60 = .ok (.istore_n 3, 1) := by decide +kernel
theorem dX10_statement_61 : decode cX10_statement 61 = .ok (.aload_n 0, 1) := by decide +kernel
theorem dX10_statement_62 : decode cX10_statement 62 = .ok (.getfield 13, 3) := by decide +kernel
theorem dX10_statement_65 : decode cX10_statement 65 = .ok (.iconst 1, 1) := by decide +kernel
theorem dX10_statement_66 : decode cX10_statement 66 = .ok (.iload_n 3, 1) := by decide +kernel
theorem dX10_statement_67 : decode cX10_statement 67 = .ok (.ifCond .eq 11, 3) := by decide +kernel
theorem dX10_statement_70 : decode cX10_statement 70 = .ok (.aload_n 0, 1) := by decide +kernel
theorem dX10_statement_71 : decode cX10_statement 71 = .ok (.iconst 4, 1) := by decide +kernel
theorem dX10_statement_72 : decode cX10_statement 72 = .ok (.invokevirtual 73, 3) := by decide +kernel
theorem dX10_statement_75 : decode cX10_statement 75 = .ok (.goto 4, 3) := by decide +kernel
theorem dX10_statement_78 : decode cX10_statement 78 = .ok (.iconst 0, 1) := by decide +kernel
theorem dX10_statement_79 : decode cX10_statement 79 = .ok (.iastore, 1) := by decide +kernel
theorem dX10_statement_80 : decode cX10_statement 80 = .ok (.aload_n 0, 1) := by decide +kernel
theorem dX10_statement_81 : decode cX10_statement 81 = .ok (.getfield 13, 3) := by decide +kernel
theorem dX10_statement_84 : decode cX10_statement 84 = .ok (.iconst 1, 1) := by decide +kernel
theorem dX10_statement_85 : decode cX10_statement 85 = .ok (.iaload, 1) := by decide +kernel
theorem dX10_statement_86 : decode cX10_statement 86 = .ok (.ifCond .le 16, 3) := by decide +kernel
theorem dX10_statement_89 : decode cX10_statement 89 = .ok (.aload_n 0, 1) := by decide +kernel
theorem dX10_statement_90 : decode cX10_statement 90 = .ok (.invokevirtual 69, 3) := by decide +kernel
theorem dX10_statement_93 : decode cX10_statement 93 = .ok (.bipush 59, 2) := by decide +kernel
theorem dX10_statement_95 : decode cX10_statement 95 = .ok (.if_icmp .ne 7, 3) := by decide +kernel
theorem dX10_statement_98 : decode cX10_statement 98 = .ok (.iconst 1, 1) := by decide +kernel
theorem dX10_statement_99 : decode cX10_statement 99 = .ok (.goto 4, 3) := by decide +kernel
theorem dX10_statement_102 : decode cX10_statement 102 = .ok (.iconst 0, 1) := by decide +kernel
theorem dX10_statement_103 : decode cX10_statement 103 = .ok (.ireturn, 1) := by decide +kernel
theorem dX10_statement_104 : decode cX10_statement 104 = .ok (.iload_n 2, 1) := by decide +kernel
theorem dX10_statement_105 : decode cX10_statement 105 = .ok (.bipush 111, 2) := by decide +kernel
theorem dX10_statement_107 : decode cX10_statement 107 = .ok (.if_icmp .eq 9, 3) := by decide +kernel
theorem dX10_statement_110 : decode cX10_statement 110 = .ok (.iload_n 2, 1) := by decide +kernel
theorem dX10_statement_111 : decode cX10_statement 111 = .ok (.bipush 116, 2) := by decide +kernel
theorem dX10_statement_113 : decode cX10_statement 113 = .ok (.if_icmp .ne 53, 3) := by decide +kernel
theorem dX10_statement_116 : decode cX10_statement 116 = .ok (.aload_n 0, 1) := by decide +kernel
theorem dX10_statement_117 : decode cX10_statement 117 = .ok (.aload_n 0, 1) := by decide +kernel
theorem dX10_statement_118 : decode cX10_statement 118 = .ok (.getfield 13, 3) := by decide +kernel
theorem dX10_statement_121 : decode cX10_statement 121 = .ok (.iconst 0, 1) := by decide +kernel
theorem dX10_statement_122 : decode cX10_statement 122 = .ok (.iaload, 1) := by decide +kernel
theorem dX10_statement_123 : decode cX10_statement 123 = .ok (.invokevirtual 73, 3) := by decide +kernel
theorem dX10_statement_126 : decode cX10_statement 126 = .ok (.istore_n 3, 1) := by decide +kernel
theorem dX10_statement_127 : decode cX10_statement 127 = .ok (.iload_n 3, 1) := by decide +kernel
theorem dX10_statement_128 : decode cX10_statement 128 = .ok (.ifCond .lt 12, 3) := by decide +kernel
theorem dX10_statement_131 : decode cX10_statement 131 = .ok (.aload_n 0, 1) := by decide +kernel
theorem dX10_statement_132 : decode cX10_statement 132 = .ok (.invokevirtual 69, 3) := by decide +kernel
theorem dX10_statement_135 : decode cX10_statement 135 = .ok (.bipush 59, 2) := by decide +kernel
theorem dX10_statement_137 : decode cX10_statement 137 = .ok (.if_icmp .eq 5, 3) := by decide +kernel
theorem dX10_statement_140 : decode cX10_statement 140 = .ok (.iconst 0, 1) := by decide +kernel
theorem dX10_statement_141 : decode cX10_statement 141 = .ok (.ireturn, 1) := by decide +kernel
theorem dX10_statement_142 : decode cX10_statement 142 = .ok (.aload_n 0, 1) := by decide +kernel
theorem dX10_statement_143 : decode cX10_statement 143 = .ok (.getfield 13, 3) := by decide +kernel
theorem dX10_statement_146 : decode cX10_statement 146 = .ok (.iload_n 2, 1) := by decide +kernel
theorem dX10_statement_147 : decode cX10_statement 147 = .ok (.bipush 111, 2) := by decide +kernel
theorem dX10_statement_149 : decode cX10_statement 149 = .ok (.if_icmp .ne 7, 3) := by decide +kernel
theorem dX10_statement_152 : decode cX10_statement 152 = .ok (.iconst 2, 1) := by decide +kernel
theorem dX10_statement_153 : decode cX10_statement 153 = .ok (.goto 4, 3) := by decide +kernel
theorem dX10_statement_156 : decode cX10_statement 156 = .ok (.iconst 3, 1) := by decide +kernel
theorem dX10_statement_157 : decode cX10_statement 157 = .ok (.dup2, 1) := by decide +kernel
theorem dX10_statement_158 : decode cX10_statement 158 = .ok (.iaload, 1) := by decide +kernel
theorem dX10_statement_159 : decode cX10_statement 159 = .ok (.iconst 1, 1) := by decide +kernel
theorem dX10_statement_160 : decode cX10_statement 160 = .ok (.iload_n 3, 1) := by decide +kernel
theorem dX10_statement_161 : decode cX10_statement 161 = .ok (.ishl, 1) := by decide +kernel
theorem dX10_statement_162 : decode cX10_statement 162 = .ok (.ior, 1) := by decide +kernel
theorem dX10_statement_163 : decode cX10_statement 163 = .ok (.iastore, 1) := by decide +kernel
theorem dX10_statement_164 : decode cX10_statement 164 = .ok (.iconst 1, 1) := by decide +kernel
theorem dX10_statement_165 : decode cX10_statement 165 = .ok (.ireturn, 1) := by decide +kernel
theorem dX10_statement_166 : decode cX10_statement 166 = .ok (.iload_n 2, 1) := by decide +kernel
theorem dX10_statement_167 : decode cX10_statement 167 = .ok (.bipush 114, 2) := by decide +kernel
theorem dX10_statement_169 : decode cX10_statement 169 = .ok (.if_icmp .ne 14, 3) := by decide +kernel
theorem dX10_statement_172 : decode cX10_statement 172 = .ok (.aload_n 0, 1) := by decide +kernel
theorem dX10_statement_173 : decode cX10_statement 173 = .ok (.invokevirtual 81, 3) := by decide +kernel
theorem dX10_statement_176 : decode cX10_statement 176 = .ok (.ifCond .eq 7, 3) := by decide +kernel
theorem dX10_statement_179 : decode cX10_statement 179 = .ok (.iconst 1, 1) := by decide +kernel
theorem dX10_statement_180 : decode cX10_statement 180 = .ok (.goto 4, 3) := by decide +kernel
theorem dX10_statement_183 : decode cX10_statement 183 = .ok (.iconst 0, 1) := by decide +kernel
theorem dX10_statement_184 : decode cX10_statement 184 = .ok (.ireturn, 1) := by decide +kernel
set_option maxRecDepth 20000 in
theorem ggX10_readAll_X10_statement : GoodIn wsX10_readAll wsX10_statement := goodIn_r _ [8, 1, 9, 10, 11, 7, 12, 2, 3, 13, 14, 15, 16, 17, 18, 19, 20, 21, 22, 23, 24, 25, 26, 27, 28, 29, 30, 31, 32, 33, 34, 35, 36, 37, 38, 39, 40, 41, 42, 43, 44, 45, 46, 47] (by decide +kernel) (by decide +kernel)
set_option maxRecDepth 20000 in
theorem gX10_readAll_X10_statement : GoodIn wsX10_readAll (wsV RX10 85 RX10 yX10_statement wsX10_statement) := goodIn_app (goodIn_of _ (by decide +kernel)) ggX10_readAll_X10_statement
theorem dX10_readAll_0 : decode cX10_readAll 0 = .ok (.iconst 0, 1) := by decide +kernel
theorem dX10_readAll_1 : decode cX10_readAll 1 = .ok (.istore_n 1, 1) := by decide +kernel
theorem dX10_readAll_2 : decode cX10_readAll 2 = .ok (.iload_n 1, 1) := by decide +kernel
theorem dX10_readAll_3 : decode cX10_readAll 3 = .ok (.bipush 99, 2) := by decide +kernel
theorem dX10_readAll_5 : decode cX10_readAll 5 = .ok (.if_icmp .ge 16, 3) := by decide +kernel
theorem dX10_readAll_8 : decode cX10_readAll 8 = .ok (.aload_n 0, 1) := by decide +kernel
theorem dX10_readAll_9 : decode cX10_readAll 9 = .ok (.getfield 13, 3) := by decide +kernel
theorem dX10_readAll_12 : decode cX10_readAll 12 = .ok (.iload_n 1, 1) := by decide +kernel
theorem dX10_readAll_13 : decode cX10_readAll 13 = .ok (.iconst 0, 1) := by decide +kernel
theorem dX10_readAll_14 : decode cX10_readAll 14 = .ok (.iastore, 1) := by decide +kernel
theorem dX10_readAll_15 : decode cX10_readAll 15 = .ok (.iinc 1 1, 3) := by decide +kernel
theorem dX10_readAll_18 : decode cX10_readAll 18 = .ok (.goto (-16), 3) := by decide +kernel
theorem dX10_readAll_21 : decode cX10_readAll 21 = .ok (.aload_n 0, 1) := by decide +kernel
theorem dX10_readAll_22 : decode cX10_readAll 22 = .ok (.iconst 0, 1) := by decide +kernel
theorem dX10_readAll_23 : decode cX10_readAll 23 = .ok (.putfield 66, 3) := by decide +kernel
theorem dX10_readAll_26 : decode cX10_readAll 26 = .ok (.aload_n 0, 1) := by decide +kernel
theorem dX10_readAll_27 : decode cX10_readAll 27 = .ok (.getfield 66, 3) := by decide +kernel
theorem dX10_readAll_30 : decode cX10_readAll 30 = .ok (.aload_n 0, 1) := by decide +kernel
theorem dX10_readAll_31 : decode cX10_readAll 31 = .ok (.getfield 62, 3) := by decide +kernel
theorem dX10_readAll_34 : decode cX10_readAll 34 = .ok (.if_icmp .ge 29, 3) := by decide +kernel
theorem dX10_readAll_37 : decode cX10_readAll 37 = .ok (.aload_n 0, 1) := by decide +kernel
theorem dX10_readAll_38 : decode cX10_readAll 38 = .ok (.getfield 66, 3) := by decide +kernel
theorem dX10_readAll_41 : decode cX10_readAll 41 = .ok (.istore_n 1, 1) := by decide +kernel
theorem dX10_readAll_42 : decode cX10_readAll 42 = .ok (.aload_n 0, 1) := by decide +kernel
theorem dX10_readAll_43 : decode cX10_readAll 43 = .ok (.iload_n 1, 1) := by decide +kernel
theorem dX10_readAll_44 : decode cX10_readAll 44 = .ok (.ifCond .ne 7, 3) := by decide +kernel
theorem dX10_readAll_47 : decode cX10_readAll 47 = .ok (.iconst 1, 1) := by decide +kernel
theorem dX10_readAll_48 : decode cX10_readAll 48 = .ok (.goto 4, 3) := by decide +kernel
theorem dX10_readAll_51 : decode cX10_readAll 51 = .ok (.iconst 0, 1) := by decide +kernel
theorem dX10_readAll_52 : decode cX10_readAll 52 = .ok (.invokevirtual 85, 3) := by decide +kernel
theorem dX10_readAll_55 : decode cX10_readAll 55 = .ok (.ifCond .ne 5, 3) := by decide +kernel
theorem dX10_readAll_58 : decode cX10_readAll 58 = .ok (.iload_n 1, 1) := by decide +kernel
theorem dX10_readAll_59 : decode cX10_readAll 59 = .ok (.ireturn, 1) := by decide +kernel
theorem dX10_readAll_60 : decode cX10_readAll 60 = .ok (.goto (-34), 3) := by decide +kernel
theorem dX10_readAll_63 : decode cX10_readAll 63 = .ok (.bipush (-4), 2) := by decide +kernel
theorem dX10_readAll_65 : decode cX10_readAll 65 = .ok (.ireturn, 1) := by decide +kernel
set_option maxRecDepth 20000 in
theorem ggX10_firstError_X10_readAll : GoodIn wsX10_firstError wsX10_readAll := goodIn_r _ [5, 6, 7, 8, 9, 10, 11, 4, 12, 13, 14, 15, 16, 17, 18, 19, 20, 21, 22, 23, 24, 25, 26, 27, 28, 29, 30, 31, 32, 33, 34, 35, 36, 37, 38, 39, 40, 41, 42, 43, 44, 45, 46, 47, 48, 49, 50, 51] (by decide +kernel) (by decide +kernel)
set_option maxRecDepth 20000 in
theorem gX10_firstError_X10_readAll : GoodIn wsX10_firstError (wsV RX10 89 RX10 yX10_readAll wsX10_readAll) := goodIn_app (goodIn_of _ (by decide +kernel)) ggX10_firstError_X10_readAll
theorem dX10_firstError_0 : decode cX10_firstError 0 = .ok (.aload_n 0, 1) := by decide +kernel
theorem dX10_firstError_1 : decode cX10_firstError 1 = .ok (.invokevirtual 89, 3) := by decide +kernel
theorem dX10_firstError_4 : decode cX10_firstError 4 = .ok (.ireturn, 1) := by decide +kernel
set_option maxRecDepth 20000 in
theorem ggX10_configure_X10_readAll : GoodIn wsX10_configure wsX10_readAll := goodIn_r _ [9, 3, 10, 1, 11, 12, 13, 8, 14, 15, 16, 17, 18, 19, 20, 21, 22, 23, 24, 25, 26, 27, 28, 29, 30, 31, 32, 33, 34, 35, 36, 37, 38, 39, 40, 41, 42, 43, 44, 45, 46, 47, 48, 49, 50, 51, 52, 53] (by decide +kernel) (by decide +kernel)
set_option maxRecDepth 20000 in
theorem gX10_configure_X10_readAll : GoodIn wsX10_configure (wsV RX10 89 RX10 yX10_readAll wsX10_readAll) := goodIn_app (goodIn_of _ (by decide +kernel)) ggX10_configure_X10_readAll
theorem dX10_configure_0 : decode cX10_configure 0 = .ok (.aload_n 0, 1) := by decide +kernel
theorem dX10_configure_1 : decode cX10_configure 1 = .ok (.invokevirtual 89, 3) := by decide +kernel
theorem dX10_configure_4 : decode cX10_configure 4 = .ok (.bipush (-4), 2) := by decide +kernel
theorem dX10_configure_6 : decode cX10_configure 6 = .ok (.if_icmp .ne 10, 3) := by decide +kernel
theorem dX10_configure_9 : decode cX10_configure 9 = .ok (.aload_n 0, 1) := by decide +kernel
theorem dX10_configure_10 : decode cX10_configure 10 = .ok (.getfield 62, 3) := by decide +kernel
theorem dX10_configure_13 : decode cX10_configure 13 = .ok (.ifCond .ne 6, 3) := by decide +kernel
theorem dX10_configure_16 : decode cX10_configure 16 = .ok (.bipush (-2), 2) := by decide +kernel
theorem dX10_configure_18 : decode cX10_configure 18 = .ok (.ireturn, 1) := by decide +kernel
theorem dX10_configure_19 : decode cX10_configure 19 = .ok (.iconst 0, 1) := by decide +kernel
theorem dX10_configure_20 : decode cX10_configure 20 = .ok (.istore_n 1, 1) := by decide +kernel
theorem dX10_configure_21 : decode cX10_configure 21 = .ok (.iload_n 1, 1) := by decide +kernel
theorem dX10_configure_22 : decode cX10_configure 22 = .ok (.bipush 99, 2) := by decide +kernel
theorem dX10_configure_24 : decode cX10_configure 24 = .ok (.if_icmp .ge 21, 3) := by decide +kernel
theorem dX10_configure_27 : decode cX10_configure 27 = .ok (.aload_n 0, 1) := by decide +kernel
theorem dX10_configure_28 : decode cX10_configure 28 = .ok (.getfield 7, 3) := by decide +kernel
theorem dX10_configure_31 : decode cX10_configure 31 = .ok (.iload_n 1, 1) := by decide +kernel
theorem dX10_configure_32 : decode cX10_configure 32 = .ok (.aload_n 0, 1) := by decide +kernel
theorem dX10_configure_33 : decode cX10_configure 33 = .ok (.getfield 13, 3) := by decide +kernel
theorem dX10_configure_36 : decode cX10_configure 36 = .ok (.iload_n 1, 1) := by decide +kernel
theorem dX10_configure_37 : decode cX10_configure 37 = .ok (.iaload, 1) := by decide +kernel
theorem dX10_configure_38 : decode cX10_configure 38 = .ok (.iastore, 1) := by decide +kernel
theorem dX10_configure_39 : decode cX10_configure 39 = .ok (.iinc 1 1, 3) := by decide +kernel
theorem dX10_configure_42 : decode cX10_configure 42 = .ok (.goto (-21), 3) := by decide +kernel
theorem dX10_configure_45 : decode cX10_configure 45 = .ok (.aload_n 0, 1) := by decide +kernel
theorem dX10_configure_46 : decode cX10_configure 46 = .ok (.getfield 7, 3) := by decide +kernel
theorem dX10_configure_49 : decode cX10_configure 49 = .ok (.bipush 86, 2) := by decide +kernel
theorem dX10_configure_51 : decode cX10_configure 51 = .ok (.iconst 1, 1) := by decide +kernel
theorem dX10_configure_52 : decode cX10_configure 52 = .ok (.iastore, 1) := by decide +kernel
theorem dX10_configure_53 : decode cX10_configure 53 = .ok (.aload_n 0, 1) := by decide +kernel
theorem dX10_configure_54 : decode cX10_configure 54 = .ok (.iconst 0, 1) := by decide +kernel
theorem dX10_configure_55 : decode cX10_configure 55 = .ok (.putfield 92, 3) := by decide +kernel
theorem dX10_configure_58 : decode cX10_configure 58 = .ok (.aload_n 0, 1) := by decide +kernel
theorem dX10_configure_59 : decode cX10_configure 59 = .ok (.getfield 7, 3) := by decide +kernel
theorem dX10_configure_62 : decode cX10_configure 62 = .ok (.iconst 4, 1) := by decide +kernel
theorem dX10_configure_63 : decode cX10_configure 63 = .ok (.iaload, 1) := by decide +kernel
theorem dX10_configure_64 : decode cX10_configure 64 = .ok (.ireturn, 1) := by decide +kernel
theorem dX10_keeps_0 : decode cX10_keeps 0 = .ok (.aload_n 0, 1) := by decide +kernel
theorem dX10_keeps_1 : decode cX10_keeps 1 = .ok (.getfield 92, 3) := by decide +kernel
theorem dX10_keeps_4 : decode cX10_keeps 4 = .ok (.bipush 6, 2) := by decide +kernel
theorem dX10_keeps_6 : decode cX10_keeps 6 = .ok (.if_icmp .ne 43, 3) := by decide +kernel
theorem dX10_keeps_9 : decode cX10_keeps 9 = .ok (.iconst 0, 1) := by decide +kernel
theorem dX10_keeps_10 : decode cX10_keeps 10 = .ok (.istore_n 1, 1) := by decide +kernel
theorem dX10_keeps_11 : decode cX10_keeps 11 = .ok (.iload_n 1, 1) := by decide +kernel
theorem dX10_keeps_12 : decode cX10_keeps 12 = .ok (.sipush 495, 3) := by decide +kernel
theorem dX10_keeps_15 : decode cX10_keeps 15 = .ok (.if_icmp .ge 24, 3) := by decide +kernel
theorem dX10_keeps_18 : decode cX10_keeps 18 = .ok (.aload_n 0, 1) := by decide +kernel
theorem dX10_keeps_19 : decode cX10_keeps 19 = .ok (.getfield 16, 3) := by decide +kernel
theorem dX10_keeps_22 : decode cX10_keeps 22 = .ok (.iload_n 1, 1) := by decide +kernel
theorem dX10_keeps_23 : decode cX10_keeps 23 = .ok (.aload_n 0, 1) := by decide +kernel
theorem dX10_keeps_24 : decode cX10_keeps 24 = .ok (.getfield 16, 3) := by decide +kernel
theorem dX10_keeps_27 : decode cX10_keeps 27 = .ok (.bipush 99, 2) := by decide +kernel
theorem dX10_keeps_29 : decode cX10_keeps 29 = .ok (.iload_n 1, 1) := by decide +kernel
theorem dX10_keeps_30 : decode cX10_keeps 30 = .ok (.iadd, 1) := by decide +kernel
theorem dX10_keeps_31 : decode cX10_keeps 31 = .ok (.iaload, 1) := by decide +kernel
theorem dX10_keeps_32 : decode cX10_keeps 32 = .ok (.iastore, 1) := by decide +kernel
theorem dX10_keeps_33 : decode cX10_keeps 33 = .ok (.iinc 1 1, 3) := by decide +kernel
theorem dX10_keeps_36 : decode cX10_keeps 36 = .ok (.goto (-25), 3) := by decide +kernel
theorem dX10_keeps_39 : decode cX10_keeps 39 = .ok (.aload_n 0, 1) := by decide +kernel
theorem dX10_keeps_40 : decode cX10_keeps 40 = .ok (.dup, 1) := by decide +kernel
theorem dX10_keeps_41 : decode cX10_keeps 41 = .ok (.getfield 92, 3) := by decide +kernel
theorem dX10_keeps_44 : decode cX10_keeps 44 = .ok (.iconst 1, 1) := by decide +kernel
theorem dX10_keeps_45 : decode cX10_keeps 45 = .ok (.isub, 1) := by decide +kernel
theorem dX10_keeps_46 : decode cX10_keeps 46 = .ok (.putfield 92, 3) := by decide +kernel
theorem dX10_keeps_49 : decode cX10_keeps 49 = .ok (.iconst 0, 1) := by decide +kernel
theorem dX10_keeps_50 : decode cX10_keeps 50 = .ok (.istore_n 1, 1) := by decide +kernel
theorem dX10_keeps_51 : decode cX10_keeps 51 = .ok (.iload_n 1, 1) := by decide +kernel
theorem dX10_keeps_52 : decode cX10_keeps 52 = .ok (.bipush 99, 2) := by decide +kernel
theorem dX10_keeps_54 : decode cX10_keeps 54 = .ok (.if_icmp .ge 29, 3) := by decide +kernel
theorem dX10_keeps_57 : decode cX10_keeps 57 = .ok (.aload_n 0, 1) := by decide +kernel
theorem dX10_keeps_58 : decode cX10_keeps 58 = .ok (.getfield 16, 3) := by decide +kernel
theorem dX10_keeps_61 : decode cX10_keeps 61 = .ok (.bipush 99, 2) := by decide +kernel
theorem dX10_keeps_63 : decode cX10_keeps 63 = .ok (.aload_n 0, 1) := by decide +kernel
theorem dX10_keeps_64 : decode cX10_keeps 64 = .ok (.getfield 92, 3) := by decide +kernel
theorem dX10_keeps_67 : decode cX10_keeps 67 = .ok (.imul, 1) := by decide +kernel
theorem dX10_keeps_68 : decode cX10_keeps 68 = .ok (.iload_n 1, 1) := by decide +kernel
theorem dX10_keeps_69 : decode cX10_keeps 69 = .ok (.iadd, 1) := by decide +kernel
theorem dX10_keeps_70 : decode cX10_keeps 70 = .ok (.aload_n 0, 1) := by decide +kernel
theorem dX10_keeps_71 : decode cX10_keeps 71 = .ok (.getfield 7, 3) := by decide +kernel
theorem dX10_keeps_74 : decode cX10_keeps 74 = .ok (.iload_n 1, 1) := by decide +kernel
theorem dX10_keeps_75 : decode cX10_keeps 75 = .ok (.iaload, 1) := by decide +kernel
theorem dX10_keeps_76 : decode cX10_keeps 76 = .ok (.iastore, 1) := by decide +kernel
theorem dX10_keeps_77 : decode cX10_keeps 77 = .ok (.iinc 1 1, 3) := by decide +kernel
theorem dX10_keeps_80 : decode cX10_keeps 80 = .ok (.goto (-29), 3) := by decide +kernel
theorem dX10_keeps_83 : decode cX10_keeps 83 = .ok (.aload_n 0, 1) := by decide +kernel
theorem dX10_keeps_84 : decode cX10_keeps 84 = .ok (.dup, 1) := by decide +kernel
theorem dX10_keeps_85 : decode cX10_keeps 85 = .ok (.getfield 92, 3) := by decide +kernel
theorem dX10_keeps_88 : decode cX10_keeps 88 = .ok (.iconst 1, 1) := by decide +kernel
theorem dX10_keeps_89 : decode cX10_keeps 89 = .ok (.iadd, 1) := by decide +kernel
theorem dX10_keeps_90 : decode cX10_keeps 90 = .ok (.putfield 92, 3) := by decide +kernel
theorem dX10_keeps_93 : decode cX10_keeps 93 = .ok (.return_, 1) := by decide +kernel
theorem dX10_undo_0 : decode cX10_undo 0 = .ok (.aload_n 0, 1) := by decide +kernel
theorem dX10_undo_1 : decode cX10_undo 1 = .ok (.getfield 92, 3) := by decide +kernel
theorem dX10_undo_4 : decode cX10_undo 4 = .ok (.ifCond .ne 6, 3) := by decide +kernel
theorem dX10_undo_7 : decode cX10_undo 7 = .ok (.bipush (-2), 2) := by decide +kernel
theorem dX10_undo_9 : decode cX10_undo 9 = .ok (.ireturn, 1) := by decide +kernel
theorem dX10_undo_10 : decode cX10_undo 10 = .ok (.aload_n 0, 1) := by decide +kernel
theorem dX10_undo_11 : decode cX10_undo 11 = .ok (.dup, 1) := by decide +kernel
theorem dX10_undo_12 : decode cX10_undo 12 = .ok (.getfield 92, 3) := by decide +kernel
theorem dX10_undo_15 : decode cX10_undo 15 = .ok (.iconst 1, 1) := by decide +kernel
theorem dX10_undo_16 : decode cX10_undo 16 = .ok (.isub, 1) := by decide +kernel
theorem dX10_undo_17 : decode cX10_undo 17 = .ok (.putfield 92, 3) := by decide +kernel
theorem dX10_undo_20 : decode cX10_undo 20 = .ok (.iconst 0, 1) := by decide +kernel
theorem dX10_undo_21 : decode cX10_undo 21 = .ok (.istore_n 1, 1) := by decide +kernel
theorem dX10_undo_22 : decode cX10_undo 22 = .ok (.iload_n 1, 1) := by decide +kernel
theorem dX10_undo_23 : decode cX10_undo 23 = .ok (.bipush 99, 2) := by decide +kernel
theorem dX10_undo_25 : decode cX10_undo 25 = .ok (.if_icmp .ge 29, 3) := by decide +kernel
theorem dX10_undo_28 : decode cX10_undo 28 = .ok (.aload_n 0, 1) := by decide +kernel
theorem dX10_undo_29 : decode cX10_undo 29 = .ok (.getfield 7, 3) := by decide +kernel
theorem dX10_undo_32 : decode cX10_undo 32 = .ok (.iload_n 1, 1) := by decide +kernel
theorem dX10_undo_33 : decode cX10_undo 33 = .ok (.aload_n 0, 1) := by decide +kernel
theorem dX10_undo_34 : decode cX10_undo 34 = .ok (.getfield 16, 3) := by decide +kernel
theorem dX10_undo_37 : decode cX10_undo 37 = .ok (.bipush 99, 2) := by decide +kernel
theorem dX10_undo_39 : decode cX10_undo 39 = .ok (.aload_n 0, 1) := by decide +kernel
theorem dX10_undo_40 : decode cX10_undo 40 = .ok (.getfield 92, 3) := by decide +kernel
theorem dX10_undo_43 : decode cX10_undo 43 = .ok (.imul, 1) := by decide +kernel
theorem dX10_undo_44 : decode cX10_undo 44 = .ok (.iload_n 1, 1) := by decide +kernel
theorem dX10_undo_45 : decode cX10_undo 45 = .ok (.iadd, 1) := by decide +kernel
theorem dX10_undo_46 : decode cX10_undo 46 = .ok (.iaload, 1) := by decide +kernel
theorem dX10_undo_47 : decode cX10_undo 47 = .ok (.iastore, 1) := by decide +kernel
theorem dX10_undo_48 : decode cX10_undo 48 = .ok (.iinc 1 1, 3) := by decide +kernel
theorem dX10_undo_51 : decode cX10_undo 51 = .ok (.goto (-29), 3) := by decide +kernel
theorem dX10_undo_54 : decode cX10_undo 54 = .ok (.aload_n 0, 1) := by decide +kernel
theorem dX10_undo_55 : decode cX10_undo 55 = .ok (.getfield 92, 3) := by decide +kernel
theorem dX10_undo_58 : decode cX10_undo 58 = .ok (.ireturn, 1) := by decide +kernel
set_option maxRecDepth 20000 in
theorem ggX10_isState_X10_in : GoodIn wsX10_isState wsX10_in := goodIn_r _ [5] (by decide +kernel) (by decide +kernel)
set_option maxRecDepth 20000 in
theorem gX10_isState_X10_in : GoodIn wsX10_isState (va_wsS RX10 58 yX10_in wsX10_in) := goodIn_app (goodIn_of _ (by decide +kernel)) ggX10_isState_X10_in
