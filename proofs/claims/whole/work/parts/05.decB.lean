/-! ===== decode rows ===== -/
theorem dX5_init_0 : decode cX5_init 0 = .ok (.aload_n 0, 1) := by decide +kernel
theorem dX5_init_1 : decode cX5_init 1 = .ok (.invokespecial 1, 3) := by decide +kernel
theorem dX5_init_4 : decode cX5_init 4 = .ok (.aload_n 0, 1) := by decide +kernel
theorem dX5_init_5 : decode cX5_init 5 = .ok (.bipush 6, 2) := by decide +kernel
theorem dX5_init_7 : decode cX5_init 7 = .ok (.newarray .int, 2) := by decide +kernel
theorem dX5_init_9 : decode cX5_init 9 = .ok (.putfield 7, 3) := by decide +kernel
theorem dX5_init_12 : decode cX5_init 12 = .ok (.aload_n 0, 1) := by decide +kernel
theorem dX5_init_13 : decode cX5_init 13 = .ok (.bipush 61, 2) := by decide +kernel
theorem dX5_init_15 : decode cX5_init 15 = .ok (.newarray .int, 2) := by decide +kernel
theorem dX5_init_17 : decode cX5_init 17 = .ok (.putfield 13, 3) := by decide +kernel
theorem dX5_init_20 : decode cX5_init 20 = .ok (.aload_n 0, 1) := by decide +kernel
theorem dX5_init_21 : decode cX5_init 21 = .ok (.sipush 488, 3) := by decide +kernel
theorem dX5_init_24 : decode cX5_init 24 = .ok (.newarray .int, 2) := by decide +kernel
theorem dX5_init_26 : decode cX5_init 26 = .ok (.putfield 16, 3) := by decide +kernel
theorem dX5_init_29 : decode cX5_init 29 = .ok (.aload_n 0, 1) := by decide +kernel
theorem dX5_init_30 : decode cX5_init 30 = .ok (.bipush 122, 2) := by decide +kernel
theorem dX5_init_32 : decode cX5_init 32 = .ok (.newarray .int, 2) := by decide +kernel
theorem dX5_init_34 : decode cX5_init 34 = .ok (.putfield 19, 3) := by decide +kernel
theorem dX5_init_37 : decode cX5_init 37 = .ok (.aload_n 0, 1) := by decide +kernel
theorem dX5_init_38 : decode cX5_init 38 = .ok (.bipush 12, 2) := by decide +kernel
theorem dX5_init_40 : decode cX5_init 40 = .ok (.newarray .int, 2) := by decide +kernel
theorem dX5_init_42 : decode cX5_init 42 = .ok (.putfield 22, 3) := by decide +kernel
theorem dX5_init_45 : decode cX5_init 45 = .ok (.aload_n 0, 1) := by decide +kernel
theorem dX5_init_46 : decode cX5_init 46 = .ok (.sipush 200, 3) := by decide +kernel
theorem dX5_init_49 : decode cX5_init 49 = .ok (.newarray .int, 2) := by decide +kernel
theorem dX5_init_51 : decode cX5_init 51 = .ok (.putfield 25, 3) := by decide +kernel
theorem dX5_init_54 : decode cX5_init 54 = .ok (.aload_n 0, 1) := by decide +kernel
theorem dX5_init_55 : decode cX5_init 55 = .ok (.iconst 3, 1) := by decide +kernel
theorem dX5_init_56 : decode cX5_init 56 = .ok (.newarray .int, 2) := by decide +kernel
theorem dX5_init_58 : decode cX5_init 58 = .ok (.putfield 28, 3) := by decide +kernel
theorem dX5_init_61 : decode cX5_init 61 = .ok (.aload_n 0, 1) := by decide +kernel
theorem dX5_init_62 : decode cX5_init 62 = .ok (.bipush 6, 2) := by decide +kernel
theorem dX5_init_64 : decode cX5_init 64 = .ok (.newarray .int, 2) := by decide +kernel
theorem dX5_init_66 : decode cX5_init 66 = .ok (.putfield 31, 3) := by decide +kernel
theorem dX5_init_69 : decode cX5_init 69 = .ok (.aload_n 0, 1) := by decide +kernel
theorem dX5_init_70 : decode cX5_init 70 = .ok (.bipush 61, 2) := by decide +kernel
theorem dX5_init_72 : decode cX5_init 72 = .ok (.newarray .int, 2) := by decide +kernel
theorem dX5_init_74 : decode cX5_init 74 = .ok (.putfield 34, 3) := by decide +kernel
theorem dX5_init_77 : decode cX5_init 77 = .ok (.aload_n 0, 1) := by decide +kernel
theorem dX5_init_78 : decode cX5_init 78 = .ok (.bipush 61, 2) := by decide +kernel
theorem dX5_init_80 : decode cX5_init 80 = .ok (.newarray .int, 2) := by decide +kernel
theorem dX5_init_82 : decode cX5_init 82 = .ok (.putfield 37, 3) := by decide +kernel
theorem dX5_init_85 : decode cX5_init 85 = .ok (.aload_n 0, 1) := by decide +kernel
theorem dX5_init_86 : decode cX5_init 86 = .ok (.sipush 205, 3) := by decide +kernel
theorem dX5_init_89 : decode cX5_init 89 = .ok (.newarray .int, 2) := by decide +kernel
theorem dX5_init_91 : decode cX5_init 91 = .ok (.putfield 40, 3) := by decide +kernel
theorem dX5_init_94 : decode cX5_init 94 = .ok (.aload_n 0, 1) := by decide +kernel
theorem dX5_init_95 : decode cX5_init 95 = .ok (.invokevirtual 43, 3) := by decide +kernel
theorem dX5_init_98 : decode cX5_init 98 = .ok (.aload_n 0, 1) := by decide +kernel
theorem dX5_init_99 : decode cX5_init 99 = .ok (.iconst 0, 1) := by decide +kernel
theorem dX5_init_100 : decode cX5_init 100 = .ok (.iconst 1, 1) := by decide +kernel
theorem dX5_init_101 : decode cX5_init 101 = .ok (.invokevirtual 46, 3) := by decide +kernel
theorem dX5_init_104 : decode cX5_init 104 = .ok (.aload_n 0, 1) := by decide +kernel
theorem dX5_init_105 : decode cX5_init 105 = .ok (.iconst 0, 1) := by decide +kernel
theorem dX5_init_106 : decode cX5_init 106 = .ok (.iconst 0, 1) := by decide +kernel
theorem dX5_init_107 : decode cX5_init 107 = .ok (.invokevirtual 46, 3) := by decide +kernel
theorem dX5_init_110 : decode cX5_init 110 = .ok (.aload_n 0, 1) := by decide +kernel
theorem dX5_init_111 : decode cX5_init 111 = .ok (.iconst 1, 1) := by decide +kernel
theorem dX5_init_112 : decode cX5_init 112 = .ok (.iconst 0, 1) := by decide +kernel
theorem dX5_init_113 : decode cX5_init 113 = .ok (.invokevirtual 46, 3) := by decide +kernel
theorem dX5_init_116 : decode cX5_init 116 = .ok (.aload_n 0, 1) := by decide +kernel
theorem dX5_init_117 : decode cX5_init 117 = .ok (.iconst 2, 1) := by decide +kernel
theorem dX5_init_118 : decode cX5_init 118 = .ok (.iconst 3, 1) := by decide +kernel
theorem dX5_init_119 : decode cX5_init 119 = .ok (.invokevirtual 46, 3) := by decide +kernel
theorem dX5_init_122 : decode cX5_init 122 = .ok (.aload_n 0, 1) := by decide +kernel
theorem dX5_init_123 : decode cX5_init 123 = .ok (.iconst 3, 1) := by decide +kernel
theorem dX5_init_124 : decode cX5_init 124 = .ok (.iconst 1, 1) := by decide +kernel
theorem dX5_init_125 : decode cX5_init 125 = .ok (.invokevirtual 46, 3) := by decide +kernel
theorem dX5_init_128 : decode cX5_init 128 = .ok (.aload_n 0, 1) := by decide +kernel
theorem dX5_init_129 : decode cX5_init 129 = .ok (.iconst 4, 1) := by decide +kernel
theorem dX5_init_130 : decode cX5_init 130 = .ok (.iconst 0, 1) := by decide +kernel
theorem dX5_init_131 : decode cX5_init 131 = .ok (.invokevirtual 46, 3) := by decide +kernel
theorem dX5_init_134 : decode cX5_init 134 = .ok (.aload_n 0, 1) := by decide +kernel
theorem dX5_init_135 : decode cX5_init 135 = .ok (.getfield 34, 3) := by decide +kernel
theorem dX5_init_138 : decode cX5_init 138 = .ok (.bipush 6, 2) := by decide +kernel
theorem dX5_init_140 : decode cX5_init 140 = .ok (.iconst 5, 1) := by decide +kernel
theorem dX5_init_141 : decode cX5_init 141 = .ok (.iastore, 1) := by decide +kernel
theorem dX5_init_142 : decode cX5_init 142 = .ok (.aload_n 0, 1) := by decide +kernel
theorem dX5_init_143 : decode cX5_init 143 = .ok (.getfield 34, 3) := by decide +kernel
theorem dX5_init_146 : decode cX5_init 146 = .ok (.bipush 7, 2) := by decide +kernel
theorem dX5_init_148 : decode cX5_init 148 = .ok (.bipush (-3), 2) := by decide +kernel
theorem dX5_init_150 : decode cX5_init 150 = .ok (.iastore, 1) := by decide +kernel
theorem dX5_init_151 : decode cX5_init 151 = .ok (.aload_n 0, 1) := by decide +kernel
theorem dX5_init_152 : decode cX5_init 152 = .ok (.getfield 34, 3) := by decide +kernel
theorem dX5_init_155 : decode cX5_init 155 = .ok (.bipush 8, 2) := by decide +kernel
theorem dX5_init_157 : decode cX5_init 157 = .ok (.bipush 9, 2) := by decide +kernel
theorem dX5_init_159 : decode cX5_init 159 = .ok (.iastore, 1) := by decide +kernel
theorem dX5_init_160 : decode cX5_init 160 = .ok (.aload_n 0, 1) := by decide +kernel
theorem dX5_init_161 : decode cX5_init 161 = .ok (.getfield 34, 3) := by decide +kernel
theorem dX5_init_164 : decode cX5_init 164 = .ok (.bipush 11, 2) := by decide +kernel
theorem dX5_init_166 : decode cX5_init 166 = .ok (.bipush (-7), 2) := by decide +kernel
theorem dX5_init_168 : decode cX5_init 168 = .ok (.iastore, 1) := by decide +kernel
theorem dX5_init_169 : decode cX5_init 169 = .ok (.aload_n 0, 1) := by decide +kernel
theorem dX5_init_170 : decode cX5_init 170 = .ok (.getfield 34, 3) := by decide +kernel
theorem dX5_init_173 : decode cX5_init 173 = .ok (.bipush 12, 2) := by decide +kernel
theorem dX5_init_175 : decode cX5_init 175 = .ok (.iconst 0, 1) := by decide +kernel
theorem dX5_init_176 : decode cX5_init 176 = .ok (.iastore, 1) := by decide +kernel
theorem dX5_init_177 : decode cX5_init 177 = .ok (.aload_n 0, 1) := by decide +kernel
theorem dX5_init_178 : decode cX5_init 178 = .ok (.getfield 34, 3) := by decide +kernel
theorem dX5_init_181 : decode cX5_init 181 = .ok (.bipush 14, 2) := by decide +kernel
theorem dX5_init_183 : decode cX5_init 183 = .ok (.bipush 7, 2) := by decide +kernel
theorem dX5_init_185 : decode cX5_init 185 = .ok (.iastore, 1) := by decide +kernel
theorem dX5_init_186 : decode cX5_init 186 = .ok (.aload_n 0, 1) := by decide +kernel
theorem dX5_init_187 : decode cX5_init 187 = .ok (.getfield 34, 3) := by decide +kernel
theorem dX5_init_190 : decode cX5_init 190 = .ok (.bipush 16, 2) := by decide +kernel
theorem dX5_init_192 : decode cX5_init 192 = .ok (.iconst 2, 1) := by decide +kernel
theorem dX5_init_193 : decode cX5_init 193 = .ok (.iastore, 1) := by decide +kernel
theorem dX5_init_194 : decode cX5_init 194 = .ok (.aload_n 0, 1) := by decide +kernel
theorem dX5_init_195 : decode cX5_init 195 = .ok (.getfield 34, 3) := by decide +kernel
theorem dX5_init_198 : decode cX5_init 198 = .ok (.bipush 20, 2) := by decide +kernel
theorem dX5_init_200 : decode cX5_init 200 = .ok (.bipush (-9), 2) := by decide +kernel
theorem dX5_init_202 : decode cX5_init 202 = .ok (.iastore, 1) := by decide +kernel
theorem dX5_init_203 : decode cX5_init 203 = .ok (.aload_n 0, 1) := by decide +kernel
theorem dX5_init_204 : decode cX5_init 204 = .ok (.getfield 34, 3) := by decide +kernel
theorem dX5_init_207 : decode cX5_init 207 = .ok (.bipush 21, 2) := by decide +kernel
theorem dX5_init_209 : decode cX5_init 209 = .ok (.bipush 9, 2) := by decide +kernel
theorem dX5_init_211 : decode cX5_init 211 = .ok (.iastore, 1) := by decide +kernel
theorem dX5_init_212 : decode cX5_init 212 = .ok (.aload_n 0, 1) := by decide +kernel
theorem dX5_init_213 : decode cX5_init 213 = .ok (.getfield 34, 3) := by decide +kernel
theorem dX5_init_216 : decode cX5_init 216 = .ok (.bipush 23, 2) := by decide +kernel
theorem dX5_init_218 : decode cX5_init 218 = .ok (.bipush (-6), 2) := by decide +kernel
theorem dX5_init_220 : decode cX5_init 220 = .ok (.iastore, 1) := by decide +kernel
theorem dX5_init_221 : decode cX5_init 221 = .ok (.aload_n 0, 1) := by decide +kernel
theorem dX5_init_222 : decode cX5_init 222 = .ok (.getfield 34, 3) := by decide +kernel
theorem dX5_init_225 : decode cX5_init 225 = .ok (.bipush 26, 2) := by decide +kernel
theorem dX5_init_227 : decode cX5_init 227 = .ok (.bipush (-2), 2) := by decide +kernel
theorem dX5_init_229 : decode cX5_init 229 = .ok (.iastore, 1) := by decide +kernel
theorem dX5_init_230 : decode cX5_init 230 = .ok (.aload_n 0, 1) := by decide +kernel
theorem dX5_init_231 : decode cX5_init 231 = .ok (.getfield 34, 3) := by decide +kernel
theorem dX5_init_234 : decode cX5_init 234 = .ok (.bipush 32, 2) := by decide +kernel
theorem dX5_init_236 : decode cX5_init 236 = .ok (.bipush (-5), 2) := by decide +kernel
theorem dX5_init_238 : decode cX5_init 238 = .ok (.iastore, 1) := by decide +kernel
theorem dX5_init_239 : decode cX5_init 239 = .ok (.aload_n 0, 1) := by decide +kernel
theorem dX5_init_240 : decode cX5_init 240 = .ok (.iconst 4, 1) := by decide +kernel
theorem dX5_init_241 : decode cX5_init 241 = .ok (.putfield 50, 3) := by decide +kernel
theorem dX5_init_244 : decode cX5_init 244 = .ok (.aload_n 0, 1) := by decide +kernel
theorem dX5_init_245 : decode cX5_init 245 = .ok (.invokevirtual 54, 3) := by decide +kernel
theorem dX5_init_248 : decode cX5_init 248 = .ok (.return_, 1) := by decide +kernel
theorem dX5_tellsPerson_0 : decode cX5_tellsPerson 0 = .ok (.aload_n 0, 1) := by decide +kernel
theorem dX5_tellsPerson_1 : decode cX5_tellsPerson 1 = .ok (.getfield 31, 3) := by decide +kernel
theorem dX5_tellsPerson_4 : decode cX5_tellsPerson 4 = .ok (.aload_n 0, 1) := by decide +kernel
theorem dX5_tellsPerson_5 : decode cX5_tellsPerson 5 = .ok (.getfield 57, 3) := by decide +kernel
theorem dX5_tellsPerson_8 : decode cX5_tellsPerson 8 = .ok (.iload_n 1, 1) := by decide +kernel
theorem dX5_tellsPerson_9 : decode cX5_tellsPerson 9 = .ok (.iastore, 1) := by decide +kernel
theorem dX5_tellsPerson_10 : decode cX5_tellsPerson 10 = .ok (.aload_n 0, 1) := by decide +kernel
theorem dX5_tellsPerson_11 : decode cX5_tellsPerson 11 = .ok (.getfield 34, 3) := by decide +kernel
theorem dX5_tellsPerson_14 : decode cX5_tellsPerson 14 = .ok (.iconst 0, 1) := by decide +kernel
theorem dX5_tellsPerson_15 : decode cX5_tellsPerson 15 = .ok (.aload_n 0, 1) := by decide +kernel
theorem dX5_tellsPerson_16 : decode cX5_tellsPerson 16 = .ok (.getfield 57, 3) := by decide +kernel
theorem dX5_tellsPerson_19 : decode cX5_tellsPerson 19 = .ok (.iadd, 1) := by decide +kernel
theorem dX5_tellsPerson_20 : decode cX5_tellsPerson 20 = .ok (.iload_n 2, 1) := by decide +kernel
theorem dX5_tellsPerson_21 : decode cX5_tellsPerson 21 = .ok (.iastore, 1) := by decide +kernel
theorem dX5_tellsPerson_22 : decode cX5_tellsPerson 22 = .ok (.aload_n 0, 1) := by decide +kernel
theorem dX5_tellsPerson_23 : decode cX5_tellsPerson 23 = .ok (.dup, 1) := by decide +kernel
theorem dX5_tellsPerson_24 : decode cX5_tellsPerson 24 = .ok (.getfield 57, 3) := by decide +kernel
theorem dX5_tellsPerson_27 : decode cX5_tellsPerson 27 = .ok (.iconst 1, 1) := by decide +kernel
theorem dX5_tellsPerson_28 : decode cX5_tellsPerson 28 = .ok (.iadd, 1) := by decide +kernel
theorem dX5_tellsPerson_29 : decode cX5_tellsPerson 29 = .ok (.putfield 57, 3) := by decide +kernel
theorem dX5_tellsPerson_32 : decode cX5_tellsPerson 32 = .ok (.return_, 1) := by decide +kernel
theorem dX5_in_0 : decode cX5_in 0 = .ok (.iload_n 0, 1) := by decide +kernel
theorem dX5_in_1 : decode cX5_in 1 = .ok (.iload_n 1, 1) := by decide +kernel
theorem dX5_in_2 : decode cX5_in 2 = .ok (.if_icmp .lt 12, 3) := by decide +kernel
theorem dX5_in_5 : decode cX5_in 5 = .ok (.iload_n 0, 1) := by decide +kernel
theorem dX5_in_6 : decode cX5_in 6 = .ok (.iload_n 2, 1) := by decide +kernel
theorem dX5_in_7 : decode cX5_in 7 = .ok (.if_icmp .gt 7, 3) := by decide +kernel
theorem dX5_in_10 : decode cX5_in 10 = .ok (.iconst 1, 1) := by decide +kernel
theorem dX5_in_11 : decode cX5_in 11 = .ok (.goto 4, 3) := by decide +kernel
theorem dX5_in_14 : decode cX5_in 14 = .ok (.iconst 0, 1) := by decide +kernel
theorem dX5_in_15 : decode cX5_in 15 = .ok (.ireturn, 1) := by decide +kernel
theorem dX5_isPerson_0 : decode cX5_isPerson 0 = .ok (.iload_n 1, 1) := by decide +kernel
theorem dX5_isPerson_1 : decode cX5_isPerson 1 = .ok (.iconst 0, 1) := by decide +kernel
theorem dX5_isPerson_2 : decode cX5_isPerson 2 = .ok (.aload_n 0, 1) := by decide +kernel
theorem dX5_isPerson_3 : decode cX5_isPerson 3 = .ok (.getfield 60, 3) := by decide +kernel
theorem dX5_isPerson_6 : decode cX5_isPerson 6 = .ok (.iconst 1, 1) := by decide +kernel
theorem dX5_isPerson_7 : decode cX5_isPerson 7 = .ok (.isub, 1) := by decide +kernel
theorem dX5_isPerson_8 : decode cX5_isPerson 8 = .ok (.invokestatic 63, 3) := by decide +kernel
theorem dX5_isPerson_11 : decode cX5_isPerson 11 = .ok (.ireturn, 1) := by decide +kernel
theorem dX5_isPaper_0 : decode cX5_isPaper 0 = .ok (.iload_n 1, 1) := by decide +kernel
theorem dX5_isPaper_1 : decode cX5_isPaper 1 = .ok (.iconst 0, 1) := by decide +kernel
theorem dX5_isPaper_2 : decode cX5_isPaper 2 = .ok (.aload_n 0, 1) := by decide +kernel
theorem dX5_isPaper_3 : decode cX5_isPaper 3 = .ok (.getfield 67, 3) := by decide +kernel
theorem dX5_isPaper_6 : decode cX5_isPaper 6 = .ok (.iconst 1, 1) := by decide +kernel
theorem dX5_isPaper_7 : decode cX5_isPaper 7 = .ok (.isub, 1) := by decide +kernel
theorem dX5_isPaper_8 : decode cX5_isPaper 8 = .ok (.invokestatic 63, 3) := by decide +kernel
theorem dX5_isPaper_11 : decode cX5_isPaper 11 = .ok (.ireturn, 1) := by decide +kernel
theorem dX5_isTheme_0 : decode cX5_isTheme 0 = .ok (.iload_n 0, 1) := by decide +kernel
theorem dX5_isTheme_1 : decode cX5_isTheme 1 = .ok (.iconst 0, 1) := by decide +kernel
theorem dX5_isTheme_2 : decode cX5_isTheme 2 = .ok (.iconst 4, 1) := by decide +kernel
theorem dX5_isTheme_3 : decode cX5_isTheme 3 = .ok (.invokestatic 63, 3) := by decide +kernel
theorem dX5_isTheme_6 : decode cX5_isTheme 6 = .ok (.ireturn, 1) := by decide +kernel
theorem dX5_write_0 : decode cX5_write 0 = .ok (.iload_n 1, 1) := by decide +kernel
theorem dX5_write_1 : decode cX5_write 1 = .ok (.bipush 32, 2) := by decide +kernel
theorem dX5_write_3 : decode cX5_write 3 = .ok (.bipush 126, 2) := by decide +kernel
theorem dX5_write_5 : decode cX5_write 5 = .ok (.invokestatic 63, 3) := by decide +kernel
theorem dX5_write_8 : decode cX5_write 8 = .ok (.ifCond .ne 5, 3) := by decide +kernel
theorem dX5_write_11 : decode cX5_write 11 = .ok (.iconst (-1), 1) := by decide +kernel
theorem dX5_write_12 : decode cX5_write 12 = .ok (.ireturn, 1) := by decide +kernel
theorem dX5_write_13 : decode cX5_write 13 = .ok (.aload_n 0, 1) := by decide +kernel
theorem dX5_write_14 : decode cX5_write 14 = .ok (.getfield 70, 3) := by decide +kernel
theorem dX5_write_17 : decode cX5_write 17 = .ok (.sipush 200, 3) := by decide +kernel
theorem dX5_write_20 : decode cX5_write 20 = .ok (.if_icmp .ne 6, 3) := by decide +kernel
theorem dX5_write_23 : decode cX5_write 23 = .ok (.bipush (-3), 2) := by decide +kernel
theorem dX5_write_25 : decode cX5_write 25 = .ok (.ireturn, 1) := by decide +kernel
theorem dX5_write_26 : decode cX5_write 26 = .ok (.aload_n 0, 1) := by decide +kernel
theorem dX5_write_27 : decode cX5_write 27 = .ok (.getfield 25, 3) := by decide +kernel
theorem dX5_write_30 : decode cX5_write 30 = .ok (.aload_n 0, 1) := by decide +kernel
theorem dX5_write_31 : decode cX5_write 31 = .ok (.getfield 70, 3) := by decide +kernel
theorem dX5_write_34 : decode cX5_write 34 = .ok (.iload_n 1, 1) := by decide +kernel
theorem dX5_write_35 : decode cX5_write 35 = .ok (.iastore, 1) := by decide +kernel
theorem dX5_write_36 : decode cX5_write 36 = .ok (.aload_n 0, 1) := by decide +kernel
theorem dX5_write_37 : decode cX5_write 37 = .ok (.dup, 1) := by decide +kernel
theorem dX5_write_38 : decode cX5_write 38 = .ok (.getfield 70, 3) := by decide +kernel
theorem dX5_write_41 : decode cX5_write 41 = .ok (.iconst 1, 1) := by decide +kernel
theorem dX5_write_42 : decode cX5_write 42 = .ok (.iadd, 1) := by decide +kernel
theorem dX5_write_43 : decode cX5_write 43 = .ok (.putfield 70, 3) := by decide +kernel
theorem dX5_write_46 : decode cX5_write 46 = .ok (.aload_n 0, 1) := by decide +kernel
theorem dX5_write_47 : decode cX5_write 47 = .ok (.getfield 70, 3) := by decide +kernel
theorem dX5_write_50 : decode cX5_write 50 = .ok (.ireturn, 1) := by decide +kernel
theorem dX5_wipe_0 : decode cX5_wipe 0 = .ok (.aload_n 0, 1) := by decide +kernel
theorem dX5_wipe_1 : decode cX5_wipe 1 = .ok (.getfield 70, 3) := by decide +kernel
theorem dX5_wipe_4 : decode cX5_wipe 4 = .ok (.istore_n 1, 1) := by decide +kernel
theorem dX5_wipe_5 : decode cX5_wipe 5 = .ok (.aload_n 0, 1) := by decide +kernel
theorem dX5_wipe_6 : decode cX5_wipe 6 = .ok (.iconst 0, 1) := by decide +kernel
theorem dX5_wipe_7 : decode cX5_wipe 7 = .ok (.putfield 70, 3) := by decide +kernel
theorem dX5_wipe_10 : decode cX5_wipe 10 = .ok (.iload_n 1, 1) := by decide +kernel
theorem dX5_wipe_11 : decode cX5_wipe 11 = .ok (.ireturn, 1) := by decide +kernel
theorem dX5_letterAt_0 : decode cX5_letterAt 0 = .ok (.iload_n 1, 1) := by decide +kernel
theorem dX5_letterAt_1 : decode cX5_letterAt 1 = .ok (.aload_n 0, 1) := by decide +kernel
theorem dX5_letterAt_2 : decode cX5_letterAt 2 = .ok (.getfield 70, 3) := by decide +kernel
theorem dX5_letterAt_5 : decode cX5_letterAt 5 = .ok (.if_icmp .ge 12, 3) := by decide +kernel
theorem dX5_letterAt_8 : decode cX5_letterAt 8 = .ok (.aload_n 0, 1) := by decide +kernel
theorem dX5_letterAt_9 : decode cX5_letterAt 9 = .ok (.getfield 25, 3) := by decide +kernel
theorem dX5_letterAt_12 : decode cX5_letterAt 12 = .ok (.iload_n 1, 1) := by decide +kernel
theorem dX5_letterAt_13 : decode cX5_letterAt 13 = .ok (.iaload, 1) := by decide +kernel
theorem dX5_letterAt_14 : decode cX5_letterAt 14 = .ok (.goto 4, 3) := by decide +kernel
theorem dX5_letterAt_17 : decode cX5_letterAt 17 = .ok (.iconst (-1), 1) := by decide +kernel
theorem dX5_letterAt_18 : decode cX5_letterAt 18 = .ok (.ireturn, 1) := by decide +kernel
theorem dX5_isFigure_0 : decode cX5_isFigure 0 = .ok (.iload_n 0, 1) := by decide +kernel
theorem dX5_isFigure_1 : decode cX5_isFigure 1 = .ok (.bipush 48, 2) := by decide +kernel
theorem dX5_isFigure_3 : decode cX5_isFigure 3 = .ok (.bipush 57, 2) := by decide +kernel
theorem dX5_isFigure_5 : decode cX5_isFigure 5 = .ok (.invokestatic 63, 3) := by decide +kernel
theorem dX5_isFigure_8 : decode cX5_isFigure 8 = .ok (.ireturn, 1) := by decide +kernel
theorem dX5_readNumbers_0 : decode cX5_readNumbers 0 = .ok (.iconst 0, 1) := by decide +kernel
theorem dX5_readNumbers_1 : decode cX5_readNumbers 1 = .ok (.istore_n 2, 1) := by decide +kernel
theorem dX5_readNumbers_2 : decode cX5_readNumbers 2 = .ok (.iload_n 2, 1) := by decide +kernel
theorem dX5_readNumbers_3 : decode cX5_readNumbers 3 = .ok (.iload_n 1, 1) := by decide +kernel
theorem dX5_readNumbers_4 : decode cX5_readNumbers 4 = .ok (.if_icmp .ge 140, 3) := by decide +kernel
theorem dX5_readNumbers_7 : decode cX5_readNumbers 7 = .ok (.aload_n 0, 1) := by decide +kernel
theorem dX5_readNumbers_8 : decode cX5_readNumbers 8 = .ok (.aload_n 0, 1) := by decide +kernel
theorem dX5_readNumbers_9 : decode cX5_readNumbers 9 = .ok (.getfield 73, 3) := by decide +kernel
theorem dX5_readNumbers_12 : decode cX5_readNumbers 12 = .ok (.invokevirtual 76, 3) := by decide +kernel
theorem dX5_readNumbers_15 : decode cX5_readNumbers 15 = .ok (.invokestatic 80, 3) := by decide +kernel
theorem dX5_readNumbers_18 : decode cX5_readNumbers 18 = .ok (.ifCond .ne 5, 3) := by decide +kernel
theorem dX5_readNumbers_21 : decode cX5_readNumbers 21 = .ok (.iconst 0, 1) := by decide +kernel
theorem dX5_readNumbers_22 : decode cX5_readNumbers 22 = .ok (.ireturn, 1) := by decide +kernel
theorem dX5_readNumbers_23 : decode cX5_readNumbers 23 = .ok (.aload_n 0, 1) := by decide +kernel
theorem dX5_readNumbers_24 : decode cX5_readNumbers 24 = .ok (.getfield 28, 3) := by decide +kernel
theorem dX5_readNumbers_27 : decode cX5_readNumbers 27 = .ok (.iload_n 2, 1) := by decide +kernel
theorem dX5_readNumbers_28 : decode cX5_readNumbers 28 = .ok (.aload_n 0, 1) := by decide +kernel
theorem dX5_readNumbers_29 : decode cX5_readNumbers 29 = .ok (.aload_n 0, 1) := by decide +kernel
theorem dX5_readNumbers_30 : decode cX5_readNumbers 30 = .ok (.getfield 73, 3) := by decide +kernel
theorem dX5_readNumbers_33 : decode cX5_readNumbers 33 = .ok (.invokevirtual 76, 3) := by decide +kernel
theorem dX5_readNumbers_36 : decode cX5_readNumbers 36 = .ok (.bipush 48, 2) := by decide +kernel
theorem dX5_readNumbers_38 : decode cX5_readNumbers 38 = .ok (.isub, 1) := by decide +kernel
theorem dX5_readNumbers_39 : decode cX5_readNumbers 39 = .ok (.iastore, 1) := by decide +kernel
theorem dX5_readNumbers_40 : decode cX5_readNumbers 40 = .ok (.aload_n 0, 1) := by decide +kernel
theorem dX5_readNumbers_41 : decode cX5_readNumbers 41 = .ok (.dup, 1) := by decide +kernel
theorem dX5_readNumbers_42 : decode cX5_readNumbers 42 = .ok (.getfield 73, 3) := by decide +kernel
theorem dX5_readNumbers_45 : decode cX5_readNumbers 45 = .ok (.iconst 1, 1) := by decide +kernel
theorem dX5_readNumbers_46 : decode cX5_readNumbers 46 = .ok (.iadd, 1) := by decide +kernel
theorem dX5_readNumbers_47 : decode cX5_readNumbers 47 = .ok (.putfield 73, 3) := by decide +kernel
theorem dX5_readNumbers_50 : decode cX5_readNumbers 50 = .ok (.aload_n 0, 1) := by decide +kernel
theorem dX5_readNumbers_51 : decode cX5_readNumbers 51 = .ok (.aload_n 0, 1) := by decide +kernel
theorem dX5_readNumbers_52 : decode cX5_readNumbers 52 = .ok (.getfield 73, 3) := by decide +kernel
theorem dX5_readNumbers_55 : decode cX5_readNumbers 55 = .ok (.invokevirtual 76, 3) := by decide +kernel
theorem dX5_readNumbers_58 : decode cX5_readNumbers 58 = .ok (.invokestatic 80, 3) := by decide +kernel
theorem dX5_readNumbers_61 : decode cX5_readNumbers 61 = .ok (.ifCond .eq 40, 3) := by decide +kernel
theorem dX5_readNumbers_64 : decode cX5_readNumbers 64 = .ok (.aload_n 0, 1) := by decide +kernel
theorem dX5_readNumbers_65 : decode cX5_readNumbers 65 = .ok (.getfield 28, 3) := by decide +kernel
theorem dX5_readNumbers_68 : decode cX5_readNumbers 68 = .ok (.iload_n 2, 1) := by decide +kernel
theorem dX5_readNumbers_69 : decode cX5_readNumbers 69 = .ok (.bipush 10, 2) := by decide +kernel
theorem dX5_readNumbers_71 : decode cX5_readNumbers 71 = .ok (.aload_n 0, 1) := by decide +kernel
theorem dX5_readNumbers_72 : decode cX5_readNumbers 72 = .ok (.getfield 28, 3) := by decide +kernel
theorem dX5_readNumbers_75 : decode cX5_readNumbers 75 = .ok (.iload_n 2, 1) := by decide +kernel
theorem dX5_readNumbers_76 : decode cX5_readNumbers 76 = .ok (.iaload, 1) := by decide +kernel
theorem dX5_readNumbers_77 : decode cX5_readNumbers 77 = .ok (.imul, 1) := by decide +kernel
theorem dX5_readNumbers_78 : decode cX5_readNumbers 78 = .ok (.aload_n 0, 1) := by decide +kernel
theorem dX5_readNumbers_79 : decode cX5_readNumbers 79 = .ok (.aload_n 0, 1) := by decide +kernel
theorem dX5_readNumbers_80 : decode cX5_readNumbers 80 = .ok (.getfield 73, 3) := by decide +kernel
theorem dX5_readNumbers_83 : decode cX5_readNumbers 83 = .ok (.invokevirtual 76, 3) := by decide +kernel
theorem dX5_readNumbers_86 : decode cX5_readNumbers 86 = .ok (.iadd, 1) := by decide +kernel
theorem dX5_readNumbers_87 : decode cX5_readNumbers 87 = .ok (.bipush 48, 2) := by decide +kernel
theorem dX5_readNumbers_89 : decode cX5_readNumbers 89 = .ok (.isub, 1) := by decide +kernel
theorem dX5_readNumbers_90 : decode cX5_readNumbers 90 = .ok (.iastore, 1) := by decide +kernel
theorem dX5_readNumbers_91 : decode cX5_readNumbers 91 = .ok (.aload_n 0, 1) := by decide +kernel
theorem dX5_readNumbers_92 : decode cX5_readNumbers 92 = .ok (.dup, 1) := by decide +kernel
theorem dX5_readNumbers_93 : decode cX5_readNumbers 93 = .ok (.getfield 73, 3) := by decide +kernel
theorem dX5_readNumbers_96 : decode cX5_readNumbers 96 = .ok (.iconst 1, 1) := by decide +kernel
theorem dX5_readNumbers_97 : decode cX5_readNumbers 97 = .ok (.iadd, 1) := by decide +kernel
theorem dX5_readNumbers_98 : decode cX5_readNumbers 98 = .ok (.putfield 73, 3) := by decide +kernel
theorem dX5_readNumbers_101 : decode cX5_readNumbers 101 = .ok (.aload_n 0, 1) := by decide +kernel
theorem dX5_readNumbers_102 : decode cX5_readNumbers 102 = .ok (.aload_n 0, 1) := by decide +kernel
theorem dX5_readNumbers_103 : decode cX5_readNumbers 103 = .ok (.getfield 73, 3) := by decide +kernel
theorem dX5_readNumbers_106 : decode cX5_readNumbers 106 = .ok (.invokevirtual 76, 3) := by decide +kernel
theorem dX5_readNumbers_109 : decode cX5_readNumbers 109 = .ok (.iload_n 2, 1) := by decide +kernel
theorem dX5_readNumbers_110 : decode cX5_readNumbers 110 = .ok (.iload_n 1, 1) := by decide +kernel
theorem dX5_readNumbers_111 : decode cX5_readNumbers 111 = .ok (.iconst 1, 1) := by decide +kernel
theorem dX5_readNumbers_112 : decode cX5_readNumbers 112 = .ok (.isub, 1) := by decide +kernel
theorem dX5_readNumbers_113 : decode cX5_readNumbers 113 = .ok (.if_icmp .ge 8, 3) := by decide +kernel
theorem dX5_readNumbers_116 : decode cX5_readNumbers 116 = .ok (.bipush 44, 2) := by decide +kernel
theorem dX5_readNumbers_118 : decode cX5_readNumbers 118 = .ok (.goto 5, 3) := by decide +kernel
theorem dX5_readNumbers_121 : decode cX5_readNumbers 121 = .ok (.bipush 59, 2) := by decide +kernel
theorem dX5_readNumbers_123 : decode cX5_readNumbers 123 = .ok (.if_icmp .eq 5, 3) := by decide +kernel
theorem dX5_readNumbers_126 : decode cX5_readNumbers 126 = .ok (.iconst 0, 1) := by decide +kernel
theorem dX5_readNumbers_127 : decode cX5_readNumbers 127 = .ok (.ireturn, 1) := by decide +kernel
theorem dX5_readNumbers_128 : decode cX5_readNumbers 128 = .ok (.aload_n 0, 1) := by decide +kernel
theorem dX5_readNumbers_129 : decode cX5_readNumbers 129 = .ok (.dup, 1) := by decide +kernel
theorem dX5_readNumbers_130 : decode cX5_readNumbers 130 = .ok (.getfield 73, 3) := by decide +kernel
theorem dX5_readNumbers_133 : decode cX5_readNumbers 133 = .ok (.iconst 1, 1) := by decide +kernel
theorem dX5_readNumbers_134 : decode cX5_readNumbers 134 = .ok (.iadd, 1) := by decide +kernel
theorem dX5_readNumbers_135 : decode cX5_readNumbers 135 = .ok (.putfield 73, 3) := by decide +kernel
theorem dX5_readNumbers_138 : decode cX5_readNumbers 138 = .ok (.iinc 2 1, 3) := by decide +kernel
theorem dX5_readNumbers_141 : decode cX5_readNumbers 141 = .ok (.goto (-139), 3) := by decide +kernel
theorem dX5_readNumbers_144 : decode cX5_readNumbers 144 = .ok (.iconst 1, 1) := by decide +kernel
theorem dX5_readNumbers_145 : decode cX5_readNumbers 145 = .ok (.ireturn, 1) := by decide +kernel
theorem dX5_isTold_0 : decode cX5_isTold 0 = .ok (.aload_n 0, 1) := by decide +kernel
theorem dX5_isTold_1 : decode cX5_isTold 1 = .ok (.getfield 28, 3) := by decide +kernel
theorem dX5_isTold_4 : decode cX5_isTold 4 = .ok (.iload_n 1, 1) := by decide +kernel
theorem dX5_isTold_5 : decode cX5_isTold 5 = .ok (.iaload, 1) := by decide +kernel
theorem dX5_isTold_6 : decode cX5_isTold 6 = .ok (.iload_n 2, 1) := by decide +kernel
theorem dX5_isTold_7 : decode cX5_isTold 7 = .ok (.iload_n 3, 1) := by decide +kernel
theorem dX5_isTold_8 : decode cX5_isTold 8 = .ok (.invokestatic 63, 3) := by decide +kernel
theorem dX5_isTold_11 : decode cX5_isTold 11 = .ok (.ireturn, 1) := by decide +kernel
theorem dX5_clearTold_0 : decode cX5_clearTold 0 = .ok (.aload_n 0, 1) := by decide +kernel
theorem dX5_clearTold_1 : decode cX5_clearTold 1 = .ok (.iconst 0, 1) := by decide +kernel
theorem dX5_clearTold_2 : decode cX5_clearTold 2 = .ok (.putfield 57, 3) := by decide +kernel
theorem dX5_clearTold_5 : decode cX5_clearTold 5 = .ok (.aload_n 0, 1) := by decide +kernel
theorem dX5_clearTold_6 : decode cX5_clearTold 6 = .ok (.iconst 3, 1) := by decide +kernel
theorem dX5_clearTold_7 : decode cX5_clearTold 7 = .ok (.putfield 50, 3) := by decide +kernel
theorem dX5_clearTold_10 : decode cX5_clearTold 10 = .ok (.iconst 0, 1) := by decide +kernel
theorem dX5_clearTold_11 : decode cX5_clearTold 11 = .ok (.istore_n 1, 1) := by decide +kernel
theorem dX5_clearTold_12 : decode cX5_clearTold 12 = .ok (.iload_n 1, 1) := by decide +kernel
theorem dX5_clearTold_13 : decode cX5_clearTold 13 = .ok (.bipush 61, 2) := by decide +kernel
theorem dX5_clearTold_15 : decode cX5_clearTold 15 = .ok (.if_icmp .ge 16, 3) := by decide +kernel
theorem dX5_clearTold_18 : decode cX5_clearTold 18 = .ok (.aload_n 0, 1) := by decide +kernel
theorem dX5_clearTold_19 : decode cX5_clearTold 19 = .ok (.getfield 34, 3) := by decide +kernel
theorem dX5_clearTold_22 : decode cX5_clearTold 22 = .ok (.iload_n 1, 1) := by decide +kernel
theorem dX5_clearTold_23 : decode cX5_clearTold 23 = .ok (.iconst 0, 1) := by decide +kernel
theorem dX5_clearTold_24 : decode cX5_clearTold 24 = .ok (.iastore, 1) := by decide +kernel
theorem dX5_clearTold_25 : decode cX5_clearTold 25 = .ok (.iinc 1 1, 3) := by decide +kernel
theorem dX5_clearTold_28 : decode cX5_clearTold 28 = .ok (.goto (-16), 3) := by decide +kernel
theorem dX5_clearTold_31 : decode cX5_clearTold 31 = .ok (.return_, 1) := by decide +kernel
theorem dX5_readPersonOf_0 : decode cX5_readPersonOf 0 = .ok (.aload_n 0, 1) := by decide +kernel
theorem dX5_readPersonOf_1 : decode cX5_readPersonOf 1 = .ok (.getfield 57, 3) := by decide +kernel
theorem dX5_readPersonOf_4 : decode cX5_readPersonOf 4 = .ok (.bipush 6, 2) := by decide +kernel
theorem dX5_readPersonOf_6 : decode cX5_readPersonOf 6 = .ok (.if_icmp .eq 31, 3) := by decide +kernel
theorem dX5_readPersonOf_9 : decode cX5_readPersonOf 9 = .ok (.aload_n 0, 1) := by decide +kernel
theorem dX5_readPersonOf_10 : decode cX5_readPersonOf 10 = .ok (.iconst 2, 1) := by decide +kernel
theorem dX5_readPersonOf_11 : decode cX5_readPersonOf 11 = .ok (.invokevirtual 84, 3) := by decide +kernel
theorem dX5_readPersonOf_14 : decode cX5_readPersonOf 14 = .ok (.ifCond .eq 23, 3) := by decide +kernel
theorem dX5_readPersonOf_17 : decode cX5_readPersonOf 17 = .ok (.aload_n 0, 1) := by decide +kernel
theorem dX5_readPersonOf_18 : decode cX5_readPersonOf 18 = .ok (.iconst 0, 1) := by decide +kernel
theorem dX5_readPersonOf_19 : decode cX5_readPersonOf 19 = .ok (.iconst 0, 1) := by decide +kernel
theorem dX5_readPersonOf_20 : decode cX5_readPersonOf 20 = .ok (.iconst 4, 1) := by decide +kernel
theorem dX5_readPersonOf_21 : decode cX5_readPersonOf 21 = .ok (.invokevirtual 87, 3) := by decide +kernel
theorem dX5_readPersonOf_24 : decode cX5_readPersonOf 24 = .ok (.ifCond .eq 13, 3) := by decide +kernel
theorem dX5_readPersonOf_27 : decode cX5_readPersonOf 27 = .ok (.aload_n 0, 1) := by decide +kernel
theorem dX5_readPersonOf_28 : decode cX5_readPersonOf 28 = .ok (.iconst 1, 1) := by decide +kernel
theorem dX5_readPersonOf_29 : decode cX5_readPersonOf 29 = .ok (.iconst 0, 1) := by decide +kernel
theorem dX5_readPersonOf_30 : decode cX5_readPersonOf 30 = .ok (.iconst 5, 1) := by decide +kernel
theorem dX5_readPersonOf_31 : decode cX5_readPersonOf 31 = .ok (.invokevirtual 87, 3) := by decide +kernel
theorem dX5_readPersonOf_34 : decode cX5_readPersonOf 34 = .ok (.ifCond .ne 5, 3) := by decide +kernel
theorem dX5_readPersonOf_37 : decode cX5_readPersonOf 37 = .ok (.iconst 0, 1) := by decide +kernel
theorem dX5_readPersonOf_38 : decode cX5_readPersonOf 38 = .ok (.ireturn, 1) := by decide +kernel
theorem dX5_readPersonOf_39 : decode cX5_readPersonOf 39 = .ok (.aload_n 0, 1) := by decide +kernel
theorem dX5_readPersonOf_40 : decode cX5_readPersonOf 40 = .ok (.aload_n 0, 1) := by decide +kernel
theorem dX5_readPersonOf_41 : decode cX5_readPersonOf 41 = .ok (.getfield 28, 3) := by decide +kernel
theorem dX5_readPersonOf_44 : decode cX5_readPersonOf 44 = .ok (.iconst 0, 1) := by decide +kernel
theorem dX5_readPersonOf_45 : decode cX5_readPersonOf 45 = .ok (.iaload, 1) := by decide +kernel
theorem dX5_readPersonOf_46 : decode cX5_readPersonOf 46 = .ok (.aload_n 0, 1) := by decide +kernel
theorem dX5_readPersonOf_47 : decode cX5_readPersonOf 47 = .ok (.getfield 28, 3) := by decide +kernel
theorem dX5_readPersonOf_50 : decode cX5_readPersonOf 50 = .ok (.iconst 1, 1) := by decide +kernel
theorem dX5_readPersonOf_51 : decode cX5_readPersonOf 51 = .ok (.iaload, 1) := by decide +kernel
theorem dX5_readPersonOf_52 : decode cX5_readPersonOf 52 = .ok (.invokevirtual 46, 3) := by decide +kernel
theorem dX5_readPersonOf_55 : decode cX5_readPersonOf 55 = .ok (.iconst 1, 1) := by decide +kernel
theorem dX5_readPersonOf_56 : decode cX5_readPersonOf 56 = .ok (.ireturn, 1) := by decide +kernel
theorem dX5_readViewOf_0 : decode cX5_readViewOf 0 = .ok (.aload_n 0, 1) := by decide +kernel
theorem dX5_readViewOf_1 : decode cX5_readViewOf 1 = .ok (.iconst 3, 1) := by decide +kernel
theorem dX5_readViewOf_2 : decode cX5_readViewOf 2 = .ok (.invokevirtual 84, 3) := by decide +kernel
theorem dX5_readViewOf_5 : decode cX5_readViewOf 5 = .ok (.ifCond .eq 39, 3) := by decide +kernel
theorem dX5_readViewOf_8 : decode cX5_readViewOf 8 = .ok (.aload_n 0, 1) := by decide +kernel
theorem dX5_readViewOf_9 : decode cX5_readViewOf 9 = .ok (.iconst 0, 1) := by decide +kernel
theorem dX5_readViewOf_10 : decode cX5_readViewOf 10 = .ok (.iconst 0, 1) := by decide +kernel
theorem dX5_readViewOf_11 : decode cX5_readViewOf 11 = .ok (.aload_n 0, 1) := by decide +kernel
theorem dX5_readViewOf_12 : decode cX5_readViewOf 12 = .ok (.getfield 57, 3) := by decide +kernel
theorem dX5_readViewOf_15 : decode cX5_readViewOf 15 = .ok (.iconst 1, 1) := by decide +kernel
theorem dX5_readViewOf_16 : decode cX5_readViewOf 16 = .ok (.isub, 1) := by decide +kernel
theorem dX5_readViewOf_17 : decode cX5_readViewOf 17 = .ok (.invokevirtual 87, 3) := by decide +kernel
theorem dX5_readViewOf_20 : decode cX5_readViewOf 20 = .ok (.ifCond .eq 24, 3) := by decide +kernel
theorem dX5_readViewOf_23 : decode cX5_readViewOf 23 = .ok (.aload_n 0, 1) := by decide +kernel
theorem dX5_readViewOf_24 : decode cX5_readViewOf 24 = .ok (.iconst 1, 1) := by decide +kernel
theorem dX5_readViewOf_25 : decode cX5_readViewOf 25 = .ok (.iconst 0, 1) := by decide +kernel
theorem dX5_readViewOf_26 : decode cX5_readViewOf 26 = .ok (.iconst 4, 1) := by decide +kernel
theorem dX5_readViewOf_27 : decode cX5_readViewOf 27 = .ok (.invokevirtual 87, 3) := by decide +kernel
theorem dX5_readViewOf_30 : decode cX5_readViewOf 30 = .ok (.ifCond .eq 14, 3) := by decide +kernel
theorem dX5_readViewOf_33 : decode cX5_readViewOf 33 = .ok (.aload_n 0, 1) := by decide +kernel
theorem dX5_readViewOf_34 : decode cX5_readViewOf 34 = .ok (.iconst 2, 1) := by decide +kernel
theorem dX5_readViewOf_35 : decode cX5_readViewOf 35 = .ok (.iconst 0, 1) := by decide +kernel
theorem dX5_readViewOf_36 : decode cX5_readViewOf 36 = .ok (.bipush 18, 2) := by decide +kernel
theorem dX5_readViewOf_38 : decode cX5_readViewOf 38 = .ok (.invokevirtual 87, 3) := by decide +kernel
theorem dX5_readViewOf_41 : decode cX5_readViewOf 41 = .ok (.ifCond .ne 5, 3) := by decide +kernel
theorem dX5_readViewOf_44 : decode cX5_readViewOf 44 = .ok (.iconst 0, 1) := by decide +kernel
theorem dX5_readViewOf_45 : decode cX5_readViewOf 45 = .ok (.ireturn, 1) := by decide +kernel
theorem dX5_readViewOf_46 : decode cX5_readViewOf 46 = .ok (.aload_n 0, 1) := by decide +kernel
theorem dX5_readViewOf_47 : decode cX5_readViewOf 47 = .ok (.getfield 34, 3) := by decide +kernel
theorem dX5_readViewOf_50 : decode cX5_readViewOf 50 = .ok (.bipush 6, 2) := by decide +kernel
theorem dX5_readViewOf_52 : decode cX5_readViewOf 52 = .ok (.iconst 5, 1) := by decide +kernel
theorem dX5_readViewOf_53 : decode cX5_readViewOf 53 = .ok (.aload_n 0, 1) := by decide +kernel
theorem dX5_readViewOf_54 : decode cX5_readViewOf 54 = .ok (.getfield 28, 3) := by decide +kernel
theorem dX5_readViewOf_57 : decode cX5_readViewOf 57 = .ok (.iconst 0, 1) := by decide +kernel
theorem dX5_readViewOf_58 : decode cX5_readViewOf 58 = .ok (.iaload, 1) := by decide +kernel
theorem dX5_readViewOf_59 : decode cX5_readViewOf 59 = .ok (.imul, 1) := by decide +kernel
theorem dX5_readViewOf_60 : decode cX5_readViewOf 60 = .ok (.iadd, 1) := by decide +kernel
theorem dX5_readViewOf_61 : decode cX5_readViewOf 61 = .ok (.aload_n 0, 1) := by decide +kernel
theorem dX5_readViewOf_62 : decode cX5_readViewOf 62 = .ok (.getfield 28, 3) := by decide +kernel
theorem dX5_readViewOf_65 : decode cX5_readViewOf 65 = .ok (.iconst 1, 1) := by decide +kernel
theorem dX5_readViewOf_66 : decode cX5_readViewOf 66 = .ok (.iaload, 1) := by decide +kernel
theorem dX5_readViewOf_67 : decode cX5_readViewOf 67 = .ok (.iadd, 1) := by decide +kernel
theorem dX5_readViewOf_68 : decode cX5_readViewOf 68 = .ok (.aload_n 0, 1) := by decide +kernel
theorem dX5_readViewOf_69 : decode cX5_readViewOf 69 = .ok (.getfield 28, 3) := by decide +kernel
theorem dX5_readViewOf_72 : decode cX5_readViewOf 72 = .ok (.iconst 2, 1) := by decide +kernel
theorem dX5_readViewOf_73 : decode cX5_readViewOf 73 = .ok (.iaload, 1) := by decide +kernel
theorem dX5_readViewOf_74 : decode cX5_readViewOf 74 = .ok (.bipush 9, 2) := by decide +kernel
theorem dX5_readViewOf_76 : decode cX5_readViewOf 76 = .ok (.isub, 1) := by decide +kernel
theorem dX5_readViewOf_77 : decode cX5_readViewOf 77 = .ok (.iastore, 1) := by decide +kernel
theorem dX5_readViewOf_78 : decode cX5_readViewOf 78 = .ok (.iconst 1, 1) := by decide +kernel
theorem dX5_readViewOf_79 : decode cX5_readViewOf 79 = .ok (.ireturn, 1) := by decide +kernel
theorem dX5_readPapersOf_0 : decode cX5_readPapersOf 0 = .ok (.aload_n 0, 1) := by decide +kernel
theorem dX5_readPapersOf_1 : decode cX5_readPapersOf 1 = .ok (.iconst 1, 1) := by decide +kernel
theorem dX5_readPapersOf_2 : decode cX5_readPapersOf 2 = .ok (.invokevirtual 84, 3) := by decide +kernel
theorem dX5_readPapersOf_5 : decode cX5_readPapersOf 5 = .ok (.ifCond .eq 17, 3) := by decide +kernel
theorem dX5_readPapersOf_8 : decode cX5_readPapersOf 8 = .ok (.aload_n 0, 1) := by decide +kernel
theorem dX5_readPapersOf_9 : decode cX5_readPapersOf 9 = .ok (.iconst 0, 1) := by decide +kernel
theorem dX5_readPapersOf_10 : decode cX5_readPapersOf 10 = .ok (.iconst 1, 1) := by decide +kernel
theorem dX5_readPapersOf_11 : decode cX5_readPapersOf 11 = .ok (.iconst 5, 1) := by decide +kernel
theorem dX5_readPapersOf_12 : decode cX5_readPapersOf 12 = .ok (.invokevirtual 87, 3) := by decide +kernel
theorem dX5_readPapersOf_15 : decode cX5_readPapersOf 15 = .ok (.ifCond .eq 7, 3) := by decide +kernel
theorem dX5_readPapersOf_18 : decode cX5_readPapersOf 18 = .ok (.iconst 1, 1) := by decide +kernel
theorem dX5_readPapersOf_19 : decode cX5_readPapersOf 19 = .ok (.goto 4, 3) := by decide +kernel
theorem dX5_readPapersOf_22 : decode cX5_readPapersOf 22 = .ok (.iconst 0, 1) := by decide +kernel
theorem dX5_readPapersOf_23 : decode cX5_readPapersOf 23 = .ok (.istore_n 1, 1) := by decide +kernel
theorem dX5_readPapersOf_24 : decode cX5_readPapersOf 24 = .ok (.aload_n 0, 1) := by decide +kernel
theorem dX5_readPapersOf_25 : decode cX5_readPapersOf 25 = .ok (.iload_n 1, 1) := by decide +kernel
theorem dX5_readPapersOf_26 : decode cX5_readPapersOf 26 = .ok (.ifCond .eq 12, 3) := by decide +kernel
theorem dX5_readPapersOf_29 : decode cX5_readPapersOf 29 = .ok (.aload_n 0, 1) := by decide +kernel
theorem dX5_readPapersOf_30 : decode cX5_readPapersOf 30 = .ok (.getfield 28, 3) := by decide +kernel
theorem dX5_readPapersOf_33 : decode cX5_readPapersOf 33 = .ok (.iconst 0, 1) := by decide +kernel
theorem dX5_readPapersOf_34 : decode cX5_readPapersOf 34 = .ok (.iaload, 1) := by decide +kernel
theorem dX5_readPapersOf_35 : decode cX5_readPapersOf 35 = .ok (.goto 7, 3) := by decide +kernel
theorem dX5_readPapersOf_38 : decode cX5_readPapersOf 38 = .ok (.aload_n 0, 1) := by decide +kernel
theorem dX5_readPapersOf_39 : decode cX5_readPapersOf 39 = .ok (.getfield 50, 3) := by decide +kernel
theorem dX5_readPapersOf_42 : decode cX5_readPapersOf 42 = .ok (.putfield 50, 3) := by decide +kernel
theorem dX5_readPapersOf_45 : decode cX5_readPapersOf 45 = .ok (.iload_n 1, 1) := by decide +kernel
theorem dX5_readPapersOf_46 : decode cX5_readPapersOf 46 = .ok (.ireturn, 1) := by decide +kernel
theorem dX5_readItem_0 : decode cX5_readItem 0 = .ok (.aload_n 0, 1) := by decide +kernel
theorem dX5_readItem_1 : decode cX5_readItem 1 = .ok (.aload_n 0, 1) := by decide +kernel
theorem dX5_readItem_2 : decode cX5_readItem 2 = .ok (.getfield 73, 3) := by decide +kernel
theorem dX5_readItem_5 : decode cX5_readItem 5 = .ok (.invokevirtual 76, 3) := by decide +kernel
theorem dX5_readItem_8 : decode cX5_readItem 8 = .ok (.istore_n 1, 1) := by decide +kernel
theorem dX5_readItem_9 : decode cX5_readItem 9 = .ok (.aload_n 0, 1) := by decide +kernel
theorem dX5_readItem_10 : decode cX5_readItem 10 = .ok (.dup, 1) := by decide +kernel
theorem dX5_readItem_11 : decode cX5_readItem 11 = .ok (.getfield 73, 3) := by decide +kernel
theorem dX5_readItem_14 : decode cX5_readItem 14 = .ok (.iconst 1, 1) := by decide +kernel
theorem dX5_readItem_15 : decode cX5_readItem 15 = .ok (.iadd, 1) := by decide +kernel
theorem dX5_readItem_16 : decode cX5_readItem 16 = .ok (.putfield 73, 3) := by decide +kernel
theorem dX5_readItem_19 : decode cX5_readItem 19 = .ok (.iload_n 1, 1) := by decide +kernel
theorem dX5_readItem_20 : decode cX5_readItem 20 = .ok (.lookupswitch 51 #[(97, 46), (112, 36), (118, 41)], 36) := by decide +kernel
theorem dX5_readItem_56 : decode cX5_readItem 56 = .ok (.aload_n 0, 1) := by decide +kernel
theorem dX5_readItem_57 : decode cX5_readItem 57 = .ok (.invokevirtual 90, 3) := by decide +kernel
theorem dX5_readItem_60 : decode cX5_readItem 60 = .ok (.ireturn, 1) := by decide +kernel
theorem dX5_readItem_61 : decode cX5_readItem 61 = .ok (.aload_n 0, 1) := by decide +kernel
theorem dX5_readItem_62 : decode cX5_readItem 62 = .ok (.invokevirtual 94, 3) := by decide +kernel
theorem dX5_readItem_65 : decode cX5_readItem 65 = .ok (.ireturn, 1) := by decide +kernel
theorem dX5_readItem_66 : decode cX5_readItem 66 = .ok (.aload_n 0, 1) := by decide +kernel
theorem dX5_readItem_67 : decode cX5_readItem 67 = .ok (.invokevirtual 97, 3) := by decide +kernel
theorem dX5_readItem_70 : decode cX5_readItem 70 = .ok (.ireturn, 1) := by decide +kernel
theorem dX5_readItem_71 : decode cX5_readItem 71 = .ok (.iconst 0, 1) := by decide +kernel
theorem dX5_readItem_72 : decode cX5_readItem 72 = .ok (.ireturn, 1) := by decide +kernel
theorem dX5_fault_0 : decode cX5_fault 0 = .ok (.aload_n 0, 1) := by decide +kernel
theorem dX5_fault_1 : decode cX5_fault 1 = .ok (.iconst 0, 1) := by decide +kernel
theorem dX5_fault_2 : decode cX5_fault 2 = .ok (.putfield 73, 3) := by decide +kernel
theorem dX5_fault_5 : decode cX5_fault 5 = .ok (.aload_n 0, 1) := by decide +kernel
theorem dX5_fault_6 : decode cX5_fault 6 = .ok (.invokevirtual 43, 3) := by decide +kernel
theorem dX5_fault_9 : decode cX5_fault 9 = .ok (.aload_n 0, 1) := by decide +kernel
theorem dX5_fault_10 : decode cX5_fault 10 = .ok (.getfield 73, 3) := by decide +kernel
theorem dX5_fault_13 : decode cX5_fault 13 = .ok (.aload_n 0, 1) := by decide +kernel
theorem dX5_fault_14 : decode cX5_fault 14 = .ok (.getfield 70, 3) := by decide +kernel
theorem dX5_fault_17 : decode cX5_fault 17 = .ok (.if_icmp .ge 20, 3) := by decide +kernel
theorem dX5_fault_20 : decode cX5_fault 20 = .ok (.aload_n 0, 1) := by decide +kernel
theorem dX5_fault_21 : decode cX5_fault 21 = .ok (.getfield 73, 3) := by decide +kernel
theorem dX5_fault_24 : decode cX5_fault 24 = .ok (.istore_n 1, 1) := by decide +kernel
theorem dX5_fault_25 : decode cX5_fault 25 = .ok (.aload_n 0, 1) := by decide +kernel
theorem dX5_fault_26 : decode cX5_fault 26 = .ok (.invokevirtual 100, 3) := by decide +kernel
theorem dX5_fault_29 : decode cX5_fault 29 = .ok (.ifCond .ne 5, 3) := by decide +kernel
theorem dX5_fault_32 : decode cX5_fault 32 = .ok (.iload_n 1, 1) := by decide +kernel
theorem dX5_fault_33 : decode cX5_fault 33 = .ok (.ireturn, 1) := by decide +kernel
theorem dX5_fault_34 : decode cX5_fault 34 = .ok (.goto (-25), 3) := by decide +kernel
theorem dX5_fault_37 : decode cX5_fault 37 = .ok (.bipush (-4), 2) := by decide +kernel
theorem dX5_fault_39 : decode cX5_fault 39 = .ok (.ireturn, 1) := by decide +kernel
theorem dX5_lay_0 : decode cX5_lay 0 = .ok (.aload_n 0, 1) := by decide +kernel
theorem dX5_lay_1 : decode cX5_lay 1 = .ok (.invokevirtual 103, 3) := by decide +kernel
theorem dX5_lay_4 : decode cX5_lay 4 = .ok (.bipush (-4), 2) := by decide +kernel
theorem dX5_lay_6 : decode cX5_lay 6 = .ok (.if_icmp .ne 10, 3) := by decide +kernel
theorem dX5_lay_9 : decode cX5_lay 9 = .ok (.aload_n 0, 1) := by decide +kernel
theorem dX5_lay_10 : decode cX5_lay 10 = .ok (.getfield 57, 3) := by decide +kernel
theorem dX5_lay_13 : decode cX5_lay 13 = .ok (.ifCond .ne 6, 3) := by decide +kernel
theorem dX5_lay_16 : decode cX5_lay 16 = .ok (.bipush (-2), 2) := by decide +kernel
theorem dX5_lay_18 : decode cX5_lay 18 = .ok (.ireturn, 1) := by decide +kernel
theorem dX5_lay_19 : decode cX5_lay 19 = .ok (.iconst 0, 1) := by decide +kernel
theorem dX5_lay_20 : decode cX5_lay 20 = .ok (.istore_n 1, 1) := by decide +kernel
theorem dX5_lay_21 : decode cX5_lay 21 = .ok (.iload_n 1, 1) := by decide +kernel
theorem dX5_lay_22 : decode cX5_lay 22 = .ok (.aload_n 0, 1) := by decide +kernel
theorem dX5_lay_23 : decode cX5_lay 23 = .ok (.getfield 57, 3) := by decide +kernel
theorem dX5_lay_26 : decode cX5_lay 26 = .ok (.if_icmp .ge 27, 3) := by decide +kernel
theorem dX5_lay_29 : decode cX5_lay 29 = .ok (.aload_n 0, 1) := by decide +kernel
theorem dX5_lay_30 : decode cX5_lay 30 = .ok (.getfield 34, 3) := by decide +kernel
theorem dX5_lay_33 : decode cX5_lay 33 = .ok (.iconst 0, 1) := by decide +kernel
theorem dX5_lay_34 : decode cX5_lay 34 = .ok (.iload_n 1, 1) := by decide +kernel
theorem dX5_lay_35 : decode cX5_lay 35 = .ok (.iadd, 1) := by decide +kernel
theorem dX5_lay_36 : decode cX5_lay 36 = .ok (.iaload, 1) := by decide +kernel
theorem dX5_lay_37 : decode cX5_lay 37 = .ok (.aload_n 0, 1) := by decide +kernel
theorem dX5_lay_38 : decode cX5_lay 38 = .ok (.getfield 57, 3) := by decide +kernel
theorem dX5_lay_41 : decode cX5_lay 41 = .ok (.if_icmp .lt 6, 3) := by decide +kernel
theorem dX5_lay_44 : decode cX5_lay 44 = .ok (.bipush (-2), 2) := by decide +kernel
theorem dX5_lay_46 : decode cX5_lay 46 = .ok (.ireturn, 1) := by decide +kernel
theorem dX5_lay_47 : decode cX5_lay 47 = .ok (.iinc 1 1, 3) := by decide +kernel
theorem dX5_lay_50 : decode cX5_lay 50 = .ok (.goto (-29), 3) := by decide +kernel
theorem dX5_lay_53 : decode cX5_lay 53 = .ok (.aload_n 0, 1) := by decide +kernel
theorem dX5_lay_54 : decode cX5_lay 54 = .ok (.invokevirtual 54, 3) := by decide +kernel
theorem dX5_lay_57 : decode cX5_lay 57 = .ok (.aload_n 0, 1) := by decide +kernel
theorem dX5_lay_58 : decode cX5_lay 58 = .ok (.getfield 60, 3) := by decide +kernel
theorem dX5_lay_61 : decode cX5_lay 61 = .ok (.ireturn, 1) := by decide +kernel
theorem dX5_settles_0 : decode cX5_settles 0 = .ok (.aload_n 0, 1) := by decide +kernel
theorem dX5_settles_1 : decode cX5_settles 1 = .ok (.aload_n 0, 1) := by decide +kernel
theorem dX5_settles_2 : decode cX5_settles 2 = .ok (.getfield 57, 3) := by decide +kernel
theorem dX5_settles_5 : decode cX5_settles 5 = .ok (.putfield 60, 3) := by decide +kernel
theorem dX5_settles_8 : decode cX5_settles 8 = .ok (.aload_n 0, 1) := by decide +kernel
theorem dX5_settles_9 : decode cX5_settles 9 = .ok (.aload_n 0, 1) := by decide +kernel
theorem dX5_settles_10 : decode cX5_settles 10 = .ok (.getfield 50, 3) := by decide +kernel
theorem dX5_settles_13 : decode cX5_settles 13 = .ok (.putfield 67, 3) := by decide +kernel
theorem dX5_settles_16 : decode cX5_settles 16 = .ok (.iconst 0, 1) := by decide +kernel
theorem dX5_settles_17 : decode cX5_settles 17 = .ok (.istore_n 1, 1) := by decide +kernel
theorem dX5_settles_18 : decode cX5_settles 18 = .ok (.iload_n 1, 1) := by decide +kernel
theorem dX5_settles_19 : decode cX5_settles 19 = .ok (.aload_n 0, 1) := by decide +kernel
theorem dX5_settles_20 : decode cX5_settles 20 = .ok (.getfield 60, 3) := by decide +kernel
theorem dX5_settles_23 : decode cX5_settles 23 = .ok (.if_icmp .ge 21, 3) := by decide +kernel
theorem dX5_settles_26 : decode cX5_settles 26 = .ok (.aload_n 0, 1) := by decide +kernel
theorem dX5_settles_27 : decode cX5_settles 27 = .ok (.getfield 7, 3) := by decide +kernel
theorem dX5_settles_30 : decode cX5_settles 30 = .ok (.iload_n 1, 1) := by decide +kernel
theorem dX5_settles_31 : decode cX5_settles 31 = .ok (.aload_n 0, 1) := by decide +kernel
theorem dX5_settles_32 : decode cX5_settles 32 = .ok (.getfield 31, 3) := by decide +kernel
theorem dX5_settles_35 : decode cX5_settles 35 = .ok (.iload_n 1, 1) := by decide +kernel
theorem dX5_settles_36 : decode cX5_settles 36 = .ok (.iaload, 1) := by decide +kernel
theorem dX5_settles_37 : decode cX5_settles 37 = .ok (.iastore, 1) := by decide +kernel
theorem dX5_settles_38 : decode cX5_settles 38 = .ok (.iinc 1 1, 3) := by decide +kernel
theorem dX5_settles_41 : decode cX5_settles 41 = .ok (.goto (-23), 3) := by decide +kernel
theorem dX5_settles_44 : decode cX5_settles 44 = .ok (.aload_n 0, 1) := by decide +kernel
theorem dX5_settles_45 : decode cX5_settles 45 = .ok (.getfield 13, 3) := by decide +kernel
theorem dX5_settles_48 : decode cX5_settles 48 = .ok (.iconst 0, 1) := by decide +kernel
theorem dX5_settles_49 : decode cX5_settles 49 = .ok (.aload_n 0, 1) := by decide +kernel
theorem dX5_settles_50 : decode cX5_settles 50 = .ok (.getfield 34, 3) := by decide +kernel
theorem dX5_settles_53 : decode cX5_settles 53 = .ok (.iconst 0, 1) := by decide +kernel
theorem dX5_settles_54 : decode cX5_settles 54 = .ok (.invokestatic 107, 3) := by decide +kernel
theorem dX5_settles_57 : decode cX5_settles 57 = .ok (.aload_n 0, 1) := by decide +kernel
theorem dX5_settles_58 : decode cX5_settles 58 = .ok (.iconst 0, 1) := by decide +kernel
theorem dX5_settles_59 : decode cX5_settles 59 = .ok (.putfield 111, 3) := by decide +kernel
theorem dX5_settles_62 : decode cX5_settles 62 = .ok (.aload_n 0, 1) := by decide +kernel
theorem dX5_settles_63 : decode cX5_settles 63 = .ok (.iconst 0, 1) := by decide +kernel
theorem dX5_settles_64 : decode cX5_settles 64 = .ok (.putfield 114, 3) := by decide +kernel
theorem dX5_settles_67 : decode cX5_settles 67 = .ok (.aload_n 0, 1) := by decide +kernel
theorem dX5_settles_68 : decode cX5_settles 68 = .ok (.iconst 0, 1) := by decide +kernel
theorem dX5_settles_69 : decode cX5_settles 69 = .ok (.putfield 117, 3) := by decide +kernel
theorem dX5_settles_72 : decode cX5_settles 72 = .ok (.return_, 1) := by decide +kernel
theorem dX5_copies_0 : decode cX5_copies 0 = .ok (.iconst 0, 1) := by decide +kernel
theorem dX5_copies_1 : decode cX5_copies 1 = .ok (.istore 4, 2) := by decide +kernel
theorem dX5_copies_3 : decode cX5_copies 3 = .ok (.iload 4, 2) := by decide +kernel
theorem dX5_copies_5 : decode cX5_copies 5 = .ok (.bipush 61, 2) := by decide +kernel
theorem dX5_copies_7 : decode cX5_copies 7 = .ok (.if_icmp .ge 21, 3) := by decide +kernel
theorem dX5_copies_10 : decode cX5_copies 10 = .ok (.aload_n 0, 1) := by decide +kernel
theorem dX5_copies_11 : decode cX5_copies 11 = .ok (.iload_n 1, 1) := by decide +kernel
theorem dX5_copies_12 : decode cX5_copies 12 = .ok (.iload 4, 2) := by decide +kernel
theorem dX5_copies_14 : decode cX5_copies 14 = .ok (.iadd, 1) := by decide +kernel
theorem dX5_copies_15 : decode cX5_copies 15 = .ok (.aload_n 2, 1) := by decide +kernel
theorem dX5_copies_16 : decode cX5_copies 16 = .ok (.iload_n 3, 1) := by decide +kernel
theorem dX5_copies_17 : decode cX5_copies 17 = .ok (.iload 4, 2) := by decide +kernel
theorem dX5_copies_19 : decode cX5_copies 19 = .ok (.iadd, 1) := by decide +kernel
theorem dX5_copies_20 : decode cX5_copies 20 = .ok (.iaload, 1) := by decide +kernel
theorem dX5_copies_21 : decode cX5_copies 21 = .ok (.iastore, 1) := by decide +kernel
theorem dX5_copies_22 : decode cX5_copies 22 = .ok (.iinc 4 1, 3) := by decide +kernel
theorem dX5_copies_25 : decode cX5_copies 25 = .ok (.goto (-22), 3) := by decide +kernel
theorem dX5_copies_28 : decode cX5_copies 28 = .ok (.return_, 1) := by decide +kernel
theorem dX5_asItIs_0 : decode cX5_asItIs 0 = .ok (.aload_n 0, 1) := by decide +kernel
theorem dX5_asItIs_1 : decode cX5_asItIs 1 = .ok (.getfield 37, 3) := by decide +kernel
theorem dX5_asItIs_4 : decode cX5_asItIs 4 = .ok (.iconst 0, 1) := by decide +kernel
theorem dX5_asItIs_5 : decode cX5_asItIs 5 = .ok (.aload_n 0, 1) := by decide +kernel
theorem dX5_asItIs_6 : decode cX5_asItIs 6 = .ok (.getfield 13, 3) := by decide +kernel
theorem dX5_asItIs_9 : decode cX5_asItIs 9 = .ok (.iconst 0, 1) := by decide +kernel
theorem dX5_asItIs_10 : decode cX5_asItIs 10 = .ok (.invokestatic 107, 3) := by decide +kernel
theorem dX5_asItIs_13 : decode cX5_asItIs 13 = .ok (.return_, 1) := by decide +kernel
theorem dX5_viewOf_0 : decode cX5_viewOf 0 = .ok (.aload_n 0, 1) := by decide +kernel
theorem dX5_viewOf_1 : decode cX5_viewOf 1 = .ok (.getfield 37, 3) := by decide +kernel
theorem dX5_viewOf_4 : decode cX5_viewOf 4 = .ok (.bipush 6, 2) := by decide +kernel
theorem dX5_viewOf_6 : decode cX5_viewOf 6 = .ok (.iconst 5, 1) := by decide +kernel
theorem dX5_viewOf_7 : decode cX5_viewOf 7 = .ok (.iload_n 1, 1) := by decide +kernel
theorem dX5_viewOf_8 : decode cX5_viewOf 8 = .ok (.imul, 1) := by decide +kernel
theorem dX5_viewOf_9 : decode cX5_viewOf 9 = .ok (.iadd, 1) := by decide +kernel
theorem dX5_viewOf_10 : decode cX5_viewOf 10 = .ok (.iload_n 2, 1) := by decide +kernel
theorem dX5_viewOf_11 : decode cX5_viewOf 11 = .ok (.iadd, 1) := by decide +kernel
theorem dX5_viewOf_12 : decode cX5_viewOf 12 = .ok (.iaload, 1) := by decide +kernel
theorem dX5_viewOf_13 : decode cX5_viewOf 13 = .ok (.ireturn, 1) := by decide +kernel
theorem dX5_writes_0 : decode cX5_writes 0 = .ok (.aload_n 0, 1) := by decide +kernel
theorem dX5_writes_1 : decode cX5_writes 1 = .ok (.iload_n 2, 1) := by decide +kernel
theorem dX5_writes_2 : decode cX5_writes 2 = .ok (.iload_n 3, 1) := by decide +kernel
theorem dX5_writes_3 : decode cX5_writes 3 = .ok (.invokevirtual 120, 3) := by decide +kernel
theorem dX5_writes_6 : decode cX5_writes 6 = .ok (.istore 5, 2) := by decide +kernel
theorem dX5_writes_8 : decode cX5_writes 8 = .ok (.aload_n 0, 1) := by decide +kernel
theorem dX5_writes_9 : decode cX5_writes 9 = .ok (.iload_n 1, 1) := by decide +kernel
theorem dX5_writes_10 : decode cX5_writes 10 = .ok (.iload_n 3, 1) := by decide +kernel
theorem dX5_writes_11 : decode cX5_writes 11 = .ok (.invokevirtual 120, 3) := by decide +kernel
theorem dX5_writes_14 : decode cX5_writes 14 = .ok (.istore 6, 2) := by decide +kernel
theorem dX5_writes_16 : decode cX5_writes 16 = .ok (.aload_n 0, 1) := by decide +kernel
theorem dX5_writes_17 : decode cX5_writes 17 = .ok (.getfield 7, 3) := by decide +kernel
theorem dX5_writes_20 : decode cX5_writes 20 = .ok (.iload_n 1, 1) := by decide +kernel
theorem dX5_writes_21 : decode cX5_writes 21 = .ok (.iaload, 1) := by decide +kernel
theorem dX5_writes_22 : decode cX5_writes 22 = .ok (.tableswitch 57 1 4 #[30, 33, 52, 54], 30) := by decide +kernel
theorem dX5_writes_52 : decode cX5_writes 52 = .ok (.iload 5, 2) := by decide +kernel
theorem dX5_writes_54 : decode cX5_writes 54 = .ok (.ireturn, 1) := by decide +kernel
theorem dX5_writes_55 : decode cX5_writes 55 = .ok (.bipush 10, 2) := by decide +kernel
theorem dX5_writes_57 : decode cX5_writes 57 = .ok (.iload 4, 2) := by decide +kernel
theorem dX5_writes_59 : decode cX5_writes 59 = .ok (.isub, 1) := by decide +kernel
theorem dX5_writes_60 : decode cX5_writes 60 = .ok (.iload 5, 2) := by decide +kernel
theorem dX5_writes_62 : decode cX5_writes 62 = .ok (.ineg, 1) := by decide +kernel
theorem dX5_writes_63 : decode cX5_writes 63 = .ok (.imul, 1) := by decide +kernel
theorem dX5_writes_64 : decode cX5_writes 64 = .ok (.iload 4, 2) := by decide +kernel
theorem dX5_writes_66 : decode cX5_writes 66 = .ok (.iload 6, 2) := by decide +kernel
theorem dX5_writes_68 : decode cX5_writes 68 = .ok (.imul, 1) := by decide +kernel
theorem dX5_writes_69 : decode cX5_writes 69 = .ok (.iadd, 1) := by decide +kernel
theorem dX5_writes_70 : decode cX5_writes 70 = .ok (.bipush 10, 2) := by decide +kernel
theorem dX5_writes_72 : decode cX5_writes 72 = .ok (.idiv, 1) := by decide +kernel
theorem dX5_writes_73 : decode cX5_writes 73 = .ok (.ireturn, 1) := by decide +kernel
theorem dX5_writes_74 : decode cX5_writes 74 = .ok (.iconst 0, 1) := by decide +kernel
theorem dX5_writes_75 : decode cX5_writes 75 = .ok (.ireturn, 1) := by decide +kernel
theorem dX5_writes_76 : decode cX5_writes 76 = .ok (.bipush 9, 2) := by decide +kernel
theorem dX5_writes_78 : decode cX5_writes 78 = .ok (.ireturn, 1) := by decide +kernel
theorem dX5_writes_79 : decode cX5_writes 79 = .ok (.bipush 10, 2) := by decide +kernel
theorem dX5_writes_81 : decode cX5_writes 81 = .ok (.iload 4, 2) := by decide +kernel
theorem dX5_writes_83 : decode cX5_writes 83 = .ok (.isub, 1) := by decide +kernel
theorem dX5_writes_84 : decode cX5_writes 84 = .ok (.iload 5, 2) := by decide +kernel
theorem dX5_writes_86 : decode cX5_writes 86 = .ok (.imul, 1) := by decide +kernel
theorem dX5_writes_87 : decode cX5_writes 87 = .ok (.iload 4, 2) := by decide +kernel
theorem dX5_writes_89 : decode cX5_writes 89 = .ok (.iload 6, 2) := by decide +kernel
theorem dX5_writes_91 : decode cX5_writes 91 = .ok (.imul, 1) := by decide +kernel
theorem dX5_writes_92 : decode cX5_writes 92 = .ok (.iadd, 1) := by decide +kernel
theorem dX5_writes_93 : decode cX5_writes 93 = .ok (.bipush 10, 2) := by decide +kernel
theorem dX5_writes_95 : decode cX5_writes 95 = .ok (.idiv, 1) := by decide +kernel
theorem dX5_writes_96 : decode cX5_writes 96 = .ok (.ireturn, 1) := by decide +kernel
theorem dX5_toward_0 : decode cX5_toward 0 = .ok (.iload_n 2, 1) := by decide +kernel
theorem dX5_toward_1 : decode cX5_toward 1 = .ok (.iload_n 1, 1) := by decide +kernel
theorem dX5_toward_2 : decode cX5_toward 2 = .ok (.if_icmp .le 9, 3) := by decide +kernel
theorem dX5_toward_5 : decode cX5_toward 5 = .ok (.iload_n 2, 1) := by decide +kernel
theorem dX5_toward_6 : decode cX5_toward 6 = .ok (.iload_n 1, 1) := by decide +kernel
theorem dX5_toward_7 : decode cX5_toward 7 = .ok (.isub, 1) := by decide +kernel
theorem dX5_toward_8 : decode cX5_toward 8 = .ok (.goto 6, 3) := by decide +kernel
theorem dX5_toward_11 : decode cX5_toward 11 = .ok (.iload_n 1, 1) := by decide +kernel
theorem dX5_toward_12 : decode cX5_toward 12 = .ok (.iload_n 2, 1) := by decide +kernel
theorem dX5_toward_13 : decode cX5_toward 13 = .ok (.isub, 1) := by decide +kernel
theorem dX5_toward_14 : decode cX5_toward 14 = .ok (.istore 4, 2) := by decide +kernel
theorem dX5_toward_16 : decode cX5_toward 16 = .ok (.iload 4, 2) := by decide +kernel
theorem dX5_toward_18 : decode cX5_toward 18 = .ok (.iload_n 3, 1) := by decide +kernel
theorem dX5_toward_19 : decode cX5_toward 19 = .ok (.if_icmp .ge 8, 3) := by decide +kernel
theorem dX5_toward_22 : decode cX5_toward 22 = .ok (.iload 4, 2) := by decide +kernel
theorem dX5_toward_24 : decode cX5_toward 24 = .ok (.goto 4, 3) := by decide +kernel
theorem dX5_toward_27 : decode cX5_toward 27 = .ok (.iload_n 3, 1) := by decide +kernel
theorem dX5_toward_28 : decode cX5_toward 28 = .ok (.istore 5, 2) := by decide +kernel
theorem dX5_toward_30 : decode cX5_toward 30 = .ok (.iload_n 2, 1) := by decide +kernel
theorem dX5_toward_31 : decode cX5_toward 31 = .ok (.iload_n 1, 1) := by decide +kernel
theorem dX5_toward_32 : decode cX5_toward 32 = .ok (.if_icmp .le 10, 3) := by decide +kernel
theorem dX5_toward_35 : decode cX5_toward 35 = .ok (.iload_n 1, 1) := by decide +kernel
theorem dX5_toward_36 : decode cX5_toward 36 = .ok (.iload 5, 2) := by decide +kernel
theorem dX5_toward_38 : decode cX5_toward 38 = .ok (.iadd, 1) := by decide +kernel
theorem dX5_toward_39 : decode cX5_toward 39 = .ok (.goto 7, 3) := by decide +kernel
theorem dX5_toward_42 : decode cX5_toward 42 = .ok (.iload_n 1, 1) := by decide +kernel
theorem dX5_toward_43 : decode cX5_toward 43 = .ok (.iload 5, 2) := by decide +kernel
theorem dX5_toward_45 : decode cX5_toward 45 = .ok (.isub, 1) := by decide +kernel
theorem dX5_toward_46 : decode cX5_toward 46 = .ok (.ireturn, 1) := by decide +kernel
theorem dX5_copied_0 : decode cX5_copied 0 = .ok (.aload_n 0, 1) := by decide +kernel
theorem dX5_copied_1 : decode cX5_copied 1 = .ok (.aload_n 0, 1) := by decide +kernel
theorem dX5_copied_2 : decode cX5_copied 2 = .ok (.getfield 37, 3) := by decide +kernel
theorem dX5_copied_5 : decode cX5_copied 5 = .ok (.iconst 0, 1) := by decide +kernel
theorem dX5_copied_6 : decode cX5_copied 6 = .ok (.iload_n 2, 1) := by decide +kernel
theorem dX5_copied_7 : decode cX5_copied 7 = .ok (.iadd, 1) := by decide +kernel
theorem dX5_copied_8 : decode cX5_copied 8 = .ok (.iaload, 1) := by decide +kernel
theorem dX5_copied_9 : decode cX5_copied 9 = .ok (.iload_n 3, 1) := by decide +kernel
theorem dX5_copied_10 : decode cX5_copied 10 = .ok (.invokevirtual 120, 3) := by decide +kernel
theorem dX5_copied_13 : decode cX5_copied 13 = .ok (.istore 4, 2) := by decide +kernel
theorem dX5_copied_15 : decode cX5_copied 15 = .ok (.aload_n 0, 1) := by decide +kernel
theorem dX5_copied_16 : decode cX5_copied 16 = .ok (.getfield 7, 3) := by decide +kernel
theorem dX5_copied_19 : decode cX5_copied 19 = .ok (.iload_n 2, 1) := by decide +kernel
theorem dX5_copied_20 : decode cX5_copied 20 = .ok (.iaload, 1) := by decide +kernel
theorem dX5_copied_21 : decode cX5_copied 21 = .ok (.tableswitch 63 1 4 #[31, 63, 40, 48], 31) := by decide +kernel
theorem dX5_copied_52 : decode cX5_copied 52 = .ok (.aload_n 0, 1) := by decide +kernel
theorem dX5_copied_53 : decode cX5_copied 53 = .ok (.iload_n 1, 1) := by decide +kernel
theorem dX5_copied_54 : decode cX5_copied 54 = .ok (.iload 4, 2) := by decide +kernel
theorem dX5_copied_56 : decode cX5_copied 56 = .ok (.iconst 2, 1) := by decide +kernel
theorem dX5_copied_57 : decode cX5_copied 57 = .ok (.invokevirtual 124, 3) := by decide +kernel
theorem dX5_copied_60 : decode cX5_copied 60 = .ok (.ireturn, 1) := by decide +kernel
theorem dX5_copied_61 : decode cX5_copied 61 = .ok (.aload_n 0, 1) := by decide +kernel
theorem dX5_copied_62 : decode cX5_copied 62 = .ok (.iload_n 1, 1) := by decide +kernel
theorem dX5_copied_63 : decode cX5_copied 63 = .ok (.iconst 0, 1) := by decide +kernel
theorem dX5_copied_64 : decode cX5_copied 64 = .ok (.iconst 1, 1) := by decide +kernel
theorem dX5_copied_65 : decode cX5_copied 65 = .ok (.invokevirtual 124, 3) := by decide +kernel
theorem dX5_copied_68 : decode cX5_copied 68 = .ok (.ireturn, 1) := by decide +kernel
theorem dX5_copied_69 : decode cX5_copied 69 = .ok (.iload_n 1, 1) := by decide +kernel
theorem dX5_copied_70 : decode cX5_copied 70 = .ok (.bipush 9, 2) := by decide +kernel
theorem dX5_copied_72 : decode cX5_copied 72 = .ok (.if_icmp .ge 9, 3) := by decide +kernel
theorem dX5_copied_75 : decode cX5_copied 75 = .ok (.iload_n 1, 1) := by decide +kernel
theorem dX5_copied_76 : decode cX5_copied 76 = .ok (.iconst 1, 1) := by decide +kernel
theorem dX5_copied_77 : decode cX5_copied 77 = .ok (.iadd, 1) := by decide +kernel
theorem dX5_copied_78 : decode cX5_copied 78 = .ok (.goto 5, 3) := by decide +kernel
theorem dX5_copied_81 : decode cX5_copied 81 = .ok (.bipush 9, 2) := by decide +kernel
theorem dX5_copied_83 : decode cX5_copied 83 = .ok (.ireturn, 1) := by decide +kernel
theorem dX5_copied_84 : decode cX5_copied 84 = .ok (.aload_n 0, 1) := by decide +kernel
theorem dX5_copied_85 : decode cX5_copied 85 = .ok (.iload_n 1, 1) := by decide +kernel
theorem dX5_copied_86 : decode cX5_copied 86 = .ok (.iload 4, 2) := by decide +kernel
theorem dX5_copied_88 : decode cX5_copied 88 = .ok (.iconst 1, 1) := by decide +kernel
theorem dX5_copied_89 : decode cX5_copied 89 = .ok (.invokevirtual 124, 3) := by decide +kernel
theorem dX5_copied_92 : decode cX5_copied 92 = .ok (.ireturn, 1) := by decide +kernel
theorem dX5_copying_0 : decode cX5_copying 0 = .ok (.iconst 0, 1) := by decide +kernel
theorem dX5_copying_1 : decode cX5_copying 1 = .ok (.istore 4, 2) := by decide +kernel
theorem dX5_copying_3 : decode cX5_copying 3 = .ok (.iload 4, 2) := by decide +kernel
theorem dX5_copying_5 : decode cX5_copying 5 = .ok (.iconst 5, 1) := by decide +kernel
theorem dX5_copying_6 : decode cX5_copying 6 = .ok (.if_icmp .ge 63, 3) := by decide +kernel
theorem dX5_copying_9 : decode cX5_copying 9 = .ok (.aload_n 0, 1) := by decide +kernel
theorem dX5_copying_10 : decode cX5_copying 10 = .ok (.getfield 37, 3) := by decide +kernel
theorem dX5_copying_13 : decode cX5_copying 13 = .ok (.bipush 36, 2) := by decide +kernel
theorem dX5_copying_15 : decode cX5_copying 15 = .ok (.iconst 5, 1) := by decide +kernel
theorem dX5_copying_16 : decode cX5_copying 16 = .ok (.iload_n 1, 1) := by decide +kernel
theorem dX5_copying_17 : decode cX5_copying 17 = .ok (.imul, 1) := by decide +kernel
theorem dX5_copying_18 : decode cX5_copying 18 = .ok (.iadd, 1) := by decide +kernel
theorem dX5_copying_19 : decode cX5_copying 19 = .ok (.iload 4, 2) := by decide +kernel
theorem dX5_copying_21 : decode cX5_copying 21 = .ok (.iadd, 1) := by decide +kernel
theorem dX5_copying_22 : decode cX5_copying 22 = .ok (.iaload, 1) := by decide +kernel
theorem dX5_copying_23 : decode cX5_copying 23 = .ok (.istore 5, 2) := by decide +kernel
theorem dX5_copying_25 : decode cX5_copying 25 = .ok (.aload_n 0, 1) := by decide +kernel
theorem dX5_copying_26 : decode cX5_copying 26 = .ok (.getfield 37, 3) := by decide +kernel
theorem dX5_copying_29 : decode cX5_copying 29 = .ok (.bipush 36, 2) := by decide +kernel
theorem dX5_copying_31 : decode cX5_copying 31 = .ok (.iconst 5, 1) := by decide +kernel
theorem dX5_copying_32 : decode cX5_copying 32 = .ok (.iload_n 2, 1) := by decide +kernel
theorem dX5_copying_33 : decode cX5_copying 33 = .ok (.imul, 1) := by decide +kernel
theorem dX5_copying_34 : decode cX5_copying 34 = .ok (.iadd, 1) := by decide +kernel
theorem dX5_copying_35 : decode cX5_copying 35 = .ok (.iload 4, 2) := by decide +kernel
theorem dX5_copying_37 : decode cX5_copying 37 = .ok (.iadd, 1) := by decide +kernel
theorem dX5_copying_38 : decode cX5_copying 38 = .ok (.iload 5, 2) := by decide +kernel
theorem dX5_copying_40 : decode cX5_copying 40 = .ok (.ifCond .ne 7, 3) := by decide +kernel
theorem dX5_copying_43 : decode cX5_copying 43 = .ok (.iconst 0, 1) := by decide +kernel
theorem dX5_copying_44 : decode cX5_copying 44 = .ok (.goto 18, 3) := by decide +kernel
theorem dX5_copying_47 : decode cX5_copying 47 = .ok (.aload_n 0, 1) := by decide +kernel
theorem dX5_copying_48 : decode cX5_copying 48 = .ok (.iload 5, 2) := by decide +kernel
theorem dX5_copying_50 : decode cX5_copying 50 = .ok (.bipush 10, 2) := by decide +kernel
theorem dX5_copying_52 : decode cX5_copying 52 = .ok (.isub, 1) := by decide +kernel
theorem dX5_copying_53 : decode cX5_copying 53 = .ok (.iload_n 3, 1) := by decide +kernel
theorem dX5_copying_54 : decode cX5_copying 54 = .ok (.iload 4, 2) := by decide +kernel
theorem dX5_copying_56 : decode cX5_copying 56 = .ok (.invokevirtual 128, 3) := by decide +kernel
theorem dX5_copying_59 : decode cX5_copying 59 = .ok (.bipush 10, 2) := by decide +kernel
theorem dX5_copying_61 : decode cX5_copying 61 = .ok (.iadd, 1) := by decide +kernel
theorem dX5_copying_62 : decode cX5_copying 62 = .ok (.iastore, 1) := by decide +kernel
theorem dX5_copying_63 : decode cX5_copying 63 = .ok (.iinc 4 1, 3) := by decide +kernel
theorem dX5_copying_66 : decode cX5_copying 66 = .ok (.goto (-63), 3) := by decide +kernel
theorem dX5_copying_69 : decode cX5_copying 69 = .ok (.return_, 1) := by decide +kernel
theorem dX5_says_0 : decode cX5_says 0 = .ok (.iload_n 0, 1) := by decide +kernel
theorem dX5_says_1 : decode cX5_says 1 = .ok (.ifCond .ne 8, 3) := by decide +kernel
theorem dX5_says_4 : decode cX5_says 4 = .ok (.bipush (-4), 2) := by decide +kernel
theorem dX5_says_6 : decode cX5_says 6 = .ok (.goto 6, 3) := by decide +kernel
theorem dX5_says_9 : decode cX5_says 9 = .ok (.iload_n 0, 1) := by decide +kernel
theorem dX5_says_10 : decode cX5_says 10 = .ok (.iconst 1, 1) := by decide +kernel
theorem dX5_says_11 : decode cX5_says 11 = .ok (.isub, 1) := by decide +kernel
theorem dX5_says_12 : decode cX5_says 12 = .ok (.ireturn, 1) := by decide +kernel
theorem dX5_person_0 : decode cX5_person 0 = .ok (.aload_n 0, 1) := by decide +kernel
theorem dX5_person_1 : decode cX5_person 1 = .ok (.iload_n 1, 1) := by decide +kernel
theorem dX5_person_2 : decode cX5_person 2 = .ok (.invokevirtual 131, 3) := by decide +kernel
theorem dX5_person_5 : decode cX5_person 5 = .ok (.ifCond .eq 12, 3) := by decide +kernel
theorem dX5_person_8 : decode cX5_person 8 = .ok (.iload_n 2, 1) := by decide +kernel
theorem dX5_person_9 : decode cX5_person 9 = .ok (.iconst 0, 1) := by decide +kernel
theorem dX5_person_10 : decode cX5_person 10 = .ok (.iconst 1, 1) := by decide +kernel
theorem dX5_person_11 : decode cX5_person 11 = .ok (.invokestatic 63, 3) := by decide +kernel
theorem dX5_person_14 : decode cX5_person 14 = .ok (.ifCond .ne 5, 3) := by decide +kernel
theorem dX5_person_17 : decode cX5_person 17 = .ok (.iconst (-1), 1) := by decide +kernel
theorem dX5_person_18 : decode cX5_person 18 = .ok (.ireturn, 1) := by decide +kernel
theorem dX5_person_19 : decode cX5_person 19 = .ok (.iload_n 2, 1) := by decide +kernel
theorem dX5_person_20 : decode cX5_person 20 = .ok (.ifCond .ne 12, 3) := by decide +kernel
theorem dX5_person_23 : decode cX5_person 23 = .ok (.aload_n 0, 1) := by decide +kernel
theorem dX5_person_24 : decode cX5_person 24 = .ok (.getfield 7, 3) := by decide +kernel
theorem dX5_person_27 : decode cX5_person 27 = .ok (.iload_n 1, 1) := by decide +kernel
theorem dX5_person_28 : decode cX5_person 28 = .ok (.iaload, 1) := by decide +kernel
theorem dX5_person_29 : decode cX5_person 29 = .ok (.goto 11, 3) := by decide +kernel
theorem dX5_person_32 : decode cX5_person 32 = .ok (.aload_n 0, 1) := by decide +kernel
theorem dX5_person_33 : decode cX5_person 33 = .ok (.getfield 13, 3) := by decide +kernel
theorem dX5_person_36 : decode cX5_person 36 = .ok (.iconst 0, 1) := by decide +kernel
theorem dX5_person_37 : decode cX5_person 37 = .ok (.iload_n 1, 1) := by decide +kernel
theorem dX5_person_38 : decode cX5_person 38 = .ok (.iadd, 1) := by decide +kernel
theorem dX5_person_39 : decode cX5_person 39 = .ok (.iaload, 1) := by decide +kernel
theorem dX5_person_40 : decode cX5_person 40 = .ok (.ireturn, 1) := by decide +kernel
theorem dX5_view_0 : decode cX5_view 0 = .ok (.aload_n 0, 1) := by decide +kernel
theorem dX5_view_1 : decode cX5_view 1 = .ok (.iload_n 1, 1) := by decide +kernel
theorem dX5_view_2 : decode cX5_view 2 = .ok (.invokevirtual 131, 3) := by decide +kernel
theorem dX5_view_5 : decode cX5_view 5 = .ok (.ifCond .eq 29, 3) := by decide +kernel
theorem dX5_view_8 : decode cX5_view 8 = .ok (.iload_n 2, 1) := by decide +kernel
theorem dX5_view_9 : decode cX5_view 9 = .ok (.invokestatic 134, 3) := by decide +kernel
theorem dX5_view_12 : decode cX5_view 12 = .ok (.ifCond .eq 22, 3) := by decide +kernel
theorem dX5_view_15 : decode cX5_view 15 = .ok (.aload_n 0, 1) := by decide +kernel
theorem dX5_view_16 : decode cX5_view 16 = .ok (.getfield 13, 3) := by decide +kernel
theorem dX5_view_19 : decode cX5_view 19 = .ok (.bipush 6, 2) := by decide +kernel
theorem dX5_view_21 : decode cX5_view 21 = .ok (.iconst 5, 1) := by decide +kernel
theorem dX5_view_22 : decode cX5_view 22 = .ok (.iload_n 1, 1) := by decide +kernel
theorem dX5_view_23 : decode cX5_view 23 = .ok (.imul, 1) := by decide +kernel
theorem dX5_view_24 : decode cX5_view 24 = .ok (.iadd, 1) := by decide +kernel
theorem dX5_view_25 : decode cX5_view 25 = .ok (.iload_n 2, 1) := by decide +kernel
theorem dX5_view_26 : decode cX5_view 26 = .ok (.iadd, 1) := by decide +kernel
theorem dX5_view_27 : decode cX5_view 27 = .ok (.iaload, 1) := by decide +kernel
theorem dX5_view_28 : decode cX5_view 28 = .ok (.bipush 9, 2) := by decide +kernel
theorem dX5_view_30 : decode cX5_view 30 = .ok (.iadd, 1) := by decide +kernel
theorem dX5_view_31 : decode cX5_view 31 = .ok (.goto 4, 3) := by decide +kernel
theorem dX5_view_34 : decode cX5_view 34 = .ok (.iconst (-1), 1) := by decide +kernel
theorem dX5_view_35 : decode cX5_view 35 = .ok (.ireturn, 1) := by decide +kernel
theorem dX5_line_0 : decode cX5_line 0 = .ok (.aload_n 0, 1) := by decide +kernel
theorem dX5_line_1 : decode cX5_line 1 = .ok (.iload_n 1, 1) := by decide +kernel
theorem dX5_line_2 : decode cX5_line 2 = .ok (.invokevirtual 137, 3) := by decide +kernel
theorem dX5_line_5 : decode cX5_line 5 = .ok (.ifCond .eq 29, 3) := by decide +kernel
theorem dX5_line_8 : decode cX5_line 8 = .ok (.iload_n 2, 1) := by decide +kernel
theorem dX5_line_9 : decode cX5_line 9 = .ok (.invokestatic 134, 3) := by decide +kernel
theorem dX5_line_12 : decode cX5_line 12 = .ok (.ifCond .eq 22, 3) := by decide +kernel
theorem dX5_line_15 : decode cX5_line 15 = .ok (.aload_n 0, 1) := by decide +kernel
theorem dX5_line_16 : decode cX5_line 16 = .ok (.getfield 13, 3) := by decide +kernel
theorem dX5_line_19 : decode cX5_line 19 = .ok (.bipush 36, 2) := by decide +kernel
theorem dX5_line_21 : decode cX5_line 21 = .ok (.iconst 5, 1) := by decide +kernel
theorem dX5_line_22 : decode cX5_line 22 = .ok (.iload_n 1, 1) := by decide +kernel
theorem dX5_line_23 : decode cX5_line 23 = .ok (.imul, 1) := by decide +kernel
theorem dX5_line_24 : decode cX5_line 24 = .ok (.iadd, 1) := by decide +kernel
theorem dX5_line_25 : decode cX5_line 25 = .ok (.iload_n 2, 1) := by decide +kernel
theorem dX5_line_26 : decode cX5_line 26 = .ok (.iadd, 1) := by decide +kernel
theorem dX5_line_27 : decode cX5_line 27 = .ok (.iaload, 1) := by decide +kernel
theorem dX5_line_28 : decode cX5_line 28 = .ok (.invokestatic 140, 3) := by decide +kernel
theorem dX5_line_31 : decode cX5_line 31 = .ok (.goto 4, 3) := by decide +kernel
theorem dX5_line_34 : decode cX5_line 34 = .ok (.iconst (-1), 1) := by decide +kernel
theorem dX5_line_35 : decode cX5_line 35 = .ok (.ireturn, 1) := by decide +kernel
theorem dX5_would_0 : decode cX5_would 0 = .ok (.aload_n 0, 1) := by decide +kernel
theorem dX5_would_1 : decode cX5_would 1 = .ok (.iload_n 1, 1) := by decide +kernel
theorem dX5_would_2 : decode cX5_would 2 = .ok (.invokevirtual 131, 3) := by decide +kernel
theorem dX5_would_5 : decode cX5_would 5 = .ok (.ifCond .eq 20, 3) := by decide +kernel
theorem dX5_would_8 : decode cX5_would 8 = .ok (.iload_n 2, 1) := by decide +kernel
theorem dX5_would_9 : decode cX5_would 9 = .ok (.invokestatic 134, 3) := by decide +kernel
theorem dX5_would_12 : decode cX5_would 12 = .ok (.ifCond .eq 13, 3) := by decide +kernel
theorem dX5_would_15 : decode cX5_would 15 = .ok (.iload_n 3, 1) := by decide +kernel
theorem dX5_would_16 : decode cX5_would 16 = .ok (.iconst 0, 1) := by decide +kernel
theorem dX5_would_17 : decode cX5_would 17 = .ok (.bipush 10, 2) := by decide +kernel
theorem dX5_would_19 : decode cX5_would 19 = .ok (.invokestatic 63, 3) := by decide +kernel
theorem dX5_would_22 : decode cX5_would 22 = .ok (.ifCond .ne 5, 3) := by decide +kernel
theorem dX5_would_25 : decode cX5_would 25 = .ok (.iconst (-1), 1) := by decide +kernel
theorem dX5_would_26 : decode cX5_would 26 = .ok (.ireturn, 1) := by decide +kernel
theorem dX5_would_27 : decode cX5_would 27 = .ok (.aload_n 0, 1) := by decide +kernel
theorem dX5_would_28 : decode cX5_would 28 = .ok (.invokevirtual 143, 3) := by decide +kernel
theorem dX5_would_31 : decode cX5_would 31 = .ok (.aload_n 0, 1) := by decide +kernel
theorem dX5_would_32 : decode cX5_would 32 = .ok (.iload_n 1, 1) := by decide +kernel
theorem dX5_would_33 : decode cX5_would 33 = .ok (.aload_n 0, 1) := by decide +kernel
theorem dX5_would_34 : decode cX5_would 34 = .ok (.getfield 37, 3) := by decide +kernel
theorem dX5_would_37 : decode cX5_would 37 = .ok (.iconst 0, 1) := by decide +kernel
theorem dX5_would_38 : decode cX5_would 38 = .ok (.iload_n 1, 1) := by decide +kernel
theorem dX5_would_39 : decode cX5_would 39 = .ok (.iadd, 1) := by decide +kernel
theorem dX5_would_40 : decode cX5_would 40 = .ok (.iaload, 1) := by decide +kernel
theorem dX5_would_41 : decode cX5_would 41 = .ok (.iload_n 2, 1) := by decide +kernel
theorem dX5_would_42 : decode cX5_would 42 = .ok (.iload_n 3, 1) := by decide +kernel
theorem dX5_would_43 : decode cX5_would 43 = .ok (.invokevirtual 146, 3) := by decide +kernel
theorem dX5_would_46 : decode cX5_would 46 = .ok (.bipush 9, 2) := by decide +kernel
theorem dX5_would_48 : decode cX5_would 48 = .ok (.iadd, 1) := by decide +kernel
theorem dX5_would_49 : decode cX5_would 49 = .ok (.ireturn, 1) := by decide +kernel
theorem dX5_remembers_0 : decode cX5_remembers 0 = .ok (.aload_n 0, 1) := by decide +kernel
theorem dX5_remembers_1 : decode cX5_remembers 1 = .ok (.getfield 111, 3) := by decide +kernel
theorem dX5_remembers_4 : decode cX5_remembers 4 = .ok (.bipush 8, 2) := by decide +kernel
theorem dX5_remembers_6 : decode cX5_remembers 6 = .ok (.if_icmp .ne 43, 3) := by decide +kernel
theorem dX5_remembers_9 : decode cX5_remembers 9 = .ok (.iconst 0, 1) := by decide +kernel
theorem dX5_remembers_10 : decode cX5_remembers 10 = .ok (.istore_n 1, 1) := by decide +kernel
theorem dX5_remembers_11 : decode cX5_remembers 11 = .ok (.iload_n 1, 1) := by decide +kernel
theorem dX5_remembers_12 : decode cX5_remembers 12 = .ok (.sipush 427, 3) := by decide +kernel
theorem dX5_remembers_15 : decode cX5_remembers 15 = .ok (.if_icmp .ge 24, 3) := by decide +kernel
theorem dX5_remembers_18 : decode cX5_remembers 18 = .ok (.aload_n 0, 1) := by decide +kernel
theorem dX5_remembers_19 : decode cX5_remembers 19 = .ok (.getfield 16, 3) := by decide +kernel
theorem dX5_remembers_22 : decode cX5_remembers 22 = .ok (.iload_n 1, 1) := by decide +kernel
theorem dX5_remembers_23 : decode cX5_remembers 23 = .ok (.aload_n 0, 1) := by decide +kernel
theorem dX5_remembers_24 : decode cX5_remembers 24 = .ok (.getfield 16, 3) := by decide +kernel
theorem dX5_remembers_27 : decode cX5_remembers 27 = .ok (.iload_n 1, 1) := by decide +kernel
theorem dX5_remembers_28 : decode cX5_remembers 28 = .ok (.bipush 61, 2) := by decide +kernel
theorem dX5_remembers_30 : decode cX5_remembers 30 = .ok (.iadd, 1) := by decide +kernel
theorem dX5_remembers_31 : decode cX5_remembers 31 = .ok (.iaload, 1) := by decide +kernel
theorem dX5_remembers_32 : decode cX5_remembers 32 = .ok (.iastore, 1) := by decide +kernel
theorem dX5_remembers_33 : decode cX5_remembers 33 = .ok (.iinc 1 1, 3) := by decide +kernel
theorem dX5_remembers_36 : decode cX5_remembers 36 = .ok (.goto (-25), 3) := by decide +kernel
theorem dX5_remembers_39 : decode cX5_remembers 39 = .ok (.aload_n 0, 1) := by decide +kernel
theorem dX5_remembers_40 : decode cX5_remembers 40 = .ok (.dup, 1) := by decide +kernel
theorem dX5_remembers_41 : decode cX5_remembers 41 = .ok (.getfield 111, 3) := by decide +kernel
theorem dX5_remembers_44 : decode cX5_remembers 44 = .ok (.iconst 1, 1) := by decide +kernel
theorem dX5_remembers_45 : decode cX5_remembers 45 = .ok (.isub, 1) := by decide +kernel
theorem dX5_remembers_46 : decode cX5_remembers 46 = .ok (.putfield 111, 3) := by decide +kernel
theorem dX5_remembers_49 : decode cX5_remembers 49 = .ok (.aload_n 0, 1) := by decide +kernel
theorem dX5_remembers_50 : decode cX5_remembers 50 = .ok (.getfield 16, 3) := by decide +kernel
theorem dX5_remembers_53 : decode cX5_remembers 53 = .ok (.bipush 61, 2) := by decide +kernel
theorem dX5_remembers_55 : decode cX5_remembers 55 = .ok (.aload_n 0, 1) := by decide +kernel
theorem dX5_remembers_56 : decode cX5_remembers 56 = .ok (.getfield 111, 3) := by decide +kernel
theorem dX5_remembers_59 : decode cX5_remembers 59 = .ok (.imul, 1) := by decide +kernel
theorem dX5_remembers_60 : decode cX5_remembers 60 = .ok (.aload_n 0, 1) := by decide +kernel
theorem dX5_remembers_61 : decode cX5_remembers 61 = .ok (.getfield 13, 3) := by decide +kernel
theorem dX5_remembers_64 : decode cX5_remembers 64 = .ok (.iconst 0, 1) := by decide +kernel
theorem dX5_remembers_65 : decode cX5_remembers 65 = .ok (.invokestatic 107, 3) := by decide +kernel
theorem dX5_remembers_68 : decode cX5_remembers 68 = .ok (.aload_n 0, 1) := by decide +kernel
theorem dX5_remembers_69 : decode cX5_remembers 69 = .ok (.dup, 1) := by decide +kernel
theorem dX5_remembers_70 : decode cX5_remembers 70 = .ok (.getfield 111, 3) := by decide +kernel
theorem dX5_remembers_73 : decode cX5_remembers 73 = .ok (.iconst 1, 1) := by decide +kernel
theorem dX5_remembers_74 : decode cX5_remembers 74 = .ok (.iadd, 1) := by decide +kernel
theorem dX5_remembers_75 : decode cX5_remembers 75 = .ok (.putfield 111, 3) := by decide +kernel
theorem dX5_remembers_78 : decode cX5_remembers 78 = .ok (.return_, 1) := by decide +kernel
theorem dX5_set_0 : decode cX5_set 0 = .ok (.aload_n 0, 1) := by decide +kernel
theorem dX5_set_1 : decode cX5_set 1 = .ok (.iload_n 1, 1) := by decide +kernel
theorem dX5_set_2 : decode cX5_set 2 = .ok (.invokevirtual 137, 3) := by decide +kernel
theorem dX5_set_5 : decode cX5_set 5 = .ok (.ifCond .eq 29, 3) := by decide +kernel
theorem dX5_set_8 : decode cX5_set 8 = .ok (.aload_n 0, 1) := by decide +kernel
theorem dX5_set_9 : decode cX5_set 9 = .ok (.iload_n 2, 1) := by decide +kernel
theorem dX5_set_10 : decode cX5_set 10 = .ok (.invokevirtual 131, 3) := by decide +kernel
theorem dX5_set_13 : decode cX5_set 13 = .ok (.ifCond .eq 21, 3) := by decide +kernel
theorem dX5_set_16 : decode cX5_set 16 = .ok (.iload_n 3, 1) := by decide +kernel
theorem dX5_set_17 : decode cX5_set 17 = .ok (.invokestatic 134, 3) := by decide +kernel
theorem dX5_set_20 : decode cX5_set 20 = .ok (.ifCond .eq 14, 3) := by decide +kernel
theorem dX5_set_23 : decode cX5_set 23 = .ok (.iload 4, 2) := by decide +kernel
theorem dX5_set_25 : decode cX5_set 25 = .ok (.iconst 0, 1) := by decide +kernel
theorem dX5_set_26 : decode cX5_set 26 = .ok (.bipush 10, 2) := by decide +kernel
theorem dX5_set_28 : decode cX5_set 28 = .ok (.invokestatic 63, 3) := by decide +kernel
theorem dX5_set_31 : decode cX5_set 31 = .ok (.ifCond .ne 5, 3) := by decide +kernel
theorem dX5_set_34 : decode cX5_set 34 = .ok (.iconst (-1), 1) := by decide +kernel
theorem dX5_set_35 : decode cX5_set 35 = .ok (.ireturn, 1) := by decide +kernel
theorem dX5_set_36 : decode cX5_set 36 = .ok (.aload_n 0, 1) := by decide +kernel
theorem dX5_set_37 : decode cX5_set 37 = .ok (.invokevirtual 150, 3) := by decide +kernel
theorem dX5_set_40 : decode cX5_set 40 = .ok (.aload_n 0, 1) := by decide +kernel
theorem dX5_set_41 : decode cX5_set 41 = .ok (.invokevirtual 143, 3) := by decide +kernel
theorem dX5_set_44 : decode cX5_set 44 = .ok (.aload_n 0, 1) := by decide +kernel
theorem dX5_set_45 : decode cX5_set 45 = .ok (.iload_n 2, 1) := by decide +kernel
theorem dX5_set_46 : decode cX5_set 46 = .ok (.aload_n 0, 1) := by decide +kernel
theorem dX5_set_47 : decode cX5_set 47 = .ok (.getfield 37, 3) := by decide +kernel
theorem dX5_set_50 : decode cX5_set 50 = .ok (.iconst 0, 1) := by decide +kernel
theorem dX5_set_51 : decode cX5_set 51 = .ok (.iload_n 2, 1) := by decide +kernel
theorem dX5_set_52 : decode cX5_set 52 = .ok (.iadd, 1) := by decide +kernel
theorem dX5_set_53 : decode cX5_set 53 = .ok (.iaload, 1) := by decide +kernel
theorem dX5_set_54 : decode cX5_set 54 = .ok (.iload_n 3, 1) := by decide +kernel
theorem dX5_set_55 : decode cX5_set 55 = .ok (.iload 4, 2) := by decide +kernel
theorem dX5_set_57 : decode cX5_set 57 = .ok (.invokevirtual 146, 3) := by decide +kernel
theorem dX5_set_60 : decode cX5_set 60 = .ok (.istore 5, 2) := by decide +kernel
theorem dX5_set_62 : decode cX5_set 62 = .ok (.aload_n 0, 1) := by decide +kernel
theorem dX5_set_63 : decode cX5_set 63 = .ok (.getfield 13, 3) := by decide +kernel
theorem dX5_set_66 : decode cX5_set 66 = .ok (.bipush 36, 2) := by decide +kernel
theorem dX5_set_68 : decode cX5_set 68 = .ok (.iconst 5, 1) := by decide +kernel
theorem dX5_set_69 : decode cX5_set 69 = .ok (.iload_n 1, 1) := by decide +kernel
theorem dX5_set_70 : decode cX5_set 70 = .ok (.imul, 1) := by decide +kernel
theorem dX5_set_71 : decode cX5_set 71 = .ok (.iadd, 1) := by decide +kernel
theorem dX5_set_72 : decode cX5_set 72 = .ok (.iload_n 3, 1) := by decide +kernel
theorem dX5_set_73 : decode cX5_set 73 = .ok (.iadd, 1) := by decide +kernel
theorem dX5_set_74 : decode cX5_set 74 = .ok (.iload 5, 2) := by decide +kernel
theorem dX5_set_76 : decode cX5_set 76 = .ok (.bipush 10, 2) := by decide +kernel
theorem dX5_set_78 : decode cX5_set 78 = .ok (.iadd, 1) := by decide +kernel
theorem dX5_set_79 : decode cX5_set 79 = .ok (.iastore, 1) := by decide +kernel
theorem dX5_set_80 : decode cX5_set 80 = .ok (.iload 5, 2) := by decide +kernel
theorem dX5_set_82 : decode cX5_set 82 = .ok (.bipush 9, 2) := by decide +kernel
theorem dX5_set_84 : decode cX5_set 84 = .ok (.iadd, 1) := by decide +kernel
theorem dX5_set_85 : decode cX5_set 85 = .ok (.ireturn, 1) := by decide +kernel
theorem dX5_erase_0 : decode cX5_erase 0 = .ok (.aload_n 0, 1) := by decide +kernel
theorem dX5_erase_1 : decode cX5_erase 1 = .ok (.iload_n 1, 1) := by decide +kernel
theorem dX5_erase_2 : decode cX5_erase 2 = .ok (.invokevirtual 137, 3) := by decide +kernel
theorem dX5_erase_5 : decode cX5_erase 5 = .ok (.ifCond .eq 18, 3) := by decide +kernel
theorem dX5_erase_8 : decode cX5_erase 8 = .ok (.aload_n 0, 1) := by decide +kernel
theorem dX5_erase_9 : decode cX5_erase 9 = .ok (.iload_n 2, 1) := by decide +kernel
theorem dX5_erase_10 : decode cX5_erase 10 = .ok (.invokevirtual 131, 3) := by decide +kernel
theorem dX5_erase_13 : decode cX5_erase 13 = .ok (.ifCond .eq 10, 3) := by decide +kernel
theorem dX5_erase_16 : decode cX5_erase 16 = .ok (.iload_n 3, 1) := by decide +kernel
theorem dX5_erase_17 : decode cX5_erase 17 = .ok (.invokestatic 134, 3) := by decide +kernel
theorem dX5_erase_20 : decode cX5_erase 20 = .ok (.ifCond .ne 5, 3) := by decide +kernel
theorem dX5_erase_23 : decode cX5_erase 23 = .ok (.iconst (-1), 1) := by decide +kernel
theorem dX5_erase_24 : decode cX5_erase 24 = .ok (.ireturn, 1) := by decide +kernel
theorem dX5_erase_25 : decode cX5_erase 25 = .ok (.aload_n 0, 1) := by decide +kernel
theorem dX5_erase_26 : decode cX5_erase 26 = .ok (.getfield 13, 3) := by decide +kernel
theorem dX5_erase_29 : decode cX5_erase 29 = .ok (.bipush 36, 2) := by decide +kernel
theorem dX5_erase_31 : decode cX5_erase 31 = .ok (.iconst 5, 1) := by decide +kernel
theorem dX5_erase_32 : decode cX5_erase 32 = .ok (.iload_n 1, 1) := by decide +kernel
theorem dX5_erase_33 : decode cX5_erase 33 = .ok (.imul, 1) := by decide +kernel
theorem dX5_erase_34 : decode cX5_erase 34 = .ok (.iadd, 1) := by decide +kernel
theorem dX5_erase_35 : decode cX5_erase 35 = .ok (.iload_n 3, 1) := by decide +kernel
theorem dX5_erase_36 : decode cX5_erase 36 = .ok (.iadd, 1) := by decide +kernel
theorem dX5_erase_37 : decode cX5_erase 37 = .ok (.iaload, 1) := by decide +kernel
theorem dX5_erase_38 : decode cX5_erase 38 = .ok (.istore 4, 2) := by decide +kernel
theorem dX5_erase_40 : decode cX5_erase 40 = .ok (.iload 4, 2) := by decide +kernel
theorem dX5_erase_42 : decode cX5_erase 42 = .ok (.ifCond .ne 6, 3) := by decide +kernel
theorem dX5_erase_45 : decode cX5_erase 45 = .ok (.bipush (-2), 2) := by decide +kernel
theorem dX5_erase_47 : decode cX5_erase 47 = .ok (.ireturn, 1) := by decide +kernel
theorem dX5_erase_48 : decode cX5_erase 48 = .ok (.aload_n 0, 1) := by decide +kernel
theorem dX5_erase_49 : decode cX5_erase 49 = .ok (.invokevirtual 150, 3) := by decide +kernel
theorem dX5_erase_52 : decode cX5_erase 52 = .ok (.aload_n 0, 1) := by decide +kernel
theorem dX5_erase_53 : decode cX5_erase 53 = .ok (.getfield 13, 3) := by decide +kernel
theorem dX5_erase_56 : decode cX5_erase 56 = .ok (.bipush 36, 2) := by decide +kernel
theorem dX5_erase_58 : decode cX5_erase 58 = .ok (.iconst 5, 1) := by decide +kernel
theorem dX5_erase_59 : decode cX5_erase 59 = .ok (.iload_n 1, 1) := by decide +kernel
theorem dX5_erase_60 : decode cX5_erase 60 = .ok (.imul, 1) := by decide +kernel
theorem dX5_erase_61 : decode cX5_erase 61 = .ok (.iadd, 1) := by decide +kernel
theorem dX5_erase_62 : decode cX5_erase 62 = .ok (.iload_n 3, 1) := by decide +kernel
theorem dX5_erase_63 : decode cX5_erase 63 = .ok (.iadd, 1) := by decide +kernel
theorem dX5_erase_64 : decode cX5_erase 64 = .ok (.aload_n 0, 1) := by decide +kernel
theorem dX5_erase_65 : decode cX5_erase 65 = .ok (.getfield 13, 3) := by decide +kernel
theorem dX5_erase_68 : decode cX5_erase 68 = .ok (.bipush 6, 2) := by decide +kernel
theorem dX5_erase_70 : decode cX5_erase 70 = .ok (.iconst 5, 1) := by decide +kernel
theorem dX5_erase_71 : decode cX5_erase 71 = .ok (.iload_n 2, 1) := by decide +kernel
theorem dX5_erase_72 : decode cX5_erase 72 = .ok (.imul, 1) := by decide +kernel
theorem dX5_erase_73 : decode cX5_erase 73 = .ok (.iadd, 1) := by decide +kernel
theorem dX5_erase_74 : decode cX5_erase 74 = .ok (.iload_n 3, 1) := by decide +kernel
theorem dX5_erase_75 : decode cX5_erase 75 = .ok (.iadd, 1) := by decide +kernel
theorem dX5_erase_76 : decode cX5_erase 76 = .ok (.iaload, 1) := by decide +kernel
theorem dX5_erase_77 : decode cX5_erase 77 = .ok (.bipush 10, 2) := by decide +kernel
theorem dX5_erase_79 : decode cX5_erase 79 = .ok (.iadd, 1) := by decide +kernel
theorem dX5_erase_80 : decode cX5_erase 80 = .ok (.iastore, 1) := by decide +kernel
theorem dX5_erase_81 : decode cX5_erase 81 = .ok (.iload 4, 2) := by decide +kernel
theorem dX5_erase_83 : decode cX5_erase 83 = .ok (.invokestatic 140, 3) := by decide +kernel
theorem dX5_erase_86 : decode cX5_erase 86 = .ok (.ireturn, 1) := by decide +kernel
theorem dX5_filled_0 : decode cX5_filled 0 = .ok (.iconst 0, 1) := by decide +kernel
theorem dX5_filled_1 : decode cX5_filled 1 = .ok (.istore_n 2, 1) := by decide +kernel
theorem dX5_filled_2 : decode cX5_filled 2 = .ok (.iconst 0, 1) := by decide +kernel
theorem dX5_filled_3 : decode cX5_filled 3 = .ok (.istore_n 3, 1) := by decide +kernel
theorem dX5_filled_4 : decode cX5_filled 4 = .ok (.iload_n 3, 1) := by decide +kernel
theorem dX5_filled_5 : decode cX5_filled 5 = .ok (.iconst 5, 1) := by decide +kernel
theorem dX5_filled_6 : decode cX5_filled 6 = .ok (.if_icmp .ge 33, 3) := by decide +kernel
theorem dX5_filled_9 : decode cX5_filled 9 = .ok (.iload_n 2, 1) := by decide +kernel
theorem dX5_filled_10 : decode cX5_filled 10 = .ok (.aload_n 0, 1) := by decide +kernel
theorem dX5_filled_11 : decode cX5_filled 11 = .ok (.getfield 37, 3) := by decide +kernel
theorem dX5_filled_14 : decode cX5_filled 14 = .ok (.bipush 36, 2) := by decide +kernel
theorem dX5_filled_16 : decode cX5_filled 16 = .ok (.iconst 5, 1) := by decide +kernel
theorem dX5_filled_17 : decode cX5_filled 17 = .ok (.iload_n 1, 1) := by decide +kernel
theorem dX5_filled_18 : decode cX5_filled 18 = .ok (.imul, 1) := by decide +kernel
theorem dX5_filled_19 : decode cX5_filled 19 = .ok (.iadd, 1) := by decide +kernel
theorem dX5_filled_20 : decode cX5_filled 20 = .ok (.iload_n 3, 1) := by decide +kernel
theorem dX5_filled_21 : decode cX5_filled 21 = .ok (.iadd, 1) := by decide +kernel
theorem dX5_filled_22 : decode cX5_filled 22 = .ok (.iaload, 1) := by decide +kernel
theorem dX5_filled_23 : decode cX5_filled 23 = .ok (.ifCond .ne 7, 3) := by decide +kernel
theorem dX5_filled_26 : decode cX5_filled 26 = .ok (.iconst 0, 1) := by decide +kernel
theorem dX5_filled_27 : decode cX5_filled 27 = .ok (.goto 4, 3) := by decide +kernel
theorem dX5_filled_30 : decode cX5_filled 30 = .ok (.iconst 1, 1) := by decide +kernel
theorem dX5_filled_31 : decode cX5_filled 31 = .ok (.iadd, 1) := by decide +kernel
theorem dX5_filled_32 : decode cX5_filled 32 = .ok (.istore_n 2, 1) := by decide +kernel
theorem dX5_filled_33 : decode cX5_filled 33 = .ok (.iinc 3 1, 3) := by decide +kernel
theorem dX5_filled_36 : decode cX5_filled 36 = .ok (.goto (-32), 3) := by decide +kernel
theorem dX5_filled_39 : decode cX5_filled 39 = .ok (.iload_n 2, 1) := by decide +kernel
theorem dX5_filled_40 : decode cX5_filled 40 = .ok (.ireturn, 1) := by decide +kernel
theorem dX5_copy_0 : decode cX5_copy 0 = .ok (.aload_n 0, 1) := by decide +kernel
theorem dX5_copy_1 : decode cX5_copy 1 = .ok (.iload_n 1, 1) := by decide +kernel
theorem dX5_copy_2 : decode cX5_copy 2 = .ok (.invokevirtual 137, 3) := by decide +kernel
theorem dX5_copy_5 : decode cX5_copy 5 = .ok (.ifCond .eq 24, 3) := by decide +kernel
theorem dX5_copy_8 : decode cX5_copy 8 = .ok (.aload_n 0, 1) := by decide +kernel
theorem dX5_copy_9 : decode cX5_copy 9 = .ok (.iload_n 2, 1) := by decide +kernel
theorem dX5_copy_10 : decode cX5_copy 10 = .ok (.invokevirtual 137, 3) := by decide +kernel
theorem dX5_copy_13 : decode cX5_copy 13 = .ok (.ifCond .eq 16, 3) := by decide +kernel
theorem dX5_copy_16 : decode cX5_copy 16 = .ok (.iload_n 1, 1) := by decide +kernel
theorem dX5_copy_17 : decode cX5_copy 17 = .ok (.iload_n 2, 1) := by decide +kernel
theorem dX5_copy_18 : decode cX5_copy 18 = .ok (.if_icmp .eq 11, 3) := by decide +kernel
theorem dX5_copy_21 : decode cX5_copy 21 = .ok (.aload_n 0, 1) := by decide +kernel
theorem dX5_copy_22 : decode cX5_copy 22 = .ok (.iload_n 3, 1) := by decide +kernel
theorem dX5_copy_23 : decode cX5_copy 23 = .ok (.invokevirtual 131, 3) := by decide +kernel
theorem dX5_copy_26 : decode cX5_copy 26 = .ok (.ifCond .ne 5, 3) := by decide +kernel
theorem dX5_copy_29 : decode cX5_copy 29 = .ok (.iconst (-1), 1) := by decide +kernel
theorem dX5_copy_30 : decode cX5_copy 30 = .ok (.ireturn, 1) := by decide +kernel
theorem dX5_copy_31 : decode cX5_copy 31 = .ok (.aload_n 0, 1) := by decide +kernel
theorem dX5_copy_32 : decode cX5_copy 32 = .ok (.invokevirtual 150, 3) := by decide +kernel
theorem dX5_copy_35 : decode cX5_copy 35 = .ok (.aload_n 0, 1) := by decide +kernel
theorem dX5_copy_36 : decode cX5_copy 36 = .ok (.invokevirtual 143, 3) := by decide +kernel
theorem dX5_copy_39 : decode cX5_copy 39 = .ok (.aload_n 0, 1) := by decide +kernel
theorem dX5_copy_40 : decode cX5_copy 40 = .ok (.iload_n 1, 1) := by decide +kernel
theorem dX5_copy_41 : decode cX5_copy 41 = .ok (.iload_n 2, 1) := by decide +kernel
theorem dX5_copy_42 : decode cX5_copy 42 = .ok (.iload_n 3, 1) := by decide +kernel
theorem dX5_copy_43 : decode cX5_copy 43 = .ok (.invokevirtual 153, 3) := by decide +kernel
theorem dX5_copy_46 : decode cX5_copy 46 = .ok (.aload_n 0, 1) := by decide +kernel
theorem dX5_copy_47 : decode cX5_copy 47 = .ok (.getfield 13, 3) := by decide +kernel
theorem dX5_copy_50 : decode cX5_copy 50 = .ok (.iconst 0, 1) := by decide +kernel
theorem dX5_copy_51 : decode cX5_copy 51 = .ok (.aload_n 0, 1) := by decide +kernel
theorem dX5_copy_52 : decode cX5_copy 52 = .ok (.getfield 37, 3) := by decide +kernel
theorem dX5_copy_55 : decode cX5_copy 55 = .ok (.iconst 0, 1) := by decide +kernel
theorem dX5_copy_56 : decode cX5_copy 56 = .ok (.invokestatic 107, 3) := by decide +kernel
theorem dX5_copy_59 : decode cX5_copy 59 = .ok (.aload_n 0, 1) := by decide +kernel
theorem dX5_copy_60 : decode cX5_copy 60 = .ok (.iload_n 2, 1) := by decide +kernel
theorem dX5_copy_61 : decode cX5_copy 61 = .ok (.invokevirtual 157, 3) := by decide +kernel
theorem dX5_copy_64 : decode cX5_copy 64 = .ok (.ireturn, 1) := by decide +kernel
theorem dX5_think_0 : decode cX5_think 0 = .ok (.aload_n 0, 1) := by decide +kernel
theorem dX5_think_1 : decode cX5_think 1 = .ok (.iload_n 1, 1) := by decide +kernel
theorem dX5_think_2 : decode cX5_think 2 = .ok (.invokevirtual 131, 3) := by decide +kernel
theorem dX5_think_5 : decode cX5_think 5 = .ok (.ifCond .eq 20, 3) := by decide +kernel
theorem dX5_think_8 : decode cX5_think 8 = .ok (.iload_n 2, 1) := by decide +kernel
theorem dX5_think_9 : decode cX5_think 9 = .ok (.invokestatic 134, 3) := by decide +kernel
theorem dX5_think_12 : decode cX5_think 12 = .ok (.ifCond .eq 13, 3) := by decide +kernel
theorem dX5_think_15 : decode cX5_think 15 = .ok (.iload_n 3, 1) := by decide +kernel
theorem dX5_think_16 : decode cX5_think 16 = .ok (.iconst 0, 1) := by decide +kernel
theorem dX5_think_17 : decode cX5_think 17 = .ok (.bipush 18, 2) := by decide +kernel
theorem dX5_think_19 : decode cX5_think 19 = .ok (.invokestatic 63, 3) := by decide +kernel
theorem dX5_think_22 : decode cX5_think 22 = .ok (.ifCond .ne 5, 3) := by decide +kernel
theorem dX5_think_25 : decode cX5_think 25 = .ok (.iconst (-1), 1) := by decide +kernel
theorem dX5_think_26 : decode cX5_think 26 = .ok (.ireturn, 1) := by decide +kernel
theorem dX5_think_27 : decode cX5_think 27 = .ok (.aload_n 0, 1) := by decide +kernel
theorem dX5_think_28 : decode cX5_think 28 = .ok (.invokevirtual 150, 3) := by decide +kernel
theorem dX5_think_31 : decode cX5_think 31 = .ok (.aload_n 0, 1) := by decide +kernel
theorem dX5_think_32 : decode cX5_think 32 = .ok (.getfield 13, 3) := by decide +kernel
theorem dX5_think_35 : decode cX5_think 35 = .ok (.bipush 6, 2) := by decide +kernel
theorem dX5_think_37 : decode cX5_think 37 = .ok (.iconst 5, 1) := by decide +kernel
theorem dX5_think_38 : decode cX5_think 38 = .ok (.iload_n 1, 1) := by decide +kernel
theorem dX5_think_39 : decode cX5_think 39 = .ok (.imul, 1) := by decide +kernel
theorem dX5_think_40 : decode cX5_think 40 = .ok (.iadd, 1) := by decide +kernel
theorem dX5_think_41 : decode cX5_think 41 = .ok (.iload_n 2, 1) := by decide +kernel
theorem dX5_think_42 : decode cX5_think 42 = .ok (.iadd, 1) := by decide +kernel
theorem dX5_think_43 : decode cX5_think 43 = .ok (.iaload, 1) := by decide +kernel
theorem dX5_think_44 : decode cX5_think 44 = .ok (.istore 4, 2) := by decide +kernel
theorem dX5_think_46 : decode cX5_think 46 = .ok (.aload_n 0, 1) := by decide +kernel
theorem dX5_think_47 : decode cX5_think 47 = .ok (.getfield 13, 3) := by decide +kernel
theorem dX5_think_50 : decode cX5_think 50 = .ok (.bipush 6, 2) := by decide +kernel
theorem dX5_think_52 : decode cX5_think 52 = .ok (.iconst 5, 1) := by decide +kernel
theorem dX5_think_53 : decode cX5_think 53 = .ok (.iload_n 1, 1) := by decide +kernel
theorem dX5_think_54 : decode cX5_think 54 = .ok (.imul, 1) := by decide +kernel
theorem dX5_think_55 : decode cX5_think 55 = .ok (.iadd, 1) := by decide +kernel
theorem dX5_think_56 : decode cX5_think 56 = .ok (.iload_n 2, 1) := by decide +kernel
theorem dX5_think_57 : decode cX5_think 57 = .ok (.iadd, 1) := by decide +kernel
theorem dX5_think_58 : decode cX5_think 58 = .ok (.iload_n 3, 1) := by decide +kernel
theorem dX5_think_59 : decode cX5_think 59 = .ok (.bipush 9, 2) := by decide +kernel
theorem dX5_think_61 : decode cX5_think 61 = .ok (.isub, 1) := by decide +kernel
theorem dX5_think_62 : decode cX5_think 62 = .ok (.iastore, 1) := by decide +kernel
theorem dX5_think_63 : decode cX5_think 63 = .ok (.iload 4, 2) := by decide +kernel
theorem dX5_think_65 : decode cX5_think 65 = .ok (.bipush 9, 2) := by decide +kernel
theorem dX5_think_67 : decode cX5_think 67 = .ok (.iadd, 1) := by decide +kernel
theorem dX5_think_68 : decode cX5_think 68 = .ok (.ireturn, 1) := by decide +kernel
theorem dX5_mind_0 : decode cX5_mind 0 = .ok (.aload_n 0, 1) := by decide +kernel
theorem dX5_mind_1 : decode cX5_mind 1 = .ok (.iload_n 1, 1) := by decide +kernel
theorem dX5_mind_2 : decode cX5_mind 2 = .ok (.invokevirtual 131, 3) := by decide +kernel
theorem dX5_mind_5 : decode cX5_mind 5 = .ok (.ifCond .eq 11, 3) := by decide +kernel
theorem dX5_mind_8 : decode cX5_mind 8 = .ok (.aload_n 0, 1) := by decide +kernel
theorem dX5_mind_9 : decode cX5_mind 9 = .ok (.iload_n 2, 1) := by decide +kernel
theorem dX5_mind_10 : decode cX5_mind 10 = .ok (.invokevirtual 131, 3) := by decide +kernel
theorem dX5_mind_13 : decode cX5_mind 13 = .ok (.ifCond .ne 5, 3) := by decide +kernel
theorem dX5_mind_16 : decode cX5_mind 16 = .ok (.iconst (-1), 1) := by decide +kernel
theorem dX5_mind_17 : decode cX5_mind 17 = .ok (.ireturn, 1) := by decide +kernel
theorem dX5_mind_18 : decode cX5_mind 18 = .ok (.aload_n 0, 1) := by decide +kernel
theorem dX5_mind_19 : decode cX5_mind 19 = .ok (.invokevirtual 150, 3) := by decide +kernel
theorem dX5_mind_22 : decode cX5_mind 22 = .ok (.aload_n 0, 1) := by decide +kernel
theorem dX5_mind_23 : decode cX5_mind 23 = .ok (.getfield 13, 3) := by decide +kernel
theorem dX5_mind_26 : decode cX5_mind 26 = .ok (.iconst 0, 1) := by decide +kernel
theorem dX5_mind_27 : decode cX5_mind 27 = .ok (.iload_n 1, 1) := by decide +kernel
theorem dX5_mind_28 : decode cX5_mind 28 = .ok (.iadd, 1) := by decide +kernel
theorem dX5_mind_29 : decode cX5_mind 29 = .ok (.iaload, 1) := by decide +kernel
theorem dX5_mind_30 : decode cX5_mind 30 = .ok (.istore_n 3, 1) := by decide +kernel
theorem dX5_mind_31 : decode cX5_mind 31 = .ok (.aload_n 0, 1) := by decide +kernel
theorem dX5_mind_32 : decode cX5_mind 32 = .ok (.getfield 13, 3) := by decide +kernel
theorem dX5_mind_35 : decode cX5_mind 35 = .ok (.iconst 0, 1) := by decide +kernel
theorem dX5_mind_36 : decode cX5_mind 36 = .ok (.iload_n 1, 1) := by decide +kernel
theorem dX5_mind_37 : decode cX5_mind 37 = .ok (.iadd, 1) := by decide +kernel
theorem dX5_mind_38 : decode cX5_mind 38 = .ok (.iload_n 2, 1) := by decide +kernel
theorem dX5_mind_39 : decode cX5_mind 39 = .ok (.iastore, 1) := by decide +kernel
theorem dX5_mind_40 : decode cX5_mind 40 = .ok (.iload_n 3, 1) := by decide +kernel
theorem dX5_mind_41 : decode cX5_mind 41 = .ok (.ireturn, 1) := by decide +kernel
theorem dX5_undo_0 : decode cX5_undo 0 = .ok (.aload_n 0, 1) := by decide +kernel
theorem dX5_undo_1 : decode cX5_undo 1 = .ok (.getfield 111, 3) := by decide +kernel
theorem dX5_undo_4 : decode cX5_undo 4 = .ok (.ifCond .ne 6, 3) := by decide +kernel
theorem dX5_undo_7 : decode cX5_undo 7 = .ok (.bipush (-2), 2) := by decide +kernel
theorem dX5_undo_9 : decode cX5_undo 9 = .ok (.ireturn, 1) := by decide +kernel
theorem dX5_undo_10 : decode cX5_undo 10 = .ok (.aload_n 0, 1) := by decide +kernel
theorem dX5_undo_11 : decode cX5_undo 11 = .ok (.dup, 1) := by decide +kernel
theorem dX5_undo_12 : decode cX5_undo 12 = .ok (.getfield 111, 3) := by decide +kernel
theorem dX5_undo_15 : decode cX5_undo 15 = .ok (.iconst 1, 1) := by decide +kernel
theorem dX5_undo_16 : decode cX5_undo 16 = .ok (.isub, 1) := by decide +kernel
theorem dX5_undo_17 : decode cX5_undo 17 = .ok (.putfield 111, 3) := by decide +kernel
theorem dX5_undo_20 : decode cX5_undo 20 = .ok (.aload_n 0, 1) := by decide +kernel
theorem dX5_undo_21 : decode cX5_undo 21 = .ok (.getfield 13, 3) := by decide +kernel
theorem dX5_undo_24 : decode cX5_undo 24 = .ok (.iconst 0, 1) := by decide +kernel
theorem dX5_undo_25 : decode cX5_undo 25 = .ok (.aload_n 0, 1) := by decide +kernel
theorem dX5_undo_26 : decode cX5_undo 26 = .ok (.getfield 16, 3) := by decide +kernel
theorem dX5_undo_29 : decode cX5_undo 29 = .ok (.bipush 61, 2) := by decide +kernel
theorem dX5_undo_31 : decode cX5_undo 31 = .ok (.aload_n 0, 1) := by decide +kernel
theorem dX5_undo_32 : decode cX5_undo 32 = .ok (.getfield 111, 3) := by decide +kernel
theorem dX5_undo_35 : decode cX5_undo 35 = .ok (.imul, 1) := by decide +kernel
theorem dX5_undo_36 : decode cX5_undo 36 = .ok (.invokestatic 107, 3) := by decide +kernel
theorem dX5_undo_39 : decode cX5_undo 39 = .ok (.aload_n 0, 1) := by decide +kernel
theorem dX5_undo_40 : decode cX5_undo 40 = .ok (.getfield 111, 3) := by decide +kernel
theorem dX5_undo_43 : decode cX5_undo 43 = .ok (.ireturn, 1) := by decide +kernel
theorem dX5_ownOf_0 : decode cX5_ownOf 0 = .ok (.iconst 0, 1) := by decide +kernel
theorem dX5_ownOf_1 : decode cX5_ownOf 1 = .ok (.istore_n 3, 1) := by decide +kernel
theorem dX5_ownOf_2 : decode cX5_ownOf 2 = .ok (.iconst 0, 1) := by decide +kernel
theorem dX5_ownOf_3 : decode cX5_ownOf 3 = .ok (.istore 4, 2) := by decide +kernel
theorem dX5_ownOf_5 : decode cX5_ownOf 5 = .ok (.iload 4, 2) := by decide +kernel
theorem dX5_ownOf_7 : decode cX5_ownOf 7 = .ok (.iconst 5, 1) := by decide +kernel
theorem dX5_ownOf_8 : decode cX5_ownOf 8 = .ok (.if_icmp .ge 54, 3) := by decide +kernel
theorem dX5_ownOf_11 : decode cX5_ownOf 11 = .ok (.iload_n 3, 1) := by decide +kernel
theorem dX5_ownOf_12 : decode cX5_ownOf 12 = .ok (.aload_n 0, 1) := by decide +kernel
theorem dX5_ownOf_13 : decode cX5_ownOf 13 = .ok (.getfield 13, 3) := by decide +kernel
theorem dX5_ownOf_16 : decode cX5_ownOf 16 = .ok (.bipush 36, 2) := by decide +kernel
theorem dX5_ownOf_18 : decode cX5_ownOf 18 = .ok (.iconst 5, 1) := by decide +kernel
theorem dX5_ownOf_19 : decode cX5_ownOf 19 = .ok (.iload_n 1, 1) := by decide +kernel
theorem dX5_ownOf_20 : decode cX5_ownOf 20 = .ok (.imul, 1) := by decide +kernel
theorem dX5_ownOf_21 : decode cX5_ownOf 21 = .ok (.iadd, 1) := by decide +kernel
theorem dX5_ownOf_22 : decode cX5_ownOf 22 = .ok (.iload 4, 2) := by decide +kernel
theorem dX5_ownOf_24 : decode cX5_ownOf 24 = .ok (.iadd, 1) := by decide +kernel
theorem dX5_ownOf_25 : decode cX5_ownOf 25 = .ok (.iaload, 1) := by decide +kernel
theorem dX5_ownOf_26 : decode cX5_ownOf 26 = .ok (.aload_n 0, 1) := by decide +kernel
theorem dX5_ownOf_27 : decode cX5_ownOf 27 = .ok (.getfield 13, 3) := by decide +kernel
theorem dX5_ownOf_30 : decode cX5_ownOf 30 = .ok (.bipush 6, 2) := by decide +kernel
theorem dX5_ownOf_32 : decode cX5_ownOf 32 = .ok (.iconst 5, 1) := by decide +kernel
theorem dX5_ownOf_33 : decode cX5_ownOf 33 = .ok (.iload_n 2, 1) := by decide +kernel
theorem dX5_ownOf_34 : decode cX5_ownOf 34 = .ok (.imul, 1) := by decide +kernel
theorem dX5_ownOf_35 : decode cX5_ownOf 35 = .ok (.iadd, 1) := by decide +kernel
theorem dX5_ownOf_36 : decode cX5_ownOf 36 = .ok (.iload 4, 2) := by decide +kernel
theorem dX5_ownOf_38 : decode cX5_ownOf 38 = .ok (.iadd, 1) := by decide +kernel
theorem dX5_ownOf_39 : decode cX5_ownOf 39 = .ok (.iaload, 1) := by decide +kernel
theorem dX5_ownOf_40 : decode cX5_ownOf 40 = .ok (.bipush 10, 2) := by decide +kernel
theorem dX5_ownOf_42 : decode cX5_ownOf 42 = .ok (.iadd, 1) := by decide +kernel
theorem dX5_ownOf_43 : decode cX5_ownOf 43 = .ok (.if_icmp .ne 10, 3) := by decide +kernel
theorem dX5_ownOf_46 : decode cX5_ownOf 46 = .ok (.iconst 1, 1) := by decide +kernel
theorem dX5_ownOf_47 : decode cX5_ownOf 47 = .ok (.iload 4, 2) := by decide +kernel
theorem dX5_ownOf_49 : decode cX5_ownOf 49 = .ok (.ishl, 1) := by decide +kernel
theorem dX5_ownOf_50 : decode cX5_ownOf 50 = .ok (.goto 4, 3) := by decide +kernel
theorem dX5_ownOf_53 : decode cX5_ownOf 53 = .ok (.iconst 0, 1) := by decide +kernel
theorem dX5_ownOf_54 : decode cX5_ownOf 54 = .ok (.ior, 1) := by decide +kernel
theorem dX5_ownOf_55 : decode cX5_ownOf 55 = .ok (.istore_n 3, 1) := by decide +kernel
theorem dX5_ownOf_56 : decode cX5_ownOf 56 = .ok (.iinc 4 1, 3) := by decide +kernel
theorem dX5_ownOf_59 : decode cX5_ownOf 59 = .ok (.goto (-54), 3) := by decide +kernel
theorem dX5_ownOf_62 : decode cX5_ownOf 62 = .ok (.iload_n 3, 1) := by decide +kernel
theorem dX5_ownOf_63 : decode cX5_ownOf 63 = .ok (.ireturn, 1) := by decide +kernel
theorem dX5_own_0 : decode cX5_own 0 = .ok (.aload_n 0, 1) := by decide +kernel
theorem dX5_own_1 : decode cX5_own 1 = .ok (.iload_n 1, 1) := by decide +kernel
theorem dX5_own_2 : decode cX5_own 2 = .ok (.invokevirtual 137, 3) := by decide +kernel
theorem dX5_own_5 : decode cX5_own 5 = .ok (.ifCond .eq 20, 3) := by decide +kernel
theorem dX5_own_8 : decode cX5_own 8 = .ok (.aload_n 0, 1) := by decide +kernel
theorem dX5_own_9 : decode cX5_own 9 = .ok (.iload_n 2, 1) := by decide +kernel
theorem dX5_own_10 : decode cX5_own 10 = .ok (.invokevirtual 131, 3) := by decide +kernel
theorem dX5_own_13 : decode cX5_own 13 = .ok (.ifCond .eq 12, 3) := by decide +kernel
theorem dX5_own_16 : decode cX5_own 16 = .ok (.aload_n 0, 1) := by decide +kernel
theorem dX5_own_17 : decode cX5_own 17 = .ok (.iload_n 1, 1) := by decide +kernel
theorem dX5_own_18 : decode cX5_own 18 = .ok (.iload_n 2, 1) := by decide +kernel
theorem dX5_own_19 : decode cX5_own 19 = .ok (.invokevirtual 160, 3) := by decide +kernel
theorem dX5_own_22 : decode cX5_own 22 = .ok (.goto 4, 3) := by decide +kernel
theorem dX5_own_25 : decode cX5_own 25 = .ok (.iconst (-1), 1) := by decide +kernel
theorem dX5_own_26 : decode cX5_own 26 = .ok (.ireturn, 1) := by decide +kernel
theorem dX5_tears_0 : decode cX5_tears 0 = .ok (.aload_n 0, 1) := by decide +kernel
theorem dX5_tears_1 : decode cX5_tears 1 = .ok (.iload_n 1, 1) := by decide +kernel
theorem dX5_tears_2 : decode cX5_tears 2 = .ok (.invokevirtual 131, 3) := by decide +kernel
theorem dX5_tears_5 : decode cX5_tears 5 = .ok (.ifCond .eq 20, 3) := by decide +kernel
theorem dX5_tears_8 : decode cX5_tears 8 = .ok (.iload_n 2, 1) := by decide +kernel
theorem dX5_tears_9 : decode cX5_tears 9 = .ok (.invokestatic 134, 3) := by decide +kernel
theorem dX5_tears_12 : decode cX5_tears 12 = .ok (.ifCond .eq 13, 3) := by decide +kernel
theorem dX5_tears_15 : decode cX5_tears 15 = .ok (.iload_n 3, 1) := by decide +kernel
theorem dX5_tears_16 : decode cX5_tears 16 = .ok (.iconst 0, 1) := by decide +kernel
theorem dX5_tears_17 : decode cX5_tears 17 = .ok (.bipush 18, 2) := by decide +kernel
theorem dX5_tears_19 : decode cX5_tears 19 = .ok (.invokestatic 63, 3) := by decide +kernel
theorem dX5_tears_22 : decode cX5_tears 22 = .ok (.ifCond .ne 5, 3) := by decide +kernel
theorem dX5_tears_25 : decode cX5_tears 25 = .ok (.iconst (-1), 1) := by decide +kernel
theorem dX5_tears_26 : decode cX5_tears 26 = .ok (.ireturn, 1) := by decide +kernel
theorem dX5_tears_27 : decode cX5_tears 27 = .ok (.aload_n 0, 1) := by decide +kernel
theorem dX5_tears_28 : decode cX5_tears 28 = .ok (.invokevirtual 143, 3) := by decide +kernel
theorem dX5_tears_31 : decode cX5_tears 31 = .ok (.iconst 0, 1) := by decide +kernel
theorem dX5_tears_32 : decode cX5_tears 32 = .ok (.istore 4, 2) := by decide +kernel
theorem dX5_tears_34 : decode cX5_tears 34 = .ok (.iload 4, 2) := by decide +kernel
theorem dX5_tears_36 : decode cX5_tears 36 = .ok (.bipush 10, 2) := by decide +kernel
theorem dX5_tears_38 : decode cX5_tears 38 = .ok (.if_icmp .gt 35, 3) := by decide +kernel
theorem dX5_tears_41 : decode cX5_tears 41 = .ok (.aload_n 0, 1) := by decide +kernel
theorem dX5_tears_42 : decode cX5_tears 42 = .ok (.iload_n 1, 1) := by decide +kernel
theorem dX5_tears_43 : decode cX5_tears 43 = .ok (.aload_n 0, 1) := by decide +kernel
theorem dX5_tears_44 : decode cX5_tears 44 = .ok (.getfield 37, 3) := by decide +kernel
theorem dX5_tears_47 : decode cX5_tears 47 = .ok (.iconst 0, 1) := by decide +kernel
theorem dX5_tears_48 : decode cX5_tears 48 = .ok (.iload_n 1, 1) := by decide +kernel
theorem dX5_tears_49 : decode cX5_tears 49 = .ok (.iadd, 1) := by decide +kernel
theorem dX5_tears_50 : decode cX5_tears 50 = .ok (.iaload, 1) := by decide +kernel
theorem dX5_tears_51 : decode cX5_tears 51 = .ok (.iload_n 2, 1) := by decide +kernel
theorem dX5_tears_52 : decode cX5_tears 52 = .ok (.iload 4, 2) := by decide +kernel
theorem dX5_tears_54 : decode cX5_tears 54 = .ok (.invokevirtual 146, 3) := by decide +kernel
theorem dX5_tears_57 : decode cX5_tears 57 = .ok (.iload_n 3, 1) := by decide +kernel
theorem dX5_tears_58 : decode cX5_tears 58 = .ok (.bipush 9, 2) := by decide +kernel
theorem dX5_tears_60 : decode cX5_tears 60 = .ok (.isub, 1) := by decide +kernel
theorem dX5_tears_61 : decode cX5_tears 61 = .ok (.if_icmp .ne 6, 3) := by decide +kernel
theorem dX5_tears_64 : decode cX5_tears 64 = .ok (.iload 4, 2) := by decide +kernel
theorem dX5_tears_66 : decode cX5_tears 66 = .ok (.ireturn, 1) := by decide +kernel
theorem dX5_tears_67 : decode cX5_tears 67 = .ok (.iinc 4 1, 3) := by decide +kernel
theorem dX5_tears_70 : decode cX5_tears 70 = .ok (.goto (-36), 3) := by decide +kernel
theorem dX5_tears_73 : decode cX5_tears 73 = .ok (.bipush (-4), 2) := by decide +kernel
theorem dX5_tears_75 : decode cX5_tears 75 = .ok (.ireturn, 1) := by decide +kernel
theorem dX5_whom_0 : decode cX5_whom 0 = .ok (.aload_n 0, 1) := by decide +kernel
theorem dX5_whom_1 : decode cX5_whom 1 = .ok (.iload_n 1, 1) := by decide +kernel
theorem dX5_whom_2 : decode cX5_whom 2 = .ok (.invokevirtual 131, 3) := by decide +kernel
theorem dX5_whom_5 : decode cX5_whom 5 = .ok (.ifCond .eq 20, 3) := by decide +kernel
theorem dX5_whom_8 : decode cX5_whom 8 = .ok (.iload_n 2, 1) := by decide +kernel
theorem dX5_whom_9 : decode cX5_whom 9 = .ok (.invokestatic 134, 3) := by decide +kernel
theorem dX5_whom_12 : decode cX5_whom 12 = .ok (.ifCond .eq 13, 3) := by decide +kernel
theorem dX5_whom_15 : decode cX5_whom 15 = .ok (.iload_n 3, 1) := by decide +kernel
theorem dX5_whom_16 : decode cX5_whom 16 = .ok (.iconst 0, 1) := by decide +kernel
theorem dX5_whom_17 : decode cX5_whom 17 = .ok (.bipush 18, 2) := by decide +kernel
theorem dX5_whom_19 : decode cX5_whom 19 = .ok (.invokestatic 63, 3) := by decide +kernel
theorem dX5_whom_22 : decode cX5_whom 22 = .ok (.ifCond .ne 5, 3) := by decide +kernel
theorem dX5_whom_25 : decode cX5_whom 25 = .ok (.iconst (-1), 1) := by decide +kernel
theorem dX5_whom_26 : decode cX5_whom 26 = .ok (.ireturn, 1) := by decide +kernel
theorem dX5_whom_27 : decode cX5_whom 27 = .ok (.aload_n 0, 1) := by decide +kernel
theorem dX5_whom_28 : decode cX5_whom 28 = .ok (.invokevirtual 143, 3) := by decide +kernel
theorem dX5_whom_31 : decode cX5_whom 31 = .ok (.iconst 0, 1) := by decide +kernel
theorem dX5_whom_32 : decode cX5_whom 32 = .ok (.istore 4, 2) := by decide +kernel
theorem dX5_whom_34 : decode cX5_whom 34 = .ok (.iload 4, 2) := by decide +kernel
theorem dX5_whom_36 : decode cX5_whom 36 = .ok (.aload_n 0, 1) := by decide +kernel
theorem dX5_whom_37 : decode cX5_whom 37 = .ok (.getfield 60, 3) := by decide +kernel
theorem dX5_whom_40 : decode cX5_whom 40 = .ok (.if_icmp .ge 34, 3) := by decide +kernel
theorem dX5_whom_43 : decode cX5_whom 43 = .ok (.iload 4, 2) := by decide +kernel
theorem dX5_whom_45 : decode cX5_whom 45 = .ok (.iload_n 1, 1) := by decide +kernel
theorem dX5_whom_46 : decode cX5_whom 46 = .ok (.if_icmp .eq 22, 3) := by decide +kernel
theorem dX5_whom_49 : decode cX5_whom 49 = .ok (.aload_n 0, 1) := by decide +kernel
theorem dX5_whom_50 : decode cX5_whom 50 = .ok (.iload_n 1, 1) := by decide +kernel
theorem dX5_whom_51 : decode cX5_whom 51 = .ok (.iload 4, 2) := by decide +kernel
theorem dX5_whom_53 : decode cX5_whom 53 = .ok (.iload_n 2, 1) := by decide +kernel
theorem dX5_whom_54 : decode cX5_whom 54 = .ok (.iconst 0, 1) := by decide +kernel
theorem dX5_whom_55 : decode cX5_whom 55 = .ok (.invokevirtual 146, 3) := by decide +kernel
theorem dX5_whom_58 : decode cX5_whom 58 = .ok (.iload_n 3, 1) := by decide +kernel
theorem dX5_whom_59 : decode cX5_whom 59 = .ok (.bipush 9, 2) := by decide +kernel
theorem dX5_whom_61 : decode cX5_whom 61 = .ok (.isub, 1) := by decide +kernel
theorem dX5_whom_62 : decode cX5_whom 62 = .ok (.if_icmp .ne 6, 3) := by decide +kernel
theorem dX5_whom_65 : decode cX5_whom 65 = .ok (.iload 4, 2) := by decide +kernel
theorem dX5_whom_67 : decode cX5_whom 67 = .ok (.ireturn, 1) := by decide +kernel
theorem dX5_whom_68 : decode cX5_whom 68 = .ok (.iinc 4 1, 3) := by decide +kernel
theorem dX5_whom_71 : decode cX5_whom 71 = .ok (.goto (-37), 3) := by decide +kernel
theorem dX5_whom_74 : decode cX5_whom 74 = .ok (.bipush (-4), 2) := by decide +kernel
theorem dX5_whom_76 : decode cX5_whom 76 = .ok (.ireturn, 1) := by decide +kernel
theorem dX5_treaty_0 : decode cX5_treaty 0 = .ok (.aload_n 0, 1) := by decide +kernel
theorem dX5_treaty_1 : decode cX5_treaty 1 = .ok (.iload_n 1, 1) := by decide +kernel
theorem dX5_treaty_2 : decode cX5_treaty 2 = .ok (.invokevirtual 131, 3) := by decide +kernel
theorem dX5_treaty_5 : decode cX5_treaty 5 = .ok (.ifCond .eq 26, 3) := by decide +kernel
theorem dX5_treaty_8 : decode cX5_treaty 8 = .ok (.aload_n 0, 1) := by decide +kernel
theorem dX5_treaty_9 : decode cX5_treaty 9 = .ok (.iload_n 2, 1) := by decide +kernel
theorem dX5_treaty_10 : decode cX5_treaty 10 = .ok (.invokevirtual 131, 3) := by decide +kernel
theorem dX5_treaty_13 : decode cX5_treaty 13 = .ok (.ifCond .eq 18, 3) := by decide +kernel
theorem dX5_treaty_16 : decode cX5_treaty 16 = .ok (.iload_n 1, 1) := by decide +kernel
theorem dX5_treaty_17 : decode cX5_treaty 17 = .ok (.iload_n 2, 1) := by decide +kernel
theorem dX5_treaty_18 : decode cX5_treaty 18 = .ok (.if_icmp .eq 13, 3) := by decide +kernel
theorem dX5_treaty_21 : decode cX5_treaty 21 = .ok (.iload_n 3, 1) := by decide +kernel
theorem dX5_treaty_22 : decode cX5_treaty 22 = .ok (.iconst 0, 1) := by decide +kernel
theorem dX5_treaty_23 : decode cX5_treaty 23 = .ok (.bipush 10, 2) := by decide +kernel
theorem dX5_treaty_25 : decode cX5_treaty 25 = .ok (.invokestatic 63, 3) := by decide +kernel
theorem dX5_treaty_28 : decode cX5_treaty 28 = .ok (.ifCond .ne 5, 3) := by decide +kernel
theorem dX5_treaty_31 : decode cX5_treaty 31 = .ok (.iconst (-1), 1) := by decide +kernel
theorem dX5_treaty_32 : decode cX5_treaty 32 = .ok (.ireturn, 1) := by decide +kernel
theorem dX5_treaty_33 : decode cX5_treaty 33 = .ok (.aload_n 0, 1) := by decide +kernel
theorem dX5_treaty_34 : decode cX5_treaty 34 = .ok (.invokevirtual 143, 3) := by decide +kernel
theorem dX5_treaty_37 : decode cX5_treaty 37 = .ok (.iconst 0, 1) := by decide +kernel
theorem dX5_treaty_38 : decode cX5_treaty 38 = .ok (.istore 4, 2) := by decide +kernel
theorem dX5_treaty_40 : decode cX5_treaty 40 = .ok (.iconst 0, 1) := by decide +kernel
theorem dX5_treaty_41 : decode cX5_treaty 41 = .ok (.istore 5, 2) := by decide +kernel
theorem dX5_treaty_43 : decode cX5_treaty 43 = .ok (.iload 5, 2) := by decide +kernel
theorem dX5_treaty_45 : decode cX5_treaty 45 = .ok (.iconst 5, 1) := by decide +kernel
theorem dX5_treaty_46 : decode cX5_treaty 46 = .ok (.if_icmp .ge 43, 3) := by decide +kernel
theorem dX5_treaty_49 : decode cX5_treaty 49 = .ok (.iload 4, 2) := by decide +kernel
theorem dX5_treaty_51 : decode cX5_treaty 51 = .ok (.aload_n 0, 1) := by decide +kernel
theorem dX5_treaty_52 : decode cX5_treaty 52 = .ok (.iload_n 1, 1) := by decide +kernel
theorem dX5_treaty_53 : decode cX5_treaty 53 = .ok (.iload_n 2, 1) := by decide +kernel
theorem dX5_treaty_54 : decode cX5_treaty 54 = .ok (.iload 5, 2) := by decide +kernel
theorem dX5_treaty_56 : decode cX5_treaty 56 = .ok (.iload_n 3, 1) := by decide +kernel
theorem dX5_treaty_57 : decode cX5_treaty 57 = .ok (.invokevirtual 146, 3) := by decide +kernel
theorem dX5_treaty_60 : decode cX5_treaty 60 = .ok (.aload_n 0, 1) := by decide +kernel
theorem dX5_treaty_61 : decode cX5_treaty 61 = .ok (.iload_n 2, 1) := by decide +kernel
theorem dX5_treaty_62 : decode cX5_treaty 62 = .ok (.iload_n 1, 1) := by decide +kernel
theorem dX5_treaty_63 : decode cX5_treaty 63 = .ok (.iload 5, 2) := by decide +kernel
theorem dX5_treaty_65 : decode cX5_treaty 65 = .ok (.iload_n 3, 1) := by decide +kernel
theorem dX5_treaty_66 : decode cX5_treaty 66 = .ok (.invokevirtual 146, 3) := by decide +kernel
theorem dX5_treaty_69 : decode cX5_treaty 69 = .ok (.if_icmp .ne 10, 3) := by decide +kernel
theorem dX5_treaty_72 : decode cX5_treaty 72 = .ok (.iconst 1, 1) := by decide +kernel
theorem dX5_treaty_73 : decode cX5_treaty 73 = .ok (.iload 5, 2) := by decide +kernel
theorem dX5_treaty_75 : decode cX5_treaty 75 = .ok (.ishl, 1) := by decide +kernel
theorem dX5_treaty_76 : decode cX5_treaty 76 = .ok (.goto 4, 3) := by decide +kernel
theorem dX5_treaty_79 : decode cX5_treaty 79 = .ok (.iconst 0, 1) := by decide +kernel
theorem dX5_treaty_80 : decode cX5_treaty 80 = .ok (.ior, 1) := by decide +kernel
theorem dX5_treaty_81 : decode cX5_treaty 81 = .ok (.istore 4, 2) := by decide +kernel
theorem dX5_treaty_83 : decode cX5_treaty 83 = .ok (.iinc 5 1, 3) := by decide +kernel
theorem dX5_treaty_86 : decode cX5_treaty 86 = .ok (.goto (-43), 3) := by decide +kernel
theorem dX5_treaty_89 : decode cX5_treaty 89 = .ok (.iload 4, 2) := by decide +kernel
theorem dX5_treaty_91 : decode cX5_treaty 91 = .ok (.ireturn, 1) := by decide +kernel
theorem dX5_round_0 : decode cX5_round 0 = .ok (.aload_n 0, 1) := by decide +kernel
theorem dX5_round_1 : decode cX5_round 1 = .ok (.iload_n 1, 1) := by decide +kernel
theorem dX5_round_2 : decode cX5_round 2 = .ok (.invokevirtual 137, 3) := by decide +kernel
theorem dX5_round_5 : decode cX5_round 5 = .ok (.ifCond .eq 20, 3) := by decide +kernel
theorem dX5_round_8 : decode cX5_round 8 = .ok (.iload_n 2, 1) := by decide +kernel
theorem dX5_round_9 : decode cX5_round 9 = .ok (.invokestatic 134, 3) := by decide +kernel
theorem dX5_round_12 : decode cX5_round 12 = .ok (.ifCond .eq 13, 3) := by decide +kernel
theorem dX5_round_15 : decode cX5_round 15 = .ok (.iload_n 3, 1) := by decide +kernel
theorem dX5_round_16 : decode cX5_round 16 = .ok (.iconst 0, 1) := by decide +kernel
theorem dX5_round_17 : decode cX5_round 17 = .ok (.bipush 60, 2) := by decide +kernel
theorem dX5_round_19 : decode cX5_round 19 = .ok (.invokestatic 63, 3) := by decide +kernel
theorem dX5_round_22 : decode cX5_round 22 = .ok (.ifCond .ne 5, 3) := by decide +kernel
theorem dX5_round_25 : decode cX5_round 25 = .ok (.iconst (-1), 1) := by decide +kernel
theorem dX5_round_26 : decode cX5_round 26 = .ok (.ireturn, 1) := by decide +kernel
theorem dX5_round_27 : decode cX5_round 27 = .ok (.aload_n 0, 1) := by decide +kernel
theorem dX5_round_28 : decode cX5_round 28 = .ok (.invokevirtual 143, 3) := by decide +kernel
theorem dX5_round_31 : decode cX5_round 31 = .ok (.iconst 0, 1) := by decide +kernel
theorem dX5_round_32 : decode cX5_round 32 = .ok (.istore 4, 2) := by decide +kernel
theorem dX5_round_34 : decode cX5_round 34 = .ok (.iload 4, 2) := by decide +kernel
theorem dX5_round_36 : decode cX5_round 36 = .ok (.iload_n 3, 1) := by decide +kernel
theorem dX5_round_37 : decode cX5_round 37 = .ok (.if_icmp .ge 22, 3) := by decide +kernel
theorem dX5_round_40 : decode cX5_round 40 = .ok (.aload_n 0, 1) := by decide +kernel
theorem dX5_round_41 : decode cX5_round 41 = .ok (.iload_n 1, 1) := by decide +kernel
theorem dX5_round_42 : decode cX5_round 42 = .ok (.iload_n 1, 1) := by decide +kernel
theorem dX5_round_43 : decode cX5_round 43 = .ok (.iload 4, 2) := by decide +kernel
theorem dX5_round_45 : decode cX5_round 45 = .ok (.aload_n 0, 1) := by decide +kernel
theorem dX5_round_46 : decode cX5_round 46 = .ok (.getfield 60, 3) := by decide +kernel
theorem dX5_round_49 : decode cX5_round 49 = .ok (.irem, 1) := by decide +kernel
theorem dX5_round_50 : decode cX5_round 50 = .ok (.invokevirtual 153, 3) := by decide +kernel
theorem dX5_round_53 : decode cX5_round 53 = .ok (.iinc 4 1, 3) := by decide +kernel
theorem dX5_round_56 : decode cX5_round 56 = .ok (.goto (-22), 3) := by decide +kernel
theorem dX5_round_59 : decode cX5_round 59 = .ok (.aload_n 0, 1) := by decide +kernel
theorem dX5_round_60 : decode cX5_round 60 = .ok (.getfield 37, 3) := by decide +kernel
theorem dX5_round_63 : decode cX5_round 63 = .ok (.bipush 36, 2) := by decide +kernel
theorem dX5_round_65 : decode cX5_round 65 = .ok (.iconst 5, 1) := by decide +kernel
theorem dX5_round_66 : decode cX5_round 66 = .ok (.iload_n 1, 1) := by decide +kernel
theorem dX5_round_67 : decode cX5_round 67 = .ok (.imul, 1) := by decide +kernel
theorem dX5_round_68 : decode cX5_round 68 = .ok (.iadd, 1) := by decide +kernel
theorem dX5_round_69 : decode cX5_round 69 = .ok (.iload_n 2, 1) := by decide +kernel
theorem dX5_round_70 : decode cX5_round 70 = .ok (.iadd, 1) := by decide +kernel
theorem dX5_round_71 : decode cX5_round 71 = .ok (.iaload, 1) := by decide +kernel
theorem dX5_round_72 : decode cX5_round 72 = .ok (.invokestatic 140, 3) := by decide +kernel
theorem dX5_round_75 : decode cX5_round 75 = .ok (.ireturn, 1) := by decide +kernel
theorem dX5_again_0 : decode cX5_again 0 = .ok (.aload_n 0, 1) := by decide +kernel
theorem dX5_again_1 : decode cX5_again 1 = .ok (.iload_n 1, 1) := by decide +kernel
theorem dX5_again_2 : decode cX5_again 2 = .ok (.invokevirtual 137, 3) := by decide +kernel
theorem dX5_again_5 : decode cX5_again 5 = .ok (.ifCond .eq 12, 3) := by decide +kernel
theorem dX5_again_8 : decode cX5_again 8 = .ok (.iload_n 2, 1) := by decide +kernel
theorem dX5_again_9 : decode cX5_again 9 = .ok (.iconst 0, 1) := by decide +kernel
theorem dX5_again_10 : decode cX5_again 10 = .ok (.iconst 1, 1) := by decide +kernel
theorem dX5_again_11 : decode cX5_again 11 = .ok (.invokestatic 63, 3) := by decide +kernel
theorem dX5_again_14 : decode cX5_again 14 = .ok (.ifCond .ne 5, 3) := by decide +kernel
theorem dX5_again_17 : decode cX5_again 17 = .ok (.iconst (-1), 1) := by decide +kernel
theorem dX5_again_18 : decode cX5_again 18 = .ok (.ireturn, 1) := by decide +kernel
theorem dX5_again_19 : decode cX5_again 19 = .ok (.aload_n 0, 1) := by decide +kernel
theorem dX5_again_20 : decode cX5_again 20 = .ok (.invokevirtual 143, 3) := by decide +kernel
theorem dX5_again_23 : decode cX5_again 23 = .ok (.iconst 0, 1) := by decide +kernel
theorem dX5_again_24 : decode cX5_again 24 = .ok (.istore_n 3, 1) := by decide +kernel
theorem dX5_again_25 : decode cX5_again 25 = .ok (.iload_n 3, 1) := by decide +kernel
theorem dX5_again_26 : decode cX5_again 26 = .ok (.bipush 40, 2) := by decide +kernel
theorem dX5_again_28 : decode cX5_again 28 = .ok (.if_icmp .gt 75, 3) := by decide +kernel
theorem dX5_again_31 : decode cX5_again 31 = .ok (.iconst 0, 1) := by decide +kernel
theorem dX5_again_32 : decode cX5_again 32 = .ok (.istore 4, 2) := by decide +kernel
theorem dX5_again_34 : decode cX5_again 34 = .ok (.iload 4, 2) := by decide +kernel
theorem dX5_again_36 : decode cX5_again 36 = .ok (.iconst 5, 1) := by decide +kernel
theorem dX5_again_37 : decode cX5_again 37 = .ok (.if_icmp .ge 34, 3) := by decide +kernel
theorem dX5_again_40 : decode cX5_again 40 = .ok (.aload_n 0, 1) := by decide +kernel
theorem dX5_again_41 : decode cX5_again 41 = .ok (.getfield 40, 3) := by decide +kernel
theorem dX5_again_44 : decode cX5_again 44 = .ok (.iconst 5, 1) := by decide +kernel
theorem dX5_again_45 : decode cX5_again 45 = .ok (.iload_n 3, 1) := by decide +kernel
theorem dX5_again_46 : decode cX5_again 46 = .ok (.imul, 1) := by decide +kernel
theorem dX5_again_47 : decode cX5_again 47 = .ok (.iload 4, 2) := by decide +kernel
theorem dX5_again_49 : decode cX5_again 49 = .ok (.iadd, 1) := by decide +kernel
theorem dX5_again_50 : decode cX5_again 50 = .ok (.aload_n 0, 1) := by decide +kernel
theorem dX5_again_51 : decode cX5_again 51 = .ok (.getfield 37, 3) := by decide +kernel
theorem dX5_again_54 : decode cX5_again 54 = .ok (.bipush 36, 2) := by decide +kernel
theorem dX5_again_56 : decode cX5_again 56 = .ok (.iconst 5, 1) := by decide +kernel
theorem dX5_again_57 : decode cX5_again 57 = .ok (.iload_n 1, 1) := by decide +kernel
theorem dX5_again_58 : decode cX5_again 58 = .ok (.imul, 1) := by decide +kernel
theorem dX5_again_59 : decode cX5_again 59 = .ok (.iadd, 1) := by decide +kernel
theorem dX5_again_60 : decode cX5_again 60 = .ok (.iload 4, 2) := by decide +kernel
theorem dX5_again_62 : decode cX5_again 62 = .ok (.iadd, 1) := by decide +kernel
theorem dX5_again_63 : decode cX5_again 63 = .ok (.iaload, 1) := by decide +kernel
theorem dX5_again_64 : decode cX5_again 64 = .ok (.iastore, 1) := by decide +kernel
theorem dX5_again_65 : decode cX5_again 65 = .ok (.iinc 4 1, 3) := by decide +kernel
theorem dX5_again_68 : decode cX5_again 68 = .ok (.goto (-34), 3) := by decide +kernel
theorem dX5_again_71 : decode cX5_again 71 = .ok (.iconst 0, 1) := by decide +kernel
theorem dX5_again_72 : decode cX5_again 72 = .ok (.istore 4, 2) := by decide +kernel
theorem dX5_again_74 : decode cX5_again 74 = .ok (.iload 4, 2) := by decide +kernel
theorem dX5_again_76 : decode cX5_again 76 = .ok (.aload_n 0, 1) := by decide +kernel
theorem dX5_again_77 : decode cX5_again 77 = .ok (.getfield 60, 3) := by decide +kernel
theorem dX5_again_80 : decode cX5_again 80 = .ok (.if_icmp .ge 17, 3) := by decide +kernel
theorem dX5_again_83 : decode cX5_again 83 = .ok (.aload_n 0, 1) := by decide +kernel
theorem dX5_again_84 : decode cX5_again 84 = .ok (.iload_n 1, 1) := by decide +kernel
theorem dX5_again_85 : decode cX5_again 85 = .ok (.iload_n 1, 1) := by decide +kernel
theorem dX5_again_86 : decode cX5_again 86 = .ok (.iload 4, 2) := by decide +kernel
theorem dX5_again_88 : decode cX5_again 88 = .ok (.invokevirtual 153, 3) := by decide +kernel
theorem dX5_again_91 : decode cX5_again 91 = .ok (.iinc 4 1, 3) := by decide +kernel
theorem dX5_again_94 : decode cX5_again 94 = .ok (.goto (-20), 3) := by decide +kernel
theorem dX5_again_97 : decode cX5_again 97 = .ok (.iinc 3 1, 3) := by decide +kernel
theorem dX5_again_100 : decode cX5_again 100 = .ok (.goto (-75), 3) := by decide +kernel
theorem dX5_again_103 : decode cX5_again 103 = .ok (.iconst 1, 1) := by decide +kernel
theorem dX5_again_104 : decode cX5_again 104 = .ok (.istore_n 3, 1) := by decide +kernel
theorem dX5_again_105 : decode cX5_again 105 = .ok (.iload_n 3, 1) := by decide +kernel
theorem dX5_again_106 : decode cX5_again 106 = .ok (.bipush 40, 2) := by decide +kernel
theorem dX5_again_108 : decode cX5_again 108 = .ok (.if_icmp .gt 96, 3) := by decide +kernel
theorem dX5_again_111 : decode cX5_again 111 = .ok (.iconst 0, 1) := by decide +kernel
theorem dX5_again_112 : decode cX5_again 112 = .ok (.istore 4, 2) := by decide +kernel
theorem dX5_again_114 : decode cX5_again 114 = .ok (.iload 4, 2) := by decide +kernel
theorem dX5_again_116 : decode cX5_again 116 = .ok (.iload_n 3, 1) := by decide +kernel
theorem dX5_again_117 : decode cX5_again 117 = .ok (.if_icmp .ge 81, 3) := by decide +kernel
theorem dX5_again_120 : decode cX5_again 120 = .ok (.iconst 1, 1) := by decide +kernel
theorem dX5_again_121 : decode cX5_again 121 = .ok (.istore 5, 2) := by decide +kernel
theorem dX5_again_123 : decode cX5_again 123 = .ok (.iconst 0, 1) := by decide +kernel
theorem dX5_again_124 : decode cX5_again 124 = .ok (.istore 6, 2) := by decide +kernel
theorem dX5_again_126 : decode cX5_again 126 = .ok (.iload 6, 2) := by decide +kernel
theorem dX5_again_128 : decode cX5_again 128 = .ok (.iconst 5, 1) := by decide +kernel
theorem dX5_again_129 : decode cX5_again 129 = .ok (.if_icmp .ge 47, 3) := by decide +kernel
theorem dX5_again_132 : decode cX5_again 132 = .ok (.iload 5, 2) := by decide +kernel
theorem dX5_again_134 : decode cX5_again 134 = .ok (.ifCond .eq 33, 3) := by decide +kernel
theorem dX5_again_137 : decode cX5_again 137 = .ok (.aload_n 0, 1) := by decide +kernel
theorem dX5_again_138 : decode cX5_again 138 = .ok (.getfield 40, 3) := by decide +kernel
theorem dX5_again_141 : decode cX5_again 141 = .ok (.iconst 5, 1) := by decide +kernel
theorem dX5_again_142 : decode cX5_again 142 = .ok (.iload_n 3, 1) := by decide +kernel
theorem dX5_again_143 : decode cX5_again 143 = .ok (.imul, 1) := by decide +kernel
theorem dX5_again_144 : decode cX5_again 144 = .ok (.iload 6, 2) := by decide +kernel
theorem dX5_again_146 : decode cX5_again 146 = .ok (.iadd, 1) := by decide +kernel
theorem dX5_again_147 : decode cX5_again 147 = .ok (.iaload, 1) := by decide +kernel
theorem dX5_again_148 : decode cX5_again 148 = .ok (.aload_n 0, 1) := by decide +kernel
theorem dX5_again_149 : decode cX5_again 149 = .ok (.getfield 40, 3) := by decide +kernel
theorem dX5_again_152 : decode cX5_again 152 = .ok (.iconst 5, 1) := by decide +kernel
theorem dX5_again_153 : decode cX5_again 153 = .ok (.iload 4, 2) := by decide +kernel
theorem dX5_again_155 : decode cX5_again 155 = .ok (.imul, 1) := by decide +kernel
theorem dX5_again_156 : decode cX5_again 156 = .ok (.iload 6, 2) := by decide +kernel
theorem dX5_again_158 : decode cX5_again 158 = .ok (.iadd, 1) := by decide +kernel
theorem dX5_again_159 : decode cX5_again 159 = .ok (.iaload, 1) := by decide +kernel
theorem dX5_again_160 : decode cX5_again 160 = .ok (.if_icmp .ne 7, 3) := by decide +kernel
theorem dX5_again_163 : decode cX5_again 163 = .ok (.iconst 1, 1) := by decide +kernel
theorem dX5_again_164 : decode cX5_again 164 = .ok (.goto 4, 3) := by decide +kernel
theorem dX5_again_167 : decode cX5_again 167 = .ok (.iconst 0, 1) := by decide +kernel
theorem dX5_again_168 : decode cX5_again 168 = .ok (.istore 5, 2) := by decide +kernel
theorem dX5_again_170 : decode cX5_again 170 = .ok (.iinc 6 1, 3) := by decide +kernel
theorem dX5_again_173 : decode cX5_again 173 = .ok (.goto (-47), 3) := by decide +kernel
theorem dX5_again_176 : decode cX5_again 176 = .ok (.iload 5, 2) := by decide +kernel
theorem dX5_again_178 : decode cX5_again 178 = .ok (.ifCond .eq 14, 3) := by decide +kernel
theorem dX5_again_181 : decode cX5_again 181 = .ok (.iload_n 2, 1) := by decide +kernel
theorem dX5_again_182 : decode cX5_again 182 = .ok (.ifCond .ne 7, 3) := by decide +kernel
theorem dX5_again_185 : decode cX5_again 185 = .ok (.iload_n 3, 1) := by decide +kernel
theorem dX5_again_186 : decode cX5_again 186 = .ok (.goto 5, 3) := by decide +kernel
theorem dX5_again_189 : decode cX5_again 189 = .ok (.iload 4, 2) := by decide +kernel
theorem dX5_again_191 : decode cX5_again 191 = .ok (.ireturn, 1) := by decide +kernel
theorem dX5_again_192 : decode cX5_again 192 = .ok (.iinc 4 1, 3) := by decide +kernel
theorem dX5_again_195 : decode cX5_again 195 = .ok (.goto (-81), 3) := by decide +kernel
theorem dX5_again_198 : decode cX5_again 198 = .ok (.iinc 3 1, 3) := by decide +kernel
theorem dX5_again_201 : decode cX5_again 201 = .ok (.goto (-96), 3) := by decide +kernel
theorem dX5_again_204 : decode cX5_again 204 = .ok (.bipush (-4), 2) := by decide +kernel
theorem dX5_again_206 : decode cX5_again 206 = .ok (.ireturn, 1) := by decide +kernel
theorem dX5_least_0 : decode cX5_least 0 = .ok (.aload_n 0, 1) := by decide +kernel
theorem dX5_least_1 : decode cX5_least 1 = .ok (.iload_n 1, 1) := by decide +kernel
theorem dX5_least_2 : decode cX5_least 2 = .ok (.invokevirtual 137, 3) := by decide +kernel
theorem dX5_least_5 : decode cX5_least 5 = .ok (.ifCond .eq 20, 3) := by decide +kernel
theorem dX5_least_8 : decode cX5_least 8 = .ok (.aload_n 0, 1) := by decide +kernel
theorem dX5_least_9 : decode cX5_least 9 = .ok (.iload_n 2, 1) := by decide +kernel
theorem dX5_least_10 : decode cX5_least 10 = .ok (.invokevirtual 131, 3) := by decide +kernel
theorem dX5_least_13 : decode cX5_least 13 = .ok (.ifCond .eq 12, 3) := by decide +kernel
theorem dX5_least_16 : decode cX5_least 16 = .ok (.iload_n 3, 1) := by decide +kernel
theorem dX5_least_17 : decode cX5_least 17 = .ok (.iconst 0, 1) := by decide +kernel
theorem dX5_least_18 : decode cX5_least 18 = .ok (.iconst 1, 1) := by decide +kernel
theorem dX5_least_19 : decode cX5_least 19 = .ok (.invokestatic 63, 3) := by decide +kernel
theorem dX5_least_22 : decode cX5_least 22 = .ok (.ifCond .ne 5, 3) := by decide +kernel
theorem dX5_least_25 : decode cX5_least 25 = .ok (.iconst (-1), 1) := by decide +kernel
theorem dX5_least_26 : decode cX5_least 26 = .ok (.ireturn, 1) := by decide +kernel
theorem dX5_least_27 : decode cX5_least 27 = .ok (.aload_n 0, 1) := by decide +kernel
theorem dX5_least_28 : decode cX5_least 28 = .ok (.invokevirtual 143, 3) := by decide +kernel
theorem dX5_least_31 : decode cX5_least 31 = .ok (.aload_n 0, 1) := by decide +kernel
theorem dX5_least_32 : decode cX5_least 32 = .ok (.iload_n 1, 1) := by decide +kernel
theorem dX5_least_33 : decode cX5_least 33 = .ok (.invokevirtual 157, 3) := by decide +kernel
theorem dX5_least_36 : decode cX5_least 36 = .ok (.iconst 5, 1) := by decide +kernel
theorem dX5_least_37 : decode cX5_least 37 = .ok (.if_icmp .ge 6, 3) := by decide +kernel
theorem dX5_least_40 : decode cX5_least 40 = .ok (.bipush (-4), 2) := by decide +kernel
theorem dX5_least_42 : decode cX5_least 42 = .ok (.ireturn, 1) := by decide +kernel
theorem dX5_least_43 : decode cX5_least 43 = .ok (.bipush 31, 2) := by decide +kernel
theorem dX5_least_45 : decode cX5_least 45 = .ok (.aload_n 0, 1) := by decide +kernel
theorem dX5_least_46 : decode cX5_least 46 = .ok (.iload_n 1, 1) := by decide +kernel
theorem dX5_least_47 : decode cX5_least 47 = .ok (.iload_n 2, 1) := by decide +kernel
theorem dX5_least_48 : decode cX5_least 48 = .ok (.invokevirtual 160, 3) := by decide +kernel
theorem dX5_least_51 : decode cX5_least 51 = .ok (.iconst (-1), 1) := by decide +kernel
theorem dX5_least_52 : decode cX5_least 52 = .ok (.ixor, 1) := by decide +kernel
theorem dX5_least_53 : decode cX5_least 53 = .ok (.iand, 1) := by decide +kernel
theorem dX5_least_54 : decode cX5_least 54 = .ok (.istore 4, 2) := by decide +kernel
theorem dX5_least_56 : decode cX5_least 56 = .ok (.iconst 0, 1) := by decide +kernel
theorem dX5_least_57 : decode cX5_least 57 = .ok (.istore 5, 2) := by decide +kernel
theorem dX5_least_59 : decode cX5_least 59 = .ok (.iconst 0, 1) := by decide +kernel
theorem dX5_least_60 : decode cX5_least 60 = .ok (.istore 6, 2) := by decide +kernel
theorem dX5_least_62 : decode cX5_least 62 = .ok (.iload 6, 2) := by decide +kernel
theorem dX5_least_64 : decode cX5_least 64 = .ok (.iconst 5, 1) := by decide +kernel
theorem dX5_least_65 : decode cX5_least 65 = .ok (.if_icmp .ge 21, 3) := by decide +kernel
theorem dX5_least_68 : decode cX5_least 68 = .ok (.iload 5, 2) := by decide +kernel
theorem dX5_least_70 : decode cX5_least 70 = .ok (.iload 4, 2) := by decide +kernel
theorem dX5_least_72 : decode cX5_least 72 = .ok (.iload 6, 2) := by decide +kernel
theorem dX5_least_74 : decode cX5_least 74 = .ok (.ishr, 1) := by decide +kernel
theorem dX5_least_75 : decode cX5_least 75 = .ok (.iconst 1, 1) := by decide +kernel
theorem dX5_least_76 : decode cX5_least 76 = .ok (.iand, 1) := by decide +kernel
theorem dX5_least_77 : decode cX5_least 77 = .ok (.iadd, 1) := by decide +kernel
theorem dX5_least_78 : decode cX5_least 78 = .ok (.istore 5, 2) := by decide +kernel
theorem dX5_least_80 : decode cX5_least 80 = .ok (.iinc 6 1, 3) := by decide +kernel
theorem dX5_least_83 : decode cX5_least 83 = .ok (.goto (-21), 3) := by decide +kernel
theorem dX5_least_86 : decode cX5_least 86 = .ok (.iload_n 3, 1) := by decide +kernel
theorem dX5_least_87 : decode cX5_least 87 = .ok (.ifCond .ne 8, 3) := by decide +kernel
theorem dX5_least_90 : decode cX5_least 90 = .ok (.iload 5, 2) := by decide +kernel
theorem dX5_least_92 : decode cX5_least 92 = .ok (.goto 5, 3) := by decide +kernel
theorem dX5_least_95 : decode cX5_least 95 = .ok (.iload 4, 2) := by decide +kernel
theorem dX5_least_97 : decode cX5_least 97 = .ok (.ireturn, 1) := by decide +kernel
theorem dX5_sign_0 : decode cX5_sign 0 = .ok (.iload_n 1, 1) := by decide +kernel
theorem dX5_sign_1 : decode cX5_sign 1 = .ok (.invokestatic 134, 3) := by decide +kernel
theorem dX5_sign_4 : decode cX5_sign 4 = .ok (.ifCond .eq 13, 3) := by decide +kernel
theorem dX5_sign_7 : decode cX5_sign 7 = .ok (.iload_n 2, 1) := by decide +kernel
theorem dX5_sign_8 : decode cX5_sign 8 = .ok (.iconst 0, 1) := by decide +kernel
theorem dX5_sign_9 : decode cX5_sign 9 = .ok (.bipush 18, 2) := by decide +kernel
theorem dX5_sign_11 : decode cX5_sign 11 = .ok (.invokestatic 63, 3) := by decide +kernel
theorem dX5_sign_14 : decode cX5_sign 14 = .ok (.ifCond .ne 5, 3) := by decide +kernel
theorem dX5_sign_17 : decode cX5_sign 17 = .ok (.iconst (-1), 1) := by decide +kernel
theorem dX5_sign_18 : decode cX5_sign 18 = .ok (.ireturn, 1) := by decide +kernel
theorem dX5_sign_19 : decode cX5_sign 19 = .ok (.aload_n 0, 1) := by decide +kernel
theorem dX5_sign_20 : decode cX5_sign 20 = .ok (.getfield 117, 3) := by decide +kernel
theorem dX5_sign_23 : decode cX5_sign 23 = .ok (.bipush 6, 2) := by decide +kernel
theorem dX5_sign_25 : decode cX5_sign 25 = .ok (.if_icmp .ne 6, 3) := by decide +kernel
theorem dX5_sign_28 : decode cX5_sign 28 = .ok (.bipush (-3), 2) := by decide +kernel
theorem dX5_sign_30 : decode cX5_sign 30 = .ok (.ireturn, 1) := by decide +kernel
theorem dX5_sign_31 : decode cX5_sign 31 = .ok (.aload_n 0, 1) := by decide +kernel
theorem dX5_sign_32 : decode cX5_sign 32 = .ok (.getfield 22, 3) := by decide +kernel
theorem dX5_sign_35 : decode cX5_sign 35 = .ok (.iconst 2, 1) := by decide +kernel
theorem dX5_sign_36 : decode cX5_sign 36 = .ok (.aload_n 0, 1) := by decide +kernel
theorem dX5_sign_37 : decode cX5_sign 37 = .ok (.getfield 117, 3) := by decide +kernel
theorem dX5_sign_40 : decode cX5_sign 40 = .ok (.imul, 1) := by decide +kernel
theorem dX5_sign_41 : decode cX5_sign 41 = .ok (.iload_n 1, 1) := by decide +kernel
theorem dX5_sign_42 : decode cX5_sign 42 = .ok (.iastore, 1) := by decide +kernel
theorem dX5_sign_43 : decode cX5_sign 43 = .ok (.aload_n 0, 1) := by decide +kernel
theorem dX5_sign_44 : decode cX5_sign 44 = .ok (.getfield 22, 3) := by decide +kernel
theorem dX5_sign_47 : decode cX5_sign 47 = .ok (.iconst 2, 1) := by decide +kernel
theorem dX5_sign_48 : decode cX5_sign 48 = .ok (.aload_n 0, 1) := by decide +kernel
theorem dX5_sign_49 : decode cX5_sign 49 = .ok (.getfield 117, 3) := by decide +kernel
theorem dX5_sign_52 : decode cX5_sign 52 = .ok (.imul, 1) := by decide +kernel
theorem dX5_sign_53 : decode cX5_sign 53 = .ok (.iconst 1, 1) := by decide +kernel
theorem dX5_sign_54 : decode cX5_sign 54 = .ok (.iadd, 1) := by decide +kernel
theorem dX5_sign_55 : decode cX5_sign 55 = .ok (.iload_n 2, 1) := by decide +kernel
theorem dX5_sign_56 : decode cX5_sign 56 = .ok (.iastore, 1) := by decide +kernel
theorem dX5_sign_57 : decode cX5_sign 57 = .ok (.aload_n 0, 1) := by decide +kernel
theorem dX5_sign_58 : decode cX5_sign 58 = .ok (.dup, 1) := by decide +kernel
theorem dX5_sign_59 : decode cX5_sign 59 = .ok (.getfield 117, 3) := by decide +kernel
theorem dX5_sign_62 : decode cX5_sign 62 = .ok (.iconst 1, 1) := by decide +kernel
theorem dX5_sign_63 : decode cX5_sign 63 = .ok (.iadd, 1) := by decide +kernel
theorem dX5_sign_64 : decode cX5_sign 64 = .ok (.putfield 117, 3) := by decide +kernel
theorem dX5_sign_67 : decode cX5_sign 67 = .ok (.aload_n 0, 1) := by decide +kernel
theorem dX5_sign_68 : decode cX5_sign 68 = .ok (.getfield 117, 3) := by decide +kernel
theorem dX5_sign_71 : decode cX5_sign 71 = .ok (.ireturn, 1) := by decide +kernel
theorem dX5_forget_0 : decode cX5_forget 0 = .ok (.aload_n 0, 1) := by decide +kernel
theorem dX5_forget_1 : decode cX5_forget 1 = .ok (.getfield 117, 3) := by decide +kernel
theorem dX5_forget_4 : decode cX5_forget 4 = .ok (.istore_n 1, 1) := by decide +kernel
theorem dX5_forget_5 : decode cX5_forget 5 = .ok (.aload_n 0, 1) := by decide +kernel
theorem dX5_forget_6 : decode cX5_forget 6 = .ok (.iconst 0, 1) := by decide +kernel
theorem dX5_forget_7 : decode cX5_forget 7 = .ok (.putfield 117, 3) := by decide +kernel
theorem dX5_forget_10 : decode cX5_forget 10 = .ok (.iload_n 1, 1) := by decide +kernel
theorem dX5_forget_11 : decode cX5_forget 11 = .ok (.ireturn, 1) := by decide +kernel
theorem dX5_isWritten_0 : decode cX5_isWritten 0 = .ok (.iconst 1, 1) := by decide +kernel
theorem dX5_isWritten_1 : decode cX5_isWritten 1 = .ok (.istore 4, 2) := by decide +kernel
theorem dX5_isWritten_3 : decode cX5_isWritten 3 = .ok (.iconst 0, 1) := by decide +kernel
theorem dX5_isWritten_4 : decode cX5_isWritten 4 = .ok (.istore 5, 2) := by decide +kernel
theorem dX5_isWritten_6 : decode cX5_isWritten 6 = .ok (.iload 5, 2) := by decide +kernel
theorem dX5_isWritten_8 : decode cX5_isWritten 8 = .ok (.aload_n 0, 1) := by decide +kernel
theorem dX5_isWritten_9 : decode cX5_isWritten 9 = .ok (.getfield 117, 3) := by decide +kernel
theorem dX5_isWritten_12 : decode cX5_isWritten 12 = .ok (.if_icmp .ge 54, 3) := by decide +kernel
theorem dX5_isWritten_15 : decode cX5_isWritten 15 = .ok (.iload 4, 2) := by decide +kernel
theorem dX5_isWritten_17 : decode cX5_isWritten 17 = .ok (.ifCond .eq 40, 3) := by decide +kernel
theorem dX5_isWritten_20 : decode cX5_isWritten 20 = .ok (.aload_n 0, 1) := by decide +kernel
theorem dX5_isWritten_21 : decode cX5_isWritten 21 = .ok (.iload_n 1, 1) := by decide +kernel
theorem dX5_isWritten_22 : decode cX5_isWritten 22 = .ok (.iload_n 2, 1) := by decide +kernel
theorem dX5_isWritten_23 : decode cX5_isWritten 23 = .ok (.aload_n 0, 1) := by decide +kernel
theorem dX5_isWritten_24 : decode cX5_isWritten 24 = .ok (.getfield 22, 3) := by decide +kernel
theorem dX5_isWritten_27 : decode cX5_isWritten 27 = .ok (.iconst 2, 1) := by decide +kernel
theorem dX5_isWritten_28 : decode cX5_isWritten 28 = .ok (.iload 5, 2) := by decide +kernel
theorem dX5_isWritten_30 : decode cX5_isWritten 30 = .ok (.imul, 1) := by decide +kernel
theorem dX5_isWritten_31 : decode cX5_isWritten 31 = .ok (.iaload, 1) := by decide +kernel
theorem dX5_isWritten_32 : decode cX5_isWritten 32 = .ok (.iload_n 3, 1) := by decide +kernel
theorem dX5_isWritten_33 : decode cX5_isWritten 33 = .ok (.invokevirtual 146, 3) := by decide +kernel
theorem dX5_isWritten_36 : decode cX5_isWritten 36 = .ok (.aload_n 0, 1) := by decide +kernel
theorem dX5_isWritten_37 : decode cX5_isWritten 37 = .ok (.getfield 22, 3) := by decide +kernel
theorem dX5_isWritten_40 : decode cX5_isWritten 40 = .ok (.iconst 2, 1) := by decide +kernel
theorem dX5_isWritten_41 : decode cX5_isWritten 41 = .ok (.iload 5, 2) := by decide +kernel
theorem dX5_isWritten_43 : decode cX5_isWritten 43 = .ok (.imul, 1) := by decide +kernel
theorem dX5_isWritten_44 : decode cX5_isWritten 44 = .ok (.iconst 1, 1) := by decide +kernel
theorem dX5_isWritten_45 : decode cX5_isWritten 45 = .ok (.iadd, 1) := by decide +kernel
theorem dX5_isWritten_46 : decode cX5_isWritten 46 = .ok (.iaload, 1) := by decide +kernel
theorem dX5_isWritten_47 : decode cX5_isWritten 47 = .ok (.bipush 9, 2) := by decide +kernel
theorem dX5_isWritten_49 : decode cX5_isWritten 49 = .ok (.isub, 1) := by decide +kernel
theorem dX5_isWritten_50 : decode cX5_isWritten 50 = .ok (.if_icmp .ne 7, 3) := by decide +kernel
theorem dX5_isWritten_53 : decode cX5_isWritten 53 = .ok (.iconst 1, 1) := by decide +kernel
theorem dX5_isWritten_54 : decode cX5_isWritten 54 = .ok (.goto 4, 3) := by decide +kernel
theorem dX5_isWritten_57 : decode cX5_isWritten 57 = .ok (.iconst 0, 1) := by decide +kernel
theorem dX5_isWritten_58 : decode cX5_isWritten 58 = .ok (.istore 4, 2) := by decide +kernel
theorem dX5_isWritten_60 : decode cX5_isWritten 60 = .ok (.iinc 5 1, 3) := by decide +kernel
theorem dX5_isWritten_63 : decode cX5_isWritten 63 = .ok (.goto (-57), 3) := by decide +kernel
theorem dX5_isWritten_66 : decode cX5_isWritten 66 = .ok (.iload 4, 2) := by decide +kernel
theorem dX5_isWritten_68 : decode cX5_isWritten 68 = .ok (.ireturn, 1) := by decide +kernel
theorem dX5_who_0 : decode cX5_who 0 = .ok (.iload_n 1, 1) := by decide +kernel
theorem dX5_who_1 : decode cX5_who 1 = .ok (.iconst 0, 1) := by decide +kernel
theorem dX5_who_2 : decode cX5_who 2 = .ok (.iconst 1, 1) := by decide +kernel
theorem dX5_who_3 : decode cX5_who 3 = .ok (.invokestatic 63, 3) := by decide +kernel
theorem dX5_who_6 : decode cX5_who 6 = .ok (.ifCond .ne 5, 3) := by decide +kernel
theorem dX5_who_9 : decode cX5_who 9 = .ok (.iconst (-1), 1) := by decide +kernel
theorem dX5_who_10 : decode cX5_who 10 = .ok (.ireturn, 1) := by decide +kernel
theorem dX5_who_11 : decode cX5_who 11 = .ok (.aload_n 0, 1) := by decide +kernel
theorem dX5_who_12 : decode cX5_who 12 = .ok (.invokevirtual 143, 3) := by decide +kernel
theorem dX5_who_15 : decode cX5_who 15 = .ok (.iconst 0, 1) := by decide +kernel
theorem dX5_who_16 : decode cX5_who 16 = .ok (.istore_n 2, 1) := by decide +kernel
theorem dX5_who_17 : decode cX5_who 17 = .ok (.bipush (-4), 2) := by decide +kernel
theorem dX5_who_19 : decode cX5_who 19 = .ok (.istore_n 3, 1) := by decide +kernel
theorem dX5_who_20 : decode cX5_who 20 = .ok (.aload_n 0, 1) := by decide +kernel
theorem dX5_who_21 : decode cX5_who 21 = .ok (.getfield 60, 3) := by decide +kernel
theorem dX5_who_24 : decode cX5_who 24 = .ok (.iconst 1, 1) := by decide +kernel
theorem dX5_who_25 : decode cX5_who 25 = .ok (.isub, 1) := by decide +kernel
theorem dX5_who_26 : decode cX5_who 26 = .ok (.istore 4, 2) := by decide +kernel
theorem dX5_who_28 : decode cX5_who 28 = .ok (.iload 4, 2) := by decide +kernel
theorem dX5_who_30 : decode cX5_who 30 = .ok (.ifCond .lt 108, 3) := by decide +kernel
theorem dX5_who_33 : decode cX5_who 33 = .ok (.aload_n 0, 1) := by decide +kernel
theorem dX5_who_34 : decode cX5_who 34 = .ok (.getfield 60, 3) := by decide +kernel
theorem dX5_who_37 : decode cX5_who 37 = .ok (.iconst 1, 1) := by decide +kernel
theorem dX5_who_38 : decode cX5_who 38 = .ok (.isub, 1) := by decide +kernel
theorem dX5_who_39 : decode cX5_who 39 = .ok (.istore 5, 2) := by decide +kernel
theorem dX5_who_41 : decode cX5_who 41 = .ok (.iload 5, 2) := by decide +kernel
theorem dX5_who_43 : decode cX5_who 43 = .ok (.ifCond .lt 89, 3) := by decide +kernel
theorem dX5_who_46 : decode cX5_who 46 = .ok (.bipush 10, 2) := by decide +kernel
theorem dX5_who_48 : decode cX5_who 48 = .ok (.istore 6, 2) := by decide +kernel
theorem dX5_who_50 : decode cX5_who 50 = .ok (.iload 6, 2) := by decide +kernel
theorem dX5_who_52 : decode cX5_who 52 = .ok (.ifCond .lt 74, 3) := by decide +kernel
theorem dX5_who_55 : decode cX5_who 55 = .ok (.iload 5, 2) := by decide +kernel
theorem dX5_who_57 : decode cX5_who 57 = .ok (.iload 4, 2) := by decide +kernel
theorem dX5_who_59 : decode cX5_who 59 = .ok (.if_icmp .eq 20, 3) := by decide +kernel
theorem dX5_who_62 : decode cX5_who 62 = .ok (.aload_n 0, 1) := by decide +kernel
theorem dX5_who_63 : decode cX5_who 63 = .ok (.iload 4, 2) := by decide +kernel
theorem dX5_who_65 : decode cX5_who 65 = .ok (.iload 5, 2) := by decide +kernel
theorem dX5_who_67 : decode cX5_who 67 = .ok (.iload 6, 2) := by decide +kernel
theorem dX5_who_69 : decode cX5_who 69 = .ok (.invokevirtual 163, 3) := by decide +kernel
theorem dX5_who_72 : decode cX5_who 72 = .ok (.ifCond .eq 7, 3) := by decide +kernel
theorem dX5_who_75 : decode cX5_who 75 = .ok (.iconst 1, 1) := by decide +kernel
theorem dX5_who_76 : decode cX5_who 76 = .ok (.goto 4, 3) := by decide +kernel
theorem dX5_who_79 : decode cX5_who 79 = .ok (.iconst 0, 1) := by decide +kernel
theorem dX5_who_80 : decode cX5_who 80 = .ok (.istore 7, 2) := by decide +kernel
theorem dX5_who_82 : decode cX5_who 82 = .ok (.iload_n 2, 1) := by decide +kernel
theorem dX5_who_83 : decode cX5_who 83 = .ok (.iload 7, 2) := by decide +kernel
theorem dX5_who_85 : decode cX5_who 85 = .ok (.ifCond .eq 7, 3) := by decide +kernel
theorem dX5_who_88 : decode cX5_who 88 = .ok (.iconst 1, 1) := by decide +kernel
theorem dX5_who_89 : decode cX5_who 89 = .ok (.goto 4, 3) := by decide +kernel
theorem dX5_who_92 : decode cX5_who 92 = .ok (.iconst 0, 1) := by decide +kernel
theorem dX5_who_93 : decode cX5_who 93 = .ok (.iadd, 1) := by decide +kernel
theorem dX5_who_94 : decode cX5_who 94 = .ok (.istore_n 2, 1) := by decide +kernel
theorem dX5_who_95 : decode cX5_who 95 = .ok (.iload 7, 2) := by decide +kernel
theorem dX5_who_97 : decode cX5_who 97 = .ok (.ifCond .eq 21, 3) := by decide +kernel
theorem dX5_who_100 : decode cX5_who 100 = .ok (.sipush 1000, 3) := by decide +kernel
theorem dX5_who_103 : decode cX5_who 103 = .ok (.iload 4, 2) := by decide +kernel
theorem dX5_who_105 : decode cX5_who 105 = .ok (.imul, 1) := by decide +kernel
theorem dX5_who_106 : decode cX5_who 106 = .ok (.bipush 100, 2) := by decide +kernel
theorem dX5_who_108 : decode cX5_who 108 = .ok (.iload 5, 2) := by decide +kernel
theorem dX5_who_110 : decode cX5_who 110 = .ok (.imul, 1) := by decide +kernel
theorem dX5_who_111 : decode cX5_who 111 = .ok (.iadd, 1) := by decide +kernel
theorem dX5_who_112 : decode cX5_who 112 = .ok (.iload 6, 2) := by decide +kernel
theorem dX5_who_114 : decode cX5_who 114 = .ok (.iadd, 1) := by decide +kernel
theorem dX5_who_115 : decode cX5_who 115 = .ok (.goto 4, 3) := by decide +kernel
theorem dX5_who_118 : decode cX5_who 118 = .ok (.iload_n 3, 1) := by decide +kernel
theorem dX5_who_119 : decode cX5_who 119 = .ok (.istore_n 3, 1) := by decide +kernel
theorem dX5_who_120 : decode cX5_who 120 = .ok (.iinc 6 (-1), 3) := by decide +kernel
theorem dX5_who_123 : decode cX5_who 123 = .ok (.goto (-73), 3) := by decide +kernel
theorem dX5_who_126 : decode cX5_who 126 = .ok (.iinc 5 (-1), 3) := by decide +kernel
theorem dX5_who_129 : decode cX5_who 129 = .ok (.goto (-88), 3) := by decide +kernel
theorem dX5_who_132 : decode cX5_who 132 = .ok (.iinc 4 (-1), 3) := by decide +kernel
theorem dX5_who_135 : decode cX5_who 135 = .ok (.goto (-107), 3) := by decide +kernel
theorem dX5_who_138 : decode cX5_who 138 = .ok (.iload_n 1, 1) := by decide +kernel
theorem dX5_who_139 : decode cX5_who 139 = .ok (.ifCond .ne 7, 3) := by decide +kernel
theorem dX5_who_142 : decode cX5_who 142 = .ok (.iload_n 2, 1) := by decide +kernel
theorem dX5_who_143 : decode cX5_who 143 = .ok (.goto 4, 3) := by decide +kernel
theorem dX5_who_146 : decode cX5_who 146 = .ok (.iload_n 3, 1) := by decide +kernel
theorem dX5_who_147 : decode cX5_who 147 = .ok (.ireturn, 1) := by decide +kernel
theorem dX5_views_0 : decode cX5_views 0 = .ok (.aload_n 0, 1) := by decide +kernel
theorem dX5_views_1 : decode cX5_views 1 = .ok (.iload_n 1, 1) := by decide +kernel
theorem dX5_views_2 : decode cX5_views 2 = .ok (.invokevirtual 131, 3) := by decide +kernel
theorem dX5_views_5 : decode cX5_views 5 = .ok (.ifCond .eq 20, 3) := by decide +kernel
theorem dX5_views_8 : decode cX5_views 8 = .ok (.iload_n 2, 1) := by decide +kernel
theorem dX5_views_9 : decode cX5_views 9 = .ok (.invokestatic 134, 3) := by decide +kernel
theorem dX5_views_12 : decode cX5_views 12 = .ok (.ifCond .eq 13, 3) := by decide +kernel
theorem dX5_views_15 : decode cX5_views 15 = .ok (.iload_n 3, 1) := by decide +kernel
theorem dX5_views_16 : decode cX5_views 16 = .ok (.iconst 0, 1) := by decide +kernel
theorem dX5_views_17 : decode cX5_views 17 = .ok (.bipush 10, 2) := by decide +kernel
theorem dX5_views_19 : decode cX5_views 19 = .ok (.invokestatic 63, 3) := by decide +kernel
theorem dX5_views_22 : decode cX5_views 22 = .ok (.ifCond .ne 5, 3) := by decide +kernel
theorem dX5_views_25 : decode cX5_views 25 = .ok (.iconst (-1), 1) := by decide +kernel
theorem dX5_views_26 : decode cX5_views 26 = .ok (.ireturn, 1) := by decide +kernel
theorem dX5_views_27 : decode cX5_views 27 = .ok (.aload_n 0, 1) := by decide +kernel
theorem dX5_views_28 : decode cX5_views 28 = .ok (.invokevirtual 143, 3) := by decide +kernel
theorem dX5_views_31 : decode cX5_views 31 = .ok (.iconst 0, 1) := by decide +kernel
theorem dX5_views_32 : decode cX5_views 32 = .ok (.istore 4, 2) := by decide +kernel
theorem dX5_views_34 : decode cX5_views 34 = .ok (.iconst 0, 1) := by decide +kernel
theorem dX5_views_35 : decode cX5_views 35 = .ok (.istore 5, 2) := by decide +kernel
theorem dX5_views_37 : decode cX5_views 37 = .ok (.iload 5, 2) := by decide +kernel
theorem dX5_views_39 : decode cX5_views 39 = .ok (.bipush 18, 2) := by decide +kernel
theorem dX5_views_41 : decode cX5_views 41 = .ok (.if_icmp .gt 57, 3) := by decide +kernel
theorem dX5_views_44 : decode cX5_views 44 = .ok (.aload_n 0, 1) := by decide +kernel
theorem dX5_views_45 : decode cX5_views 45 = .ok (.getfield 37, 3) := by decide +kernel
theorem dX5_views_48 : decode cX5_views 48 = .ok (.bipush 6, 2) := by decide +kernel
theorem dX5_views_50 : decode cX5_views 50 = .ok (.iconst 5, 1) := by decide +kernel
theorem dX5_views_51 : decode cX5_views 51 = .ok (.iload_n 1, 1) := by decide +kernel
theorem dX5_views_52 : decode cX5_views 52 = .ok (.imul, 1) := by decide +kernel
theorem dX5_views_53 : decode cX5_views 53 = .ok (.iadd, 1) := by decide +kernel
theorem dX5_views_54 : decode cX5_views 54 = .ok (.iload_n 2, 1) := by decide +kernel
theorem dX5_views_55 : decode cX5_views 55 = .ok (.iadd, 1) := by decide +kernel
theorem dX5_views_56 : decode cX5_views 56 = .ok (.iload 5, 2) := by decide +kernel
theorem dX5_views_58 : decode cX5_views 58 = .ok (.bipush 9, 2) := by decide +kernel
theorem dX5_views_60 : decode cX5_views 60 = .ok (.isub, 1) := by decide +kernel
theorem dX5_views_61 : decode cX5_views 61 = .ok (.iastore, 1) := by decide +kernel
theorem dX5_views_62 : decode cX5_views 62 = .ok (.iload 4, 2) := by decide +kernel
theorem dX5_views_64 : decode cX5_views 64 = .ok (.aload_n 0, 1) := by decide +kernel
theorem dX5_views_65 : decode cX5_views 65 = .ok (.iload_n 1, 1) := by decide +kernel
theorem dX5_views_66 : decode cX5_views 66 = .ok (.aload_n 0, 1) := by decide +kernel
theorem dX5_views_67 : decode cX5_views 67 = .ok (.getfield 37, 3) := by decide +kernel
theorem dX5_views_70 : decode cX5_views 70 = .ok (.iconst 0, 1) := by decide +kernel
theorem dX5_views_71 : decode cX5_views 71 = .ok (.iload_n 1, 1) := by decide +kernel
theorem dX5_views_72 : decode cX5_views 72 = .ok (.iadd, 1) := by decide +kernel
theorem dX5_views_73 : decode cX5_views 73 = .ok (.iaload, 1) := by decide +kernel
theorem dX5_views_74 : decode cX5_views 74 = .ok (.iload_n 3, 1) := by decide +kernel
theorem dX5_views_75 : decode cX5_views 75 = .ok (.invokevirtual 163, 3) := by decide +kernel
theorem dX5_views_78 : decode cX5_views 78 = .ok (.ifCond .eq 10, 3) := by decide +kernel
theorem dX5_views_81 : decode cX5_views 81 = .ok (.iconst 1, 1) := by decide +kernel
theorem dX5_views_82 : decode cX5_views 82 = .ok (.iload 5, 2) := by decide +kernel
theorem dX5_views_84 : decode cX5_views 84 = .ok (.ishl, 1) := by decide +kernel
theorem dX5_views_85 : decode cX5_views 85 = .ok (.goto 4, 3) := by decide +kernel
theorem dX5_views_88 : decode cX5_views 88 = .ok (.iconst 0, 1) := by decide +kernel
theorem dX5_views_89 : decode cX5_views 89 = .ok (.ior, 1) := by decide +kernel
theorem dX5_views_90 : decode cX5_views 90 = .ok (.istore 4, 2) := by decide +kernel
theorem dX5_views_92 : decode cX5_views 92 = .ok (.iinc 5 1, 3) := by decide +kernel
theorem dX5_views_95 : decode cX5_views 95 = .ok (.goto (-58), 3) := by decide +kernel
theorem dX5_views_98 : decode cX5_views 98 = .ok (.iload 4, 2) := by decide +kernel
theorem dX5_views_100 : decode cX5_views 100 = .ok (.ireturn, 1) := by decide +kernel
theorem dX5_drops_0 : decode cX5_drops 0 = .ok (.aload_n 0, 1) := by decide +kernel
theorem dX5_drops_1 : decode cX5_drops 1 = .ok (.iload_n 1, 1) := by decide +kernel
theorem dX5_drops_2 : decode cX5_drops 2 = .ok (.invokevirtual 131, 3) := by decide +kernel
theorem dX5_drops_5 : decode cX5_drops 5 = .ok (.ifCond .eq 41, 3) := by decide +kernel
theorem dX5_drops_8 : decode cX5_drops 8 = .ok (.iload_n 2, 1) := by decide +kernel
theorem dX5_drops_9 : decode cX5_drops 9 = .ok (.invokestatic 134, 3) := by decide +kernel
theorem dX5_drops_12 : decode cX5_drops 12 = .ok (.ifCond .eq 34, 3) := by decide +kernel
theorem dX5_drops_15 : decode cX5_drops 15 = .ok (.iload_n 3, 1) := by decide +kernel
theorem dX5_drops_16 : decode cX5_drops 16 = .ok (.iconst 0, 1) := by decide +kernel
theorem dX5_drops_17 : decode cX5_drops 17 = .ok (.bipush 18, 2) := by decide +kernel
theorem dX5_drops_19 : decode cX5_drops 19 = .ok (.invokestatic 63, 3) := by decide +kernel
theorem dX5_drops_22 : decode cX5_drops 22 = .ok (.ifCond .eq 24, 3) := by decide +kernel
theorem dX5_drops_25 : decode cX5_drops 25 = .ok (.iload 4, 2) := by decide +kernel
theorem dX5_drops_27 : decode cX5_drops 27 = .ok (.iconst 0, 1) := by decide +kernel
theorem dX5_drops_28 : decode cX5_drops 28 = .ok (.bipush 10, 2) := by decide +kernel
theorem dX5_drops_30 : decode cX5_drops 30 = .ok (.invokestatic 63, 3) := by decide +kernel
theorem dX5_drops_33 : decode cX5_drops 33 = .ok (.ifCond .eq 13, 3) := by decide +kernel
theorem dX5_drops_36 : decode cX5_drops 36 = .ok (.iload 5, 2) := by decide +kernel
theorem dX5_drops_38 : decode cX5_drops 38 = .ok (.iconst 0, 1) := by decide +kernel
theorem dX5_drops_39 : decode cX5_drops 39 = .ok (.iconst 1, 1) := by decide +kernel
theorem dX5_drops_40 : decode cX5_drops 40 = .ok (.invokestatic 63, 3) := by decide +kernel
theorem dX5_drops_43 : decode cX5_drops 43 = .ok (.ifCond .ne 7, 3) := by decide +kernel
theorem dX5_drops_46 : decode cX5_drops 46 = .ok (.ldc2_w 166, 3) := by decide +kernel
theorem dX5_drops_49 : decode cX5_drops 49 = .ok (.lreturn, 1) := by decide +kernel
theorem dX5_drops_50 : decode cX5_drops 50 = .ok (.aload_n 0, 1) := by decide +kernel
theorem dX5_drops_51 : decode cX5_drops 51 = .ok (.invokevirtual 143, 3) := by decide +kernel
theorem dX5_drops_54 : decode cX5_drops 54 = .ok (.lconst 0, 1) := by decide +kernel
theorem dX5_drops_55 : decode cX5_drops 55 = .ok (.lstore 6, 2) := by decide +kernel
theorem dX5_drops_57 : decode cX5_drops 57 = .ok (.iconst 0, 1) := by decide +kernel
theorem dX5_drops_58 : decode cX5_drops 58 = .ok (.istore 8, 2) := by decide +kernel
theorem dX5_drops_60 : decode cX5_drops 60 = .ok (.iload 8, 2) := by decide +kernel
theorem dX5_drops_62 : decode cX5_drops 62 = .ok (.bipush 10, 2) := by decide +kernel
theorem dX5_drops_64 : decode cX5_drops 64 = .ok (.if_icmp .gt 113, 3) := by decide +kernel
theorem dX5_drops_67 : decode cX5_drops 67 = .ok (.aload_n 0, 1) := by decide +kernel
theorem dX5_drops_68 : decode cX5_drops 68 = .ok (.iload_n 1, 1) := by decide +kernel
theorem dX5_drops_69 : decode cX5_drops 69 = .ok (.aload_n 0, 1) := by decide +kernel
theorem dX5_drops_70 : decode cX5_drops 70 = .ok (.getfield 37, 3) := by decide +kernel
theorem dX5_drops_73 : decode cX5_drops 73 = .ok (.iconst 0, 1) := by decide +kernel
theorem dX5_drops_74 : decode cX5_drops 74 = .ok (.iload_n 1, 1) := by decide +kernel
theorem dX5_drops_75 : decode cX5_drops 75 = .ok (.iadd, 1) := by decide +kernel
theorem dX5_drops_76 : decode cX5_drops 76 = .ok (.iaload, 1) := by decide +kernel
theorem dX5_drops_77 : decode cX5_drops 77 = .ok (.iload_n 2, 1) := by decide +kernel
theorem dX5_drops_78 : decode cX5_drops 78 = .ok (.iload 8, 2) := by decide +kernel
theorem dX5_drops_80 : decode cX5_drops 80 = .ok (.invokevirtual 146, 3) := by decide +kernel
theorem dX5_drops_83 : decode cX5_drops 83 = .ok (.iload_n 3, 1) := by decide +kernel
theorem dX5_drops_84 : decode cX5_drops 84 = .ok (.bipush 9, 2) := by decide +kernel
theorem dX5_drops_86 : decode cX5_drops 86 = .ok (.isub, 1) := by decide +kernel
theorem dX5_drops_87 : decode cX5_drops 87 = .ok (.if_icmp .ne 84, 3) := by decide +kernel
theorem dX5_drops_90 : decode cX5_drops 90 = .ok (.lconst 1, 1) := by decide +kernel
theorem dX5_drops_91 : decode cX5_drops 91 = .ok (.lstore 9, 2) := by decide +kernel
theorem dX5_drops_93 : decode cX5_drops 93 = .ok (.iconst 1, 1) := by decide +kernel
theorem dX5_drops_94 : decode cX5_drops 94 = .ok (.istore 11, 2) := by decide +kernel
theorem dX5_drops_96 : decode cX5_drops 96 = .ok (.iload 11, 2) := by decide +kernel
theorem dX5_drops_98 : decode cX5_drops 98 = .ok (.iload 8, 2) := by decide +kernel
theorem dX5_drops_100 : decode cX5_drops 100 = .ok (.if_icmp .gt 24, 3) := by decide +kernel
theorem dX5_drops_103 : decode cX5_drops 103 = .ok (.lload 9, 2) := by decide +kernel
theorem dX5_drops_105 : decode cX5_drops 105 = .ok (.bipush 11, 2) := by decide +kernel
theorem dX5_drops_107 : decode cX5_drops 107 = .ok (.iload 11, 2) := by decide +kernel
theorem dX5_drops_109 : decode cX5_drops 109 = .ok (.isub, 1) := by decide +kernel
theorem dX5_drops_110 : decode cX5_drops 110 = .ok (.i2l, 1) := by decide +kernel
theorem dX5_drops_111 : decode cX5_drops 111 = .ok (.lmul, 1) := by decide +kernel
theorem dX5_drops_112 : decode cX5_drops 112 = .ok (.iload 11, 2) := by decide +kernel
theorem dX5_drops_114 : decode cX5_drops 114 = .ok (.i2l, 1) := by decide +kernel
theorem dX5_drops_115 : decode cX5_drops 115 = .ok (.ldiv, 1) := by decide +kernel
theorem dX5_drops_116 : decode cX5_drops 116 = .ok (.lstore 9, 2) := by decide +kernel
theorem dX5_drops_118 : decode cX5_drops 118 = .ok (.iinc 11 1, 3) := by decide +kernel
theorem dX5_drops_121 : decode cX5_drops 121 = .ok (.goto (-25), 3) := by decide +kernel
theorem dX5_drops_124 : decode cX5_drops 124 = .ok (.iconst 0, 1) := by decide +kernel
theorem dX5_drops_125 : decode cX5_drops 125 = .ok (.istore 11, 2) := by decide +kernel
theorem dX5_drops_127 : decode cX5_drops 127 = .ok (.iload 11, 2) := by decide +kernel
theorem dX5_drops_129 : decode cX5_drops 129 = .ok (.bipush 10, 2) := by decide +kernel
theorem dX5_drops_131 : decode cX5_drops 131 = .ok (.if_icmp .ge 33, 3) := by decide +kernel
theorem dX5_drops_134 : decode cX5_drops 134 = .ok (.lload 9, 2) := by decide +kernel
theorem dX5_drops_136 : decode cX5_drops 136 = .ok (.iload 11, 2) := by decide +kernel
theorem dX5_drops_138 : decode cX5_drops 138 = .ok (.iload 8, 2) := by decide +kernel
theorem dX5_drops_140 : decode cX5_drops 140 = .ok (.if_icmp .ge 9, 3) := by decide +kernel
theorem dX5_drops_143 : decode cX5_drops 143 = .ok (.iload 4, 2) := by decide +kernel
theorem dX5_drops_145 : decode cX5_drops 145 = .ok (.i2l, 1) := by decide +kernel
theorem dX5_drops_146 : decode cX5_drops 146 = .ok (.goto 9, 3) := by decide +kernel
theorem dX5_drops_149 : decode cX5_drops 149 = .ok (.bipush 10, 2) := by decide +kernel
theorem dX5_drops_151 : decode cX5_drops 151 = .ok (.iload 4, 2) := by decide +kernel
theorem dX5_drops_153 : decode cX5_drops 153 = .ok (.isub, 1) := by decide +kernel
theorem dX5_drops_154 : decode cX5_drops 154 = .ok (.i2l, 1) := by decide +kernel
theorem dX5_drops_155 : decode cX5_drops 155 = .ok (.lmul, 1) := by decide +kernel
theorem dX5_drops_156 : decode cX5_drops 156 = .ok (.lstore 9, 2) := by decide +kernel
theorem dX5_drops_158 : decode cX5_drops 158 = .ok (.iinc 11 1, 3) := by decide +kernel
theorem dX5_drops_161 : decode cX5_drops 161 = .ok (.goto (-34), 3) := by decide +kernel
theorem dX5_drops_164 : decode cX5_drops 164 = .ok (.lload 6, 2) := by decide +kernel
theorem dX5_drops_166 : decode cX5_drops 166 = .ok (.lload 9, 2) := by decide +kernel
theorem dX5_drops_168 : decode cX5_drops 168 = .ok (.ladd, 1) := by decide +kernel
theorem dX5_drops_169 : decode cX5_drops 169 = .ok (.lstore 6, 2) := by decide +kernel
theorem dX5_drops_171 : decode cX5_drops 171 = .ok (.iinc 8 1, 3) := by decide +kernel
theorem dX5_drops_174 : decode cX5_drops 174 = .ok (.goto (-114), 3) := by decide +kernel
theorem dX5_drops_177 : decode cX5_drops 177 = .ok (.lload 6, 2) := by decide +kernel
theorem dX5_drops_179 : decode cX5_drops 179 = .ok (.lstore 8, 2) := by decide +kernel
theorem dX5_drops_181 : decode cX5_drops 181 = .ok (.ldc2_w 168, 3) := by decide +kernel
theorem dX5_drops_184 : decode cX5_drops 184 = .ok (.lstore 10, 2) := by decide +kernel
theorem dX5_drops_186 : decode cX5_drops 186 = .ok (.lload 10, 2) := by decide +kernel
theorem dX5_drops_188 : decode cX5_drops 188 = .ok (.lconst 0, 1) := by decide +kernel
theorem dX5_drops_189 : decode cX5_drops 189 = .ok (.lcmp, 1) := by decide +kernel
theorem dX5_drops_190 : decode cX5_drops 190 = .ok (.ifCond .le 21, 3) := by decide +kernel
theorem dX5_drops_193 : decode cX5_drops 193 = .ok (.lload 8, 2) := by decide +kernel
theorem dX5_drops_195 : decode cX5_drops 195 = .ok (.lload 10, 2) := by decide +kernel
theorem dX5_drops_197 : decode cX5_drops 197 = .ok (.lrem, 1) := by decide +kernel
theorem dX5_drops_198 : decode cX5_drops 198 = .ok (.lstore 12, 2) := by decide +kernel
theorem dX5_drops_200 : decode cX5_drops 200 = .ok (.lload 10, 2) := by decide +kernel
theorem dX5_drops_202 : decode cX5_drops 202 = .ok (.lstore 8, 2) := by decide +kernel
theorem dX5_drops_204 : decode cX5_drops 204 = .ok (.lload 12, 2) := by decide +kernel
theorem dX5_drops_206 : decode cX5_drops 206 = .ok (.lstore 10, 2) := by decide +kernel
theorem dX5_drops_208 : decode cX5_drops 208 = .ok (.goto (-22), 3) := by decide +kernel
theorem dX5_drops_211 : decode cX5_drops 211 = .ok (.iload 5, 2) := by decide +kernel
theorem dX5_drops_213 : decode cX5_drops 213 = .ok (.ifCond .ne 8, 3) := by decide +kernel
theorem dX5_drops_216 : decode cX5_drops 216 = .ok (.lload 6, 2) := by decide +kernel
theorem dX5_drops_218 : decode cX5_drops 218 = .ok (.goto 6, 3) := by decide +kernel
theorem dX5_drops_221 : decode cX5_drops 221 = .ok (.ldc2_w 168, 3) := by decide +kernel
theorem dX5_drops_224 : decode cX5_drops 224 = .ok (.lload 8, 2) := by decide +kernel
theorem dX5_drops_226 : decode cX5_drops 226 = .ok (.ldiv, 1) := by decide +kernel
theorem dX5_drops_227 : decode cX5_drops 227 = .ok (.lreturn, 1) := by decide +kernel
theorem dX5_weeks_0 : decode cX5_weeks 0 = .ok (.iload_n 1, 1) := by decide +kernel
theorem dX5_weeks_1 : decode cX5_weeks 1 = .ok (.iconst 0, 1) := by decide +kernel
theorem dX5_weeks_2 : decode cX5_weeks 2 = .ok (.sipush 9999, 3) := by decide +kernel
theorem dX5_weeks_5 : decode cX5_weeks 5 = .ok (.invokestatic 63, 3) := by decide +kernel
theorem dX5_weeks_8 : decode cX5_weeks 8 = .ok (.ifCond .eq 22, 3) := by decide +kernel
theorem dX5_weeks_11 : decode cX5_weeks 11 = .ok (.iload_n 2, 1) := by decide +kernel
theorem dX5_weeks_12 : decode cX5_weeks 12 = .ok (.iconst 1, 1) := by decide +kernel
theorem dX5_weeks_13 : decode cX5_weeks 13 = .ok (.bipush 60, 2) := by decide +kernel
theorem dX5_weeks_15 : decode cX5_weeks 15 = .ok (.invokestatic 63, 3) := by decide +kernel
theorem dX5_weeks_18 : decode cX5_weeks 18 = .ok (.ifCond .eq 12, 3) := by decide +kernel
theorem dX5_weeks_21 : decode cX5_weeks 21 = .ok (.iload_n 3, 1) := by decide +kernel
theorem dX5_weeks_22 : decode cX5_weeks 22 = .ok (.iconst 0, 1) := by decide +kernel
theorem dX5_weeks_23 : decode cX5_weeks 23 = .ok (.iconst 1, 1) := by decide +kernel
theorem dX5_weeks_24 : decode cX5_weeks 24 = .ok (.invokestatic 63, 3) := by decide +kernel
theorem dX5_weeks_27 : decode cX5_weeks 27 = .ok (.ifCond .ne 5, 3) := by decide +kernel
theorem dX5_weeks_30 : decode cX5_weeks 30 = .ok (.iconst (-1), 1) := by decide +kernel
theorem dX5_weeks_31 : decode cX5_weeks 31 = .ok (.ireturn, 1) := by decide +kernel
theorem dX5_weeks_32 : decode cX5_weeks 32 = .ok (.aload_n 0, 1) := by decide +kernel
theorem dX5_weeks_33 : decode cX5_weeks 33 = .ok (.invokevirtual 143, 3) := by decide +kernel
theorem dX5_weeks_36 : decode cX5_weeks 36 = .ok (.iconst 0, 1) := by decide +kernel
theorem dX5_weeks_37 : decode cX5_weeks 37 = .ok (.istore 4, 2) := by decide +kernel
theorem dX5_weeks_39 : decode cX5_weeks 39 = .ok (.iload 4, 2) := by decide +kernel
theorem dX5_weeks_41 : decode cX5_weeks 41 = .ok (.iload_n 2, 1) := by decide +kernel
theorem dX5_weeks_42 : decode cX5_weeks 42 = .ok (.if_icmp .ge 109, 3) := by decide +kernel
theorem dX5_weeks_45 : decode cX5_weeks 45 = .ok (.ldc2_w 170, 3) := by decide +kernel
theorem dX5_weeks_48 : decode cX5_weeks 48 = .ok (.iload_n 1, 1) := by decide +kernel
theorem dX5_weeks_49 : decode cX5_weeks 49 = .ok (.i2l, 1) := by decide +kernel
theorem dX5_weeks_50 : decode cX5_weeks 50 = .ok (.lmul, 1) := by decide +kernel
theorem dX5_weeks_51 : decode cX5_weeks 51 = .ok (.ldc2_w 172, 3) := by decide +kernel
theorem dX5_weeks_54 : decode cX5_weeks 54 = .ok (.iload 4, 2) := by decide +kernel
theorem dX5_weeks_56 : decode cX5_weeks 56 = .ok (.i2l, 1) := by decide +kernel
theorem dX5_weeks_57 : decode cX5_weeks 57 = .ok (.lmul, 1) := by decide +kernel
theorem dX5_weeks_58 : decode cX5_weeks 58 = .ok (.ladd, 1) := by decide +kernel
theorem dX5_weeks_59 : decode cX5_weeks 59 = .ok (.lconst 1, 1) := by decide +kernel
theorem dX5_weeks_60 : decode cX5_weeks 60 = .ok (.ladd, 1) := by decide +kernel
theorem dX5_weeks_61 : decode cX5_weeks 61 = .ok (.lstore 5, 2) := by decide +kernel
theorem dX5_weeks_63 : decode cX5_weeks 63 = .ok (.lload 5, 2) := by decide +kernel
theorem dX5_weeks_65 : decode cX5_weeks 65 = .ok (.lload 5, 2) := by decide +kernel
theorem dX5_weeks_67 : decode cX5_weeks 67 = .ok (.lmul, 1) := by decide +kernel
theorem dX5_weeks_68 : decode cX5_weeks 68 = .ok (.ldc2_w 174, 3) := by decide +kernel
theorem dX5_weeks_71 : decode cX5_weeks 71 = .ok (.lrem, 1) := by decide +kernel
theorem dX5_weeks_72 : decode cX5_weeks 72 = .ok (.ldc2_w 176, 3) := by decide +kernel
theorem dX5_weeks_75 : decode cX5_weeks 75 = .ok (.ldiv, 1) := by decide +kernel
theorem dX5_weeks_76 : decode cX5_weeks 76 = .ok (.l2i, 1) := by decide +kernel
theorem dX5_weeks_77 : decode cX5_weeks 77 = .ok (.istore 7, 2) := by decide +kernel
theorem dX5_weeks_79 : decode cX5_weeks 79 = .ok (.iload 7, 2) := by decide +kernel
theorem dX5_weeks_81 : decode cX5_weeks 81 = .ok (.aload_n 0, 1) := by decide +kernel
theorem dX5_weeks_82 : decode cX5_weeks 82 = .ok (.getfield 60, 3) := by decide +kernel
theorem dX5_weeks_85 : decode cX5_weeks 85 = .ok (.irem, 1) := by decide +kernel
theorem dX5_weeks_86 : decode cX5_weeks 86 = .ok (.istore 8, 2) := by decide +kernel
theorem dX5_weeks_88 : decode cX5_weeks 88 = .ok (.iload 7, 2) := by decide +kernel
theorem dX5_weeks_90 : decode cX5_weeks 90 = .ok (.bipush 8, 2) := by decide +kernel
theorem dX5_weeks_92 : decode cX5_weeks 92 = .ok (.idiv, 1) := by decide +kernel
theorem dX5_weeks_93 : decode cX5_weeks 93 = .ok (.iconst 5, 1) := by decide +kernel
theorem dX5_weeks_94 : decode cX5_weeks 94 = .ok (.irem, 1) := by decide +kernel
theorem dX5_weeks_95 : decode cX5_weeks 95 = .ok (.istore 9, 2) := by decide +kernel
theorem dX5_weeks_97 : decode cX5_weeks 97 = .ok (.aload_n 0, 1) := by decide +kernel
theorem dX5_weeks_98 : decode cX5_weeks 98 = .ok (.getfield 37, 3) := by decide +kernel
theorem dX5_weeks_101 : decode cX5_weeks 101 = .ok (.bipush 36, 2) := by decide +kernel
theorem dX5_weeks_103 : decode cX5_weeks 103 = .ok (.iconst 5, 1) := by decide +kernel
theorem dX5_weeks_104 : decode cX5_weeks 104 = .ok (.iload 4, 2) := by decide +kernel
theorem dX5_weeks_106 : decode cX5_weeks 106 = .ok (.aload_n 0, 1) := by decide +kernel
theorem dX5_weeks_107 : decode cX5_weeks 107 = .ok (.getfield 67, 3) := by decide +kernel
theorem dX5_weeks_110 : decode cX5_weeks 110 = .ok (.irem, 1) := by decide +kernel
theorem dX5_weeks_111 : decode cX5_weeks 111 = .ok (.imul, 1) := by decide +kernel
theorem dX5_weeks_112 : decode cX5_weeks 112 = .ok (.iadd, 1) := by decide +kernel
theorem dX5_weeks_113 : decode cX5_weeks 113 = .ok (.iload 9, 2) := by decide +kernel
theorem dX5_weeks_115 : decode cX5_weeks 115 = .ok (.iadd, 1) := by decide +kernel
theorem dX5_weeks_116 : decode cX5_weeks 116 = .ok (.aload_n 0, 1) := by decide +kernel
theorem dX5_weeks_117 : decode cX5_weeks 117 = .ok (.iload 8, 2) := by decide +kernel
theorem dX5_weeks_119 : decode cX5_weeks 119 = .ok (.aload_n 0, 1) := by decide +kernel
theorem dX5_weeks_120 : decode cX5_weeks 120 = .ok (.getfield 37, 3) := by decide +kernel
theorem dX5_weeks_123 : decode cX5_weeks 123 = .ok (.iconst 0, 1) := by decide +kernel
theorem dX5_weeks_124 : decode cX5_weeks 124 = .ok (.iload 8, 2) := by decide +kernel
theorem dX5_weeks_126 : decode cX5_weeks 126 = .ok (.iadd, 1) := by decide +kernel
theorem dX5_weeks_127 : decode cX5_weeks 127 = .ok (.iaload, 1) := by decide +kernel
theorem dX5_weeks_128 : decode cX5_weeks 128 = .ok (.iload 9, 2) := by decide +kernel
theorem dX5_weeks_130 : decode cX5_weeks 130 = .ok (.iload 7, 2) := by decide +kernel
theorem dX5_weeks_132 : decode cX5_weeks 132 = .ok (.bipush 64, 2) := by decide +kernel
theorem dX5_weeks_134 : decode cX5_weeks 134 = .ok (.idiv, 1) := by decide +kernel
theorem dX5_weeks_135 : decode cX5_weeks 135 = .ok (.bipush 11, 2) := by decide +kernel
theorem dX5_weeks_137 : decode cX5_weeks 137 = .ok (.irem, 1) := by decide +kernel
theorem dX5_weeks_138 : decode cX5_weeks 138 = .ok (.invokevirtual 146, 3) := by decide +kernel
theorem dX5_weeks_141 : decode cX5_weeks 141 = .ok (.bipush 10, 2) := by decide +kernel
theorem dX5_weeks_143 : decode cX5_weeks 143 = .ok (.iadd, 1) := by decide +kernel
theorem dX5_weeks_144 : decode cX5_weeks 144 = .ok (.iastore, 1) := by decide +kernel
theorem dX5_weeks_145 : decode cX5_weeks 145 = .ok (.iinc 4 1, 3) := by decide +kernel
theorem dX5_weeks_148 : decode cX5_weeks 148 = .ok (.goto (-109), 3) := by decide +kernel
theorem dX5_weeks_151 : decode cX5_weeks 151 = .ok (.iconst 0, 1) := by decide +kernel
theorem dX5_weeks_152 : decode cX5_weeks 152 = .ok (.istore 4, 2) := by decide +kernel
theorem dX5_weeks_154 : decode cX5_weeks 154 = .ok (.sipush 500, 3) := by decide +kernel
theorem dX5_weeks_157 : decode cX5_weeks 157 = .ok (.istore 5, 2) := by decide +kernel
theorem dX5_weeks_159 : decode cX5_weeks 159 = .ok (.iconst 0, 1) := by decide +kernel
theorem dX5_weeks_160 : decode cX5_weeks 160 = .ok (.istore 6, 2) := by decide +kernel
theorem dX5_weeks_162 : decode cX5_weeks 162 = .ok (.iload 6, 2) := by decide +kernel
theorem dX5_weeks_164 : decode cX5_weeks 164 = .ok (.aload_n 0, 1) := by decide +kernel
theorem dX5_weeks_165 : decode cX5_weeks 165 = .ok (.getfield 67, 3) := by decide +kernel
theorem dX5_weeks_168 : decode cX5_weeks 168 = .ok (.if_icmp .ge 71, 3) := by decide +kernel
theorem dX5_weeks_171 : decode cX5_weeks 171 = .ok (.iload 4, 2) := by decide +kernel
theorem dX5_weeks_173 : decode cX5_weeks 173 = .ok (.aload_n 0, 1) := by decide +kernel
theorem dX5_weeks_174 : decode cX5_weeks 174 = .ok (.iload 6, 2) := by decide +kernel
theorem dX5_weeks_176 : decode cX5_weeks 176 = .ok (.invokevirtual 157, 3) := by decide +kernel
theorem dX5_weeks_179 : decode cX5_weeks 179 = .ok (.iadd, 1) := by decide +kernel
theorem dX5_weeks_180 : decode cX5_weeks 180 = .ok (.istore 4, 2) := by decide +kernel
theorem dX5_weeks_182 : decode cX5_weeks 182 = .ok (.iconst 0, 1) := by decide +kernel
theorem dX5_weeks_183 : decode cX5_weeks 183 = .ok (.istore 7, 2) := by decide +kernel
theorem dX5_weeks_185 : decode cX5_weeks 185 = .ok (.iload 7, 2) := by decide +kernel
theorem dX5_weeks_187 : decode cX5_weeks 187 = .ok (.iconst 5, 1) := by decide +kernel
theorem dX5_weeks_188 : decode cX5_weeks 188 = .ok (.if_icmp .ge 45, 3) := by decide +kernel
theorem dX5_weeks_191 : decode cX5_weeks 191 = .ok (.aload_n 0, 1) := by decide +kernel
theorem dX5_weeks_192 : decode cX5_weeks 192 = .ok (.getfield 37, 3) := by decide +kernel
theorem dX5_weeks_195 : decode cX5_weeks 195 = .ok (.bipush 36, 2) := by decide +kernel
theorem dX5_weeks_197 : decode cX5_weeks 197 = .ok (.iconst 5, 1) := by decide +kernel
theorem dX5_weeks_198 : decode cX5_weeks 198 = .ok (.iload 6, 2) := by decide +kernel
theorem dX5_weeks_200 : decode cX5_weeks 200 = .ok (.imul, 1) := by decide +kernel
theorem dX5_weeks_201 : decode cX5_weeks 201 = .ok (.iadd, 1) := by decide +kernel
theorem dX5_weeks_202 : decode cX5_weeks 202 = .ok (.iload 7, 2) := by decide +kernel
theorem dX5_weeks_204 : decode cX5_weeks 204 = .ok (.iadd, 1) := by decide +kernel
theorem dX5_weeks_205 : decode cX5_weeks 205 = .ok (.iaload, 1) := by decide +kernel
theorem dX5_weeks_206 : decode cX5_weeks 206 = .ok (.istore 8, 2) := by decide +kernel
theorem dX5_weeks_208 : decode cX5_weeks 208 = .ok (.iload 5, 2) := by decide +kernel
theorem dX5_weeks_210 : decode cX5_weeks 210 = .ok (.iload 8, 2) := by decide +kernel
theorem dX5_weeks_212 : decode cX5_weeks 212 = .ok (.ifCond .ne 7, 3) := by decide +kernel
theorem dX5_weeks_215 : decode cX5_weeks 215 = .ok (.iconst 0, 1) := by decide +kernel
theorem dX5_weeks_216 : decode cX5_weeks 216 = .ok (.goto 8, 3) := by decide +kernel
theorem dX5_weeks_219 : decode cX5_weeks 219 = .ok (.iload 8, 2) := by decide +kernel
theorem dX5_weeks_221 : decode cX5_weeks 221 = .ok (.bipush 10, 2) := by decide +kernel
theorem dX5_weeks_223 : decode cX5_weeks 223 = .ok (.isub, 1) := by decide +kernel
theorem dX5_weeks_224 : decode cX5_weeks 224 = .ok (.iadd, 1) := by decide +kernel
theorem dX5_weeks_225 : decode cX5_weeks 225 = .ok (.istore 5, 2) := by decide +kernel
theorem dX5_weeks_227 : decode cX5_weeks 227 = .ok (.iinc 7 1, 3) := by decide +kernel
theorem dX5_weeks_230 : decode cX5_weeks 230 = .ok (.goto (-45), 3) := by decide +kernel
theorem dX5_weeks_233 : decode cX5_weeks 233 = .ok (.iinc 6 1, 3) := by decide +kernel
theorem dX5_weeks_236 : decode cX5_weeks 236 = .ok (.goto (-74), 3) := by decide +kernel
theorem dX5_weeks_239 : decode cX5_weeks 239 = .ok (.iload_n 3, 1) := by decide +kernel
theorem dX5_weeks_240 : decode cX5_weeks 240 = .ok (.ifCond .ne 8, 3) := by decide +kernel
theorem dX5_weeks_243 : decode cX5_weeks 243 = .ok (.iload 4, 2) := by decide +kernel
theorem dX5_weeks_245 : decode cX5_weeks 245 = .ok (.goto 5, 3) := by decide +kernel
theorem dX5_weeks_248 : decode cX5_weeks 248 = .ok (.iload 5, 2) := by decide +kernel
theorem dX5_weeks_250 : decode cX5_weeks 250 = .ok (.ireturn, 1) := by decide +kernel
theorem dX5_keep_0 : decode cX5_keep 0 = .ok (.aload_n 0, 1) := by decide +kernel
theorem dX5_keep_1 : decode cX5_keep 1 = .ok (.getfield 114, 3) := by decide +kernel
theorem dX5_keep_4 : decode cX5_keep 4 = .ok (.iconst 2, 1) := by decide +kernel
theorem dX5_keep_5 : decode cX5_keep 5 = .ok (.if_icmp .ne 6, 3) := by decide +kernel
theorem dX5_keep_8 : decode cX5_keep 8 = .ok (.bipush (-3), 2) := by decide +kernel
theorem dX5_keep_10 : decode cX5_keep 10 = .ok (.ireturn, 1) := by decide +kernel
theorem dX5_keep_11 : decode cX5_keep 11 = .ok (.aload_n 0, 1) := by decide +kernel
theorem dX5_keep_12 : decode cX5_keep 12 = .ok (.getfield 19, 3) := by decide +kernel
theorem dX5_keep_15 : decode cX5_keep 15 = .ok (.bipush 61, 2) := by decide +kernel
theorem dX5_keep_17 : decode cX5_keep 17 = .ok (.aload_n 0, 1) := by decide +kernel
theorem dX5_keep_18 : decode cX5_keep 18 = .ok (.getfield 114, 3) := by decide +kernel
theorem dX5_keep_21 : decode cX5_keep 21 = .ok (.imul, 1) := by decide +kernel
theorem dX5_keep_22 : decode cX5_keep 22 = .ok (.aload_n 0, 1) := by decide +kernel
theorem dX5_keep_23 : decode cX5_keep 23 = .ok (.getfield 13, 3) := by decide +kernel
theorem dX5_keep_26 : decode cX5_keep 26 = .ok (.iconst 0, 1) := by decide +kernel
theorem dX5_keep_27 : decode cX5_keep 27 = .ok (.invokestatic 107, 3) := by decide +kernel
theorem dX5_keep_30 : decode cX5_keep 30 = .ok (.aload_n 0, 1) := by decide +kernel
theorem dX5_keep_31 : decode cX5_keep 31 = .ok (.dup, 1) := by decide +kernel
theorem dX5_keep_32 : decode cX5_keep 32 = .ok (.getfield 114, 3) := by decide +kernel
theorem dX5_keep_35 : decode cX5_keep 35 = .ok (.iconst 1, 1) := by decide +kernel
theorem dX5_keep_36 : decode cX5_keep 36 = .ok (.iadd, 1) := by decide +kernel
theorem dX5_keep_37 : decode cX5_keep 37 = .ok (.putfield 114, 3) := by decide +kernel
theorem dX5_keep_40 : decode cX5_keep 40 = .ok (.aload_n 0, 1) := by decide +kernel
theorem dX5_keep_41 : decode cX5_keep 41 = .ok (.getfield 114, 3) := by decide +kernel
theorem dX5_keep_44 : decode cX5_keep 44 = .ok (.ireturn, 1) := by decide +kernel
theorem dX5_back_0 : decode cX5_back 0 = .ok (.aload_n 0, 1) := by decide +kernel
theorem dX5_back_1 : decode cX5_back 1 = .ok (.getfield 114, 3) := by decide +kernel
theorem dX5_back_4 : decode cX5_back 4 = .ok (.ifCond .ne 6, 3) := by decide +kernel
theorem dX5_back_7 : decode cX5_back 7 = .ok (.bipush (-2), 2) := by decide +kernel
theorem dX5_back_9 : decode cX5_back 9 = .ok (.ireturn, 1) := by decide +kernel
theorem dX5_back_10 : decode cX5_back 10 = .ok (.aload_n 0, 1) := by decide +kernel
theorem dX5_back_11 : decode cX5_back 11 = .ok (.dup, 1) := by decide +kernel
theorem dX5_back_12 : decode cX5_back 12 = .ok (.getfield 114, 3) := by decide +kernel
theorem dX5_back_15 : decode cX5_back 15 = .ok (.iconst 1, 1) := by decide +kernel
theorem dX5_back_16 : decode cX5_back 16 = .ok (.isub, 1) := by decide +kernel
theorem dX5_back_17 : decode cX5_back 17 = .ok (.putfield 114, 3) := by decide +kernel
theorem dX5_back_20 : decode cX5_back 20 = .ok (.aload_n 0, 1) := by decide +kernel
theorem dX5_back_21 : decode cX5_back 21 = .ok (.getfield 13, 3) := by decide +kernel
theorem dX5_back_24 : decode cX5_back 24 = .ok (.iconst 0, 1) := by decide +kernel
theorem dX5_back_25 : decode cX5_back 25 = .ok (.aload_n 0, 1) := by decide +kernel
theorem dX5_back_26 : decode cX5_back 26 = .ok (.getfield 19, 3) := by decide +kernel
theorem dX5_back_29 : decode cX5_back 29 = .ok (.bipush 61, 2) := by decide +kernel
theorem dX5_back_31 : decode cX5_back 31 = .ok (.aload_n 0, 1) := by decide +kernel
theorem dX5_back_32 : decode cX5_back 32 = .ok (.getfield 114, 3) := by decide +kernel
theorem dX5_back_35 : decode cX5_back 35 = .ok (.imul, 1) := by decide +kernel
theorem dX5_back_36 : decode cX5_back 36 = .ok (.invokestatic 107, 3) := by decide +kernel
theorem dX5_back_39 : decode cX5_back 39 = .ok (.aload_n 0, 1) := by decide +kernel
theorem dX5_back_40 : decode cX5_back 40 = .ok (.iconst 0, 1) := by decide +kernel
theorem dX5_back_41 : decode cX5_back 41 = .ok (.putfield 111, 3) := by decide +kernel
theorem dX5_back_44 : decode cX5_back 44 = .ok (.aload_n 0, 1) := by decide +kernel
theorem dX5_back_45 : decode cX5_back 45 = .ok (.getfield 114, 3) := by decide +kernel
theorem dX5_back_48 : decode cX5_back 48 = .ok (.ireturn, 1) := by decide +kernel
theorem dX5_count_0 : decode cX5_count 0 = .ok (.aload_n 0, 1) := by decide +kernel
theorem dX5_count_1 : decode cX5_count 1 = .ok (.invokevirtual 143, 3) := by decide +kernel
theorem dX5_count_4 : decode cX5_count 4 = .ok (.iconst 0, 1) := by decide +kernel
theorem dX5_count_5 : decode cX5_count 5 = .ok (.istore_n 2, 1) := by decide +kernel
theorem dX5_count_6 : decode cX5_count 6 = .ok (.iconst 0, 1) := by decide +kernel
theorem dX5_count_7 : decode cX5_count 7 = .ok (.istore_n 3, 1) := by decide +kernel
theorem dX5_count_8 : decode cX5_count 8 = .ok (.iload_n 3, 1) := by decide +kernel
theorem dX5_count_9 : decode cX5_count 9 = .ok (.aload_n 0, 1) := by decide +kernel
theorem dX5_count_10 : decode cX5_count 10 = .ok (.getfield 67, 3) := by decide +kernel
theorem dX5_count_13 : decode cX5_count 13 = .ok (.if_icmp .ge 17, 3) := by decide +kernel
theorem dX5_count_16 : decode cX5_count 16 = .ok (.iload_n 2, 1) := by decide +kernel
theorem dX5_count_17 : decode cX5_count 17 = .ok (.aload_n 0, 1) := by decide +kernel
theorem dX5_count_18 : decode cX5_count 18 = .ok (.iload_n 3, 1) := by decide +kernel
theorem dX5_count_19 : decode cX5_count 19 = .ok (.invokevirtual 157, 3) := by decide +kernel
theorem dX5_count_22 : decode cX5_count 22 = .ok (.iadd, 1) := by decide +kernel
theorem dX5_count_23 : decode cX5_count 23 = .ok (.istore_n 2, 1) := by decide +kernel
theorem dX5_count_24 : decode cX5_count 24 = .ok (.iinc 3 1, 3) := by decide +kernel
theorem dX5_count_27 : decode cX5_count 27 = .ok (.goto (-19), 3) := by decide +kernel
theorem dX5_count_30 : decode cX5_count 30 = .ok (.iload_n 1, 1) := by decide +kernel
theorem dX5_count_31 : decode cX5_count 31 = .ok (.tableswitch 73 0 6 #[41, 46, 51, 53, 58, 63, 68], 41) := by decide +kernel
theorem dX5_count_72 : decode cX5_count 72 = .ok (.aload_n 0, 1) := by decide +kernel
theorem dX5_count_73 : decode cX5_count 73 = .ok (.getfield 60, 3) := by decide +kernel
theorem dX5_count_76 : decode cX5_count 76 = .ok (.ireturn, 1) := by decide +kernel
theorem dX5_count_77 : decode cX5_count 77 = .ok (.aload_n 0, 1) := by decide +kernel
theorem dX5_count_78 : decode cX5_count 78 = .ok (.getfield 67, 3) := by decide +kernel
theorem dX5_count_81 : decode cX5_count 81 = .ok (.ireturn, 1) := by decide +kernel
theorem dX5_count_82 : decode cX5_count 82 = .ok (.iload_n 2, 1) := by decide +kernel
theorem dX5_count_83 : decode cX5_count 83 = .ok (.ireturn, 1) := by decide +kernel
theorem dX5_count_84 : decode cX5_count 84 = .ok (.aload_n 0, 1) := by decide +kernel
theorem dX5_count_85 : decode cX5_count 85 = .ok (.getfield 117, 3) := by decide +kernel
theorem dX5_count_88 : decode cX5_count 88 = .ok (.ireturn, 1) := by decide +kernel
theorem dX5_count_89 : decode cX5_count 89 = .ok (.aload_n 0, 1) := by decide +kernel
theorem dX5_count_90 : decode cX5_count 90 = .ok (.getfield 111, 3) := by decide +kernel
theorem dX5_count_93 : decode cX5_count 93 = .ok (.ireturn, 1) := by decide +kernel
theorem dX5_count_94 : decode cX5_count 94 = .ok (.aload_n 0, 1) := by decide +kernel
theorem dX5_count_95 : decode cX5_count 95 = .ok (.getfield 114, 3) := by decide +kernel
theorem dX5_count_98 : decode cX5_count 98 = .ok (.ireturn, 1) := by decide +kernel
theorem dX5_count_99 : decode cX5_count 99 = .ok (.aload_n 0, 1) := by decide +kernel
theorem dX5_count_100 : decode cX5_count 100 = .ok (.getfield 70, 3) := by decide +kernel
theorem dX5_count_103 : decode cX5_count 103 = .ok (.ireturn, 1) := by decide +kernel
theorem dX5_count_104 : decode cX5_count 104 = .ok (.iconst (-1), 1) := by decide +kernel
theorem dX5_count_105 : decode cX5_count 105 = .ok (.ireturn, 1) := by decide +kernel
