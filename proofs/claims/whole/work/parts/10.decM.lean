theorem dX12_init_0 : decode cX12_init 0 = .ok (.aload_n 0, 1) := by decide +kernel
theorem dX12_init_1 : decode cX12_init 1 = .ok (.invokespecial 1, 3) := by decide +kernel
theorem dX12_init_4 : decode cX12_init 4 = .ok (.aload_n 0, 1) := by decide +kernel
theorem dX12_init_5 : decode cX12_init 5 = .ok (.bipush 6, 2) := by decide +kernel
theorem dX12_init_7 : decode cX12_init 7 = .ok (.newarray .int, 2) := by decide +kernel
theorem dX12_init_9 : decode cX12_init 9 = .ok (.putfield 7, 3) := by decide +kernel
theorem dX12_init_12 : decode cX12_init 12 = .ok (.aload_n 0, 1) := by decide +kernel
theorem dX12_init_13 : decode cX12_init 13 = .ok (.bipush 48, 2) := by decide +kernel
theorem dX12_init_15 : decode cX12_init 15 = .ok (.newarray .int, 2) := by decide +kernel
theorem dX12_init_17 : decode cX12_init 17 = .ok (.putfield 13, 3) := by decide +kernel
theorem dX12_init_20 : decode cX12_init 20 = .ok (.aload_n 0, 1) := by decide +kernel
theorem dX12_init_21 : decode cX12_init 21 = .ok (.bipush 16, 2) := by decide +kernel
theorem dX12_init_23 : decode cX12_init 23 = .ok (.newarray .int, 2) := by decide +kernel
theorem dX12_init_25 : decode cX12_init 25 = .ok (.putfield 16, 3) := by decide +kernel
theorem dX12_init_28 : decode cX12_init 28 = .ok (.aload_n 0, 1) := by decide +kernel
theorem dX12_init_29 : decode cX12_init 29 = .ok (.sipush 168, 3) := by decide +kernel
theorem dX12_init_32 : decode cX12_init 32 = .ok (.newarray .int, 2) := by decide +kernel
theorem dX12_init_34 : decode cX12_init 34 = .ok (.putfield 19, 3) := by decide +kernel
theorem dX12_init_37 : decode cX12_init 37 = .ok (.aload_n 0, 1) := by decide +kernel
theorem dX12_init_38 : decode cX12_init 38 = .ok (.bipush 8, 2) := by decide +kernel
theorem dX12_init_40 : decode cX12_init 40 = .ok (.newarray .int, 2) := by decide +kernel
theorem dX12_init_42 : decode cX12_init 42 = .ok (.putfield 22, 3) := by decide +kernel
theorem dX12_init_45 : decode cX12_init 45 = .ok (.aload_n 0, 1) := by decide +kernel
theorem dX12_init_46 : decode cX12_init 46 = .ok (.bipush 8, 2) := by decide +kernel
theorem dX12_init_48 : decode cX12_init 48 = .ok (.newarray .int, 2) := by decide +kernel
theorem dX12_init_50 : decode cX12_init 50 = .ok (.putfield 25, 3) := by decide +kernel
theorem dX12_init_53 : decode cX12_init 53 = .ok (.aload_n 0, 1) := by decide +kernel
theorem dX12_init_54 : decode cX12_init 54 = .ok (.sipush 210, 3) := by decide +kernel
theorem dX12_init_57 : decode cX12_init 57 = .ok (.newarray .int, 2) := by decide +kernel
theorem dX12_init_59 : decode cX12_init 59 = .ok (.putfield 28, 3) := by decide +kernel
theorem dX12_init_62 : decode cX12_init 62 = .ok (.aload_n 0, 1) := by decide +kernel
theorem dX12_init_63 : decode cX12_init 63 = .ok (.bipush 6, 2) := by decide +kernel
theorem dX12_init_65 : decode cX12_init 65 = .ok (.newarray .int, 2) := by decide +kernel
theorem dX12_init_67 : decode cX12_init 67 = .ok (.putfield 31, 3) := by decide +kernel
theorem dX12_init_70 : decode cX12_init 70 = .ok (.aload_n 0, 1) := by decide +kernel
theorem dX12_init_71 : decode cX12_init 71 = .ok (.bipush 6, 2) := by decide +kernel
theorem dX12_init_73 : decode cX12_init 73 = .ok (.newarray .int, 2) := by decide +kernel
theorem dX12_init_75 : decode cX12_init 75 = .ok (.putfield 34, 3) := by decide +kernel
theorem dX12_init_78 : decode cX12_init 78 = .ok (.aload_n 0, 1) := by decide +kernel
theorem dX12_init_79 : decode cX12_init 79 = .ok (.bipush 6, 2) := by decide +kernel
theorem dX12_init_81 : decode cX12_init 81 = .ok (.newarray .int, 2) := by decide +kernel
theorem dX12_init_83 : decode cX12_init 83 = .ok (.putfield 37, 3) := by decide +kernel
theorem dX12_init_86 : decode cX12_init 86 = .ok (.aload_n 0, 1) := by decide +kernel
theorem dX12_init_87 : decode cX12_init 87 = .ok (.bipush 8, 2) := by decide +kernel
theorem dX12_init_89 : decode cX12_init 89 = .ok (.newarray .int, 2) := by decide +kernel
theorem dX12_init_91 : decode cX12_init 91 = .ok (.putfield 40, 3) := by decide +kernel
theorem dX12_init_94 : decode cX12_init 94 = .ok (.aload_n 0, 1) := by decide +kernel
theorem dX12_init_95 : decode cX12_init 95 = .ok (.bipush 8, 2) := by decide +kernel
theorem dX12_init_97 : decode cX12_init 97 = .ok (.newarray .int, 2) := by decide +kernel
theorem dX12_init_99 : decode cX12_init 99 = .ok (.putfield 43, 3) := by decide +kernel
theorem dX12_init_102 : decode cX12_init 102 = .ok (.aload_n 0, 1) := by decide +kernel
theorem dX12_init_103 : decode cX12_init 103 = .ok (.bipush 8, 2) := by decide +kernel
theorem dX12_init_105 : decode cX12_init 105 = .ok (.newarray .boolean, 2) := by decide +kernel
theorem dX12_init_107 : decode cX12_init 107 = .ok (.putfield 46, 3) := by decide +kernel
theorem dX12_init_110 : decode cX12_init 110 = .ok (.aload_n 0, 1) := by decide +kernel
theorem dX12_init_111 : decode cX12_init 111 = .ok (.sipush 200, 3) := by decide +kernel
theorem dX12_init_114 : decode cX12_init 114 = .ok (.newarray .int, 2) := by decide +kernel
theorem dX12_init_116 : decode cX12_init 116 = .ok (.putfield 50, 3) := by decide +kernel
theorem dX12_init_119 : decode cX12_init 119 = .ok (.aload_n 0, 1) := by decide +kernel
theorem dX12_init_120 : decode cX12_init 120 = .ok (.sipush 210, 3) := by decide +kernel
theorem dX12_init_123 : decode cX12_init 123 = .ok (.newarray .int, 2) := by decide +kernel
theorem dX12_init_125 : decode cX12_init 125 = .ok (.putfield 53, 3) := by decide +kernel
theorem dX12_init_128 : decode cX12_init 128 = .ok (.aload_n 0, 1) := by decide +kernel
theorem dX12_init_129 : decode cX12_init 129 = .ok (.sipush 210, 3) := by decide +kernel
theorem dX12_init_132 : decode cX12_init 132 = .ok (.newarray .int, 2) := by decide +kernel
theorem dX12_init_134 : decode cX12_init 134 = .ok (.putfield 56, 3) := by decide +kernel
theorem dX12_init_137 : decode cX12_init 137 = .ok (.aload_n 0, 1) := by decide +kernel
theorem dX12_init_138 : decode cX12_init 138 = .ok (.bipush 8, 2) := by decide +kernel
theorem dX12_init_140 : decode cX12_init 140 = .ok (.newarray .int, 2) := by decide +kernel
theorem dX12_init_142 : decode cX12_init 142 = .ok (.putfield 59, 3) := by decide +kernel
theorem dX12_init_145 : decode cX12_init 145 = .ok (.aload_n 0, 1) := by decide +kernel
theorem dX12_init_146 : decode cX12_init 146 = .ok (.bipush 8, 2) := by decide +kernel
theorem dX12_init_148 : decode cX12_init 148 = .ok (.newarray .int, 2) := by decide +kernel
theorem dX12_init_150 : decode cX12_init 150 = .ok (.putfield 62, 3) := by decide +kernel
theorem dX12_init_153 : decode cX12_init 153 = .ok (.aload_n 0, 1) := by decide +kernel
theorem dX12_init_154 : decode cX12_init 154 = .ok (.iconst 4, 1) := by decide +kernel
theorem dX12_init_155 : decode cX12_init 155 = .ok (.newarray .int, 2) := by decide +kernel
theorem dX12_init_157 : decode cX12_init 157 = .ok (.putfield 65, 3) := by decide +kernel
theorem dX12_init_160 : decode cX12_init 160 = .ok (.aload_n 0, 1) := by decide +kernel
theorem dX12_init_161 : decode cX12_init 161 = .ok (.sipush 210, 3) := by decide +kernel
theorem dX12_init_164 : decode cX12_init 164 = .ok (.newarray .int, 2) := by decide +kernel
theorem dX12_init_166 : decode cX12_init 166 = .ok (.putfield 68, 3) := by decide +kernel
theorem dX12_init_169 : decode cX12_init 169 = .ok (.aload_n 0, 1) := by decide +kernel
theorem dX12_init_170 : decode cX12_init 170 = .ok (.bipush 18, 2) := by decide +kernel
theorem dX12_init_172 : decode cX12_init 172 = .ok (.newarray .int, 2) := by decide +kernel
theorem dX12_init_174 : decode cX12_init 174 = .ok (.putfield 71, 3) := by decide +kernel
theorem dX12_init_177 : decode cX12_init 177 = .ok (.aload_n 0, 1) := by decide +kernel
theorem dX12_init_178 : decode cX12_init 178 = .ok (.iconst 4, 1) := by decide +kernel
theorem dX12_init_179 : decode cX12_init 179 = .ok (.newarray .int, 2) := by decide +kernel
theorem dX12_init_181 : decode cX12_init 181 = .ok (.dup, 1) := by decide +kernel
theorem dX12_init_182 : decode cX12_init 182 = .ok (.iconst 0, 1) := by decide +kernel
theorem dX12_init_183 : decode cX12_init 183 = .ok (.iconst (-1), 1) := by decide +kernel
theorem dX12_init_184 : decode cX12_init 184 = .ok (.iastore, 1) := by decide +kernel
theorem dX12_init_185 : decode cX12_init 185 = .ok (.dup, 1) := by decide +kernel
theorem dX12_init_186 : decode cX12_init 186 = .ok (.iconst 1, 1) := by decide +kernel
theorem dX12_init_187 : decode cX12_init 187 = .ok (.iconst (-1), 1) := by decide +kernel
theorem dX12_init_188 : decode cX12_init 188 = .ok (.iastore, 1) := by decide +kernel
theorem dX12_init_189 : decode cX12_init 189 = .ok (.dup, 1) := by decide +kernel
theorem dX12_init_190 : decode cX12_init 190 = .ok (.iconst 2, 1) := by decide +kernel
theorem dX12_init_191 : decode cX12_init 191 = .ok (.iconst (-1), 1) := by decide +kernel
theorem dX12_init_192 : decode cX12_init 192 = .ok (.iastore, 1) := by decide +kernel
theorem dX12_init_193 : decode cX12_init 193 = .ok (.dup, 1) := by decide +kernel
theorem dX12_init_194 : decode cX12_init 194 = .ok (.iconst 3, 1) := by decide +kernel
theorem dX12_init_195 : decode cX12_init 195 = .ok (.iconst (-1), 1) := by decide +kernel
theorem dX12_init_196 : decode cX12_init 196 = .ok (.iastore, 1) := by decide +kernel
theorem dX12_init_197 : decode cX12_init 197 = .ok (.putfield 74, 3) := by decide +kernel
theorem dX12_init_200 : decode cX12_init 200 = .ok (.aload_n 0, 1) := by decide +kernel
theorem dX12_init_201 : decode cX12_init 201 = .ok (.iconst 4, 1) := by decide +kernel
theorem dX12_init_202 : decode cX12_init 202 = .ok (.newarray .int, 2) := by decide +kernel
theorem dX12_init_204 : decode cX12_init 204 = .ok (.putfield 77, 3) := by decide +kernel
theorem dX12_init_207 : decode cX12_init 207 = .ok (.aload_n 0, 1) := by decide +kernel
theorem dX12_init_208 : decode cX12_init 208 = .ok (.sipush 160, 3) := by decide +kernel
theorem dX12_init_211 : decode cX12_init 211 = .ok (.newarray .long, 2) := by decide +kernel
theorem dX12_init_213 : decode cX12_init 213 = .ok (.putfield 80, 3) := by decide +kernel
theorem dX12_init_216 : decode cX12_init 216 = .ok (.aload_n 0, 1) := by decide +kernel
theorem dX12_init_217 : decode cX12_init 217 = .ok (.iconst 4, 1) := by decide +kernel
theorem dX12_init_218 : decode cX12_init 218 = .ok (.newarray .int, 2) := by decide +kernel
theorem dX12_init_220 : decode cX12_init 220 = .ok (.dup, 1) := by decide +kernel
theorem dX12_init_221 : decode cX12_init 221 = .ok (.iconst 0, 1) := by decide +kernel
theorem dX12_init_222 : decode cX12_init 222 = .ok (.iconst (-1), 1) := by decide +kernel
theorem dX12_init_223 : decode cX12_init 223 = .ok (.iastore, 1) := by decide +kernel
theorem dX12_init_224 : decode cX12_init 224 = .ok (.dup, 1) := by decide +kernel
theorem dX12_init_225 : decode cX12_init 225 = .ok (.iconst 1, 1) := by decide +kernel
theorem dX12_init_226 : decode cX12_init 226 = .ok (.iconst (-1), 1) := by decide +kernel
theorem dX12_init_227 : decode cX12_init 227 = .ok (.iastore, 1) := by decide +kernel
theorem dX12_init_228 : decode cX12_init 228 = .ok (.dup, 1) := by decide +kernel
theorem dX12_init_229 : decode cX12_init 229 = .ok (.iconst 2, 1) := by decide +kernel
theorem dX12_init_230 : decode cX12_init 230 = .ok (.iconst (-1), 1) := by decide +kernel
theorem dX12_init_231 : decode cX12_init 231 = .ok (.iastore, 1) := by decide +kernel
theorem dX12_init_232 : decode cX12_init 232 = .ok (.dup, 1) := by decide +kernel
theorem dX12_init_233 : decode cX12_init 233 = .ok (.iconst 3, 1) := by decide +kernel
theorem dX12_init_234 : decode cX12_init 234 = .ok (.iconst (-1), 1) := by decide +kernel
theorem dX12_init_235 : decode cX12_init 235 = .ok (.iastore, 1) := by decide +kernel
theorem dX12_init_236 : decode cX12_init 236 = .ok (.putfield 84, 3) := by decide +kernel
theorem dX12_init_239 : decode cX12_init 239 = .ok (.aload_n 0, 1) := by decide +kernel
theorem dX12_init_240 : decode cX12_init 240 = .ok (.iconst 4, 1) := by decide +kernel
theorem dX12_init_241 : decode cX12_init 241 = .ok (.newarray .int, 2) := by decide +kernel
theorem dX12_init_243 : decode cX12_init 243 = .ok (.putfield 87, 3) := by decide +kernel
theorem dX12_init_246 : decode cX12_init 246 = .ok (.aload_n 0, 1) := by decide +kernel
theorem dX12_init_247 : decode cX12_init 247 = .ok (.iconst 4, 1) := by decide +kernel
theorem dX12_init_248 : decode cX12_init 248 = .ok (.newarray .int, 2) := by decide +kernel
theorem dX12_init_250 : decode cX12_init 250 = .ok (.putfield 90, 3) := by decide +kernel
theorem dX12_init_253 : decode cX12_init 253 = .ok (.aload_n 0, 1) := by decide +kernel
theorem dX12_init_254 : decode cX12_init 254 = .ok (.bipush 30, 2) := by decide +kernel
theorem dX12_init_256 : decode cX12_init 256 = .ok (.newarray .int, 2) := by decide +kernel
theorem dX12_init_258 : decode cX12_init 258 = .ok (.putfield 93, 3) := by decide +kernel
theorem dX12_init_261 : decode cX12_init 261 = .ok (.aload_n 0, 1) := by decide +kernel
theorem dX12_init_262 : decode cX12_init 262 = .ok (.sipush 500, 3) := by decide +kernel
theorem dX12_init_265 : decode cX12_init 265 = .ok (.newarray .int, 2) := by decide +kernel
theorem dX12_init_267 : decode cX12_init 267 = .ok (.putfield 96, 3) := by decide +kernel
theorem dX12_init_270 : decode cX12_init 270 = .ok (.aload_n 0, 1) := by decide +kernel
theorem dX12_init_271 : decode cX12_init 271 = .ok (.bipush 6, 2) := by decide +kernel
theorem dX12_init_273 : decode cX12_init 273 = .ok (.newarray .int, 2) := by decide +kernel
theorem dX12_init_275 : decode cX12_init 275 = .ok (.putfield 99, 3) := by decide +kernel
theorem dX12_init_278 : decode cX12_init 278 = .ok (.return_, 1) := by decide +kernel
theorem dX12_in_0 : decode cX12_in 0 = .ok (.iload_n 0, 1) := by decide +kernel
theorem dX12_in_1 : decode cX12_in 1 = .ok (.iload_n 1, 1) := by decide +kernel
theorem dX12_in_2 : decode cX12_in 2 = .ok (.if_icmp .lt 12, 3) := by decide +kernel
theorem dX12_in_5 : decode cX12_in 5 = .ok (.iload_n 0, 1) := by decide +kernel
theorem dX12_in_6 : decode cX12_in 6 = .ok (.iload_n 2, 1) := by decide +kernel
theorem dX12_in_7 : decode cX12_in 7 = .ok (.if_icmp .gt 7, 3) := by decide +kernel
theorem dX12_in_10 : decode cX12_in 10 = .ok (.iconst 1, 1) := by decide +kernel
theorem dX12_in_11 : decode cX12_in 11 = .ok (.goto 4, 3) := by decide +kernel
theorem dX12_in_14 : decode cX12_in 14 = .ok (.iconst 0, 1) := by decide +kernel
theorem dX12_in_15 : decode cX12_in 15 = .ok (.ireturn, 1) := by decide +kernel
theorem dX12_isStation_0 : decode cX12_isStation 0 = .ok (.iload_n 1, 1) := by decide +kernel
theorem dX12_isStation_1 : decode cX12_isStation 1 = .ok (.iconst 0, 1) := by decide +kernel
theorem dX12_isStation_2 : decode cX12_isStation 2 = .ok (.aload_n 0, 1) := by decide +kernel
theorem dX12_isStation_3 : decode cX12_isStation 3 = .ok (.getfield 102, 3) := by decide +kernel
theorem dX12_isStation_6 : decode cX12_isStation 6 = .ok (.iconst 1, 1) := by decide +kernel
theorem dX12_isStation_7 : decode cX12_isStation 7 = .ok (.isub, 1) := by decide +kernel
theorem dX12_isStation_8 : decode cX12_isStation 8 = .ok (.invokestatic 106, 3) := by decide +kernel
theorem dX12_isStation_11 : decode cX12_isStation 11 = .ok (.ireturn, 1) := by decide +kernel
theorem dX12_isPoint_0 : decode cX12_isPoint 0 = .ok (.iload_n 1, 1) := by decide +kernel
theorem dX12_isPoint_1 : decode cX12_isPoint 1 = .ok (.iconst 0, 1) := by decide +kernel
theorem dX12_isPoint_2 : decode cX12_isPoint 2 = .ok (.aload_n 0, 1) := by decide +kernel
theorem dX12_isPoint_3 : decode cX12_isPoint 3 = .ok (.getfield 110, 3) := by decide +kernel
theorem dX12_isPoint_6 : decode cX12_isPoint 6 = .ok (.iconst 1, 1) := by decide +kernel
theorem dX12_isPoint_7 : decode cX12_isPoint 7 = .ok (.isub, 1) := by decide +kernel
theorem dX12_isPoint_8 : decode cX12_isPoint 8 = .ok (.invokestatic 106, 3) := by decide +kernel
theorem dX12_isPoint_11 : decode cX12_isPoint 11 = .ok (.ireturn, 1) := by decide +kernel
theorem dX12_isSight_0 : decode cX12_isSight 0 = .ok (.iload_n 1, 1) := by decide +kernel
theorem dX12_isSight_1 : decode cX12_isSight 1 = .ok (.iconst 0, 1) := by decide +kernel
theorem dX12_isSight_2 : decode cX12_isSight 2 = .ok (.aload_n 0, 1) := by decide +kernel
theorem dX12_isSight_3 : decode cX12_isSight 3 = .ok (.getfield 113, 3) := by decide +kernel
theorem dX12_isSight_6 : decode cX12_isSight 6 = .ok (.iconst 1, 1) := by decide +kernel
theorem dX12_isSight_7 : decode cX12_isSight 7 = .ok (.isub, 1) := by decide +kernel
theorem dX12_isSight_8 : decode cX12_isSight 8 = .ok (.invokestatic 106, 3) := by decide +kernel
theorem dX12_isSight_11 : decode cX12_isSight 11 = .ok (.ireturn, 1) := by decide +kernel
theorem dX12_station_0 : decode cX12_station 0 = .ok (.iload_n 1, 1) := by decide +kernel
theorem dX12_station_1 : decode cX12_station 1 = .ok (.iconst 0, 1) := by decide +kernel
theorem dX12_station_2 : decode cX12_station 2 = .ok (.bipush 99, 2) := by decide +kernel
theorem dX12_station_4 : decode cX12_station 4 = .ok (.invokestatic 106, 3) := by decide +kernel
theorem dX12_station_7 : decode cX12_station 7 = .ok (.ifCond .ne 5, 3) := by decide +kernel
theorem dX12_station_10 : decode cX12_station 10 = .ok (.iconst (-1), 1) := by decide +kernel
theorem dX12_station_11 : decode cX12_station 11 = .ok (.ireturn, 1) := by decide +kernel
theorem dX12_station_12 : decode cX12_station 12 = .ok (.aload_n 0, 1) := by decide +kernel
theorem dX12_station_13 : decode cX12_station 13 = .ok (.getfield 102, 3) := by decide +kernel
theorem dX12_station_16 : decode cX12_station 16 = .ok (.bipush 6, 2) := by decide +kernel
theorem dX12_station_18 : decode cX12_station 18 = .ok (.if_icmp .ne 6, 3) := by decide +kernel
theorem dX12_station_21 : decode cX12_station 21 = .ok (.bipush (-2), 2) := by decide +kernel
theorem dX12_station_23 : decode cX12_station 23 = .ok (.ireturn, 1) := by decide +kernel
theorem dX12_station_24 : decode cX12_station 24 = .ok (.aload_n 0, 1) := by decide +kernel
theorem dX12_station_25 : decode cX12_station 25 = .ok (.getfield 7, 3) := by decide +kernel
theorem dX12_station_28 : decode cX12_station 28 = .ok (.aload_n 0, 1) := by decide +kernel
theorem dX12_station_29 : decode cX12_station 29 = .ok (.getfield 102, 3) := by decide +kernel
theorem dX12_station_32 : decode cX12_station 32 = .ok (.iload_n 1, 1) := by decide +kernel
theorem dX12_station_33 : decode cX12_station 33 = .ok (.iastore, 1) := by decide +kernel
theorem dX12_station_34 : decode cX12_station 34 = .ok (.aload_n 0, 1) := by decide +kernel
theorem dX12_station_35 : decode cX12_station 35 = .ok (.dup, 1) := by decide +kernel
theorem dX12_station_36 : decode cX12_station 36 = .ok (.getfield 102, 3) := by decide +kernel
theorem dX12_station_39 : decode cX12_station 39 = .ok (.iconst 1, 1) := by decide +kernel
theorem dX12_station_40 : decode cX12_station 40 = .ok (.iadd, 1) := by decide +kernel
theorem dX12_station_41 : decode cX12_station 41 = .ok (.putfield 102, 3) := by decide +kernel
theorem dX12_station_44 : decode cX12_station 44 = .ok (.aload_n 0, 1) := by decide +kernel
theorem dX12_station_45 : decode cX12_station 45 = .ok (.getfield 102, 3) := by decide +kernel
theorem dX12_station_48 : decode cX12_station 48 = .ok (.iconst 1, 1) := by decide +kernel
theorem dX12_station_49 : decode cX12_station 49 = .ok (.isub, 1) := by decide +kernel
theorem dX12_station_50 : decode cX12_station 50 = .ok (.ireturn, 1) := by decide +kernel
theorem dX12_leg_0 : decode cX12_leg 0 = .ok (.aload_n 0, 1) := by decide +kernel
theorem dX12_leg_1 : decode cX12_leg 1 = .ok (.iload_n 1, 1) := by decide +kernel
theorem dX12_leg_2 : decode cX12_leg 2 = .ok (.invokevirtual 116, 3) := by decide +kernel
theorem dX12_leg_5 : decode cX12_leg 5 = .ok (.ifCond .eq 38, 3) := by decide +kernel
theorem dX12_leg_8 : decode cX12_leg 8 = .ok (.aload_n 0, 1) := by decide +kernel
theorem dX12_leg_9 : decode cX12_leg 9 = .ok (.iload_n 2, 1) := by decide +kernel
theorem dX12_leg_10 : decode cX12_leg 10 = .ok (.invokevirtual 116, 3) := by decide +kernel
theorem dX12_leg_13 : decode cX12_leg 13 = .ok (.ifCond .eq 30, 3) := by decide +kernel
theorem dX12_leg_16 : decode cX12_leg 16 = .ok (.iload_n 1, 1) := by decide +kernel
theorem dX12_leg_17 : decode cX12_leg 17 = .ok (.iload_n 2, 1) := by decide +kernel
theorem dX12_leg_18 : decode cX12_leg 18 = .ok (.if_icmp .eq 25, 3) := by decide +kernel
theorem dX12_leg_21 : decode cX12_leg 21 = .ok (.iload_n 3, 1) := by decide +kernel
theorem dX12_leg_22 : decode cX12_leg 22 = .ok (.bipush (-99), 2) := by decide +kernel
theorem dX12_leg_24 : decode cX12_leg 24 = .ok (.bipush 99, 2) := by decide +kernel
theorem dX12_leg_26 : decode cX12_leg 26 = .ok (.invokestatic 106, 3) := by decide +kernel
theorem dX12_leg_29 : decode cX12_leg 29 = .ok (.ifCond .eq 14, 3) := by decide +kernel
theorem dX12_leg_32 : decode cX12_leg 32 = .ok (.iload 4, 2) := by decide +kernel
theorem dX12_leg_34 : decode cX12_leg 34 = .ok (.iconst 1, 1) := by decide +kernel
theorem dX12_leg_35 : decode cX12_leg 35 = .ok (.bipush 9, 2) := by decide +kernel
theorem dX12_leg_37 : decode cX12_leg 37 = .ok (.invokestatic 106, 3) := by decide +kernel
theorem dX12_leg_40 : decode cX12_leg 40 = .ok (.ifCond .ne 5, 3) := by decide +kernel
theorem dX12_leg_43 : decode cX12_leg 43 = .ok (.iconst (-1), 1) := by decide +kernel
theorem dX12_leg_44 : decode cX12_leg 44 = .ok (.ireturn, 1) := by decide +kernel
theorem dX12_leg_45 : decode cX12_leg 45 = .ok (.aload_n 0, 1) := by decide +kernel
theorem dX12_leg_46 : decode cX12_leg 46 = .ok (.getfield 120, 3) := by decide +kernel
theorem dX12_leg_49 : decode cX12_leg 49 = .ok (.bipush 12, 2) := by decide +kernel
theorem dX12_leg_51 : decode cX12_leg 51 = .ok (.if_icmp .ne 6, 3) := by decide +kernel
theorem dX12_leg_54 : decode cX12_leg 54 = .ok (.bipush (-2), 2) := by decide +kernel
theorem dX12_leg_56 : decode cX12_leg 56 = .ok (.ireturn, 1) := by decide +kernel
theorem dX12_leg_57 : decode cX12_leg 57 = .ok (.aload_n 0, 1) := by decide +kernel
theorem dX12_leg_58 : decode cX12_leg 58 = .ok (.getfield 13, 3) := by decide +kernel
theorem dX12_leg_61 : decode cX12_leg 61 = .ok (.iconst 4, 1) := by decide +kernel
theorem dX12_leg_62 : decode cX12_leg 62 = .ok (.aload_n 0, 1) := by decide +kernel
theorem dX12_leg_63 : decode cX12_leg 63 = .ok (.getfield 120, 3) := by decide +kernel
theorem dX12_leg_66 : decode cX12_leg 66 = .ok (.imul, 1) := by decide +kernel
theorem dX12_leg_67 : decode cX12_leg 67 = .ok (.iload_n 1, 1) := by decide +kernel
theorem dX12_leg_68 : decode cX12_leg 68 = .ok (.iastore, 1) := by decide +kernel
theorem dX12_leg_69 : decode cX12_leg 69 = .ok (.aload_n 0, 1) := by decide +kernel
theorem dX12_leg_70 : decode cX12_leg 70 = .ok (.getfield 13, 3) := by decide +kernel
theorem dX12_leg_73 : decode cX12_leg 73 = .ok (.iconst 4, 1) := by decide +kernel
theorem dX12_leg_74 : decode cX12_leg 74 = .ok (.aload_n 0, 1) := by decide +kernel
theorem dX12_leg_75 : decode cX12_leg 75 = .ok (.getfield 120, 3) := by decide +kernel
theorem dX12_leg_78 : decode cX12_leg 78 = .ok (.imul, 1) := by decide +kernel
theorem dX12_leg_79 : decode cX12_leg 79 = .ok (.iconst 1, 1) := by decide +kernel
theorem dX12_leg_80 : decode cX12_leg 80 = .ok (.iadd, 1) := by decide +kernel
theorem dX12_leg_81 : decode cX12_leg 81 = .ok (.iload_n 2, 1) := by decide +kernel
theorem dX12_leg_82 : decode cX12_leg 82 = .ok (.iastore, 1) := by decide +kernel
theorem dX12_leg_83 : decode cX12_leg 83 = .ok (.aload_n 0, 1) := by decide +kernel
theorem dX12_leg_84 : decode cX12_leg 84 = .ok (.getfield 13, 3) := by decide +kernel
theorem dX12_leg_87 : decode cX12_leg 87 = .ok (.iconst 4, 1) := by decide +kernel
theorem dX12_leg_88 : decode cX12_leg 88 = .ok (.aload_n 0, 1) := by decide +kernel
theorem dX12_leg_89 : decode cX12_leg 89 = .ok (.getfield 120, 3) := by decide +kernel
theorem dX12_leg_92 : decode cX12_leg 92 = .ok (.imul, 1) := by decide +kernel
theorem dX12_leg_93 : decode cX12_leg 93 = .ok (.iconst 2, 1) := by decide +kernel
theorem dX12_leg_94 : decode cX12_leg 94 = .ok (.iadd, 1) := by decide +kernel
theorem dX12_leg_95 : decode cX12_leg 95 = .ok (.iload_n 3, 1) := by decide +kernel
theorem dX12_leg_96 : decode cX12_leg 96 = .ok (.iastore, 1) := by decide +kernel
theorem dX12_leg_97 : decode cX12_leg 97 = .ok (.aload_n 0, 1) := by decide +kernel
theorem dX12_leg_98 : decode cX12_leg 98 = .ok (.getfield 13, 3) := by decide +kernel
theorem dX12_leg_101 : decode cX12_leg 101 = .ok (.iconst 4, 1) := by decide +kernel
theorem dX12_leg_102 : decode cX12_leg 102 = .ok (.aload_n 0, 1) := by decide +kernel
theorem dX12_leg_103 : decode cX12_leg 103 = .ok (.getfield 120, 3) := by decide +kernel
theorem dX12_leg_106 : decode cX12_leg 106 = .ok (.imul, 1) := by decide +kernel
theorem dX12_leg_107 : decode cX12_leg 107 = .ok (.iconst 3, 1) := by decide +kernel
theorem dX12_leg_108 : decode cX12_leg 108 = .ok (.iadd, 1) := by decide +kernel
theorem dX12_leg_109 : decode cX12_leg 109 = .ok (.iload 4, 2) := by decide +kernel
theorem dX12_leg_111 : decode cX12_leg 111 = .ok (.iastore, 1) := by decide +kernel
theorem dX12_leg_112 : decode cX12_leg 112 = .ok (.aload_n 0, 1) := by decide +kernel
theorem dX12_leg_113 : decode cX12_leg 113 = .ok (.dup, 1) := by decide +kernel
theorem dX12_leg_114 : decode cX12_leg 114 = .ok (.getfield 120, 3) := by decide +kernel
theorem dX12_leg_117 : decode cX12_leg 117 = .ok (.iconst 1, 1) := by decide +kernel
theorem dX12_leg_118 : decode cX12_leg 118 = .ok (.iadd, 1) := by decide +kernel
theorem dX12_leg_119 : decode cX12_leg 119 = .ok (.putfield 120, 3) := by decide +kernel
theorem dX12_leg_122 : decode cX12_leg 122 = .ok (.aload_n 0, 1) := by decide +kernel
theorem dX12_leg_123 : decode cX12_leg 123 = .ok (.getfield 120, 3) := by decide +kernel
theorem dX12_leg_126 : decode cX12_leg 126 = .ok (.iconst 1, 1) := by decide +kernel
theorem dX12_leg_127 : decode cX12_leg 127 = .ok (.isub, 1) := by decide +kernel
theorem dX12_leg_128 : decode cX12_leg 128 = .ok (.ireturn, 1) := by decide +kernel
theorem dX12_mend_0 : decode cX12_mend 0 = .ok (.iload_n 1, 1) := by decide +kernel
theorem dX12_mend_1 : decode cX12_mend 1 = .ok (.iconst 0, 1) := by decide +kernel
theorem dX12_mend_2 : decode cX12_mend 2 = .ok (.aload_n 0, 1) := by decide +kernel
theorem dX12_mend_3 : decode cX12_mend 3 = .ok (.getfield 120, 3) := by decide +kernel
theorem dX12_mend_6 : decode cX12_mend 6 = .ok (.iconst 1, 1) := by decide +kernel
theorem dX12_mend_7 : decode cX12_mend 7 = .ok (.isub, 1) := by decide +kernel
theorem dX12_mend_8 : decode cX12_mend 8 = .ok (.invokestatic 106, 3) := by decide +kernel
theorem dX12_mend_11 : decode cX12_mend 11 = .ok (.ifCond .eq 40, 3) := by decide +kernel
theorem dX12_mend_14 : decode cX12_mend 14 = .ok (.iload_n 2, 1) := by decide +kernel
theorem dX12_mend_15 : decode cX12_mend 15 = .ok (.iconst 0, 1) := by decide +kernel
theorem dX12_mend_16 : decode cX12_mend 16 = .ok (.iconst 1, 1) := by decide +kernel
theorem dX12_mend_17 : decode cX12_mend 17 = .ok (.invokestatic 106, 3) := by decide +kernel
theorem dX12_mend_20 : decode cX12_mend 20 = .ok (.ifCond .eq 31, 3) := by decide +kernel
theorem dX12_mend_23 : decode cX12_mend 23 = .ok (.iload_n 3, 1) := by decide +kernel
theorem dX12_mend_24 : decode cX12_mend 24 = .ok (.iload_n 2, 1) := by decide +kernel
theorem dX12_mend_25 : decode cX12_mend 25 = .ok (.ifCond .ne 8, 3) := by decide +kernel
theorem dX12_mend_28 : decode cX12_mend 28 = .ok (.bipush (-99), 2) := by decide +kernel
theorem dX12_mend_30 : decode cX12_mend 30 = .ok (.goto 4, 3) := by decide +kernel
theorem dX12_mend_33 : decode cX12_mend 33 = .ok (.iconst 1, 1) := by decide +kernel
theorem dX12_mend_34 : decode cX12_mend 34 = .ok (.iload_n 2, 1) := by decide +kernel
theorem dX12_mend_35 : decode cX12_mend 35 = .ok (.ifCond .ne 8, 3) := by decide +kernel
theorem dX12_mend_38 : decode cX12_mend 38 = .ok (.bipush 99, 2) := by decide +kernel
theorem dX12_mend_40 : decode cX12_mend 40 = .ok (.goto 5, 3) := by decide +kernel
theorem dX12_mend_43 : decode cX12_mend 43 = .ok (.bipush 9, 2) := by decide +kernel
theorem dX12_mend_45 : decode cX12_mend 45 = .ok (.invokestatic 106, 3) := by decide +kernel
theorem dX12_mend_48 : decode cX12_mend 48 = .ok (.ifCond .ne 6, 3) := by decide +kernel
theorem dX12_mend_51 : decode cX12_mend 51 = .ok (.ldc 123, 2) := by decide +kernel
theorem dX12_mend_53 : decode cX12_mend 53 = .ok (.ireturn, 1) := by decide +kernel
theorem dX12_mend_54 : decode cX12_mend 54 = .ok (.aload_n 0, 1) := by decide +kernel
theorem dX12_mend_55 : decode cX12_mend 55 = .ok (.getfield 13, 3) := by decide +kernel
theorem dX12_mend_58 : decode cX12_mend 58 = .ok (.iconst 4, 1) := by decide +kernel
theorem dX12_mend_59 : decode cX12_mend 59 = .ok (.iload_n 1, 1) := by decide +kernel
theorem dX12_mend_60 : decode cX12_mend 60 = .ok (.imul, 1) := by decide +kernel
theorem dX12_mend_61 : decode cX12_mend 61 = .ok (.iconst 2, 1) := by decide +kernel
theorem dX12_mend_62 : decode cX12_mend 62 = .ok (.iadd, 1) := by decide +kernel
theorem dX12_mend_63 : decode cX12_mend 63 = .ok (.iload_n 2, 1) := by decide +kernel
theorem dX12_mend_64 : decode cX12_mend 64 = .ok (.iadd, 1) := by decide +kernel
theorem dX12_mend_65 : decode cX12_mend 65 = .ok (.iaload, 1) := by decide +kernel
theorem dX12_mend_66 : decode cX12_mend 66 = .ok (.istore 4, 2) := by decide +kernel
theorem dX12_mend_68 : decode cX12_mend 68 = .ok (.aload_n 0, 1) := by decide +kernel
theorem dX12_mend_69 : decode cX12_mend 69 = .ok (.getfield 13, 3) := by decide +kernel
theorem dX12_mend_72 : decode cX12_mend 72 = .ok (.iconst 4, 1) := by decide +kernel
theorem dX12_mend_73 : decode cX12_mend 73 = .ok (.iload_n 1, 1) := by decide +kernel
theorem dX12_mend_74 : decode cX12_mend 74 = .ok (.imul, 1) := by decide +kernel
theorem dX12_mend_75 : decode cX12_mend 75 = .ok (.iconst 2, 1) := by decide +kernel
theorem dX12_mend_76 : decode cX12_mend 76 = .ok (.iadd, 1) := by decide +kernel
theorem dX12_mend_77 : decode cX12_mend 77 = .ok (.iload_n 2, 1) := by decide +kernel
theorem dX12_mend_78 : decode cX12_mend 78 = .ok (.iadd, 1) := by decide +kernel
theorem dX12_mend_79 : decode cX12_mend 79 = .ok (.iload_n 3, 1) := by decide +kernel
theorem dX12_mend_80 : decode cX12_mend 80 = .ok (.iastore, 1) := by decide +kernel
theorem dX12_mend_81 : decode cX12_mend 81 = .ok (.iload 4, 2) := by decide +kernel
theorem dX12_mend_83 : decode cX12_mend 83 = .ok (.ireturn, 1) := by decide +kernel
theorem dX12_nearer_0 : decode cX12_nearer 0 = .ok (.aload_n 0, 1) := by decide +kernel
theorem dX12_nearer_1 : decode cX12_nearer 1 = .ok (.getfield 31, 3) := by decide +kernel
theorem dX12_nearer_4 : decode cX12_nearer 4 = .ok (.iload_n 1, 1) := by decide +kernel
theorem dX12_nearer_5 : decode cX12_nearer 5 = .ok (.iaload, 1) := by decide +kernel
theorem dX12_nearer_6 : decode cX12_nearer 6 = .ok (.iload_n 3, 1) := by decide +kernel
theorem dX12_nearer_7 : decode cX12_nearer 7 = .ok (.iadd, 1) := by decide +kernel
theorem dX12_nearer_8 : decode cX12_nearer 8 = .ok (.aload_n 0, 1) := by decide +kernel
theorem dX12_nearer_9 : decode cX12_nearer 9 = .ok (.getfield 31, 3) := by decide +kernel
theorem dX12_nearer_12 : decode cX12_nearer 12 = .ok (.iload_n 2, 1) := by decide +kernel
theorem dX12_nearer_13 : decode cX12_nearer 13 = .ok (.iaload, 1) := by decide +kernel
theorem dX12_nearer_14 : decode cX12_nearer 14 = .ok (.if_icmp .ge 17, 3) := by decide +kernel
theorem dX12_nearer_17 : decode cX12_nearer 17 = .ok (.aload_n 0, 1) := by decide +kernel
theorem dX12_nearer_18 : decode cX12_nearer 18 = .ok (.getfield 31, 3) := by decide +kernel
theorem dX12_nearer_21 : decode cX12_nearer 21 = .ok (.iload_n 2, 1) := by decide +kernel
theorem dX12_nearer_22 : decode cX12_nearer 22 = .ok (.aload_n 0, 1) := by decide +kernel
theorem dX12_nearer_23 : decode cX12_nearer 23 = .ok (.getfield 31, 3) := by decide +kernel
theorem dX12_nearer_26 : decode cX12_nearer 26 = .ok (.iload_n 1, 1) := by decide +kernel
theorem dX12_nearer_27 : decode cX12_nearer 27 = .ok (.iaload, 1) := by decide +kernel
theorem dX12_nearer_28 : decode cX12_nearer 28 = .ok (.iload_n 3, 1) := by decide +kernel
theorem dX12_nearer_29 : decode cX12_nearer 29 = .ok (.iadd, 1) := by decide +kernel
theorem dX12_nearer_30 : decode cX12_nearer 30 = .ok (.iastore, 1) := by decide +kernel
theorem dX12_nearer_31 : decode cX12_nearer 31 = .ok (.return_, 1) := by decide +kernel
theorem dX12_findDoubts_0 : decode cX12_findDoubts 0 = .ok (.iconst 0, 1) := by decide +kernel
theorem dX12_findDoubts_1 : decode cX12_findDoubts 1 = .ok (.istore_n 1, 1) := by decide +kernel
theorem dX12_findDoubts_2 : decode cX12_findDoubts 2 = .ok (.iload_n 1, 1) := by decide +kernel
theorem dX12_findDoubts_3 : decode cX12_findDoubts 3 = .ok (.bipush 6, 2) := by decide +kernel
theorem dX12_findDoubts_5 : decode cX12_findDoubts 5 = .ok (.if_icmp .ge 25, 3) := by decide +kernel
theorem dX12_findDoubts_8 : decode cX12_findDoubts 8 = .ok (.aload_n 0, 1) := by decide +kernel
theorem dX12_findDoubts_9 : decode cX12_findDoubts 9 = .ok (.getfield 31, 3) := by decide +kernel
theorem dX12_findDoubts_12 : decode cX12_findDoubts 12 = .ok (.iload_n 1, 1) := by decide +kernel
theorem dX12_findDoubts_13 : decode cX12_findDoubts 13 = .ok (.iload_n 1, 1) := by decide +kernel
theorem dX12_findDoubts_14 : decode cX12_findDoubts 14 = .ok (.ifCond .ne 7, 3) := by decide +kernel
theorem dX12_findDoubts_17 : decode cX12_findDoubts 17 = .ok (.iconst 0, 1) := by decide +kernel
theorem dX12_findDoubts_18 : decode cX12_findDoubts 18 = .ok (.goto 5, 3) := by decide +kernel
theorem dX12_findDoubts_21 : decode cX12_findDoubts 21 = .ok (.ldc 124, 2) := by decide +kernel
theorem dX12_findDoubts_23 : decode cX12_findDoubts 23 = .ok (.iastore, 1) := by decide +kernel
theorem dX12_findDoubts_24 : decode cX12_findDoubts 24 = .ok (.iinc 1 1, 3) := by decide +kernel
theorem dX12_findDoubts_27 : decode cX12_findDoubts 27 = .ok (.goto (-25), 3) := by decide +kernel
theorem dX12_findDoubts_30 : decode cX12_findDoubts 30 = .ok (.iconst 0, 1) := by decide +kernel
theorem dX12_findDoubts_31 : decode cX12_findDoubts 31 = .ok (.istore_n 1, 1) := by decide +kernel
theorem dX12_findDoubts_32 : decode cX12_findDoubts 32 = .ok (.iload_n 1, 1) := by decide +kernel
theorem dX12_findDoubts_33 : decode cX12_findDoubts 33 = .ok (.bipush 6, 2) := by decide +kernel
theorem dX12_findDoubts_35 : decode cX12_findDoubts 35 = .ok (.if_icmp .ge 89, 3) := by decide +kernel
theorem dX12_findDoubts_38 : decode cX12_findDoubts 38 = .ok (.iconst 0, 1) := by decide +kernel
theorem dX12_findDoubts_39 : decode cX12_findDoubts 39 = .ok (.istore_n 2, 1) := by decide +kernel
theorem dX12_findDoubts_40 : decode cX12_findDoubts 40 = .ok (.iload_n 2, 1) := by decide +kernel
theorem dX12_findDoubts_41 : decode cX12_findDoubts 41 = .ok (.aload_n 0, 1) := by decide +kernel
theorem dX12_findDoubts_42 : decode cX12_findDoubts 42 = .ok (.getfield 120, 3) := by decide +kernel
theorem dX12_findDoubts_45 : decode cX12_findDoubts 45 = .ok (.if_icmp .ge 73, 3) := by decide +kernel
theorem dX12_findDoubts_48 : decode cX12_findDoubts 48 = .ok (.aload_n 0, 1) := by decide +kernel
theorem dX12_findDoubts_49 : decode cX12_findDoubts 49 = .ok (.aload_n 0, 1) := by decide +kernel
theorem dX12_findDoubts_50 : decode cX12_findDoubts 50 = .ok (.getfield 13, 3) := by decide +kernel
theorem dX12_findDoubts_53 : decode cX12_findDoubts 53 = .ok (.iconst 4, 1) := by decide +kernel
theorem dX12_findDoubts_54 : decode cX12_findDoubts 54 = .ok (.iload_n 2, 1) := by decide +kernel
theorem dX12_findDoubts_55 : decode cX12_findDoubts 55 = .ok (.imul, 1) := by decide +kernel
theorem dX12_findDoubts_56 : decode cX12_findDoubts 56 = .ok (.iaload, 1) := by decide +kernel
theorem dX12_findDoubts_57 : decode cX12_findDoubts 57 = .ok (.aload_n 0, 1) := by decide +kernel
theorem dX12_findDoubts_58 : decode cX12_findDoubts 58 = .ok (.getfield 13, 3) := by decide +kernel
theorem dX12_findDoubts_61 : decode cX12_findDoubts 61 = .ok (.iconst 4, 1) := by decide +kernel
theorem dX12_findDoubts_62 : decode cX12_findDoubts 62 = .ok (.iload_n 2, 1) := by decide +kernel
theorem dX12_findDoubts_63 : decode cX12_findDoubts 63 = .ok (.imul, 1) := by decide +kernel
theorem dX12_findDoubts_64 : decode cX12_findDoubts 64 = .ok (.iconst 1, 1) := by decide +kernel
theorem dX12_findDoubts_65 : decode cX12_findDoubts 65 = .ok (.iadd, 1) := by decide +kernel
theorem dX12_findDoubts_66 : decode cX12_findDoubts 66 = .ok (.iaload, 1) := by decide +kernel
theorem dX12_findDoubts_67 : decode cX12_findDoubts 67 = .ok (.aload_n 0, 1) := by decide +kernel
theorem dX12_findDoubts_68 : decode cX12_findDoubts 68 = .ok (.getfield 13, 3) := by decide +kernel
theorem dX12_findDoubts_71 : decode cX12_findDoubts 71 = .ok (.iconst 4, 1) := by decide +kernel
theorem dX12_findDoubts_72 : decode cX12_findDoubts 72 = .ok (.iload_n 2, 1) := by decide +kernel
theorem dX12_findDoubts_73 : decode cX12_findDoubts 73 = .ok (.imul, 1) := by decide +kernel
theorem dX12_findDoubts_74 : decode cX12_findDoubts 74 = .ok (.iconst 3, 1) := by decide +kernel
theorem dX12_findDoubts_75 : decode cX12_findDoubts 75 = .ok (.iadd, 1) := by decide +kernel
theorem dX12_findDoubts_76 : decode cX12_findDoubts 76 = .ok (.iaload, 1) := by decide +kernel
theorem dX12_findDoubts_77 : decode cX12_findDoubts 77 = .ok (.invokevirtual 125, 3) := by decide +kernel
theorem dX12_findDoubts_80 : decode cX12_findDoubts 80 = .ok (.aload_n 0, 1) := by decide +kernel
theorem dX12_findDoubts_81 : decode cX12_findDoubts 81 = .ok (.aload_n 0, 1) := by decide +kernel
theorem dX12_findDoubts_82 : decode cX12_findDoubts 82 = .ok (.getfield 13, 3) := by decide +kernel
theorem dX12_findDoubts_85 : decode cX12_findDoubts 85 = .ok (.iconst 4, 1) := by decide +kernel
theorem dX12_findDoubts_86 : decode cX12_findDoubts 86 = .ok (.iload_n 2, 1) := by decide +kernel
theorem dX12_findDoubts_87 : decode cX12_findDoubts 87 = .ok (.imul, 1) := by decide +kernel
theorem dX12_findDoubts_88 : decode cX12_findDoubts 88 = .ok (.iconst 1, 1) := by decide +kernel
theorem dX12_findDoubts_89 : decode cX12_findDoubts 89 = .ok (.iadd, 1) := by decide +kernel
theorem dX12_findDoubts_90 : decode cX12_findDoubts 90 = .ok (.iaload, 1) := by decide +kernel
theorem dX12_findDoubts_91 : decode cX12_findDoubts 91 = .ok (.aload_n 0, 1) := by decide +kernel
theorem dX12_findDoubts_92 : decode cX12_findDoubts 92 = .ok (.getfield 13, 3) := by decide +kernel
theorem dX12_findDoubts_95 : decode cX12_findDoubts 95 = .ok (.iconst 4, 1) := by decide +kernel
theorem dX12_findDoubts_96 : decode cX12_findDoubts 96 = .ok (.iload_n 2, 1) := by decide +kernel
theorem dX12_findDoubts_97 : decode cX12_findDoubts 97 = .ok (.imul, 1) := by decide +kernel
theorem dX12_findDoubts_98 : decode cX12_findDoubts 98 = .ok (.iaload, 1) := by decide +kernel
theorem dX12_findDoubts_99 : decode cX12_findDoubts 99 = .ok (.aload_n 0, 1) := by decide +kernel
theorem dX12_findDoubts_100 : decode cX12_findDoubts 100 = .ok (.getfield 13, 3) := by decide +kernel
theorem dX12_findDoubts_103 : decode cX12_findDoubts 103 = .ok (.iconst 4, 1) := by decide +kernel
theorem dX12_findDoubts_104 : decode cX12_findDoubts 104 = .ok (.iload_n 2, 1) := by decide +kernel
theorem dX12_findDoubts_105 : decode cX12_findDoubts 105 = .ok (.imul, 1) := by decide +kernel
theorem dX12_findDoubts_106 : decode cX12_findDoubts 106 = .ok (.iconst 3, 1) := by decide +kernel
theorem dX12_findDoubts_107 : decode cX12_findDoubts 107 = .ok (.iadd, 1) := by decide +kernel
theorem dX12_findDoubts_108 : decode cX12_findDoubts 108 = .ok (.iaload, 1) := by decide +kernel
theorem dX12_findDoubts_109 : decode cX12_findDoubts 109 = .ok (.invokevirtual 125, 3) := by decide +kernel
theorem dX12_findDoubts_112 : decode cX12_findDoubts 112 = .ok (.iinc 2 1, 3) := by decide +kernel
theorem dX12_findDoubts_115 : decode cX12_findDoubts 115 = .ok (.goto (-75), 3) := by decide +kernel
theorem dX12_findDoubts_118 : decode cX12_findDoubts 118 = .ok (.iinc 1 1, 3) := by decide +kernel
theorem dX12_findDoubts_121 : decode cX12_findDoubts 121 = .ok (.goto (-89), 3) := by decide +kernel
theorem dX12_findDoubts_124 : decode cX12_findDoubts 124 = .ok (.return_, 1) := by decide +kernel
theorem dX12_hasLevel_0 : decode cX12_hasLevel 0 = .ok (.aload_n 0, 1) := by decide +kernel
theorem dX12_hasLevel_1 : decode cX12_hasLevel 1 = .ok (.getfield 31, 3) := by decide +kernel
theorem dX12_hasLevel_4 : decode cX12_hasLevel 4 = .ok (.iload_n 1, 1) := by decide +kernel
theorem dX12_hasLevel_5 : decode cX12_hasLevel 5 = .ok (.iaload, 1) := by decide +kernel
theorem dX12_hasLevel_6 : decode cX12_hasLevel 6 = .ok (.ldc 124, 2) := by decide +kernel
theorem dX12_hasLevel_8 : decode cX12_hasLevel 8 = .ok (.if_icmp .ge 7, 3) := by decide +kernel
theorem dX12_hasLevel_11 : decode cX12_hasLevel 11 = .ok (.iconst 1, 1) := by decide +kernel
theorem dX12_hasLevel_12 : decode cX12_hasLevel 12 = .ok (.goto 4, 3) := by decide +kernel
theorem dX12_hasLevel_15 : decode cX12_hasLevel 15 = .ok (.iconst 0, 1) := by decide +kernel
theorem dX12_hasLevel_16 : decode cX12_hasLevel 16 = .ok (.ireturn, 1) := by decide +kernel
theorem dX12_comes_0 : decode cX12_comes 0 = .ok (.aload_n 0, 1) := by decide +kernel
theorem dX12_comes_1 : decode cX12_comes 1 = .ok (.getfield 13, 3) := by decide +kernel
theorem dX12_comes_4 : decode cX12_comes 4 = .ok (.iconst 4, 1) := by decide +kernel
theorem dX12_comes_5 : decode cX12_comes 5 = .ok (.iload_n 1, 1) := by decide +kernel
theorem dX12_comes_6 : decode cX12_comes 6 = .ok (.imul, 1) := by decide +kernel
theorem dX12_comes_7 : decode cX12_comes 7 = .ok (.iload_n 3, 1) := by decide +kernel
theorem dX12_comes_8 : decode cX12_comes 8 = .ok (.iadd, 1) := by decide +kernel
theorem dX12_comes_9 : decode cX12_comes 9 = .ok (.iaload, 1) := by decide +kernel
theorem dX12_comes_10 : decode cX12_comes 10 = .ok (.istore 4, 2) := by decide +kernel
theorem dX12_comes_12 : decode cX12_comes 12 = .ok (.aload_n 0, 1) := by decide +kernel
theorem dX12_comes_13 : decode cX12_comes 13 = .ok (.getfield 13, 3) := by decide +kernel
theorem dX12_comes_16 : decode cX12_comes 16 = .ok (.iconst 4, 1) := by decide +kernel
theorem dX12_comes_17 : decode cX12_comes 17 = .ok (.iload_n 1, 1) := by decide +kernel
theorem dX12_comes_18 : decode cX12_comes 18 = .ok (.imul, 1) := by decide +kernel
theorem dX12_comes_19 : decode cX12_comes 19 = .ok (.iconst 1, 1) := by decide +kernel
theorem dX12_comes_20 : decode cX12_comes 20 = .ok (.iadd, 1) := by decide +kernel
theorem dX12_comes_21 : decode cX12_comes 21 = .ok (.iload_n 3, 1) := by decide +kernel
theorem dX12_comes_22 : decode cX12_comes 22 = .ok (.isub, 1) := by decide +kernel
theorem dX12_comes_23 : decode cX12_comes 23 = .ok (.iaload, 1) := by decide +kernel
theorem dX12_comes_24 : decode cX12_comes 24 = .ok (.iload_n 2, 1) := by decide +kernel
theorem dX12_comes_25 : decode cX12_comes 25 = .ok (.if_icmp .ne 43, 3) := by decide +kernel
theorem dX12_comes_28 : decode cX12_comes 28 = .ok (.aload_n 0, 1) := by decide +kernel
theorem dX12_comes_29 : decode cX12_comes 29 = .ok (.iload 4, 2) := by decide +kernel
theorem dX12_comes_31 : decode cX12_comes 31 = .ok (.invokevirtual 129, 3) := by decide +kernel
theorem dX12_comes_34 : decode cX12_comes 34 = .ok (.ifCond .eq 34, 3) := by decide +kernel
theorem dX12_comes_37 : decode cX12_comes 37 = .ok (.aload_n 0, 1) := by decide +kernel
theorem dX12_comes_38 : decode cX12_comes 38 = .ok (.getfield 31, 3) := by decide +kernel
theorem dX12_comes_41 : decode cX12_comes 41 = .ok (.iload 4, 2) := by decide +kernel
theorem dX12_comes_43 : decode cX12_comes 43 = .ok (.iaload, 1) := by decide +kernel
theorem dX12_comes_44 : decode cX12_comes 44 = .ok (.aload_n 0, 1) := by decide +kernel
theorem dX12_comes_45 : decode cX12_comes 45 = .ok (.getfield 13, 3) := by decide +kernel
theorem dX12_comes_48 : decode cX12_comes 48 = .ok (.iconst 4, 1) := by decide +kernel
theorem dX12_comes_49 : decode cX12_comes 49 = .ok (.iload_n 1, 1) := by decide +kernel
theorem dX12_comes_50 : decode cX12_comes 50 = .ok (.imul, 1) := by decide +kernel
theorem dX12_comes_51 : decode cX12_comes 51 = .ok (.iconst 3, 1) := by decide +kernel
theorem dX12_comes_52 : decode cX12_comes 52 = .ok (.iadd, 1) := by decide +kernel
theorem dX12_comes_53 : decode cX12_comes 53 = .ok (.iaload, 1) := by decide +kernel
theorem dX12_comes_54 : decode cX12_comes 54 = .ok (.iadd, 1) := by decide +kernel
theorem dX12_comes_55 : decode cX12_comes 55 = .ok (.aload_n 0, 1) := by decide +kernel
theorem dX12_comes_56 : decode cX12_comes 56 = .ok (.getfield 31, 3) := by decide +kernel
theorem dX12_comes_59 : decode cX12_comes 59 = .ok (.iload_n 2, 1) := by decide +kernel
theorem dX12_comes_60 : decode cX12_comes 60 = .ok (.iaload, 1) := by decide +kernel
theorem dX12_comes_61 : decode cX12_comes 61 = .ok (.if_icmp .ne 7, 3) := by decide +kernel
theorem dX12_comes_64 : decode cX12_comes 64 = .ok (.iconst 1, 1) := by decide +kernel
theorem dX12_comes_65 : decode cX12_comes 65 = .ok (.goto 4, 3) := by decide +kernel
theorem dX12_comes_68 : decode cX12_comes 68 = .ok (.iconst 0, 1) := by decide +kernel
theorem dX12_comes_69 : decode cX12_comes 69 = .ok (.ireturn, 1) := by decide +kernel
theorem dX12_findLevels_0 : decode cX12_findLevels 0 = .ok (.aload_n 0, 1) := by decide +kernel
theorem dX12_findLevels_1 : decode cX12_findLevels 1 = .ok (.invokevirtual 132, 3) := by decide +kernel
theorem dX12_findLevels_4 : decode cX12_findLevels 4 = .ok (.aload_n 0, 1) := by decide +kernel
theorem dX12_findLevels_5 : decode cX12_findLevels 5 = .ok (.getfield 37, 3) := by decide +kernel
theorem dX12_findLevels_8 : decode cX12_findLevels 8 = .ok (.iconst 0, 1) := by decide +kernel
theorem dX12_findLevels_9 : decode cX12_findLevels 9 = .ok (.iconst 0, 1) := by decide +kernel
theorem dX12_findLevels_10 : decode cX12_findLevels 10 = .ok (.iastore, 1) := by decide +kernel
theorem dX12_findLevels_11 : decode cX12_findLevels 11 = .ok (.aload_n 0, 1) := by decide +kernel
theorem dX12_findLevels_12 : decode cX12_findLevels 12 = .ok (.getfield 34, 3) := by decide +kernel
theorem dX12_findLevels_15 : decode cX12_findLevels 15 = .ok (.iconst 0, 1) := by decide +kernel
theorem dX12_findLevels_16 : decode cX12_findLevels 16 = .ok (.bipush (-9), 2) := by decide +kernel
theorem dX12_findLevels_18 : decode cX12_findLevels 18 = .ok (.iastore, 1) := by decide +kernel
theorem dX12_findLevels_19 : decode cX12_findLevels 19 = .ok (.iconst 1, 1) := by decide +kernel
theorem dX12_findLevels_20 : decode cX12_findLevels 20 = .ok (.istore_n 1, 1) := by decide +kernel
theorem dX12_findLevels_21 : decode cX12_findLevels 21 = .ok (.iload_n 1, 1) := by decide +kernel
theorem dX12_findLevels_22 : decode cX12_findLevels 22 = .ok (.aload_n 0, 1) := by decide +kernel
theorem dX12_findLevels_23 : decode cX12_findLevels 23 = .ok (.getfield 102, 3) := by decide +kernel
theorem dX12_findLevels_26 : decode cX12_findLevels 26 = .ok (.if_icmp .ge 78, 3) := by decide +kernel
theorem dX12_findLevels_29 : decode cX12_findLevels 29 = .ok (.aload_n 0, 1) := by decide +kernel
theorem dX12_findLevels_30 : decode cX12_findLevels 30 = .ok (.getfield 34, 3) := by decide +kernel
theorem dX12_findLevels_33 : decode cX12_findLevels 33 = .ok (.iload_n 1, 1) := by decide +kernel
theorem dX12_findLevels_34 : decode cX12_findLevels 34 = .ok (.bipush (-9), 2) := by decide +kernel
theorem dX12_findLevels_36 : decode cX12_findLevels 36 = .ok (.iastore, 1) := by decide +kernel
theorem dX12_findLevels_37 : decode cX12_findLevels 37 = .ok (.aload_n 0, 1) := by decide +kernel
theorem dX12_findLevels_38 : decode cX12_findLevels 38 = .ok (.getfield 120, 3) := by decide +kernel
theorem dX12_findLevels_41 : decode cX12_findLevels 41 = .ok (.iconst 1, 1) := by decide +kernel
theorem dX12_findLevels_42 : decode cX12_findLevels 42 = .ok (.isub, 1) := by decide +kernel
theorem dX12_findLevels_43 : decode cX12_findLevels 43 = .ok (.istore_n 2, 1) := by decide +kernel
theorem dX12_findLevels_44 : decode cX12_findLevels 44 = .ok (.iload_n 2, 1) := by decide +kernel
theorem dX12_findLevels_45 : decode cX12_findLevels 45 = .ok (.ifCond .lt 53, 3) := by decide +kernel
theorem dX12_findLevels_48 : decode cX12_findLevels 48 = .ok (.aload_n 0, 1) := by decide +kernel
theorem dX12_findLevels_49 : decode cX12_findLevels 49 = .ok (.iload_n 1, 1) := by decide +kernel
theorem dX12_findLevels_50 : decode cX12_findLevels 50 = .ok (.invokevirtual 129, 3) := by decide +kernel
theorem dX12_findLevels_53 : decode cX12_findLevels 53 = .ok (.ifCond .eq 45, 3) := by decide +kernel
theorem dX12_findLevels_56 : decode cX12_findLevels 56 = .ok (.aload_n 0, 1) := by decide +kernel
theorem dX12_findLevels_57 : decode cX12_findLevels 57 = .ok (.getfield 34, 3) := by decide +kernel
theorem dX12_findLevels_60 : decode cX12_findLevels 60 = .ok (.iload_n 1, 1) := by decide +kernel
theorem dX12_findLevels_61 : decode cX12_findLevels 61 = .ok (.aload_n 0, 1) := by decide +kernel
theorem dX12_findLevels_62 : decode cX12_findLevels 62 = .ok (.iload_n 2, 1) := by decide +kernel
theorem dX12_findLevels_63 : decode cX12_findLevels 63 = .ok (.iload_n 1, 1) := by decide +kernel
theorem dX12_findLevels_64 : decode cX12_findLevels 64 = .ok (.iconst 0, 1) := by decide +kernel
theorem dX12_findLevels_65 : decode cX12_findLevels 65 = .ok (.invokevirtual 135, 3) := by decide +kernel
theorem dX12_findLevels_68 : decode cX12_findLevels 68 = .ok (.ifCond .ne 13, 3) := by decide +kernel
theorem dX12_findLevels_71 : decode cX12_findLevels 71 = .ok (.aload_n 0, 1) := by decide +kernel
theorem dX12_findLevels_72 : decode cX12_findLevels 72 = .ok (.iload_n 2, 1) := by decide +kernel
theorem dX12_findLevels_73 : decode cX12_findLevels 73 = .ok (.iload_n 1, 1) := by decide +kernel
theorem dX12_findLevels_74 : decode cX12_findLevels 74 = .ok (.iconst 1, 1) := by decide +kernel
theorem dX12_findLevels_75 : decode cX12_findLevels 75 = .ok (.invokevirtual 135, 3) := by decide +kernel
theorem dX12_findLevels_78 : decode cX12_findLevels 78 = .ok (.ifCond .eq 7, 3) := by decide +kernel
theorem dX12_findLevels_81 : decode cX12_findLevels 81 = .ok (.iload_n 2, 1) := by decide +kernel
theorem dX12_findLevels_82 : decode cX12_findLevels 82 = .ok (.goto 9, 3) := by decide +kernel
theorem dX12_findLevels_85 : decode cX12_findLevels 85 = .ok (.aload_n 0, 1) := by decide +kernel
theorem dX12_findLevels_86 : decode cX12_findLevels 86 = .ok (.getfield 34, 3) := by decide +kernel
theorem dX12_findLevels_89 : decode cX12_findLevels 89 = .ok (.iload_n 1, 1) := by decide +kernel
theorem dX12_findLevels_90 : decode cX12_findLevels 90 = .ok (.iaload, 1) := by decide +kernel
theorem dX12_findLevels_91 : decode cX12_findLevels 91 = .ok (.iastore, 1) := by decide +kernel
theorem dX12_findLevels_92 : decode cX12_findLevels 92 = .ok (.iinc 2 (-1), 3) := by decide +kernel
theorem dX12_findLevels_95 : decode cX12_findLevels 95 = .ok (.goto (-51), 3) := by decide +kernel
theorem dX12_findLevels_98 : decode cX12_findLevels 98 = .ok (.iinc 1 1, 3) := by decide +kernel
theorem dX12_findLevels_101 : decode cX12_findLevels 101 = .ok (.goto (-80), 3) := by decide +kernel
theorem dX12_findLevels_104 : decode cX12_findLevels 104 = .ok (.iconst 1, 1) := by decide +kernel
theorem dX12_findLevels_105 : decode cX12_findLevels 105 = .ok (.istore_n 1, 1) := by decide +kernel
theorem dX12_findLevels_106 : decode cX12_findLevels 106 = .ok (.iload_n 1, 1) := by decide +kernel
theorem dX12_findLevels_107 : decode cX12_findLevels 107 = .ok (.bipush 45, 2) := by decide +kernel
theorem dX12_findLevels_109 : decode cX12_findLevels 109 = .ok (.if_icmp .gt 107, 3) := by decide +kernel
theorem dX12_findLevels_112 : decode cX12_findLevels 112 = .ok (.iconst 1, 1) := by decide +kernel
theorem dX12_findLevels_113 : decode cX12_findLevels 113 = .ok (.istore_n 2, 1) := by decide +kernel
theorem dX12_findLevels_114 : decode cX12_findLevels 114 = .ok (.iload_n 2, 1) := by decide +kernel
theorem dX12_findLevels_115 : decode cX12_findLevels 115 = .ok (.aload_n 0, 1) := by decide +kernel
theorem dX12_findLevels_116 : decode cX12_findLevels 116 = .ok (.getfield 102, 3) := by decide +kernel
theorem dX12_findLevels_119 : decode cX12_findLevels 119 = .ok (.if_icmp .ge 91, 3) := by decide +kernel
theorem dX12_findLevels_122 : decode cX12_findLevels 122 = .ok (.aload_n 0, 1) := by decide +kernel
theorem dX12_findLevels_123 : decode cX12_findLevels 123 = .ok (.getfield 31, 3) := by decide +kernel
theorem dX12_findLevels_126 : decode cX12_findLevels 126 = .ok (.iload_n 2, 1) := by decide +kernel
theorem dX12_findLevels_127 : decode cX12_findLevels 127 = .ok (.iaload, 1) := by decide +kernel
theorem dX12_findLevels_128 : decode cX12_findLevels 128 = .ok (.iload_n 1, 1) := by decide +kernel
theorem dX12_findLevels_129 : decode cX12_findLevels 129 = .ok (.if_icmp .ne 75, 3) := by decide +kernel
theorem dX12_findLevels_132 : decode cX12_findLevels 132 = .ok (.iconst 4, 1) := by decide +kernel
theorem dX12_findLevels_133 : decode cX12_findLevels 133 = .ok (.aload_n 0, 1) := by decide +kernel
theorem dX12_findLevels_134 : decode cX12_findLevels 134 = .ok (.getfield 34, 3) := by decide +kernel
theorem dX12_findLevels_137 : decode cX12_findLevels 137 = .ok (.iload_n 2, 1) := by decide +kernel
theorem dX12_findLevels_138 : decode cX12_findLevels 138 = .ok (.iaload, 1) := by decide +kernel
theorem dX12_findLevels_139 : decode cX12_findLevels 139 = .ok (.imul, 1) := by decide +kernel
theorem dX12_findLevels_140 : decode cX12_findLevels 140 = .ok (.istore_n 3, 1) := by decide +kernel
theorem dX12_findLevels_141 : decode cX12_findLevels 141 = .ok (.aload_n 0, 1) := by decide +kernel
theorem dX12_findLevels_142 : decode cX12_findLevels 142 = .ok (.getfield 37, 3) := by decide +kernel
theorem dX12_findLevels_145 : decode cX12_findLevels 145 = .ok (.iload_n 2, 1) := by decide +kernel
theorem dX12_findLevels_146 : decode cX12_findLevels 146 = .ok (.aload_n 0, 1) := by decide +kernel
theorem dX12_findLevels_147 : decode cX12_findLevels 147 = .ok (.getfield 13, 3) := by decide +kernel
theorem dX12_findLevels_150 : decode cX12_findLevels 150 = .ok (.iload_n 3, 1) := by decide +kernel
theorem dX12_findLevels_151 : decode cX12_findLevels 151 = .ok (.iconst 1, 1) := by decide +kernel
theorem dX12_findLevels_152 : decode cX12_findLevels 152 = .ok (.iadd, 1) := by decide +kernel
theorem dX12_findLevels_153 : decode cX12_findLevels 153 = .ok (.iaload, 1) := by decide +kernel
theorem dX12_findLevels_154 : decode cX12_findLevels 154 = .ok (.iload_n 2, 1) := by decide +kernel
theorem dX12_findLevels_155 : decode cX12_findLevels 155 = .ok (.if_icmp .ne 26, 3) := by decide +kernel
theorem dX12_findLevels_158 : decode cX12_findLevels 158 = .ok (.aload_n 0, 1) := by decide +kernel
theorem dX12_findLevels_159 : decode cX12_findLevels 159 = .ok (.getfield 37, 3) := by decide +kernel
theorem dX12_findLevels_162 : decode cX12_findLevels 162 = .ok (.aload_n 0, 1) := by decide +kernel
theorem dX12_findLevels_163 : decode cX12_findLevels 163 = .ok (.getfield 13, 3) := by decide +kernel
theorem dX12_findLevels_166 : decode cX12_findLevels 166 = .ok (.iload_n 3, 1) := by decide +kernel
theorem dX12_findLevels_167 : decode cX12_findLevels 167 = .ok (.iaload, 1) := by decide +kernel
theorem dX12_findLevels_168 : decode cX12_findLevels 168 = .ok (.iaload, 1) := by decide +kernel
theorem dX12_findLevels_169 : decode cX12_findLevels 169 = .ok (.aload_n 0, 1) := by decide +kernel
theorem dX12_findLevels_170 : decode cX12_findLevels 170 = .ok (.getfield 13, 3) := by decide +kernel
theorem dX12_findLevels_173 : decode cX12_findLevels 173 = .ok (.iload_n 3, 1) := by decide +kernel
theorem dX12_findLevels_174 : decode cX12_findLevels 174 = .ok (.iconst 2, 1) := by decide +kernel
theorem dX12_findLevels_175 : decode cX12_findLevels 175 = .ok (.iadd, 1) := by decide +kernel
theorem dX12_findLevels_176 : decode cX12_findLevels 176 = .ok (.iaload, 1) := by decide +kernel
theorem dX12_findLevels_177 : decode cX12_findLevels 177 = .ok (.iadd, 1) := by decide +kernel
theorem dX12_findLevels_178 : decode cX12_findLevels 178 = .ok (.goto 25, 3) := by decide +kernel
theorem dX12_findLevels_181 : decode cX12_findLevels 181 = .ok (.aload_n 0, 1) := by decide +kernel
theorem dX12_findLevels_182 : decode cX12_findLevels 182 = .ok (.getfield 37, 3) := by decide +kernel
theorem dX12_findLevels_185 : decode cX12_findLevels 185 = .ok (.aload_n 0, 1) := by decide +kernel
theorem dX12_findLevels_186 : decode cX12_findLevels 186 = .ok (.getfield 13, 3) := by decide +kernel
theorem dX12_findLevels_189 : decode cX12_findLevels 189 = .ok (.iload_n 3, 1) := by decide +kernel
theorem dX12_findLevels_190 : decode cX12_findLevels 190 = .ok (.iconst 1, 1) := by decide +kernel
theorem dX12_findLevels_191 : decode cX12_findLevels 191 = .ok (.iadd, 1) := by decide +kernel
theorem dX12_findLevels_192 : decode cX12_findLevels 192 = .ok (.iaload, 1) := by decide +kernel
theorem dX12_findLevels_193 : decode cX12_findLevels 193 = .ok (.iaload, 1) := by decide +kernel
theorem dX12_findLevels_194 : decode cX12_findLevels 194 = .ok (.aload_n 0, 1) := by decide +kernel
theorem dX12_findLevels_195 : decode cX12_findLevels 195 = .ok (.getfield 13, 3) := by decide +kernel
theorem dX12_findLevels_198 : decode cX12_findLevels 198 = .ok (.iload_n 3, 1) := by decide +kernel
theorem dX12_findLevels_199 : decode cX12_findLevels 199 = .ok (.iconst 2, 1) := by decide +kernel
theorem dX12_findLevels_200 : decode cX12_findLevels 200 = .ok (.iadd, 1) := by decide +kernel
theorem dX12_findLevels_201 : decode cX12_findLevels 201 = .ok (.iaload, 1) := by decide +kernel
theorem dX12_findLevels_202 : decode cX12_findLevels 202 = .ok (.isub, 1) := by decide +kernel
theorem dX12_findLevels_203 : decode cX12_findLevels 203 = .ok (.iastore, 1) := by decide +kernel
theorem dX12_findLevels_204 : decode cX12_findLevels 204 = .ok (.iinc 2 1, 3) := by decide +kernel
theorem dX12_findLevels_207 : decode cX12_findLevels 207 = .ok (.goto (-93), 3) := by decide +kernel
theorem dX12_findLevels_210 : decode cX12_findLevels 210 = .ok (.iinc 1 1, 3) := by decide +kernel
theorem dX12_findLevels_213 : decode cX12_findLevels 213 = .ok (.goto (-107), 3) := by decide +kernel
theorem dX12_findLevels_216 : decode cX12_findLevels 216 = .ok (.return_, 1) := by decide +kernel
theorem dX12_leanAt_0 : decode cX12_leanAt 0 = .ok (.iconst 0, 1) := by decide +kernel
theorem dX12_leanAt_1 : decode cX12_leanAt 1 = .ok (.istore_n 2, 1) := by decide +kernel
theorem dX12_leanAt_2 : decode cX12_leanAt 2 = .ok (.iconst 0, 1) := by decide +kernel
theorem dX12_leanAt_3 : decode cX12_leanAt 3 = .ok (.istore_n 3, 1) := by decide +kernel
theorem dX12_leanAt_4 : decode cX12_leanAt 4 = .ok (.iload_n 3, 1) := by decide +kernel
theorem dX12_leanAt_5 : decode cX12_leanAt 5 = .ok (.aload_n 0, 1) := by decide +kernel
theorem dX12_leanAt_6 : decode cX12_leanAt 6 = .ok (.getfield 110, 3) := by decide +kernel
theorem dX12_leanAt_9 : decode cX12_leanAt 9 = .ok (.if_icmp .ge 68, 3) := by decide +kernel
theorem dX12_leanAt_12 : decode cX12_leanAt 12 = .ok (.aload_n 0, 1) := by decide +kernel
theorem dX12_leanAt_13 : decode cX12_leanAt 13 = .ok (.iload_n 1, 1) := by decide +kernel
theorem dX12_leanAt_14 : decode cX12_leanAt 14 = .ok (.iload_n 3, 1) := by decide +kernel
theorem dX12_leanAt_15 : decode cX12_leanAt 15 = .ok (.invokevirtual 138, 3) := by decide +kernel
theorem dX12_leanAt_18 : decode cX12_leanAt 18 = .ok (.istore 4, 2) := by decide +kernel
theorem dX12_leanAt_20 : decode cX12_leanAt 20 = .ok (.aload_n 0, 1) := by decide +kernel
theorem dX12_leanAt_21 : decode cX12_leanAt 21 = .ok (.getfield 16, 3) := by decide +kernel
theorem dX12_leanAt_24 : decode cX12_leanAt 24 = .ok (.iconst 2, 1) := by decide +kernel
theorem dX12_leanAt_25 : decode cX12_leanAt 25 = .ok (.iload_n 3, 1) := by decide +kernel
theorem dX12_leanAt_26 : decode cX12_leanAt 26 = .ok (.imul, 1) := by decide +kernel
theorem dX12_leanAt_27 : decode cX12_leanAt 27 = .ok (.iconst 1, 1) := by decide +kernel
theorem dX12_leanAt_28 : decode cX12_leanAt 28 = .ok (.iadd, 1) := by decide +kernel
theorem dX12_leanAt_29 : decode cX12_leanAt 29 = .ok (.iaload, 1) := by decide +kernel
theorem dX12_leanAt_30 : decode cX12_leanAt 30 = .ok (.bipush 100, 2) := by decide +kernel
theorem dX12_leanAt_32 : decode cX12_leanAt 32 = .ok (.imul, 1) := by decide +kernel
theorem dX12_leanAt_33 : decode cX12_leanAt 33 = .ok (.iload 4, 2) := by decide +kernel
theorem dX12_leanAt_35 : decode cX12_leanAt 35 = .ok (.iload 4, 2) := by decide +kernel
theorem dX12_leanAt_37 : decode cX12_leanAt 37 = .ok (.imul, 1) := by decide +kernel
theorem dX12_leanAt_38 : decode cX12_leanAt 38 = .ok (.iconst 1, 1) := by decide +kernel
theorem dX12_leanAt_39 : decode cX12_leanAt 39 = .ok (.iadd, 1) := by decide +kernel
theorem dX12_leanAt_40 : decode cX12_leanAt 40 = .ok (.idiv, 1) := by decide +kernel
theorem dX12_leanAt_41 : decode cX12_leanAt 41 = .ok (.istore 5, 2) := by decide +kernel
theorem dX12_leanAt_43 : decode cX12_leanAt 43 = .ok (.iload_n 2, 1) := by decide +kernel
theorem dX12_leanAt_44 : decode cX12_leanAt 44 = .ok (.aload_n 0, 1) := by decide +kernel
theorem dX12_leanAt_45 : decode cX12_leanAt 45 = .ok (.getfield 16, 3) := by decide +kernel
theorem dX12_leanAt_48 : decode cX12_leanAt 48 = .ok (.iconst 2, 1) := by decide +kernel
theorem dX12_leanAt_49 : decode cX12_leanAt 49 = .ok (.iload_n 3, 1) := by decide +kernel
theorem dX12_leanAt_50 : decode cX12_leanAt 50 = .ok (.imul, 1) := by decide +kernel
theorem dX12_leanAt_51 : decode cX12_leanAt 51 = .ok (.iaload, 1) := by decide +kernel
theorem dX12_leanAt_52 : decode cX12_leanAt 52 = .ok (.aload_n 0, 1) := by decide +kernel
theorem dX12_leanAt_53 : decode cX12_leanAt 53 = .ok (.getfield 7, 3) := by decide +kernel
theorem dX12_leanAt_56 : decode cX12_leanAt 56 = .ok (.iload_n 1, 1) := by decide +kernel
theorem dX12_leanAt_57 : decode cX12_leanAt 57 = .ok (.iaload, 1) := by decide +kernel
theorem dX12_leanAt_58 : decode cX12_leanAt 58 = .ok (.if_icmp .ge 9, 3) := by decide +kernel
theorem dX12_leanAt_61 : decode cX12_leanAt 61 = .ok (.iload 5, 2) := by decide +kernel
theorem dX12_leanAt_63 : decode cX12_leanAt 63 = .ok (.ineg, 1) := by decide +kernel
theorem dX12_leanAt_64 : decode cX12_leanAt 64 = .ok (.goto 5, 3) := by decide +kernel
theorem dX12_leanAt_67 : decode cX12_leanAt 67 = .ok (.iload 5, 2) := by decide +kernel
theorem dX12_leanAt_69 : decode cX12_leanAt 69 = .ok (.iadd, 1) := by decide +kernel
theorem dX12_leanAt_70 : decode cX12_leanAt 70 = .ok (.istore_n 2, 1) := by decide +kernel
theorem dX12_leanAt_71 : decode cX12_leanAt 71 = .ok (.iinc 3 1, 3) := by decide +kernel
theorem dX12_leanAt_74 : decode cX12_leanAt 74 = .ok (.goto (-70), 3) := by decide +kernel
theorem dX12_leanAt_77 : decode cX12_leanAt 77 = .ok (.iload_n 2, 1) := by decide +kernel
theorem dX12_leanAt_78 : decode cX12_leanAt 78 = .ok (.aload_n 0, 1) := by decide +kernel
theorem dX12_leanAt_79 : decode cX12_leanAt 79 = .ok (.getfield 142, 3) := by decide +kernel
theorem dX12_leanAt_82 : decode cX12_leanAt 82 = .ok (.ifCond .ne 7, 3) := by decide +kernel
theorem dX12_leanAt_85 : decode cX12_leanAt 85 = .ok (.iconst 4, 1) := by decide +kernel
theorem dX12_leanAt_86 : decode cX12_leanAt 86 = .ok (.goto 16, 3) := by decide +kernel
theorem dX12_leanAt_89 : decode cX12_leanAt 89 = .ok (.aload_n 0, 1) := by decide +kernel
theorem dX12_leanAt_90 : decode cX12_leanAt 90 = .ok (.getfield 142, 3) := by decide +kernel
theorem dX12_leanAt_93 : decode cX12_leanAt 93 = .ok (.iconst 1, 1) := by decide +kernel
theorem dX12_leanAt_94 : decode cX12_leanAt 94 = .ok (.if_icmp .ne 7, 3) := by decide +kernel
theorem dX12_leanAt_97 : decode cX12_leanAt 97 = .ok (.iconst 2, 1) := by decide +kernel
theorem dX12_leanAt_98 : decode cX12_leanAt 98 = .ok (.goto 4, 3) := by decide +kernel
theorem dX12_leanAt_101 : decode cX12_leanAt 101 = .ok (.iconst 1, 1) := by decide +kernel
theorem dX12_leanAt_102 : decode cX12_leanAt 102 = .ok (.imul, 1) := by decide +kernel
theorem dX12_leanAt_103 : decode cX12_leanAt 103 = .ok (.iconst 4, 1) := by decide +kernel
theorem dX12_leanAt_104 : decode cX12_leanAt 104 = .ok (.idiv, 1) := by decide +kernel
theorem dX12_leanAt_105 : decode cX12_leanAt 105 = .ok (.ireturn, 1) := by decide +kernel
theorem dX12_stationOf_0 : decode cX12_stationOf 0 = .ok (.aload_n 0, 1) := by decide +kernel
theorem dX12_stationOf_1 : decode cX12_stationOf 1 = .ok (.iload_n 1, 1) := by decide +kernel
theorem dX12_stationOf_2 : decode cX12_stationOf 2 = .ok (.invokevirtual 116, 3) := by decide +kernel
theorem dX12_stationOf_5 : decode cX12_stationOf 5 = .ok (.ifCond .eq 12, 3) := by decide +kernel
theorem dX12_stationOf_8 : decode cX12_stationOf 8 = .ok (.iload_n 2, 1) := by decide +kernel
theorem dX12_stationOf_9 : decode cX12_stationOf 9 = .ok (.iconst 0, 1) := by decide +kernel
theorem dX12_stationOf_10 : decode cX12_stationOf 10 = .ok (.iconst 4, 1) := by decide +kernel
theorem dX12_stationOf_11 : decode cX12_stationOf 11 = .ok (.invokestatic 106, 3) := by decide +kernel
theorem dX12_stationOf_14 : decode cX12_stationOf 14 = .ok (.ifCond .ne 6, 3) := by decide +kernel
theorem dX12_stationOf_17 : decode cX12_stationOf 17 = .ok (.ldc 123, 2) := by decide +kernel
theorem dX12_stationOf_19 : decode cX12_stationOf 19 = .ok (.ireturn, 1) := by decide +kernel
theorem dX12_stationOf_20 : decode cX12_stationOf 20 = .ok (.iload_n 2, 1) := by decide +kernel
theorem dX12_stationOf_21 : decode cX12_stationOf 21 = .ok (.iconst 2, 1) := by decide +kernel
theorem dX12_stationOf_22 : decode cX12_stationOf 22 = .ok (.if_icmp .le 23, 3) := by decide +kernel
theorem dX12_stationOf_25 : decode cX12_stationOf 25 = .ok (.iload_n 2, 1) := by decide +kernel
theorem dX12_stationOf_26 : decode cX12_stationOf 26 = .ok (.iconst 3, 1) := by decide +kernel
theorem dX12_stationOf_27 : decode cX12_stationOf 27 = .ok (.if_icmp .ne 12, 3) := by decide +kernel
theorem dX12_stationOf_30 : decode cX12_stationOf 30 = .ok (.aload_n 0, 1) := by decide +kernel
theorem dX12_stationOf_31 : decode cX12_stationOf 31 = .ok (.getfield 7, 3) := by decide +kernel
theorem dX12_stationOf_34 : decode cX12_stationOf 34 = .ok (.iload_n 1, 1) := by decide +kernel
theorem dX12_stationOf_35 : decode cX12_stationOf 35 = .ok (.iaload, 1) := by decide +kernel
theorem dX12_stationOf_36 : decode cX12_stationOf 36 = .ok (.goto 8, 3) := by decide +kernel
theorem dX12_stationOf_39 : decode cX12_stationOf 39 = .ok (.aload_n 0, 1) := by decide +kernel
theorem dX12_stationOf_40 : decode cX12_stationOf 40 = .ok (.iload_n 1, 1) := by decide +kernel
theorem dX12_stationOf_41 : decode cX12_stationOf 41 = .ok (.invokevirtual 145, 3) := by decide +kernel
theorem dX12_stationOf_44 : decode cX12_stationOf 44 = .ok (.ireturn, 1) := by decide +kernel
theorem dX12_stationOf_45 : decode cX12_stationOf 45 = .ok (.aload_n 0, 1) := by decide +kernel
theorem dX12_stationOf_46 : decode cX12_stationOf 46 = .ok (.invokevirtual 149, 3) := by decide +kernel
theorem dX12_stationOf_49 : decode cX12_stationOf 49 = .ok (.aload_n 0, 1) := by decide +kernel
theorem dX12_stationOf_50 : decode cX12_stationOf 50 = .ok (.iload_n 1, 1) := by decide +kernel
theorem dX12_stationOf_51 : decode cX12_stationOf 51 = .ok (.invokevirtual 129, 3) := by decide +kernel
theorem dX12_stationOf_54 : decode cX12_stationOf 54 = .ok (.ifCond .ne 6, 3) := by decide +kernel
theorem dX12_stationOf_57 : decode cX12_stationOf 57 = .ok (.ldc 152, 2) := by decide +kernel
theorem dX12_stationOf_59 : decode cX12_stationOf 59 = .ok (.ireturn, 1) := by decide +kernel
theorem dX12_stationOf_60 : decode cX12_stationOf 60 = .ok (.iload_n 2, 1) := by decide +kernel
theorem dX12_stationOf_61 : decode cX12_stationOf 61 = .ok (.ifCond .ne 12, 3) := by decide +kernel
theorem dX12_stationOf_64 : decode cX12_stationOf 64 = .ok (.aload_n 0, 1) := by decide +kernel
theorem dX12_stationOf_65 : decode cX12_stationOf 65 = .ok (.getfield 37, 3) := by decide +kernel
theorem dX12_stationOf_68 : decode cX12_stationOf 68 = .ok (.iload_n 1, 1) := by decide +kernel
theorem dX12_stationOf_69 : decode cX12_stationOf 69 = .ok (.iaload, 1) := by decide +kernel
theorem dX12_stationOf_70 : decode cX12_stationOf 70 = .ok (.goto 23, 3) := by decide +kernel
theorem dX12_stationOf_73 : decode cX12_stationOf 73 = .ok (.iload_n 2, 1) := by decide +kernel
theorem dX12_stationOf_74 : decode cX12_stationOf 74 = .ok (.iconst 1, 1) := by decide +kernel
theorem dX12_stationOf_75 : decode cX12_stationOf 75 = .ok (.if_icmp .ne 12, 3) := by decide +kernel
theorem dX12_stationOf_78 : decode cX12_stationOf 78 = .ok (.aload_n 0, 1) := by decide +kernel
theorem dX12_stationOf_79 : decode cX12_stationOf 79 = .ok (.getfield 31, 3) := by decide +kernel
theorem dX12_stationOf_82 : decode cX12_stationOf 82 = .ok (.iload_n 1, 1) := by decide +kernel
theorem dX12_stationOf_83 : decode cX12_stationOf 83 = .ok (.iaload, 1) := by decide +kernel
theorem dX12_stationOf_84 : decode cX12_stationOf 84 = .ok (.goto 9, 3) := by decide +kernel
theorem dX12_stationOf_87 : decode cX12_stationOf 87 = .ok (.aload_n 0, 1) := by decide +kernel
theorem dX12_stationOf_88 : decode cX12_stationOf 88 = .ok (.getfield 34, 3) := by decide +kernel
theorem dX12_stationOf_91 : decode cX12_stationOf 91 = .ok (.iload_n 1, 1) := by decide +kernel
theorem dX12_stationOf_92 : decode cX12_stationOf 92 = .ok (.iaload, 1) := by decide +kernel
theorem dX12_stationOf_93 : decode cX12_stationOf 93 = .ok (.ireturn, 1) := by decide +kernel
theorem dX12_allDoubts_0 : decode cX12_allDoubts 0 = .ok (.aload_n 0, 1) := by decide +kernel
theorem dX12_allDoubts_1 : decode cX12_allDoubts 1 = .ok (.invokevirtual 132, 3) := by decide +kernel
theorem dX12_allDoubts_4 : decode cX12_allDoubts 4 = .ok (.iconst 0, 1) := by decide +kernel
theorem dX12_allDoubts_5 : decode cX12_allDoubts 5 = .ok (.istore_n 1, 1) := by decide +kernel
theorem dX12_allDoubts_6 : decode cX12_allDoubts 6 = .ok (.iconst 0, 1) := by decide +kernel
theorem dX12_allDoubts_7 : decode cX12_allDoubts 7 = .ok (.istore_n 2, 1) := by decide +kernel
theorem dX12_allDoubts_8 : decode cX12_allDoubts 8 = .ok (.iload_n 2, 1) := by decide +kernel
theorem dX12_allDoubts_9 : decode cX12_allDoubts 9 = .ok (.aload_n 0, 1) := by decide +kernel
theorem dX12_allDoubts_10 : decode cX12_allDoubts 10 = .ok (.getfield 102, 3) := by decide +kernel
theorem dX12_allDoubts_13 : decode cX12_allDoubts 13 = .ok (.if_icmp .ge 30, 3) := by decide +kernel
theorem dX12_allDoubts_16 : decode cX12_allDoubts 16 = .ok (.iload_n 1, 1) := by decide +kernel
theorem dX12_allDoubts_17 : decode cX12_allDoubts 17 = .ok (.aload_n 0, 1) := by decide +kernel
theorem dX12_allDoubts_18 : decode cX12_allDoubts 18 = .ok (.iload_n 2, 1) := by decide +kernel
theorem dX12_allDoubts_19 : decode cX12_allDoubts 19 = .ok (.invokevirtual 129, 3) := by decide +kernel
theorem dX12_allDoubts_22 : decode cX12_allDoubts 22 = .ok (.ifCond .eq 12, 3) := by decide +kernel
theorem dX12_allDoubts_25 : decode cX12_allDoubts 25 = .ok (.aload_n 0, 1) := by decide +kernel
theorem dX12_allDoubts_26 : decode cX12_allDoubts 26 = .ok (.getfield 31, 3) := by decide +kernel
theorem dX12_allDoubts_29 : decode cX12_allDoubts 29 = .ok (.iload_n 2, 1) := by decide +kernel
theorem dX12_allDoubts_30 : decode cX12_allDoubts 30 = .ok (.iaload, 1) := by decide +kernel
theorem dX12_allDoubts_31 : decode cX12_allDoubts 31 = .ok (.goto 4, 3) := by decide +kernel
theorem dX12_allDoubts_34 : decode cX12_allDoubts 34 = .ok (.iconst 0, 1) := by decide +kernel
theorem dX12_allDoubts_35 : decode cX12_allDoubts 35 = .ok (.iadd, 1) := by decide +kernel
theorem dX12_allDoubts_36 : decode cX12_allDoubts 36 = .ok (.istore_n 1, 1) := by decide +kernel
theorem dX12_allDoubts_37 : decode cX12_allDoubts 37 = .ok (.iinc 2 1, 3) := by decide +kernel
theorem dX12_allDoubts_40 : decode cX12_allDoubts 40 = .ok (.goto (-32), 3) := by decide +kernel
theorem dX12_allDoubts_43 : decode cX12_allDoubts 43 = .ok (.iload_n 1, 1) := by decide +kernel
theorem dX12_allDoubts_44 : decode cX12_allDoubts 44 = .ok (.ireturn, 1) := by decide +kernel
theorem dX12_again_0 : decode cX12_again 0 = .ok (.bipush (-3), 2) := by decide +kernel
theorem dX12_again_2 : decode cX12_again 2 = .ok (.istore_n 1, 1) := by decide +kernel
theorem dX12_again_3 : decode cX12_again 3 = .ok (.ldc 124, 2) := by decide +kernel
theorem dX12_again_5 : decode cX12_again 5 = .ok (.istore_n 2, 1) := by decide +kernel
theorem dX12_again_6 : decode cX12_again 6 = .ok (.iconst 0, 1) := by decide +kernel
theorem dX12_again_7 : decode cX12_again 7 = .ok (.istore_n 3, 1) := by decide +kernel
theorem dX12_again_8 : decode cX12_again 8 = .ok (.iload_n 3, 1) := by decide +kernel
theorem dX12_again_9 : decode cX12_again 9 = .ok (.aload_n 0, 1) := by decide +kernel
theorem dX12_again_10 : decode cX12_again 10 = .ok (.getfield 120, 3) := by decide +kernel
theorem dX12_again_13 : decode cX12_again 13 = .ok (.if_icmp .ge 61, 3) := by decide +kernel
theorem dX12_again_16 : decode cX12_again 16 = .ok (.aload_n 0, 1) := by decide +kernel
theorem dX12_again_17 : decode cX12_again 17 = .ok (.getfield 13, 3) := by decide +kernel
theorem dX12_again_20 : decode cX12_again 20 = .ok (.iconst 4, 1) := by decide +kernel
theorem dX12_again_21 : decode cX12_again 21 = .ok (.iload_n 3, 1) := by decide +kernel
theorem dX12_again_22 : decode cX12_again 22 = .ok (.imul, 1) := by decide +kernel
theorem dX12_again_23 : decode cX12_again 23 = .ok (.iconst 3, 1) := by decide +kernel
theorem dX12_again_24 : decode cX12_again 24 = .ok (.iadd, 1) := by decide +kernel
theorem dX12_again_25 : decode cX12_again 25 = .ok (.iaload, 1) := by decide +kernel
theorem dX12_again_26 : decode cX12_again 26 = .ok (.istore 4, 2) := by decide +kernel
theorem dX12_again_28 : decode cX12_again 28 = .ok (.aload_n 0, 1) := by decide +kernel
theorem dX12_again_29 : decode cX12_again 29 = .ok (.getfield 13, 3) := by decide +kernel
theorem dX12_again_32 : decode cX12_again 32 = .ok (.iconst 4, 1) := by decide +kernel
theorem dX12_again_33 : decode cX12_again 33 = .ok (.iload_n 3, 1) := by decide +kernel
theorem dX12_again_34 : decode cX12_again 34 = .ok (.imul, 1) := by decide +kernel
theorem dX12_again_35 : decode cX12_again 35 = .ok (.iconst 3, 1) := by decide +kernel
theorem dX12_again_36 : decode cX12_again 36 = .ok (.iadd, 1) := by decide +kernel
theorem dX12_again_37 : decode cX12_again 37 = .ok (.iconst 1, 1) := by decide +kernel
theorem dX12_again_38 : decode cX12_again 38 = .ok (.iastore, 1) := by decide +kernel
theorem dX12_again_39 : decode cX12_again 39 = .ok (.aload_n 0, 1) := by decide +kernel
theorem dX12_again_40 : decode cX12_again 40 = .ok (.invokevirtual 153, 3) := by decide +kernel
theorem dX12_again_43 : decode cX12_again 43 = .ok (.istore 5, 2) := by decide +kernel
theorem dX12_again_45 : decode cX12_again 45 = .ok (.aload_n 0, 1) := by decide +kernel
theorem dX12_again_46 : decode cX12_again 46 = .ok (.getfield 13, 3) := by decide +kernel
theorem dX12_again_49 : decode cX12_again 49 = .ok (.iconst 4, 1) := by decide +kernel
theorem dX12_again_50 : decode cX12_again 50 = .ok (.iload_n 3, 1) := by decide +kernel
theorem dX12_again_51 : decode cX12_again 51 = .ok (.imul, 1) := by decide +kernel
theorem dX12_again_52 : decode cX12_again 52 = .ok (.iconst 3, 1) := by decide +kernel
theorem dX12_again_53 : decode cX12_again 53 = .ok (.iadd, 1) := by decide +kernel
theorem dX12_again_54 : decode cX12_again 54 = .ok (.iload 4, 2) := by decide +kernel
theorem dX12_again_56 : decode cX12_again 56 = .ok (.iastore, 1) := by decide +kernel
theorem dX12_again_57 : decode cX12_again 57 = .ok (.iload 5, 2) := by decide +kernel
theorem dX12_again_59 : decode cX12_again 59 = .ok (.iload_n 2, 1) := by decide +kernel
theorem dX12_again_60 : decode cX12_again 60 = .ok (.if_icmp .ge 8, 3) := by decide +kernel
theorem dX12_again_63 : decode cX12_again 63 = .ok (.iload 5, 2) := by decide +kernel
theorem dX12_again_65 : decode cX12_again 65 = .ok (.istore_n 2, 1) := by decide +kernel
theorem dX12_again_66 : decode cX12_again 66 = .ok (.iload_n 3, 1) := by decide +kernel
theorem dX12_again_67 : decode cX12_again 67 = .ok (.istore_n 1, 1) := by decide +kernel
theorem dX12_again_68 : decode cX12_again 68 = .ok (.iinc 3 1, 3) := by decide +kernel
theorem dX12_again_71 : decode cX12_again 71 = .ok (.goto (-63), 3) := by decide +kernel
theorem dX12_again_74 : decode cX12_again 74 = .ok (.iload_n 1, 1) := by decide +kernel
theorem dX12_again_75 : decode cX12_again 75 = .ok (.ireturn, 1) := by decide +kernel
theorem dX12_point_0 : decode cX12_point 0 = .ok (.iload_n 1, 1) := by decide +kernel
theorem dX12_point_1 : decode cX12_point 1 = .ok (.iconst 0, 1) := by decide +kernel
theorem dX12_point_2 : decode cX12_point 2 = .ok (.sipush 999, 3) := by decide +kernel
theorem dX12_point_5 : decode cX12_point 5 = .ok (.invokestatic 106, 3) := by decide +kernel
theorem dX12_point_8 : decode cX12_point 8 = .ok (.ifCond .eq 13, 3) := by decide +kernel
theorem dX12_point_11 : decode cX12_point 11 = .ok (.iload_n 2, 1) := by decide +kernel
theorem dX12_point_12 : decode cX12_point 12 = .ok (.iconst 0, 1) := by decide +kernel
theorem dX12_point_13 : decode cX12_point 13 = .ok (.bipush 99, 2) := by decide +kernel
theorem dX12_point_15 : decode cX12_point 15 = .ok (.invokestatic 106, 3) := by decide +kernel
theorem dX12_point_18 : decode cX12_point 18 = .ok (.ifCond .ne 5, 3) := by decide +kernel
theorem dX12_point_21 : decode cX12_point 21 = .ok (.iconst (-1), 1) := by decide +kernel
theorem dX12_point_22 : decode cX12_point 22 = .ok (.ireturn, 1) := by decide +kernel
theorem dX12_point_23 : decode cX12_point 23 = .ok (.aload_n 0, 1) := by decide +kernel
theorem dX12_point_24 : decode cX12_point 24 = .ok (.getfield 110, 3) := by decide +kernel
theorem dX12_point_27 : decode cX12_point 27 = .ok (.bipush 8, 2) := by decide +kernel
theorem dX12_point_29 : decode cX12_point 29 = .ok (.if_icmp .ne 6, 3) := by decide +kernel
theorem dX12_point_32 : decode cX12_point 32 = .ok (.bipush (-2), 2) := by decide +kernel
theorem dX12_point_34 : decode cX12_point 34 = .ok (.ireturn, 1) := by decide +kernel
theorem dX12_point_35 : decode cX12_point 35 = .ok (.aload_n 0, 1) := by decide +kernel
theorem dX12_point_36 : decode cX12_point 36 = .ok (.getfield 16, 3) := by decide +kernel
theorem dX12_point_39 : decode cX12_point 39 = .ok (.iconst 2, 1) := by decide +kernel
theorem dX12_point_40 : decode cX12_point 40 = .ok (.aload_n 0, 1) := by decide +kernel
theorem dX12_point_41 : decode cX12_point 41 = .ok (.getfield 110, 3) := by decide +kernel
theorem dX12_point_44 : decode cX12_point 44 = .ok (.imul, 1) := by decide +kernel
theorem dX12_point_45 : decode cX12_point 45 = .ok (.iload_n 1, 1) := by decide +kernel
theorem dX12_point_46 : decode cX12_point 46 = .ok (.iastore, 1) := by decide +kernel
theorem dX12_point_47 : decode cX12_point 47 = .ok (.aload_n 0, 1) := by decide +kernel
theorem dX12_point_48 : decode cX12_point 48 = .ok (.getfield 16, 3) := by decide +kernel
theorem dX12_point_51 : decode cX12_point 51 = .ok (.iconst 2, 1) := by decide +kernel
theorem dX12_point_52 : decode cX12_point 52 = .ok (.aload_n 0, 1) := by decide +kernel
theorem dX12_point_53 : decode cX12_point 53 = .ok (.getfield 110, 3) := by decide +kernel
theorem dX12_point_56 : decode cX12_point 56 = .ok (.imul, 1) := by decide +kernel
theorem dX12_point_57 : decode cX12_point 57 = .ok (.iconst 1, 1) := by decide +kernel
theorem dX12_point_58 : decode cX12_point 58 = .ok (.iadd, 1) := by decide +kernel
theorem dX12_point_59 : decode cX12_point 59 = .ok (.iload_n 2, 1) := by decide +kernel
theorem dX12_point_60 : decode cX12_point 60 = .ok (.iastore, 1) := by decide +kernel
theorem dX12_point_61 : decode cX12_point 61 = .ok (.aload_n 0, 1) := by decide +kernel
theorem dX12_point_62 : decode cX12_point 62 = .ok (.dup, 1) := by decide +kernel
theorem dX12_point_63 : decode cX12_point 63 = .ok (.getfield 110, 3) := by decide +kernel
theorem dX12_point_66 : decode cX12_point 66 = .ok (.iconst 1, 1) := by decide +kernel
theorem dX12_point_67 : decode cX12_point 67 = .ok (.iadd, 1) := by decide +kernel
theorem dX12_point_68 : decode cX12_point 68 = .ok (.putfield 110, 3) := by decide +kernel
theorem dX12_point_71 : decode cX12_point 71 = .ok (.aload_n 0, 1) := by decide +kernel
theorem dX12_point_72 : decode cX12_point 72 = .ok (.getfield 110, 3) := by decide +kernel
theorem dX12_point_75 : decode cX12_point 75 = .ok (.iconst 1, 1) := by decide +kernel
theorem dX12_point_76 : decode cX12_point 76 = .ok (.isub, 1) := by decide +kernel
theorem dX12_point_77 : decode cX12_point 77 = .ok (.ireturn, 1) := by decide +kernel
theorem dX12_mass_0 : decode cX12_mass 0 = .ok (.aload_n 0, 1) := by decide +kernel
theorem dX12_mass_1 : decode cX12_mass 1 = .ok (.iload_n 1, 1) := by decide +kernel
theorem dX12_mass_2 : decode cX12_mass 2 = .ok (.invokevirtual 157, 3) := by decide +kernel
theorem dX12_mass_5 : decode cX12_mass 5 = .ok (.ifCond .eq 13, 3) := by decide +kernel
theorem dX12_mass_8 : decode cX12_mass 8 = .ok (.iload_n 2, 1) := by decide +kernel
theorem dX12_mass_9 : decode cX12_mass 9 = .ok (.iconst 0, 1) := by decide +kernel
theorem dX12_mass_10 : decode cX12_mass 10 = .ok (.bipush 99, 2) := by decide +kernel
theorem dX12_mass_12 : decode cX12_mass 12 = .ok (.invokestatic 106, 3) := by decide +kernel
theorem dX12_mass_15 : decode cX12_mass 15 = .ok (.ifCond .ne 5, 3) := by decide +kernel
theorem dX12_mass_18 : decode cX12_mass 18 = .ok (.iconst (-1), 1) := by decide +kernel
theorem dX12_mass_19 : decode cX12_mass 19 = .ok (.ireturn, 1) := by decide +kernel
theorem dX12_mass_20 : decode cX12_mass 20 = .ok (.aload_n 0, 1) := by decide +kernel
theorem dX12_mass_21 : decode cX12_mass 21 = .ok (.getfield 16, 3) := by decide +kernel
theorem dX12_mass_24 : decode cX12_mass 24 = .ok (.iconst 2, 1) := by decide +kernel
theorem dX12_mass_25 : decode cX12_mass 25 = .ok (.iload_n 1, 1) := by decide +kernel
theorem dX12_mass_26 : decode cX12_mass 26 = .ok (.imul, 1) := by decide +kernel
theorem dX12_mass_27 : decode cX12_mass 27 = .ok (.iconst 1, 1) := by decide +kernel
theorem dX12_mass_28 : decode cX12_mass 28 = .ok (.iadd, 1) := by decide +kernel
theorem dX12_mass_29 : decode cX12_mass 29 = .ok (.iaload, 1) := by decide +kernel
theorem dX12_mass_30 : decode cX12_mass 30 = .ok (.istore_n 3, 1) := by decide +kernel
theorem dX12_mass_31 : decode cX12_mass 31 = .ok (.aload_n 0, 1) := by decide +kernel
theorem dX12_mass_32 : decode cX12_mass 32 = .ok (.getfield 16, 3) := by decide +kernel
theorem dX12_mass_35 : decode cX12_mass 35 = .ok (.iconst 2, 1) := by decide +kernel
theorem dX12_mass_36 : decode cX12_mass 36 = .ok (.iload_n 1, 1) := by decide +kernel
theorem dX12_mass_37 : decode cX12_mass 37 = .ok (.imul, 1) := by decide +kernel
theorem dX12_mass_38 : decode cX12_mass 38 = .ok (.iconst 1, 1) := by decide +kernel
theorem dX12_mass_39 : decode cX12_mass 39 = .ok (.iadd, 1) := by decide +kernel
theorem dX12_mass_40 : decode cX12_mass 40 = .ok (.iload_n 2, 1) := by decide +kernel
theorem dX12_mass_41 : decode cX12_mass 41 = .ok (.iastore, 1) := by decide +kernel
theorem dX12_mass_42 : decode cX12_mass 42 = .ok (.iload_n 3, 1) := by decide +kernel
theorem dX12_mass_43 : decode cX12_mass 43 = .ok (.ireturn, 1) := by decide +kernel
theorem dX12_masses_0 : decode cX12_masses 0 = .ok (.iload_n 1, 1) := by decide +kernel
theorem dX12_masses_1 : decode cX12_masses 1 = .ok (.iconst 0, 1) := by decide +kernel
theorem dX12_masses_2 : decode cX12_masses 2 = .ok (.iconst 2, 1) := by decide +kernel
theorem dX12_masses_3 : decode cX12_masses 3 = .ok (.invokestatic 106, 3) := by decide +kernel
theorem dX12_masses_6 : decode cX12_masses 6 = .ok (.ifCond .ne 5, 3) := by decide +kernel
theorem dX12_masses_9 : decode cX12_masses 9 = .ok (.iconst (-1), 1) := by decide +kernel
theorem dX12_masses_10 : decode cX12_masses 10 = .ok (.ireturn, 1) := by decide +kernel
theorem dX12_masses_11 : decode cX12_masses 11 = .ok (.aload_n 0, 1) := by decide +kernel
theorem dX12_masses_12 : decode cX12_masses 12 = .ok (.getfield 142, 3) := by decide +kernel
theorem dX12_masses_15 : decode cX12_masses 15 = .ok (.istore_n 2, 1) := by decide +kernel
theorem dX12_masses_16 : decode cX12_masses 16 = .ok (.aload_n 0, 1) := by decide +kernel
theorem dX12_masses_17 : decode cX12_masses 17 = .ok (.iload_n 1, 1) := by decide +kernel
theorem dX12_masses_18 : decode cX12_masses 18 = .ok (.putfield 142, 3) := by decide +kernel
theorem dX12_masses_21 : decode cX12_masses 21 = .ok (.iload_n 2, 1) := by decide +kernel
theorem dX12_masses_22 : decode cX12_masses 22 = .ok (.ireturn, 1) := by decide +kernel
theorem dX12_awayOf_0 : decode cX12_awayOf 0 = .ok (.aload_n 0, 1) := by decide +kernel
theorem dX12_awayOf_1 : decode cX12_awayOf 1 = .ok (.getfield 7, 3) := by decide +kernel
theorem dX12_awayOf_4 : decode cX12_awayOf 4 = .ok (.iload_n 1, 1) := by decide +kernel
theorem dX12_awayOf_5 : decode cX12_awayOf 5 = .ok (.iaload, 1) := by decide +kernel
theorem dX12_awayOf_6 : decode cX12_awayOf 6 = .ok (.aload_n 0, 1) := by decide +kernel
theorem dX12_awayOf_7 : decode cX12_awayOf 7 = .ok (.getfield 16, 3) := by decide +kernel
theorem dX12_awayOf_10 : decode cX12_awayOf 10 = .ok (.iconst 2, 1) := by decide +kernel
theorem dX12_awayOf_11 : decode cX12_awayOf 11 = .ok (.iload_n 2, 1) := by decide +kernel
theorem dX12_awayOf_12 : decode cX12_awayOf 12 = .ok (.imul, 1) := by decide +kernel
theorem dX12_awayOf_13 : decode cX12_awayOf 13 = .ok (.iaload, 1) := by decide +kernel
theorem dX12_awayOf_14 : decode cX12_awayOf 14 = .ok (.isub, 1) := by decide +kernel
theorem dX12_awayOf_15 : decode cX12_awayOf 15 = .ok (.istore_n 3, 1) := by decide +kernel
theorem dX12_awayOf_16 : decode cX12_awayOf 16 = .ok (.iload_n 3, 1) := by decide +kernel
theorem dX12_awayOf_17 : decode cX12_awayOf 17 = .ok (.ifCond .ge 8, 3) := by decide +kernel
theorem dX12_awayOf_20 : decode cX12_awayOf 20 = .ok (.iload_n 3, 1) := by decide +kernel
theorem dX12_awayOf_21 : decode cX12_awayOf 21 = .ok (.ineg, 1) := by decide +kernel
theorem dX12_awayOf_22 : decode cX12_awayOf 22 = .ok (.goto 4, 3) := by decide +kernel
theorem dX12_awayOf_25 : decode cX12_awayOf 25 = .ok (.iload_n 3, 1) := by decide +kernel
theorem dX12_awayOf_26 : decode cX12_awayOf 26 = .ok (.ireturn, 1) := by decide +kernel
theorem dX12_addSight_0 : decode cX12_addSight 0 = .ok (.aload_n 0, 1) := by decide +kernel
theorem dX12_addSight_1 : decode cX12_addSight 1 = .ok (.getfield 113, 3) := by decide +kernel
theorem dX12_addSight_4 : decode cX12_addSight 4 = .ok (.bipush 24, 2) := by decide +kernel
theorem dX12_addSight_6 : decode cX12_addSight 6 = .ok (.if_icmp .ne 6, 3) := by decide +kernel
theorem dX12_addSight_9 : decode cX12_addSight 9 = .ok (.bipush (-2), 2) := by decide +kernel
theorem dX12_addSight_11 : decode cX12_addSight 11 = .ok (.ireturn, 1) := by decide +kernel
theorem dX12_addSight_12 : decode cX12_addSight 12 = .ok (.bipush 7, 2) := by decide +kernel
theorem dX12_addSight_14 : decode cX12_addSight 14 = .ok (.aload_n 0, 1) := by decide +kernel
theorem dX12_addSight_15 : decode cX12_addSight 15 = .ok (.getfield 113, 3) := by decide +kernel
theorem dX12_addSight_18 : decode cX12_addSight 18 = .ok (.imul, 1) := by decide +kernel
theorem dX12_addSight_19 : decode cX12_addSight 19 = .ok (.istore 7, 2) := by decide +kernel
theorem dX12_addSight_21 : decode cX12_addSight 21 = .ok (.aload_n 0, 1) := by decide +kernel
theorem dX12_addSight_22 : decode cX12_addSight 22 = .ok (.getfield 19, 3) := by decide +kernel
theorem dX12_addSight_25 : decode cX12_addSight 25 = .ok (.iload 7, 2) := by decide +kernel
theorem dX12_addSight_27 : decode cX12_addSight 27 = .ok (.iload_n 1, 1) := by decide +kernel
theorem dX12_addSight_28 : decode cX12_addSight 28 = .ok (.iastore, 1) := by decide +kernel
theorem dX12_addSight_29 : decode cX12_addSight 29 = .ok (.aload_n 0, 1) := by decide +kernel
theorem dX12_addSight_30 : decode cX12_addSight 30 = .ok (.getfield 19, 3) := by decide +kernel
theorem dX12_addSight_33 : decode cX12_addSight 33 = .ok (.iload 7, 2) := by decide +kernel
theorem dX12_addSight_35 : decode cX12_addSight 35 = .ok (.iconst 1, 1) := by decide +kernel
theorem dX12_addSight_36 : decode cX12_addSight 36 = .ok (.iadd, 1) := by decide +kernel
theorem dX12_addSight_37 : decode cX12_addSight 37 = .ok (.iload_n 2, 1) := by decide +kernel
theorem dX12_addSight_38 : decode cX12_addSight 38 = .ok (.iastore, 1) := by decide +kernel
theorem dX12_addSight_39 : decode cX12_addSight 39 = .ok (.aload_n 0, 1) := by decide +kernel
theorem dX12_addSight_40 : decode cX12_addSight 40 = .ok (.getfield 19, 3) := by decide +kernel
theorem dX12_addSight_43 : decode cX12_addSight 43 = .ok (.iload 7, 2) := by decide +kernel
theorem dX12_addSight_45 : decode cX12_addSight 45 = .ok (.iconst 2, 1) := by decide +kernel
theorem dX12_addSight_46 : decode cX12_addSight 46 = .ok (.iadd, 1) := by decide +kernel
theorem dX12_addSight_47 : decode cX12_addSight 47 = .ok (.iload_n 3, 1) := by decide +kernel
theorem dX12_addSight_48 : decode cX12_addSight 48 = .ok (.iastore, 1) := by decide +kernel
theorem dX12_addSight_49 : decode cX12_addSight 49 = .ok (.aload_n 0, 1) := by decide +kernel
theorem dX12_addSight_50 : decode cX12_addSight 50 = .ok (.getfield 19, 3) := by decide +kernel
theorem dX12_addSight_53 : decode cX12_addSight 53 = .ok (.iload 7, 2) := by decide +kernel
theorem dX12_addSight_55 : decode cX12_addSight 55 = .ok (.iconst 3, 1) := by decide +kernel
theorem dX12_addSight_56 : decode cX12_addSight 56 = .ok (.iadd, 1) := by decide +kernel
theorem dX12_addSight_57 : decode cX12_addSight 57 = .ok (.iload 4, 2) := by decide +kernel
theorem dX12_addSight_59 : decode cX12_addSight 59 = .ok (.iastore, 1) := by decide +kernel
theorem dX12_addSight_60 : decode cX12_addSight 60 = .ok (.aload_n 0, 1) := by decide +kernel
theorem dX12_addSight_61 : decode cX12_addSight 61 = .ok (.getfield 19, 3) := by decide +kernel
theorem dX12_addSight_64 : decode cX12_addSight 64 = .ok (.iload 7, 2) := by decide +kernel
theorem dX12_addSight_66 : decode cX12_addSight 66 = .ok (.iconst 4, 1) := by decide +kernel
theorem dX12_addSight_67 : decode cX12_addSight 67 = .ok (.iadd, 1) := by decide +kernel
theorem dX12_addSight_68 : decode cX12_addSight 68 = .ok (.iload 5, 2) := by decide +kernel
theorem dX12_addSight_70 : decode cX12_addSight 70 = .ok (.iastore, 1) := by decide +kernel
theorem dX12_addSight_71 : decode cX12_addSight 71 = .ok (.aload_n 0, 1) := by decide +kernel
theorem dX12_addSight_72 : decode cX12_addSight 72 = .ok (.getfield 19, 3) := by decide +kernel
theorem dX12_addSight_75 : decode cX12_addSight 75 = .ok (.iload 7, 2) := by decide +kernel
theorem dX12_addSight_77 : decode cX12_addSight 77 = .ok (.iconst 5, 1) := by decide +kernel
theorem dX12_addSight_78 : decode cX12_addSight 78 = .ok (.iadd, 1) := by decide +kernel
theorem dX12_addSight_79 : decode cX12_addSight 79 = .ok (.iload 6, 2) := by decide +kernel
theorem dX12_addSight_81 : decode cX12_addSight 81 = .ok (.iastore, 1) := by decide +kernel
theorem dX12_addSight_82 : decode cX12_addSight 82 = .ok (.aload_n 0, 1) := by decide +kernel
theorem dX12_addSight_83 : decode cX12_addSight 83 = .ok (.getfield 19, 3) := by decide +kernel
theorem dX12_addSight_86 : decode cX12_addSight 86 = .ok (.iload 7, 2) := by decide +kernel
theorem dX12_addSight_88 : decode cX12_addSight 88 = .ok (.bipush 6, 2) := by decide +kernel
theorem dX12_addSight_90 : decode cX12_addSight 90 = .ok (.iadd, 1) := by decide +kernel
theorem dX12_addSight_91 : decode cX12_addSight 91 = .ok (.iconst 1, 1) := by decide +kernel
theorem dX12_addSight_92 : decode cX12_addSight 92 = .ok (.iastore, 1) := by decide +kernel
theorem dX12_addSight_93 : decode cX12_addSight 93 = .ok (.aload_n 0, 1) := by decide +kernel
theorem dX12_addSight_94 : decode cX12_addSight 94 = .ok (.dup, 1) := by decide +kernel
theorem dX12_addSight_95 : decode cX12_addSight 95 = .ok (.getfield 113, 3) := by decide +kernel
theorem dX12_addSight_98 : decode cX12_addSight 98 = .ok (.iconst 1, 1) := by decide +kernel
theorem dX12_addSight_99 : decode cX12_addSight 99 = .ok (.iadd, 1) := by decide +kernel
theorem dX12_addSight_100 : decode cX12_addSight 100 = .ok (.putfield 113, 3) := by decide +kernel
theorem dX12_addSight_103 : decode cX12_addSight 103 = .ok (.aload_n 0, 1) := by decide +kernel
theorem dX12_addSight_104 : decode cX12_addSight 104 = .ok (.getfield 113, 3) := by decide +kernel
theorem dX12_addSight_107 : decode cX12_addSight 107 = .ok (.iconst 1, 1) := by decide +kernel
theorem dX12_addSight_108 : decode cX12_addSight 108 = .ok (.isub, 1) := by decide +kernel
theorem dX12_addSight_109 : decode cX12_addSight 109 = .ok (.ireturn, 1) := by decide +kernel
theorem dX12_isSlant_0 : decode cX12_isSlant 0 = .ok (.iload_n 0, 1) := by decide +kernel
theorem dX12_isSlant_1 : decode cX12_isSlant 1 = .ok (.bipush (-99), 2) := by decide +kernel
theorem dX12_isSlant_3 : decode cX12_isSlant 3 = .ok (.sipush 999, 3) := by decide +kernel
theorem dX12_isSlant_6 : decode cX12_isSlant 6 = .ok (.invokestatic 106, 3) := by decide +kernel
theorem dX12_isSlant_9 : decode cX12_isSlant 9 = .ok (.ireturn, 1) := by decide +kernel
theorem dX12_isWhen_0 : decode cX12_isWhen 0 = .ok (.iload_n 0, 1) := by decide +kernel
theorem dX12_isWhen_1 : decode cX12_isWhen 1 = .ok (.ifCond .lt 25, 3) := by decide +kernel
theorem dX12_isWhen_4 : decode cX12_isWhen 4 = .ok (.iload_n 0, 1) := by decide +kernel
theorem dX12_isWhen_5 : decode cX12_isWhen 5 = .ok (.bipush 100, 2) := by decide +kernel
theorem dX12_isWhen_7 : decode cX12_isWhen 7 = .ok (.idiv, 1) := by decide +kernel
theorem dX12_isWhen_8 : decode cX12_isWhen 8 = .ok (.bipush 23, 2) := by decide +kernel
theorem dX12_isWhen_10 : decode cX12_isWhen 10 = .ok (.if_icmp .gt 16, 3) := by decide +kernel
theorem dX12_isWhen_13 : decode cX12_isWhen 13 = .ok (.iload_n 0, 1) := by decide +kernel
theorem dX12_isWhen_14 : decode cX12_isWhen 14 = .ok (.bipush 100, 2) := by decide +kernel
theorem dX12_isWhen_16 : decode cX12_isWhen 16 = .ok (.irem, 1) := by decide +kernel
theorem dX12_isWhen_17 : decode cX12_isWhen 17 = .ok (.bipush 40, 2) := by decide +kernel
theorem dX12_isWhen_19 : decode cX12_isWhen 19 = .ok (.if_icmp .gt 7, 3) := by decide +kernel
theorem dX12_isWhen_22 : decode cX12_isWhen 22 = .ok (.iconst 1, 1) := by decide +kernel
theorem dX12_isWhen_23 : decode cX12_isWhen 23 = .ok (.goto 4, 3) := by decide +kernel
theorem dX12_isWhen_26 : decode cX12_isWhen 26 = .ok (.iconst 0, 1) := by decide +kernel
theorem dX12_isWhen_27 : decode cX12_isWhen 27 = .ok (.ireturn, 1) := by decide +kernel
theorem dX12_sight_0 : decode cX12_sight 0 = .ok (.iload_n 1, 1) := by decide +kernel
theorem dX12_sight_1 : decode cX12_sight 1 = .ok (.iconst 1, 1) := by decide +kernel
theorem dX12_sight_2 : decode cX12_sight 2 = .ok (.iconst 5, 1) := by decide +kernel
theorem dX12_sight_3 : decode cX12_sight 3 = .ok (.invokestatic 106, 3) := by decide +kernel
theorem dX12_sight_6 : decode cX12_sight 6 = .ok (.ifCond .eq 35, 3) := by decide +kernel
theorem dX12_sight_9 : decode cX12_sight 9 = .ok (.aload_n 0, 1) := by decide +kernel
theorem dX12_sight_10 : decode cX12_sight 10 = .ok (.iload_n 2, 1) := by decide +kernel
theorem dX12_sight_11 : decode cX12_sight 11 = .ok (.invokevirtual 116, 3) := by decide +kernel
theorem dX12_sight_14 : decode cX12_sight 14 = .ok (.ifCond .eq 27, 3) := by decide +kernel
theorem dX12_sight_17 : decode cX12_sight 17 = .ok (.aload_n 0, 1) := by decide +kernel
theorem dX12_sight_18 : decode cX12_sight 18 = .ok (.iload_n 3, 1) := by decide +kernel
theorem dX12_sight_19 : decode cX12_sight 19 = .ok (.invokevirtual 157, 3) := by decide +kernel
theorem dX12_sight_22 : decode cX12_sight 22 = .ok (.ifCond .eq 19, 3) := by decide +kernel
theorem dX12_sight_25 : decode cX12_sight 25 = .ok (.iload 4, 2) := by decide +kernel
theorem dX12_sight_27 : decode cX12_sight 27 = .ok (.invokestatic 160, 3) := by decide +kernel
theorem dX12_sight_30 : decode cX12_sight 30 = .ok (.ifCond .eq 11, 3) := by decide +kernel
theorem dX12_sight_33 : decode cX12_sight 33 = .ok (.iload 5, 2) := by decide +kernel
theorem dX12_sight_35 : decode cX12_sight 35 = .ok (.invokestatic 163, 3) := by decide +kernel
theorem dX12_sight_38 : decode cX12_sight 38 = .ok (.ifCond .ne 5, 3) := by decide +kernel
theorem dX12_sight_41 : decode cX12_sight 41 = .ok (.iconst (-1), 1) := by decide +kernel
theorem dX12_sight_42 : decode cX12_sight 42 = .ok (.ireturn, 1) := by decide +kernel
theorem dX12_sight_43 : decode cX12_sight 43 = .ok (.aload_n 0, 1) := by decide +kernel
theorem dX12_sight_44 : decode cX12_sight 44 = .ok (.iload_n 1, 1) := by decide +kernel
theorem dX12_sight_45 : decode cX12_sight 45 = .ok (.iload_n 2, 1) := by decide +kernel
theorem dX12_sight_46 : decode cX12_sight 46 = .ok (.iload_n 3, 1) := by decide +kernel
theorem dX12_sight_47 : decode cX12_sight 47 = .ok (.iload 4, 2) := by decide +kernel
theorem dX12_sight_49 : decode cX12_sight 49 = .ok (.iload 5, 2) := by decide +kernel
theorem dX12_sight_51 : decode cX12_sight 51 = .ok (.bipush 100, 2) := by decide +kernel
theorem dX12_sight_53 : decode cX12_sight 53 = .ok (.idiv, 1) := by decide +kernel
theorem dX12_sight_54 : decode cX12_sight 54 = .ok (.iload 5, 2) := by decide +kernel
theorem dX12_sight_56 : decode cX12_sight 56 = .ok (.bipush 100, 2) := by decide +kernel
theorem dX12_sight_58 : decode cX12_sight 58 = .ok (.irem, 1) := by decide +kernel
theorem dX12_sight_59 : decode cX12_sight 59 = .ok (.invokevirtual 166, 3) := by decide +kernel
theorem dX12_sight_62 : decode cX12_sight 62 = .ok (.ireturn, 1) := by decide +kernel
theorem dX12_bendBy_0 : decode cX12_bendBy 0 = .ok (.iload_n 1, 1) := by decide +kernel
theorem dX12_bendBy_1 : decode cX12_bendBy 1 = .ok (.tableswitch 50 1 4 #[31, 35, 39, 41], 31) := by decide +kernel
theorem dX12_bendBy_32 : decode cX12_bendBy 32 = .ok (.iconst 2, 1) := by decide +kernel
theorem dX12_bendBy_33 : decode cX12_bendBy 33 = .ok (.iload_n 2, 1) := by decide +kernel
theorem dX12_bendBy_34 : decode cX12_bendBy 34 = .ok (.imul, 1) := by decide +kernel
theorem dX12_bendBy_35 : decode cX12_bendBy 35 = .ok (.ireturn, 1) := by decide +kernel
theorem dX12_bendBy_36 : decode cX12_bendBy 36 = .ok (.iload_n 2, 1) := by decide +kernel
theorem dX12_bendBy_37 : decode cX12_bendBy 37 = .ok (.iconst 2, 1) := by decide +kernel
theorem dX12_bendBy_38 : decode cX12_bendBy 38 = .ok (.idiv, 1) := by decide +kernel
theorem dX12_bendBy_39 : decode cX12_bendBy 39 = .ok (.ireturn, 1) := by decide +kernel
theorem dX12_bendBy_40 : decode cX12_bendBy 40 = .ok (.iconst 0, 1) := by decide +kernel
theorem dX12_bendBy_41 : decode cX12_bendBy 41 = .ok (.ireturn, 1) := by decide +kernel
theorem dX12_bendBy_42 : decode cX12_bendBy 42 = .ok (.iconst 2, 1) := by decide +kernel
theorem dX12_bendBy_43 : decode cX12_bendBy 43 = .ok (.iload_n 2, 1) := by decide +kernel
theorem dX12_bendBy_44 : decode cX12_bendBy 44 = .ok (.imul, 1) := by decide +kernel
theorem dX12_bendBy_45 : decode cX12_bendBy 45 = .ok (.iload_n 3, 1) := by decide +kernel
theorem dX12_bendBy_46 : decode cX12_bendBy 46 = .ok (.bipush 10, 2) := by decide +kernel
theorem dX12_bendBy_48 : decode cX12_bendBy 48 = .ok (.idiv, 1) := by decide +kernel
theorem dX12_bendBy_49 : decode cX12_bendBy 49 = .ok (.iadd, 1) := by decide +kernel
theorem dX12_bendBy_50 : decode cX12_bendBy 50 = .ok (.ireturn, 1) := by decide +kernel
theorem dX12_bendBy_51 : decode cX12_bendBy 51 = .ok (.iload_n 2, 1) := by decide +kernel
theorem dX12_bendBy_52 : decode cX12_bendBy 52 = .ok (.iconst 2, 1) := by decide +kernel
theorem dX12_bendBy_53 : decode cX12_bendBy 53 = .ok (.idiv, 1) := by decide +kernel
theorem dX12_bendBy_54 : decode cX12_bendBy 54 = .ok (.iconst 1, 1) := by decide +kernel
theorem dX12_bendBy_55 : decode cX12_bendBy 55 = .ok (.iadd, 1) := by decide +kernel
theorem dX12_bendBy_56 : decode cX12_bendBy 56 = .ok (.ireturn, 1) := by decide +kernel
theorem dX12_slackBy_0 : decode cX12_slackBy 0 = .ok (.iload_n 0, 1) := by decide +kernel
theorem dX12_slackBy_1 : decode cX12_slackBy 1 = .ok (.tableswitch 44 1 4 #[31, 33, 35, 37], 31) := by decide +kernel
theorem dX12_slackBy_32 : decode cX12_slackBy 32 = .ok (.iconst 3, 1) := by decide +kernel
theorem dX12_slackBy_33 : decode cX12_slackBy 33 = .ok (.ireturn, 1) := by decide +kernel
theorem dX12_slackBy_34 : decode cX12_slackBy 34 = .ok (.iconst 5, 1) := by decide +kernel
theorem dX12_slackBy_35 : decode cX12_slackBy 35 = .ok (.ireturn, 1) := by decide +kernel
theorem dX12_slackBy_36 : decode cX12_slackBy 36 = .ok (.iconst 1, 1) := by decide +kernel
theorem dX12_slackBy_37 : decode cX12_slackBy 37 = .ok (.ireturn, 1) := by decide +kernel
theorem dX12_slackBy_38 : decode cX12_slackBy 38 = .ok (.iconst 3, 1) := by decide +kernel
theorem dX12_slackBy_39 : decode cX12_slackBy 39 = .ok (.iload_n 1, 1) := by decide +kernel
theorem dX12_slackBy_40 : decode cX12_slackBy 40 = .ok (.bipush 50, 2) := by decide +kernel
theorem dX12_slackBy_42 : decode cX12_slackBy 42 = .ok (.idiv, 1) := by decide +kernel
theorem dX12_slackBy_43 : decode cX12_slackBy 43 = .ok (.iadd, 1) := by decide +kernel
theorem dX12_slackBy_44 : decode cX12_slackBy 44 = .ok (.ireturn, 1) := by decide +kernel
theorem dX12_slackBy_45 : decode cX12_slackBy 45 = .ok (.bipush 10, 2) := by decide +kernel
theorem dX12_slackBy_47 : decode cX12_slackBy 47 = .ok (.ireturn, 1) := by decide +kernel
theorem dX12_toldOf_0 : decode cX12_toldOf 0 = .ok (.aload_n 0, 1) := by decide +kernel
theorem dX12_toldOf_1 : decode cX12_toldOf 1 = .ok (.aload_n 0, 1) := by decide +kernel
theorem dX12_toldOf_2 : decode cX12_toldOf 2 = .ok (.getfield 19, 3) := by decide +kernel
theorem dX12_toldOf_5 : decode cX12_toldOf 5 = .ok (.bipush 7, 2) := by decide +kernel
theorem dX12_toldOf_7 : decode cX12_toldOf 7 = .ok (.iload_n 1, 1) := by decide +kernel
theorem dX12_toldOf_8 : decode cX12_toldOf 8 = .ok (.imul, 1) := by decide +kernel
theorem dX12_toldOf_9 : decode cX12_toldOf 9 = .ok (.iconst 1, 1) := by decide +kernel
theorem dX12_toldOf_10 : decode cX12_toldOf 10 = .ok (.iadd, 1) := by decide +kernel
theorem dX12_toldOf_11 : decode cX12_toldOf 11 = .ok (.iaload, 1) := by decide +kernel
theorem dX12_toldOf_12 : decode cX12_toldOf 12 = .ok (.aload_n 0, 1) := by decide +kernel
theorem dX12_toldOf_13 : decode cX12_toldOf 13 = .ok (.getfield 19, 3) := by decide +kernel
theorem dX12_toldOf_16 : decode cX12_toldOf 16 = .ok (.bipush 7, 2) := by decide +kernel
theorem dX12_toldOf_18 : decode cX12_toldOf 18 = .ok (.iload_n 1, 1) := by decide +kernel
theorem dX12_toldOf_19 : decode cX12_toldOf 19 = .ok (.imul, 1) := by decide +kernel
theorem dX12_toldOf_20 : decode cX12_toldOf 20 = .ok (.iconst 2, 1) := by decide +kernel
theorem dX12_toldOf_21 : decode cX12_toldOf 21 = .ok (.iadd, 1) := by decide +kernel
theorem dX12_toldOf_22 : decode cX12_toldOf 22 = .ok (.iaload, 1) := by decide +kernel
theorem dX12_toldOf_23 : decode cX12_toldOf 23 = .ok (.invokevirtual 138, 3) := by decide +kernel
theorem dX12_toldOf_26 : decode cX12_toldOf 26 = .ok (.istore_n 2, 1) := by decide +kernel
theorem dX12_toldOf_27 : decode cX12_toldOf 27 = .ok (.aload_n 0, 1) := by decide +kernel
theorem dX12_toldOf_28 : decode cX12_toldOf 28 = .ok (.aload_n 0, 1) := by decide +kernel
theorem dX12_toldOf_29 : decode cX12_toldOf 29 = .ok (.getfield 19, 3) := by decide +kernel
theorem dX12_toldOf_32 : decode cX12_toldOf 32 = .ok (.bipush 7, 2) := by decide +kernel
theorem dX12_toldOf_34 : decode cX12_toldOf 34 = .ok (.iload_n 1, 1) := by decide +kernel
theorem dX12_toldOf_35 : decode cX12_toldOf 35 = .ok (.imul, 1) := by decide +kernel
theorem dX12_toldOf_36 : decode cX12_toldOf 36 = .ok (.iaload, 1) := by decide +kernel
theorem dX12_toldOf_37 : decode cX12_toldOf 37 = .ok (.iload_n 2, 1) := by decide +kernel
theorem dX12_toldOf_38 : decode cX12_toldOf 38 = .ok (.aload_n 0, 1) := by decide +kernel
theorem dX12_toldOf_39 : decode cX12_toldOf 39 = .ok (.getfield 19, 3) := by decide +kernel
theorem dX12_toldOf_42 : decode cX12_toldOf 42 = .ok (.bipush 7, 2) := by decide +kernel
theorem dX12_toldOf_44 : decode cX12_toldOf 44 = .ok (.iload_n 1, 1) := by decide +kernel
theorem dX12_toldOf_45 : decode cX12_toldOf 45 = .ok (.imul, 1) := by decide +kernel
theorem dX12_toldOf_46 : decode cX12_toldOf 46 = .ok (.iconst 4, 1) := by decide +kernel
theorem dX12_toldOf_47 : decode cX12_toldOf 47 = .ok (.iadd, 1) := by decide +kernel
theorem dX12_toldOf_48 : decode cX12_toldOf 48 = .ok (.iaload, 1) := by decide +kernel
theorem dX12_toldOf_49 : decode cX12_toldOf 49 = .ok (.aload_n 0, 1) := by decide +kernel
theorem dX12_toldOf_50 : decode cX12_toldOf 50 = .ok (.getfield 19, 3) := by decide +kernel
theorem dX12_toldOf_53 : decode cX12_toldOf 53 = .ok (.bipush 7, 2) := by decide +kernel
theorem dX12_toldOf_55 : decode cX12_toldOf 55 = .ok (.iload_n 1, 1) := by decide +kernel
theorem dX12_toldOf_56 : decode cX12_toldOf 56 = .ok (.imul, 1) := by decide +kernel
theorem dX12_toldOf_57 : decode cX12_toldOf 57 = .ok (.iconst 5, 1) := by decide +kernel
theorem dX12_toldOf_58 : decode cX12_toldOf 58 = .ok (.iadd, 1) := by decide +kernel
theorem dX12_toldOf_59 : decode cX12_toldOf 59 = .ok (.iaload, 1) := by decide +kernel
theorem dX12_toldOf_60 : decode cX12_toldOf 60 = .ok (.invokevirtual 170, 3) := by decide +kernel
theorem dX12_toldOf_63 : decode cX12_toldOf 63 = .ok (.ireturn, 1) := by decide +kernel
theorem dX12_sightOf_0 : decode cX12_sightOf 0 = .ok (.aload_n 0, 1) := by decide +kernel
theorem dX12_sightOf_1 : decode cX12_sightOf 1 = .ok (.iload_n 1, 1) := by decide +kernel
theorem dX12_sightOf_2 : decode cX12_sightOf 2 = .ok (.invokevirtual 174, 3) := by decide +kernel
theorem dX12_sightOf_5 : decode cX12_sightOf 5 = .ok (.ifCond .eq 13, 3) := by decide +kernel
theorem dX12_sightOf_8 : decode cX12_sightOf 8 = .ok (.iload_n 2, 1) := by decide +kernel
theorem dX12_sightOf_9 : decode cX12_sightOf 9 = .ok (.iconst 0, 1) := by decide +kernel
theorem dX12_sightOf_10 : decode cX12_sightOf 10 = .ok (.bipush 7, 2) := by decide +kernel
theorem dX12_sightOf_12 : decode cX12_sightOf 12 = .ok (.invokestatic 106, 3) := by decide +kernel
theorem dX12_sightOf_15 : decode cX12_sightOf 15 = .ok (.ifCond .ne 6, 3) := by decide +kernel
theorem dX12_sightOf_18 : decode cX12_sightOf 18 = .ok (.ldc 123, 2) := by decide +kernel
theorem dX12_sightOf_20 : decode cX12_sightOf 20 = .ok (.ireturn, 1) := by decide +kernel
theorem dX12_sightOf_21 : decode cX12_sightOf 21 = .ok (.aload_n 0, 1) := by decide +kernel
theorem dX12_sightOf_22 : decode cX12_sightOf 22 = .ok (.aload_n 0, 1) := by decide +kernel
theorem dX12_sightOf_23 : decode cX12_sightOf 23 = .ok (.getfield 19, 3) := by decide +kernel
theorem dX12_sightOf_26 : decode cX12_sightOf 26 = .ok (.bipush 7, 2) := by decide +kernel
theorem dX12_sightOf_28 : decode cX12_sightOf 28 = .ok (.iload_n 1, 1) := by decide +kernel
theorem dX12_sightOf_29 : decode cX12_sightOf 29 = .ok (.imul, 1) := by decide +kernel
theorem dX12_sightOf_30 : decode cX12_sightOf 30 = .ok (.iconst 1, 1) := by decide +kernel
theorem dX12_sightOf_31 : decode cX12_sightOf 31 = .ok (.iadd, 1) := by decide +kernel
theorem dX12_sightOf_32 : decode cX12_sightOf 32 = .ok (.iaload, 1) := by decide +kernel
theorem dX12_sightOf_33 : decode cX12_sightOf 33 = .ok (.aload_n 0, 1) := by decide +kernel
theorem dX12_sightOf_34 : decode cX12_sightOf 34 = .ok (.getfield 19, 3) := by decide +kernel
theorem dX12_sightOf_37 : decode cX12_sightOf 37 = .ok (.bipush 7, 2) := by decide +kernel
theorem dX12_sightOf_39 : decode cX12_sightOf 39 = .ok (.iload_n 1, 1) := by decide +kernel
theorem dX12_sightOf_40 : decode cX12_sightOf 40 = .ok (.imul, 1) := by decide +kernel
theorem dX12_sightOf_41 : decode cX12_sightOf 41 = .ok (.iconst 2, 1) := by decide +kernel
theorem dX12_sightOf_42 : decode cX12_sightOf 42 = .ok (.iadd, 1) := by decide +kernel
theorem dX12_sightOf_43 : decode cX12_sightOf 43 = .ok (.iaload, 1) := by decide +kernel
theorem dX12_sightOf_44 : decode cX12_sightOf 44 = .ok (.invokevirtual 138, 3) := by decide +kernel
theorem dX12_sightOf_47 : decode cX12_sightOf 47 = .ok (.istore_n 3, 1) := by decide +kernel
theorem dX12_sightOf_48 : decode cX12_sightOf 48 = .ok (.iload_n 2, 1) := by decide +kernel
theorem dX12_sightOf_49 : decode cX12_sightOf 49 = .ok (.tableswitch 84 4 7 #[31, 37, 57, 71], 31) := by decide +kernel
theorem dX12_sightOf_80 : decode cX12_sightOf 80 = .ok (.aload_n 0, 1) := by decide +kernel
theorem dX12_sightOf_81 : decode cX12_sightOf 81 = .ok (.iload_n 1, 1) := by decide +kernel
theorem dX12_sightOf_82 : decode cX12_sightOf 82 = .ok (.invokevirtual 177, 3) := by decide +kernel
theorem dX12_sightOf_85 : decode cX12_sightOf 85 = .ok (.ireturn, 1) := by decide +kernel
theorem dX12_sightOf_86 : decode cX12_sightOf 86 = .ok (.aload_n 0, 1) := by decide +kernel
theorem dX12_sightOf_87 : decode cX12_sightOf 87 = .ok (.aload_n 0, 1) := by decide +kernel
theorem dX12_sightOf_88 : decode cX12_sightOf 88 = .ok (.getfield 19, 3) := by decide +kernel
theorem dX12_sightOf_91 : decode cX12_sightOf 91 = .ok (.bipush 7, 2) := by decide +kernel
theorem dX12_sightOf_93 : decode cX12_sightOf 93 = .ok (.iload_n 1, 1) := by decide +kernel
theorem dX12_sightOf_94 : decode cX12_sightOf 94 = .ok (.imul, 1) := by decide +kernel
theorem dX12_sightOf_95 : decode cX12_sightOf 95 = .ok (.iaload, 1) := by decide +kernel
theorem dX12_sightOf_96 : decode cX12_sightOf 96 = .ok (.aload_n 0, 1) := by decide +kernel
theorem dX12_sightOf_97 : decode cX12_sightOf 97 = .ok (.iload_n 1, 1) := by decide +kernel
theorem dX12_sightOf_98 : decode cX12_sightOf 98 = .ok (.invokevirtual 177, 3) := by decide +kernel
theorem dX12_sightOf_101 : decode cX12_sightOf 101 = .ok (.iload_n 3, 1) := by decide +kernel
theorem dX12_sightOf_102 : decode cX12_sightOf 102 = .ok (.invokevirtual 180, 3) := by decide +kernel
theorem dX12_sightOf_105 : decode cX12_sightOf 105 = .ok (.ireturn, 1) := by decide +kernel
theorem dX12_sightOf_106 : decode cX12_sightOf 106 = .ok (.aload_n 0, 1) := by decide +kernel
theorem dX12_sightOf_107 : decode cX12_sightOf 107 = .ok (.getfield 19, 3) := by decide +kernel
theorem dX12_sightOf_110 : decode cX12_sightOf 110 = .ok (.bipush 7, 2) := by decide +kernel
theorem dX12_sightOf_112 : decode cX12_sightOf 112 = .ok (.iload_n 1, 1) := by decide +kernel
theorem dX12_sightOf_113 : decode cX12_sightOf 113 = .ok (.imul, 1) := by decide +kernel
theorem dX12_sightOf_114 : decode cX12_sightOf 114 = .ok (.iaload, 1) := by decide +kernel
theorem dX12_sightOf_115 : decode cX12_sightOf 115 = .ok (.iload_n 3, 1) := by decide +kernel
theorem dX12_sightOf_116 : decode cX12_sightOf 116 = .ok (.invokestatic 184, 3) := by decide +kernel
theorem dX12_sightOf_119 : decode cX12_sightOf 119 = .ok (.ireturn, 1) := by decide +kernel
theorem dX12_sightOf_120 : decode cX12_sightOf 120 = .ok (.aload_n 0, 1) := by decide +kernel
theorem dX12_sightOf_121 : decode cX12_sightOf 121 = .ok (.getfield 19, 3) := by decide +kernel
theorem dX12_sightOf_124 : decode cX12_sightOf 124 = .ok (.bipush 7, 2) := by decide +kernel
theorem dX12_sightOf_126 : decode cX12_sightOf 126 = .ok (.iload_n 1, 1) := by decide +kernel
theorem dX12_sightOf_127 : decode cX12_sightOf 127 = .ok (.imul, 1) := by decide +kernel
theorem dX12_sightOf_128 : decode cX12_sightOf 128 = .ok (.bipush 6, 2) := by decide +kernel
theorem dX12_sightOf_130 : decode cX12_sightOf 130 = .ok (.iadd, 1) := by decide +kernel
theorem dX12_sightOf_131 : decode cX12_sightOf 131 = .ok (.iaload, 1) := by decide +kernel
theorem dX12_sightOf_132 : decode cX12_sightOf 132 = .ok (.ireturn, 1) := by decide +kernel
theorem dX12_sightOf_133 : decode cX12_sightOf 133 = .ok (.aload_n 0, 1) := by decide +kernel
theorem dX12_sightOf_134 : decode cX12_sightOf 134 = .ok (.getfield 19, 3) := by decide +kernel
theorem dX12_sightOf_137 : decode cX12_sightOf 137 = .ok (.bipush 7, 2) := by decide +kernel
theorem dX12_sightOf_139 : decode cX12_sightOf 139 = .ok (.iload_n 1, 1) := by decide +kernel
theorem dX12_sightOf_140 : decode cX12_sightOf 140 = .ok (.imul, 1) := by decide +kernel
theorem dX12_sightOf_141 : decode cX12_sightOf 141 = .ok (.iload_n 2, 1) := by decide +kernel
theorem dX12_sightOf_142 : decode cX12_sightOf 142 = .ok (.iadd, 1) := by decide +kernel
theorem dX12_sightOf_143 : decode cX12_sightOf 143 = .ok (.iaload, 1) := by decide +kernel
theorem dX12_sightOf_144 : decode cX12_sightOf 144 = .ok (.ireturn, 1) := by decide +kernel
theorem dX12_falls_0 : decode cX12_falls 0 = .ok (.aload_n 0, 1) := by decide +kernel
theorem dX12_falls_1 : decode cX12_falls 1 = .ok (.iload_n 1, 1) := by decide +kernel
theorem dX12_falls_2 : decode cX12_falls 2 = .ok (.invokevirtual 174, 3) := by decide +kernel
theorem dX12_falls_5 : decode cX12_falls 5 = .ok (.ifCond .ne 5, 3) := by decide +kernel
theorem dX12_falls_8 : decode cX12_falls 8 = .ok (.iconst (-1), 1) := by decide +kernel
theorem dX12_falls_9 : decode cX12_falls 9 = .ok (.ireturn, 1) := by decide +kernel
theorem dX12_falls_10 : decode cX12_falls 10 = .ok (.iload_n 2, 1) := by decide +kernel
theorem dX12_falls_11 : decode cX12_falls 11 = .ok (.ifCond .eq 7, 3) := by decide +kernel
theorem dX12_falls_14 : decode cX12_falls 14 = .ok (.iconst 0, 1) := by decide +kernel
theorem dX12_falls_15 : decode cX12_falls 15 = .ok (.goto 4, 3) := by decide +kernel
theorem dX12_falls_18 : decode cX12_falls 18 = .ok (.iconst 1, 1) := by decide +kernel
theorem dX12_falls_19 : decode cX12_falls 19 = .ok (.istore_n 3, 1) := by decide +kernel
theorem dX12_falls_20 : decode cX12_falls 20 = .ok (.aload_n 0, 1) := by decide +kernel
theorem dX12_falls_21 : decode cX12_falls 21 = .ok (.getfield 19, 3) := by decide +kernel
theorem dX12_falls_24 : decode cX12_falls 24 = .ok (.bipush 7, 2) := by decide +kernel
theorem dX12_falls_26 : decode cX12_falls 26 = .ok (.iload_n 1, 1) := by decide +kernel
theorem dX12_falls_27 : decode cX12_falls 27 = .ok (.imul, 1) := by decide +kernel
theorem dX12_falls_28 : decode cX12_falls 28 = .ok (.bipush 6, 2) := by decide +kernel
theorem dX12_falls_30 : decode cX12_falls 30 = .ok (.iadd, 1) := by decide +kernel
theorem dX12_falls_31 : decode cX12_falls 31 = .ok (.iaload, 1) := by decide +kernel
theorem dX12_falls_32 : decode cX12_falls 32 = .ok (.iload_n 3, 1) := by decide +kernel
theorem dX12_falls_33 : decode cX12_falls 33 = .ok (.if_icmp .ne 7, 3) := by decide +kernel
theorem dX12_falls_36 : decode cX12_falls 36 = .ok (.iconst 0, 1) := by decide +kernel
theorem dX12_falls_37 : decode cX12_falls 37 = .ok (.goto 4, 3) := by decide +kernel
theorem dX12_falls_40 : decode cX12_falls 40 = .ok (.iconst 1, 1) := by decide +kernel
theorem dX12_falls_41 : decode cX12_falls 41 = .ok (.istore 4, 2) := by decide +kernel
theorem dX12_falls_43 : decode cX12_falls 43 = .ok (.aload_n 0, 1) := by decide +kernel
theorem dX12_falls_44 : decode cX12_falls 44 = .ok (.getfield 19, 3) := by decide +kernel
theorem dX12_falls_47 : decode cX12_falls 47 = .ok (.bipush 7, 2) := by decide +kernel
theorem dX12_falls_49 : decode cX12_falls 49 = .ok (.iload_n 1, 1) := by decide +kernel
theorem dX12_falls_50 : decode cX12_falls 50 = .ok (.imul, 1) := by decide +kernel
theorem dX12_falls_51 : decode cX12_falls 51 = .ok (.bipush 6, 2) := by decide +kernel
theorem dX12_falls_53 : decode cX12_falls 53 = .ok (.iadd, 1) := by decide +kernel
theorem dX12_falls_54 : decode cX12_falls 54 = .ok (.iload_n 3, 1) := by decide +kernel
theorem dX12_falls_55 : decode cX12_falls 55 = .ok (.iastore, 1) := by decide +kernel
theorem dX12_falls_56 : decode cX12_falls 56 = .ok (.iload 4, 2) := by decide +kernel
theorem dX12_falls_58 : decode cX12_falls 58 = .ok (.ireturn, 1) := by decide +kernel
theorem dX12_footOf_0 : decode cX12_footOf 0 = .ok (.aload_n 0, 1) := by decide +kernel
theorem dX12_footOf_1 : decode cX12_footOf 1 = .ok (.iload_n 2, 1) := by decide +kernel
theorem dX12_footOf_2 : decode cX12_footOf 2 = .ok (.iload_n 3, 1) := by decide +kernel
theorem dX12_footOf_3 : decode cX12_footOf 3 = .ok (.invokevirtual 138, 3) := by decide +kernel
theorem dX12_footOf_6 : decode cX12_footOf 6 = .ok (.istore 6, 2) := by decide +kernel
theorem dX12_footOf_8 : decode cX12_footOf 8 = .ok (.aload_n 0, 1) := by decide +kernel
theorem dX12_footOf_9 : decode cX12_footOf 9 = .ok (.getfield 37, 3) := by decide +kernel
theorem dX12_footOf_12 : decode cX12_footOf 12 = .ok (.iload_n 2, 1) := by decide +kernel
theorem dX12_footOf_13 : decode cX12_footOf 13 = .ok (.iaload, 1) := by decide +kernel
theorem dX12_footOf_14 : decode cX12_footOf 14 = .ok (.iload 4, 2) := by decide +kernel
theorem dX12_footOf_16 : decode cX12_footOf 16 = .ok (.aload_n 0, 1) := by decide +kernel
theorem dX12_footOf_17 : decode cX12_footOf 17 = .ok (.iload_n 1, 1) := by decide +kernel
theorem dX12_footOf_18 : decode cX12_footOf 18 = .ok (.iload 5, 2) := by decide +kernel
theorem dX12_footOf_20 : decode cX12_footOf 20 = .ok (.iload 6, 2) := by decide +kernel
theorem dX12_footOf_22 : decode cX12_footOf 22 = .ok (.invokevirtual 180, 3) := by decide +kernel
theorem dX12_footOf_25 : decode cX12_footOf 25 = .ok (.isub, 1) := by decide +kernel
theorem dX12_footOf_26 : decode cX12_footOf 26 = .ok (.aload_n 0, 1) := by decide +kernel
theorem dX12_footOf_27 : decode cX12_footOf 27 = .ok (.iload_n 2, 1) := by decide +kernel
theorem dX12_footOf_28 : decode cX12_footOf 28 = .ok (.invokevirtual 145, 3) := by decide +kernel
theorem dX12_footOf_31 : decode cX12_footOf 31 = .ok (.isub, 1) := by decide +kernel
theorem dX12_footOf_32 : decode cX12_footOf 32 = .ok (.iload 6, 2) := by decide +kernel
theorem dX12_footOf_34 : decode cX12_footOf 34 = .ok (.imul, 1) := by decide +kernel
theorem dX12_footOf_35 : decode cX12_footOf 35 = .ok (.bipush 10, 2) := by decide +kernel
theorem dX12_footOf_37 : decode cX12_footOf 37 = .ok (.idiv, 1) := by decide +kernel
theorem dX12_footOf_38 : decode cX12_footOf 38 = .ok (.iadd, 1) := by decide +kernel
theorem dX12_footOf_39 : decode cX12_footOf 39 = .ok (.iload 6, 2) := by decide +kernel
theorem dX12_footOf_41 : decode cX12_footOf 41 = .ok (.iload 6, 2) := by decide +kernel
theorem dX12_footOf_43 : decode cX12_footOf 43 = .ok (.imul, 1) := by decide +kernel
theorem dX12_footOf_44 : decode cX12_footOf 44 = .ok (.sipush 200, 3) := by decide +kernel
theorem dX12_footOf_47 : decode cX12_footOf 47 = .ok (.idiv, 1) := by decide +kernel
theorem dX12_footOf_48 : decode cX12_footOf 48 = .ok (.iadd, 1) := by decide +kernel
theorem dX12_footOf_49 : decode cX12_footOf 49 = .ok (.ireturn, 1) := by decide +kernel
theorem dX12_sightFoot_0 : decode cX12_sightFoot 0 = .ok (.aload_n 0, 1) := by decide +kernel
theorem dX12_sightFoot_1 : decode cX12_sightFoot 1 = .ok (.aload_n 0, 1) := by decide +kernel
theorem dX12_sightFoot_2 : decode cX12_sightFoot 2 = .ok (.getfield 19, 3) := by decide +kernel
theorem dX12_sightFoot_5 : decode cX12_sightFoot 5 = .ok (.bipush 7, 2) := by decide +kernel
theorem dX12_sightFoot_7 : decode cX12_sightFoot 7 = .ok (.iload_n 1, 1) := by decide +kernel
theorem dX12_sightFoot_8 : decode cX12_sightFoot 8 = .ok (.imul, 1) := by decide +kernel
theorem dX12_sightFoot_9 : decode cX12_sightFoot 9 = .ok (.iaload, 1) := by decide +kernel
theorem dX12_sightFoot_10 : decode cX12_sightFoot 10 = .ok (.aload_n 0, 1) := by decide +kernel
theorem dX12_sightFoot_11 : decode cX12_sightFoot 11 = .ok (.getfield 19, 3) := by decide +kernel
theorem dX12_sightFoot_14 : decode cX12_sightFoot 14 = .ok (.bipush 7, 2) := by decide +kernel
theorem dX12_sightFoot_16 : decode cX12_sightFoot 16 = .ok (.iload_n 1, 1) := by decide +kernel
theorem dX12_sightFoot_17 : decode cX12_sightFoot 17 = .ok (.imul, 1) := by decide +kernel
theorem dX12_sightFoot_18 : decode cX12_sightFoot 18 = .ok (.iconst 1, 1) := by decide +kernel
theorem dX12_sightFoot_19 : decode cX12_sightFoot 19 = .ok (.iadd, 1) := by decide +kernel
theorem dX12_sightFoot_20 : decode cX12_sightFoot 20 = .ok (.iaload, 1) := by decide +kernel
theorem dX12_sightFoot_21 : decode cX12_sightFoot 21 = .ok (.aload_n 0, 1) := by decide +kernel
theorem dX12_sightFoot_22 : decode cX12_sightFoot 22 = .ok (.getfield 19, 3) := by decide +kernel
theorem dX12_sightFoot_25 : decode cX12_sightFoot 25 = .ok (.bipush 7, 2) := by decide +kernel
theorem dX12_sightFoot_27 : decode cX12_sightFoot 27 = .ok (.iload_n 1, 1) := by decide +kernel
theorem dX12_sightFoot_28 : decode cX12_sightFoot 28 = .ok (.imul, 1) := by decide +kernel
theorem dX12_sightFoot_29 : decode cX12_sightFoot 29 = .ok (.iconst 2, 1) := by decide +kernel
theorem dX12_sightFoot_30 : decode cX12_sightFoot 30 = .ok (.iadd, 1) := by decide +kernel
theorem dX12_sightFoot_31 : decode cX12_sightFoot 31 = .ok (.iaload, 1) := by decide +kernel
theorem dX12_sightFoot_32 : decode cX12_sightFoot 32 = .ok (.aload_n 0, 1) := by decide +kernel
theorem dX12_sightFoot_33 : decode cX12_sightFoot 33 = .ok (.getfield 19, 3) := by decide +kernel
theorem dX12_sightFoot_36 : decode cX12_sightFoot 36 = .ok (.bipush 7, 2) := by decide +kernel
theorem dX12_sightFoot_38 : decode cX12_sightFoot 38 = .ok (.iload_n 1, 1) := by decide +kernel
theorem dX12_sightFoot_39 : decode cX12_sightFoot 39 = .ok (.imul, 1) := by decide +kernel
theorem dX12_sightFoot_40 : decode cX12_sightFoot 40 = .ok (.iconst 3, 1) := by decide +kernel
theorem dX12_sightFoot_41 : decode cX12_sightFoot 41 = .ok (.iadd, 1) := by decide +kernel
theorem dX12_sightFoot_42 : decode cX12_sightFoot 42 = .ok (.iaload, 1) := by decide +kernel
theorem dX12_sightFoot_43 : decode cX12_sightFoot 43 = .ok (.aload_n 0, 1) := by decide +kernel
theorem dX12_sightFoot_44 : decode cX12_sightFoot 44 = .ok (.iload_n 1, 1) := by decide +kernel
theorem dX12_sightFoot_45 : decode cX12_sightFoot 45 = .ok (.invokevirtual 177, 3) := by decide +kernel
theorem dX12_sightFoot_48 : decode cX12_sightFoot 48 = .ok (.invokevirtual 187, 3) := by decide +kernel
theorem dX12_sightFoot_51 : decode cX12_sightFoot 51 = .ok (.ireturn, 1) := by decide +kernel
theorem dX12_widthOf_0 : decode cX12_widthOf 0 = .ok (.aload_n 0, 1) := by decide +kernel
theorem dX12_widthOf_1 : decode cX12_widthOf 1 = .ok (.getfield 19, 3) := by decide +kernel
theorem dX12_widthOf_4 : decode cX12_widthOf 4 = .ok (.bipush 7, 2) := by decide +kernel
theorem dX12_widthOf_6 : decode cX12_widthOf 6 = .ok (.iload_n 1, 1) := by decide +kernel
theorem dX12_widthOf_7 : decode cX12_widthOf 7 = .ok (.imul, 1) := by decide +kernel
theorem dX12_widthOf_8 : decode cX12_widthOf 8 = .ok (.iconst 1, 1) := by decide +kernel
theorem dX12_widthOf_9 : decode cX12_widthOf 9 = .ok (.iadd, 1) := by decide +kernel
theorem dX12_widthOf_10 : decode cX12_widthOf 10 = .ok (.iaload, 1) := by decide +kernel
theorem dX12_widthOf_11 : decode cX12_widthOf 11 = .ok (.istore_n 2, 1) := by decide +kernel
theorem dX12_widthOf_12 : decode cX12_widthOf 12 = .ok (.aload_n 0, 1) := by decide +kernel
theorem dX12_widthOf_13 : decode cX12_widthOf 13 = .ok (.getfield 19, 3) := by decide +kernel
theorem dX12_widthOf_16 : decode cX12_widthOf 16 = .ok (.bipush 7, 2) := by decide +kernel
theorem dX12_widthOf_18 : decode cX12_widthOf 18 = .ok (.iload_n 1, 1) := by decide +kernel
theorem dX12_widthOf_19 : decode cX12_widthOf 19 = .ok (.imul, 1) := by decide +kernel
theorem dX12_widthOf_20 : decode cX12_widthOf 20 = .ok (.iaload, 1) := by decide +kernel
theorem dX12_widthOf_21 : decode cX12_widthOf 21 = .ok (.aload_n 0, 1) := by decide +kernel
theorem dX12_widthOf_22 : decode cX12_widthOf 22 = .ok (.iload_n 2, 1) := by decide +kernel
theorem dX12_widthOf_23 : decode cX12_widthOf 23 = .ok (.aload_n 0, 1) := by decide +kernel
theorem dX12_widthOf_24 : decode cX12_widthOf 24 = .ok (.getfield 19, 3) := by decide +kernel
theorem dX12_widthOf_27 : decode cX12_widthOf 27 = .ok (.bipush 7, 2) := by decide +kernel
theorem dX12_widthOf_29 : decode cX12_widthOf 29 = .ok (.iload_n 1, 1) := by decide +kernel
theorem dX12_widthOf_30 : decode cX12_widthOf 30 = .ok (.imul, 1) := by decide +kernel
theorem dX12_widthOf_31 : decode cX12_widthOf 31 = .ok (.iconst 2, 1) := by decide +kernel
theorem dX12_widthOf_32 : decode cX12_widthOf 32 = .ok (.iadd, 1) := by decide +kernel
theorem dX12_widthOf_33 : decode cX12_widthOf 33 = .ok (.iaload, 1) := by decide +kernel
theorem dX12_widthOf_34 : decode cX12_widthOf 34 = .ok (.invokevirtual 138, 3) := by decide +kernel
theorem dX12_widthOf_37 : decode cX12_widthOf 37 = .ok (.invokestatic 184, 3) := by decide +kernel
theorem dX12_widthOf_40 : decode cX12_widthOf 40 = .ok (.aload_n 0, 1) := by decide +kernel
theorem dX12_widthOf_41 : decode cX12_widthOf 41 = .ok (.getfield 31, 3) := by decide +kernel
theorem dX12_widthOf_44 : decode cX12_widthOf 44 = .ok (.iload_n 2, 1) := by decide +kernel
theorem dX12_widthOf_45 : decode cX12_widthOf 45 = .ok (.iaload, 1) := by decide +kernel
theorem dX12_widthOf_46 : decode cX12_widthOf 46 = .ok (.iadd, 1) := by decide +kernel
theorem dX12_widthOf_47 : decode cX12_widthOf 47 = .ok (.ireturn, 1) := by decide +kernel
theorem dX12_foot_0 : decode cX12_foot 0 = .ok (.aload_n 0, 1) := by decide +kernel
theorem dX12_foot_1 : decode cX12_foot 1 = .ok (.iload_n 1, 1) := by decide +kernel
theorem dX12_foot_2 : decode cX12_foot 2 = .ok (.invokevirtual 174, 3) := by decide +kernel
theorem dX12_foot_5 : decode cX12_foot 5 = .ok (.ifCond .eq 12, 3) := by decide +kernel
theorem dX12_foot_8 : decode cX12_foot 8 = .ok (.iload_n 2, 1) := by decide +kernel
theorem dX12_foot_9 : decode cX12_foot 9 = .ok (.iconst 0, 1) := by decide +kernel
theorem dX12_foot_10 : decode cX12_foot 10 = .ok (.iconst 2, 1) := by decide +kernel
theorem dX12_foot_11 : decode cX12_foot 11 = .ok (.invokestatic 106, 3) := by decide +kernel
theorem dX12_foot_14 : decode cX12_foot 14 = .ok (.ifCond .ne 6, 3) := by decide +kernel
theorem dX12_foot_17 : decode cX12_foot 17 = .ok (.ldc 123, 2) := by decide +kernel
theorem dX12_foot_19 : decode cX12_foot 19 = .ok (.ireturn, 1) := by decide +kernel
theorem dX12_foot_20 : decode cX12_foot 20 = .ok (.aload_n 0, 1) := by decide +kernel
theorem dX12_foot_21 : decode cX12_foot 21 = .ok (.invokevirtual 149, 3) := by decide +kernel
theorem dX12_foot_24 : decode cX12_foot 24 = .ok (.aload_n 0, 1) := by decide +kernel
theorem dX12_foot_25 : decode cX12_foot 25 = .ok (.aload_n 0, 1) := by decide +kernel
theorem dX12_foot_26 : decode cX12_foot 26 = .ok (.getfield 19, 3) := by decide +kernel
theorem dX12_foot_29 : decode cX12_foot 29 = .ok (.bipush 7, 2) := by decide +kernel
theorem dX12_foot_31 : decode cX12_foot 31 = .ok (.iload_n 1, 1) := by decide +kernel
theorem dX12_foot_32 : decode cX12_foot 32 = .ok (.imul, 1) := by decide +kernel
theorem dX12_foot_33 : decode cX12_foot 33 = .ok (.iconst 1, 1) := by decide +kernel
theorem dX12_foot_34 : decode cX12_foot 34 = .ok (.iadd, 1) := by decide +kernel
theorem dX12_foot_35 : decode cX12_foot 35 = .ok (.iaload, 1) := by decide +kernel
theorem dX12_foot_36 : decode cX12_foot 36 = .ok (.invokevirtual 129, 3) := by decide +kernel
theorem dX12_foot_39 : decode cX12_foot 39 = .ok (.ifCond .ne 6, 3) := by decide +kernel
theorem dX12_foot_42 : decode cX12_foot 42 = .ok (.ldc 152, 2) := by decide +kernel
theorem dX12_foot_44 : decode cX12_foot 44 = .ok (.ireturn, 1) := by decide +kernel
theorem dX12_foot_45 : decode cX12_foot 45 = .ok (.aload_n 0, 1) := by decide +kernel
theorem dX12_foot_46 : decode cX12_foot 46 = .ok (.iload_n 1, 1) := by decide +kernel
theorem dX12_foot_47 : decode cX12_foot 47 = .ok (.invokevirtual 191, 3) := by decide +kernel
theorem dX12_foot_50 : decode cX12_foot 50 = .ok (.iload_n 2, 1) := by decide +kernel
theorem dX12_foot_51 : decode cX12_foot 51 = .ok (.ifCond .ne 7, 3) := by decide +kernel
theorem dX12_foot_54 : decode cX12_foot 54 = .ok (.iconst 0, 1) := by decide +kernel
theorem dX12_foot_55 : decode cX12_foot 55 = .ok (.goto 22, 3) := by decide +kernel
theorem dX12_foot_58 : decode cX12_foot 58 = .ok (.iload_n 2, 1) := by decide +kernel
theorem dX12_foot_59 : decode cX12_foot 59 = .ok (.iconst 1, 1) := by decide +kernel
theorem dX12_foot_60 : decode cX12_foot 60 = .ok (.if_icmp .ne 12, 3) := by decide +kernel
theorem dX12_foot_63 : decode cX12_foot 63 = .ok (.aload_n 0, 1) := by decide +kernel
theorem dX12_foot_64 : decode cX12_foot 64 = .ok (.iload_n 1, 1) := by decide +kernel
theorem dX12_foot_65 : decode cX12_foot 65 = .ok (.invokevirtual 194, 3) := by decide +kernel
theorem dX12_foot_68 : decode cX12_foot 68 = .ok (.ineg, 1) := by decide +kernel
theorem dX12_foot_69 : decode cX12_foot 69 = .ok (.goto 8, 3) := by decide +kernel
theorem dX12_foot_72 : decode cX12_foot 72 = .ok (.aload_n 0, 1) := by decide +kernel
theorem dX12_foot_73 : decode cX12_foot 73 = .ok (.iload_n 1, 1) := by decide +kernel
theorem dX12_foot_74 : decode cX12_foot 74 = .ok (.invokevirtual 194, 3) := by decide +kernel
theorem dX12_foot_77 : decode cX12_foot 77 = .ok (.iadd, 1) := by decide +kernel
theorem dX12_foot_78 : decode cX12_foot 78 = .ok (.ireturn, 1) := by decide +kernel
theorem dX12_counts_0 : decode cX12_counts 0 = .ok (.aload_n 0, 1) := by decide +kernel
theorem dX12_counts_1 : decode cX12_counts 1 = .ok (.getfield 19, 3) := by decide +kernel
theorem dX12_counts_4 : decode cX12_counts 4 = .ok (.bipush 7, 2) := by decide +kernel
theorem dX12_counts_6 : decode cX12_counts 6 = .ok (.iload_n 1, 1) := by decide +kernel
theorem dX12_counts_7 : decode cX12_counts 7 = .ok (.imul, 1) := by decide +kernel
theorem dX12_counts_8 : decode cX12_counts 8 = .ok (.bipush 6, 2) := by decide +kernel
theorem dX12_counts_10 : decode cX12_counts 10 = .ok (.iadd, 1) := by decide +kernel
theorem dX12_counts_11 : decode cX12_counts 11 = .ok (.iaload, 1) := by decide +kernel
theorem dX12_counts_12 : decode cX12_counts 12 = .ok (.iconst 1, 1) := by decide +kernel
theorem dX12_counts_13 : decode cX12_counts 13 = .ok (.if_icmp .ne 25, 3) := by decide +kernel
theorem dX12_counts_16 : decode cX12_counts 16 = .ok (.aload_n 0, 1) := by decide +kernel
theorem dX12_counts_17 : decode cX12_counts 17 = .ok (.aload_n 0, 1) := by decide +kernel
theorem dX12_counts_18 : decode cX12_counts 18 = .ok (.getfield 19, 3) := by decide +kernel
theorem dX12_counts_21 : decode cX12_counts 21 = .ok (.bipush 7, 2) := by decide +kernel
theorem dX12_counts_23 : decode cX12_counts 23 = .ok (.iload_n 1, 1) := by decide +kernel
theorem dX12_counts_24 : decode cX12_counts 24 = .ok (.imul, 1) := by decide +kernel
theorem dX12_counts_25 : decode cX12_counts 25 = .ok (.iconst 1, 1) := by decide +kernel
theorem dX12_counts_26 : decode cX12_counts 26 = .ok (.iadd, 1) := by decide +kernel
theorem dX12_counts_27 : decode cX12_counts 27 = .ok (.iaload, 1) := by decide +kernel
theorem dX12_counts_28 : decode cX12_counts 28 = .ok (.invokevirtual 129, 3) := by decide +kernel
theorem dX12_counts_31 : decode cX12_counts 31 = .ok (.ifCond .eq 7, 3) := by decide +kernel
theorem dX12_counts_34 : decode cX12_counts 34 = .ok (.iconst 1, 1) := by decide +kernel
theorem dX12_counts_35 : decode cX12_counts 35 = .ok (.goto 4, 3) := by decide +kernel
theorem dX12_counts_38 : decode cX12_counts 38 = .ok (.iconst 0, 1) := by decide +kernel
theorem dX12_counts_39 : decode cX12_counts 39 = .ok (.ireturn, 1) := by decide +kernel
theorem dX12_findSpan_0 : decode cX12_findSpan 0 = .ok (.iconst 0, 1) := by decide +kernel
theorem dX12_findSpan_1 : decode cX12_findSpan 1 = .ok (.istore_n 3, 1) := by decide +kernel
theorem dX12_findSpan_2 : decode cX12_findSpan 2 = .ok (.iconst 0, 1) := by decide +kernel
theorem dX12_findSpan_3 : decode cX12_findSpan 3 = .ok (.istore 4, 2) := by decide +kernel
theorem dX12_findSpan_5 : decode cX12_findSpan 5 = .ok (.iload 4, 2) := by decide +kernel
theorem dX12_findSpan_7 : decode cX12_findSpan 7 = .ok (.aload_n 0, 1) := by decide +kernel
theorem dX12_findSpan_8 : decode cX12_findSpan 8 = .ok (.getfield 113, 3) := by decide +kernel
theorem dX12_findSpan_11 : decode cX12_findSpan 11 = .ok (.if_icmp .ge 125, 3) := by decide +kernel
theorem dX12_findSpan_14 : decode cX12_findSpan 14 = .ok (.iload 4, 2) := by decide +kernel
theorem dX12_findSpan_16 : decode cX12_findSpan 16 = .ok (.iload_n 2, 1) := by decide +kernel
theorem dX12_findSpan_17 : decode cX12_findSpan 17 = .ok (.if_icmp .eq 113, 3) := by decide +kernel
theorem dX12_findSpan_20 : decode cX12_findSpan 20 = .ok (.aload_n 0, 1) := by decide +kernel
theorem dX12_findSpan_21 : decode cX12_findSpan 21 = .ok (.getfield 19, 3) := by decide +kernel
theorem dX12_findSpan_24 : decode cX12_findSpan 24 = .ok (.bipush 7, 2) := by decide +kernel
theorem dX12_findSpan_26 : decode cX12_findSpan 26 = .ok (.iload 4, 2) := by decide +kernel
theorem dX12_findSpan_28 : decode cX12_findSpan 28 = .ok (.imul, 1) := by decide +kernel
theorem dX12_findSpan_29 : decode cX12_findSpan 29 = .ok (.iconst 2, 1) := by decide +kernel
theorem dX12_findSpan_30 : decode cX12_findSpan 30 = .ok (.iadd, 1) := by decide +kernel
theorem dX12_findSpan_31 : decode cX12_findSpan 31 = .ok (.iaload, 1) := by decide +kernel
theorem dX12_findSpan_32 : decode cX12_findSpan 32 = .ok (.iload_n 1, 1) := by decide +kernel
theorem dX12_findSpan_33 : decode cX12_findSpan 33 = .ok (.if_icmp .ne 97, 3) := by decide +kernel
theorem dX12_findSpan_36 : decode cX12_findSpan 36 = .ok (.aload_n 0, 1) := by decide +kernel
theorem dX12_findSpan_37 : decode cX12_findSpan 37 = .ok (.iload 4, 2) := by decide +kernel
theorem dX12_findSpan_39 : decode cX12_findSpan 39 = .ok (.invokevirtual 197, 3) := by decide +kernel
theorem dX12_findSpan_42 : decode cX12_findSpan 42 = .ok (.ifCond .eq 88, 3) := by decide +kernel
theorem dX12_findSpan_45 : decode cX12_findSpan 45 = .ok (.aload_n 0, 1) := by decide +kernel
theorem dX12_findSpan_46 : decode cX12_findSpan 46 = .ok (.iload 4, 2) := by decide +kernel
theorem dX12_findSpan_48 : decode cX12_findSpan 48 = .ok (.invokevirtual 191, 3) := by decide +kernel
theorem dX12_findSpan_51 : decode cX12_findSpan 51 = .ok (.aload_n 0, 1) := by decide +kernel
theorem dX12_findSpan_52 : decode cX12_findSpan 52 = .ok (.iload 4, 2) := by decide +kernel
theorem dX12_findSpan_54 : decode cX12_findSpan 54 = .ok (.invokevirtual 194, 3) := by decide +kernel
theorem dX12_findSpan_57 : decode cX12_findSpan 57 = .ok (.isub, 1) := by decide +kernel
theorem dX12_findSpan_58 : decode cX12_findSpan 58 = .ok (.istore 5, 2) := by decide +kernel
theorem dX12_findSpan_60 : decode cX12_findSpan 60 = .ok (.aload_n 0, 1) := by decide +kernel
theorem dX12_findSpan_61 : decode cX12_findSpan 61 = .ok (.iload 4, 2) := by decide +kernel
theorem dX12_findSpan_63 : decode cX12_findSpan 63 = .ok (.invokevirtual 191, 3) := by decide +kernel
theorem dX12_findSpan_66 : decode cX12_findSpan 66 = .ok (.aload_n 0, 1) := by decide +kernel
theorem dX12_findSpan_67 : decode cX12_findSpan 67 = .ok (.iload 4, 2) := by decide +kernel
theorem dX12_findSpan_69 : decode cX12_findSpan 69 = .ok (.invokevirtual 194, 3) := by decide +kernel
theorem dX12_findSpan_72 : decode cX12_findSpan 72 = .ok (.iadd, 1) := by decide +kernel
theorem dX12_findSpan_73 : decode cX12_findSpan 73 = .ok (.istore 6, 2) := by decide +kernel
theorem dX12_findSpan_75 : decode cX12_findSpan 75 = .ok (.aload_n 0, 1) := by decide +kernel
theorem dX12_findSpan_76 : decode cX12_findSpan 76 = .ok (.iload_n 3, 1) := by decide +kernel
theorem dX12_findSpan_77 : decode cX12_findSpan 77 = .ok (.ifCond .eq 12, 3) := by decide +kernel
theorem dX12_findSpan_80 : decode cX12_findSpan 80 = .ok (.iload 5, 2) := by decide +kernel
theorem dX12_findSpan_82 : decode cX12_findSpan 82 = .ok (.aload_n 0, 1) := by decide +kernel
theorem dX12_findSpan_83 : decode cX12_findSpan 83 = .ok (.getfield 200, 3) := by decide +kernel
theorem dX12_findSpan_86 : decode cX12_findSpan 86 = .ok (.if_icmp .le 8, 3) := by decide +kernel
theorem dX12_findSpan_89 : decode cX12_findSpan 89 = .ok (.iload 5, 2) := by decide +kernel
theorem dX12_findSpan_91 : decode cX12_findSpan 91 = .ok (.goto 7, 3) := by decide +kernel
theorem dX12_findSpan_94 : decode cX12_findSpan 94 = .ok (.aload_n 0, 1) := by decide +kernel
theorem dX12_findSpan_95 : decode cX12_findSpan 95 = .ok (.getfield 200, 3) := by decide +kernel
theorem dX12_findSpan_98 : decode cX12_findSpan 98 = .ok (.putfield 200, 3) := by decide +kernel
theorem dX12_findSpan_101 : decode cX12_findSpan 101 = .ok (.aload_n 0, 1) := by decide +kernel
theorem dX12_findSpan_102 : decode cX12_findSpan 102 = .ok (.iload_n 3, 1) := by decide +kernel
theorem dX12_findSpan_103 : decode cX12_findSpan 103 = .ok (.ifCond .eq 12, 3) := by decide +kernel
theorem dX12_findSpan_106 : decode cX12_findSpan 106 = .ok (.iload 6, 2) := by decide +kernel
theorem dX12_findSpan_108 : decode cX12_findSpan 108 = .ok (.aload_n 0, 1) := by decide +kernel
theorem dX12_findSpan_109 : decode cX12_findSpan 109 = .ok (.getfield 203, 3) := by decide +kernel
theorem dX12_findSpan_112 : decode cX12_findSpan 112 = .ok (.if_icmp .ge 8, 3) := by decide +kernel
theorem dX12_findSpan_115 : decode cX12_findSpan 115 = .ok (.iload 6, 2) := by decide +kernel
theorem dX12_findSpan_117 : decode cX12_findSpan 117 = .ok (.goto 7, 3) := by decide +kernel
theorem dX12_findSpan_120 : decode cX12_findSpan 120 = .ok (.aload_n 0, 1) := by decide +kernel
theorem dX12_findSpan_121 : decode cX12_findSpan 121 = .ok (.getfield 203, 3) := by decide +kernel
theorem dX12_findSpan_124 : decode cX12_findSpan 124 = .ok (.putfield 203, 3) := by decide +kernel
theorem dX12_findSpan_127 : decode cX12_findSpan 127 = .ok (.iinc 3 1, 3) := by decide +kernel
theorem dX12_findSpan_130 : decode cX12_findSpan 130 = .ok (.iinc 4 1, 3) := by decide +kernel
theorem dX12_findSpan_133 : decode cX12_findSpan 133 = .ok (.goto (-128), 3) := by decide +kernel
theorem dX12_findSpan_136 : decode cX12_findSpan 136 = .ok (.iload_n 3, 1) := by decide +kernel
theorem dX12_findSpan_137 : decode cX12_findSpan 137 = .ok (.ireturn, 1) := by decide +kernel
theorem dX12_noSpan_0 : decode cX12_noSpan 0 = .ok (.aload_n 0, 1) := by decide +kernel
theorem dX12_noSpan_1 : decode cX12_noSpan 1 = .ok (.invokevirtual 149, 3) := by decide +kernel
theorem dX12_noSpan_4 : decode cX12_noSpan 4 = .ok (.aload_n 0, 1) := by decide +kernel
theorem dX12_noSpan_5 : decode cX12_noSpan 5 = .ok (.iload_n 1, 1) := by decide +kernel
theorem dX12_noSpan_6 : decode cX12_noSpan 6 = .ok (.iconst (-1), 1) := by decide +kernel
theorem dX12_noSpan_7 : decode cX12_noSpan 7 = .ok (.invokevirtual 206, 3) := by decide +kernel
theorem dX12_noSpan_10 : decode cX12_noSpan 10 = .ok (.ifCond .ne 8, 3) := by decide +kernel
theorem dX12_noSpan_13 : decode cX12_noSpan 13 = .ok (.bipush (-3), 2) := by decide +kernel
theorem dX12_noSpan_15 : decode cX12_noSpan 15 = .ok (.goto 20, 3) := by decide +kernel
theorem dX12_noSpan_18 : decode cX12_noSpan 18 = .ok (.aload_n 0, 1) := by decide +kernel
theorem dX12_noSpan_19 : decode cX12_noSpan 19 = .ok (.getfield 200, 3) := by decide +kernel
theorem dX12_noSpan_22 : decode cX12_noSpan 22 = .ok (.aload_n 0, 1) := by decide +kernel
theorem dX12_noSpan_23 : decode cX12_noSpan 23 = .ok (.getfield 203, 3) := by decide +kernel
theorem dX12_noSpan_26 : decode cX12_noSpan 26 = .ok (.if_icmp .le 8, 3) := by decide +kernel
theorem dX12_noSpan_29 : decode cX12_noSpan 29 = .ok (.bipush (-4), 2) := by decide +kernel
theorem dX12_noSpan_31 : decode cX12_noSpan 31 = .ok (.goto 4, 3) := by decide +kernel
theorem dX12_noSpan_34 : decode cX12_noSpan 34 = .ok (.iconst 0, 1) := by decide +kernel
theorem dX12_noSpan_35 : decode cX12_noSpan 35 = .ok (.ireturn, 1) := by decide +kernel
theorem dX12_span_0 : decode cX12_span 0 = .ok (.aload_n 0, 1) := by decide +kernel
theorem dX12_span_1 : decode cX12_span 1 = .ok (.iload_n 1, 1) := by decide +kernel
theorem dX12_span_2 : decode cX12_span 2 = .ok (.invokevirtual 157, 3) := by decide +kernel
theorem dX12_span_5 : decode cX12_span 5 = .ok (.ifCond .eq 12, 3) := by decide +kernel
theorem dX12_span_8 : decode cX12_span 8 = .ok (.iload_n 2, 1) := by decide +kernel
theorem dX12_span_9 : decode cX12_span 9 = .ok (.iconst 0, 1) := by decide +kernel
theorem dX12_span_10 : decode cX12_span 10 = .ok (.iconst 1, 1) := by decide +kernel
theorem dX12_span_11 : decode cX12_span 11 = .ok (.invokestatic 106, 3) := by decide +kernel
theorem dX12_span_14 : decode cX12_span 14 = .ok (.ifCond .ne 6, 3) := by decide +kernel
theorem dX12_span_17 : decode cX12_span 17 = .ok (.ldc 123, 2) := by decide +kernel
theorem dX12_span_19 : decode cX12_span 19 = .ok (.ireturn, 1) := by decide +kernel
theorem dX12_span_20 : decode cX12_span 20 = .ok (.aload_n 0, 1) := by decide +kernel
theorem dX12_span_21 : decode cX12_span 21 = .ok (.iload_n 1, 1) := by decide +kernel
theorem dX12_span_22 : decode cX12_span 22 = .ok (.invokevirtual 209, 3) := by decide +kernel
theorem dX12_span_25 : decode cX12_span 25 = .ok (.istore_n 3, 1) := by decide +kernel
theorem dX12_span_26 : decode cX12_span 26 = .ok (.iload_n 3, 1) := by decide +kernel
theorem dX12_span_27 : decode cX12_span 27 = .ok (.ifCond .eq 10, 3) := by decide +kernel
theorem dX12_span_30 : decode cX12_span 30 = .ok (.ldc 212, 2) := by decide +kernel
theorem dX12_span_32 : decode cX12_span 32 = .ok (.iload_n 3, 1) := by decide +kernel
theorem dX12_span_33 : decode cX12_span 33 = .ok (.iadd, 1) := by decide +kernel
theorem dX12_span_34 : decode cX12_span 34 = .ok (.goto 18, 3) := by decide +kernel
theorem dX12_span_37 : decode cX12_span 37 = .ok (.iload_n 2, 1) := by decide +kernel
theorem dX12_span_38 : decode cX12_span 38 = .ok (.ifCond .ne 10, 3) := by decide +kernel
theorem dX12_span_41 : decode cX12_span 41 = .ok (.aload_n 0, 1) := by decide +kernel
theorem dX12_span_42 : decode cX12_span 42 = .ok (.getfield 200, 3) := by decide +kernel
theorem dX12_span_45 : decode cX12_span 45 = .ok (.goto 7, 3) := by decide +kernel
theorem dX12_span_48 : decode cX12_span 48 = .ok (.aload_n 0, 1) := by decide +kernel
theorem dX12_span_49 : decode cX12_span 49 = .ok (.getfield 203, 3) := by decide +kernel
theorem dX12_span_52 : decode cX12_span 52 = .ok (.ireturn, 1) := by decide +kernel
theorem dX12_counted_0 : decode cX12_counted 0 = .ok (.aload_n 0, 1) := by decide +kernel
theorem dX12_counted_1 : decode cX12_counted 1 = .ok (.iload_n 1, 1) := by decide +kernel
theorem dX12_counted_2 : decode cX12_counted 2 = .ok (.invokevirtual 157, 3) := by decide +kernel
theorem dX12_counted_5 : decode cX12_counted 5 = .ok (.ifCond .ne 5, 3) := by decide +kernel
theorem dX12_counted_8 : decode cX12_counted 8 = .ok (.iconst (-1), 1) := by decide +kernel
theorem dX12_counted_9 : decode cX12_counted 9 = .ok (.ireturn, 1) := by decide +kernel
theorem dX12_counted_10 : decode cX12_counted 10 = .ok (.aload_n 0, 1) := by decide +kernel
theorem dX12_counted_11 : decode cX12_counted 11 = .ok (.invokevirtual 149, 3) := by decide +kernel
theorem dX12_counted_14 : decode cX12_counted 14 = .ok (.iconst 0, 1) := by decide +kernel
theorem dX12_counted_15 : decode cX12_counted 15 = .ok (.istore_n 2, 1) := by decide +kernel
theorem dX12_counted_16 : decode cX12_counted 16 = .ok (.iconst 0, 1) := by decide +kernel
theorem dX12_counted_17 : decode cX12_counted 17 = .ok (.istore_n 3, 1) := by decide +kernel
theorem dX12_counted_18 : decode cX12_counted 18 = .ok (.iload_n 3, 1) := by decide +kernel
theorem dX12_counted_19 : decode cX12_counted 19 = .ok (.aload_n 0, 1) := by decide +kernel
theorem dX12_counted_20 : decode cX12_counted 20 = .ok (.getfield 113, 3) := by decide +kernel
theorem dX12_counted_23 : decode cX12_counted 23 = .ok (.if_icmp .ge 42, 3) := by decide +kernel
theorem dX12_counted_26 : decode cX12_counted 26 = .ok (.iload_n 2, 1) := by decide +kernel
theorem dX12_counted_27 : decode cX12_counted 27 = .ok (.aload_n 0, 1) := by decide +kernel
theorem dX12_counted_28 : decode cX12_counted 28 = .ok (.getfield 19, 3) := by decide +kernel
theorem dX12_counted_31 : decode cX12_counted 31 = .ok (.bipush 7, 2) := by decide +kernel
theorem dX12_counted_33 : decode cX12_counted 33 = .ok (.iload_n 3, 1) := by decide +kernel
theorem dX12_counted_34 : decode cX12_counted 34 = .ok (.imul, 1) := by decide +kernel
theorem dX12_counted_35 : decode cX12_counted 35 = .ok (.iconst 2, 1) := by decide +kernel
theorem dX12_counted_36 : decode cX12_counted 36 = .ok (.iadd, 1) := by decide +kernel
theorem dX12_counted_37 : decode cX12_counted 37 = .ok (.iaload, 1) := by decide +kernel
theorem dX12_counted_38 : decode cX12_counted 38 = .ok (.iload_n 1, 1) := by decide +kernel
theorem dX12_counted_39 : decode cX12_counted 39 = .ok (.if_icmp .ne 17, 3) := by decide +kernel
theorem dX12_counted_42 : decode cX12_counted 42 = .ok (.aload_n 0, 1) := by decide +kernel
theorem dX12_counted_43 : decode cX12_counted 43 = .ok (.iload_n 3, 1) := by decide +kernel
theorem dX12_counted_44 : decode cX12_counted 44 = .ok (.invokevirtual 197, 3) := by decide +kernel
theorem dX12_counted_47 : decode cX12_counted 47 = .ok (.ifCond .eq 9, 3) := by decide +kernel
theorem dX12_counted_50 : decode cX12_counted 50 = .ok (.iconst 1, 1) := by decide +kernel
theorem dX12_counted_51 : decode cX12_counted 51 = .ok (.iload_n 3, 1) := by decide +kernel
theorem dX12_counted_52 : decode cX12_counted 52 = .ok (.ishl, 1) := by decide +kernel
theorem dX12_counted_53 : decode cX12_counted 53 = .ok (.goto 4, 3) := by decide +kernel
theorem dX12_counted_56 : decode cX12_counted 56 = .ok (.iconst 0, 1) := by decide +kernel
theorem dX12_counted_57 : decode cX12_counted 57 = .ok (.ior, 1) := by decide +kernel
theorem dX12_counted_58 : decode cX12_counted 58 = .ok (.istore_n 2, 1) := by decide +kernel
theorem dX12_counted_59 : decode cX12_counted 59 = .ok (.iinc 3 1, 3) := by decide +kernel
theorem dX12_counted_62 : decode cX12_counted 62 = .ok (.goto (-44), 3) := by decide +kernel
theorem dX12_counted_65 : decode cX12_counted 65 = .ok (.iload_n 2, 1) := by decide +kernel
theorem dX12_counted_66 : decode cX12_counted 66 = .ok (.ireturn, 1) := by decide +kernel
theorem dX12_hangs_0 : decode cX12_hangs 0 = .ok (.aload_n 0, 1) := by decide +kernel
theorem dX12_hangs_1 : decode cX12_hangs 1 = .ok (.iload_n 1, 1) := by decide +kernel
theorem dX12_hangs_2 : decode cX12_hangs 2 = .ok (.invokevirtual 174, 3) := by decide +kernel
theorem dX12_hangs_5 : decode cX12_hangs 5 = .ok (.ifCond .ne 5, 3) := by decide +kernel
theorem dX12_hangs_8 : decode cX12_hangs 8 = .ok (.iconst (-1), 1) := by decide +kernel
theorem dX12_hangs_9 : decode cX12_hangs 9 = .ok (.ireturn, 1) := by decide +kernel
theorem dX12_hangs_10 : decode cX12_hangs 10 = .ok (.aload_n 0, 1) := by decide +kernel
theorem dX12_hangs_11 : decode cX12_hangs 11 = .ok (.invokevirtual 149, 3) := by decide +kernel
theorem dX12_hangs_14 : decode cX12_hangs 14 = .ok (.aload_n 0, 1) := by decide +kernel
theorem dX12_hangs_15 : decode cX12_hangs 15 = .ok (.iload_n 1, 1) := by decide +kernel
theorem dX12_hangs_16 : decode cX12_hangs 16 = .ok (.invokevirtual 197, 3) := by decide +kernel
theorem dX12_hangs_19 : decode cX12_hangs 19 = .ok (.ifCond .ne 6, 3) := by decide +kernel
theorem dX12_hangs_22 : decode cX12_hangs 22 = .ok (.bipush (-3), 2) := by decide +kernel
theorem dX12_hangs_24 : decode cX12_hangs 24 = .ok (.ireturn, 1) := by decide +kernel
theorem dX12_hangs_25 : decode cX12_hangs 25 = .ok (.aload_n 0, 1) := by decide +kernel
theorem dX12_hangs_26 : decode cX12_hangs 26 = .ok (.getfield 19, 3) := by decide +kernel
theorem dX12_hangs_29 : decode cX12_hangs 29 = .ok (.bipush 7, 2) := by decide +kernel
theorem dX12_hangs_31 : decode cX12_hangs 31 = .ok (.iload_n 1, 1) := by decide +kernel
theorem dX12_hangs_32 : decode cX12_hangs 32 = .ok (.imul, 1) := by decide +kernel
theorem dX12_hangs_33 : decode cX12_hangs 33 = .ok (.iconst 2, 1) := by decide +kernel
theorem dX12_hangs_34 : decode cX12_hangs 34 = .ok (.iadd, 1) := by decide +kernel
theorem dX12_hangs_35 : decode cX12_hangs 35 = .ok (.iaload, 1) := by decide +kernel
theorem dX12_hangs_36 : decode cX12_hangs 36 = .ok (.istore_n 2, 1) := by decide +kernel
theorem dX12_hangs_37 : decode cX12_hangs 37 = .ok (.aload_n 0, 1) := by decide +kernel
theorem dX12_hangs_38 : decode cX12_hangs 38 = .ok (.iload_n 2, 1) := by decide +kernel
theorem dX12_hangs_39 : decode cX12_hangs 39 = .ok (.iload_n 1, 1) := by decide +kernel
theorem dX12_hangs_40 : decode cX12_hangs 40 = .ok (.invokevirtual 206, 3) := by decide +kernel
theorem dX12_hangs_43 : decode cX12_hangs 43 = .ok (.ifCond .ne 6, 3) := by decide +kernel
theorem dX12_hangs_46 : decode cX12_hangs 46 = .ok (.bipush (-9), 2) := by decide +kernel
theorem dX12_hangs_48 : decode cX12_hangs 48 = .ok (.ireturn, 1) := by decide +kernel
theorem dX12_hangs_49 : decode cX12_hangs 49 = .ok (.aload_n 0, 1) := by decide +kernel
theorem dX12_hangs_50 : decode cX12_hangs 50 = .ok (.getfield 203, 3) := by decide +kernel
theorem dX12_hangs_53 : decode cX12_hangs 53 = .ok (.aload_n 0, 1) := by decide +kernel
theorem dX12_hangs_54 : decode cX12_hangs 54 = .ok (.getfield 200, 3) := by decide +kernel
theorem dX12_hangs_57 : decode cX12_hangs 57 = .ok (.isub, 1) := by decide +kernel
theorem dX12_hangs_58 : decode cX12_hangs 58 = .ok (.istore_n 3, 1) := by decide +kernel
theorem dX12_hangs_59 : decode cX12_hangs 59 = .ok (.iload_n 3, 1) := by decide +kernel
theorem dX12_hangs_60 : decode cX12_hangs 60 = .ok (.ifCond .ge 7, 3) := by decide +kernel
theorem dX12_hangs_63 : decode cX12_hangs 63 = .ok (.iconst 1, 1) := by decide +kernel
theorem dX12_hangs_64 : decode cX12_hangs 64 = .ok (.goto 4, 3) := by decide +kernel
theorem dX12_hangs_67 : decode cX12_hangs 67 = .ok (.iconst 0, 1) := by decide +kernel
theorem dX12_hangs_68 : decode cX12_hangs 68 = .ok (.istore 4, 2) := by decide +kernel
theorem dX12_hangs_70 : decode cX12_hangs 70 = .ok (.aload_n 0, 1) := by decide +kernel
theorem dX12_hangs_71 : decode cX12_hangs 71 = .ok (.iload_n 2, 1) := by decide +kernel
theorem dX12_hangs_72 : decode cX12_hangs 72 = .ok (.iconst (-1), 1) := by decide +kernel
theorem dX12_hangs_73 : decode cX12_hangs 73 = .ok (.invokevirtual 206, 3) := by decide +kernel
theorem dX12_hangs_76 : decode cX12_hangs 76 = .ok (.istore 5, 2) := by decide +kernel
theorem dX12_hangs_78 : decode cX12_hangs 78 = .ok (.iload 4, 2) := by decide +kernel
theorem dX12_hangs_80 : decode cX12_hangs 80 = .ok (.ifCond .ne 19, 3) := by decide +kernel
theorem dX12_hangs_83 : decode cX12_hangs 83 = .ok (.iload 5, 2) := by decide +kernel
theorem dX12_hangs_85 : decode cX12_hangs 85 = .ok (.ifCond .eq 14, 3) := by decide +kernel
theorem dX12_hangs_88 : decode cX12_hangs 88 = .ok (.aload_n 0, 1) := by decide +kernel
theorem dX12_hangs_89 : decode cX12_hangs 89 = .ok (.getfield 200, 3) := by decide +kernel
theorem dX12_hangs_92 : decode cX12_hangs 92 = .ok (.aload_n 0, 1) := by decide +kernel
theorem dX12_hangs_93 : decode cX12_hangs 93 = .ok (.getfield 203, 3) := by decide +kernel
theorem dX12_hangs_96 : decode cX12_hangs 96 = .ok (.if_icmp .le 8, 3) := by decide +kernel
theorem dX12_hangs_99 : decode cX12_hangs 99 = .ok (.bipush (-4), 2) := by decide +kernel
theorem dX12_hangs_101 : decode cX12_hangs 101 = .ok (.goto 14, 3) := by decide +kernel
theorem dX12_hangs_104 : decode cX12_hangs 104 = .ok (.iload_n 3, 1) := by decide +kernel
theorem dX12_hangs_105 : decode cX12_hangs 105 = .ok (.aload_n 0, 1) := by decide +kernel
theorem dX12_hangs_106 : decode cX12_hangs 106 = .ok (.getfield 203, 3) := by decide +kernel
theorem dX12_hangs_109 : decode cX12_hangs 109 = .ok (.aload_n 0, 1) := by decide +kernel
theorem dX12_hangs_110 : decode cX12_hangs 110 = .ok (.getfield 200, 3) := by decide +kernel
theorem dX12_hangs_113 : decode cX12_hangs 113 = .ok (.isub, 1) := by decide +kernel
theorem dX12_hangs_114 : decode cX12_hangs 114 = .ok (.isub, 1) := by decide +kernel
theorem dX12_hangs_115 : decode cX12_hangs 115 = .ok (.ireturn, 1) := by decide +kernel
theorem dX12_mayBe_0 : decode cX12_mayBe 0 = .ok (.aload_n 0, 1) := by decide +kernel
theorem dX12_mayBe_1 : decode cX12_mayBe 1 = .ok (.iload_n 1, 1) := by decide +kernel
theorem dX12_mayBe_2 : decode cX12_mayBe 2 = .ok (.invokevirtual 116, 3) := by decide +kernel
theorem dX12_mayBe_5 : decode cX12_mayBe 5 = .ok (.ifCond .eq 17, 3) := by decide +kernel
theorem dX12_mayBe_8 : decode cX12_mayBe 8 = .ok (.iload_n 2, 1) := by decide +kernel
theorem dX12_mayBe_9 : decode cX12_mayBe 9 = .ok (.invokestatic 160, 3) := by decide +kernel
theorem dX12_mayBe_12 : decode cX12_mayBe 12 = .ok (.ifCond .eq 10, 3) := by decide +kernel
theorem dX12_mayBe_15 : decode cX12_mayBe 15 = .ok (.iload_n 3, 1) := by decide +kernel
theorem dX12_mayBe_16 : decode cX12_mayBe 16 = .ok (.invokestatic 163, 3) := by decide +kernel
theorem dX12_mayBe_19 : decode cX12_mayBe 19 = .ok (.ifCond .ne 5, 3) := by decide +kernel
theorem dX12_mayBe_22 : decode cX12_mayBe 22 = .ok (.iconst (-1), 1) := by decide +kernel
theorem dX12_mayBe_23 : decode cX12_mayBe 23 = .ok (.ireturn, 1) := by decide +kernel
theorem dX12_mayBe_24 : decode cX12_mayBe 24 = .ok (.aload_n 0, 1) := by decide +kernel
theorem dX12_mayBe_25 : decode cX12_mayBe 25 = .ok (.invokevirtual 149, 3) := by decide +kernel
theorem dX12_mayBe_28 : decode cX12_mayBe 28 = .ok (.aload_n 0, 1) := by decide +kernel
theorem dX12_mayBe_29 : decode cX12_mayBe 29 = .ok (.iload_n 1, 1) := by decide +kernel
theorem dX12_mayBe_30 : decode cX12_mayBe 30 = .ok (.invokevirtual 129, 3) := by decide +kernel
theorem dX12_mayBe_33 : decode cX12_mayBe 33 = .ok (.ifCond .ne 6, 3) := by decide +kernel
theorem dX12_mayBe_36 : decode cX12_mayBe 36 = .ok (.bipush (-3), 2) := by decide +kernel
theorem dX12_mayBe_38 : decode cX12_mayBe 38 = .ok (.ireturn, 1) := by decide +kernel
theorem dX12_mayBe_39 : decode cX12_mayBe 39 = .ok (.iconst 0, 1) := by decide +kernel
theorem dX12_mayBe_40 : decode cX12_mayBe 40 = .ok (.istore 4, 2) := by decide +kernel
theorem dX12_mayBe_42 : decode cX12_mayBe 42 = .ok (.iconst 0, 1) := by decide +kernel
theorem dX12_mayBe_43 : decode cX12_mayBe 43 = .ok (.istore 5, 2) := by decide +kernel
theorem dX12_mayBe_45 : decode cX12_mayBe 45 = .ok (.iload 5, 2) := by decide +kernel
theorem dX12_mayBe_47 : decode cX12_mayBe 47 = .ok (.aload_n 0, 1) := by decide +kernel
theorem dX12_mayBe_48 : decode cX12_mayBe 48 = .ok (.getfield 110, 3) := by decide +kernel
theorem dX12_mayBe_51 : decode cX12_mayBe 51 = .ok (.if_icmp .ge 124, 3) := by decide +kernel
theorem dX12_mayBe_54 : decode cX12_mayBe 54 = .ok (.aload_n 0, 1) := by decide +kernel
theorem dX12_mayBe_55 : decode cX12_mayBe 55 = .ok (.iconst 2, 1) := by decide +kernel
theorem dX12_mayBe_56 : decode cX12_mayBe 56 = .ok (.iload_n 1, 1) := by decide +kernel
theorem dX12_mayBe_57 : decode cX12_mayBe 57 = .ok (.iload 5, 2) := by decide +kernel
theorem dX12_mayBe_59 : decode cX12_mayBe 59 = .ok (.iload_n 2, 1) := by decide +kernel
theorem dX12_mayBe_60 : decode cX12_mayBe 60 = .ok (.aload_n 0, 1) := by decide +kernel
theorem dX12_mayBe_61 : decode cX12_mayBe 61 = .ok (.iconst 2, 1) := by decide +kernel
theorem dX12_mayBe_62 : decode cX12_mayBe 62 = .ok (.aload_n 0, 1) := by decide +kernel
theorem dX12_mayBe_63 : decode cX12_mayBe 63 = .ok (.iload_n 1, 1) := by decide +kernel
theorem dX12_mayBe_64 : decode cX12_mayBe 64 = .ok (.iload 5, 2) := by decide +kernel
theorem dX12_mayBe_66 : decode cX12_mayBe 66 = .ok (.invokevirtual 138, 3) := by decide +kernel
theorem dX12_mayBe_69 : decode cX12_mayBe 69 = .ok (.iload_n 3, 1) := by decide +kernel
theorem dX12_mayBe_70 : decode cX12_mayBe 70 = .ok (.bipush 100, 2) := by decide +kernel
theorem dX12_mayBe_72 : decode cX12_mayBe 72 = .ok (.idiv, 1) := by decide +kernel
theorem dX12_mayBe_73 : decode cX12_mayBe 73 = .ok (.iload_n 3, 1) := by decide +kernel
theorem dX12_mayBe_74 : decode cX12_mayBe 74 = .ok (.bipush 100, 2) := by decide +kernel
theorem dX12_mayBe_76 : decode cX12_mayBe 76 = .ok (.irem, 1) := by decide +kernel
theorem dX12_mayBe_77 : decode cX12_mayBe 77 = .ok (.invokevirtual 170, 3) := by decide +kernel
theorem dX12_mayBe_80 : decode cX12_mayBe 80 = .ok (.invokevirtual 187, 3) := by decide +kernel
theorem dX12_mayBe_83 : decode cX12_mayBe 83 = .ok (.istore 6, 2) := by decide +kernel
theorem dX12_mayBe_85 : decode cX12_mayBe 85 = .ok (.iconst 2, 1) := by decide +kernel
theorem dX12_mayBe_86 : decode cX12_mayBe 86 = .ok (.iconst 0, 1) := by decide +kernel
theorem dX12_mayBe_87 : decode cX12_mayBe 87 = .ok (.invokestatic 184, 3) := by decide +kernel
theorem dX12_mayBe_90 : decode cX12_mayBe 90 = .ok (.aload_n 0, 1) := by decide +kernel
theorem dX12_mayBe_91 : decode cX12_mayBe 91 = .ok (.getfield 31, 3) := by decide +kernel
theorem dX12_mayBe_94 : decode cX12_mayBe 94 = .ok (.iload_n 1, 1) := by decide +kernel
theorem dX12_mayBe_95 : decode cX12_mayBe 95 = .ok (.iaload, 1) := by decide +kernel
theorem dX12_mayBe_96 : decode cX12_mayBe 96 = .ok (.iadd, 1) := by decide +kernel
theorem dX12_mayBe_97 : decode cX12_mayBe 97 = .ok (.istore 7, 2) := by decide +kernel
theorem dX12_mayBe_99 : decode cX12_mayBe 99 = .ok (.aload_n 0, 1) := by decide +kernel
theorem dX12_mayBe_100 : decode cX12_mayBe 100 = .ok (.iload 5, 2) := by decide +kernel
theorem dX12_mayBe_102 : decode cX12_mayBe 102 = .ok (.iconst (-1), 1) := by decide +kernel
theorem dX12_mayBe_103 : decode cX12_mayBe 103 = .ok (.invokevirtual 206, 3) := by decide +kernel
theorem dX12_mayBe_106 : decode cX12_mayBe 106 = .ok (.ifCond .le 18, 3) := by decide +kernel
theorem dX12_mayBe_109 : decode cX12_mayBe 109 = .ok (.aload_n 0, 1) := by decide +kernel
theorem dX12_mayBe_110 : decode cX12_mayBe 110 = .ok (.getfield 200, 3) := by decide +kernel
theorem dX12_mayBe_113 : decode cX12_mayBe 113 = .ok (.aload_n 0, 1) := by decide +kernel
theorem dX12_mayBe_114 : decode cX12_mayBe 114 = .ok (.getfield 203, 3) := by decide +kernel
theorem dX12_mayBe_117 : decode cX12_mayBe 117 = .ok (.if_icmp .gt 7, 3) := by decide +kernel
theorem dX12_mayBe_120 : decode cX12_mayBe 120 = .ok (.iconst 1, 1) := by decide +kernel
theorem dX12_mayBe_121 : decode cX12_mayBe 121 = .ok (.goto 4, 3) := by decide +kernel
theorem dX12_mayBe_124 : decode cX12_mayBe 124 = .ok (.iconst 0, 1) := by decide +kernel
theorem dX12_mayBe_125 : decode cX12_mayBe 125 = .ok (.istore 8, 2) := by decide +kernel
theorem dX12_mayBe_127 : decode cX12_mayBe 127 = .ok (.iload 4, 2) := by decide +kernel
theorem dX12_mayBe_129 : decode cX12_mayBe 129 = .ok (.iload 8, 2) := by decide +kernel
theorem dX12_mayBe_131 : decode cX12_mayBe 131 = .ok (.ifCond .eq 34, 3) := by decide +kernel
theorem dX12_mayBe_134 : decode cX12_mayBe 134 = .ok (.iload 6, 2) := by decide +kernel
theorem dX12_mayBe_136 : decode cX12_mayBe 136 = .ok (.iload 7, 2) := by decide +kernel
theorem dX12_mayBe_138 : decode cX12_mayBe 138 = .ok (.isub, 1) := by decide +kernel
theorem dX12_mayBe_139 : decode cX12_mayBe 139 = .ok (.aload_n 0, 1) := by decide +kernel
theorem dX12_mayBe_140 : decode cX12_mayBe 140 = .ok (.getfield 203, 3) := by decide +kernel
theorem dX12_mayBe_143 : decode cX12_mayBe 143 = .ok (.if_icmp .gt 22, 3) := by decide +kernel
theorem dX12_mayBe_146 : decode cX12_mayBe 146 = .ok (.iload 6, 2) := by decide +kernel
theorem dX12_mayBe_148 : decode cX12_mayBe 148 = .ok (.iload 7, 2) := by decide +kernel
theorem dX12_mayBe_150 : decode cX12_mayBe 150 = .ok (.iadd, 1) := by decide +kernel
theorem dX12_mayBe_151 : decode cX12_mayBe 151 = .ok (.aload_n 0, 1) := by decide +kernel
theorem dX12_mayBe_152 : decode cX12_mayBe 152 = .ok (.getfield 200, 3) := by decide +kernel
theorem dX12_mayBe_155 : decode cX12_mayBe 155 = .ok (.if_icmp .lt 10, 3) := by decide +kernel
theorem dX12_mayBe_158 : decode cX12_mayBe 158 = .ok (.iconst 1, 1) := by decide +kernel
theorem dX12_mayBe_159 : decode cX12_mayBe 159 = .ok (.iload 5, 2) := by decide +kernel
theorem dX12_mayBe_161 : decode cX12_mayBe 161 = .ok (.ishl, 1) := by decide +kernel
theorem dX12_mayBe_162 : decode cX12_mayBe 162 = .ok (.goto 4, 3) := by decide +kernel
theorem dX12_mayBe_165 : decode cX12_mayBe 165 = .ok (.iconst 0, 1) := by decide +kernel
theorem dX12_mayBe_166 : decode cX12_mayBe 166 = .ok (.ior, 1) := by decide +kernel
theorem dX12_mayBe_167 : decode cX12_mayBe 167 = .ok (.istore 4, 2) := by decide +kernel
theorem dX12_mayBe_169 : decode cX12_mayBe 169 = .ok (.iinc 5 1, 3) := by decide +kernel
theorem dX12_mayBe_172 : decode cX12_mayBe 172 = .ok (.goto (-127), 3) := by decide +kernel
theorem dX12_mayBe_175 : decode cX12_mayBe 175 = .ok (.iload 4, 2) := by decide +kernel
theorem dX12_mayBe_177 : decode cX12_mayBe 177 = .ok (.ireturn, 1) := by decide +kernel
theorem dX12_next_0 : decode cX12_next 0 = .ok (.aload_n 0, 1) := by decide +kernel
theorem dX12_next_1 : decode cX12_next 1 = .ok (.iload_n 1, 1) := by decide +kernel
theorem dX12_next_2 : decode cX12_next 2 = .ok (.invokevirtual 157, 3) := by decide +kernel
theorem dX12_next_5 : decode cX12_next 5 = .ok (.ifCond .eq 12, 3) := by decide +kernel
theorem dX12_next_8 : decode cX12_next 8 = .ok (.iload_n 2, 1) := by decide +kernel
theorem dX12_next_9 : decode cX12_next 9 = .ok (.iconst 1, 1) := by decide +kernel
theorem dX12_next_10 : decode cX12_next 10 = .ok (.iconst 5, 1) := by decide +kernel
theorem dX12_next_11 : decode cX12_next 11 = .ok (.invokestatic 106, 3) := by decide +kernel
theorem dX12_next_14 : decode cX12_next 14 = .ok (.ifCond .ne 5, 3) := by decide +kernel
theorem dX12_next_17 : decode cX12_next 17 = .ok (.iconst (-1), 1) := by decide +kernel
theorem dX12_next_18 : decode cX12_next 18 = .ok (.ireturn, 1) := by decide +kernel
theorem dX12_next_19 : decode cX12_next 19 = .ok (.aload_n 0, 1) := by decide +kernel
theorem dX12_next_20 : decode cX12_next 20 = .ok (.invokevirtual 149, 3) := by decide +kernel
theorem dX12_next_23 : decode cX12_next 23 = .ok (.bipush (-3), 2) := by decide +kernel
theorem dX12_next_25 : decode cX12_next 25 = .ok (.istore_n 3, 1) := by decide +kernel
theorem dX12_next_26 : decode cX12_next 26 = .ok (.ldc 124, 2) := by decide +kernel
theorem dX12_next_28 : decode cX12_next 28 = .ok (.istore 4, 2) := by decide +kernel
theorem dX12_next_30 : decode cX12_next 30 = .ok (.iconst 0, 1) := by decide +kernel
theorem dX12_next_31 : decode cX12_next 31 = .ok (.istore 5, 2) := by decide +kernel
theorem dX12_next_33 : decode cX12_next 33 = .ok (.iload 5, 2) := by decide +kernel
theorem dX12_next_35 : decode cX12_next 35 = .ok (.aload_n 0, 1) := by decide +kernel
theorem dX12_next_36 : decode cX12_next 36 = .ok (.getfield 102, 3) := by decide +kernel
theorem dX12_next_39 : decode cX12_next 39 = .ok (.if_icmp .ge 53, 3) := by decide +kernel
theorem dX12_next_42 : decode cX12_next 42 = .ok (.iload_n 2, 1) := by decide +kernel
theorem dX12_next_43 : decode cX12_next 43 = .ok (.aload_n 0, 1) := by decide +kernel
theorem dX12_next_44 : decode cX12_next 44 = .ok (.iload 5, 2) := by decide +kernel
theorem dX12_next_46 : decode cX12_next 46 = .ok (.iload_n 1, 1) := by decide +kernel
theorem dX12_next_47 : decode cX12_next 47 = .ok (.invokevirtual 138, 3) := by decide +kernel
theorem dX12_next_50 : decode cX12_next 50 = .ok (.invokestatic 184, 3) := by decide +kernel
theorem dX12_next_53 : decode cX12_next 53 = .ok (.aload_n 0, 1) := by decide +kernel
theorem dX12_next_54 : decode cX12_next 54 = .ok (.getfield 31, 3) := by decide +kernel
theorem dX12_next_57 : decode cX12_next 57 = .ok (.iload 5, 2) := by decide +kernel
theorem dX12_next_59 : decode cX12_next 59 = .ok (.iaload, 1) := by decide +kernel
theorem dX12_next_60 : decode cX12_next 60 = .ok (.iadd, 1) := by decide +kernel
theorem dX12_next_61 : decode cX12_next 61 = .ok (.istore 6, 2) := by decide +kernel
theorem dX12_next_63 : decode cX12_next 63 = .ok (.aload_n 0, 1) := by decide +kernel
theorem dX12_next_64 : decode cX12_next 64 = .ok (.iload 5, 2) := by decide +kernel
theorem dX12_next_66 : decode cX12_next 66 = .ok (.invokevirtual 129, 3) := by decide +kernel
theorem dX12_next_69 : decode cX12_next 69 = .ok (.ifCond .eq 17, 3) := by decide +kernel
theorem dX12_next_72 : decode cX12_next 72 = .ok (.iload 6, 2) := by decide +kernel
theorem dX12_next_74 : decode cX12_next 74 = .ok (.iload 4, 2) := by decide +kernel
theorem dX12_next_76 : decode cX12_next 76 = .ok (.if_icmp .ge 10, 3) := by decide +kernel
theorem dX12_next_79 : decode cX12_next 79 = .ok (.iload 6, 2) := by decide +kernel
theorem dX12_next_81 : decode cX12_next 81 = .ok (.istore 4, 2) := by decide +kernel
theorem dX12_next_83 : decode cX12_next 83 = .ok (.iload 5, 2) := by decide +kernel
theorem dX12_next_85 : decode cX12_next 85 = .ok (.istore_n 3, 1) := by decide +kernel
theorem dX12_next_86 : decode cX12_next 86 = .ok (.iinc 5 1, 3) := by decide +kernel
theorem dX12_next_89 : decode cX12_next 89 = .ok (.goto (-56), 3) := by decide +kernel
theorem dX12_next_92 : decode cX12_next 92 = .ok (.iload_n 3, 1) := by decide +kernel
theorem dX12_next_93 : decode cX12_next 93 = .ok (.ireturn, 1) := by decide +kernel
theorem dX12_behind_0 : decode cX12_behind 0 = .ok (.aload_n 0, 1) := by decide +kernel
theorem dX12_behind_1 : decode cX12_behind 1 = .ok (.iload_n 1, 1) := by decide +kernel
theorem dX12_behind_2 : decode cX12_behind 2 = .ok (.invokevirtual 116, 3) := by decide +kernel
theorem dX12_behind_5 : decode cX12_behind 5 = .ok (.ifCond .eq 11, 3) := by decide +kernel
theorem dX12_behind_8 : decode cX12_behind 8 = .ok (.aload_n 0, 1) := by decide +kernel
theorem dX12_behind_9 : decode cX12_behind 9 = .ok (.iload_n 2, 1) := by decide +kernel
theorem dX12_behind_10 : decode cX12_behind 10 = .ok (.invokevirtual 157, 3) := by decide +kernel
theorem dX12_behind_13 : decode cX12_behind 13 = .ok (.ifCond .ne 5, 3) := by decide +kernel
theorem dX12_behind_16 : decode cX12_behind 16 = .ok (.iconst (-1), 1) := by decide +kernel
theorem dX12_behind_17 : decode cX12_behind 17 = .ok (.ireturn, 1) := by decide +kernel
theorem dX12_behind_18 : decode cX12_behind 18 = .ok (.aload_n 0, 1) := by decide +kernel
theorem dX12_behind_19 : decode cX12_behind 19 = .ok (.invokevirtual 149, 3) := by decide +kernel
theorem dX12_behind_22 : decode cX12_behind 22 = .ok (.aload_n 0, 1) := by decide +kernel
theorem dX12_behind_23 : decode cX12_behind 23 = .ok (.iload_n 1, 1) := by decide +kernel
theorem dX12_behind_24 : decode cX12_behind 24 = .ok (.invokevirtual 129, 3) := by decide +kernel
theorem dX12_behind_27 : decode cX12_behind 27 = .ok (.ifCond .ne 6, 3) := by decide +kernel
theorem dX12_behind_30 : decode cX12_behind 30 = .ok (.bipush (-3), 2) := by decide +kernel
theorem dX12_behind_32 : decode cX12_behind 32 = .ok (.ireturn, 1) := by decide +kernel
theorem dX12_behind_33 : decode cX12_behind 33 = .ok (.aload_n 0, 1) := by decide +kernel
theorem dX12_behind_34 : decode cX12_behind 34 = .ok (.iload_n 2, 1) := by decide +kernel
theorem dX12_behind_35 : decode cX12_behind 35 = .ok (.invokevirtual 209, 3) := by decide +kernel
theorem dX12_behind_38 : decode cX12_behind 38 = .ok (.ifCond .ne 20, 3) := by decide +kernel
theorem dX12_behind_41 : decode cX12_behind 41 = .ok (.aload_n 0, 1) := by decide +kernel
theorem dX12_behind_42 : decode cX12_behind 42 = .ok (.getfield 16, 3) := by decide +kernel
theorem dX12_behind_45 : decode cX12_behind 45 = .ok (.iconst 2, 1) := by decide +kernel
theorem dX12_behind_46 : decode cX12_behind 46 = .ok (.iload_n 2, 1) := by decide +kernel
theorem dX12_behind_47 : decode cX12_behind 47 = .ok (.imul, 1) := by decide +kernel
theorem dX12_behind_48 : decode cX12_behind 48 = .ok (.iaload, 1) := by decide +kernel
theorem dX12_behind_49 : decode cX12_behind 49 = .ok (.aload_n 0, 1) := by decide +kernel
theorem dX12_behind_50 : decode cX12_behind 50 = .ok (.getfield 7, 3) := by decide +kernel
theorem dX12_behind_53 : decode cX12_behind 53 = .ok (.iload_n 1, 1) := by decide +kernel
theorem dX12_behind_54 : decode cX12_behind 54 = .ok (.iaload, 1) := by decide +kernel
theorem dX12_behind_55 : decode cX12_behind 55 = .ok (.if_icmp .gt 5, 3) := by decide +kernel
theorem dX12_behind_58 : decode cX12_behind 58 = .ok (.iconst 0, 1) := by decide +kernel
theorem dX12_behind_59 : decode cX12_behind 59 = .ok (.ireturn, 1) := by decide +kernel
theorem dX12_behind_60 : decode cX12_behind 60 = .ok (.aload_n 0, 1) := by decide +kernel
theorem dX12_behind_61 : decode cX12_behind 61 = .ok (.getfield 203, 3) := by decide +kernel
theorem dX12_behind_64 : decode cX12_behind 64 = .ok (.aload_n 0, 1) := by decide +kernel
theorem dX12_behind_65 : decode cX12_behind 65 = .ok (.getfield 37, 3) := by decide +kernel
theorem dX12_behind_68 : decode cX12_behind 68 = .ok (.iload_n 1, 1) := by decide +kernel
theorem dX12_behind_69 : decode cX12_behind 69 = .ok (.iaload, 1) := by decide +kernel
theorem dX12_behind_70 : decode cX12_behind 70 = .ok (.isub, 1) := by decide +kernel
theorem dX12_behind_71 : decode cX12_behind 71 = .ok (.i2l, 1) := by decide +kernel
theorem dX12_behind_72 : decode cX12_behind 72 = .ok (.lstore_n 3, 1) := by decide +kernel
theorem dX12_behind_73 : decode cX12_behind 73 = .ok (.iconst 0, 1) := by decide +kernel
theorem dX12_behind_74 : decode cX12_behind 74 = .ok (.istore 5, 2) := by decide +kernel
theorem dX12_behind_76 : decode cX12_behind 76 = .ok (.iconst 0, 1) := by decide +kernel
theorem dX12_behind_77 : decode cX12_behind 77 = .ok (.istore 6, 2) := by decide +kernel
theorem dX12_behind_79 : decode cX12_behind 79 = .ok (.iload 6, 2) := by decide +kernel
theorem dX12_behind_81 : decode cX12_behind 81 = .ok (.aload_n 0, 1) := by decide +kernel
theorem dX12_behind_82 : decode cX12_behind 82 = .ok (.getfield 110, 3) := by decide +kernel
theorem dX12_behind_85 : decode cX12_behind 85 = .ok (.if_icmp .ge 107, 3) := by decide +kernel
theorem dX12_behind_88 : decode cX12_behind 88 = .ok (.aload_n 0, 1) := by decide +kernel
theorem dX12_behind_89 : decode cX12_behind 89 = .ok (.getfield 16, 3) := by decide +kernel
theorem dX12_behind_92 : decode cX12_behind 92 = .ok (.iconst 2, 1) := by decide +kernel
theorem dX12_behind_93 : decode cX12_behind 93 = .ok (.iload 6, 2) := by decide +kernel
theorem dX12_behind_95 : decode cX12_behind 95 = .ok (.imul, 1) := by decide +kernel
theorem dX12_behind_96 : decode cX12_behind 96 = .ok (.iaload, 1) := by decide +kernel
theorem dX12_behind_97 : decode cX12_behind 97 = .ok (.aload_n 0, 1) := by decide +kernel
theorem dX12_behind_98 : decode cX12_behind 98 = .ok (.getfield 7, 3) := by decide +kernel
theorem dX12_behind_101 : decode cX12_behind 101 = .ok (.iload_n 1, 1) := by decide +kernel
theorem dX12_behind_102 : decode cX12_behind 102 = .ok (.iaload, 1) := by decide +kernel
theorem dX12_behind_103 : decode cX12_behind 103 = .ok (.if_icmp .le 83, 3) := by decide +kernel
theorem dX12_behind_106 : decode cX12_behind 106 = .ok (.aload_n 0, 1) := by decide +kernel
theorem dX12_behind_107 : decode cX12_behind 107 = .ok (.getfield 16, 3) := by decide +kernel
theorem dX12_behind_110 : decode cX12_behind 110 = .ok (.iconst 2, 1) := by decide +kernel
theorem dX12_behind_111 : decode cX12_behind 111 = .ok (.iload 6, 2) := by decide +kernel
theorem dX12_behind_113 : decode cX12_behind 113 = .ok (.imul, 1) := by decide +kernel
theorem dX12_behind_114 : decode cX12_behind 114 = .ok (.iaload, 1) := by decide +kernel
theorem dX12_behind_115 : decode cX12_behind 115 = .ok (.aload_n 0, 1) := by decide +kernel
theorem dX12_behind_116 : decode cX12_behind 116 = .ok (.getfield 16, 3) := by decide +kernel
theorem dX12_behind_119 : decode cX12_behind 119 = .ok (.iconst 2, 1) := by decide +kernel
theorem dX12_behind_120 : decode cX12_behind 120 = .ok (.iload_n 2, 1) := by decide +kernel
theorem dX12_behind_121 : decode cX12_behind 121 = .ok (.imul, 1) := by decide +kernel
theorem dX12_behind_122 : decode cX12_behind 122 = .ok (.iaload, 1) := by decide +kernel
theorem dX12_behind_123 : decode cX12_behind 123 = .ok (.if_icmp .ge 63, 3) := by decide +kernel
theorem dX12_behind_126 : decode cX12_behind 126 = .ok (.aload_n 0, 1) := by decide +kernel
theorem dX12_behind_127 : decode cX12_behind 127 = .ok (.iload 6, 2) := by decide +kernel
theorem dX12_behind_129 : decode cX12_behind 129 = .ok (.invokevirtual 209, 3) := by decide +kernel
theorem dX12_behind_132 : decode cX12_behind 132 = .ok (.ifCond .ne 54, 3) := by decide +kernel
theorem dX12_behind_135 : decode cX12_behind 135 = .ok (.aload_n 0, 1) := by decide +kernel
theorem dX12_behind_136 : decode cX12_behind 136 = .ok (.getfield 200, 3) := by decide +kernel
theorem dX12_behind_139 : decode cX12_behind 139 = .ok (.aload_n 0, 1) := by decide +kernel
theorem dX12_behind_140 : decode cX12_behind 140 = .ok (.getfield 37, 3) := by decide +kernel
theorem dX12_behind_143 : decode cX12_behind 143 = .ok (.iload_n 1, 1) := by decide +kernel
theorem dX12_behind_144 : decode cX12_behind 144 = .ok (.iaload, 1) := by decide +kernel
theorem dX12_behind_145 : decode cX12_behind 145 = .ok (.isub, 1) := by decide +kernel
theorem dX12_behind_146 : decode cX12_behind 146 = .ok (.i2l, 1) := by decide +kernel
theorem dX12_behind_147 : decode cX12_behind 147 = .ok (.lstore 7, 2) := by decide +kernel
theorem dX12_behind_149 : decode cX12_behind 149 = .ok (.iload 5, 2) := by decide +kernel
theorem dX12_behind_151 : decode cX12_behind 151 = .ok (.lload 7, 2) := by decide +kernel
theorem dX12_behind_153 : decode cX12_behind 153 = .ok (.aload_n 0, 1) := by decide +kernel
theorem dX12_behind_154 : decode cX12_behind 154 = .ok (.iload_n 1, 1) := by decide +kernel
theorem dX12_behind_155 : decode cX12_behind 155 = .ok (.iload_n 2, 1) := by decide +kernel
theorem dX12_behind_156 : decode cX12_behind 156 = .ok (.invokevirtual 138, 3) := by decide +kernel
theorem dX12_behind_159 : decode cX12_behind 159 = .ok (.i2l, 1) := by decide +kernel
theorem dX12_behind_160 : decode cX12_behind 160 = .ok (.lmul, 1) := by decide +kernel
theorem dX12_behind_161 : decode cX12_behind 161 = .ok (.lload_n 3, 1) := by decide +kernel
theorem dX12_behind_162 : decode cX12_behind 162 = .ok (.aload_n 0, 1) := by decide +kernel
theorem dX12_behind_163 : decode cX12_behind 163 = .ok (.iload_n 1, 1) := by decide +kernel
theorem dX12_behind_164 : decode cX12_behind 164 = .ok (.iload 6, 2) := by decide +kernel
theorem dX12_behind_166 : decode cX12_behind 166 = .ok (.invokevirtual 138, 3) := by decide +kernel
theorem dX12_behind_169 : decode cX12_behind 169 = .ok (.i2l, 1) := by decide +kernel
theorem dX12_behind_170 : decode cX12_behind 170 = .ok (.lmul, 1) := by decide +kernel
theorem dX12_behind_171 : decode cX12_behind 171 = .ok (.lcmp, 1) := by decide +kernel
theorem dX12_behind_172 : decode cX12_behind 172 = .ok (.ifCond .le 10, 3) := by decide +kernel
theorem dX12_behind_175 : decode cX12_behind 175 = .ok (.iconst 1, 1) := by decide +kernel
theorem dX12_behind_176 : decode cX12_behind 176 = .ok (.iload 6, 2) := by decide +kernel
theorem dX12_behind_178 : decode cX12_behind 178 = .ok (.ishl, 1) := by decide +kernel
theorem dX12_behind_179 : decode cX12_behind 179 = .ok (.goto 4, 3) := by decide +kernel
theorem dX12_behind_182 : decode cX12_behind 182 = .ok (.iconst 0, 1) := by decide +kernel
theorem dX12_behind_183 : decode cX12_behind 183 = .ok (.ior, 1) := by decide +kernel
theorem dX12_behind_184 : decode cX12_behind 184 = .ok (.istore 5, 2) := by decide +kernel
theorem dX12_behind_186 : decode cX12_behind 186 = .ok (.iinc 6 1, 3) := by decide +kernel
theorem dX12_behind_189 : decode cX12_behind 189 = .ok (.goto (-110), 3) := by decide +kernel
theorem dX12_behind_192 : decode cX12_behind 192 = .ok (.iload 5, 2) := by decide +kernel
theorem dX12_behind_194 : decode cX12_behind 194 = .ok (.ireturn, 1) := by decide +kernel
theorem dX12_within_0 : decode cX12_within 0 = .ok (.lload_n 0, 1) := by decide +kernel
theorem dX12_within_1 : decode cX12_within 1 = .ok (.lconst 0, 1) := by decide +kernel
theorem dX12_within_2 : decode cX12_within 2 = .ok (.lcmp, 1) := by decide +kernel
theorem dX12_within_3 : decode cX12_within 3 = .ok (.ifCond .ge 7, 3) := by decide +kernel
theorem dX12_within_6 : decode cX12_within 6 = .ok (.lconst 0, 1) := by decide +kernel
theorem dX12_within_7 : decode cX12_within 7 = .ok (.goto 14, 3) := by decide +kernel
theorem dX12_within_10 : decode cX12_within 10 = .ok (.lload_n 0, 1) := by decide +kernel
theorem dX12_within_11 : decode cX12_within 11 = .ok (.lload_n 2, 1) := by decide +kernel
theorem dX12_within_12 : decode cX12_within 12 = .ok (.lcmp, 1) := by decide +kernel
theorem dX12_within_13 : decode cX12_within 13 = .ok (.ifCond .le 7, 3) := by decide +kernel
theorem dX12_within_16 : decode cX12_within 16 = .ok (.lload_n 2, 1) := by decide +kernel
theorem dX12_within_17 : decode cX12_within 17 = .ok (.goto 4, 3) := by decide +kernel
theorem dX12_within_20 : decode cX12_within 20 = .ok (.lload_n 0, 1) := by decide +kernel
theorem dX12_within_21 : decode cX12_within 21 = .ok (.lreturn, 1) := by decide +kernel
theorem dX12_highest_0 : decode cX12_highest 0 = .ok (.aload_n 0, 1) := by decide +kernel
theorem dX12_highest_1 : decode cX12_highest 1 = .ok (.iload_n 1, 1) := by decide +kernel
theorem dX12_highest_2 : decode cX12_highest 2 = .ok (.invokevirtual 157, 3) := by decide +kernel
theorem dX12_highest_5 : decode cX12_highest 5 = .ok (.ifCond .eq 12, 3) := by decide +kernel
theorem dX12_highest_8 : decode cX12_highest 8 = .ok (.iload_n 2, 1) := by decide +kernel
theorem dX12_highest_9 : decode cX12_highest 9 = .ok (.iconst 0, 1) := by decide +kernel
theorem dX12_highest_10 : decode cX12_highest 10 = .ok (.iconst 1, 1) := by decide +kernel
theorem dX12_highest_11 : decode cX12_highest 11 = .ok (.invokestatic 106, 3) := by decide +kernel
theorem dX12_highest_14 : decode cX12_highest 14 = .ok (.ifCond .ne 7, 3) := by decide +kernel
theorem dX12_highest_17 : decode cX12_highest 17 = .ok (.ldc2_w 213, 3) := by decide +kernel
theorem dX12_highest_20 : decode cX12_highest 20 = .ok (.lreturn, 1) := by decide +kernel
theorem dX12_highest_21 : decode cX12_highest 21 = .ok (.aload_n 0, 1) := by decide +kernel
theorem dX12_highest_22 : decode cX12_highest 22 = .ok (.iload_n 1, 1) := by decide +kernel
theorem dX12_highest_23 : decode cX12_highest 23 = .ok (.invokevirtual 209, 3) := by decide +kernel
theorem dX12_highest_26 : decode cX12_highest 26 = .ok (.bipush (-3), 2) := by decide +kernel
theorem dX12_highest_28 : decode cX12_highest 28 = .ok (.if_icmp .ne 7, 3) := by decide +kernel
theorem dX12_highest_31 : decode cX12_highest 31 = .ok (.ldc2_w 215, 3) := by decide +kernel
theorem dX12_highest_34 : decode cX12_highest 34 = .ok (.lreturn, 1) := by decide +kernel
theorem dX12_highest_35 : decode cX12_highest 35 = .ok (.iconst 0, 1) := by decide +kernel
theorem dX12_highest_36 : decode cX12_highest 36 = .ok (.istore_n 3, 1) := by decide +kernel
theorem dX12_highest_37 : decode cX12_highest 37 = .ok (.iconst 0, 1) := by decide +kernel
theorem dX12_highest_38 : decode cX12_highest 38 = .ok (.istore 4, 2) := by decide +kernel
theorem dX12_highest_40 : decode cX12_highest 40 = .ok (.iload 4, 2) := by decide +kernel
theorem dX12_highest_42 : decode cX12_highest 42 = .ok (.aload_n 0, 1) := by decide +kernel
theorem dX12_highest_43 : decode cX12_highest 43 = .ok (.getfield 110, 3) := by decide +kernel
theorem dX12_highest_46 : decode cX12_highest 46 = .ok (.if_icmp .ge 73, 3) := by decide +kernel
theorem dX12_highest_49 : decode cX12_highest 49 = .ok (.aload_n 0, 1) := by decide +kernel
theorem dX12_highest_50 : decode cX12_highest 50 = .ok (.iload 4, 2) := by decide +kernel
theorem dX12_highest_52 : decode cX12_highest 52 = .ok (.invokevirtual 209, 3) := by decide +kernel
theorem dX12_highest_55 : decode cX12_highest 55 = .ok (.istore 5, 2) := by decide +kernel
theorem dX12_highest_57 : decode cX12_highest 57 = .ok (.iload_n 3, 1) := by decide +kernel
theorem dX12_highest_58 : decode cX12_highest 58 = .ok (.ifCond .ne 10, 3) := by decide +kernel
theorem dX12_highest_61 : decode cX12_highest 61 = .ok (.iload 5, 2) := by decide +kernel
theorem dX12_highest_63 : decode cX12_highest 63 = .ok (.bipush (-4), 2) := by decide +kernel
theorem dX12_highest_65 : decode cX12_highest 65 = .ok (.if_icmp .ne 7, 3) := by decide +kernel
theorem dX12_highest_68 : decode cX12_highest 68 = .ok (.iconst 1, 1) := by decide +kernel
theorem dX12_highest_69 : decode cX12_highest 69 = .ok (.goto 4, 3) := by decide +kernel
theorem dX12_highest_72 : decode cX12_highest 72 = .ok (.iconst 0, 1) := by decide +kernel
theorem dX12_highest_73 : decode cX12_highest 73 = .ok (.istore_n 3, 1) := by decide +kernel
theorem dX12_highest_74 : decode cX12_highest 74 = .ok (.aload_n 0, 1) := by decide +kernel
theorem dX12_highest_75 : decode cX12_highest 75 = .ok (.getfield 46, 3) := by decide +kernel
theorem dX12_highest_78 : decode cX12_highest 78 = .ok (.iload 4, 2) := by decide +kernel
theorem dX12_highest_80 : decode cX12_highest 80 = .ok (.iload 5, 2) := by decide +kernel
theorem dX12_highest_82 : decode cX12_highest 82 = .ok (.ifCond .ne 7, 3) := by decide +kernel
theorem dX12_highest_85 : decode cX12_highest 85 = .ok (.iconst 1, 1) := by decide +kernel
theorem dX12_highest_86 : decode cX12_highest 86 = .ok (.goto 4, 3) := by decide +kernel
theorem dX12_highest_89 : decode cX12_highest 89 = .ok (.iconst 0, 1) := by decide +kernel
theorem dX12_highest_90 : decode cX12_highest 90 = .ok (.bastore, 1) := by decide +kernel
theorem dX12_highest_91 : decode cX12_highest 91 = .ok (.aload_n 0, 1) := by decide +kernel
theorem dX12_highest_92 : decode cX12_highest 92 = .ok (.getfield 40, 3) := by decide +kernel
theorem dX12_highest_95 : decode cX12_highest 95 = .ok (.iload 4, 2) := by decide +kernel
theorem dX12_highest_97 : decode cX12_highest 97 = .ok (.aload_n 0, 1) := by decide +kernel
theorem dX12_highest_98 : decode cX12_highest 98 = .ok (.getfield 200, 3) := by decide +kernel
theorem dX12_highest_101 : decode cX12_highest 101 = .ok (.iastore, 1) := by decide +kernel
theorem dX12_highest_102 : decode cX12_highest 102 = .ok (.aload_n 0, 1) := by decide +kernel
theorem dX12_highest_103 : decode cX12_highest 103 = .ok (.getfield 43, 3) := by decide +kernel
theorem dX12_highest_106 : decode cX12_highest 106 = .ok (.iload 4, 2) := by decide +kernel
theorem dX12_highest_108 : decode cX12_highest 108 = .ok (.aload_n 0, 1) := by decide +kernel
theorem dX12_highest_109 : decode cX12_highest 109 = .ok (.getfield 203, 3) := by decide +kernel
theorem dX12_highest_112 : decode cX12_highest 112 = .ok (.iastore, 1) := by decide +kernel
theorem dX12_highest_113 : decode cX12_highest 113 = .ok (.iinc 4 1, 3) := by decide +kernel
theorem dX12_highest_116 : decode cX12_highest 116 = .ok (.goto (-76), 3) := by decide +kernel
theorem dX12_highest_119 : decode cX12_highest 119 = .ok (.iload_n 3, 1) := by decide +kernel
theorem dX12_highest_120 : decode cX12_highest 120 = .ok (.ifCond .eq 7, 3) := by decide +kernel
theorem dX12_highest_123 : decode cX12_highest 123 = .ok (.ldc2_w 217, 3) := by decide +kernel
theorem dX12_highest_126 : decode cX12_highest 126 = .ok (.lreturn, 1) := by decide +kernel
theorem dX12_highest_127 : decode cX12_highest 127 = .ok (.lconst 1, 1) := by decide +kernel
theorem dX12_highest_128 : decode cX12_highest 128 = .ok (.lstore 4, 2) := by decide +kernel
theorem dX12_highest_130 : decode cX12_highest 130 = .ok (.iconst 0, 1) := by decide +kernel
theorem dX12_highest_131 : decode cX12_highest 131 = .ok (.istore 6, 2) := by decide +kernel
theorem dX12_highest_133 : decode cX12_highest 133 = .ok (.iload 6, 2) := by decide +kernel
theorem dX12_highest_135 : decode cX12_highest 135 = .ok (.aload_n 0, 1) := by decide +kernel
theorem dX12_highest_136 : decode cX12_highest 136 = .ok (.getfield 110, 3) := by decide +kernel
theorem dX12_highest_139 : decode cX12_highest 139 = .ok (.if_icmp .ge 46, 3) := by decide +kernel
theorem dX12_highest_142 : decode cX12_highest 142 = .ok (.lload 4, 2) := by decide +kernel
theorem dX12_highest_144 : decode cX12_highest 144 = .ok (.aload_n 0, 1) := by decide +kernel
theorem dX12_highest_145 : decode cX12_highest 145 = .ok (.getfield 46, 3) := by decide +kernel
theorem dX12_highest_148 : decode cX12_highest 148 = .ok (.iload 6, 2) := by decide +kernel
theorem dX12_highest_150 : decode cX12_highest 150 = .ok (.baload, 1) := by decide +kernel
theorem dX12_highest_151 : decode cX12_highest 151 = .ok (.ifCond .eq 24, 3) := by decide +kernel
theorem dX12_highest_154 : decode cX12_highest 154 = .ok (.aload_n 0, 1) := by decide +kernel
theorem dX12_highest_155 : decode cX12_highest 155 = .ok (.getfield 43, 3) := by decide +kernel
theorem dX12_highest_158 : decode cX12_highest 158 = .ok (.iload 6, 2) := by decide +kernel
theorem dX12_highest_160 : decode cX12_highest 160 = .ok (.iaload, 1) := by decide +kernel
theorem dX12_highest_161 : decode cX12_highest 161 = .ok (.aload_n 0, 1) := by decide +kernel
theorem dX12_highest_162 : decode cX12_highest 162 = .ok (.getfield 40, 3) := by decide +kernel
theorem dX12_highest_165 : decode cX12_highest 165 = .ok (.iload 6, 2) := by decide +kernel
theorem dX12_highest_167 : decode cX12_highest 167 = .ok (.iaload, 1) := by decide +kernel
theorem dX12_highest_168 : decode cX12_highest 168 = .ok (.isub, 1) := by decide +kernel
theorem dX12_highest_169 : decode cX12_highest 169 = .ok (.i2l, 1) := by decide +kernel
theorem dX12_highest_170 : decode cX12_highest 170 = .ok (.lconst 1, 1) := by decide +kernel
theorem dX12_highest_171 : decode cX12_highest 171 = .ok (.ladd, 1) := by decide +kernel
theorem dX12_highest_172 : decode cX12_highest 172 = .ok (.goto 4, 3) := by decide +kernel
theorem dX12_highest_175 : decode cX12_highest 175 = .ok (.lconst 1, 1) := by decide +kernel
theorem dX12_highest_176 : decode cX12_highest 176 = .ok (.lmul, 1) := by decide +kernel
theorem dX12_highest_177 : decode cX12_highest 177 = .ok (.lstore 4, 2) := by decide +kernel
theorem dX12_highest_179 : decode cX12_highest 179 = .ok (.iinc 6 1, 3) := by decide +kernel
theorem dX12_highest_182 : decode cX12_highest 182 = .ok (.goto (-49), 3) := by decide +kernel
theorem dX12_highest_185 : decode cX12_highest 185 = .ok (.lconst 0, 1) := by decide +kernel
theorem dX12_highest_186 : decode cX12_highest 186 = .ok (.lstore 6, 2) := by decide +kernel
theorem dX12_highest_188 : decode cX12_highest 188 = .ok (.aload_n 0, 1) := by decide +kernel
theorem dX12_highest_189 : decode cX12_highest 189 = .ok (.getfield 40, 3) := by decide +kernel
theorem dX12_highest_192 : decode cX12_highest 192 = .ok (.iload_n 1, 1) := by decide +kernel
theorem dX12_highest_193 : decode cX12_highest 193 = .ok (.iaload, 1) := by decide +kernel
theorem dX12_highest_194 : decode cX12_highest 194 = .ok (.istore 8, 2) := by decide +kernel
theorem dX12_highest_196 : decode cX12_highest 196 = .ok (.iload 8, 2) := by decide +kernel
theorem dX12_highest_198 : decode cX12_highest 198 = .ok (.aload_n 0, 1) := by decide +kernel
theorem dX12_highest_199 : decode cX12_highest 199 = .ok (.getfield 43, 3) := by decide +kernel
theorem dX12_highest_202 : decode cX12_highest 202 = .ok (.iload_n 1, 1) := by decide +kernel
theorem dX12_highest_203 : decode cX12_highest 203 = .ok (.iaload, 1) := by decide +kernel
theorem dX12_highest_204 : decode cX12_highest 204 = .ok (.if_icmp .gt 102, 3) := by decide +kernel
theorem dX12_highest_207 : decode cX12_highest 207 = .ok (.lconst 1, 1) := by decide +kernel
theorem dX12_highest_208 : decode cX12_highest 208 = .ok (.lstore 9, 2) := by decide +kernel
theorem dX12_highest_210 : decode cX12_highest 210 = .ok (.iconst 0, 1) := by decide +kernel
theorem dX12_highest_211 : decode cX12_highest 211 = .ok (.istore 11, 2) := by decide +kernel
theorem dX12_highest_213 : decode cX12_highest 213 = .ok (.iload 11, 2) := by decide +kernel
theorem dX12_highest_215 : decode cX12_highest 215 = .ok (.aload_n 0, 1) := by decide +kernel
theorem dX12_highest_216 : decode cX12_highest 216 = .ok (.getfield 110, 3) := by decide +kernel
theorem dX12_highest_219 : decode cX12_highest 219 = .ok (.if_icmp .ge 74, 3) := by decide +kernel
theorem dX12_highest_222 : decode cX12_highest 222 = .ok (.iload 11, 2) := by decide +kernel
theorem dX12_highest_224 : decode cX12_highest 224 = .ok (.iload_n 1, 1) := by decide +kernel
theorem dX12_highest_225 : decode cX12_highest 225 = .ok (.if_icmp .eq 62, 3) := by decide +kernel
theorem dX12_highest_228 : decode cX12_highest 228 = .ok (.aload_n 0, 1) := by decide +kernel
theorem dX12_highest_229 : decode cX12_highest 229 = .ok (.getfield 46, 3) := by decide +kernel
theorem dX12_highest_232 : decode cX12_highest 232 = .ok (.iload 11, 2) := by decide +kernel
theorem dX12_highest_234 : decode cX12_highest 234 = .ok (.baload, 1) := by decide +kernel
theorem dX12_highest_235 : decode cX12_highest 235 = .ok (.ifCond .eq 52, 3) := by decide +kernel
theorem dX12_highest_238 : decode cX12_highest 238 = .ok (.lload 9, 2) := by decide +kernel
theorem dX12_highest_240 : decode cX12_highest 240 = .ok (.iload 8, 2) := by decide +kernel
theorem dX12_highest_242 : decode cX12_highest 242 = .ok (.aload_n 0, 1) := by decide +kernel
theorem dX12_highest_243 : decode cX12_highest 243 = .ok (.getfield 40, 3) := by decide +kernel
theorem dX12_highest_246 : decode cX12_highest 246 = .ok (.iload 11, 2) := by decide +kernel
theorem dX12_highest_248 : decode cX12_highest 248 = .ok (.iaload, 1) := by decide +kernel
theorem dX12_highest_249 : decode cX12_highest 249 = .ok (.isub, 1) := by decide +kernel
theorem dX12_highest_250 : decode cX12_highest 250 = .ok (.i2l, 1) := by decide +kernel
theorem dX12_highest_251 : decode cX12_highest 251 = .ok (.iload 11, 2) := by decide +kernel
theorem dX12_highest_253 : decode cX12_highest 253 = .ok (.iload_n 1, 1) := by decide +kernel
theorem dX12_highest_254 : decode cX12_highest 254 = .ok (.if_icmp .le 7, 3) := by decide +kernel
theorem dX12_highest_257 : decode cX12_highest 257 = .ok (.lconst 1, 1) := by decide +kernel
theorem dX12_highest_258 : decode cX12_highest 258 = .ok (.goto 4, 3) := by decide +kernel
theorem dX12_highest_261 : decode cX12_highest 261 = .ok (.lconst 0, 1) := by decide +kernel
theorem dX12_highest_262 : decode cX12_highest 262 = .ok (.ladd, 1) := by decide +kernel
theorem dX12_highest_263 : decode cX12_highest 263 = .ok (.aload_n 0, 1) := by decide +kernel
theorem dX12_highest_264 : decode cX12_highest 264 = .ok (.getfield 43, 3) := by decide +kernel
theorem dX12_highest_267 : decode cX12_highest 267 = .ok (.iload 11, 2) := by decide +kernel
theorem dX12_highest_269 : decode cX12_highest 269 = .ok (.iaload, 1) := by decide +kernel
theorem dX12_highest_270 : decode cX12_highest 270 = .ok (.aload_n 0, 1) := by decide +kernel
theorem dX12_highest_271 : decode cX12_highest 271 = .ok (.getfield 40, 3) := by decide +kernel
theorem dX12_highest_274 : decode cX12_highest 274 = .ok (.iload 11, 2) := by decide +kernel
theorem dX12_highest_276 : decode cX12_highest 276 = .ok (.iaload, 1) := by decide +kernel
theorem dX12_highest_277 : decode cX12_highest 277 = .ok (.isub, 1) := by decide +kernel
theorem dX12_highest_278 : decode cX12_highest 278 = .ok (.i2l, 1) := by decide +kernel
theorem dX12_highest_279 : decode cX12_highest 279 = .ok (.lconst 1, 1) := by decide +kernel
theorem dX12_highest_280 : decode cX12_highest 280 = .ok (.ladd, 1) := by decide +kernel
theorem dX12_highest_281 : decode cX12_highest 281 = .ok (.invokestatic 219, 3) := by decide +kernel
theorem dX12_highest_284 : decode cX12_highest 284 = .ok (.lmul, 1) := by decide +kernel
theorem dX12_highest_285 : decode cX12_highest 285 = .ok (.lstore 9, 2) := by decide +kernel
theorem dX12_highest_287 : decode cX12_highest 287 = .ok (.iinc 11 1, 3) := by decide +kernel
theorem dX12_highest_290 : decode cX12_highest 290 = .ok (.goto (-77), 3) := by decide +kernel
theorem dX12_highest_293 : decode cX12_highest 293 = .ok (.lload 6, 2) := by decide +kernel
theorem dX12_highest_295 : decode cX12_highest 295 = .ok (.lload 9, 2) := by decide +kernel
theorem dX12_highest_297 : decode cX12_highest 297 = .ok (.ladd, 1) := by decide +kernel
theorem dX12_highest_298 : decode cX12_highest 298 = .ok (.lstore 6, 2) := by decide +kernel
theorem dX12_highest_300 : decode cX12_highest 300 = .ok (.iinc 8 1, 3) := by decide +kernel
theorem dX12_highest_303 : decode cX12_highest 303 = .ok (.goto (-107), 3) := by decide +kernel
theorem dX12_highest_306 : decode cX12_highest 306 = .ok (.lload 6, 2) := by decide +kernel
theorem dX12_highest_308 : decode cX12_highest 308 = .ok (.lstore 8, 2) := by decide +kernel
theorem dX12_highest_310 : decode cX12_highest 310 = .ok (.lload 4, 2) := by decide +kernel
theorem dX12_highest_312 : decode cX12_highest 312 = .ok (.lstore 10, 2) := by decide +kernel
theorem dX12_highest_314 : decode cX12_highest 314 = .ok (.lload 10, 2) := by decide +kernel
theorem dX12_highest_316 : decode cX12_highest 316 = .ok (.lconst 0, 1) := by decide +kernel
theorem dX12_highest_317 : decode cX12_highest 317 = .ok (.lcmp, 1) := by decide +kernel
theorem dX12_highest_318 : decode cX12_highest 318 = .ok (.ifCond .eq 21, 3) := by decide +kernel
theorem dX12_highest_321 : decode cX12_highest 321 = .ok (.lload 8, 2) := by decide +kernel
theorem dX12_highest_323 : decode cX12_highest 323 = .ok (.lload 10, 2) := by decide +kernel
theorem dX12_highest_325 : decode cX12_highest 325 = .ok (.lrem, 1) := by decide +kernel
theorem dX12_highest_326 : decode cX12_highest 326 = .ok (.lstore 12, 2) := by decide +kernel
theorem dX12_highest_328 : decode cX12_highest 328 = .ok (.lload 10, 2) := by decide +kernel
theorem dX12_highest_330 : decode cX12_highest 330 = .ok (.lstore 8, 2) := by decide +kernel
theorem dX12_highest_332 : decode cX12_highest 332 = .ok (.lload 12, 2) := by decide +kernel
theorem dX12_highest_334 : decode cX12_highest 334 = .ok (.lstore 10, 2) := by decide +kernel
theorem dX12_highest_336 : decode cX12_highest 336 = .ok (.goto (-22), 3) := by decide +kernel
theorem dX12_highest_339 : decode cX12_highest 339 = .ok (.iload_n 2, 1) := by decide +kernel
theorem dX12_highest_340 : decode cX12_highest 340 = .ok (.ifCond .ne 8, 3) := by decide +kernel
theorem dX12_highest_343 : decode cX12_highest 343 = .ok (.lload 6, 2) := by decide +kernel
theorem dX12_highest_345 : decode cX12_highest 345 = .ok (.goto 5, 3) := by decide +kernel
theorem dX12_highest_348 : decode cX12_highest 348 = .ok (.lload 4, 2) := by decide +kernel
theorem dX12_highest_350 : decode cX12_highest 350 = .ok (.lload 8, 2) := by decide +kernel
theorem dX12_highest_352 : decode cX12_highest 352 = .ok (.ldiv, 1) := by decide +kernel
theorem dX12_highest_353 : decode cX12_highest 353 = .ok (.lreturn, 1) := by decide +kernel
theorem dX12_said_0 : decode cX12_said 0 = .ok (.aload_n 0, 1) := by decide +kernel
theorem dX12_said_1 : decode cX12_said 1 = .ok (.iload_n 1, 1) := by decide +kernel
theorem dX12_said_2 : decode cX12_said 2 = .ok (.invokevirtual 157, 3) := by decide +kernel
theorem dX12_said_5 : decode cX12_said 5 = .ok (.ifCond .ne 6, 3) := by decide +kernel
theorem dX12_said_8 : decode cX12_said 8 = .ok (.ldc 123, 2) := by decide +kernel
theorem dX12_said_10 : decode cX12_said 10 = .ok (.ireturn, 1) := by decide +kernel
theorem dX12_said_11 : decode cX12_said 11 = .ok (.aload_n 0, 1) := by decide +kernel
theorem dX12_said_12 : decode cX12_said 12 = .ok (.iload_n 1, 1) := by decide +kernel
theorem dX12_said_13 : decode cX12_said 13 = .ok (.invokevirtual 209, 3) := by decide +kernel
theorem dX12_said_16 : decode cX12_said 16 = .ok (.istore_n 2, 1) := by decide +kernel
theorem dX12_said_17 : decode cX12_said 17 = .ok (.iload_n 2, 1) := by decide +kernel
theorem dX12_said_18 : decode cX12_said 18 = .ok (.ifCond .eq 8, 3) := by decide +kernel
theorem dX12_said_21 : decode cX12_said 21 = .ok (.ldc 212, 2) := by decide +kernel
theorem dX12_said_23 : decode cX12_said 23 = .ok (.iload_n 2, 1) := by decide +kernel
theorem dX12_said_24 : decode cX12_said 24 = .ok (.iadd, 1) := by decide +kernel
theorem dX12_said_25 : decode cX12_said 25 = .ok (.ireturn, 1) := by decide +kernel
theorem dX12_said_26 : decode cX12_said 26 = .ok (.aload_n 0, 1) := by decide +kernel
theorem dX12_said_27 : decode cX12_said 27 = .ok (.getfield 200, 3) := by decide +kernel
theorem dX12_said_30 : decode cX12_said 30 = .ok (.aload_n 0, 1) := by decide +kernel
theorem dX12_said_31 : decode cX12_said 31 = .ok (.getfield 203, 3) := by decide +kernel
theorem dX12_said_34 : decode cX12_said 34 = .ok (.iadd, 1) := by decide +kernel
theorem dX12_said_35 : decode cX12_said 35 = .ok (.iconst 2, 1) := by decide +kernel
theorem dX12_said_36 : decode cX12_said 36 = .ok (.idiv, 1) := by decide +kernel
theorem dX12_said_37 : decode cX12_said 37 = .ok (.istore_n 3, 1) := by decide +kernel
theorem dX12_said_38 : decode cX12_said 38 = .ok (.iload_n 3, 1) := by decide +kernel
theorem dX12_said_39 : decode cX12_said 39 = .ok (.bipush 100, 2) := by decide +kernel
theorem dX12_said_41 : decode cX12_said 41 = .ok (.irem, 1) := by decide +kernel
theorem dX12_said_42 : decode cX12_said 42 = .ok (.ifCond .ne 9, 3) := by decide +kernel
theorem dX12_said_45 : decode cX12_said 45 = .ok (.iload_n 3, 1) := by decide +kernel
theorem dX12_said_46 : decode cX12_said 46 = .ok (.iconst 2, 1) := by decide +kernel
theorem dX12_said_47 : decode cX12_said 47 = .ok (.iadd, 1) := by decide +kernel
theorem dX12_said_48 : decode cX12_said 48 = .ok (.goto 4, 3) := by decide +kernel
theorem dX12_said_51 : decode cX12_said 51 = .ok (.iload_n 3, 1) := by decide +kernel
theorem dX12_said_52 : decode cX12_said 52 = .ok (.ireturn, 1) := by decide +kernel
theorem dX12_believed_0 : decode cX12_believed 0 = .ok (.aload_n 0, 1) := by decide +kernel
theorem dX12_believed_1 : decode cX12_believed 1 = .ok (.iload_n 1, 1) := by decide +kernel
theorem dX12_believed_2 : decode cX12_believed 2 = .ok (.invokevirtual 157, 3) := by decide +kernel
theorem dX12_believed_5 : decode cX12_believed 5 = .ok (.ifCond .ne 5, 3) := by decide +kernel
theorem dX12_believed_8 : decode cX12_believed 8 = .ok (.iconst (-1), 1) := by decide +kernel
theorem dX12_believed_9 : decode cX12_believed 9 = .ok (.ireturn, 1) := by decide +kernel
theorem dX12_believed_10 : decode cX12_believed 10 = .ok (.aload_n 0, 1) := by decide +kernel
theorem dX12_believed_11 : decode cX12_believed 11 = .ok (.iload_n 1, 1) := by decide +kernel
theorem dX12_believed_12 : decode cX12_believed 12 = .ok (.invokevirtual 209, 3) := by decide +kernel
theorem dX12_believed_15 : decode cX12_believed 15 = .ok (.ifCond .ne 29, 3) := by decide +kernel
theorem dX12_believed_18 : decode cX12_believed 18 = .ok (.iload_n 2, 1) := by decide +kernel
theorem dX12_believed_19 : decode cX12_believed 19 = .ok (.aload_n 0, 1) := by decide +kernel
theorem dX12_believed_20 : decode cX12_believed 20 = .ok (.getfield 200, 3) := by decide +kernel
theorem dX12_believed_23 : decode cX12_believed 23 = .ok (.aload_n 0, 1) := by decide +kernel
theorem dX12_believed_24 : decode cX12_believed 24 = .ok (.getfield 203, 3) := by decide +kernel
theorem dX12_believed_27 : decode cX12_believed 27 = .ok (.invokestatic 106, 3) := by decide +kernel
theorem dX12_believed_30 : decode cX12_believed 30 = .ok (.ifCond .eq 14, 3) := by decide +kernel
theorem dX12_believed_33 : decode cX12_believed 33 = .ok (.iload_n 2, 1) := by decide +kernel
theorem dX12_believed_34 : decode cX12_believed 34 = .ok (.bipush 100, 2) := by decide +kernel
theorem dX12_believed_36 : decode cX12_believed 36 = .ok (.irem, 1) := by decide +kernel
theorem dX12_believed_37 : decode cX12_believed 37 = .ok (.ifCond .eq 7, 3) := by decide +kernel
theorem dX12_believed_40 : decode cX12_believed 40 = .ok (.iconst 1, 1) := by decide +kernel
theorem dX12_believed_41 : decode cX12_believed 41 = .ok (.goto 4, 3) := by decide +kernel
theorem dX12_believed_44 : decode cX12_believed 44 = .ok (.iconst 0, 1) := by decide +kernel
theorem dX12_believed_45 : decode cX12_believed 45 = .ok (.ireturn, 1) := by decide +kernel
theorem dX12_feed_0 : decode cX12_feed 0 = .ok (.iload_n 3, 1) := by decide +kernel
theorem dX12_feed_1 : decode cX12_feed 1 = .ok (.iconst 1, 1) := by decide +kernel
theorem dX12_feed_2 : decode cX12_feed 2 = .ok (.bipush 8, 2) := by decide +kernel
theorem dX12_feed_4 : decode cX12_feed 4 = .ok (.invokestatic 106, 3) := by decide +kernel
theorem dX12_feed_7 : decode cX12_feed 7 = .ok (.ifCond .ne 5, 3) := by decide +kernel
theorem dX12_feed_10 : decode cX12_feed 10 = .ok (.iconst (-1), 1) := by decide +kernel
theorem dX12_feed_11 : decode cX12_feed 11 = .ok (.ireturn, 1) := by decide +kernel
theorem dX12_feed_12 : decode cX12_feed 12 = .ok (.aload_n 0, 1) := by decide +kernel
theorem dX12_feed_13 : decode cX12_feed 13 = .ok (.getfield 223, 3) := by decide +kernel
theorem dX12_feed_16 : decode cX12_feed 16 = .ok (.iload_n 3, 1) := by decide +kernel
theorem dX12_feed_17 : decode cX12_feed 17 = .ok (.iadd, 1) := by decide +kernel
theorem dX12_feed_18 : decode cX12_feed 18 = .ok (.sipush 200, 3) := by decide +kernel
theorem dX12_feed_21 : decode cX12_feed 21 = .ok (.if_icmp .le 6, 3) := by decide +kernel
theorem dX12_feed_24 : decode cX12_feed 24 = .ok (.bipush (-2), 2) := by decide +kernel
theorem dX12_feed_26 : decode cX12_feed 26 = .ok (.ireturn, 1) := by decide +kernel
theorem dX12_feed_27 : decode cX12_feed 27 = .ok (.iconst 0, 1) := by decide +kernel
theorem dX12_feed_28 : decode cX12_feed 28 = .ok (.istore 4, 2) := by decide +kernel
theorem dX12_feed_30 : decode cX12_feed 30 = .ok (.iload 4, 2) := by decide +kernel
theorem dX12_feed_32 : decode cX12_feed 32 = .ok (.iload_n 3, 1) := by decide +kernel
theorem dX12_feed_33 : decode cX12_feed 33 = .ok (.if_icmp .ge 40, 3) := by decide +kernel
theorem dX12_feed_36 : decode cX12_feed 36 = .ok (.aload_n 0, 1) := by decide +kernel
theorem dX12_feed_37 : decode cX12_feed 37 = .ok (.getfield 50, 3) := by decide +kernel
theorem dX12_feed_40 : decode cX12_feed 40 = .ok (.aload_n 0, 1) := by decide +kernel
theorem dX12_feed_41 : decode cX12_feed 41 = .ok (.getfield 223, 3) := by decide +kernel
theorem dX12_feed_44 : decode cX12_feed 44 = .ok (.lload_n 1, 1) := by decide +kernel
theorem dX12_feed_45 : decode cX12_feed 45 = .ok (.bipush 8, 2) := by decide +kernel
theorem dX12_feed_47 : decode cX12_feed 47 = .ok (.iload 4, 2) := by decide +kernel
theorem dX12_feed_49 : decode cX12_feed 49 = .ok (.imul, 1) := by decide +kernel
theorem dX12_feed_50 : decode cX12_feed 50 = .ok (.lushr, 1) := by decide +kernel
theorem dX12_feed_51 : decode cX12_feed 51 = .ok (.ldc2_w 226, 3) := by decide +kernel
theorem dX12_feed_54 : decode cX12_feed 54 = .ok (.land, 1) := by decide +kernel
theorem dX12_feed_55 : decode cX12_feed 55 = .ok (.l2i, 1) := by decide +kernel
theorem dX12_feed_56 : decode cX12_feed 56 = .ok (.iastore, 1) := by decide +kernel
theorem dX12_feed_57 : decode cX12_feed 57 = .ok (.aload_n 0, 1) := by decide +kernel
theorem dX12_feed_58 : decode cX12_feed 58 = .ok (.dup, 1) := by decide +kernel
theorem dX12_feed_59 : decode cX12_feed 59 = .ok (.getfield 223, 3) := by decide +kernel
theorem dX12_feed_62 : decode cX12_feed 62 = .ok (.iconst 1, 1) := by decide +kernel
theorem dX12_feed_63 : decode cX12_feed 63 = .ok (.iadd, 1) := by decide +kernel
theorem dX12_feed_64 : decode cX12_feed 64 = .ok (.putfield 223, 3) := by decide +kernel
theorem dX12_feed_67 : decode cX12_feed 67 = .ok (.iinc 4 1, 3) := by decide +kernel
theorem dX12_feed_70 : decode cX12_feed 70 = .ok (.goto (-40), 3) := by decide +kernel
theorem dX12_feed_73 : decode cX12_feed 73 = .ok (.aload_n 0, 1) := by decide +kernel
theorem dX12_feed_74 : decode cX12_feed 74 = .ok (.getfield 223, 3) := by decide +kernel
theorem dX12_feed_77 : decode cX12_feed 77 = .ok (.ireturn, 1) := by decide +kernel
theorem dX12_isLetter_0 : decode cX12_isLetter 0 = .ok (.iload_n 0, 1) := by decide +kernel
theorem dX12_isLetter_1 : decode cX12_isLetter 1 = .ok (.bipush 97, 2) := by decide +kernel
theorem dX12_isLetter_3 : decode cX12_isLetter 3 = .ok (.if_icmp .lt 13, 3) := by decide +kernel
theorem dX12_isLetter_6 : decode cX12_isLetter 6 = .ok (.iload_n 0, 1) := by decide +kernel
theorem dX12_isLetter_7 : decode cX12_isLetter 7 = .ok (.bipush 122, 2) := by decide +kernel
theorem dX12_isLetter_9 : decode cX12_isLetter 9 = .ok (.if_icmp .gt 7, 3) := by decide +kernel
theorem dX12_isLetter_12 : decode cX12_isLetter 12 = .ok (.iconst 1, 1) := by decide +kernel
theorem dX12_isLetter_13 : decode cX12_isLetter 13 = .ok (.goto 4, 3) := by decide +kernel
theorem dX12_isLetter_16 : decode cX12_isLetter 16 = .ok (.iconst 0, 1) := by decide +kernel
theorem dX12_isLetter_17 : decode cX12_isLetter 17 = .ok (.ireturn, 1) := by decide +kernel
theorem dX12_isDigit_0 : decode cX12_isDigit 0 = .ok (.iload_n 0, 1) := by decide +kernel
theorem dX12_isDigit_1 : decode cX12_isDigit 1 = .ok (.bipush 48, 2) := by decide +kernel
theorem dX12_isDigit_3 : decode cX12_isDigit 3 = .ok (.if_icmp .lt 13, 3) := by decide +kernel
theorem dX12_isDigit_6 : decode cX12_isDigit 6 = .ok (.iload_n 0, 1) := by decide +kernel
theorem dX12_isDigit_7 : decode cX12_isDigit 7 = .ok (.bipush 57, 2) := by decide +kernel
theorem dX12_isDigit_9 : decode cX12_isDigit 9 = .ok (.if_icmp .gt 7, 3) := by decide +kernel
theorem dX12_isDigit_12 : decode cX12_isDigit 12 = .ok (.iconst 1, 1) := by decide +kernel
theorem dX12_isDigit_13 : decode cX12_isDigit 13 = .ok (.goto 4, 3) := by decide +kernel
theorem dX12_isDigit_16 : decode cX12_isDigit 16 = .ok (.iconst 0, 1) := by decide +kernel
theorem dX12_isDigit_17 : decode cX12_isDigit 17 = .ok (.ireturn, 1) := by decide +kernel
theorem dX12_advance_0 : decode cX12_advance 0 = .ok (.aload_n 0, 1) := by decide +kernel
theorem dX12_advance_1 : decode cX12_advance 1 = .ok (.getfield 228, 3) := by decide +kernel
theorem dX12_advance_4 : decode cX12_advance 4 = .ok (.istore_n 1, 1) := by decide +kernel
theorem dX12_advance_5 : decode cX12_advance 5 = .ok (.iload_n 1, 1) := by decide +kernel
theorem dX12_advance_6 : decode cX12_advance 6 = .ok (.aload_n 0, 1) := by decide +kernel
theorem dX12_advance_7 : decode cX12_advance 7 = .ok (.getfield 223, 3) := by decide +kernel
theorem dX12_advance_10 : decode cX12_advance 10 = .ok (.if_icmp .ge 20, 3) := by decide +kernel
theorem dX12_advance_13 : decode cX12_advance 13 = .ok (.aload_n 0, 1) := by decide +kernel
theorem dX12_advance_14 : decode cX12_advance 14 = .ok (.getfield 50, 3) := by decide +kernel
theorem dX12_advance_17 : decode cX12_advance 17 = .ok (.iload_n 1, 1) := by decide +kernel
theorem dX12_advance_18 : decode cX12_advance 18 = .ok (.iaload, 1) := by decide +kernel
theorem dX12_advance_19 : decode cX12_advance 19 = .ok (.bipush 32, 2) := by decide +kernel
theorem dX12_advance_21 : decode cX12_advance 21 = .ok (.if_icmp .ne 9, 3) := by decide +kernel
theorem dX12_advance_24 : decode cX12_advance 24 = .ok (.iinc 1 1, 3) := by decide +kernel
theorem dX12_advance_27 : decode cX12_advance 27 = .ok (.goto (-22), 3) := by decide +kernel
theorem dX12_advance_30 : decode cX12_advance 30 = .ok (.aload_n 0, 1) := by decide +kernel
theorem dX12_advance_31 : decode cX12_advance 31 = .ok (.iload_n 1, 1) := by decide +kernel
theorem dX12_advance_32 : decode cX12_advance 32 = .ok (.putfield 231, 3) := by decide +kernel
theorem dX12_advance_35 : decode cX12_advance 35 = .ok (.aload_n 0, 1) := by decide +kernel
theorem dX12_advance_36 : decode cX12_advance 36 = .ok (.lconst 0, 1) := by decide +kernel
theorem dX12_advance_37 : decode cX12_advance 37 = .ok (.putfield 234, 3) := by decide +kernel
theorem dX12_advance_40 : decode cX12_advance 40 = .ok (.iload_n 1, 1) := by decide +kernel
theorem dX12_advance_41 : decode cX12_advance 41 = .ok (.aload_n 0, 1) := by decide +kernel
theorem dX12_advance_42 : decode cX12_advance 42 = .ok (.getfield 223, 3) := by decide +kernel
theorem dX12_advance_45 : decode cX12_advance 45 = .ok (.if_icmp .ne 11, 3) := by decide +kernel
theorem dX12_advance_48 : decode cX12_advance 48 = .ok (.aload_n 0, 1) := by decide +kernel
theorem dX12_advance_49 : decode cX12_advance 49 = .ok (.iconst 0, 1) := by decide +kernel
theorem dX12_advance_50 : decode cX12_advance 50 = .ok (.putfield 238, 3) := by decide +kernel
theorem dX12_advance_53 : decode cX12_advance 53 = .ok (.goto 214, 3) := by decide +kernel
theorem dX12_advance_56 : decode cX12_advance 56 = .ok (.aload_n 0, 1) := by decide +kernel
theorem dX12_advance_57 : decode cX12_advance 57 = .ok (.getfield 50, 3) := by decide +kernel
theorem dX12_advance_60 : decode cX12_advance 60 = .ok (.iload_n 1, 1) := by decide +kernel
theorem dX12_advance_61 : decode cX12_advance 61 = .ok (.iaload, 1) := by decide +kernel
theorem dX12_advance_62 : decode cX12_advance 62 = .ok (.invokestatic 241, 3) := by decide +kernel
theorem dX12_advance_65 : decode cX12_advance 65 = .ok (.ifCond .eq 99, 3) := by decide +kernel
theorem dX12_advance_68 : decode cX12_advance 68 = .ok (.aload_n 0, 1) := by decide +kernel
theorem dX12_advance_69 : decode cX12_advance 69 = .ok (.iconst 1, 1) := by decide +kernel
theorem dX12_advance_70 : decode cX12_advance 70 = .ok (.putfield 238, 3) := by decide +kernel
theorem dX12_advance_73 : decode cX12_advance 73 = .ok (.iload_n 1, 1) := by decide +kernel
theorem dX12_advance_74 : decode cX12_advance 74 = .ok (.aload_n 0, 1) := by decide +kernel
theorem dX12_advance_75 : decode cX12_advance 75 = .ok (.getfield 223, 3) := by decide +kernel
theorem dX12_advance_78 : decode cX12_advance 78 = .ok (.if_icmp .ge 60, 3) := by decide +kernel
theorem dX12_advance_81 : decode cX12_advance 81 = .ok (.aload_n 0, 1) := by decide +kernel
theorem dX12_advance_82 : decode cX12_advance 82 = .ok (.getfield 50, 3) := by decide +kernel
theorem dX12_advance_85 : decode cX12_advance 85 = .ok (.iload_n 1, 1) := by decide +kernel
theorem dX12_advance_86 : decode cX12_advance 86 = .ok (.iaload, 1) := by decide +kernel
theorem dX12_advance_87 : decode cX12_advance 87 = .ok (.invokestatic 241, 3) := by decide +kernel
theorem dX12_advance_90 : decode cX12_advance 90 = .ok (.ifCond .eq 48, 3) := by decide +kernel
theorem dX12_advance_93 : decode cX12_advance 93 = .ok (.aload_n 0, 1) := by decide +kernel
theorem dX12_advance_94 : decode cX12_advance 94 = .ok (.iload_n 1, 1) := by decide +kernel
theorem dX12_advance_95 : decode cX12_advance 95 = .ok (.aload_n 0, 1) := by decide +kernel
theorem dX12_advance_96 : decode cX12_advance 96 = .ok (.getfield 231, 3) := by decide +kernel
theorem dX12_advance_99 : decode cX12_advance 99 = .ok (.isub, 1) := by decide +kernel
theorem dX12_advance_100 : decode cX12_advance 100 = .ok (.bipush 8, 2) := by decide +kernel
theorem dX12_advance_102 : decode cX12_advance 102 = .ok (.if_icmp .ge 26, 3) := by decide +kernel
theorem dX12_advance_105 : decode cX12_advance 105 = .ok (.ldc2_w 244, 3) := by decide +kernel
theorem dX12_advance_108 : decode cX12_advance 108 = .ok (.aload_n 0, 1) := by decide +kernel
theorem dX12_advance_109 : decode cX12_advance 109 = .ok (.getfield 234, 3) := by decide +kernel
theorem dX12_advance_112 : decode cX12_advance 112 = .ok (.lmul, 1) := by decide +kernel
theorem dX12_advance_113 : decode cX12_advance 113 = .ok (.aload_n 0, 1) := by decide +kernel
theorem dX12_advance_114 : decode cX12_advance 114 = .ok (.getfield 50, 3) := by decide +kernel
theorem dX12_advance_117 : decode cX12_advance 117 = .ok (.iload_n 1, 1) := by decide +kernel
theorem dX12_advance_118 : decode cX12_advance 118 = .ok (.iaload, 1) := by decide +kernel
theorem dX12_advance_119 : decode cX12_advance 119 = .ok (.i2l, 1) := by decide +kernel
theorem dX12_advance_120 : decode cX12_advance 120 = .ok (.ladd, 1) := by decide +kernel
theorem dX12_advance_121 : decode cX12_advance 121 = .ok (.ldc2_w 246, 3) := by decide +kernel
theorem dX12_advance_124 : decode cX12_advance 124 = .ok (.lsub, 1) := by decide +kernel
theorem dX12_advance_125 : decode cX12_advance 125 = .ok (.goto 4, 3) := by decide +kernel
theorem dX12_advance_128 : decode cX12_advance 128 = .ok (.lconst 0, 1) := by decide +kernel
theorem dX12_advance_129 : decode cX12_advance 129 = .ok (.putfield 234, 3) := by decide +kernel
theorem dX12_advance_132 : decode cX12_advance 132 = .ok (.iinc 1 1, 3) := by decide +kernel
theorem dX12_advance_135 : decode cX12_advance 135 = .ok (.goto (-62), 3) := by decide +kernel
theorem dX12_advance_138 : decode cX12_advance 138 = .ok (.aload_n 0, 1) := by decide +kernel
theorem dX12_advance_139 : decode cX12_advance 139 = .ok (.iload_n 1, 1) := by decide +kernel
theorem dX12_advance_140 : decode cX12_advance 140 = .ok (.aload_n 0, 1) := by decide +kernel
theorem dX12_advance_141 : decode cX12_advance 141 = .ok (.getfield 231, 3) := by decide +kernel
theorem dX12_advance_144 : decode cX12_advance 144 = .ok (.isub, 1) := by decide +kernel
theorem dX12_advance_145 : decode cX12_advance 145 = .ok (.bipush 8, 2) := by decide +kernel
theorem dX12_advance_147 : decode cX12_advance 147 = .ok (.if_icmp .le 7, 3) := by decide +kernel
theorem dX12_advance_150 : decode cX12_advance 150 = .ok (.lconst 0, 1) := by decide +kernel
theorem dX12_advance_151 : decode cX12_advance 151 = .ok (.goto 7, 3) := by decide +kernel
theorem dX12_advance_154 : decode cX12_advance 154 = .ok (.aload_n 0, 1) := by decide +kernel
theorem dX12_advance_155 : decode cX12_advance 155 = .ok (.getfield 234, 3) := by decide +kernel
theorem dX12_advance_158 : decode cX12_advance 158 = .ok (.putfield 234, 3) := by decide +kernel
theorem dX12_advance_161 : decode cX12_advance 161 = .ok (.goto 106, 3) := by decide +kernel
theorem dX12_advance_164 : decode cX12_advance 164 = .ok (.aload_n 0, 1) := by decide +kernel
theorem dX12_advance_165 : decode cX12_advance 165 = .ok (.getfield 50, 3) := by decide +kernel
theorem dX12_advance_168 : decode cX12_advance 168 = .ok (.iload_n 1, 1) := by decide +kernel
theorem dX12_advance_169 : decode cX12_advance 169 = .ok (.iaload, 1) := by decide +kernel
theorem dX12_advance_170 : decode cX12_advance 170 = .ok (.invokestatic 248, 3) := by decide +kernel
theorem dX12_advance_173 : decode cX12_advance 173 = .ok (.ifCond .eq 75, 3) := by decide +kernel
theorem dX12_advance_176 : decode cX12_advance 176 = .ok (.aload_n 0, 1) := by decide +kernel
theorem dX12_advance_177 : decode cX12_advance 177 = .ok (.iconst 2, 1) := by decide +kernel
theorem dX12_advance_178 : decode cX12_advance 178 = .ok (.putfield 238, 3) := by decide +kernel
theorem dX12_advance_181 : decode cX12_advance 181 = .ok (.iload_n 1, 1) := by decide +kernel
theorem dX12_advance_182 : decode cX12_advance 182 = .ok (.aload_n 0, 1) := by decide +kernel
theorem dX12_advance_183 : decode cX12_advance 183 = .ok (.getfield 223, 3) := by decide +kernel
theorem dX12_advance_186 : decode cX12_advance 186 = .ok (.if_icmp .ge 81, 3) := by decide +kernel
theorem dX12_advance_189 : decode cX12_advance 189 = .ok (.aload_n 0, 1) := by decide +kernel
theorem dX12_advance_190 : decode cX12_advance 190 = .ok (.getfield 50, 3) := by decide +kernel
theorem dX12_advance_193 : decode cX12_advance 193 = .ok (.iload_n 1, 1) := by decide +kernel
theorem dX12_advance_194 : decode cX12_advance 194 = .ok (.iaload, 1) := by decide +kernel
theorem dX12_advance_195 : decode cX12_advance 195 = .ok (.invokestatic 248, 3) := by decide +kernel
theorem dX12_advance_198 : decode cX12_advance 198 = .ok (.ifCond .eq 69, 3) := by decide +kernel
theorem dX12_advance_201 : decode cX12_advance 201 = .ok (.aload_n 0, 1) := by decide +kernel
theorem dX12_advance_202 : decode cX12_advance 202 = .ok (.iload_n 1, 1) := by decide +kernel
theorem dX12_advance_203 : decode cX12_advance 203 = .ok (.aload_n 0, 1) := by decide +kernel
theorem dX12_advance_204 : decode cX12_advance 204 = .ok (.getfield 231, 3) := by decide +kernel
theorem dX12_advance_207 : decode cX12_advance 207 = .ok (.isub, 1) := by decide +kernel
theorem dX12_advance_208 : decode cX12_advance 208 = .ok (.iconst 3, 1) := by decide +kernel
theorem dX12_advance_209 : decode cX12_advance 209 = .ok (.if_icmp .ge 26, 3) := by decide +kernel
theorem dX12_advance_212 : decode cX12_advance 212 = .ok (.ldc2_w 251, 3) := by decide +kernel
theorem dX12_advance_215 : decode cX12_advance 215 = .ok (.aload_n 0, 1) := by decide +kernel
theorem dX12_advance_216 : decode cX12_advance 216 = .ok (.getfield 234, 3) := by decide +kernel
theorem dX12_advance_219 : decode cX12_advance 219 = .ok (.lmul, 1) := by decide +kernel
theorem dX12_advance_220 : decode cX12_advance 220 = .ok (.aload_n 0, 1) := by decide +kernel
theorem dX12_advance_221 : decode cX12_advance 221 = .ok (.getfield 50, 3) := by decide +kernel
theorem dX12_advance_224 : decode cX12_advance 224 = .ok (.iload_n 1, 1) := by decide +kernel
theorem dX12_advance_225 : decode cX12_advance 225 = .ok (.iaload, 1) := by decide +kernel
theorem dX12_advance_226 : decode cX12_advance 226 = .ok (.i2l, 1) := by decide +kernel
theorem dX12_advance_227 : decode cX12_advance 227 = .ok (.ladd, 1) := by decide +kernel
theorem dX12_advance_228 : decode cX12_advance 228 = .ok (.ldc2_w 253, 3) := by decide +kernel
theorem dX12_advance_231 : decode cX12_advance 231 = .ok (.lsub, 1) := by decide +kernel
theorem dX12_advance_232 : decode cX12_advance 232 = .ok (.goto 7, 3) := by decide +kernel
theorem dX12_advance_235 : decode cX12_advance 235 = .ok (.aload_n 0, 1) := by decide +kernel
theorem dX12_advance_236 : decode cX12_advance 236 = .ok (.getfield 234, 3) := by decide +kernel
theorem dX12_advance_239 : decode cX12_advance 239 = .ok (.putfield 234, 3) := by decide +kernel
theorem dX12_advance_242 : decode cX12_advance 242 = .ok (.iinc 1 1, 3) := by decide +kernel
theorem dX12_advance_245 : decode cX12_advance 245 = .ok (.goto (-64), 3) := by decide +kernel
theorem dX12_advance_248 : decode cX12_advance 248 = .ok (.aload_n 0, 1) := by decide +kernel
theorem dX12_advance_249 : decode cX12_advance 249 = .ok (.iconst 3, 1) := by decide +kernel
theorem dX12_advance_250 : decode cX12_advance 250 = .ok (.putfield 238, 3) := by decide +kernel
theorem dX12_advance_253 : decode cX12_advance 253 = .ok (.aload_n 0, 1) := by decide +kernel
theorem dX12_advance_254 : decode cX12_advance 254 = .ok (.aload_n 0, 1) := by decide +kernel
theorem dX12_advance_255 : decode cX12_advance 255 = .ok (.getfield 50, 3) := by decide +kernel
theorem dX12_advance_258 : decode cX12_advance 258 = .ok (.iload_n 1, 1) := by decide +kernel
theorem dX12_advance_259 : decode cX12_advance 259 = .ok (.iaload, 1) := by decide +kernel
theorem dX12_advance_260 : decode cX12_advance 260 = .ok (.i2l, 1) := by decide +kernel
theorem dX12_advance_261 : decode cX12_advance 261 = .ok (.putfield 234, 3) := by decide +kernel
theorem dX12_advance_264 : decode cX12_advance 264 = .ok (.iinc 1 1, 3) := by decide +kernel
theorem dX12_advance_267 : decode cX12_advance 267 = .ok (.aload_n 0, 1) := by decide +kernel
theorem dX12_advance_268 : decode cX12_advance 268 = .ok (.iload_n 1, 1) := by decide +kernel
theorem dX12_advance_269 : decode cX12_advance 269 = .ok (.putfield 228, 3) := by decide +kernel
theorem dX12_advance_272 : decode cX12_advance 272 = .ok (.return_, 1) := by decide +kernel
theorem dX12_isGood_0 : decode cX12_isGood 0 = .ok (.aload_n 0, 1) := by decide +kernel
theorem dX12_isGood_1 : decode cX12_isGood 1 = .ok (.getfield 255, 3) := by decide +kernel
theorem dX12_isGood_4 : decode cX12_isGood 4 = .ok (.ifCond .ge 7, 3) := by decide +kernel
theorem dX12_isGood_7 : decode cX12_isGood 7 = .ok (.iconst 1, 1) := by decide +kernel
theorem dX12_isGood_8 : decode cX12_isGood 8 = .ok (.goto 4, 3) := by decide +kernel
theorem dX12_isGood_11 : decode cX12_isGood 11 = .ok (.iconst 0, 1) := by decide +kernel
theorem dX12_isGood_12 : decode cX12_isGood 12 = .ok (.ireturn, 1) := by decide +kernel
theorem dX12_faulty_0 : decode cX12_faulty 0 = .ok (.aload_n 0, 1) := by decide +kernel
theorem dX12_faulty_1 : decode cX12_faulty 1 = .ok (.aload_n 0, 1) := by decide +kernel
theorem dX12_faulty_2 : decode cX12_faulty 2 = .ok (.getfield 255, 3) := by decide +kernel
theorem dX12_faulty_5 : decode cX12_faulty 5 = .ok (.ifCond .ge 10, 3) := by decide +kernel
theorem dX12_faulty_8 : decode cX12_faulty 8 = .ok (.aload_n 0, 1) := by decide +kernel
theorem dX12_faulty_9 : decode cX12_faulty 9 = .ok (.getfield 231, 3) := by decide +kernel
theorem dX12_faulty_12 : decode cX12_faulty 12 = .ok (.goto 7, 3) := by decide +kernel
theorem dX12_faulty_15 : decode cX12_faulty 15 = .ok (.aload_n 0, 1) := by decide +kernel
theorem dX12_faulty_16 : decode cX12_faulty 16 = .ok (.getfield 255, 3) := by decide +kernel
theorem dX12_faulty_19 : decode cX12_faulty 19 = .ok (.putfield 255, 3) := by decide +kernel
theorem dX12_faulty_22 : decode cX12_faulty 22 = .ok (.return_, 1) := by decide +kernel
theorem dX12_isWord_0 : decode cX12_isWord 0 = .ok (.aload_n 0, 1) := by decide +kernel
theorem dX12_isWord_1 : decode cX12_isWord 1 = .ok (.getfield 238, 3) := by decide +kernel
theorem dX12_isWord_4 : decode cX12_isWord 4 = .ok (.iconst 1, 1) := by decide +kernel
theorem dX12_isWord_5 : decode cX12_isWord 5 = .ok (.if_icmp .ne 16, 3) := by decide +kernel
theorem dX12_isWord_8 : decode cX12_isWord 8 = .ok (.aload_n 0, 1) := by decide +kernel
theorem dX12_isWord_9 : decode cX12_isWord 9 = .ok (.getfield 234, 3) := by decide +kernel
theorem dX12_isWord_12 : decode cX12_isWord 12 = .ok (.lload_n 1, 1) := by decide +kernel
theorem dX12_isWord_13 : decode cX12_isWord 13 = .ok (.lcmp, 1) := by decide +kernel
theorem dX12_isWord_14 : decode cX12_isWord 14 = .ok (.ifCond .ne 7, 3) := by decide +kernel
theorem dX12_isWord_17 : decode cX12_isWord 17 = .ok (.iconst 1, 1) := by decide +kernel
theorem dX12_isWord_18 : decode cX12_isWord 18 = .ok (.goto 4, 3) := by decide +kernel
theorem dX12_isWord_21 : decode cX12_isWord 21 = .ok (.iconst 0, 1) := by decide +kernel
theorem dX12_isWord_22 : decode cX12_isWord 22 = .ok (.ireturn, 1) := by decide +kernel
theorem dX12_isMark_0 : decode cX12_isMark 0 = .ok (.aload_n 0, 1) := by decide +kernel
theorem dX12_isMark_1 : decode cX12_isMark 1 = .ok (.getfield 238, 3) := by decide +kernel
theorem dX12_isMark_4 : decode cX12_isMark 4 = .ok (.iconst 3, 1) := by decide +kernel
theorem dX12_isMark_5 : decode cX12_isMark 5 = .ok (.if_icmp .ne 17, 3) := by decide +kernel
theorem dX12_isMark_8 : decode cX12_isMark 8 = .ok (.aload_n 0, 1) := by decide +kernel
theorem dX12_isMark_9 : decode cX12_isMark 9 = .ok (.getfield 234, 3) := by decide +kernel
theorem dX12_isMark_12 : decode cX12_isMark 12 = .ok (.iload_n 1, 1) := by decide +kernel
theorem dX12_isMark_13 : decode cX12_isMark 13 = .ok (.i2l, 1) := by decide +kernel
theorem dX12_isMark_14 : decode cX12_isMark 14 = .ok (.lcmp, 1) := by decide +kernel
theorem dX12_isMark_15 : decode cX12_isMark 15 = .ok (.ifCond .ne 7, 3) := by decide +kernel
theorem dX12_isMark_18 : decode cX12_isMark 18 = .ok (.iconst 1, 1) := by decide +kernel
theorem dX12_isMark_19 : decode cX12_isMark 19 = .ok (.goto 4, 3) := by decide +kernel
theorem dX12_isMark_22 : decode cX12_isMark 22 = .ok (.iconst 0, 1) := by decide +kernel
theorem dX12_isMark_23 : decode cX12_isMark 23 = .ok (.ireturn, 1) := by decide +kernel
theorem dX12_want_0 : decode cX12_want 0 = .ok (.aload_n 0, 1) := by decide +kernel
theorem dX12_want_1 : decode cX12_want 1 = .ok (.invokevirtual 258, 3) := by decide +kernel
theorem dX12_want_4 : decode cX12_want 4 = .ok (.ifCond .eq 18, 3) := by decide +kernel
theorem dX12_want_7 : decode cX12_want 7 = .ok (.iload_n 1, 1) := by decide +kernel
theorem dX12_want_8 : decode cX12_want 8 = .ok (.ifCond .eq 10, 3) := by decide +kernel
theorem dX12_want_11 : decode cX12_want 11 = .ok (.aload_n 0, 1) := by decide +kernel
theorem dX12_want_12 : decode cX12_want 12 = .ok (.invokevirtual 262, 3) := by decide +kernel
theorem dX12_want_15 : decode cX12_want 15 = .ok (.goto 7, 3) := by decide +kernel
theorem dX12_want_18 : decode cX12_want 18 = .ok (.aload_n 0, 1) := by decide +kernel
theorem dX12_want_19 : decode cX12_want 19 = .ok (.invokevirtual 265, 3) := by decide +kernel
theorem dX12_want_22 : decode cX12_want 22 = .ok (.return_, 1) := by decide +kernel
theorem dX12_wantNumber_0 : decode cX12_wantNumber 0 = .ok (.aload_n 0, 1) := by decide +kernel
theorem dX12_wantNumber_1 : decode cX12_wantNumber 1 = .ok (.getfield 234, 3) := by decide +kernel
theorem dX12_wantNumber_4 : decode cX12_wantNumber 4 = .ok (.l2i, 1) := by decide +kernel
theorem dX12_wantNumber_5 : decode cX12_wantNumber 5 = .ok (.istore_n 2, 1) := by decide +kernel
theorem dX12_wantNumber_6 : decode cX12_wantNumber 6 = .ok (.aload_n 0, 1) := by decide +kernel
theorem dX12_wantNumber_7 : decode cX12_wantNumber 7 = .ok (.aload_n 0, 1) := by decide +kernel
theorem dX12_wantNumber_8 : decode cX12_wantNumber 8 = .ok (.getfield 238, 3) := by decide +kernel
theorem dX12_wantNumber_11 : decode cX12_wantNumber 11 = .ok (.iconst 2, 1) := by decide +kernel
theorem dX12_wantNumber_12 : decode cX12_wantNumber 12 = .ok (.if_icmp .ne 25, 3) := by decide +kernel
theorem dX12_wantNumber_15 : decode cX12_wantNumber 15 = .ok (.aload_n 0, 1) := by decide +kernel
theorem dX12_wantNumber_16 : decode cX12_wantNumber 16 = .ok (.getfield 228, 3) := by decide +kernel
theorem dX12_wantNumber_19 : decode cX12_wantNumber 19 = .ok (.aload_n 0, 1) := by decide +kernel
theorem dX12_wantNumber_20 : decode cX12_wantNumber 20 = .ok (.getfield 231, 3) := by decide +kernel
theorem dX12_wantNumber_23 : decode cX12_wantNumber 23 = .ok (.isub, 1) := by decide +kernel
theorem dX12_wantNumber_24 : decode cX12_wantNumber 24 = .ok (.iconst 3, 1) := by decide +kernel
theorem dX12_wantNumber_25 : decode cX12_wantNumber 25 = .ok (.if_icmp .gt 12, 3) := by decide +kernel
theorem dX12_wantNumber_28 : decode cX12_wantNumber 28 = .ok (.iload_n 2, 1) := by decide +kernel
theorem dX12_wantNumber_29 : decode cX12_wantNumber 29 = .ok (.iload_n 1, 1) := by decide +kernel
theorem dX12_wantNumber_30 : decode cX12_wantNumber 30 = .ok (.if_icmp .gt 7, 3) := by decide +kernel
theorem dX12_wantNumber_33 : decode cX12_wantNumber 33 = .ok (.iconst 1, 1) := by decide +kernel
theorem dX12_wantNumber_34 : decode cX12_wantNumber 34 = .ok (.goto 4, 3) := by decide +kernel
theorem dX12_wantNumber_37 : decode cX12_wantNumber 37 = .ok (.iconst 0, 1) := by decide +kernel
theorem dX12_wantNumber_38 : decode cX12_wantNumber 38 = .ok (.invokevirtual 268, 3) := by decide +kernel
theorem dX12_wantNumber_41 : decode cX12_wantNumber 41 = .ok (.iload_n 2, 1) := by decide +kernel
theorem dX12_wantNumber_42 : decode cX12_wantNumber 42 = .ok (.ireturn, 1) := by decide +kernel
theorem dX12_emit_0 : decode cX12_emit 0 = .ok (.aload_n 0, 1) := by decide +kernel
theorem dX12_emit_1 : decode cX12_emit 1 = .ok (.getfield 53, 3) := by decide +kernel
theorem dX12_emit_4 : decode cX12_emit 4 = .ok (.aload_n 0, 1) := by decide +kernel
theorem dX12_emit_5 : decode cX12_emit 5 = .ok (.getfield 272, 3) := by decide +kernel
theorem dX12_emit_8 : decode cX12_emit 8 = .ok (.iload_n 1, 1) := by decide +kernel
theorem dX12_emit_9 : decode cX12_emit 9 = .ok (.iastore, 1) := by decide +kernel
theorem dX12_emit_10 : decode cX12_emit 10 = .ok (.aload_n 0, 1) := by decide +kernel
theorem dX12_emit_11 : decode cX12_emit 11 = .ok (.dup, 1) := by decide +kernel
theorem dX12_emit_12 : decode cX12_emit 12 = .ok (.getfield 272, 3) := by decide +kernel
theorem dX12_emit_15 : decode cX12_emit 15 = .ok (.iconst 1, 1) := by decide +kernel
theorem dX12_emit_16 : decode cX12_emit 16 = .ok (.iadd, 1) := by decide +kernel
theorem dX12_emit_17 : decode cX12_emit 17 = .ok (.putfield 272, 3) := by decide +kernel
theorem dX12_emit_20 : decode cX12_emit 20 = .ok (.return_, 1) := by decide +kernel
theorem dX12_settle_0 : decode cX12_settle 0 = .ok (.aload_n 0, 1) := by decide +kernel
theorem dX12_settle_1 : decode cX12_settle 1 = .ok (.getfield 275, 3) := by decide +kernel
theorem dX12_settle_4 : decode cX12_settle 4 = .ok (.ifCond .le 60, 3) := by decide +kernel
theorem dX12_settle_7 : decode cX12_settle 7 = .ok (.aload_n 0, 1) := by decide +kernel
theorem dX12_settle_8 : decode cX12_settle 8 = .ok (.getfield 56, 3) := by decide +kernel
theorem dX12_settle_11 : decode cX12_settle 11 = .ok (.aload_n 0, 1) := by decide +kernel
theorem dX12_settle_12 : decode cX12_settle 12 = .ok (.getfield 275, 3) := by decide +kernel
theorem dX12_settle_15 : decode cX12_settle 15 = .ok (.iconst 1, 1) := by decide +kernel
theorem dX12_settle_16 : decode cX12_settle 16 = .ok (.isub, 1) := by decide +kernel
theorem dX12_settle_17 : decode cX12_settle 17 = .ok (.iaload, 1) := by decide +kernel
theorem dX12_settle_18 : decode cX12_settle 18 = .ok (.bipush 10, 2) := by decide +kernel
theorem dX12_settle_20 : decode cX12_settle 20 = .ok (.if_icmp .eq 44, 3) := by decide +kernel
theorem dX12_settle_23 : decode cX12_settle 23 = .ok (.aload_n 0, 1) := by decide +kernel
theorem dX12_settle_24 : decode cX12_settle 24 = .ok (.getfield 56, 3) := by decide +kernel
theorem dX12_settle_27 : decode cX12_settle 27 = .ok (.aload_n 0, 1) := by decide +kernel
theorem dX12_settle_28 : decode cX12_settle 28 = .ok (.getfield 275, 3) := by decide +kernel
theorem dX12_settle_31 : decode cX12_settle 31 = .ok (.iconst 1, 1) := by decide +kernel
theorem dX12_settle_32 : decode cX12_settle 32 = .ok (.isub, 1) := by decide +kernel
theorem dX12_settle_33 : decode cX12_settle 33 = .ok (.iaload, 1) := by decide +kernel
theorem dX12_settle_34 : decode cX12_settle 34 = .ok (.iload_n 1, 1) := by decide +kernel
theorem dX12_settle_35 : decode cX12_settle 35 = .ok (.if_icmp .gt 29, 3) := by decide +kernel
theorem dX12_settle_38 : decode cX12_settle 38 = .ok (.aload_n 0, 1) := by decide +kernel
theorem dX12_settle_39 : decode cX12_settle 39 = .ok (.dup, 1) := by decide +kernel
theorem dX12_settle_40 : decode cX12_settle 40 = .ok (.getfield 275, 3) := by decide +kernel
theorem dX12_settle_43 : decode cX12_settle 43 = .ok (.iconst 1, 1) := by decide +kernel
theorem dX12_settle_44 : decode cX12_settle 44 = .ok (.isub, 1) := by decide +kernel
theorem dX12_settle_45 : decode cX12_settle 45 = .ok (.putfield 275, 3) := by decide +kernel
theorem dX12_settle_48 : decode cX12_settle 48 = .ok (.aload_n 0, 1) := by decide +kernel
theorem dX12_settle_49 : decode cX12_settle 49 = .ok (.aload_n 0, 1) := by decide +kernel
theorem dX12_settle_50 : decode cX12_settle 50 = .ok (.getfield 56, 3) := by decide +kernel
theorem dX12_settle_53 : decode cX12_settle 53 = .ok (.aload_n 0, 1) := by decide +kernel
theorem dX12_settle_54 : decode cX12_settle 54 = .ok (.getfield 275, 3) := by decide +kernel
theorem dX12_settle_57 : decode cX12_settle 57 = .ok (.iaload, 1) := by decide +kernel
theorem dX12_settle_58 : decode cX12_settle 58 = .ok (.invokevirtual 278, 3) := by decide +kernel
theorem dX12_settle_61 : decode cX12_settle 61 = .ok (.goto (-61), 3) := by decide +kernel
theorem dX12_settle_64 : decode cX12_settle 64 = .ok (.return_, 1) := by decide +kernel
theorem dX12_hold_0 : decode cX12_hold 0 = .ok (.aload_n 0, 1) := by decide +kernel
theorem dX12_hold_1 : decode cX12_hold 1 = .ok (.getfield 56, 3) := by decide +kernel
theorem dX12_hold_4 : decode cX12_hold 4 = .ok (.aload_n 0, 1) := by decide +kernel
theorem dX12_hold_5 : decode cX12_hold 5 = .ok (.getfield 275, 3) := by decide +kernel
theorem dX12_hold_8 : decode cX12_hold 8 = .ok (.iload_n 1, 1) := by decide +kernel
theorem dX12_hold_9 : decode cX12_hold 9 = .ok (.iastore, 1) := by decide +kernel
theorem dX12_hold_10 : decode cX12_hold 10 = .ok (.aload_n 0, 1) := by decide +kernel
theorem dX12_hold_11 : decode cX12_hold 11 = .ok (.dup, 1) := by decide +kernel
theorem dX12_hold_12 : decode cX12_hold 12 = .ok (.getfield 275, 3) := by decide +kernel
theorem dX12_hold_15 : decode cX12_hold 15 = .ok (.iconst 1, 1) := by decide +kernel
theorem dX12_hold_16 : decode cX12_hold 16 = .ok (.iadd, 1) := by decide +kernel
theorem dX12_hold_17 : decode cX12_hold 17 = .ok (.putfield 275, 3) := by decide +kernel
theorem dX12_hold_20 : decode cX12_hold 20 = .ok (.aload_n 0, 1) := by decide +kernel
theorem dX12_hold_21 : decode cX12_hold 21 = .ok (.invokevirtual 262, 3) := by decide +kernel
theorem dX12_hold_24 : decode cX12_hold 24 = .ok (.return_, 1) := by decide +kernel
theorem dX12_wordHere_0 : decode cX12_wordHere 0 = .ok (.aload_n 0, 1) := by decide +kernel
theorem dX12_wordHere_1 : decode cX12_wordHere 1 = .ok (.ldc2_w 282, 3) := by decide +kernel
theorem dX12_wordHere_4 : decode cX12_wordHere 4 = .ok (.invokevirtual 284, 3) := by decide +kernel
theorem dX12_wordHere_7 : decode cX12_wordHere 7 = .ok (.ifCond .eq 8, 3) := by decide +kernel
theorem dX12_wordHere_10 : decode cX12_wordHere 10 = .ok (.bipush 100, 2) := by decide +kernel
theorem dX12_wordHere_12 : decode cX12_wordHere 12 = .ok (.goto 49, 3) := by decide +kernel
theorem dX12_wordHere_15 : decode cX12_wordHere 15 = .ok (.aload_n 0, 1) := by decide +kernel
theorem dX12_wordHere_16 : decode cX12_wordHere 16 = .ok (.ldc2_w 288, 3) := by decide +kernel
theorem dX12_wordHere_19 : decode cX12_wordHere 19 = .ok (.invokevirtual 284, 3) := by decide +kernel
theorem dX12_wordHere_22 : decode cX12_wordHere 22 = .ok (.ifCond .eq 8, 3) := by decide +kernel
theorem dX12_wordHere_25 : decode cX12_wordHere 25 = .ok (.bipush 101, 2) := by decide +kernel
theorem dX12_wordHere_27 : decode cX12_wordHere 27 = .ok (.goto 34, 3) := by decide +kernel
theorem dX12_wordHere_30 : decode cX12_wordHere 30 = .ok (.aload_n 0, 1) := by decide +kernel
theorem dX12_wordHere_31 : decode cX12_wordHere 31 = .ok (.ldc2_w 290, 3) := by decide +kernel
theorem dX12_wordHere_34 : decode cX12_wordHere 34 = .ok (.invokevirtual 284, 3) := by decide +kernel
theorem dX12_wordHere_37 : decode cX12_wordHere 37 = .ok (.ifCond .eq 8, 3) := by decide +kernel
theorem dX12_wordHere_40 : decode cX12_wordHere 40 = .ok (.bipush 102, 2) := by decide +kernel
theorem dX12_wordHere_42 : decode cX12_wordHere 42 = .ok (.goto 19, 3) := by decide +kernel
theorem dX12_wordHere_45 : decode cX12_wordHere 45 = .ok (.aload_n 0, 1) := by decide +kernel
theorem dX12_wordHere_46 : decode cX12_wordHere 46 = .ok (.ldc2_w 292, 3) := by decide +kernel
theorem dX12_wordHere_49 : decode cX12_wordHere 49 = .ok (.invokevirtual 284, 3) := by decide +kernel
theorem dX12_wordHere_52 : decode cX12_wordHere 52 = .ok (.ifCond .eq 8, 3) := by decide +kernel
theorem dX12_wordHere_55 : decode cX12_wordHere 55 = .ok (.bipush 103, 2) := by decide +kernel
theorem dX12_wordHere_57 : decode cX12_wordHere 57 = .ok (.goto 4, 3) := by decide +kernel
theorem dX12_wordHere_60 : decode cX12_wordHere 60 = .ok (.iconst 0, 1) := by decide +kernel
theorem dX12_wordHere_61 : decode cX12_wordHere 61 = .ok (.ireturn, 1) := by decide +kernel
theorem dX12_wantValue_0 : decode cX12_wantValue 0 = .ok (.aload_n 0, 1) := by decide +kernel
theorem dX12_wantValue_1 : decode cX12_wantValue 1 = .ok (.invokevirtual 294, 3) := by decide +kernel
theorem dX12_wantValue_4 : decode cX12_wantValue 4 = .ok (.istore_n 1, 1) := by decide +kernel
theorem dX12_wantValue_5 : decode cX12_wantValue 5 = .ok (.iload_n 1, 1) := by decide +kernel
theorem dX12_wantValue_6 : decode cX12_wantValue 6 = .ok (.ifCond .le 15, 3) := by decide +kernel
theorem dX12_wantValue_9 : decode cX12_wantValue 9 = .ok (.aload_n 0, 1) := by decide +kernel
theorem dX12_wantValue_10 : decode cX12_wantValue 10 = .ok (.iload_n 1, 1) := by decide +kernel
theorem dX12_wantValue_11 : decode cX12_wantValue 11 = .ok (.invokevirtual 278, 3) := by decide +kernel
theorem dX12_wantValue_14 : decode cX12_wantValue 14 = .ok (.aload_n 0, 1) := by decide +kernel
theorem dX12_wantValue_15 : decode cX12_wantValue 15 = .ok (.invokevirtual 262, 3) := by decide +kernel
theorem dX12_wantValue_18 : decode cX12_wantValue 18 = .ok (.goto 20, 3) := by decide +kernel
theorem dX12_wantValue_21 : decode cX12_wantValue 21 = .ok (.aload_n 0, 1) := by decide +kernel
theorem dX12_wantValue_22 : decode cX12_wantValue 22 = .ok (.sipush 999, 3) := by decide +kernel
theorem dX12_wantValue_25 : decode cX12_wantValue 25 = .ok (.invokevirtual 297, 3) := by decide +kernel
theorem dX12_wantValue_28 : decode cX12_wantValue 28 = .ok (.istore_n 2, 1) := by decide +kernel
theorem dX12_wantValue_29 : decode cX12_wantValue 29 = .ok (.aload_n 0, 1) := by decide +kernel
theorem dX12_wantValue_30 : decode cX12_wantValue 30 = .ok (.sipush 3000, 3) := by decide +kernel
theorem dX12_wantValue_33 : decode cX12_wantValue 33 = .ok (.iload_n 2, 1) := by decide +kernel
theorem dX12_wantValue_34 : decode cX12_wantValue 34 = .ok (.iadd, 1) := by decide +kernel
theorem dX12_wantValue_35 : decode cX12_wantValue 35 = .ok (.invokevirtual 278, 3) := by decide +kernel
theorem dX12_wantValue_38 : decode cX12_wantValue 38 = .ok (.return_, 1) := by decide +kernel
theorem dX12_wantAsk_0 : decode cX12_wantAsk 0 = .ok (.aload_n 0, 1) := by decide +kernel
theorem dX12_wantAsk_1 : decode cX12_wantAsk 1 = .ok (.invokevirtual 300, 3) := by decide +kernel
theorem dX12_wantAsk_4 : decode cX12_wantAsk 4 = .ok (.aload_n 0, 1) := by decide +kernel
theorem dX12_wantAsk_5 : decode cX12_wantAsk 5 = .ok (.bipush 60, 2) := by decide +kernel
theorem dX12_wantAsk_7 : decode cX12_wantAsk 7 = .ok (.invokevirtual 303, 3) := by decide +kernel
theorem dX12_wantAsk_10 : decode cX12_wantAsk 10 = .ok (.ifCond .eq 8, 3) := by decide +kernel
theorem dX12_wantAsk_13 : decode cX12_wantAsk 13 = .ok (.bipush 15, 2) := by decide +kernel
theorem dX12_wantAsk_15 : decode cX12_wantAsk 15 = .ok (.goto 32, 3) := by decide +kernel
theorem dX12_wantAsk_18 : decode cX12_wantAsk 18 = .ok (.aload_n 0, 1) := by decide +kernel
theorem dX12_wantAsk_19 : decode cX12_wantAsk 19 = .ok (.bipush 61, 2) := by decide +kernel
theorem dX12_wantAsk_21 : decode cX12_wantAsk 21 = .ok (.invokevirtual 303, 3) := by decide +kernel
theorem dX12_wantAsk_24 : decode cX12_wantAsk 24 = .ok (.ifCond .eq 8, 3) := by decide +kernel
theorem dX12_wantAsk_27 : decode cX12_wantAsk 27 = .ok (.bipush 16, 2) := by decide +kernel
theorem dX12_wantAsk_29 : decode cX12_wantAsk 29 = .ok (.goto 18, 3) := by decide +kernel
theorem dX12_wantAsk_32 : decode cX12_wantAsk 32 = .ok (.aload_n 0, 1) := by decide +kernel
theorem dX12_wantAsk_33 : decode cX12_wantAsk 33 = .ok (.bipush 62, 2) := by decide +kernel
theorem dX12_wantAsk_35 : decode cX12_wantAsk 35 = .ok (.invokevirtual 303, 3) := by decide +kernel
theorem dX12_wantAsk_38 : decode cX12_wantAsk 38 = .ok (.ifCond .eq 8, 3) := by decide +kernel
theorem dX12_wantAsk_41 : decode cX12_wantAsk 41 = .ok (.bipush 17, 2) := by decide +kernel
theorem dX12_wantAsk_43 : decode cX12_wantAsk 43 = .ok (.goto 4, 3) := by decide +kernel
theorem dX12_wantAsk_46 : decode cX12_wantAsk 46 = .ok (.iconst 0, 1) := by decide +kernel
theorem dX12_wantAsk_47 : decode cX12_wantAsk 47 = .ok (.istore_n 1, 1) := by decide +kernel
theorem dX12_wantAsk_48 : decode cX12_wantAsk 48 = .ok (.aload_n 0, 1) := by decide +kernel
theorem dX12_wantAsk_49 : decode cX12_wantAsk 49 = .ok (.iload_n 1, 1) := by decide +kernel
theorem dX12_wantAsk_50 : decode cX12_wantAsk 50 = .ok (.ifCond .le 7, 3) := by decide +kernel
theorem dX12_wantAsk_53 : decode cX12_wantAsk 53 = .ok (.iconst 1, 1) := by decide +kernel
theorem dX12_wantAsk_54 : decode cX12_wantAsk 54 = .ok (.goto 4, 3) := by decide +kernel
theorem dX12_wantAsk_57 : decode cX12_wantAsk 57 = .ok (.iconst 0, 1) := by decide +kernel
theorem dX12_wantAsk_58 : decode cX12_wantAsk 58 = .ok (.invokevirtual 268, 3) := by decide +kernel
theorem dX12_wantAsk_61 : decode cX12_wantAsk 61 = .ok (.aload_n 0, 1) := by decide +kernel
theorem dX12_wantAsk_62 : decode cX12_wantAsk 62 = .ok (.invokevirtual 258, 3) := by decide +kernel
theorem dX12_wantAsk_65 : decode cX12_wantAsk 65 = .ok (.ifCond .eq 12, 3) := by decide +kernel
theorem dX12_wantAsk_68 : decode cX12_wantAsk 68 = .ok (.aload_n 0, 1) := by decide +kernel
theorem dX12_wantAsk_69 : decode cX12_wantAsk 69 = .ok (.invokevirtual 300, 3) := by decide +kernel
theorem dX12_wantAsk_72 : decode cX12_wantAsk 72 = .ok (.aload_n 0, 1) := by decide +kernel
theorem dX12_wantAsk_73 : decode cX12_wantAsk 73 = .ok (.iload_n 1, 1) := by decide +kernel
theorem dX12_wantAsk_74 : decode cX12_wantAsk 74 = .ok (.invokevirtual 278, 3) := by decide +kernel
theorem dX12_wantAsk_77 : decode cX12_wantAsk 77 = .ok (.return_, 1) := by decide +kernel
theorem dX12_wantCond_0 : decode cX12_wantCond 0 = .ok (.iconst 0, 1) := by decide +kernel
theorem dX12_wantCond_1 : decode cX12_wantCond 1 = .ok (.istore_n 1, 1) := by decide +kernel
theorem dX12_wantCond_2 : decode cX12_wantCond 2 = .ok (.iconst 1, 1) := by decide +kernel
theorem dX12_wantCond_3 : decode cX12_wantCond 3 = .ok (.istore_n 2, 1) := by decide +kernel
theorem dX12_wantCond_4 : decode cX12_wantCond 4 = .ok (.iconst 1, 1) := by decide +kernel
theorem dX12_wantCond_5 : decode cX12_wantCond 5 = .ok (.istore_n 3, 1) := by decide +kernel
theorem dX12_wantCond_6 : decode cX12_wantCond 6 = .ok (.aload_n 0, 1) := by decide +kernel
theorem dX12_wantCond_7 : decode cX12_wantCond 7 = .ok (.iconst 0, 1) := by decide +kernel
theorem dX12_wantCond_8 : decode cX12_wantCond 8 = .ok (.putfield 275, 3) := by decide +kernel
theorem dX12_wantCond_11 : decode cX12_wantCond 11 = .ok (.iload_n 3, 1) := by decide +kernel
theorem dX12_wantCond_12 : decode cX12_wantCond 12 = .ok (.ifCond .eq 184, 3) := by decide +kernel
theorem dX12_wantCond_15 : decode cX12_wantCond 15 = .ok (.aload_n 0, 1) := by decide +kernel
theorem dX12_wantCond_16 : decode cX12_wantCond 16 = .ok (.invokevirtual 258, 3) := by decide +kernel
theorem dX12_wantCond_19 : decode cX12_wantCond 19 = .ok (.ifCond .eq 177, 3) := by decide +kernel
theorem dX12_wantCond_22 : decode cX12_wantCond 22 = .ok (.iload_n 2, 1) := by decide +kernel
theorem dX12_wantCond_23 : decode cX12_wantCond 23 = .ok (.ifCond .eq 70, 3) := by decide +kernel
theorem dX12_wantCond_26 : decode cX12_wantCond 26 = .ok (.aload_n 0, 1) := by decide +kernel
theorem dX12_wantCond_27 : decode cX12_wantCond 27 = .ok (.ldc2_w 306, 3) := by decide +kernel
theorem dX12_wantCond_30 : decode cX12_wantCond 30 = .ok (.invokevirtual 284, 3) := by decide +kernel
theorem dX12_wantCond_33 : decode cX12_wantCond 33 = .ok (.ifCond .eq 12, 3) := by decide +kernel
theorem dX12_wantCond_36 : decode cX12_wantCond 36 = .ok (.aload_n 0, 1) := by decide +kernel
theorem dX12_wantCond_37 : decode cX12_wantCond 37 = .ok (.bipush 7, 2) := by decide +kernel
theorem dX12_wantCond_39 : decode cX12_wantCond 39 = .ok (.invokevirtual 308, 3) := by decide +kernel
theorem dX12_wantCond_42 : decode cX12_wantCond 42 = .ok (.goto (-31), 3) := by decide +kernel
theorem dX12_wantCond_45 : decode cX12_wantCond 45 = .ok (.aload_n 0, 1) := by decide +kernel
theorem dX12_wantCond_46 : decode cX12_wantCond 46 = .ok (.bipush 40, 2) := by decide +kernel
theorem dX12_wantCond_48 : decode cX12_wantCond 48 = .ok (.invokevirtual 303, 3) := by decide +kernel
theorem dX12_wantCond_51 : decode cX12_wantCond 51 = .ok (.ifCond .eq 27, 3) := by decide +kernel
theorem dX12_wantCond_54 : decode cX12_wantCond 54 = .ok (.iload_n 1, 1) := by decide +kernel
theorem dX12_wantCond_55 : decode cX12_wantCond 55 = .ok (.iconst 3, 1) := by decide +kernel
theorem dX12_wantCond_56 : decode cX12_wantCond 56 = .ok (.if_icmp .ne 10, 3) := by decide +kernel
theorem dX12_wantCond_59 : decode cX12_wantCond 59 = .ok (.aload_n 0, 1) := by decide +kernel
theorem dX12_wantCond_60 : decode cX12_wantCond 60 = .ok (.invokevirtual 265, 3) := by decide +kernel
theorem dX12_wantCond_63 : decode cX12_wantCond 63 = .ok (.goto (-52), 3) := by decide +kernel
theorem dX12_wantCond_66 : decode cX12_wantCond 66 = .ok (.aload_n 0, 1) := by decide +kernel
theorem dX12_wantCond_67 : decode cX12_wantCond 67 = .ok (.bipush 10, 2) := by decide +kernel
theorem dX12_wantCond_69 : decode cX12_wantCond 69 = .ok (.invokevirtual 308, 3) := by decide +kernel
theorem dX12_wantCond_72 : decode cX12_wantCond 72 = .ok (.iinc 1 1, 3) := by decide +kernel
theorem dX12_wantCond_75 : decode cX12_wantCond 75 = .ok (.goto (-64), 3) := by decide +kernel
theorem dX12_wantCond_78 : decode cX12_wantCond 78 = .ok (.aload_n 0, 1) := by decide +kernel
theorem dX12_wantCond_79 : decode cX12_wantCond 79 = .ok (.invokevirtual 311, 3) := by decide +kernel
theorem dX12_wantCond_82 : decode cX12_wantCond 82 = .ok (.aload_n 0, 1) := by decide +kernel
theorem dX12_wantCond_83 : decode cX12_wantCond 83 = .ok (.bipush 7, 2) := by decide +kernel
theorem dX12_wantCond_85 : decode cX12_wantCond 85 = .ok (.invokevirtual 314, 3) := by decide +kernel
theorem dX12_wantCond_88 : decode cX12_wantCond 88 = .ok (.iconst 0, 1) := by decide +kernel
theorem dX12_wantCond_89 : decode cX12_wantCond 89 = .ok (.istore_n 2, 1) := by decide +kernel
theorem dX12_wantCond_90 : decode cX12_wantCond 90 = .ok (.goto (-79), 3) := by decide +kernel
theorem dX12_wantCond_93 : decode cX12_wantCond 93 = .ok (.aload_n 0, 1) := by decide +kernel
theorem dX12_wantCond_94 : decode cX12_wantCond 94 = .ok (.ldc2_w 317, 3) := by decide +kernel
theorem dX12_wantCond_97 : decode cX12_wantCond 97 = .ok (.invokevirtual 284, 3) := by decide +kernel
theorem dX12_wantCond_100 : decode cX12_wantCond 100 = .ok (.ifCond .ne 13, 3) := by decide +kernel
theorem dX12_wantCond_103 : decode cX12_wantCond 103 = .ok (.aload_n 0, 1) := by decide +kernel
theorem dX12_wantCond_104 : decode cX12_wantCond 104 = .ok (.ldc2_w 319, 3) := by decide +kernel
theorem dX12_wantCond_107 : decode cX12_wantCond 107 = .ok (.invokevirtual 284, 3) := by decide +kernel
theorem dX12_wantCond_110 : decode cX12_wantCond 110 = .ok (.ifCond .eq 39, 3) := by decide +kernel
theorem dX12_wantCond_113 : decode cX12_wantCond 113 = .ok (.aload_n 0, 1) := by decide +kernel
theorem dX12_wantCond_114 : decode cX12_wantCond 114 = .ok (.ldc2_w 317, 3) := by decide +kernel
theorem dX12_wantCond_117 : decode cX12_wantCond 117 = .ok (.invokevirtual 284, 3) := by decide +kernel
theorem dX12_wantCond_120 : decode cX12_wantCond 120 = .ok (.ifCond .eq 8, 3) := by decide +kernel
theorem dX12_wantCond_123 : decode cX12_wantCond 123 = .ok (.bipush 8, 2) := by decide +kernel
theorem dX12_wantCond_125 : decode cX12_wantCond 125 = .ok (.goto 5, 3) := by decide +kernel
theorem dX12_wantCond_128 : decode cX12_wantCond 128 = .ok (.bipush 9, 2) := by decide +kernel
theorem dX12_wantCond_130 : decode cX12_wantCond 130 = .ok (.istore 4, 2) := by decide +kernel
theorem dX12_wantCond_132 : decode cX12_wantCond 132 = .ok (.aload_n 0, 1) := by decide +kernel
theorem dX12_wantCond_133 : decode cX12_wantCond 133 = .ok (.iload 4, 2) := by decide +kernel
theorem dX12_wantCond_135 : decode cX12_wantCond 135 = .ok (.invokevirtual 314, 3) := by decide +kernel
theorem dX12_wantCond_138 : decode cX12_wantCond 138 = .ok (.aload_n 0, 1) := by decide +kernel
theorem dX12_wantCond_139 : decode cX12_wantCond 139 = .ok (.iload 4, 2) := by decide +kernel
theorem dX12_wantCond_141 : decode cX12_wantCond 141 = .ok (.invokevirtual 308, 3) := by decide +kernel
theorem dX12_wantCond_144 : decode cX12_wantCond 144 = .ok (.iconst 1, 1) := by decide +kernel
theorem dX12_wantCond_145 : decode cX12_wantCond 145 = .ok (.istore_n 2, 1) := by decide +kernel
theorem dX12_wantCond_146 : decode cX12_wantCond 146 = .ok (.goto (-135), 3) := by decide +kernel
theorem dX12_wantCond_149 : decode cX12_wantCond 149 = .ok (.iload_n 1, 1) := by decide +kernel
theorem dX12_wantCond_150 : decode cX12_wantCond 150 = .ok (.ifCond .le 41, 3) := by decide +kernel
theorem dX12_wantCond_153 : decode cX12_wantCond 153 = .ok (.aload_n 0, 1) := by decide +kernel
theorem dX12_wantCond_154 : decode cX12_wantCond 154 = .ok (.bipush 9, 2) := by decide +kernel
theorem dX12_wantCond_156 : decode cX12_wantCond 156 = .ok (.invokevirtual 314, 3) := by decide +kernel
theorem dX12_wantCond_159 : decode cX12_wantCond 159 = .ok (.aload_n 0, 1) := by decide +kernel
theorem dX12_wantCond_160 : decode cX12_wantCond 160 = .ok (.dup, 1) := by decide +kernel
theorem dX12_wantCond_161 : decode cX12_wantCond 161 = .ok (.getfield 275, 3) := by decide +kernel
theorem dX12_wantCond_164 : decode cX12_wantCond 164 = .ok (.iconst 1, 1) := by decide +kernel
theorem dX12_wantCond_165 : decode cX12_wantCond 165 = .ok (.isub, 1) := by decide +kernel
theorem dX12_wantCond_166 : decode cX12_wantCond 166 = .ok (.putfield 275, 3) := by decide +kernel
theorem dX12_wantCond_169 : decode cX12_wantCond 169 = .ok (.iinc 1 (-1), 3) := by decide +kernel
theorem dX12_wantCond_172 : decode cX12_wantCond 172 = .ok (.aload_n 0, 1) := by decide +kernel
theorem dX12_wantCond_173 : decode cX12_wantCond 173 = .ok (.aload_n 0, 1) := by decide +kernel
theorem dX12_wantCond_174 : decode cX12_wantCond 174 = .ok (.bipush 41, 2) := by decide +kernel
theorem dX12_wantCond_176 : decode cX12_wantCond 176 = .ok (.invokevirtual 303, 3) := by decide +kernel
theorem dX12_wantCond_179 : decode cX12_wantCond 179 = .ok (.invokevirtual 268, 3) := by decide +kernel
theorem dX12_wantCond_182 : decode cX12_wantCond 182 = .ok (.aload_n 0, 1) := by decide +kernel
theorem dX12_wantCond_183 : decode cX12_wantCond 183 = .ok (.bipush 7, 2) := by decide +kernel
theorem dX12_wantCond_185 : decode cX12_wantCond 185 = .ok (.invokevirtual 314, 3) := by decide +kernel
theorem dX12_wantCond_188 : decode cX12_wantCond 188 = .ok (.goto (-177), 3) := by decide +kernel
theorem dX12_wantCond_191 : decode cX12_wantCond 191 = .ok (.iconst 0, 1) := by decide +kernel
theorem dX12_wantCond_192 : decode cX12_wantCond 192 = .ok (.istore_n 3, 1) := by decide +kernel
theorem dX12_wantCond_193 : decode cX12_wantCond 193 = .ok (.goto (-182), 3) := by decide +kernel
theorem dX12_wantCond_196 : decode cX12_wantCond 196 = .ok (.aload_n 0, 1) := by decide +kernel
theorem dX12_wantCond_197 : decode cX12_wantCond 197 = .ok (.bipush 9, 2) := by decide +kernel
theorem dX12_wantCond_199 : decode cX12_wantCond 199 = .ok (.invokevirtual 314, 3) := by decide +kernel
theorem dX12_wantCond_202 : decode cX12_wantCond 202 = .ok (.return_, 1) := by decide +kernel
theorem dX12_read_0 : decode cX12_read 0 = .ok (.aload_n 0, 1) := by decide +kernel
theorem dX12_read_1 : decode cX12_read 1 = .ok (.iconst (-1), 1) := by decide +kernel
theorem dX12_read_2 : decode cX12_read 2 = .ok (.putfield 255, 3) := by decide +kernel
theorem dX12_read_5 : decode cX12_read 5 = .ok (.aload_n 0, 1) := by decide +kernel
theorem dX12_read_6 : decode cX12_read 6 = .ok (.iconst 0, 1) := by decide +kernel
theorem dX12_read_7 : decode cX12_read 7 = .ok (.putfield 228, 3) := by decide +kernel
theorem dX12_read_10 : decode cX12_read 10 = .ok (.aload_n 0, 1) := by decide +kernel
theorem dX12_read_11 : decode cX12_read 11 = .ok (.iconst 0, 1) := by decide +kernel
theorem dX12_read_12 : decode cX12_read 12 = .ok (.putfield 272, 3) := by decide +kernel
theorem dX12_read_15 : decode cX12_read 15 = .ok (.aload_n 0, 1) := by decide +kernel
theorem dX12_read_16 : decode cX12_read 16 = .ok (.invokevirtual 262, 3) := by decide +kernel
theorem dX12_read_19 : decode cX12_read 19 = .ok (.iconst 0, 1) := by decide +kernel
theorem dX12_read_20 : decode cX12_read 20 = .ok (.istore_n 1, 1) := by decide +kernel
theorem dX12_read_21 : decode cX12_read 21 = .ok (.aload_n 0, 1) := by decide +kernel
theorem dX12_read_22 : decode cX12_read 22 = .ok (.getfield 238, 3) := by decide +kernel
theorem dX12_read_25 : decode cX12_read 25 = .ok (.ifCond .eq 118, 3) := by decide +kernel
theorem dX12_read_28 : decode cX12_read 28 = .ok (.aload_n 0, 1) := by decide +kernel
theorem dX12_read_29 : decode cX12_read 29 = .ok (.invokevirtual 258, 3) := by decide +kernel
theorem dX12_read_32 : decode cX12_read 32 = .ok (.ifCond .eq 111, 3) := by decide +kernel
theorem dX12_read_35 : decode cX12_read 35 = .ok (.aload_n 0, 1) := by decide +kernel
theorem dX12_read_36 : decode cX12_read 36 = .ok (.aload_n 0, 1) := by decide +kernel
theorem dX12_read_37 : decode cX12_read 37 = .ok (.ldc2_w 321, 3) := by decide +kernel
theorem dX12_read_40 : decode cX12_read 40 = .ok (.invokevirtual 284, 3) := by decide +kernel
theorem dX12_read_43 : decode cX12_read 43 = .ok (.ifCond .eq 13, 3) := by decide +kernel
theorem dX12_read_46 : decode cX12_read 46 = .ok (.iload_n 1, 1) := by decide +kernel
theorem dX12_read_47 : decode cX12_read 47 = .ok (.bipush 8, 2) := by decide +kernel
theorem dX12_read_49 : decode cX12_read 49 = .ok (.if_icmp .ge 7, 3) := by decide +kernel
theorem dX12_read_52 : decode cX12_read 52 = .ok (.iconst 1, 1) := by decide +kernel
theorem dX12_read_53 : decode cX12_read 53 = .ok (.goto 4, 3) := by decide +kernel
theorem dX12_read_56 : decode cX12_read 56 = .ok (.iconst 0, 1) := by decide +kernel
theorem dX12_read_57 : decode cX12_read 57 = .ok (.invokevirtual 268, 3) := by decide +kernel
theorem dX12_read_60 : decode cX12_read 60 = .ok (.aload_n 0, 1) := by decide +kernel
theorem dX12_read_61 : decode cX12_read 61 = .ok (.invokevirtual 258, 3) := by decide +kernel
theorem dX12_read_64 : decode cX12_read 64 = .ok (.ifCond .eq 12, 3) := by decide +kernel
theorem dX12_read_67 : decode cX12_read 67 = .ok (.aload_n 0, 1) := by decide +kernel
theorem dX12_read_68 : decode cX12_read 68 = .ok (.bipush 99, 2) := by decide +kernel
theorem dX12_read_70 : decode cX12_read 70 = .ok (.invokevirtual 297, 3) := by decide +kernel
theorem dX12_read_73 : decode cX12_read 73 = .ok (.goto 4, 3) := by decide +kernel
theorem dX12_read_76 : decode cX12_read 76 = .ok (.iconst 0, 1) := by decide +kernel
theorem dX12_read_77 : decode cX12_read 77 = .ok (.istore_n 2, 1) := by decide +kernel
theorem dX12_read_78 : decode cX12_read 78 = .ok (.aload_n 0, 1) := by decide +kernel
theorem dX12_read_79 : decode cX12_read 79 = .ok (.invokevirtual 258, 3) := by decide +kernel
theorem dX12_read_82 : decode cX12_read 82 = .ok (.ifCond .eq 21, 3) := by decide +kernel
theorem dX12_read_85 : decode cX12_read 85 = .ok (.aload_n 0, 1) := by decide +kernel
theorem dX12_read_86 : decode cX12_read 86 = .ok (.ldc2_w 323, 3) := by decide +kernel
theorem dX12_read_89 : decode cX12_read 89 = .ok (.invokevirtual 284, 3) := by decide +kernel
theorem dX12_read_92 : decode cX12_read 92 = .ok (.ifCond .eq 11, 3) := by decide +kernel
theorem dX12_read_95 : decode cX12_read 95 = .ok (.aload_n 0, 1) := by decide +kernel
theorem dX12_read_96 : decode cX12_read 96 = .ok (.invokevirtual 262, 3) := by decide +kernel
theorem dX12_read_99 : decode cX12_read 99 = .ok (.aload_n 0, 1) := by decide +kernel
theorem dX12_read_100 : decode cX12_read 100 = .ok (.invokevirtual 325, 3) := by decide +kernel
theorem dX12_read_103 : decode cX12_read 103 = .ok (.aload_n 0, 1) := by decide +kernel
theorem dX12_read_104 : decode cX12_read 104 = .ok (.aload_n 0, 1) := by decide +kernel
theorem dX12_read_105 : decode cX12_read 105 = .ok (.bipush 59, 2) := by decide +kernel
theorem dX12_read_107 : decode cX12_read 107 = .ok (.invokevirtual 303, 3) := by decide +kernel
theorem dX12_read_110 : decode cX12_read 110 = .ok (.invokevirtual 268, 3) := by decide +kernel
theorem dX12_read_113 : decode cX12_read 113 = .ok (.aload_n 0, 1) := by decide +kernel
theorem dX12_read_114 : decode cX12_read 114 = .ok (.invokevirtual 258, 3) := by decide +kernel
theorem dX12_read_117 : decode cX12_read 117 = .ok (.ifCond .eq 23, 3) := by decide +kernel
theorem dX12_read_120 : decode cX12_read 120 = .ok (.aload_n 0, 1) := by decide +kernel
theorem dX12_read_121 : decode cX12_read 121 = .ok (.getfield 59, 3) := by decide +kernel
theorem dX12_read_124 : decode cX12_read 124 = .ok (.iload_n 1, 1) := by decide +kernel
theorem dX12_read_125 : decode cX12_read 125 = .ok (.aload_n 0, 1) := by decide +kernel
theorem dX12_read_126 : decode cX12_read 126 = .ok (.getfield 272, 3) := by decide +kernel
theorem dX12_read_129 : decode cX12_read 129 = .ok (.iastore, 1) := by decide +kernel
theorem dX12_read_130 : decode cX12_read 130 = .ok (.aload_n 0, 1) := by decide +kernel
theorem dX12_read_131 : decode cX12_read 131 = .ok (.getfield 62, 3) := by decide +kernel
theorem dX12_read_134 : decode cX12_read 134 = .ok (.iload_n 1, 1) := by decide +kernel
theorem dX12_read_135 : decode cX12_read 135 = .ok (.iload_n 2, 1) := by decide +kernel
theorem dX12_read_136 : decode cX12_read 136 = .ok (.iastore, 1) := by decide +kernel
theorem dX12_read_137 : decode cX12_read 137 = .ok (.iinc 1 1, 3) := by decide +kernel
theorem dX12_read_140 : decode cX12_read 140 = .ok (.goto (-119), 3) := by decide +kernel
theorem dX12_read_143 : decode cX12_read 143 = .ok (.aload_n 0, 1) := by decide +kernel
theorem dX12_read_144 : decode cX12_read 144 = .ok (.iconst 0, 1) := by decide +kernel
theorem dX12_read_145 : decode cX12_read 145 = .ok (.putfield 223, 3) := by decide +kernel
theorem dX12_read_148 : decode cX12_read 148 = .ok (.aload_n 0, 1) := by decide +kernel
theorem dX12_read_149 : decode cX12_read 149 = .ok (.invokevirtual 258, 3) := by decide +kernel
theorem dX12_read_152 : decode cX12_read 152 = .ok (.ifCond .ne 11, 3) := by decide +kernel
theorem dX12_read_155 : decode cX12_read 155 = .ok (.bipush (-100), 2) := by decide +kernel
theorem dX12_read_157 : decode cX12_read 157 = .ok (.aload_n 0, 1) := by decide +kernel
theorem dX12_read_158 : decode cX12_read 158 = .ok (.getfield 255, 3) := by decide +kernel
theorem dX12_read_161 : decode cX12_read 161 = .ok (.isub, 1) := by decide +kernel
theorem dX12_read_162 : decode cX12_read 162 = .ok (.ireturn, 1) := by decide +kernel
theorem dX12_read_163 : decode cX12_read 163 = .ok (.aload_n 0, 1) := by decide +kernel
theorem dX12_read_164 : decode cX12_read 164 = .ok (.iload_n 1, 1) := by decide +kernel
theorem dX12_read_165 : decode cX12_read 165 = .ok (.putfield 328, 3) := by decide +kernel
theorem dX12_read_168 : decode cX12_read 168 = .ok (.iconst 0, 1) := by decide +kernel
theorem dX12_read_169 : decode cX12_read 169 = .ok (.istore_n 2, 1) := by decide +kernel
theorem dX12_read_170 : decode cX12_read 170 = .ok (.iload_n 2, 1) := by decide +kernel
theorem dX12_read_171 : decode cX12_read 171 = .ok (.iload_n 1, 1) := by decide +kernel
theorem dX12_read_172 : decode cX12_read 172 = .ok (.if_icmp .ge 33, 3) := by decide +kernel
theorem dX12_read_175 : decode cX12_read 175 = .ok (.aload_n 0, 1) := by decide +kernel
theorem dX12_read_176 : decode cX12_read 176 = .ok (.getfield 22, 3) := by decide +kernel
theorem dX12_read_179 : decode cX12_read 179 = .ok (.iload_n 2, 1) := by decide +kernel
theorem dX12_read_180 : decode cX12_read 180 = .ok (.aload_n 0, 1) := by decide +kernel
theorem dX12_read_181 : decode cX12_read 181 = .ok (.getfield 59, 3) := by decide +kernel
theorem dX12_read_184 : decode cX12_read 184 = .ok (.iload_n 2, 1) := by decide +kernel
theorem dX12_read_185 : decode cX12_read 185 = .ok (.iaload, 1) := by decide +kernel
theorem dX12_read_186 : decode cX12_read 186 = .ok (.iastore, 1) := by decide +kernel
theorem dX12_read_187 : decode cX12_read 187 = .ok (.aload_n 0, 1) := by decide +kernel
theorem dX12_read_188 : decode cX12_read 188 = .ok (.getfield 25, 3) := by decide +kernel
theorem dX12_read_191 : decode cX12_read 191 = .ok (.iload_n 2, 1) := by decide +kernel
theorem dX12_read_192 : decode cX12_read 192 = .ok (.aload_n 0, 1) := by decide +kernel
theorem dX12_read_193 : decode cX12_read 193 = .ok (.getfield 62, 3) := by decide +kernel
theorem dX12_read_196 : decode cX12_read 196 = .ok (.iload_n 2, 1) := by decide +kernel
theorem dX12_read_197 : decode cX12_read 197 = .ok (.iaload, 1) := by decide +kernel
theorem dX12_read_198 : decode cX12_read 198 = .ok (.iastore, 1) := by decide +kernel
theorem dX12_read_199 : decode cX12_read 199 = .ok (.iinc 2 1, 3) := by decide +kernel
theorem dX12_read_202 : decode cX12_read 202 = .ok (.goto (-32), 3) := by decide +kernel
theorem dX12_read_205 : decode cX12_read 205 = .ok (.iconst 0, 1) := by decide +kernel
theorem dX12_read_206 : decode cX12_read 206 = .ok (.istore_n 2, 1) := by decide +kernel
theorem dX12_read_207 : decode cX12_read 207 = .ok (.iload_n 2, 1) := by decide +kernel
theorem dX12_read_208 : decode cX12_read 208 = .ok (.aload_n 0, 1) := by decide +kernel
theorem dX12_read_209 : decode cX12_read 209 = .ok (.getfield 272, 3) := by decide +kernel
theorem dX12_read_212 : decode cX12_read 212 = .ok (.if_icmp .ge 21, 3) := by decide +kernel
theorem dX12_read_215 : decode cX12_read 215 = .ok (.aload_n 0, 1) := by decide +kernel
theorem dX12_read_216 : decode cX12_read 216 = .ok (.getfield 28, 3) := by decide +kernel
theorem dX12_read_219 : decode cX12_read 219 = .ok (.iload_n 2, 1) := by decide +kernel
theorem dX12_read_220 : decode cX12_read 220 = .ok (.aload_n 0, 1) := by decide +kernel
theorem dX12_read_221 : decode cX12_read 221 = .ok (.getfield 53, 3) := by decide +kernel
theorem dX12_read_224 : decode cX12_read 224 = .ok (.iload_n 2, 1) := by decide +kernel
theorem dX12_read_225 : decode cX12_read 225 = .ok (.iaload, 1) := by decide +kernel
theorem dX12_read_226 : decode cX12_read 226 = .ok (.iastore, 1) := by decide +kernel
theorem dX12_read_227 : decode cX12_read 227 = .ok (.iinc 2 1, 3) := by decide +kernel
theorem dX12_read_230 : decode cX12_read 230 = .ok (.goto (-23), 3) := by decide +kernel
theorem dX12_read_233 : decode cX12_read 233 = .ok (.iload_n 1, 1) := by decide +kernel
theorem dX12_read_234 : decode cX12_read 234 = .ok (.ireturn, 1) := by decide +kernel
theorem dX12_joined_0 : decode cX12_joined 0 = .ok (.iload_n 0, 1) := by decide +kernel
theorem dX12_joined_1 : decode cX12_joined 1 = .ok (.tableswitch 81 8 16 #[51, 55, 81, 81, 81, 81, 81, 59, 70], 51) := by decide +kernel
theorem dX12_joined_52 : decode cX12_joined 52 = .ok (.iload_n 1, 1) := by decide +kernel
theorem dX12_joined_53 : decode cX12_joined 53 = .ok (.iload_n 2, 1) := by decide +kernel
theorem dX12_joined_54 : decode cX12_joined 54 = .ok (.iand, 1) := by decide +kernel
theorem dX12_joined_55 : decode cX12_joined 55 = .ok (.ireturn, 1) := by decide +kernel
theorem dX12_joined_56 : decode cX12_joined 56 = .ok (.iload_n 1, 1) := by decide +kernel
theorem dX12_joined_57 : decode cX12_joined 57 = .ok (.iload_n 2, 1) := by decide +kernel
theorem dX12_joined_58 : decode cX12_joined 58 = .ok (.ior, 1) := by decide +kernel
theorem dX12_joined_59 : decode cX12_joined 59 = .ok (.ireturn, 1) := by decide +kernel
theorem dX12_joined_60 : decode cX12_joined 60 = .ok (.iload_n 1, 1) := by decide +kernel
theorem dX12_joined_61 : decode cX12_joined 61 = .ok (.iload_n 2, 1) := by decide +kernel
theorem dX12_joined_62 : decode cX12_joined 62 = .ok (.if_icmp .ge 7, 3) := by decide +kernel
theorem dX12_joined_65 : decode cX12_joined 65 = .ok (.iconst 1, 1) := by decide +kernel
theorem dX12_joined_66 : decode cX12_joined 66 = .ok (.goto 4, 3) := by decide +kernel
theorem dX12_joined_69 : decode cX12_joined 69 = .ok (.iconst 0, 1) := by decide +kernel
theorem dX12_joined_70 : decode cX12_joined 70 = .ok (.ireturn, 1) := by decide +kernel
theorem dX12_joined_71 : decode cX12_joined 71 = .ok (.iload_n 1, 1) := by decide +kernel
theorem dX12_joined_72 : decode cX12_joined 72 = .ok (.iload_n 2, 1) := by decide +kernel
theorem dX12_joined_73 : decode cX12_joined 73 = .ok (.if_icmp .ne 7, 3) := by decide +kernel
theorem dX12_joined_76 : decode cX12_joined 76 = .ok (.iconst 1, 1) := by decide +kernel
theorem dX12_joined_77 : decode cX12_joined 77 = .ok (.goto 4, 3) := by decide +kernel
theorem dX12_joined_80 : decode cX12_joined 80 = .ok (.iconst 0, 1) := by decide +kernel
theorem dX12_joined_81 : decode cX12_joined 81 = .ok (.ireturn, 1) := by decide +kernel
theorem dX12_joined_82 : decode cX12_joined 82 = .ok (.iload_n 1, 1) := by decide +kernel
theorem dX12_joined_83 : decode cX12_joined 83 = .ok (.iload_n 2, 1) := by decide +kernel
theorem dX12_joined_84 : decode cX12_joined 84 = .ok (.if_icmp .le 7, 3) := by decide +kernel
theorem dX12_joined_87 : decode cX12_joined 87 = .ok (.iconst 1, 1) := by decide +kernel
theorem dX12_joined_88 : decode cX12_joined 88 = .ok (.goto 4, 3) := by decide +kernel
theorem dX12_joined_91 : decode cX12_joined 91 = .ok (.iconst 0, 1) := by decide +kernel
theorem dX12_joined_92 : decode cX12_joined 92 = .ok (.ireturn, 1) := by decide +kernel
theorem dX12_holds_0 : decode cX12_holds 0 = .ok (.iconst 0, 1) := by decide +kernel
theorem dX12_holds_1 : decode cX12_holds 1 = .ok (.istore_n 2, 1) := by decide +kernel
theorem dX12_holds_2 : decode cX12_holds 2 = .ok (.iload_n 1, 1) := by decide +kernel
theorem dX12_holds_3 : decode cX12_holds 3 = .ok (.ifCond .ne 7, 3) := by decide +kernel
theorem dX12_holds_6 : decode cX12_holds 6 = .ok (.iconst 0, 1) := by decide +kernel
theorem dX12_holds_7 : decode cX12_holds 7 = .ok (.goto 11, 3) := by decide +kernel
theorem dX12_holds_10 : decode cX12_holds 10 = .ok (.aload_n 0, 1) := by decide +kernel
theorem dX12_holds_11 : decode cX12_holds 11 = .ok (.getfield 22, 3) := by decide +kernel
theorem dX12_holds_14 : decode cX12_holds 14 = .ok (.iload_n 1, 1) := by decide +kernel
theorem dX12_holds_15 : decode cX12_holds 15 = .ok (.iconst 1, 1) := by decide +kernel
theorem dX12_holds_16 : decode cX12_holds 16 = .ok (.isub, 1) := by decide +kernel
theorem dX12_holds_17 : decode cX12_holds 17 = .ok (.iaload, 1) := by decide +kernel
theorem dX12_holds_18 : decode cX12_holds 18 = .ok (.istore_n 3, 1) := by decide +kernel
theorem dX12_holds_19 : decode cX12_holds 19 = .ok (.iload_n 3, 1) := by decide +kernel
theorem dX12_holds_20 : decode cX12_holds 20 = .ok (.istore 4, 2) := by decide +kernel
theorem dX12_holds_22 : decode cX12_holds 22 = .ok (.iload 4, 2) := by decide +kernel
theorem dX12_holds_24 : decode cX12_holds 24 = .ok (.aload_n 0, 1) := by decide +kernel
theorem dX12_holds_25 : decode cX12_holds 25 = .ok (.getfield 22, 3) := by decide +kernel
theorem dX12_holds_28 : decode cX12_holds 28 = .ok (.iload_n 1, 1) := by decide +kernel
theorem dX12_holds_29 : decode cX12_holds 29 = .ok (.iaload, 1) := by decide +kernel
theorem dX12_holds_30 : decode cX12_holds 30 = .ok (.if_icmp .ge 141, 3) := by decide +kernel
theorem dX12_holds_33 : decode cX12_holds 33 = .ok (.aload_n 0, 1) := by decide +kernel
theorem dX12_holds_34 : decode cX12_holds 34 = .ok (.getfield 28, 3) := by decide +kernel
theorem dX12_holds_37 : decode cX12_holds 37 = .ok (.iload 4, 2) := by decide +kernel
theorem dX12_holds_39 : decode cX12_holds 39 = .ok (.iaload, 1) := by decide +kernel
theorem dX12_holds_40 : decode cX12_holds 40 = .ok (.istore 5, 2) := by decide +kernel
theorem dX12_holds_42 : decode cX12_holds 42 = .ok (.iload 5, 2) := by decide +kernel
theorem dX12_holds_44 : decode cX12_holds 44 = .ok (.bipush 7, 2) := by decide +kernel
theorem dX12_holds_46 : decode cX12_holds 46 = .ok (.if_icmp .ne 24, 3) := by decide +kernel
theorem dX12_holds_49 : decode cX12_holds 49 = .ok (.aload_n 0, 1) := by decide +kernel
theorem dX12_holds_50 : decode cX12_holds 50 = .ok (.getfield 68, 3) := by decide +kernel
theorem dX12_holds_53 : decode cX12_holds 53 = .ok (.iload_n 2, 1) := by decide +kernel
theorem dX12_holds_54 : decode cX12_holds 54 = .ok (.iconst 1, 1) := by decide +kernel
theorem dX12_holds_55 : decode cX12_holds 55 = .ok (.isub, 1) := by decide +kernel
theorem dX12_holds_56 : decode cX12_holds 56 = .ok (.iconst 1, 1) := by decide +kernel
theorem dX12_holds_57 : decode cX12_holds 57 = .ok (.aload_n 0, 1) := by decide +kernel
theorem dX12_holds_58 : decode cX12_holds 58 = .ok (.getfield 68, 3) := by decide +kernel
theorem dX12_holds_61 : decode cX12_holds 61 = .ok (.iload_n 2, 1) := by decide +kernel
theorem dX12_holds_62 : decode cX12_holds 62 = .ok (.iconst 1, 1) := by decide +kernel
theorem dX12_holds_63 : decode cX12_holds 63 = .ok (.isub, 1) := by decide +kernel
theorem dX12_holds_64 : decode cX12_holds 64 = .ok (.iaload, 1) := by decide +kernel
theorem dX12_holds_65 : decode cX12_holds 65 = .ok (.isub, 1) := by decide +kernel
theorem dX12_holds_66 : decode cX12_holds 66 = .ok (.iastore, 1) := by decide +kernel
theorem dX12_holds_67 : decode cX12_holds 67 = .ok (.goto 98, 3) := by decide +kernel
theorem dX12_holds_70 : decode cX12_holds 70 = .ok (.iload 5, 2) := by decide +kernel
theorem dX12_holds_72 : decode cX12_holds 72 = .ok (.bipush 8, 2) := by decide +kernel
theorem dX12_holds_74 : decode cX12_holds 74 = .ok (.if_icmp .eq 22, 3) := by decide +kernel
theorem dX12_holds_77 : decode cX12_holds 77 = .ok (.iload 5, 2) := by decide +kernel
theorem dX12_holds_79 : decode cX12_holds 79 = .ok (.bipush 9, 2) := by decide +kernel
theorem dX12_holds_81 : decode cX12_holds 81 = .ok (.if_icmp .eq 15, 3) := by decide +kernel
theorem dX12_holds_84 : decode cX12_holds 84 = .ok (.iload 5, 2) := by decide +kernel
theorem dX12_holds_86 : decode cX12_holds 86 = .ok (.bipush 15, 2) := by decide +kernel
theorem dX12_holds_88 : decode cX12_holds 88 = .ok (.bipush 17, 2) := by decide +kernel
theorem dX12_holds_90 : decode cX12_holds 90 = .ok (.invokestatic 106, 3) := by decide +kernel
theorem dX12_holds_93 : decode cX12_holds 93 = .ok (.ifCond .eq 36, 3) := by decide +kernel
theorem dX12_holds_96 : decode cX12_holds 96 = .ok (.iinc 2 (-1), 3) := by decide +kernel
theorem dX12_holds_99 : decode cX12_holds 99 = .ok (.aload_n 0, 1) := by decide +kernel
theorem dX12_holds_100 : decode cX12_holds 100 = .ok (.getfield 68, 3) := by decide +kernel
theorem dX12_holds_103 : decode cX12_holds 103 = .ok (.iload_n 2, 1) := by decide +kernel
theorem dX12_holds_104 : decode cX12_holds 104 = .ok (.iconst 1, 1) := by decide +kernel
theorem dX12_holds_105 : decode cX12_holds 105 = .ok (.isub, 1) := by decide +kernel
theorem dX12_holds_106 : decode cX12_holds 106 = .ok (.iload 5, 2) := by decide +kernel
theorem dX12_holds_108 : decode cX12_holds 108 = .ok (.aload_n 0, 1) := by decide +kernel
theorem dX12_holds_109 : decode cX12_holds 109 = .ok (.getfield 68, 3) := by decide +kernel
theorem dX12_holds_112 : decode cX12_holds 112 = .ok (.iload_n 2, 1) := by decide +kernel
theorem dX12_holds_113 : decode cX12_holds 113 = .ok (.iconst 1, 1) := by decide +kernel
theorem dX12_holds_114 : decode cX12_holds 114 = .ok (.isub, 1) := by decide +kernel
theorem dX12_holds_115 : decode cX12_holds 115 = .ok (.iaload, 1) := by decide +kernel
theorem dX12_holds_116 : decode cX12_holds 116 = .ok (.aload_n 0, 1) := by decide +kernel
theorem dX12_holds_117 : decode cX12_holds 117 = .ok (.getfield 68, 3) := by decide +kernel
theorem dX12_holds_120 : decode cX12_holds 120 = .ok (.iload_n 2, 1) := by decide +kernel
theorem dX12_holds_121 : decode cX12_holds 121 = .ok (.iaload, 1) := by decide +kernel
theorem dX12_holds_122 : decode cX12_holds 122 = .ok (.invokestatic 331, 3) := by decide +kernel
theorem dX12_holds_125 : decode cX12_holds 125 = .ok (.iastore, 1) := by decide +kernel
theorem dX12_holds_126 : decode cX12_holds 126 = .ok (.goto 39, 3) := by decide +kernel
theorem dX12_holds_129 : decode cX12_holds 129 = .ok (.aload_n 0, 1) := by decide +kernel
theorem dX12_holds_130 : decode cX12_holds 130 = .ok (.getfield 68, 3) := by decide +kernel
theorem dX12_holds_133 : decode cX12_holds 133 = .ok (.iload_n 2, 1) := by decide +kernel
theorem dX12_holds_134 : decode cX12_holds 134 = .ok (.iload 5, 2) := by decide +kernel
theorem dX12_holds_136 : decode cX12_holds 136 = .ok (.sipush 3000, 3) := by decide +kernel
theorem dX12_holds_139 : decode cX12_holds 139 = .ok (.if_icmp .lt 12, 3) := by decide +kernel
theorem dX12_holds_142 : decode cX12_holds 142 = .ok (.iload 5, 2) := by decide +kernel
theorem dX12_holds_144 : decode cX12_holds 144 = .ok (.sipush 3000, 3) := by decide +kernel
theorem dX12_holds_147 : decode cX12_holds 147 = .ok (.isub, 1) := by decide +kernel
theorem dX12_holds_148 : decode cX12_holds 148 = .ok (.goto 13, 3) := by decide +kernel
theorem dX12_holds_151 : decode cX12_holds 151 = .ok (.aload_n 0, 1) := by decide +kernel
theorem dX12_holds_152 : decode cX12_holds 152 = .ok (.getfield 65, 3) := by decide +kernel
theorem dX12_holds_155 : decode cX12_holds 155 = .ok (.iload 5, 2) := by decide +kernel
theorem dX12_holds_157 : decode cX12_holds 157 = .ok (.bipush 100, 2) := by decide +kernel
theorem dX12_holds_159 : decode cX12_holds 159 = .ok (.isub, 1) := by decide +kernel
theorem dX12_holds_160 : decode cX12_holds 160 = .ok (.iaload, 1) := by decide +kernel
theorem dX12_holds_161 : decode cX12_holds 161 = .ok (.iastore, 1) := by decide +kernel
theorem dX12_holds_162 : decode cX12_holds 162 = .ok (.iinc 2 1, 3) := by decide +kernel
theorem dX12_holds_165 : decode cX12_holds 165 = .ok (.iinc 4 1, 3) := by decide +kernel
theorem dX12_holds_168 : decode cX12_holds 168 = .ok (.goto (-146), 3) := by decide +kernel
theorem dX12_holds_171 : decode cX12_holds 171 = .ok (.iload_n 3, 1) := by decide +kernel
theorem dX12_holds_172 : decode cX12_holds 172 = .ok (.aload_n 0, 1) := by decide +kernel
theorem dX12_holds_173 : decode cX12_holds 173 = .ok (.getfield 22, 3) := by decide +kernel
theorem dX12_holds_176 : decode cX12_holds 176 = .ok (.iload_n 1, 1) := by decide +kernel
theorem dX12_holds_177 : decode cX12_holds 177 = .ok (.iaload, 1) := by decide +kernel
theorem dX12_holds_178 : decode cX12_holds 178 = .ok (.if_icmp .eq 13, 3) := by decide +kernel
theorem dX12_holds_181 : decode cX12_holds 181 = .ok (.aload_n 0, 1) := by decide +kernel
theorem dX12_holds_182 : decode cX12_holds 182 = .ok (.getfield 68, 3) := by decide +kernel
theorem dX12_holds_185 : decode cX12_holds 185 = .ok (.iconst 0, 1) := by decide +kernel
theorem dX12_holds_186 : decode cX12_holds 186 = .ok (.iaload, 1) := by decide +kernel
theorem dX12_holds_187 : decode cX12_holds 187 = .ok (.iconst 1, 1) := by decide +kernel
theorem dX12_holds_188 : decode cX12_holds 188 = .ok (.if_icmp .ne 7, 3) := by decide +kernel
theorem dX12_holds_191 : decode cX12_holds 191 = .ok (.iconst 1, 1) := by decide +kernel
theorem dX12_holds_192 : decode cX12_holds 192 = .ok (.goto 4, 3) := by decide +kernel
theorem dX12_holds_195 : decode cX12_holds 195 = .ok (.iconst 0, 1) := by decide +kernel
theorem dX12_holds_196 : decode cX12_holds 196 = .ok (.ireturn, 1) := by decide +kernel
theorem dX12_toldBy_0 : decode cX12_toldBy 0 = .ok (.aload_n 0, 1) := by decide +kernel
theorem dX12_toldBy_1 : decode cX12_toldBy 1 = .ok (.getfield 65, 3) := by decide +kernel
theorem dX12_toldBy_4 : decode cX12_toldBy 4 = .ok (.iconst 0, 1) := by decide +kernel
theorem dX12_toldBy_5 : decode cX12_toldBy 5 = .ok (.iload 4, 2) := by decide +kernel
theorem dX12_toldBy_7 : decode cX12_toldBy 7 = .ok (.iastore, 1) := by decide +kernel
theorem dX12_toldBy_8 : decode cX12_toldBy 8 = .ok (.aload_n 0, 1) := by decide +kernel
theorem dX12_toldBy_9 : decode cX12_toldBy 9 = .ok (.getfield 65, 3) := by decide +kernel
theorem dX12_toldBy_12 : decode cX12_toldBy 12 = .ok (.iconst 1, 1) := by decide +kernel
theorem dX12_toldBy_13 : decode cX12_toldBy 13 = .ok (.iload_n 3, 1) := by decide +kernel
theorem dX12_toldBy_14 : decode cX12_toldBy 14 = .ok (.iastore, 1) := by decide +kernel
theorem dX12_toldBy_15 : decode cX12_toldBy 15 = .ok (.aload_n 0, 1) := by decide +kernel
theorem dX12_toldBy_16 : decode cX12_toldBy 16 = .ok (.getfield 65, 3) := by decide +kernel
theorem dX12_toldBy_19 : decode cX12_toldBy 19 = .ok (.iconst 2, 1) := by decide +kernel
theorem dX12_toldBy_20 : decode cX12_toldBy 20 = .ok (.iload_n 2, 1) := by decide +kernel
theorem dX12_toldBy_21 : decode cX12_toldBy 21 = .ok (.iastore, 1) := by decide +kernel
theorem dX12_toldBy_22 : decode cX12_toldBy 22 = .ok (.aload_n 0, 1) := by decide +kernel
theorem dX12_toldBy_23 : decode cX12_toldBy 23 = .ok (.getfield 65, 3) := by decide +kernel
theorem dX12_toldBy_26 : decode cX12_toldBy 26 = .ok (.iconst 3, 1) := by decide +kernel
theorem dX12_toldBy_27 : decode cX12_toldBy 27 = .ok (.iload_n 1, 1) := by decide +kernel
theorem dX12_toldBy_28 : decode cX12_toldBy 28 = .ok (.iastore, 1) := by decide +kernel
theorem dX12_toldBy_29 : decode cX12_toldBy 29 = .ok (.aload_n 0, 1) := by decide +kernel
theorem dX12_toldBy_30 : decode cX12_toldBy 30 = .ok (.getfield 328, 3) := by decide +kernel
theorem dX12_toldBy_33 : decode cX12_toldBy 33 = .ok (.iconst 1, 1) := by decide +kernel
theorem dX12_toldBy_34 : decode cX12_toldBy 34 = .ok (.isub, 1) := by decide +kernel
theorem dX12_toldBy_35 : decode cX12_toldBy 35 = .ok (.istore 5, 2) := by decide +kernel
theorem dX12_toldBy_37 : decode cX12_toldBy 37 = .ok (.iload 5, 2) := by decide +kernel
theorem dX12_toldBy_39 : decode cX12_toldBy 39 = .ok (.ifCond .lt 26, 3) := by decide +kernel
theorem dX12_toldBy_42 : decode cX12_toldBy 42 = .ok (.aload_n 0, 1) := by decide +kernel
theorem dX12_toldBy_43 : decode cX12_toldBy 43 = .ok (.iload 5, 2) := by decide +kernel
theorem dX12_toldBy_45 : decode cX12_toldBy 45 = .ok (.invokevirtual 334, 3) := by decide +kernel
theorem dX12_toldBy_48 : decode cX12_toldBy 48 = .ok (.ifCond .eq 11, 3) := by decide +kernel
theorem dX12_toldBy_51 : decode cX12_toldBy 51 = .ok (.aload_n 0, 1) := by decide +kernel
theorem dX12_toldBy_52 : decode cX12_toldBy 52 = .ok (.getfield 25, 3) := by decide +kernel
theorem dX12_toldBy_55 : decode cX12_toldBy 55 = .ok (.iload 5, 2) := by decide +kernel
theorem dX12_toldBy_57 : decode cX12_toldBy 57 = .ok (.iaload, 1) := by decide +kernel
theorem dX12_toldBy_58 : decode cX12_toldBy 58 = .ok (.ireturn, 1) := by decide +kernel
theorem dX12_toldBy_59 : decode cX12_toldBy 59 = .ok (.iinc 5 (-1), 3) := by decide +kernel
theorem dX12_toldBy_62 : decode cX12_toldBy 62 = .ok (.goto (-25), 3) := by decide +kernel
theorem dX12_toldBy_65 : decode cX12_toldBy 65 = .ok (.iconst 0, 1) := by decide +kernel
theorem dX12_toldBy_66 : decode cX12_toldBy 66 = .ok (.ireturn, 1) := by decide +kernel
theorem dX12_prove_0 : decode cX12_prove 0 = .ok (.aload_n 0, 1) := by decide +kernel
theorem dX12_prove_1 : decode cX12_prove 1 = .ok (.invokevirtual 149, 3) := by decide +kernel
theorem dX12_prove_4 : decode cX12_prove 4 = .ok (.aload_n 0, 1) := by decide +kernel
theorem dX12_prove_5 : decode cX12_prove 5 = .ok (.iconst 0, 1) := by decide +kernel
theorem dX12_prove_6 : decode cX12_prove 6 = .ok (.putfield 337, 3) := by decide +kernel
theorem dX12_prove_9 : decode cX12_prove 9 = .ok (.iconst 0, 1) := by decide +kernel
theorem dX12_prove_10 : decode cX12_prove 10 = .ok (.istore_n 1, 1) := by decide +kernel
theorem dX12_prove_11 : decode cX12_prove 11 = .ok (.iload_n 1, 1) := by decide +kernel
theorem dX12_prove_12 : decode cX12_prove 12 = .ok (.aload_n 0, 1) := by decide +kernel
theorem dX12_prove_13 : decode cX12_prove 13 = .ok (.getfield 102, 3) := by decide +kernel
theorem dX12_prove_16 : decode cX12_prove 16 = .ok (.if_icmp .ge 77, 3) := by decide +kernel
theorem dX12_prove_19 : decode cX12_prove 19 = .ok (.aload_n 0, 1) := by decide +kernel
theorem dX12_prove_20 : decode cX12_prove 20 = .ok (.iload_n 1, 1) := by decide +kernel
theorem dX12_prove_21 : decode cX12_prove 21 = .ok (.invokevirtual 129, 3) := by decide +kernel
theorem dX12_prove_24 : decode cX12_prove 24 = .ok (.ifCond .eq 63, 3) := by decide +kernel
theorem dX12_prove_27 : decode cX12_prove 27 = .ok (.aload_n 0, 1) := by decide +kernel
theorem dX12_prove_28 : decode cX12_prove 28 = .ok (.getfield 71, 3) := by decide +kernel
theorem dX12_prove_31 : decode cX12_prove 31 = .ok (.iconst 3, 1) := by decide +kernel
theorem dX12_prove_32 : decode cX12_prove 32 = .ok (.aload_n 0, 1) := by decide +kernel
theorem dX12_prove_33 : decode cX12_prove 33 = .ok (.getfield 337, 3) := by decide +kernel
theorem dX12_prove_36 : decode cX12_prove 36 = .ok (.imul, 1) := by decide +kernel
theorem dX12_prove_37 : decode cX12_prove 37 = .ok (.iload_n 1, 1) := by decide +kernel
theorem dX12_prove_38 : decode cX12_prove 38 = .ok (.iastore, 1) := by decide +kernel
theorem dX12_prove_39 : decode cX12_prove 39 = .ok (.aload_n 0, 1) := by decide +kernel
theorem dX12_prove_40 : decode cX12_prove 40 = .ok (.getfield 71, 3) := by decide +kernel
theorem dX12_prove_43 : decode cX12_prove 43 = .ok (.iconst 3, 1) := by decide +kernel
theorem dX12_prove_44 : decode cX12_prove 44 = .ok (.aload_n 0, 1) := by decide +kernel
theorem dX12_prove_45 : decode cX12_prove 45 = .ok (.getfield 337, 3) := by decide +kernel
theorem dX12_prove_48 : decode cX12_prove 48 = .ok (.imul, 1) := by decide +kernel
theorem dX12_prove_49 : decode cX12_prove 49 = .ok (.iconst 1, 1) := by decide +kernel
theorem dX12_prove_50 : decode cX12_prove 50 = .ok (.iadd, 1) := by decide +kernel
theorem dX12_prove_51 : decode cX12_prove 51 = .ok (.aload_n 0, 1) := by decide +kernel
theorem dX12_prove_52 : decode cX12_prove 52 = .ok (.getfield 37, 3) := by decide +kernel
theorem dX12_prove_55 : decode cX12_prove 55 = .ok (.iload_n 1, 1) := by decide +kernel
theorem dX12_prove_56 : decode cX12_prove 56 = .ok (.iaload, 1) := by decide +kernel
theorem dX12_prove_57 : decode cX12_prove 57 = .ok (.iastore, 1) := by decide +kernel
theorem dX12_prove_58 : decode cX12_prove 58 = .ok (.aload_n 0, 1) := by decide +kernel
theorem dX12_prove_59 : decode cX12_prove 59 = .ok (.getfield 71, 3) := by decide +kernel
theorem dX12_prove_62 : decode cX12_prove 62 = .ok (.iconst 3, 1) := by decide +kernel
theorem dX12_prove_63 : decode cX12_prove 63 = .ok (.aload_n 0, 1) := by decide +kernel
theorem dX12_prove_64 : decode cX12_prove 64 = .ok (.getfield 337, 3) := by decide +kernel
theorem dX12_prove_67 : decode cX12_prove 67 = .ok (.imul, 1) := by decide +kernel
theorem dX12_prove_68 : decode cX12_prove 68 = .ok (.iconst 2, 1) := by decide +kernel
theorem dX12_prove_69 : decode cX12_prove 69 = .ok (.iadd, 1) := by decide +kernel
theorem dX12_prove_70 : decode cX12_prove 70 = .ok (.aload_n 0, 1) := by decide +kernel
theorem dX12_prove_71 : decode cX12_prove 71 = .ok (.getfield 31, 3) := by decide +kernel
theorem dX12_prove_74 : decode cX12_prove 74 = .ok (.iload_n 1, 1) := by decide +kernel
theorem dX12_prove_75 : decode cX12_prove 75 = .ok (.iaload, 1) := by decide +kernel
theorem dX12_prove_76 : decode cX12_prove 76 = .ok (.iastore, 1) := by decide +kernel
theorem dX12_prove_77 : decode cX12_prove 77 = .ok (.aload_n 0, 1) := by decide +kernel
theorem dX12_prove_78 : decode cX12_prove 78 = .ok (.dup, 1) := by decide +kernel
theorem dX12_prove_79 : decode cX12_prove 79 = .ok (.getfield 337, 3) := by decide +kernel
theorem dX12_prove_82 : decode cX12_prove 82 = .ok (.iconst 1, 1) := by decide +kernel
theorem dX12_prove_83 : decode cX12_prove 83 = .ok (.iadd, 1) := by decide +kernel
theorem dX12_prove_84 : decode cX12_prove 84 = .ok (.putfield 337, 3) := by decide +kernel
theorem dX12_prove_87 : decode cX12_prove 87 = .ok (.iinc 1 1, 3) := by decide +kernel
theorem dX12_prove_90 : decode cX12_prove 90 = .ok (.goto (-79), 3) := by decide +kernel
theorem dX12_prove_93 : decode cX12_prove 93 = .ok (.aload_n 0, 1) := by decide +kernel
theorem dX12_prove_94 : decode cX12_prove 94 = .ok (.getfield 337, 3) := by decide +kernel
theorem dX12_prove_97 : decode cX12_prove 97 = .ok (.ireturn, 1) := by decide +kernel
theorem dX12_isRow_0 : decode cX12_isRow 0 = .ok (.iload_n 1, 1) := by decide +kernel
theorem dX12_isRow_1 : decode cX12_isRow 1 = .ok (.iconst 0, 1) := by decide +kernel
theorem dX12_isRow_2 : decode cX12_isRow 2 = .ok (.aload_n 0, 1) := by decide +kernel
theorem dX12_isRow_3 : decode cX12_isRow 3 = .ok (.getfield 337, 3) := by decide +kernel
theorem dX12_isRow_6 : decode cX12_isRow 6 = .ok (.iconst 1, 1) := by decide +kernel
theorem dX12_isRow_7 : decode cX12_isRow 7 = .ok (.isub, 1) := by decide +kernel
theorem dX12_isRow_8 : decode cX12_isRow 8 = .ok (.invokestatic 106, 3) := by decide +kernel
theorem dX12_isRow_11 : decode cX12_isRow 11 = .ok (.ifCond .eq 16, 3) := by decide +kernel
theorem dX12_isRow_14 : decode cX12_isRow 14 = .ok (.iload_n 2, 1) := by decide +kernel
theorem dX12_isRow_15 : decode cX12_isRow 15 = .ok (.iconst 0, 1) := by decide +kernel
theorem dX12_isRow_16 : decode cX12_isRow 16 = .ok (.iconst 2, 1) := by decide +kernel
theorem dX12_isRow_17 : decode cX12_isRow 17 = .ok (.invokestatic 106, 3) := by decide +kernel
theorem dX12_isRow_20 : decode cX12_isRow 20 = .ok (.ifCond .eq 7, 3) := by decide +kernel
theorem dX12_isRow_23 : decode cX12_isRow 23 = .ok (.iconst 1, 1) := by decide +kernel
theorem dX12_isRow_24 : decode cX12_isRow 24 = .ok (.goto 4, 3) := by decide +kernel
theorem dX12_isRow_27 : decode cX12_isRow 27 = .ok (.iconst 0, 1) := by decide +kernel
theorem dX12_isRow_28 : decode cX12_isRow 28 = .ok (.ireturn, 1) := by decide +kernel
theorem dX12_row_0 : decode cX12_row 0 = .ok (.aload_n 0, 1) := by decide +kernel
theorem dX12_row_1 : decode cX12_row 1 = .ok (.iload_n 1, 1) := by decide +kernel
theorem dX12_row_2 : decode cX12_row 2 = .ok (.iload_n 2, 1) := by decide +kernel
theorem dX12_row_3 : decode cX12_row 3 = .ok (.invokevirtual 340, 3) := by decide +kernel
theorem dX12_row_6 : decode cX12_row 6 = .ok (.ifCond .eq 16, 3) := by decide +kernel
theorem dX12_row_9 : decode cX12_row 9 = .ok (.aload_n 0, 1) := by decide +kernel
theorem dX12_row_10 : decode cX12_row 10 = .ok (.getfield 71, 3) := by decide +kernel
theorem dX12_row_13 : decode cX12_row 13 = .ok (.iconst 3, 1) := by decide +kernel
theorem dX12_row_14 : decode cX12_row 14 = .ok (.iload_n 1, 1) := by decide +kernel
theorem dX12_row_15 : decode cX12_row 15 = .ok (.imul, 1) := by decide +kernel
theorem dX12_row_16 : decode cX12_row 16 = .ok (.iload_n 2, 1) := by decide +kernel
theorem dX12_row_17 : decode cX12_row 17 = .ok (.iadd, 1) := by decide +kernel
theorem dX12_row_18 : decode cX12_row 18 = .ok (.iaload, 1) := by decide +kernel
theorem dX12_row_19 : decode cX12_row 19 = .ok (.goto 5, 3) := by decide +kernel
theorem dX12_row_22 : decode cX12_row 22 = .ok (.ldc 123, 2) := by decide +kernel
theorem dX12_row_24 : decode cX12_row 24 = .ok (.ireturn, 1) := by decide +kernel
theorem dX12_alterRow_0 : decode cX12_alterRow 0 = .ok (.aload_n 0, 1) := by decide +kernel
theorem dX12_alterRow_1 : decode cX12_alterRow 1 = .ok (.iload_n 1, 1) := by decide +kernel
theorem dX12_alterRow_2 : decode cX12_alterRow 2 = .ok (.iload_n 2, 1) := by decide +kernel
theorem dX12_alterRow_3 : decode cX12_alterRow 3 = .ok (.invokevirtual 340, 3) := by decide +kernel
theorem dX12_alterRow_6 : decode cX12_alterRow 6 = .ok (.ifCond .ne 6, 3) := by decide +kernel
theorem dX12_alterRow_9 : decode cX12_alterRow 9 = .ok (.ldc 123, 2) := by decide +kernel
theorem dX12_alterRow_11 : decode cX12_alterRow 11 = .ok (.ireturn, 1) := by decide +kernel
theorem dX12_alterRow_12 : decode cX12_alterRow 12 = .ok (.aload_n 0, 1) := by decide +kernel
theorem dX12_alterRow_13 : decode cX12_alterRow 13 = .ok (.getfield 71, 3) := by decide +kernel
theorem dX12_alterRow_16 : decode cX12_alterRow 16 = .ok (.iconst 3, 1) := by decide +kernel
theorem dX12_alterRow_17 : decode cX12_alterRow 17 = .ok (.iload_n 1, 1) := by decide +kernel
theorem dX12_alterRow_18 : decode cX12_alterRow 18 = .ok (.imul, 1) := by decide +kernel
theorem dX12_alterRow_19 : decode cX12_alterRow 19 = .ok (.iload_n 2, 1) := by decide +kernel
theorem dX12_alterRow_20 : decode cX12_alterRow 20 = .ok (.iadd, 1) := by decide +kernel
theorem dX12_alterRow_21 : decode cX12_alterRow 21 = .ok (.iaload, 1) := by decide +kernel
theorem dX12_alterRow_22 : decode cX12_alterRow 22 = .ok (.istore 4, 2) := by decide +kernel
theorem dX12_alterRow_24 : decode cX12_alterRow 24 = .ok (.aload_n 0, 1) := by decide +kernel
theorem dX12_alterRow_25 : decode cX12_alterRow 25 = .ok (.getfield 71, 3) := by decide +kernel
theorem dX12_alterRow_28 : decode cX12_alterRow 28 = .ok (.iconst 3, 1) := by decide +kernel
theorem dX12_alterRow_29 : decode cX12_alterRow 29 = .ok (.iload_n 1, 1) := by decide +kernel
theorem dX12_alterRow_30 : decode cX12_alterRow 30 = .ok (.imul, 1) := by decide +kernel
theorem dX12_alterRow_31 : decode cX12_alterRow 31 = .ok (.iload_n 2, 1) := by decide +kernel
theorem dX12_alterRow_32 : decode cX12_alterRow 32 = .ok (.iadd, 1) := by decide +kernel
theorem dX12_alterRow_33 : decode cX12_alterRow 33 = .ok (.iload_n 3, 1) := by decide +kernel
theorem dX12_alterRow_34 : decode cX12_alterRow 34 = .ok (.iastore, 1) := by decide +kernel
theorem dX12_alterRow_35 : decode cX12_alterRow 35 = .ok (.iload 4, 2) := by decide +kernel
theorem dX12_alterRow_37 : decode cX12_alterRow 37 = .ok (.ireturn, 1) := by decide +kernel
theorem dX12_judge_0 : decode cX12_judge 0 = .ok (.aload_n 0, 1) := by decide +kernel
theorem dX12_judge_1 : decode cX12_judge 1 = .ok (.invokevirtual 149, 3) := by decide +kernel
theorem dX12_judge_4 : decode cX12_judge 4 = .ok (.iconst 0, 1) := by decide +kernel
theorem dX12_judge_5 : decode cX12_judge 5 = .ok (.istore_n 1, 1) := by decide +kernel
theorem dX12_judge_6 : decode cX12_judge 6 = .ok (.iload_n 1, 1) := by decide +kernel
theorem dX12_judge_7 : decode cX12_judge 7 = .ok (.aload_n 0, 1) := by decide +kernel
theorem dX12_judge_8 : decode cX12_judge 8 = .ok (.getfield 337, 3) := by decide +kernel
theorem dX12_judge_11 : decode cX12_judge 11 = .ok (.if_icmp .ge 116, 3) := by decide +kernel
theorem dX12_judge_14 : decode cX12_judge 14 = .ok (.aload_n 0, 1) := by decide +kernel
theorem dX12_judge_15 : decode cX12_judge 15 = .ok (.getfield 71, 3) := by decide +kernel
theorem dX12_judge_18 : decode cX12_judge 18 = .ok (.iconst 3, 1) := by decide +kernel
theorem dX12_judge_19 : decode cX12_judge 19 = .ok (.iload_n 1, 1) := by decide +kernel
theorem dX12_judge_20 : decode cX12_judge 20 = .ok (.imul, 1) := by decide +kernel
theorem dX12_judge_21 : decode cX12_judge 21 = .ok (.iaload, 1) := by decide +kernel
theorem dX12_judge_22 : decode cX12_judge 22 = .ok (.istore_n 2, 1) := by decide +kernel
theorem dX12_judge_23 : decode cX12_judge 23 = .ok (.aload_n 0, 1) := by decide +kernel
theorem dX12_judge_24 : decode cX12_judge 24 = .ok (.iload_n 2, 1) := by decide +kernel
theorem dX12_judge_25 : decode cX12_judge 25 = .ok (.invokevirtual 116, 3) := by decide +kernel
theorem dX12_judge_28 : decode cX12_judge 28 = .ok (.ifCond .eq 45, 3) := by decide +kernel
theorem dX12_judge_31 : decode cX12_judge 31 = .ok (.aload_n 0, 1) := by decide +kernel
theorem dX12_judge_32 : decode cX12_judge 32 = .ok (.aload_n 0, 1) := by decide +kernel
theorem dX12_judge_33 : decode cX12_judge 33 = .ok (.iload_n 2, 1) := by decide +kernel
theorem dX12_judge_34 : decode cX12_judge 34 = .ok (.invokevirtual 116, 3) := by decide +kernel
theorem dX12_judge_37 : decode cX12_judge 37 = .ok (.ifCond .eq 7, 3) := by decide +kernel
theorem dX12_judge_40 : decode cX12_judge 40 = .ok (.iload_n 2, 1) := by decide +kernel
theorem dX12_judge_41 : decode cX12_judge 41 = .ok (.goto 4, 3) := by decide +kernel
theorem dX12_judge_44 : decode cX12_judge 44 = .ok (.iconst 0, 1) := by decide +kernel
theorem dX12_judge_45 : decode cX12_judge 45 = .ok (.invokevirtual 129, 3) := by decide +kernel
theorem dX12_judge_48 : decode cX12_judge 48 = .ok (.ifCond .eq 25, 3) := by decide +kernel
theorem dX12_judge_51 : decode cX12_judge 51 = .ok (.iload_n 1, 1) := by decide +kernel
theorem dX12_judge_52 : decode cX12_judge 52 = .ok (.ifCond .eq 17, 3) := by decide +kernel
theorem dX12_judge_55 : decode cX12_judge 55 = .ok (.iload_n 2, 1) := by decide +kernel
theorem dX12_judge_56 : decode cX12_judge 56 = .ok (.aload_n 0, 1) := by decide +kernel
theorem dX12_judge_57 : decode cX12_judge 57 = .ok (.getfield 71, 3) := by decide +kernel
theorem dX12_judge_60 : decode cX12_judge 60 = .ok (.iconst 3, 1) := by decide +kernel
theorem dX12_judge_61 : decode cX12_judge 61 = .ok (.iload_n 1, 1) := by decide +kernel
theorem dX12_judge_62 : decode cX12_judge 62 = .ok (.imul, 1) := by decide +kernel
theorem dX12_judge_63 : decode cX12_judge 63 = .ok (.iconst 3, 1) := by decide +kernel
theorem dX12_judge_64 : decode cX12_judge 64 = .ok (.isub, 1) := by decide +kernel
theorem dX12_judge_65 : decode cX12_judge 65 = .ok (.iaload, 1) := by decide +kernel
theorem dX12_judge_66 : decode cX12_judge 66 = .ok (.if_icmp .le 7, 3) := by decide +kernel
theorem dX12_judge_69 : decode cX12_judge 69 = .ok (.iconst 1, 1) := by decide +kernel
theorem dX12_judge_70 : decode cX12_judge 70 = .ok (.goto 4, 3) := by decide +kernel
theorem dX12_judge_73 : decode cX12_judge 73 = .ok (.iconst 0, 1) := by decide +kernel
theorem dX12_judge_74 : decode cX12_judge 74 = .ok (.istore_n 3, 1) := by decide +kernel
theorem dX12_judge_75 : decode cX12_judge 75 = .ok (.iload_n 3, 1) := by decide +kernel
theorem dX12_judge_76 : decode cX12_judge 76 = .ok (.ifCond .eq 41, 3) := by decide +kernel
theorem dX12_judge_79 : decode cX12_judge 79 = .ok (.aload_n 0, 1) := by decide +kernel
theorem dX12_judge_80 : decode cX12_judge 80 = .ok (.getfield 71, 3) := by decide +kernel
theorem dX12_judge_83 : decode cX12_judge 83 = .ok (.iconst 3, 1) := by decide +kernel
theorem dX12_judge_84 : decode cX12_judge 84 = .ok (.iload_n 1, 1) := by decide +kernel
theorem dX12_judge_85 : decode cX12_judge 85 = .ok (.imul, 1) := by decide +kernel
theorem dX12_judge_86 : decode cX12_judge 86 = .ok (.iconst 1, 1) := by decide +kernel
theorem dX12_judge_87 : decode cX12_judge 87 = .ok (.iadd, 1) := by decide +kernel
theorem dX12_judge_88 : decode cX12_judge 88 = .ok (.iaload, 1) := by decide +kernel
theorem dX12_judge_89 : decode cX12_judge 89 = .ok (.aload_n 0, 1) := by decide +kernel
theorem dX12_judge_90 : decode cX12_judge 90 = .ok (.getfield 37, 3) := by decide +kernel
theorem dX12_judge_93 : decode cX12_judge 93 = .ok (.iload_n 2, 1) := by decide +kernel
theorem dX12_judge_94 : decode cX12_judge 94 = .ok (.iaload, 1) := by decide +kernel
theorem dX12_judge_95 : decode cX12_judge 95 = .ok (.if_icmp .ne 22, 3) := by decide +kernel
theorem dX12_judge_98 : decode cX12_judge 98 = .ok (.aload_n 0, 1) := by decide +kernel
theorem dX12_judge_99 : decode cX12_judge 99 = .ok (.getfield 71, 3) := by decide +kernel
theorem dX12_judge_102 : decode cX12_judge 102 = .ok (.iconst 3, 1) := by decide +kernel
theorem dX12_judge_103 : decode cX12_judge 103 = .ok (.iload_n 1, 1) := by decide +kernel
theorem dX12_judge_104 : decode cX12_judge 104 = .ok (.imul, 1) := by decide +kernel
theorem dX12_judge_105 : decode cX12_judge 105 = .ok (.iconst 2, 1) := by decide +kernel
theorem dX12_judge_106 : decode cX12_judge 106 = .ok (.iadd, 1) := by decide +kernel
theorem dX12_judge_107 : decode cX12_judge 107 = .ok (.iaload, 1) := by decide +kernel
theorem dX12_judge_108 : decode cX12_judge 108 = .ok (.aload_n 0, 1) := by decide +kernel
theorem dX12_judge_109 : decode cX12_judge 109 = .ok (.getfield 31, 3) := by decide +kernel
theorem dX12_judge_112 : decode cX12_judge 112 = .ok (.iload_n 2, 1) := by decide +kernel
theorem dX12_judge_113 : decode cX12_judge 113 = .ok (.iaload, 1) := by decide +kernel
theorem dX12_judge_114 : decode cX12_judge 114 = .ok (.if_icmp .eq 7, 3) := by decide +kernel
theorem dX12_judge_117 : decode cX12_judge 117 = .ok (.iload_n 1, 1) := by decide +kernel
theorem dX12_judge_118 : decode cX12_judge 118 = .ok (.iconst 1, 1) := by decide +kernel
theorem dX12_judge_119 : decode cX12_judge 119 = .ok (.iadd, 1) := by decide +kernel
theorem dX12_judge_120 : decode cX12_judge 120 = .ok (.ireturn, 1) := by decide +kernel
theorem dX12_judge_121 : decode cX12_judge 121 = .ok (.iinc 1 1, 3) := by decide +kernel
theorem dX12_judge_124 : decode cX12_judge 124 = .ok (.goto (-118), 3) := by decide +kernel
theorem dX12_judge_127 : decode cX12_judge 127 = .ok (.iconst 0, 1) := by decide +kernel
theorem dX12_judge_128 : decode cX12_judge 128 = .ok (.istore_n 1, 1) := by decide +kernel
theorem dX12_judge_129 : decode cX12_judge 129 = .ok (.iconst 0, 1) := by decide +kernel
theorem dX12_judge_130 : decode cX12_judge 130 = .ok (.istore_n 2, 1) := by decide +kernel
theorem dX12_judge_131 : decode cX12_judge 131 = .ok (.iload_n 2, 1) := by decide +kernel
theorem dX12_judge_132 : decode cX12_judge 132 = .ok (.aload_n 0, 1) := by decide +kernel
theorem dX12_judge_133 : decode cX12_judge 133 = .ok (.getfield 102, 3) := by decide +kernel
theorem dX12_judge_136 : decode cX12_judge 136 = .ok (.if_icmp .ge 25, 3) := by decide +kernel
theorem dX12_judge_139 : decode cX12_judge 139 = .ok (.iload_n 1, 1) := by decide +kernel
theorem dX12_judge_140 : decode cX12_judge 140 = .ok (.aload_n 0, 1) := by decide +kernel
theorem dX12_judge_141 : decode cX12_judge 141 = .ok (.iload_n 2, 1) := by decide +kernel
theorem dX12_judge_142 : decode cX12_judge 142 = .ok (.invokevirtual 129, 3) := by decide +kernel
theorem dX12_judge_145 : decode cX12_judge 145 = .ok (.ifCond .eq 7, 3) := by decide +kernel
theorem dX12_judge_148 : decode cX12_judge 148 = .ok (.iconst 1, 1) := by decide +kernel
theorem dX12_judge_149 : decode cX12_judge 149 = .ok (.goto 4, 3) := by decide +kernel
theorem dX12_judge_152 : decode cX12_judge 152 = .ok (.iconst 0, 1) := by decide +kernel
theorem dX12_judge_153 : decode cX12_judge 153 = .ok (.iadd, 1) := by decide +kernel
theorem dX12_judge_154 : decode cX12_judge 154 = .ok (.istore_n 1, 1) := by decide +kernel
theorem dX12_judge_155 : decode cX12_judge 155 = .ok (.iinc 2 1, 3) := by decide +kernel
theorem dX12_judge_158 : decode cX12_judge 158 = .ok (.goto (-27), 3) := by decide +kernel
theorem dX12_judge_161 : decode cX12_judge 161 = .ok (.iload_n 1, 1) := by decide +kernel
theorem dX12_judge_162 : decode cX12_judge 162 = .ok (.aload_n 0, 1) := by decide +kernel
theorem dX12_judge_163 : decode cX12_judge 163 = .ok (.getfield 337, 3) := by decide +kernel
theorem dX12_judge_166 : decode cX12_judge 166 = .ok (.if_icmp .ne 7, 3) := by decide +kernel
theorem dX12_judge_169 : decode cX12_judge 169 = .ok (.iconst 0, 1) := by decide +kernel
theorem dX12_judge_170 : decode cX12_judge 170 = .ok (.goto 5, 3) := by decide +kernel
theorem dX12_judge_173 : decode cX12_judge 173 = .ok (.bipush 22, 2) := by decide +kernel
theorem dX12_judge_175 : decode cX12_judge 175 = .ok (.ireturn, 1) := by decide +kernel
theorem dX12_isShelf_0 : decode cX12_isShelf 0 = .ok (.iload_n 0, 1) := by decide +kernel
theorem dX12_isShelf_1 : decode cX12_isShelf 1 = .ok (.iconst 0, 1) := by decide +kernel
theorem dX12_isShelf_2 : decode cX12_isShelf 2 = .ok (.iconst 3, 1) := by decide +kernel
theorem dX12_isShelf_3 : decode cX12_isShelf 3 = .ok (.invokestatic 106, 3) := by decide +kernel
theorem dX12_isShelf_6 : decode cX12_isShelf 6 = .ok (.ireturn, 1) := by decide +kernel
theorem dX12_sheet_0 : decode cX12_sheet 0 = .ok (.iload_n 1, 1) := by decide +kernel
theorem dX12_sheet_1 : decode cX12_sheet 1 = .ok (.invokestatic 344, 3) := by decide +kernel
theorem dX12_sheet_4 : decode cX12_sheet 4 = .ok (.ifCond .eq 22, 3) := by decide +kernel
theorem dX12_sheet_7 : decode cX12_sheet 7 = .ok (.iload_n 2, 1) := by decide +kernel
theorem dX12_sheet_8 : decode cX12_sheet 8 = .ok (.iconst (-1), 1) := by decide +kernel
theorem dX12_sheet_9 : decode cX12_sheet 9 = .ok (.iconst 3, 1) := by decide +kernel
theorem dX12_sheet_10 : decode cX12_sheet 10 = .ok (.invokestatic 106, 3) := by decide +kernel
theorem dX12_sheet_13 : decode cX12_sheet 13 = .ok (.ifCond .eq 13, 3) := by decide +kernel
theorem dX12_sheet_16 : decode cX12_sheet 16 = .ok (.iload_n 2, 1) := by decide +kernel
theorem dX12_sheet_17 : decode cX12_sheet 17 = .ok (.ifCond .lt 11, 3) := by decide +kernel
theorem dX12_sheet_20 : decode cX12_sheet 20 = .ok (.iload_n 3, 1) := by decide +kernel
theorem dX12_sheet_21 : decode cX12_sheet 21 = .ok (.bipush 40, 2) := by decide +kernel
theorem dX12_sheet_23 : decode cX12_sheet 23 = .ok (.if_icmp .le 5, 3) := by decide +kernel
theorem dX12_sheet_26 : decode cX12_sheet 26 = .ok (.iconst (-1), 1) := by decide +kernel
theorem dX12_sheet_27 : decode cX12_sheet 27 = .ok (.ireturn, 1) := by decide +kernel
theorem dX12_sheet_28 : decode cX12_sheet 28 = .ok (.iload_n 2, 1) := by decide +kernel
theorem dX12_sheet_29 : decode cX12_sheet 29 = .ok (.ifCond .lt 10, 3) := by decide +kernel
theorem dX12_sheet_32 : decode cX12_sheet 32 = .ok (.iload_n 3, 1) := by decide +kernel
theorem dX12_sheet_33 : decode cX12_sheet 33 = .ok (.ifCond .ge 6, 3) := by decide +kernel
theorem dX12_sheet_36 : decode cX12_sheet 36 = .ok (.bipush (-14), 2) := by decide +kernel
theorem dX12_sheet_38 : decode cX12_sheet 38 = .ok (.ireturn, 1) := by decide +kernel
theorem dX12_sheet_39 : decode cX12_sheet 39 = .ok (.aload_n 0, 1) := by decide +kernel
theorem dX12_sheet_40 : decode cX12_sheet 40 = .ok (.getfield 74, 3) := by decide +kernel
theorem dX12_sheet_43 : decode cX12_sheet 43 = .ok (.iload_n 1, 1) := by decide +kernel
theorem dX12_sheet_44 : decode cX12_sheet 44 = .ok (.iload_n 2, 1) := by decide +kernel
theorem dX12_sheet_45 : decode cX12_sheet 45 = .ok (.iastore, 1) := by decide +kernel
theorem dX12_sheet_46 : decode cX12_sheet 46 = .ok (.aload_n 0, 1) := by decide +kernel
theorem dX12_sheet_47 : decode cX12_sheet 47 = .ok (.getfield 77, 3) := by decide +kernel
theorem dX12_sheet_50 : decode cX12_sheet 50 = .ok (.iload_n 1, 1) := by decide +kernel
theorem dX12_sheet_51 : decode cX12_sheet 51 = .ok (.iload_n 2, 1) := by decide +kernel
theorem dX12_sheet_52 : decode cX12_sheet 52 = .ok (.ifCond .ge 7, 3) := by decide +kernel
theorem dX12_sheet_55 : decode cX12_sheet 55 = .ok (.iconst 0, 1) := by decide +kernel
theorem dX12_sheet_56 : decode cX12_sheet 56 = .ok (.goto 4, 3) := by decide +kernel
theorem dX12_sheet_59 : decode cX12_sheet 59 = .ok (.iload_n 3, 1) := by decide +kernel
theorem dX12_sheet_60 : decode cX12_sheet 60 = .ok (.iastore, 1) := by decide +kernel
theorem dX12_sheet_61 : decode cX12_sheet 61 = .ok (.iconst 0, 1) := by decide +kernel
theorem dX12_sheet_62 : decode cX12_sheet 62 = .ok (.istore 4, 2) := by decide +kernel
theorem dX12_sheet_64 : decode cX12_sheet 64 = .ok (.iload 4, 2) := by decide +kernel
theorem dX12_sheet_66 : decode cX12_sheet 66 = .ok (.bipush 40, 2) := by decide +kernel
theorem dX12_sheet_68 : decode cX12_sheet 68 = .ok (.if_icmp .ge 22, 3) := by decide +kernel
theorem dX12_sheet_71 : decode cX12_sheet 71 = .ok (.aload_n 0, 1) := by decide +kernel
theorem dX12_sheet_72 : decode cX12_sheet 72 = .ok (.getfield 80, 3) := by decide +kernel
theorem dX12_sheet_75 : decode cX12_sheet 75 = .ok (.bipush 40, 2) := by decide +kernel
theorem dX12_sheet_77 : decode cX12_sheet 77 = .ok (.iload_n 1, 1) := by decide +kernel
theorem dX12_sheet_78 : decode cX12_sheet 78 = .ok (.imul, 1) := by decide +kernel
theorem dX12_sheet_79 : decode cX12_sheet 79 = .ok (.iload 4, 2) := by decide +kernel
theorem dX12_sheet_81 : decode cX12_sheet 81 = .ok (.iadd, 1) := by decide +kernel
theorem dX12_sheet_82 : decode cX12_sheet 82 = .ok (.lconst 0, 1) := by decide +kernel
theorem dX12_sheet_83 : decode cX12_sheet 83 = .ok (.lastore, 1) := by decide +kernel
theorem dX12_sheet_84 : decode cX12_sheet 84 = .ok (.iinc 4 1, 3) := by decide +kernel
theorem dX12_sheet_87 : decode cX12_sheet 87 = .ok (.goto (-23), 3) := by decide +kernel
theorem dX12_sheet_90 : decode cX12_sheet 90 = .ok (.iconst 1, 1) := by decide +kernel
theorem dX12_sheet_91 : decode cX12_sheet 91 = .ok (.ireturn, 1) := by decide +kernel
theorem dX12_put_0 : decode cX12_put 0 = .ok (.iload_n 1, 1) := by decide +kernel
theorem dX12_put_1 : decode cX12_put 1 = .ok (.invokestatic 344, 3) := by decide +kernel
theorem dX12_put_4 : decode cX12_put 4 = .ok (.ifCond .ne 5, 3) := by decide +kernel
theorem dX12_put_7 : decode cX12_put 7 = .ok (.iconst (-1), 1) := by decide +kernel
theorem dX12_put_8 : decode cX12_put 8 = .ok (.ireturn, 1) := by decide +kernel
theorem dX12_put_9 : decode cX12_put 9 = .ok (.aload_n 0, 1) := by decide +kernel
theorem dX12_put_10 : decode cX12_put 10 = .ok (.getfield 74, 3) := by decide +kernel
theorem dX12_put_13 : decode cX12_put 13 = .ok (.iload_n 1, 1) := by decide +kernel
theorem dX12_put_14 : decode cX12_put 14 = .ok (.iaload, 1) := by decide +kernel
theorem dX12_put_15 : decode cX12_put 15 = .ok (.ifCond .ge 6, 3) := by decide +kernel
theorem dX12_put_18 : decode cX12_put 18 = .ok (.bipush (-11), 2) := by decide +kernel
theorem dX12_put_20 : decode cX12_put 20 = .ok (.ireturn, 1) := by decide +kernel
theorem dX12_put_21 : decode cX12_put 21 = .ok (.iload_n 2, 1) := by decide +kernel
theorem dX12_put_22 : decode cX12_put 22 = .ok (.iconst 0, 1) := by decide +kernel
theorem dX12_put_23 : decode cX12_put 23 = .ok (.aload_n 0, 1) := by decide +kernel
theorem dX12_put_24 : decode cX12_put 24 = .ok (.getfield 77, 3) := by decide +kernel
theorem dX12_put_27 : decode cX12_put 27 = .ok (.iload_n 1, 1) := by decide +kernel
theorem dX12_put_28 : decode cX12_put 28 = .ok (.iaload, 1) := by decide +kernel
theorem dX12_put_29 : decode cX12_put 29 = .ok (.iconst 1, 1) := by decide +kernel
theorem dX12_put_30 : decode cX12_put 30 = .ok (.isub, 1) := by decide +kernel
theorem dX12_put_31 : decode cX12_put 31 = .ok (.invokestatic 106, 3) := by decide +kernel
theorem dX12_put_34 : decode cX12_put 34 = .ok (.ifCond .ne 6, 3) := by decide +kernel
theorem dX12_put_37 : decode cX12_put 37 = .ok (.bipush (-12), 2) := by decide +kernel
theorem dX12_put_39 : decode cX12_put 39 = .ok (.ireturn, 1) := by decide +kernel
theorem dX12_put_40 : decode cX12_put 40 = .ok (.aload_n 0, 1) := by decide +kernel
theorem dX12_put_41 : decode cX12_put 41 = .ok (.getfield 80, 3) := by decide +kernel
theorem dX12_put_44 : decode cX12_put 44 = .ok (.bipush 40, 2) := by decide +kernel
theorem dX12_put_46 : decode cX12_put 46 = .ok (.iload_n 1, 1) := by decide +kernel
theorem dX12_put_47 : decode cX12_put 47 = .ok (.imul, 1) := by decide +kernel
theorem dX12_put_48 : decode cX12_put 48 = .ok (.iload_n 2, 1) := by decide +kernel
theorem dX12_put_49 : decode cX12_put 49 = .ok (.iadd, 1) := by decide +kernel
theorem dX12_put_50 : decode cX12_put 50 = .ok (.aload_n 0, 1) := by decide +kernel
theorem dX12_put_51 : decode cX12_put 51 = .ok (.getfield 74, 3) := by decide +kernel
theorem dX12_put_54 : decode cX12_put 54 = .ok (.iload_n 1, 1) := by decide +kernel
theorem dX12_put_55 : decode cX12_put 55 = .ok (.iaload, 1) := by decide +kernel
theorem dX12_put_56 : decode cX12_put 56 = .ok (.ifCond .ne 9, 3) := by decide +kernel
theorem dX12_put_59 : decode cX12_put 59 = .ok (.iload_n 3, 1) := by decide +kernel
theorem dX12_put_60 : decode cX12_put 60 = .ok (.i2b, 1) := by decide +kernel
theorem dX12_put_61 : decode cX12_put 61 = .ok (.i2l, 1) := by decide +kernel
theorem dX12_put_62 : decode cX12_put 62 = .ok (.goto 21, 3) := by decide +kernel
theorem dX12_put_65 : decode cX12_put 65 = .ok (.aload_n 0, 1) := by decide +kernel
theorem dX12_put_66 : decode cX12_put 66 = .ok (.getfield 74, 3) := by decide +kernel
theorem dX12_put_69 : decode cX12_put 69 = .ok (.iload_n 1, 1) := by decide +kernel
theorem dX12_put_70 : decode cX12_put 70 = .ok (.iaload, 1) := by decide +kernel
theorem dX12_put_71 : decode cX12_put 71 = .ok (.iconst 1, 1) := by decide +kernel
theorem dX12_put_72 : decode cX12_put 72 = .ok (.if_icmp .ne 9, 3) := by decide +kernel
theorem dX12_put_75 : decode cX12_put 75 = .ok (.iload_n 3, 1) := by decide +kernel
theorem dX12_put_76 : decode cX12_put 76 = .ok (.i2s, 1) := by decide +kernel
theorem dX12_put_77 : decode cX12_put 77 = .ok (.i2l, 1) := by decide +kernel
theorem dX12_put_78 : decode cX12_put 78 = .ok (.goto 5, 3) := by decide +kernel
theorem dX12_put_81 : decode cX12_put 81 = .ok (.iload_n 3, 1) := by decide +kernel
theorem dX12_put_82 : decode cX12_put 82 = .ok (.i2l, 1) := by decide +kernel
theorem dX12_put_83 : decode cX12_put 83 = .ok (.lastore, 1) := by decide +kernel
theorem dX12_put_84 : decode cX12_put 84 = .ok (.iconst 1, 1) := by decide +kernel
theorem dX12_put_85 : decode cX12_put 85 = .ok (.ireturn, 1) := by decide +kernel
theorem dX12_lacksSort_0 : decode cX12_lacksSort 0 = .ok (.aload_n 0, 1) := by decide +kernel
theorem dX12_lacksSort_1 : decode cX12_lacksSort 1 = .ok (.getfield 74, 3) := by decide +kernel
theorem dX12_lacksSort_4 : decode cX12_lacksSort 4 = .ok (.iload_n 1, 1) := by decide +kernel
theorem dX12_lacksSort_5 : decode cX12_lacksSort 5 = .ok (.iaload, 1) := by decide +kernel
theorem dX12_lacksSort_6 : decode cX12_lacksSort 6 = .ok (.ifCond .ge 8, 3) := by decide +kernel
theorem dX12_lacksSort_9 : decode cX12_lacksSort 9 = .ok (.bipush (-11), 2) := by decide +kernel
theorem dX12_lacksSort_11 : decode cX12_lacksSort 11 = .ok (.goto 19, 3) := by decide +kernel
theorem dX12_lacksSort_14 : decode cX12_lacksSort 14 = .ok (.aload_n 0, 1) := by decide +kernel
theorem dX12_lacksSort_15 : decode cX12_lacksSort 15 = .ok (.getfield 74, 3) := by decide +kernel
theorem dX12_lacksSort_18 : decode cX12_lacksSort 18 = .ok (.iload_n 1, 1) := by decide +kernel
theorem dX12_lacksSort_19 : decode cX12_lacksSort 19 = .ok (.iaload, 1) := by decide +kernel
theorem dX12_lacksSort_20 : decode cX12_lacksSort 20 = .ok (.iload_n 2, 1) := by decide +kernel
theorem dX12_lacksSort_21 : decode cX12_lacksSort 21 = .ok (.if_icmp .eq 8, 3) := by decide +kernel
theorem dX12_lacksSort_24 : decode cX12_lacksSort 24 = .ok (.bipush (-13), 2) := by decide +kernel
theorem dX12_lacksSort_26 : decode cX12_lacksSort 26 = .ok (.goto 4, 3) := by decide +kernel
theorem dX12_lacksSort_29 : decode cX12_lacksSort 29 = .ok (.iconst 0, 1) := by decide +kernel
theorem dX12_lacksSort_30 : decode cX12_lacksSort 30 = .ok (.ireturn, 1) := by decide +kernel
theorem dX12_item_0 : decode cX12_item 0 = .ok (.iload_n 1, 1) := by decide +kernel
theorem dX12_item_1 : decode cX12_item 1 = .ok (.invokestatic 344, 3) := by decide +kernel
theorem dX12_item_4 : decode cX12_item 4 = .ok (.ifCond .eq 12, 3) := by decide +kernel
theorem dX12_item_7 : decode cX12_item 7 = .ok (.iload_n 2, 1) := by decide +kernel
theorem dX12_item_8 : decode cX12_item 8 = .ok (.iconst 0, 1) := by decide +kernel
theorem dX12_item_9 : decode cX12_item 9 = .ok (.iconst 3, 1) := by decide +kernel
theorem dX12_item_10 : decode cX12_item 10 = .ok (.invokestatic 106, 3) := by decide +kernel
theorem dX12_item_13 : decode cX12_item 13 = .ok (.ifCond .ne 5, 3) := by decide +kernel
theorem dX12_item_16 : decode cX12_item 16 = .ok (.iconst (-1), 1) := by decide +kernel
theorem dX12_item_17 : decode cX12_item 17 = .ok (.ireturn, 1) := by decide +kernel
theorem dX12_item_18 : decode cX12_item 18 = .ok (.aload_n 0, 1) := by decide +kernel
theorem dX12_item_19 : decode cX12_item 19 = .ok (.iload_n 1, 1) := by decide +kernel
theorem dX12_item_20 : decode cX12_item 20 = .ok (.iload_n 2, 1) := by decide +kernel
theorem dX12_item_21 : decode cX12_item 21 = .ok (.invokevirtual 347, 3) := by decide +kernel
theorem dX12_item_24 : decode cX12_item 24 = .ok (.istore 4, 2) := by decide +kernel
theorem dX12_item_26 : decode cX12_item 26 = .ok (.iload 4, 2) := by decide +kernel
theorem dX12_item_28 : decode cX12_item 28 = .ok (.ifCond .eq 6, 3) := by decide +kernel
theorem dX12_item_31 : decode cX12_item 31 = .ok (.iload 4, 2) := by decide +kernel
theorem dX12_item_33 : decode cX12_item 33 = .ok (.ireturn, 1) := by decide +kernel
theorem dX12_item_34 : decode cX12_item 34 = .ok (.iload_n 3, 1) := by decide +kernel
theorem dX12_item_35 : decode cX12_item 35 = .ok (.iconst 0, 1) := by decide +kernel
theorem dX12_item_36 : decode cX12_item 36 = .ok (.aload_n 0, 1) := by decide +kernel
theorem dX12_item_37 : decode cX12_item 37 = .ok (.getfield 77, 3) := by decide +kernel
theorem dX12_item_40 : decode cX12_item 40 = .ok (.iload_n 1, 1) := by decide +kernel
theorem dX12_item_41 : decode cX12_item 41 = .ok (.iaload, 1) := by decide +kernel
theorem dX12_item_42 : decode cX12_item 42 = .ok (.iconst 1, 1) := by decide +kernel
theorem dX12_item_43 : decode cX12_item 43 = .ok (.isub, 1) := by decide +kernel
theorem dX12_item_44 : decode cX12_item 44 = .ok (.invokestatic 106, 3) := by decide +kernel
theorem dX12_item_47 : decode cX12_item 47 = .ok (.ifCond .eq 18, 3) := by decide +kernel
theorem dX12_item_50 : decode cX12_item 50 = .ok (.aload_n 0, 1) := by decide +kernel
theorem dX12_item_51 : decode cX12_item 51 = .ok (.getfield 80, 3) := by decide +kernel
theorem dX12_item_54 : decode cX12_item 54 = .ok (.bipush 40, 2) := by decide +kernel
theorem dX12_item_56 : decode cX12_item 56 = .ok (.iload_n 1, 1) := by decide +kernel
theorem dX12_item_57 : decode cX12_item 57 = .ok (.imul, 1) := by decide +kernel
theorem dX12_item_58 : decode cX12_item 58 = .ok (.iload_n 3, 1) := by decide +kernel
theorem dX12_item_59 : decode cX12_item 59 = .ok (.iadd, 1) := by decide +kernel
theorem dX12_item_60 : decode cX12_item 60 = .ok (.laload, 1) := by decide +kernel
theorem dX12_item_61 : decode cX12_item 61 = .ok (.l2i, 1) := by decide +kernel
theorem dX12_item_62 : decode cX12_item 62 = .ok (.goto 5, 3) := by decide +kernel
theorem dX12_item_65 : decode cX12_item 65 = .ok (.bipush (-12), 2) := by decide +kernel
theorem dX12_item_67 : decode cX12_item 67 = .ok (.ireturn, 1) := by decide +kernel
theorem dX12_book_0 : decode cX12_book 0 = .ok (.aload_n 0, 1) := by decide +kernel
theorem dX12_book_1 : decode cX12_book 1 = .ok (.iload_n 1, 1) := by decide +kernel
theorem dX12_book_2 : decode cX12_book 2 = .ok (.invokevirtual 116, 3) := by decide +kernel
theorem dX12_book_5 : decode cX12_book 5 = .ok (.ifCond .eq 21, 3) := by decide +kernel
theorem dX12_book_8 : decode cX12_book 8 = .ok (.iload_n 2, 1) := by decide +kernel
theorem dX12_book_9 : decode cX12_book 9 = .ok (.invokestatic 344, 3) := by decide +kernel
theorem dX12_book_12 : decode cX12_book 12 = .ok (.ifCond .eq 14, 3) := by decide +kernel
theorem dX12_book_15 : decode cX12_book 15 = .ok (.iload 4, 2) := by decide +kernel
theorem dX12_book_17 : decode cX12_book 17 = .ok (.iconst 0, 1) := by decide +kernel
theorem dX12_book_18 : decode cX12_book 18 = .ok (.bipush 8, 2) := by decide +kernel
theorem dX12_book_20 : decode cX12_book 20 = .ok (.invokestatic 106, 3) := by decide +kernel
theorem dX12_book_23 : decode cX12_book 23 = .ok (.ifCond .ne 5, 3) := by decide +kernel
theorem dX12_book_26 : decode cX12_book 26 = .ok (.iconst (-1), 1) := by decide +kernel
theorem dX12_book_27 : decode cX12_book 27 = .ok (.ireturn, 1) := by decide +kernel
theorem dX12_book_28 : decode cX12_book 28 = .ok (.aload_n 0, 1) := by decide +kernel
theorem dX12_book_29 : decode cX12_book 29 = .ok (.iload_n 2, 1) := by decide +kernel
theorem dX12_book_30 : decode cX12_book 30 = .ok (.iconst 1, 1) := by decide +kernel
theorem dX12_book_31 : decode cX12_book 31 = .ok (.invokevirtual 347, 3) := by decide +kernel
theorem dX12_book_34 : decode cX12_book 34 = .ok (.istore 5, 2) := by decide +kernel
theorem dX12_book_36 : decode cX12_book 36 = .ok (.iload 5, 2) := by decide +kernel
theorem dX12_book_38 : decode cX12_book 38 = .ok (.ifCond .eq 6, 3) := by decide +kernel
theorem dX12_book_41 : decode cX12_book 41 = .ok (.iload 5, 2) := by decide +kernel
theorem dX12_book_43 : decode cX12_book 43 = .ok (.ireturn, 1) := by decide +kernel
theorem dX12_book_44 : decode cX12_book 44 = .ok (.iconst 0, 1) := by decide +kernel
theorem dX12_book_45 : decode cX12_book 45 = .ok (.istore 6, 2) := by decide +kernel
theorem dX12_book_47 : decode cX12_book 47 = .ok (.iconst 0, 1) := by decide +kernel
theorem dX12_book_48 : decode cX12_book 48 = .ok (.istore 7, 2) := by decide +kernel
theorem dX12_book_50 : decode cX12_book 50 = .ok (.iload 7, 2) := by decide +kernel
theorem dX12_book_52 : decode cX12_book 52 = .ok (.iload 4, 2) := by decide +kernel
theorem dX12_book_54 : decode cX12_book 54 = .ok (.if_icmp .ge 70, 3) := by decide +kernel
theorem dX12_book_57 : decode cX12_book 57 = .ok (.iload_n 3, 1) := by decide +kernel
theorem dX12_book_58 : decode cX12_book 58 = .ok (.ifCond .lt 18, 3) := by decide +kernel
theorem dX12_book_61 : decode cX12_book 61 = .ok (.iload_n 3, 1) := by decide +kernel
theorem dX12_book_62 : decode cX12_book 62 = .ok (.aload_n 0, 1) := by decide +kernel
theorem dX12_book_63 : decode cX12_book 63 = .ok (.getfield 77, 3) := by decide +kernel
theorem dX12_book_66 : decode cX12_book 66 = .ok (.iload_n 2, 1) := by decide +kernel
theorem dX12_book_67 : decode cX12_book 67 = .ok (.iaload, 1) := by decide +kernel
theorem dX12_book_68 : decode cX12_book 68 = .ok (.iconst 1, 1) := by decide +kernel
theorem dX12_book_69 : decode cX12_book 69 = .ok (.isub, 1) := by decide +kernel
theorem dX12_book_70 : decode cX12_book 70 = .ok (.iload 7, 2) := by decide +kernel
theorem dX12_book_72 : decode cX12_book 72 = .ok (.isub, 1) := by decide +kernel
theorem dX12_book_73 : decode cX12_book 73 = .ok (.if_icmp .le 6, 3) := by decide +kernel
theorem dX12_book_76 : decode cX12_book 76 = .ok (.bipush (-12), 2) := by decide +kernel
theorem dX12_book_78 : decode cX12_book 78 = .ok (.ireturn, 1) := by decide +kernel
theorem dX12_book_79 : decode cX12_book 79 = .ok (.iload 6, 2) := by decide +kernel
theorem dX12_book_81 : decode cX12_book 81 = .ok (.aload_n 0, 1) := by decide +kernel
theorem dX12_book_82 : decode cX12_book 82 = .ok (.iconst 2, 1) := by decide +kernel
theorem dX12_book_83 : decode cX12_book 83 = .ok (.iload_n 1, 1) := by decide +kernel
theorem dX12_book_84 : decode cX12_book 84 = .ok (.iload 7, 2) := by decide +kernel
theorem dX12_book_86 : decode cX12_book 86 = .ok (.aload_n 0, 1) := by decide +kernel
theorem dX12_book_87 : decode cX12_book 87 = .ok (.getfield 80, 3) := by decide +kernel
theorem dX12_book_90 : decode cX12_book 90 = .ok (.bipush 40, 2) := by decide +kernel
theorem dX12_book_92 : decode cX12_book 92 = .ok (.iload_n 2, 1) := by decide +kernel
theorem dX12_book_93 : decode cX12_book 93 = .ok (.imul, 1) := by decide +kernel
theorem dX12_book_94 : decode cX12_book 94 = .ok (.iload_n 3, 1) := by decide +kernel
theorem dX12_book_95 : decode cX12_book 95 = .ok (.iadd, 1) := by decide +kernel
theorem dX12_book_96 : decode cX12_book 96 = .ok (.iload 7, 2) := by decide +kernel
theorem dX12_book_98 : decode cX12_book 98 = .ok (.iadd, 1) := by decide +kernel
theorem dX12_book_99 : decode cX12_book 99 = .ok (.laload, 1) := by decide +kernel
theorem dX12_book_100 : decode cX12_book 100 = .ok (.l2i, 1) := by decide +kernel
theorem dX12_book_101 : decode cX12_book 101 = .ok (.sipush 1220, 3) := by decide +kernel
theorem dX12_book_104 : decode cX12_book 104 = .ok (.invokevirtual 350, 3) := by decide +kernel
theorem dX12_book_107 : decode cX12_book 107 = .ok (.ifCond .lt 7, 3) := by decide +kernel
theorem dX12_book_110 : decode cX12_book 110 = .ok (.iconst 1, 1) := by decide +kernel
theorem dX12_book_111 : decode cX12_book 111 = .ok (.goto 4, 3) := by decide +kernel
theorem dX12_book_114 : decode cX12_book 114 = .ok (.iconst 0, 1) := by decide +kernel
theorem dX12_book_115 : decode cX12_book 115 = .ok (.iadd, 1) := by decide +kernel
theorem dX12_book_116 : decode cX12_book 116 = .ok (.istore 6, 2) := by decide +kernel
theorem dX12_book_118 : decode cX12_book 118 = .ok (.iinc 7 1, 3) := by decide +kernel
theorem dX12_book_121 : decode cX12_book 121 = .ok (.goto (-71), 3) := by decide +kernel
theorem dX12_book_124 : decode cX12_book 124 = .ok (.iload 6, 2) := by decide +kernel
theorem dX12_book_126 : decode cX12_book 126 = .ok (.ireturn, 1) := by decide +kernel
theorem dX12_isThing_0 : decode cX12_isThing 0 = .ok (.iload_n 1, 1) := by decide +kernel
theorem dX12_isThing_1 : decode cX12_isThing 1 = .ok (.ifCond .ne 11, 3) := by decide +kernel
theorem dX12_isThing_4 : decode cX12_isThing 4 = .ok (.aload_n 0, 1) := by decide +kernel
theorem dX12_isThing_5 : decode cX12_isThing 5 = .ok (.iload_n 2, 1) := by decide +kernel
theorem dX12_isThing_6 : decode cX12_isThing 6 = .ok (.invokevirtual 174, 3) := by decide +kernel
theorem dX12_isThing_9 : decode cX12_isThing 9 = .ok (.goto 38, 3) := by decide +kernel
theorem dX12_isThing_12 : decode cX12_isThing 12 = .ok (.iload_n 1, 1) := by decide +kernel
theorem dX12_isThing_13 : decode cX12_isThing 13 = .ok (.iconst 1, 1) := by decide +kernel
theorem dX12_isThing_14 : decode cX12_isThing 14 = .ok (.if_icmp .ne 11, 3) := by decide +kernel
theorem dX12_isThing_17 : decode cX12_isThing 17 = .ok (.aload_n 0, 1) := by decide +kernel
theorem dX12_isThing_18 : decode cX12_isThing 18 = .ok (.iload_n 2, 1) := by decide +kernel
theorem dX12_isThing_19 : decode cX12_isThing 19 = .ok (.invokevirtual 157, 3) := by decide +kernel
theorem dX12_isThing_22 : decode cX12_isThing 22 = .ok (.goto 25, 3) := by decide +kernel
theorem dX12_isThing_25 : decode cX12_isThing 25 = .ok (.iload_n 1, 1) := by decide +kernel
theorem dX12_isThing_26 : decode cX12_isThing 26 = .ok (.iconst 2, 1) := by decide +kernel
theorem dX12_isThing_27 : decode cX12_isThing 27 = .ok (.if_icmp .ne 10, 3) := by decide +kernel
theorem dX12_isThing_30 : decode cX12_isThing 30 = .ok (.iload_n 2, 1) := by decide +kernel
theorem dX12_isThing_31 : decode cX12_isThing 31 = .ok (.invokestatic 344, 3) := by decide +kernel
theorem dX12_isThing_34 : decode cX12_isThing 34 = .ok (.goto 13, 3) := by decide +kernel
theorem dX12_isThing_37 : decode cX12_isThing 37 = .ok (.iload_n 1, 1) := by decide +kernel
theorem dX12_isThing_38 : decode cX12_isThing 38 = .ok (.iconst 3, 1) := by decide +kernel
theorem dX12_isThing_39 : decode cX12_isThing 39 = .ok (.if_icmp .ne 7, 3) := by decide +kernel
theorem dX12_isThing_42 : decode cX12_isThing 42 = .ok (.iconst 1, 1) := by decide +kernel
theorem dX12_isThing_43 : decode cX12_isThing 43 = .ok (.goto 4, 3) := by decide +kernel
theorem dX12_isThing_46 : decode cX12_isThing 46 = .ok (.iconst 0, 1) := by decide +kernel
theorem dX12_isThing_47 : decode cX12_isThing 47 = .ok (.ireturn, 1) := by decide +kernel
theorem dX12_shelf_0 : decode cX12_shelf 0 = .ok (.iload_n 1, 1) := by decide +kernel
theorem dX12_shelf_1 : decode cX12_shelf 1 = .ok (.invokestatic 344, 3) := by decide +kernel
theorem dX12_shelf_4 : decode cX12_shelf 4 = .ok (.ifCond .eq 12, 3) := by decide +kernel
theorem dX12_shelf_7 : decode cX12_shelf 7 = .ok (.aload_n 0, 1) := by decide +kernel
theorem dX12_shelf_8 : decode cX12_shelf 8 = .ok (.iload_n 2, 1) := by decide +kernel
theorem dX12_shelf_9 : decode cX12_shelf 9 = .ok (.iload_n 3, 1) := by decide +kernel
theorem dX12_shelf_10 : decode cX12_shelf 10 = .ok (.invokevirtual 352, 3) := by decide +kernel
theorem dX12_shelf_13 : decode cX12_shelf 13 = .ok (.ifCond .ne 5, 3) := by decide +kernel
theorem dX12_shelf_16 : decode cX12_shelf 16 = .ok (.iconst (-1), 1) := by decide +kernel
theorem dX12_shelf_17 : decode cX12_shelf 17 = .ok (.ireturn, 1) := by decide +kernel
theorem dX12_shelf_18 : decode cX12_shelf 18 = .ok (.aload_n 0, 1) := by decide +kernel
theorem dX12_shelf_19 : decode cX12_shelf 19 = .ok (.getfield 84, 3) := by decide +kernel
theorem dX12_shelf_22 : decode cX12_shelf 22 = .ok (.iload_n 1, 1) := by decide +kernel
theorem dX12_shelf_23 : decode cX12_shelf 23 = .ok (.iload_n 2, 1) := by decide +kernel
theorem dX12_shelf_24 : decode cX12_shelf 24 = .ok (.iconst 3, 1) := by decide +kernel
theorem dX12_shelf_25 : decode cX12_shelf 25 = .ok (.if_icmp .eq 17, 3) := by decide +kernel
theorem dX12_shelf_28 : decode cX12_shelf 28 = .ok (.iload_n 2, 1) := by decide +kernel
theorem dX12_shelf_29 : decode cX12_shelf 29 = .ok (.iconst 2, 1) := by decide +kernel
theorem dX12_shelf_30 : decode cX12_shelf 30 = .ok (.if_icmp .ne 16, 3) := by decide +kernel
theorem dX12_shelf_33 : decode cX12_shelf 33 = .ok (.aload_n 0, 1) := by decide +kernel
theorem dX12_shelf_34 : decode cX12_shelf 34 = .ok (.getfield 74, 3) := by decide +kernel
theorem dX12_shelf_37 : decode cX12_shelf 37 = .ok (.iload_n 3, 1) := by decide +kernel
theorem dX12_shelf_38 : decode cX12_shelf 38 = .ok (.iaload, 1) := by decide +kernel
theorem dX12_shelf_39 : decode cX12_shelf 39 = .ok (.ifCond .ge 7, 3) := by decide +kernel
theorem dX12_shelf_42 : decode cX12_shelf 42 = .ok (.iconst (-1), 1) := by decide +kernel
theorem dX12_shelf_43 : decode cX12_shelf 43 = .ok (.goto 4, 3) := by decide +kernel
theorem dX12_shelf_46 : decode cX12_shelf 46 = .ok (.iload_n 2, 1) := by decide +kernel
theorem dX12_shelf_47 : decode cX12_shelf 47 = .ok (.iastore, 1) := by decide +kernel
theorem dX12_shelf_48 : decode cX12_shelf 48 = .ok (.aload_n 0, 1) := by decide +kernel
theorem dX12_shelf_49 : decode cX12_shelf 49 = .ok (.getfield 87, 3) := by decide +kernel
theorem dX12_shelf_52 : decode cX12_shelf 52 = .ok (.iload_n 1, 1) := by decide +kernel
theorem dX12_shelf_53 : decode cX12_shelf 53 = .ok (.iload_n 2, 1) := by decide +kernel
theorem dX12_shelf_54 : decode cX12_shelf 54 = .ok (.iconst 2, 1) := by decide +kernel
theorem dX12_shelf_55 : decode cX12_shelf 55 = .ok (.if_icmp .ne 12, 3) := by decide +kernel
theorem dX12_shelf_58 : decode cX12_shelf 58 = .ok (.aload_n 0, 1) := by decide +kernel
theorem dX12_shelf_59 : decode cX12_shelf 59 = .ok (.getfield 74, 3) := by decide +kernel
theorem dX12_shelf_62 : decode cX12_shelf 62 = .ok (.iload_n 3, 1) := by decide +kernel
theorem dX12_shelf_63 : decode cX12_shelf 63 = .ok (.iaload, 1) := by decide +kernel
theorem dX12_shelf_64 : decode cX12_shelf 64 = .ok (.goto 4, 3) := by decide +kernel
theorem dX12_shelf_67 : decode cX12_shelf 67 = .ok (.iload_n 3, 1) := by decide +kernel
theorem dX12_shelf_68 : decode cX12_shelf 68 = .ok (.iastore, 1) := by decide +kernel
theorem dX12_shelf_69 : decode cX12_shelf 69 = .ok (.aload_n 0, 1) := by decide +kernel
theorem dX12_shelf_70 : decode cX12_shelf 70 = .ok (.getfield 90, 3) := by decide +kernel
theorem dX12_shelf_73 : decode cX12_shelf 73 = .ok (.iload_n 1, 1) := by decide +kernel
theorem dX12_shelf_74 : decode cX12_shelf 74 = .ok (.iload_n 2, 1) := by decide +kernel
theorem dX12_shelf_75 : decode cX12_shelf 75 = .ok (.iconst 2, 1) := by decide +kernel
theorem dX12_shelf_76 : decode cX12_shelf 76 = .ok (.if_icmp .ne 12, 3) := by decide +kernel
theorem dX12_shelf_79 : decode cX12_shelf 79 = .ok (.aload_n 0, 1) := by decide +kernel
theorem dX12_shelf_80 : decode cX12_shelf 80 = .ok (.getfield 77, 3) := by decide +kernel
theorem dX12_shelf_83 : decode cX12_shelf 83 = .ok (.iload_n 3, 1) := by decide +kernel
theorem dX12_shelf_84 : decode cX12_shelf 84 = .ok (.iaload, 1) := by decide +kernel
theorem dX12_shelf_85 : decode cX12_shelf 85 = .ok (.goto 4, 3) := by decide +kernel
theorem dX12_shelf_88 : decode cX12_shelf 88 = .ok (.iconst 0, 1) := by decide +kernel
theorem dX12_shelf_89 : decode cX12_shelf 89 = .ok (.iastore, 1) := by decide +kernel
theorem dX12_shelf_90 : decode cX12_shelf 90 = .ok (.iconst 1, 1) := by decide +kernel
theorem dX12_shelf_91 : decode cX12_shelf 91 = .ok (.ireturn, 1) := by decide +kernel
theorem dX12_kindOn_0 : decode cX12_kindOn 0 = .ok (.aload_n 0, 1) := by decide +kernel
theorem dX12_kindOn_1 : decode cX12_kindOn 1 = .ok (.getfield 84, 3) := by decide +kernel
theorem dX12_kindOn_4 : decode cX12_kindOn 4 = .ok (.iload_n 1, 1) := by decide +kernel
theorem dX12_kindOn_5 : decode cX12_kindOn 5 = .ok (.iaload, 1) := by decide +kernel
theorem dX12_kindOn_6 : decode cX12_kindOn 6 = .ok (.istore_n 2, 1) := by decide +kernel
theorem dX12_kindOn_7 : decode cX12_kindOn 7 = .ok (.aload_n 0, 1) := by decide +kernel
theorem dX12_kindOn_8 : decode cX12_kindOn 8 = .ok (.getfield 87, 3) := by decide +kernel
theorem dX12_kindOn_11 : decode cX12_kindOn 11 = .ok (.iload_n 1, 1) := by decide +kernel
theorem dX12_kindOn_12 : decode cX12_kindOn 12 = .ok (.iaload, 1) := by decide +kernel
theorem dX12_kindOn_13 : decode cX12_kindOn 13 = .ok (.istore_n 3, 1) := by decide +kernel
theorem dX12_kindOn_14 : decode cX12_kindOn 14 = .ok (.iload_n 2, 1) := by decide +kernel
theorem dX12_kindOn_15 : decode cX12_kindOn 15 = .ok (.ifCond .lt 8, 3) := by decide +kernel
theorem dX12_kindOn_18 : decode cX12_kindOn 18 = .ok (.iload_n 2, 1) := by decide +kernel
theorem dX12_kindOn_19 : decode cX12_kindOn 19 = .ok (.iconst 2, 1) := by decide +kernel
theorem dX12_kindOn_20 : decode cX12_kindOn 20 = .ok (.if_icmp .ne 14, 3) := by decide +kernel
theorem dX12_kindOn_23 : decode cX12_kindOn 23 = .ok (.iload_n 2, 1) := by decide +kernel
theorem dX12_kindOn_24 : decode cX12_kindOn 24 = .ok (.ifCond .ge 7, 3) := by decide +kernel
theorem dX12_kindOn_27 : decode cX12_kindOn 27 = .ok (.iconst (-1), 1) := by decide +kernel
theorem dX12_kindOn_28 : decode cX12_kindOn 28 = .ok (.goto 5, 3) := by decide +kernel
theorem dX12_kindOn_31 : decode cX12_kindOn 31 = .ok (.bipush 9, 2) := by decide +kernel
theorem dX12_kindOn_33 : decode cX12_kindOn 33 = .ok (.ireturn, 1) := by decide +kernel
theorem dX12_kindOn_34 : decode cX12_kindOn 34 = .ok (.aload_n 0, 1) := by decide +kernel
theorem dX12_kindOn_35 : decode cX12_kindOn 35 = .ok (.iload_n 2, 1) := by decide +kernel
theorem dX12_kindOn_36 : decode cX12_kindOn 36 = .ok (.iload_n 3, 1) := by decide +kernel
theorem dX12_kindOn_37 : decode cX12_kindOn 37 = .ok (.invokevirtual 352, 3) := by decide +kernel
theorem dX12_kindOn_40 : decode cX12_kindOn 40 = .ok (.ifCond .ne 7, 3) := by decide +kernel
theorem dX12_kindOn_43 : decode cX12_kindOn 43 = .ok (.iconst (-1), 1) := by decide +kernel
theorem dX12_kindOn_44 : decode cX12_kindOn 44 = .ok (.goto 22, 3) := by decide +kernel
theorem dX12_kindOn_47 : decode cX12_kindOn 47 = .ok (.iload_n 2, 1) := by decide +kernel
theorem dX12_kindOn_48 : decode cX12_kindOn 48 = .ok (.iconst 1, 1) := by decide +kernel
theorem dX12_kindOn_49 : decode cX12_kindOn 49 = .ok (.if_icmp .ne 8, 3) := by decide +kernel
theorem dX12_kindOn_52 : decode cX12_kindOn 52 = .ok (.bipush 6, 2) := by decide +kernel
theorem dX12_kindOn_54 : decode cX12_kindOn 54 = .ok (.goto 12, 3) := by decide +kernel
theorem dX12_kindOn_57 : decode cX12_kindOn 57 = .ok (.aload_n 0, 1) := by decide +kernel
theorem dX12_kindOn_58 : decode cX12_kindOn 58 = .ok (.getfield 19, 3) := by decide +kernel
theorem dX12_kindOn_61 : decode cX12_kindOn 61 = .ok (.bipush 7, 2) := by decide +kernel
theorem dX12_kindOn_63 : decode cX12_kindOn 63 = .ok (.iload_n 3, 1) := by decide +kernel
theorem dX12_kindOn_64 : decode cX12_kindOn 64 = .ok (.imul, 1) := by decide +kernel
theorem dX12_kindOn_65 : decode cX12_kindOn 65 = .ok (.iaload, 1) := by decide +kernel
theorem dX12_kindOn_66 : decode cX12_kindOn 66 = .ok (.ireturn, 1) := by decide +kernel
theorem dX12_isUnder_0 : decode cX12_isUnder 0 = .ok (.iload_n 1, 1) := by decide +kernel
theorem dX12_isUnder_1 : decode cX12_isUnder 1 = .ok (.tableswitch 71 0 2 #[27, 39, 55], 27) := by decide +kernel
theorem dX12_isUnder_28 : decode cX12_isUnder 28 = .ok (.iload_n 0, 1) := by decide +kernel
theorem dX12_isUnder_29 : decode cX12_isUnder 29 = .ok (.bipush 6, 2) := by decide +kernel
theorem dX12_isUnder_31 : decode cX12_isUnder 31 = .ok (.if_icmp .ge 7, 3) := by decide +kernel
theorem dX12_isUnder_34 : decode cX12_isUnder 34 = .ok (.iconst 1, 1) := by decide +kernel
theorem dX12_isUnder_35 : decode cX12_isUnder 35 = .ok (.goto 4, 3) := by decide +kernel
theorem dX12_isUnder_38 : decode cX12_isUnder 38 = .ok (.iconst 0, 1) := by decide +kernel
theorem dX12_isUnder_39 : decode cX12_isUnder 39 = .ok (.ireturn, 1) := by decide +kernel
theorem dX12_isUnder_40 : decode cX12_isUnder 40 = .ok (.iload_n 0, 1) := by decide +kernel
theorem dX12_isUnder_41 : decode cX12_isUnder 41 = .ok (.iconst 1, 1) := by decide +kernel
theorem dX12_isUnder_42 : decode cX12_isUnder 42 = .ok (.if_icmp .eq 8, 3) := by decide +kernel
theorem dX12_isUnder_45 : decode cX12_isUnder 45 = .ok (.iload_n 0, 1) := by decide +kernel
theorem dX12_isUnder_46 : decode cX12_isUnder 46 = .ok (.iconst 4, 1) := by decide +kernel
theorem dX12_isUnder_47 : decode cX12_isUnder 47 = .ok (.if_icmp .ne 7, 3) := by decide +kernel
theorem dX12_isUnder_50 : decode cX12_isUnder 50 = .ok (.iconst 1, 1) := by decide +kernel
theorem dX12_isUnder_51 : decode cX12_isUnder 51 = .ok (.goto 4, 3) := by decide +kernel
theorem dX12_isUnder_54 : decode cX12_isUnder 54 = .ok (.iconst 0, 1) := by decide +kernel
theorem dX12_isUnder_55 : decode cX12_isUnder 55 = .ok (.ireturn, 1) := by decide +kernel
theorem dX12_isUnder_56 : decode cX12_isUnder 56 = .ok (.iload_n 0, 1) := by decide +kernel
theorem dX12_isUnder_57 : decode cX12_isUnder 57 = .ok (.iconst 2, 1) := by decide +kernel
theorem dX12_isUnder_58 : decode cX12_isUnder 58 = .ok (.if_icmp .eq 8, 3) := by decide +kernel
theorem dX12_isUnder_61 : decode cX12_isUnder 61 = .ok (.iload_n 0, 1) := by decide +kernel
theorem dX12_isUnder_62 : decode cX12_isUnder 62 = .ok (.iconst 5, 1) := by decide +kernel
theorem dX12_isUnder_63 : decode cX12_isUnder 63 = .ok (.if_icmp .ne 7, 3) := by decide +kernel
theorem dX12_isUnder_66 : decode cX12_isUnder 66 = .ok (.iconst 1, 1) := by decide +kernel
theorem dX12_isUnder_67 : decode cX12_isUnder 67 = .ok (.goto 4, 3) := by decide +kernel
theorem dX12_isUnder_70 : decode cX12_isUnder 70 = .ok (.iconst 0, 1) := by decide +kernel
theorem dX12_isUnder_71 : decode cX12_isUnder 71 = .ok (.ireturn, 1) := by decide +kernel
theorem dX12_isUnder_72 : decode cX12_isUnder 72 = .ok (.iload_n 0, 1) := by decide +kernel
theorem dX12_isUnder_73 : decode cX12_isUnder 73 = .ok (.iload_n 1, 1) := by decide +kernel
theorem dX12_isUnder_74 : decode cX12_isUnder 74 = .ok (.if_icmp .ne 7, 3) := by decide +kernel
theorem dX12_isUnder_77 : decode cX12_isUnder 77 = .ok (.iconst 1, 1) := by decide +kernel
theorem dX12_isUnder_78 : decode cX12_isUnder 78 = .ok (.goto 4, 3) := by decide +kernel
theorem dX12_isUnder_81 : decode cX12_isUnder 81 = .ok (.iconst 0, 1) := by decide +kernel
theorem dX12_isUnder_82 : decode cX12_isUnder 82 = .ok (.ireturn, 1) := by decide +kernel
theorem dX12_taken_0 : decode cX12_taken 0 = .ok (.iload_n 1, 1) := by decide +kernel
theorem dX12_taken_1 : decode cX12_taken 1 = .ok (.invokestatic 344, 3) := by decide +kernel
theorem dX12_taken_4 : decode cX12_taken 4 = .ok (.ifCond .eq 24, 3) := by decide +kernel
theorem dX12_taken_7 : decode cX12_taken 7 = .ok (.iload_n 2, 1) := by decide +kernel
theorem dX12_taken_8 : decode cX12_taken 8 = .ok (.iconst 0, 1) := by decide +kernel
theorem dX12_taken_9 : decode cX12_taken 9 = .ok (.bipush 6, 2) := by decide +kernel
theorem dX12_taken_11 : decode cX12_taken 11 = .ok (.invokestatic 106, 3) := by decide +kernel
theorem dX12_taken_14 : decode cX12_taken 14 = .ok (.ifCond .ne 16, 3) := by decide +kernel
theorem dX12_taken_17 : decode cX12_taken 17 = .ok (.iload_n 2, 1) := by decide +kernel
theorem dX12_taken_18 : decode cX12_taken 18 = .ok (.bipush 10, 2) := by decide +kernel
theorem dX12_taken_20 : decode cX12_taken 20 = .ok (.bipush 13, 2) := by decide +kernel
theorem dX12_taken_22 : decode cX12_taken 22 = .ok (.invokestatic 106, 3) := by decide +kernel
theorem dX12_taken_25 : decode cX12_taken 25 = .ok (.ifCond .ne 5, 3) := by decide +kernel
theorem dX12_taken_28 : decode cX12_taken 28 = .ok (.iconst (-1), 1) := by decide +kernel
theorem dX12_taken_29 : decode cX12_taken 29 = .ok (.ireturn, 1) := by decide +kernel
theorem dX12_taken_30 : decode cX12_taken 30 = .ok (.aload_n 0, 1) := by decide +kernel
theorem dX12_taken_31 : decode cX12_taken 31 = .ok (.iload_n 1, 1) := by decide +kernel
theorem dX12_taken_32 : decode cX12_taken 32 = .ok (.invokevirtual 355, 3) := by decide +kernel
theorem dX12_taken_35 : decode cX12_taken 35 = .ok (.istore_n 3, 1) := by decide +kernel
theorem dX12_taken_36 : decode cX12_taken 36 = .ok (.iload_n 3, 1) := by decide +kernel
theorem dX12_taken_37 : decode cX12_taken 37 = .ok (.ifCond .ge 6, 3) := by decide +kernel
theorem dX12_taken_40 : decode cX12_taken 40 = .ok (.bipush (-11), 2) := by decide +kernel
theorem dX12_taken_42 : decode cX12_taken 42 = .ok (.ireturn, 1) := by decide +kernel
theorem dX12_taken_43 : decode cX12_taken 43 = .ok (.iload_n 3, 1) := by decide +kernel
theorem dX12_taken_44 : decode cX12_taken 44 = .ok (.bipush 9, 2) := by decide +kernel
theorem dX12_taken_46 : decode cX12_taken 46 = .ok (.if_icmp .ne 28, 3) := by decide +kernel
theorem dX12_taken_49 : decode cX12_taken 49 = .ok (.iload_n 2, 1) := by decide +kernel
theorem dX12_taken_50 : decode cX12_taken 50 = .ok (.bipush 10, 2) := by decide +kernel
theorem dX12_taken_52 : decode cX12_taken 52 = .ok (.aload_n 0, 1) := by decide +kernel
theorem dX12_taken_53 : decode cX12_taken 53 = .ok (.getfield 87, 3) := by decide +kernel
theorem dX12_taken_56 : decode cX12_taken 56 = .ok (.iload_n 1, 1) := by decide +kernel
theorem dX12_taken_57 : decode cX12_taken 57 = .ok (.iaload, 1) := by decide +kernel
theorem dX12_taken_58 : decode cX12_taken 58 = .ok (.iadd, 1) := by decide +kernel
theorem dX12_taken_59 : decode cX12_taken 59 = .ok (.if_icmp .ne 12, 3) := by decide +kernel
theorem dX12_taken_62 : decode cX12_taken 62 = .ok (.aload_n 0, 1) := by decide +kernel
theorem dX12_taken_63 : decode cX12_taken 63 = .ok (.getfield 90, 3) := by decide +kernel
theorem dX12_taken_66 : decode cX12_taken 66 = .ok (.iload_n 1, 1) := by decide +kernel
theorem dX12_taken_67 : decode cX12_taken 67 = .ok (.iaload, 1) := by decide +kernel
theorem dX12_taken_68 : decode cX12_taken 68 = .ok (.goto 5, 3) := by decide +kernel
theorem dX12_taken_71 : decode cX12_taken 71 = .ok (.bipush (-13), 2) := by decide +kernel
theorem dX12_taken_73 : decode cX12_taken 73 = .ok (.ireturn, 1) := by decide +kernel
theorem dX12_taken_74 : decode cX12_taken 74 = .ok (.iload_n 2, 1) := by decide +kernel
theorem dX12_taken_75 : decode cX12_taken 75 = .ok (.bipush 10, 2) := by decide +kernel
theorem dX12_taken_77 : decode cX12_taken 77 = .ok (.if_icmp .ge 20, 3) := by decide +kernel
theorem dX12_taken_80 : decode cX12_taken 80 = .ok (.iload_n 3, 1) := by decide +kernel
theorem dX12_taken_81 : decode cX12_taken 81 = .ok (.iload_n 2, 1) := by decide +kernel
theorem dX12_taken_82 : decode cX12_taken 82 = .ok (.invokestatic 358, 3) := by decide +kernel
theorem dX12_taken_85 : decode cX12_taken 85 = .ok (.ifCond .eq 12, 3) := by decide +kernel
theorem dX12_taken_88 : decode cX12_taken 88 = .ok (.aload_n 0, 1) := by decide +kernel
theorem dX12_taken_89 : decode cX12_taken 89 = .ok (.getfield 87, 3) := by decide +kernel
theorem dX12_taken_92 : decode cX12_taken 92 = .ok (.iload_n 1, 1) := by decide +kernel
theorem dX12_taken_93 : decode cX12_taken 93 = .ok (.iaload, 1) := by decide +kernel
theorem dX12_taken_94 : decode cX12_taken 94 = .ok (.goto 5, 3) := by decide +kernel
theorem dX12_taken_97 : decode cX12_taken 97 = .ok (.bipush (-13), 2) := by decide +kernel
theorem dX12_taken_99 : decode cX12_taken 99 = .ok (.ireturn, 1) := by decide +kernel
theorem dX12_ran_0 : decode cX12_ran 0 = .ok (.aload_n 0, 1) := by decide +kernel
theorem dX12_ran_1 : decode cX12_ran 1 = .ok (.getfield 361, 3) := by decide +kernel
theorem dX12_ran_4 : decode cX12_ran 4 = .ok (.bipush 30, 2) := by decide +kernel
theorem dX12_ran_6 : decode cX12_ran 6 = .ok (.if_icmp .ge 23, 3) := by decide +kernel
theorem dX12_ran_9 : decode cX12_ran 9 = .ok (.aload_n 0, 1) := by decide +kernel
theorem dX12_ran_10 : decode cX12_ran 10 = .ok (.getfield 93, 3) := by decide +kernel
theorem dX12_ran_13 : decode cX12_ran 13 = .ok (.aload_n 0, 1) := by decide +kernel
theorem dX12_ran_14 : decode cX12_ran 14 = .ok (.getfield 361, 3) := by decide +kernel
theorem dX12_ran_17 : decode cX12_ran 17 = .ok (.iload_n 1, 1) := by decide +kernel
theorem dX12_ran_18 : decode cX12_ran 18 = .ok (.iastore, 1) := by decide +kernel
theorem dX12_ran_19 : decode cX12_ran 19 = .ok (.aload_n 0, 1) := by decide +kernel
theorem dX12_ran_20 : decode cX12_ran 20 = .ok (.dup, 1) := by decide +kernel
theorem dX12_ran_21 : decode cX12_ran 21 = .ok (.getfield 361, 3) := by decide +kernel
theorem dX12_ran_24 : decode cX12_ran 24 = .ok (.iconst 1, 1) := by decide +kernel
theorem dX12_ran_25 : decode cX12_ran 25 = .ok (.iadd, 1) := by decide +kernel
theorem dX12_ran_26 : decode cX12_ran 26 = .ok (.putfield 361, 3) := by decide +kernel
theorem dX12_ran_29 : decode cX12_ran 29 = .ok (.return_, 1) := by decide +kernel
theorem dX12_seesIt_0 : decode cX12_seesIt 0 = .ok (.aload_n 0, 1) := by decide +kernel
theorem dX12_seesIt_1 : decode cX12_seesIt 1 = .ok (.getfield 364, 3) := by decide +kernel
theorem dX12_seesIt_4 : decode cX12_seesIt 4 = .ok (.bipush 6, 2) := by decide +kernel
theorem dX12_seesIt_6 : decode cX12_seesIt 6 = .ok (.if_icmp .ne 16, 3) := by decide +kernel
theorem dX12_seesIt_9 : decode cX12_seesIt 9 = .ok (.aload_n 0, 1) := by decide +kernel
theorem dX12_seesIt_10 : decode cX12_seesIt 10 = .ok (.bipush 70, 2) := by decide +kernel
theorem dX12_seesIt_12 : decode cX12_seesIt 12 = .ok (.invokevirtual 367, 3) := by decide +kernel
theorem dX12_seesIt_15 : decode cX12_seesIt 15 = .ok (.iload_n 1, 1) := by decide +kernel
theorem dX12_seesIt_16 : decode cX12_seesIt 16 = .ok (.aload_n 0, 1) := by decide +kernel
theorem dX12_seesIt_17 : decode cX12_seesIt 17 = .ok (.getfield 370, 3) := by decide +kernel
theorem dX12_seesIt_20 : decode cX12_seesIt 20 = .ok (.imul, 1) := by decide +kernel
theorem dX12_seesIt_21 : decode cX12_seesIt 21 = .ok (.ireturn, 1) := by decide +kernel
theorem dX12_seesIt_22 : decode cX12_seesIt 22 = .ok (.aload_n 0, 1) := by decide +kernel
theorem dX12_seesIt_23 : decode cX12_seesIt 23 = .ok (.getfield 364, 3) := by decide +kernel
theorem dX12_seesIt_26 : decode cX12_seesIt 26 = .ok (.iconst 4, 1) := by decide +kernel
theorem dX12_seesIt_27 : decode cX12_seesIt 27 = .ok (.if_icmp .ne 9, 3) := by decide +kernel
theorem dX12_seesIt_30 : decode cX12_seesIt 30 = .ok (.aload_n 0, 1) := by decide +kernel
theorem dX12_seesIt_31 : decode cX12_seesIt 31 = .ok (.bipush 50, 2) := by decide +kernel
theorem dX12_seesIt_33 : decode cX12_seesIt 33 = .ok (.invokevirtual 367, 3) := by decide +kernel
theorem dX12_seesIt_36 : decode cX12_seesIt 36 = .ok (.aload_n 0, 1) := by decide +kernel
theorem dX12_seesIt_37 : decode cX12_seesIt 37 = .ok (.getfield 364, 3) := by decide +kernel
theorem dX12_seesIt_40 : decode cX12_seesIt 40 = .ok (.iconst 5, 1) := by decide +kernel
theorem dX12_seesIt_41 : decode cX12_seesIt 41 = .ok (.if_icmp .ne 9, 3) := by decide +kernel
theorem dX12_seesIt_44 : decode cX12_seesIt 44 = .ok (.aload_n 0, 1) := by decide +kernel
theorem dX12_seesIt_45 : decode cX12_seesIt 45 = .ok (.bipush 60, 2) := by decide +kernel
theorem dX12_seesIt_47 : decode cX12_seesIt 47 = .ok (.invokevirtual 367, 3) := by decide +kernel
theorem dX12_seesIt_50 : decode cX12_seesIt 50 = .ok (.aload_n 0, 1) := by decide +kernel
theorem dX12_seesIt_51 : decode cX12_seesIt 51 = .ok (.getfield 364, 3) := by decide +kernel
theorem dX12_seesIt_54 : decode cX12_seesIt 54 = .ok (.iconst 2, 1) := by decide +kernel
theorem dX12_seesIt_55 : decode cX12_seesIt 55 = .ok (.if_icmp .eq 11, 3) := by decide +kernel
theorem dX12_seesIt_58 : decode cX12_seesIt 58 = .ok (.aload_n 0, 1) := by decide +kernel
theorem dX12_seesIt_59 : decode cX12_seesIt 59 = .ok (.getfield 364, 3) := by decide +kernel
theorem dX12_seesIt_62 : decode cX12_seesIt 62 = .ok (.iconst 5, 1) := by decide +kernel
theorem dX12_seesIt_63 : decode cX12_seesIt 63 = .ok (.if_icmp .ne 9, 3) := by decide +kernel
theorem dX12_seesIt_66 : decode cX12_seesIt 66 = .ok (.aload_n 0, 1) := by decide +kernel
theorem dX12_seesIt_67 : decode cX12_seesIt 67 = .ok (.bipush 30, 2) := by decide +kernel
theorem dX12_seesIt_69 : decode cX12_seesIt 69 = .ok (.invokevirtual 367, 3) := by decide +kernel
theorem dX12_seesIt_72 : decode cX12_seesIt 72 = .ok (.aload_n 0, 1) := by decide +kernel
theorem dX12_seesIt_73 : decode cX12_seesIt 73 = .ok (.bipush 10, 2) := by decide +kernel
theorem dX12_seesIt_75 : decode cX12_seesIt 75 = .ok (.invokevirtual 367, 3) := by decide +kernel
theorem dX12_seesIt_78 : decode cX12_seesIt 78 = .ok (.iload_n 1, 1) := by decide +kernel
theorem dX12_seesIt_79 : decode cX12_seesIt 79 = .ok (.aload_n 0, 1) := by decide +kernel
theorem dX12_seesIt_80 : decode cX12_seesIt 80 = .ok (.getfield 370, 3) := by decide +kernel
theorem dX12_seesIt_83 : decode cX12_seesIt 83 = .ok (.iadd, 1) := by decide +kernel
theorem dX12_seesIt_84 : decode cX12_seesIt 84 = .ok (.istore_n 2, 1) := by decide +kernel
theorem dX12_seesIt_85 : decode cX12_seesIt 85 = .ok (.iload_n 2, 1) := by decide +kernel
theorem dX12_seesIt_86 : decode cX12_seesIt 86 = .ok (.aload_n 0, 1) := by decide +kernel
theorem dX12_seesIt_87 : decode cX12_seesIt 87 = .ok (.getfield 364, 3) := by decide +kernel
theorem dX12_seesIt_90 : decode cX12_seesIt 90 = .ok (.iconst 2, 1) := by decide +kernel
theorem dX12_seesIt_91 : decode cX12_seesIt 91 = .ok (.if_icmp .eq 11, 3) := by decide +kernel
theorem dX12_seesIt_94 : decode cX12_seesIt 94 = .ok (.aload_n 0, 1) := by decide +kernel
theorem dX12_seesIt_95 : decode cX12_seesIt 95 = .ok (.getfield 364, 3) := by decide +kernel
theorem dX12_seesIt_98 : decode cX12_seesIt 98 = .ok (.iconst 5, 1) := by decide +kernel
theorem dX12_seesIt_99 : decode cX12_seesIt 99 = .ok (.if_icmp .ne 10, 3) := by decide +kernel
theorem dX12_seesIt_102 : decode cX12_seesIt 102 = .ok (.aload_n 0, 1) := by decide +kernel
theorem dX12_seesIt_103 : decode cX12_seesIt 103 = .ok (.getfield 373, 3) := by decide +kernel
theorem dX12_seesIt_106 : decode cX12_seesIt 106 = .ok (.goto 4, 3) := by decide +kernel
theorem dX12_seesIt_109 : decode cX12_seesIt 109 = .ok (.iconst 0, 1) := by decide +kernel
theorem dX12_seesIt_110 : decode cX12_seesIt 110 = .ok (.isub, 1) := by decide +kernel
theorem dX12_seesIt_111 : decode cX12_seesIt 111 = .ok (.istore_n 2, 1) := by decide +kernel
theorem dX12_seesIt_112 : decode cX12_seesIt 112 = .ok (.aload_n 0, 1) := by decide +kernel
theorem dX12_seesIt_113 : decode cX12_seesIt 113 = .ok (.getfield 364, 3) := by decide +kernel
theorem dX12_seesIt_116 : decode cX12_seesIt 116 = .ok (.iconst 4, 1) := by decide +kernel
theorem dX12_seesIt_117 : decode cX12_seesIt 117 = .ok (.if_icmp .ne 9, 3) := by decide +kernel
theorem dX12_seesIt_120 : decode cX12_seesIt 120 = .ok (.iload_n 2, 1) := by decide +kernel
theorem dX12_seesIt_121 : decode cX12_seesIt 121 = .ok (.iconst 3, 1) := by decide +kernel
theorem dX12_seesIt_122 : decode cX12_seesIt 122 = .ok (.ixor, 1) := by decide +kernel
theorem dX12_seesIt_123 : decode cX12_seesIt 123 = .ok (.goto 18, 3) := by decide +kernel
theorem dX12_seesIt_126 : decode cX12_seesIt 126 = .ok (.aload_n 0, 1) := by decide +kernel
theorem dX12_seesIt_127 : decode cX12_seesIt 127 = .ok (.getfield 364, 3) := by decide +kernel
theorem dX12_seesIt_130 : decode cX12_seesIt 130 = .ok (.iconst 5, 1) := by decide +kernel
theorem dX12_seesIt_131 : decode cX12_seesIt 131 = .ok (.if_icmp .ne 9, 3) := by decide +kernel
theorem dX12_seesIt_134 : decode cX12_seesIt 134 = .ok (.iconst 0, 1) := by decide +kernel
theorem dX12_seesIt_135 : decode cX12_seesIt 135 = .ok (.iload_n 2, 1) := by decide +kernel
theorem dX12_seesIt_136 : decode cX12_seesIt 136 = .ok (.isub, 1) := by decide +kernel
theorem dX12_seesIt_137 : decode cX12_seesIt 137 = .ok (.goto 4, 3) := by decide +kernel
theorem dX12_seesIt_140 : decode cX12_seesIt 140 = .ok (.iload_n 2, 1) := by decide +kernel
theorem dX12_seesIt_141 : decode cX12_seesIt 141 = .ok (.ireturn, 1) := by decide +kernel
theorem dX12_sightBends_0 : decode cX12_sightBends 0 = .ok (.aload_n 0, 1) := by decide +kernel
theorem dX12_sightBends_1 : decode cX12_sightBends 1 = .ok (.bipush 11, 2) := by decide +kernel
theorem dX12_sightBends_3 : decode cX12_sightBends 3 = .ok (.invokevirtual 367, 3) := by decide +kernel
theorem dX12_sightBends_6 : decode cX12_sightBends 6 = .ok (.aload_n 0, 1) := by decide +kernel
theorem dX12_sightBends_7 : decode cX12_sightBends 7 = .ok (.iload_n 1, 1) := by decide +kernel
theorem dX12_sightBends_8 : decode cX12_sightBends 8 = .ok (.invokevirtual 376, 3) := by decide +kernel
theorem dX12_sightBends_11 : decode cX12_sightBends 11 = .ok (.iconst 2, 1) := by decide +kernel
theorem dX12_sightBends_12 : decode cX12_sightBends 12 = .ok (.imul, 1) := by decide +kernel
theorem dX12_sightBends_13 : decode cX12_sightBends 13 = .ok (.ireturn, 1) := by decide +kernel
theorem dX12_bendsIt_0 : decode cX12_bendsIt 0 = .ok (.aload_n 0, 1) := by decide +kernel
theorem dX12_bendsIt_1 : decode cX12_bendsIt 1 = .ok (.getfield 364, 3) := by decide +kernel
theorem dX12_bendsIt_4 : decode cX12_bendsIt 4 = .ok (.tableswitch 95 1 6 #[40, 95, 95, 40, 55, 78], 40) := by decide +kernel
theorem dX12_bendsIt_44 : decode cX12_bendsIt 44 = .ok (.aload_n 0, 1) := by decide +kernel
theorem dX12_bendsIt_45 : decode cX12_bendsIt 45 = .ok (.bipush 20, 2) := by decide +kernel
theorem dX12_bendsIt_47 : decode cX12_bendsIt 47 = .ok (.invokevirtual 367, 3) := by decide +kernel
theorem dX12_bendsIt_50 : decode cX12_bendsIt 50 = .ok (.aload_n 0, 1) := by decide +kernel
theorem dX12_bendsIt_51 : decode cX12_bendsIt 51 = .ok (.iload_n 1, 1) := by decide +kernel
theorem dX12_bendsIt_52 : decode cX12_bendsIt 52 = .ok (.invokevirtual 379, 3) := by decide +kernel
theorem dX12_bendsIt_55 : decode cX12_bendsIt 55 = .ok (.bipush 7, 2) := by decide +kernel
theorem dX12_bendsIt_57 : decode cX12_bendsIt 57 = .ok (.iadd, 1) := by decide +kernel
theorem dX12_bendsIt_58 : decode cX12_bendsIt 58 = .ok (.ireturn, 1) := by decide +kernel
theorem dX12_bendsIt_59 : decode cX12_bendsIt 59 = .ok (.aload_n 0, 1) := by decide +kernel
theorem dX12_bendsIt_60 : decode cX12_bendsIt 60 = .ok (.bipush 61, 2) := by decide +kernel
theorem dX12_bendsIt_62 : decode cX12_bendsIt 62 = .ok (.invokevirtual 367, 3) := by decide +kernel
theorem dX12_bendsIt_65 : decode cX12_bendsIt 65 = .ok (.aload_n 0, 1) := by decide +kernel
theorem dX12_bendsIt_66 : decode cX12_bendsIt 66 = .ok (.iload_n 1, 1) := by decide +kernel
theorem dX12_bendsIt_67 : decode cX12_bendsIt 67 = .ok (.invokevirtual 379, 3) := by decide +kernel
theorem dX12_bendsIt_70 : decode cX12_bendsIt 70 = .ok (.istore_n 2, 1) := by decide +kernel
theorem dX12_bendsIt_71 : decode cX12_bendsIt 71 = .ok (.iload_n 2, 1) := by decide +kernel
theorem dX12_bendsIt_72 : decode cX12_bendsIt 72 = .ok (.aload_n 0, 1) := by decide +kernel
theorem dX12_bendsIt_73 : decode cX12_bendsIt 73 = .ok (.aload_n 0, 1) := by decide +kernel
theorem dX12_bendsIt_74 : decode cX12_bendsIt 74 = .ok (.getfield 373, 3) := by decide +kernel
theorem dX12_bendsIt_77 : decode cX12_bendsIt 77 = .ok (.invokevirtual 376, 3) := by decide +kernel
theorem dX12_bendsIt_80 : decode cX12_bendsIt 80 = .ok (.iadd, 1) := by decide +kernel
theorem dX12_bendsIt_81 : decode cX12_bendsIt 81 = .ok (.ireturn, 1) := by decide +kernel
theorem dX12_bendsIt_82 : decode cX12_bendsIt 82 = .ok (.aload_n 0, 1) := by decide +kernel
theorem dX12_bendsIt_83 : decode cX12_bendsIt 83 = .ok (.bipush 71, 2) := by decide +kernel
theorem dX12_bendsIt_85 : decode cX12_bendsIt 85 = .ok (.invokevirtual 367, 3) := by decide +kernel
theorem dX12_bendsIt_88 : decode cX12_bendsIt 88 = .ok (.aload_n 0, 1) := by decide +kernel
theorem dX12_bendsIt_89 : decode cX12_bendsIt 89 = .ok (.iload_n 1, 1) := by decide +kernel
theorem dX12_bendsIt_90 : decode cX12_bendsIt 90 = .ok (.invokevirtual 376, 3) := by decide +kernel
theorem dX12_bendsIt_93 : decode cX12_bendsIt 93 = .ok (.aload_n 0, 1) := by decide +kernel
theorem dX12_bendsIt_94 : decode cX12_bendsIt 94 = .ok (.getfield 373, 3) := by decide +kernel
theorem dX12_bendsIt_97 : decode cX12_bendsIt 97 = .ok (.isub, 1) := by decide +kernel
theorem dX12_bendsIt_98 : decode cX12_bendsIt 98 = .ok (.ireturn, 1) := by decide +kernel
theorem dX12_bendsIt_99 : decode cX12_bendsIt 99 = .ok (.aload_n 0, 1) := by decide +kernel
theorem dX12_bendsIt_100 : decode cX12_bendsIt 100 = .ok (.iload_n 1, 1) := by decide +kernel
theorem dX12_bendsIt_101 : decode cX12_bendsIt 101 = .ok (.invokevirtual 379, 3) := by decide +kernel
theorem dX12_bendsIt_104 : decode cX12_bendsIt 104 = .ok (.ireturn, 1) := by decide +kernel
theorem dX12_sightLeans_0 : decode cX12_sightLeans 0 = .ok (.aload_n 0, 1) := by decide +kernel
theorem dX12_sightLeans_1 : decode cX12_sightLeans 1 = .ok (.bipush 12, 2) := by decide +kernel
theorem dX12_sightLeans_3 : decode cX12_sightLeans 3 = .ok (.invokevirtual 367, 3) := by decide +kernel
theorem dX12_sightLeans_6 : decode cX12_sightLeans 6 = .ok (.aload_n 0, 1) := by decide +kernel
theorem dX12_sightLeans_7 : decode cX12_sightLeans 7 = .ok (.getfield 370, 3) := by decide +kernel
theorem dX12_sightLeans_10 : decode cX12_sightLeans 10 = .ok (.aload_n 0, 1) := by decide +kernel
theorem dX12_sightLeans_11 : decode cX12_sightLeans 11 = .ok (.getfield 373, 3) := by decide +kernel
theorem dX12_sightLeans_14 : decode cX12_sightLeans 14 = .ok (.if_icmp .ne 10, 3) := by decide +kernel
theorem dX12_sightLeans_17 : decode cX12_sightLeans 17 = .ok (.aload_n 0, 1) := by decide +kernel
theorem dX12_sightLeans_18 : decode cX12_sightLeans 18 = .ok (.iconst 1, 1) := by decide +kernel
theorem dX12_sightLeans_19 : decode cX12_sightLeans 19 = .ok (.putfield 382, 3) := by decide +kernel
theorem dX12_sightLeans_22 : decode cX12_sightLeans 22 = .ok (.iconst 0, 1) := by decide +kernel
theorem dX12_sightLeans_23 : decode cX12_sightLeans 23 = .ok (.ireturn, 1) := by decide +kernel
theorem dX12_sightLeans_24 : decode cX12_sightLeans 24 = .ok (.iload_n 1, 1) := by decide +kernel
theorem dX12_sightLeans_25 : decode cX12_sightLeans 25 = .ok (.aload_n 0, 1) := by decide +kernel
theorem dX12_sightLeans_26 : decode cX12_sightLeans 26 = .ok (.getfield 370, 3) := by decide +kernel
theorem dX12_sightLeans_29 : decode cX12_sightLeans 29 = .ok (.aload_n 0, 1) := by decide +kernel
theorem dX12_sightLeans_30 : decode cX12_sightLeans 30 = .ok (.getfield 373, 3) := by decide +kernel
theorem dX12_sightLeans_33 : decode cX12_sightLeans 33 = .ok (.isub, 1) := by decide +kernel
theorem dX12_sightLeans_34 : decode cX12_sightLeans 34 = .ok (.idiv, 1) := by decide +kernel
theorem dX12_sightLeans_35 : decode cX12_sightLeans 35 = .ok (.ireturn, 1) := by decide +kernel
theorem dX12_leansIt_0 : decode cX12_leansIt 0 = .ok (.aload_n 0, 1) := by decide +kernel
theorem dX12_leansIt_1 : decode cX12_leansIt 1 = .ok (.getfield 364, 3) := by decide +kernel
theorem dX12_leansIt_4 : decode cX12_leansIt 4 = .ok (.bipush 6, 2) := by decide +kernel
theorem dX12_leansIt_6 : decode cX12_leansIt 6 = .ok (.if_icmp .ne 16, 3) := by decide +kernel
theorem dX12_leansIt_9 : decode cX12_leansIt 9 = .ok (.aload_n 0, 1) := by decide +kernel
theorem dX12_leansIt_10 : decode cX12_leansIt 10 = .ok (.bipush 72, 2) := by decide +kernel
theorem dX12_leansIt_12 : decode cX12_leansIt 12 = .ok (.invokevirtual 367, 3) := by decide +kernel
theorem dX12_leansIt_15 : decode cX12_leansIt 15 = .ok (.iload_n 1, 1) := by decide +kernel
theorem dX12_leansIt_16 : decode cX12_leansIt 16 = .ok (.aload_n 0, 1) := by decide +kernel
theorem dX12_leansIt_17 : decode cX12_leansIt 17 = .ok (.getfield 370, 3) := by decide +kernel
theorem dX12_leansIt_20 : decode cX12_leansIt 20 = .ok (.ior, 1) := by decide +kernel
theorem dX12_leansIt_21 : decode cX12_leansIt 21 = .ok (.ireturn, 1) := by decide +kernel
theorem dX12_leansIt_22 : decode cX12_leansIt 22 = .ok (.aload_n 0, 1) := by decide +kernel
theorem dX12_leansIt_23 : decode cX12_leansIt 23 = .ok (.getfield 364, 3) := by decide +kernel
theorem dX12_leansIt_26 : decode cX12_leansIt 26 = .ok (.iconst 3, 1) := by decide +kernel
theorem dX12_leansIt_27 : decode cX12_leansIt 27 = .ok (.if_icmp .ne 19, 3) := by decide +kernel
theorem dX12_leansIt_30 : decode cX12_leansIt 30 = .ok (.aload_n 0, 1) := by decide +kernel
theorem dX12_leansIt_31 : decode cX12_leansIt 31 = .ok (.bipush 40, 2) := by decide +kernel
theorem dX12_leansIt_33 : decode cX12_leansIt 33 = .ok (.invokevirtual 367, 3) := by decide +kernel
theorem dX12_leansIt_36 : decode cX12_leansIt 36 = .ok (.aload_n 0, 1) := by decide +kernel
theorem dX12_leansIt_37 : decode cX12_leansIt 37 = .ok (.iload_n 1, 1) := by decide +kernel
theorem dX12_leansIt_38 : decode cX12_leansIt 38 = .ok (.iconst 1, 1) := by decide +kernel
theorem dX12_leansIt_39 : decode cX12_leansIt 39 = .ok (.iadd, 1) := by decide +kernel
theorem dX12_leansIt_40 : decode cX12_leansIt 40 = .ok (.invokevirtual 386, 3) := by decide +kernel
theorem dX12_leansIt_43 : decode cX12_leansIt 43 = .ok (.iconst 2, 1) := by decide +kernel
theorem dX12_leansIt_44 : decode cX12_leansIt 44 = .ok (.imul, 1) := by decide +kernel
theorem dX12_leansIt_45 : decode cX12_leansIt 45 = .ok (.ireturn, 1) := by decide +kernel
theorem dX12_leansIt_46 : decode cX12_leansIt 46 = .ok (.aload_n 0, 1) := by decide +kernel
theorem dX12_leansIt_47 : decode cX12_leansIt 47 = .ok (.iload_n 1, 1) := by decide +kernel
theorem dX12_leansIt_48 : decode cX12_leansIt 48 = .ok (.invokevirtual 386, 3) := by decide +kernel
theorem dX12_leansIt_51 : decode cX12_leansIt 51 = .ok (.ireturn, 1) := by decide +kernel
theorem dX12_sightTells_0 : decode cX12_sightTells 0 = .ok (.aload_n 0, 1) := by decide +kernel
theorem dX12_sightTells_1 : decode cX12_sightTells 1 = .ok (.bipush 13, 2) := by decide +kernel
theorem dX12_sightTells_3 : decode cX12_sightTells 3 = .ok (.invokevirtual 367, 3) := by decide +kernel
theorem dX12_sightTells_6 : decode cX12_sightTells 6 = .ok (.aload_n 0, 1) := by decide +kernel
theorem dX12_sightTells_7 : decode cX12_sightTells 7 = .ok (.iload_n 1, 1) := by decide +kernel
theorem dX12_sightTells_8 : decode cX12_sightTells 8 = .ok (.invokevirtual 389, 3) := by decide +kernel
theorem dX12_sightTells_11 : decode cX12_sightTells 11 = .ok (.aload_n 0, 1) := by decide +kernel
theorem dX12_sightTells_12 : decode cX12_sightTells 12 = .ok (.getfield 373, 3) := by decide +kernel
theorem dX12_sightTells_15 : decode cX12_sightTells 15 = .ok (.ixor, 1) := by decide +kernel
theorem dX12_sightTells_16 : decode cX12_sightTells 16 = .ok (.ireturn, 1) := by decide +kernel
theorem dX12_tellsIt_0 : decode cX12_tellsIt 0 = .ok (.aload_n 0, 1) := by decide +kernel
theorem dX12_tellsIt_1 : decode cX12_tellsIt 1 = .ok (.getfield 364, 3) := by decide +kernel
theorem dX12_tellsIt_4 : decode cX12_tellsIt 4 = .ok (.bipush 6, 2) := by decide +kernel
theorem dX12_tellsIt_6 : decode cX12_tellsIt 6 = .ok (.if_icmp .ne 26, 3) := by decide +kernel
theorem dX12_tellsIt_9 : decode cX12_tellsIt 9 = .ok (.aload_n 0, 1) := by decide +kernel
theorem dX12_tellsIt_10 : decode cX12_tellsIt 10 = .ok (.bipush 73, 2) := by decide +kernel
theorem dX12_tellsIt_12 : decode cX12_tellsIt 12 = .ok (.invokevirtual 367, 3) := by decide +kernel
theorem dX12_tellsIt_15 : decode cX12_tellsIt 15 = .ok (.aload_n 0, 1) := by decide +kernel
theorem dX12_tellsIt_16 : decode cX12_tellsIt 16 = .ok (.iload_n 1, 1) := by decide +kernel
theorem dX12_tellsIt_17 : decode cX12_tellsIt 17 = .ok (.invokevirtual 389, 3) := by decide +kernel
theorem dX12_tellsIt_20 : decode cX12_tellsIt 20 = .ok (.istore_n 2, 1) := by decide +kernel
theorem dX12_tellsIt_21 : decode cX12_tellsIt 21 = .ok (.iload_n 2, 1) := by decide +kernel
theorem dX12_tellsIt_22 : decode cX12_tellsIt 22 = .ok (.aload_n 0, 1) := by decide +kernel
theorem dX12_tellsIt_23 : decode cX12_tellsIt 23 = .ok (.aload_n 0, 1) := by decide +kernel
theorem dX12_tellsIt_24 : decode cX12_tellsIt 24 = .ok (.getfield 373, 3) := by decide +kernel
theorem dX12_tellsIt_27 : decode cX12_tellsIt 27 = .ok (.invokevirtual 392, 3) := by decide +kernel
theorem dX12_tellsIt_30 : decode cX12_tellsIt 30 = .ok (.iadd, 1) := by decide +kernel
theorem dX12_tellsIt_31 : decode cX12_tellsIt 31 = .ok (.ireturn, 1) := by decide +kernel
theorem dX12_tellsIt_32 : decode cX12_tellsIt 32 = .ok (.aload_n 0, 1) := by decide +kernel
theorem dX12_tellsIt_33 : decode cX12_tellsIt 33 = .ok (.getfield 364, 3) := by decide +kernel
theorem dX12_tellsIt_36 : decode cX12_tellsIt 36 = .ok (.iconst 4, 1) := by decide +kernel
theorem dX12_tellsIt_37 : decode cX12_tellsIt 37 = .ok (.if_icmp .ne 26, 3) := by decide +kernel
theorem dX12_tellsIt_40 : decode cX12_tellsIt 40 = .ok (.aload_n 0, 1) := by decide +kernel
theorem dX12_tellsIt_41 : decode cX12_tellsIt 41 = .ok (.bipush 51, 2) := by decide +kernel
theorem dX12_tellsIt_43 : decode cX12_tellsIt 43 = .ok (.invokevirtual 367, 3) := by decide +kernel
theorem dX12_tellsIt_46 : decode cX12_tellsIt 46 = .ok (.aload_n 0, 1) := by decide +kernel
theorem dX12_tellsIt_47 : decode cX12_tellsIt 47 = .ok (.iload_n 1, 1) := by decide +kernel
theorem dX12_tellsIt_48 : decode cX12_tellsIt 48 = .ok (.invokevirtual 395, 3) := by decide +kernel
theorem dX12_tellsIt_51 : decode cX12_tellsIt 51 = .ok (.istore_n 2, 1) := by decide +kernel
theorem dX12_tellsIt_52 : decode cX12_tellsIt 52 = .ok (.iload_n 2, 1) := by decide +kernel
theorem dX12_tellsIt_53 : decode cX12_tellsIt 53 = .ok (.aload_n 0, 1) := by decide +kernel
theorem dX12_tellsIt_54 : decode cX12_tellsIt 54 = .ok (.aload_n 0, 1) := by decide +kernel
theorem dX12_tellsIt_55 : decode cX12_tellsIt 55 = .ok (.getfield 373, 3) := by decide +kernel
theorem dX12_tellsIt_58 : decode cX12_tellsIt 58 = .ok (.invokevirtual 392, 3) := by decide +kernel
theorem dX12_tellsIt_61 : decode cX12_tellsIt 61 = .ok (.iadd, 1) := by decide +kernel
theorem dX12_tellsIt_62 : decode cX12_tellsIt 62 = .ok (.ireturn, 1) := by decide +kernel
theorem dX12_tellsIt_63 : decode cX12_tellsIt 63 = .ok (.aload_n 0, 1) := by decide +kernel
theorem dX12_tellsIt_64 : decode cX12_tellsIt 64 = .ok (.iload_n 1, 1) := by decide +kernel
theorem dX12_tellsIt_65 : decode cX12_tellsIt 65 = .ok (.invokevirtual 395, 3) := by decide +kernel
theorem dX12_tellsIt_68 : decode cX12_tellsIt 68 = .ok (.ireturn, 1) := by decide +kernel
theorem dX12_act_0 : decode cX12_act 0 = .ok (.aload_n 0, 1) := by decide +kernel
theorem dX12_act_1 : decode cX12_act 1 = .ok (.iconst 0, 1) := by decide +kernel
theorem dX12_act_2 : decode cX12_act 2 = .ok (.putfield 361, 3) := by decide +kernel
theorem dX12_act_5 : decode cX12_act 5 = .ok (.iload_n 1, 1) := by decide +kernel
theorem dX12_act_6 : decode cX12_act 6 = .ok (.invokestatic 344, 3) := by decide +kernel
theorem dX12_act_9 : decode cX12_act 9 = .ok (.ifCond .eq 26, 3) := by decide +kernel
theorem dX12_act_12 : decode cX12_act 12 = .ok (.iload_n 2, 1) := by decide +kernel
theorem dX12_act_13 : decode cX12_act 13 = .ok (.iconst 0, 1) := by decide +kernel
theorem dX12_act_14 : decode cX12_act 14 = .ok (.iconst 3, 1) := by decide +kernel
theorem dX12_act_15 : decode cX12_act 15 = .ok (.invokestatic 106, 3) := by decide +kernel
theorem dX12_act_18 : decode cX12_act 18 = .ok (.ifCond .eq 17, 3) := by decide +kernel
theorem dX12_act_21 : decode cX12_act 21 = .ok (.aload_n 0, 1) := by decide +kernel
theorem dX12_act_22 : decode cX12_act 22 = .ok (.iload_n 1, 1) := by decide +kernel
theorem dX12_act_23 : decode cX12_act 23 = .ok (.invokevirtual 355, 3) := by decide +kernel
theorem dX12_act_26 : decode cX12_act 26 = .ok (.iconst 1, 1) := by decide +kernel
theorem dX12_act_27 : decode cX12_act 27 = .ok (.bipush 6, 2) := by decide +kernel
theorem dX12_act_29 : decode cX12_act 29 = .ok (.invokestatic 106, 3) := by decide +kernel
theorem dX12_act_32 : decode cX12_act 32 = .ok (.ifCond .ne 5, 3) := by decide +kernel
theorem dX12_act_35 : decode cX12_act 35 = .ok (.iconst 0, 1) := by decide +kernel
theorem dX12_act_36 : decode cX12_act 36 = .ok (.ireturn, 1) := by decide +kernel
theorem dX12_act_37 : decode cX12_act 37 = .ok (.aload_n 0, 1) := by decide +kernel
theorem dX12_act_38 : decode cX12_act 38 = .ok (.aload_n 0, 1) := by decide +kernel
theorem dX12_act_39 : decode cX12_act 39 = .ok (.iload_n 1, 1) := by decide +kernel
theorem dX12_act_40 : decode cX12_act 40 = .ok (.invokevirtual 355, 3) := by decide +kernel
theorem dX12_act_43 : decode cX12_act 43 = .ok (.putfield 364, 3) := by decide +kernel
theorem dX12_act_46 : decode cX12_act 46 = .ok (.aload_n 0, 1) := by decide +kernel
theorem dX12_act_47 : decode cX12_act 47 = .ok (.aload_n 0, 1) := by decide +kernel
theorem dX12_act_48 : decode cX12_act 48 = .ok (.getfield 87, 3) := by decide +kernel
theorem dX12_act_51 : decode cX12_act 51 = .ok (.iload_n 1, 1) := by decide +kernel
theorem dX12_act_52 : decode cX12_act 52 = .ok (.iaload, 1) := by decide +kernel
theorem dX12_act_53 : decode cX12_act 53 = .ok (.putfield 373, 3) := by decide +kernel
theorem dX12_act_56 : decode cX12_act 56 = .ok (.aload_n 0, 1) := by decide +kernel
theorem dX12_act_57 : decode cX12_act 57 = .ok (.aload_n 0, 1) := by decide +kernel
theorem dX12_act_58 : decode cX12_act 58 = .ok (.getfield 364, 3) := by decide +kernel
theorem dX12_act_61 : decode cX12_act 61 = .ok (.bipush 6, 2) := by decide +kernel
theorem dX12_act_63 : decode cX12_act 63 = .ok (.if_icmp .ne 19, 3) := by decide +kernel
theorem dX12_act_66 : decode cX12_act 66 = .ok (.aload_n 0, 1) := by decide +kernel
theorem dX12_act_67 : decode cX12_act 67 = .ok (.getfield 16, 3) := by decide +kernel
theorem dX12_act_70 : decode cX12_act 70 = .ok (.iconst 2, 1) := by decide +kernel
theorem dX12_act_71 : decode cX12_act 71 = .ok (.aload_n 0, 1) := by decide +kernel
theorem dX12_act_72 : decode cX12_act 72 = .ok (.getfield 373, 3) := by decide +kernel
theorem dX12_act_75 : decode cX12_act 75 = .ok (.imul, 1) := by decide +kernel
theorem dX12_act_76 : decode cX12_act 76 = .ok (.iconst 1, 1) := by decide +kernel
theorem dX12_act_77 : decode cX12_act 77 = .ok (.iadd, 1) := by decide +kernel
theorem dX12_act_78 : decode cX12_act 78 = .ok (.iaload, 1) := by decide +kernel
theorem dX12_act_79 : decode cX12_act 79 = .ok (.goto 17, 3) := by decide +kernel
theorem dX12_act_82 : decode cX12_act 82 = .ok (.aload_n 0, 1) := by decide +kernel
theorem dX12_act_83 : decode cX12_act 83 = .ok (.getfield 19, 3) := by decide +kernel
theorem dX12_act_86 : decode cX12_act 86 = .ok (.bipush 7, 2) := by decide +kernel
theorem dX12_act_88 : decode cX12_act 88 = .ok (.aload_n 0, 1) := by decide +kernel
theorem dX12_act_89 : decode cX12_act 89 = .ok (.getfield 373, 3) := by decide +kernel
theorem dX12_act_92 : decode cX12_act 92 = .ok (.imul, 1) := by decide +kernel
theorem dX12_act_93 : decode cX12_act 93 = .ok (.iconst 3, 1) := by decide +kernel
theorem dX12_act_94 : decode cX12_act 94 = .ok (.iadd, 1) := by decide +kernel
theorem dX12_act_95 : decode cX12_act 95 = .ok (.iaload, 1) := by decide +kernel
theorem dX12_act_96 : decode cX12_act 96 = .ok (.putfield 370, 3) := by decide +kernel
theorem dX12_act_99 : decode cX12_act 99 = .ok (.aload_n 0, 1) := by decide +kernel
theorem dX12_act_100 : decode cX12_act 100 = .ok (.iconst 0, 1) := by decide +kernel
theorem dX12_act_101 : decode cX12_act 101 = .ok (.putfield 382, 3) := by decide +kernel
theorem dX12_act_104 : decode cX12_act 104 = .ok (.iload_n 2, 1) := by decide +kernel
theorem dX12_act_105 : decode cX12_act 105 = .ok (.ifCond .ne 11, 3) := by decide +kernel
theorem dX12_act_108 : decode cX12_act 108 = .ok (.aload_n 0, 1) := by decide +kernel
theorem dX12_act_109 : decode cX12_act 109 = .ok (.iload_n 3, 1) := by decide +kernel
theorem dX12_act_110 : decode cX12_act 110 = .ok (.invokevirtual 376, 3) := by decide +kernel
theorem dX12_act_113 : decode cX12_act 113 = .ok (.goto 34, 3) := by decide +kernel
theorem dX12_act_116 : decode cX12_act 116 = .ok (.iload_n 2, 1) := by decide +kernel
theorem dX12_act_117 : decode cX12_act 117 = .ok (.iconst 1, 1) := by decide +kernel
theorem dX12_act_118 : decode cX12_act 118 = .ok (.if_icmp .ne 11, 3) := by decide +kernel
theorem dX12_act_121 : decode cX12_act 121 = .ok (.aload_n 0, 1) := by decide +kernel
theorem dX12_act_122 : decode cX12_act 122 = .ok (.iload_n 3, 1) := by decide +kernel
theorem dX12_act_123 : decode cX12_act 123 = .ok (.invokevirtual 389, 3) := by decide +kernel
theorem dX12_act_126 : decode cX12_act 126 = .ok (.goto 21, 3) := by decide +kernel
theorem dX12_act_129 : decode cX12_act 129 = .ok (.iload_n 2, 1) := by decide +kernel
theorem dX12_act_130 : decode cX12_act 130 = .ok (.iconst 2, 1) := by decide +kernel
theorem dX12_act_131 : decode cX12_act 131 = .ok (.if_icmp .ne 11, 3) := by decide +kernel
theorem dX12_act_134 : decode cX12_act 134 = .ok (.aload_n 0, 1) := by decide +kernel
theorem dX12_act_135 : decode cX12_act 135 = .ok (.iload_n 3, 1) := by decide +kernel
theorem dX12_act_136 : decode cX12_act 136 = .ok (.invokevirtual 392, 3) := by decide +kernel
theorem dX12_act_139 : decode cX12_act 139 = .ok (.goto 8, 3) := by decide +kernel
theorem dX12_act_142 : decode cX12_act 142 = .ok (.aload_n 0, 1) := by decide +kernel
theorem dX12_act_143 : decode cX12_act 143 = .ok (.iload_n 3, 1) := by decide +kernel
theorem dX12_act_144 : decode cX12_act 144 = .ok (.invokevirtual 398, 3) := by decide +kernel
theorem dX12_act_147 : decode cX12_act 147 = .ok (.istore 4, 2) := by decide +kernel
theorem dX12_act_149 : decode cX12_act 149 = .ok (.aload_n 0, 1) := by decide +kernel
theorem dX12_act_150 : decode cX12_act 150 = .ok (.getfield 382, 3) := by decide +kernel
theorem dX12_act_153 : decode cX12_act 153 = .ok (.ifCond .eq 8, 3) := by decide +kernel
theorem dX12_act_156 : decode cX12_act 156 = .ok (.bipush (-15), 2) := by decide +kernel
theorem dX12_act_158 : decode cX12_act 158 = .ok (.goto 5, 3) := by decide +kernel
theorem dX12_act_161 : decode cX12_act 161 = .ok (.iload 4, 2) := by decide +kernel
theorem dX12_act_163 : decode cX12_act 163 = .ok (.ireturn, 1) := by decide +kernel
theorem dX12_trace_0 : decode cX12_trace 0 = .ok (.iload_n 1, 1) := by decide +kernel
theorem dX12_trace_1 : decode cX12_trace 1 = .ok (.iconst 0, 1) := by decide +kernel
theorem dX12_trace_2 : decode cX12_trace 2 = .ok (.aload_n 0, 1) := by decide +kernel
theorem dX12_trace_3 : decode cX12_trace 3 = .ok (.getfield 361, 3) := by decide +kernel
theorem dX12_trace_6 : decode cX12_trace 6 = .ok (.iconst 1, 1) := by decide +kernel
theorem dX12_trace_7 : decode cX12_trace 7 = .ok (.isub, 1) := by decide +kernel
theorem dX12_trace_8 : decode cX12_trace 8 = .ok (.invokestatic 106, 3) := by decide +kernel
theorem dX12_trace_11 : decode cX12_trace 11 = .ok (.ifCond .eq 12, 3) := by decide +kernel
theorem dX12_trace_14 : decode cX12_trace 14 = .ok (.aload_n 0, 1) := by decide +kernel
theorem dX12_trace_15 : decode cX12_trace 15 = .ok (.getfield 93, 3) := by decide +kernel
theorem dX12_trace_18 : decode cX12_trace 18 = .ok (.iload_n 1, 1) := by decide +kernel
theorem dX12_trace_19 : decode cX12_trace 19 = .ok (.iaload, 1) := by decide +kernel
theorem dX12_trace_20 : decode cX12_trace 20 = .ok (.goto 5, 3) := by decide +kernel
theorem dX12_trace_23 : decode cX12_trace 23 = .ok (.bipush (-3), 2) := by decide +kernel
theorem dX12_trace_25 : decode cX12_trace 25 = .ok (.ireturn, 1) := by decide +kernel
theorem dX12_countedAll_0 : decode cX12_countedAll 0 = .ok (.aload_n 0, 1) := by decide +kernel
theorem dX12_countedAll_1 : decode cX12_countedAll 1 = .ok (.invokevirtual 149, 3) := by decide +kernel
theorem dX12_countedAll_4 : decode cX12_countedAll 4 = .ok (.iconst 0, 1) := by decide +kernel
theorem dX12_countedAll_5 : decode cX12_countedAll 5 = .ok (.istore_n 1, 1) := by decide +kernel
theorem dX12_countedAll_6 : decode cX12_countedAll 6 = .ok (.iconst 0, 1) := by decide +kernel
theorem dX12_countedAll_7 : decode cX12_countedAll 7 = .ok (.istore_n 2, 1) := by decide +kernel
theorem dX12_countedAll_8 : decode cX12_countedAll 8 = .ok (.iload_n 2, 1) := by decide +kernel
theorem dX12_countedAll_9 : decode cX12_countedAll 9 = .ok (.aload_n 0, 1) := by decide +kernel
theorem dX12_countedAll_10 : decode cX12_countedAll 10 = .ok (.getfield 113, 3) := by decide +kernel
theorem dX12_countedAll_13 : decode cX12_countedAll 13 = .ok (.if_icmp .ge 25, 3) := by decide +kernel
theorem dX12_countedAll_16 : decode cX12_countedAll 16 = .ok (.iload_n 1, 1) := by decide +kernel
theorem dX12_countedAll_17 : decode cX12_countedAll 17 = .ok (.aload_n 0, 1) := by decide +kernel
theorem dX12_countedAll_18 : decode cX12_countedAll 18 = .ok (.iload_n 2, 1) := by decide +kernel
theorem dX12_countedAll_19 : decode cX12_countedAll 19 = .ok (.invokevirtual 197, 3) := by decide +kernel
theorem dX12_countedAll_22 : decode cX12_countedAll 22 = .ok (.ifCond .eq 7, 3) := by decide +kernel
theorem dX12_countedAll_25 : decode cX12_countedAll 25 = .ok (.iconst 1, 1) := by decide +kernel
theorem dX12_countedAll_26 : decode cX12_countedAll 26 = .ok (.goto 4, 3) := by decide +kernel
theorem dX12_countedAll_29 : decode cX12_countedAll 29 = .ok (.iconst 0, 1) := by decide +kernel
theorem dX12_countedAll_30 : decode cX12_countedAll 30 = .ok (.iadd, 1) := by decide +kernel
theorem dX12_countedAll_31 : decode cX12_countedAll 31 = .ok (.istore_n 1, 1) := by decide +kernel
theorem dX12_countedAll_32 : decode cX12_countedAll 32 = .ok (.iinc 2 1, 3) := by decide +kernel
theorem dX12_countedAll_35 : decode cX12_countedAll 35 = .ok (.goto (-27), 3) := by decide +kernel
theorem dX12_countedAll_38 : decode cX12_countedAll 38 = .ok (.iload_n 1, 1) := by decide +kernel
theorem dX12_countedAll_39 : decode cX12_countedAll 39 = .ok (.ireturn, 1) := by decide +kernel
theorem dX12_many_0 : decode cX12_many 0 = .ok (.iload_n 1, 1) := by decide +kernel
theorem dX12_many_1 : decode cX12_many 1 = .ok (.tableswitch 96 0 8 #[51, 56, 61, 66, 71, 76, 81, 86, 91], 51) := by decide +kernel
theorem dX12_many_52 : decode cX12_many 52 = .ok (.aload_n 0, 1) := by decide +kernel
theorem dX12_many_53 : decode cX12_many 53 = .ok (.getfield 102, 3) := by decide +kernel
theorem dX12_many_56 : decode cX12_many 56 = .ok (.ireturn, 1) := by decide +kernel
theorem dX12_many_57 : decode cX12_many 57 = .ok (.aload_n 0, 1) := by decide +kernel
theorem dX12_many_58 : decode cX12_many 58 = .ok (.getfield 120, 3) := by decide +kernel
theorem dX12_many_61 : decode cX12_many 61 = .ok (.ireturn, 1) := by decide +kernel
theorem dX12_many_62 : decode cX12_many 62 = .ok (.aload_n 0, 1) := by decide +kernel
theorem dX12_many_63 : decode cX12_many 63 = .ok (.getfield 110, 3) := by decide +kernel
theorem dX12_many_66 : decode cX12_many 66 = .ok (.ireturn, 1) := by decide +kernel
theorem dX12_many_67 : decode cX12_many 67 = .ok (.aload_n 0, 1) := by decide +kernel
theorem dX12_many_68 : decode cX12_many 68 = .ok (.getfield 113, 3) := by decide +kernel
theorem dX12_many_71 : decode cX12_many 71 = .ok (.ireturn, 1) := by decide +kernel
theorem dX12_many_72 : decode cX12_many 72 = .ok (.aload_n 0, 1) := by decide +kernel
theorem dX12_many_73 : decode cX12_many 73 = .ok (.invokevirtual 401, 3) := by decide +kernel
theorem dX12_many_76 : decode cX12_many 76 = .ok (.ireturn, 1) := by decide +kernel
theorem dX12_many_77 : decode cX12_many 77 = .ok (.aload_n 0, 1) := by decide +kernel
theorem dX12_many_78 : decode cX12_many 78 = .ok (.getfield 328, 3) := by decide +kernel
theorem dX12_many_81 : decode cX12_many 81 = .ok (.ireturn, 1) := by decide +kernel
theorem dX12_many_82 : decode cX12_many 82 = .ok (.aload_n 0, 1) := by decide +kernel
theorem dX12_many_83 : decode cX12_many 83 = .ok (.getfield 337, 3) := by decide +kernel
theorem dX12_many_86 : decode cX12_many 86 = .ok (.ireturn, 1) := by decide +kernel
theorem dX12_many_87 : decode cX12_many 87 = .ok (.aload_n 0, 1) := by decide +kernel
theorem dX12_many_88 : decode cX12_many 88 = .ok (.getfield 223, 3) := by decide +kernel
theorem dX12_many_91 : decode cX12_many 91 = .ok (.ireturn, 1) := by decide +kernel
theorem dX12_many_92 : decode cX12_many 92 = .ok (.aload_n 0, 1) := by decide +kernel
theorem dX12_many_93 : decode cX12_many 93 = .ok (.getfield 361, 3) := by decide +kernel
theorem dX12_many_96 : decode cX12_many 96 = .ok (.ireturn, 1) := by decide +kernel
theorem dX12_many_97 : decode cX12_many 97 = .ok (.iconst (-1), 1) := by decide +kernel
theorem dX12_many_98 : decode cX12_many 98 = .ok (.ireturn, 1) := by decide +kernel
theorem dX12_move_0 : decode cX12_move 0 = .ok (.iconst 0, 1) := by decide +kernel
theorem dX12_move_1 : decode cX12_move 1 = .ok (.istore 4, 2) := by decide +kernel
theorem dX12_move_3 : decode cX12_move 3 = .ok (.iload 4, 2) := by decide +kernel
theorem dX12_move_5 : decode cX12_move 5 = .ok (.iload_n 2, 1) := by decide +kernel
theorem dX12_move_6 : decode cX12_move 6 = .ok (.if_icmp .ge 52, 3) := by decide +kernel
theorem dX12_move_9 : decode cX12_move 9 = .ok (.iload_n 3, 1) := by decide +kernel
theorem dX12_move_10 : decode cX12_move 10 = .ok (.ifCond .eq 19, 3) := by decide +kernel
theorem dX12_move_13 : decode cX12_move 13 = .ok (.aload_n 0, 1) := by decide +kernel
theorem dX12_move_14 : decode cX12_move 14 = .ok (.getfield 96, 3) := by decide +kernel
theorem dX12_move_17 : decode cX12_move 17 = .ok (.aload_n 0, 1) := by decide +kernel
theorem dX12_move_18 : decode cX12_move 18 = .ok (.getfield 404, 3) := by decide +kernel
theorem dX12_move_21 : decode cX12_move 21 = .ok (.aload_n 1, 1) := by decide +kernel
theorem dX12_move_22 : decode cX12_move 22 = .ok (.iload 4, 2) := by decide +kernel
theorem dX12_move_24 : decode cX12_move 24 = .ok (.iaload, 1) := by decide +kernel
theorem dX12_move_25 : decode cX12_move 25 = .ok (.iastore, 1) := by decide +kernel
theorem dX12_move_26 : decode cX12_move 26 = .ok (.goto 16, 3) := by decide +kernel
theorem dX12_move_29 : decode cX12_move 29 = .ok (.aload_n 1, 1) := by decide +kernel
theorem dX12_move_30 : decode cX12_move 30 = .ok (.iload 4, 2) := by decide +kernel
theorem dX12_move_32 : decode cX12_move 32 = .ok (.aload_n 0, 1) := by decide +kernel
theorem dX12_move_33 : decode cX12_move 33 = .ok (.getfield 96, 3) := by decide +kernel
theorem dX12_move_36 : decode cX12_move 36 = .ok (.aload_n 0, 1) := by decide +kernel
theorem dX12_move_37 : decode cX12_move 37 = .ok (.getfield 404, 3) := by decide +kernel
theorem dX12_move_40 : decode cX12_move 40 = .ok (.iaload, 1) := by decide +kernel
theorem dX12_move_41 : decode cX12_move 41 = .ok (.iastore, 1) := by decide +kernel
theorem dX12_move_42 : decode cX12_move 42 = .ok (.aload_n 0, 1) := by decide +kernel
theorem dX12_move_43 : decode cX12_move 43 = .ok (.dup, 1) := by decide +kernel
theorem dX12_move_44 : decode cX12_move 44 = .ok (.getfield 404, 3) := by decide +kernel
theorem dX12_move_47 : decode cX12_move 47 = .ok (.iconst 1, 1) := by decide +kernel
theorem dX12_move_48 : decode cX12_move 48 = .ok (.iadd, 1) := by decide +kernel
theorem dX12_move_49 : decode cX12_move 49 = .ok (.putfield 404, 3) := by decide +kernel
theorem dX12_move_52 : decode cX12_move 52 = .ok (.iinc 4 1, 3) := by decide +kernel
theorem dX12_move_55 : decode cX12_move 55 = .ok (.goto (-52), 3) := by decide +kernel
theorem dX12_move_58 : decode cX12_move 58 = .ok (.return_, 1) := by decide +kernel
theorem dX12_moveAll_0 : decode cX12_moveAll 0 = .ok (.aload_n 0, 1) := by decide +kernel
theorem dX12_moveAll_1 : decode cX12_moveAll 1 = .ok (.iconst 0, 1) := by decide +kernel
theorem dX12_moveAll_2 : decode cX12_moveAll 2 = .ok (.putfield 404, 3) := by decide +kernel
theorem dX12_moveAll_5 : decode cX12_moveAll 5 = .ok (.aload_n 0, 1) := by decide +kernel
theorem dX12_moveAll_6 : decode cX12_moveAll 6 = .ok (.getfield 99, 3) := by decide +kernel
theorem dX12_moveAll_9 : decode cX12_moveAll 9 = .ok (.iconst 0, 1) := by decide +kernel
theorem dX12_moveAll_10 : decode cX12_moveAll 10 = .ok (.aload_n 0, 1) := by decide +kernel
theorem dX12_moveAll_11 : decode cX12_moveAll 11 = .ok (.getfield 102, 3) := by decide +kernel
theorem dX12_moveAll_14 : decode cX12_moveAll 14 = .ok (.iastore, 1) := by decide +kernel
theorem dX12_moveAll_15 : decode cX12_moveAll 15 = .ok (.aload_n 0, 1) := by decide +kernel
theorem dX12_moveAll_16 : decode cX12_moveAll 16 = .ok (.getfield 99, 3) := by decide +kernel
theorem dX12_moveAll_19 : decode cX12_moveAll 19 = .ok (.iconst 1, 1) := by decide +kernel
theorem dX12_moveAll_20 : decode cX12_moveAll 20 = .ok (.aload_n 0, 1) := by decide +kernel
theorem dX12_moveAll_21 : decode cX12_moveAll 21 = .ok (.getfield 120, 3) := by decide +kernel
theorem dX12_moveAll_24 : decode cX12_moveAll 24 = .ok (.iastore, 1) := by decide +kernel
theorem dX12_moveAll_25 : decode cX12_moveAll 25 = .ok (.aload_n 0, 1) := by decide +kernel
theorem dX12_moveAll_26 : decode cX12_moveAll 26 = .ok (.getfield 99, 3) := by decide +kernel
theorem dX12_moveAll_29 : decode cX12_moveAll 29 = .ok (.iconst 2, 1) := by decide +kernel
theorem dX12_moveAll_30 : decode cX12_moveAll 30 = .ok (.aload_n 0, 1) := by decide +kernel
theorem dX12_moveAll_31 : decode cX12_moveAll 31 = .ok (.getfield 110, 3) := by decide +kernel
theorem dX12_moveAll_34 : decode cX12_moveAll 34 = .ok (.iastore, 1) := by decide +kernel
theorem dX12_moveAll_35 : decode cX12_moveAll 35 = .ok (.aload_n 0, 1) := by decide +kernel
theorem dX12_moveAll_36 : decode cX12_moveAll 36 = .ok (.getfield 99, 3) := by decide +kernel
theorem dX12_moveAll_39 : decode cX12_moveAll 39 = .ok (.iconst 3, 1) := by decide +kernel
theorem dX12_moveAll_40 : decode cX12_moveAll 40 = .ok (.aload_n 0, 1) := by decide +kernel
theorem dX12_moveAll_41 : decode cX12_moveAll 41 = .ok (.getfield 113, 3) := by decide +kernel
theorem dX12_moveAll_44 : decode cX12_moveAll 44 = .ok (.iastore, 1) := by decide +kernel
theorem dX12_moveAll_45 : decode cX12_moveAll 45 = .ok (.aload_n 0, 1) := by decide +kernel
theorem dX12_moveAll_46 : decode cX12_moveAll 46 = .ok (.getfield 99, 3) := by decide +kernel
theorem dX12_moveAll_49 : decode cX12_moveAll 49 = .ok (.iconst 4, 1) := by decide +kernel
theorem dX12_moveAll_50 : decode cX12_moveAll 50 = .ok (.aload_n 0, 1) := by decide +kernel
theorem dX12_moveAll_51 : decode cX12_moveAll 51 = .ok (.getfield 328, 3) := by decide +kernel
theorem dX12_moveAll_54 : decode cX12_moveAll 54 = .ok (.iastore, 1) := by decide +kernel
theorem dX12_moveAll_55 : decode cX12_moveAll 55 = .ok (.aload_n 0, 1) := by decide +kernel
theorem dX12_moveAll_56 : decode cX12_moveAll 56 = .ok (.getfield 99, 3) := by decide +kernel
theorem dX12_moveAll_59 : decode cX12_moveAll 59 = .ok (.iconst 5, 1) := by decide +kernel
theorem dX12_moveAll_60 : decode cX12_moveAll 60 = .ok (.aload_n 0, 1) := by decide +kernel
theorem dX12_moveAll_61 : decode cX12_moveAll 61 = .ok (.getfield 142, 3) := by decide +kernel
theorem dX12_moveAll_64 : decode cX12_moveAll 64 = .ok (.iastore, 1) := by decide +kernel
theorem dX12_moveAll_65 : decode cX12_moveAll 65 = .ok (.aload_n 0, 1) := by decide +kernel
theorem dX12_moveAll_66 : decode cX12_moveAll 66 = .ok (.aload_n 0, 1) := by decide +kernel
theorem dX12_moveAll_67 : decode cX12_moveAll 67 = .ok (.getfield 99, 3) := by decide +kernel
theorem dX12_moveAll_70 : decode cX12_moveAll 70 = .ok (.bipush 6, 2) := by decide +kernel
theorem dX12_moveAll_72 : decode cX12_moveAll 72 = .ok (.iload_n 1, 1) := by decide +kernel
theorem dX12_moveAll_73 : decode cX12_moveAll 73 = .ok (.invokevirtual 407, 3) := by decide +kernel
theorem dX12_moveAll_76 : decode cX12_moveAll 76 = .ok (.aload_n 0, 1) := by decide +kernel
theorem dX12_moveAll_77 : decode cX12_moveAll 77 = .ok (.aload_n 0, 1) := by decide +kernel
theorem dX12_moveAll_78 : decode cX12_moveAll 78 = .ok (.getfield 7, 3) := by decide +kernel
theorem dX12_moveAll_81 : decode cX12_moveAll 81 = .ok (.bipush 6, 2) := by decide +kernel
theorem dX12_moveAll_83 : decode cX12_moveAll 83 = .ok (.iload_n 1, 1) := by decide +kernel
theorem dX12_moveAll_84 : decode cX12_moveAll 84 = .ok (.invokevirtual 407, 3) := by decide +kernel
theorem dX12_moveAll_87 : decode cX12_moveAll 87 = .ok (.aload_n 0, 1) := by decide +kernel
theorem dX12_moveAll_88 : decode cX12_moveAll 88 = .ok (.aload_n 0, 1) := by decide +kernel
theorem dX12_moveAll_89 : decode cX12_moveAll 89 = .ok (.getfield 13, 3) := by decide +kernel
theorem dX12_moveAll_92 : decode cX12_moveAll 92 = .ok (.bipush 48, 2) := by decide +kernel
theorem dX12_moveAll_94 : decode cX12_moveAll 94 = .ok (.iload_n 1, 1) := by decide +kernel
theorem dX12_moveAll_95 : decode cX12_moveAll 95 = .ok (.invokevirtual 407, 3) := by decide +kernel
theorem dX12_moveAll_98 : decode cX12_moveAll 98 = .ok (.aload_n 0, 1) := by decide +kernel
theorem dX12_moveAll_99 : decode cX12_moveAll 99 = .ok (.aload_n 0, 1) := by decide +kernel
theorem dX12_moveAll_100 : decode cX12_moveAll 100 = .ok (.getfield 16, 3) := by decide +kernel
theorem dX12_moveAll_103 : decode cX12_moveAll 103 = .ok (.bipush 16, 2) := by decide +kernel
theorem dX12_moveAll_105 : decode cX12_moveAll 105 = .ok (.iload_n 1, 1) := by decide +kernel
theorem dX12_moveAll_106 : decode cX12_moveAll 106 = .ok (.invokevirtual 407, 3) := by decide +kernel
theorem dX12_moveAll_109 : decode cX12_moveAll 109 = .ok (.aload_n 0, 1) := by decide +kernel
theorem dX12_moveAll_110 : decode cX12_moveAll 110 = .ok (.aload_n 0, 1) := by decide +kernel
theorem dX12_moveAll_111 : decode cX12_moveAll 111 = .ok (.getfield 19, 3) := by decide +kernel
theorem dX12_moveAll_114 : decode cX12_moveAll 114 = .ok (.sipush 168, 3) := by decide +kernel
theorem dX12_moveAll_117 : decode cX12_moveAll 117 = .ok (.iload_n 1, 1) := by decide +kernel
theorem dX12_moveAll_118 : decode cX12_moveAll 118 = .ok (.invokevirtual 407, 3) := by decide +kernel
theorem dX12_moveAll_121 : decode cX12_moveAll 121 = .ok (.aload_n 0, 1) := by decide +kernel
theorem dX12_moveAll_122 : decode cX12_moveAll 122 = .ok (.aload_n 0, 1) := by decide +kernel
theorem dX12_moveAll_123 : decode cX12_moveAll 123 = .ok (.getfield 22, 3) := by decide +kernel
theorem dX12_moveAll_126 : decode cX12_moveAll 126 = .ok (.bipush 8, 2) := by decide +kernel
theorem dX12_moveAll_128 : decode cX12_moveAll 128 = .ok (.iload_n 1, 1) := by decide +kernel
theorem dX12_moveAll_129 : decode cX12_moveAll 129 = .ok (.invokevirtual 407, 3) := by decide +kernel
theorem dX12_moveAll_132 : decode cX12_moveAll 132 = .ok (.aload_n 0, 1) := by decide +kernel
theorem dX12_moveAll_133 : decode cX12_moveAll 133 = .ok (.aload_n 0, 1) := by decide +kernel
theorem dX12_moveAll_134 : decode cX12_moveAll 134 = .ok (.getfield 25, 3) := by decide +kernel
theorem dX12_moveAll_137 : decode cX12_moveAll 137 = .ok (.bipush 8, 2) := by decide +kernel
theorem dX12_moveAll_139 : decode cX12_moveAll 139 = .ok (.iload_n 1, 1) := by decide +kernel
theorem dX12_moveAll_140 : decode cX12_moveAll 140 = .ok (.invokevirtual 407, 3) := by decide +kernel
theorem dX12_moveAll_143 : decode cX12_moveAll 143 = .ok (.aload_n 0, 1) := by decide +kernel
theorem dX12_moveAll_144 : decode cX12_moveAll 144 = .ok (.aload_n 0, 1) := by decide +kernel
theorem dX12_moveAll_145 : decode cX12_moveAll 145 = .ok (.getfield 28, 3) := by decide +kernel
theorem dX12_moveAll_148 : decode cX12_moveAll 148 = .ok (.sipush 210, 3) := by decide +kernel
theorem dX12_moveAll_151 : decode cX12_moveAll 151 = .ok (.iload_n 1, 1) := by decide +kernel
theorem dX12_moveAll_152 : decode cX12_moveAll 152 = .ok (.invokevirtual 407, 3) := by decide +kernel
theorem dX12_moveAll_155 : decode cX12_moveAll 155 = .ok (.return_, 1) := by decide +kernel
theorem dX12_keep_0 : decode cX12_keep 0 = .ok (.aload_n 0, 1) := by decide +kernel
theorem dX12_keep_1 : decode cX12_keep 1 = .ok (.iconst 1, 1) := by decide +kernel
theorem dX12_keep_2 : decode cX12_keep 2 = .ok (.invokevirtual 411, 3) := by decide +kernel
theorem dX12_keep_5 : decode cX12_keep 5 = .ok (.aload_n 0, 1) := by decide +kernel
theorem dX12_keep_6 : decode cX12_keep 6 = .ok (.iconst 1, 1) := by decide +kernel
theorem dX12_keep_7 : decode cX12_keep 7 = .ok (.putfield 414, 3) := by decide +kernel
theorem dX12_keep_10 : decode cX12_keep 10 = .ok (.iconst 1, 1) := by decide +kernel
theorem dX12_keep_11 : decode cX12_keep 11 = .ok (.ireturn, 1) := by decide +kernel
theorem dX12_back_0 : decode cX12_back 0 = .ok (.aload_n 0, 1) := by decide +kernel
theorem dX12_back_1 : decode cX12_back 1 = .ok (.getfield 414, 3) := by decide +kernel
theorem dX12_back_4 : decode cX12_back 4 = .ok (.ifCond .ne 6, 3) := by decide +kernel
theorem dX12_back_7 : decode cX12_back 7 = .ok (.bipush (-3), 2) := by decide +kernel
theorem dX12_back_9 : decode cX12_back 9 = .ok (.ireturn, 1) := by decide +kernel
theorem dX12_back_10 : decode cX12_back 10 = .ok (.aload_n 0, 1) := by decide +kernel
theorem dX12_back_11 : decode cX12_back 11 = .ok (.iconst 0, 1) := by decide +kernel
theorem dX12_back_12 : decode cX12_back 12 = .ok (.invokevirtual 411, 3) := by decide +kernel
theorem dX12_back_15 : decode cX12_back 15 = .ok (.aload_n 0, 1) := by decide +kernel
theorem dX12_back_16 : decode cX12_back 16 = .ok (.aload_n 0, 1) := by decide +kernel
theorem dX12_back_17 : decode cX12_back 17 = .ok (.getfield 99, 3) := by decide +kernel
theorem dX12_back_20 : decode cX12_back 20 = .ok (.iconst 0, 1) := by decide +kernel
theorem dX12_back_21 : decode cX12_back 21 = .ok (.iaload, 1) := by decide +kernel
theorem dX12_back_22 : decode cX12_back 22 = .ok (.putfield 102, 3) := by decide +kernel
theorem dX12_back_25 : decode cX12_back 25 = .ok (.aload_n 0, 1) := by decide +kernel
theorem dX12_back_26 : decode cX12_back 26 = .ok (.aload_n 0, 1) := by decide +kernel
theorem dX12_back_27 : decode cX12_back 27 = .ok (.getfield 99, 3) := by decide +kernel
theorem dX12_back_30 : decode cX12_back 30 = .ok (.iconst 1, 1) := by decide +kernel
theorem dX12_back_31 : decode cX12_back 31 = .ok (.iaload, 1) := by decide +kernel
theorem dX12_back_32 : decode cX12_back 32 = .ok (.putfield 120, 3) := by decide +kernel
theorem dX12_back_35 : decode cX12_back 35 = .ok (.aload_n 0, 1) := by decide +kernel
theorem dX12_back_36 : decode cX12_back 36 = .ok (.aload_n 0, 1) := by decide +kernel
theorem dX12_back_37 : decode cX12_back 37 = .ok (.getfield 99, 3) := by decide +kernel
theorem dX12_back_40 : decode cX12_back 40 = .ok (.iconst 2, 1) := by decide +kernel
theorem dX12_back_41 : decode cX12_back 41 = .ok (.iaload, 1) := by decide +kernel
theorem dX12_back_42 : decode cX12_back 42 = .ok (.putfield 110, 3) := by decide +kernel
theorem dX12_back_45 : decode cX12_back 45 = .ok (.aload_n 0, 1) := by decide +kernel
theorem dX12_back_46 : decode cX12_back 46 = .ok (.aload_n 0, 1) := by decide +kernel
theorem dX12_back_47 : decode cX12_back 47 = .ok (.getfield 99, 3) := by decide +kernel
theorem dX12_back_50 : decode cX12_back 50 = .ok (.iconst 3, 1) := by decide +kernel
theorem dX12_back_51 : decode cX12_back 51 = .ok (.iaload, 1) := by decide +kernel
theorem dX12_back_52 : decode cX12_back 52 = .ok (.putfield 113, 3) := by decide +kernel
theorem dX12_back_55 : decode cX12_back 55 = .ok (.aload_n 0, 1) := by decide +kernel
theorem dX12_back_56 : decode cX12_back 56 = .ok (.aload_n 0, 1) := by decide +kernel
theorem dX12_back_57 : decode cX12_back 57 = .ok (.getfield 99, 3) := by decide +kernel
theorem dX12_back_60 : decode cX12_back 60 = .ok (.iconst 4, 1) := by decide +kernel
theorem dX12_back_61 : decode cX12_back 61 = .ok (.iaload, 1) := by decide +kernel
theorem dX12_back_62 : decode cX12_back 62 = .ok (.putfield 328, 3) := by decide +kernel
theorem dX12_back_65 : decode cX12_back 65 = .ok (.aload_n 0, 1) := by decide +kernel
theorem dX12_back_66 : decode cX12_back 66 = .ok (.aload_n 0, 1) := by decide +kernel
theorem dX12_back_67 : decode cX12_back 67 = .ok (.getfield 99, 3) := by decide +kernel
theorem dX12_back_70 : decode cX12_back 70 = .ok (.iconst 5, 1) := by decide +kernel
theorem dX12_back_71 : decode cX12_back 71 = .ok (.iaload, 1) := by decide +kernel
theorem dX12_back_72 : decode cX12_back 72 = .ok (.putfield 142, 3) := by decide +kernel
theorem dX12_back_75 : decode cX12_back 75 = .ok (.iconst 1, 1) := by decide +kernel
theorem dX12_back_76 : decode cX12_back 76 = .ok (.ireturn, 1) := by decide +kernel
