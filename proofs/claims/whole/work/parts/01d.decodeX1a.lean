theorem dX1_init_0 : decode cX1_init 0 = .ok (.aload_n 0, 1) := by decide +kernel
theorem dX1_init_1 : decode cX1_init 1 = .ok (.invokespecial 1, 3) := by decide +kernel
theorem dX1_init_4 : decode cX1_init 4 = .ok (.aload_n 0, 1) := by decide +kernel
theorem dX1_init_5 : decode cX1_init 5 = .ok (.sipush 4096, 3) := by decide +kernel
theorem dX1_init_8 : decode cX1_init 8 = .ok (.newarray .int, 2) := by decide +kernel
theorem dX1_init_10 : decode cX1_init 10 = .ok (.putfield 7, 3) := by decide +kernel
theorem dX1_init_13 : decode cX1_init 13 = .ok (.aload_n 0, 1) := by decide +kernel
theorem dX1_init_14 : decode cX1_init 14 = .ok (.bipush 32, 2) := by decide +kernel
theorem dX1_init_16 : decode cX1_init 16 = .ok (.newarray .int, 2) := by decide +kernel
theorem dX1_init_18 : decode cX1_init 18 = .ok (.putfield 13, 3) := by decide +kernel
theorem dX1_init_21 : decode cX1_init 21 = .ok (.aload_n 0, 1) := by decide +kernel
theorem dX1_init_22 : decode cX1_init 22 = .ok (.iconst (-1), 1) := by decide +kernel
theorem dX1_init_23 : decode cX1_init 23 = .ok (.putfield 16, 3) := by decide +kernel
theorem dX1_init_26 : decode cX1_init 26 = .ok (.return_, 1) := by decide +kernel
theorem dX1_bits_0 : decode cX1_bits 0 = .ok (.iload_n 0, 1) := by decide +kernel
theorem dX1_bits_1 : decode cX1_bits 1 = .ok (.i2l, 1) := by decide +kernel
theorem dX1_bits_2 : decode cX1_bits 2 = .ok (.ldc2_w 23, 3) := by decide +kernel
theorem dX1_bits_5 : decode cX1_bits 5 = .ok (.land, 1) := by decide +kernel
theorem dX1_bits_6 : decode cX1_bits 6 = .ok (.lstore_n 3, 1) := by decide +kernel
theorem dX1_bits_7 : decode cX1_bits 7 = .ok (.iconst 0, 1) := by decide +kernel
theorem dX1_bits_8 : decode cX1_bits 8 = .ok (.istore 5, 2) := by decide +kernel
theorem dX1_bits_10 : decode cX1_bits 10 = .ok (.iload 5, 2) := by decide +kernel
theorem dX1_bits_12 : decode cX1_bits 12 = .ok (.iload_n 2, 1) := by decide +kernel
theorem dX1_bits_13 : decode cX1_bits 13 = .ok (.if_icmp .ge 15, 3) := by decide +kernel
theorem dX1_bits_16 : decode cX1_bits 16 = .ok (.lload_n 3, 1) := by decide +kernel
theorem dX1_bits_17 : decode cX1_bits 17 = .ok (.ldc2_w 25, 3) := by decide +kernel
theorem dX1_bits_20 : decode cX1_bits 20 = .ok (.ldiv, 1) := by decide +kernel
theorem dX1_bits_21 : decode cX1_bits 21 = .ok (.lstore_n 3, 1) := by decide +kernel
theorem dX1_bits_22 : decode cX1_bits 22 = .ok (.iinc 5 1, 3) := by decide +kernel
theorem dX1_bits_25 : decode cX1_bits 25 = .ok (.goto (-15), 3) := by decide +kernel
theorem dX1_bits_28 : decode cX1_bits 28 = .ok (.lconst 1, 1) := by decide +kernel
theorem dX1_bits_29 : decode cX1_bits 29 = .ok (.lstore 5, 2) := by decide +kernel
theorem dX1_bits_31 : decode cX1_bits 31 = .ok (.iload_n 2, 1) := by decide +kernel
theorem dX1_bits_32 : decode cX1_bits 32 = .ok (.istore 7, 2) := by decide +kernel
theorem dX1_bits_34 : decode cX1_bits 34 = .ok (.iload 7, 2) := by decide +kernel
theorem dX1_bits_36 : decode cX1_bits 36 = .ok (.iload_n 1, 1) := by decide +kernel
theorem dX1_bits_37 : decode cX1_bits 37 = .ok (.if_icmp .gt 17, 3) := by decide +kernel
theorem dX1_bits_40 : decode cX1_bits 40 = .ok (.lload 5, 2) := by decide +kernel
theorem dX1_bits_42 : decode cX1_bits 42 = .ok (.ldc2_w 25, 3) := by decide +kernel
theorem dX1_bits_45 : decode cX1_bits 45 = .ok (.lmul, 1) := by decide +kernel
theorem dX1_bits_46 : decode cX1_bits 46 = .ok (.lstore 5, 2) := by decide +kernel
theorem dX1_bits_48 : decode cX1_bits 48 = .ok (.iinc 7 1, 3) := by decide +kernel
theorem dX1_bits_51 : decode cX1_bits 51 = .ok (.goto (-17), 3) := by decide +kernel
theorem dX1_bits_54 : decode cX1_bits 54 = .ok (.lload_n 3, 1) := by decide +kernel
theorem dX1_bits_55 : decode cX1_bits 55 = .ok (.lload 5, 2) := by decide +kernel
theorem dX1_bits_57 : decode cX1_bits 57 = .ok (.lrem, 1) := by decide +kernel
theorem dX1_bits_58 : decode cX1_bits 58 = .ok (.l2i, 1) := by decide +kernel
theorem dX1_bits_59 : decode cX1_bits 59 = .ok (.ireturn, 1) := by decide +kernel
theorem dX1_signed_0 : decode cX1_signed 0 = .ok (.iconst 1, 1) := by decide +kernel
theorem dX1_signed_1 : decode cX1_signed 1 = .ok (.istore_n 2, 1) := by decide +kernel
theorem dX1_signed_2 : decode cX1_signed 2 = .ok (.iconst 1, 1) := by decide +kernel
theorem dX1_signed_3 : decode cX1_signed 3 = .ok (.istore_n 3, 1) := by decide +kernel
theorem dX1_signed_4 : decode cX1_signed 4 = .ok (.iload_n 3, 1) := by decide +kernel
theorem dX1_signed_5 : decode cX1_signed 5 = .ok (.iload_n 1, 1) := by decide +kernel
theorem dX1_signed_6 : decode cX1_signed 6 = .ok (.if_icmp .ge 13, 3) := by decide +kernel
theorem dX1_signed_9 : decode cX1_signed 9 = .ok (.iload_n 2, 1) := by decide +kernel
theorem dX1_signed_10 : decode cX1_signed 10 = .ok (.iconst 2, 1) := by decide +kernel
theorem dX1_signed_11 : decode cX1_signed 11 = .ok (.imul, 1) := by decide +kernel
theorem dX1_signed_12 : decode cX1_signed 12 = .ok (.istore_n 2, 1) := by decide +kernel
theorem dX1_signed_13 : decode cX1_signed 13 = .ok (.iinc 3 1, 3) := by decide +kernel
theorem dX1_signed_16 : decode cX1_signed 16 = .ok (.goto (-12), 3) := by decide +kernel
theorem dX1_signed_19 : decode cX1_signed 19 = .ok (.iload_n 0, 1) := by decide +kernel
theorem dX1_signed_20 : decode cX1_signed 20 = .ok (.iload_n 2, 1) := by decide +kernel
theorem dX1_signed_21 : decode cX1_signed 21 = .ok (.if_icmp .lt 11, 3) := by decide +kernel
theorem dX1_signed_24 : decode cX1_signed 24 = .ok (.iload_n 0, 1) := by decide +kernel
theorem dX1_signed_25 : decode cX1_signed 25 = .ok (.iconst 2, 1) := by decide +kernel
theorem dX1_signed_26 : decode cX1_signed 26 = .ok (.iload_n 2, 1) := by decide +kernel
theorem dX1_signed_27 : decode cX1_signed 27 = .ok (.imul, 1) := by decide +kernel
theorem dX1_signed_28 : decode cX1_signed 28 = .ok (.isub, 1) := by decide +kernel
theorem dX1_signed_29 : decode cX1_signed 29 = .ok (.goto 4, 3) := by decide +kernel
theorem dX1_signed_32 : decode cX1_signed 32 = .ok (.iload_n 0, 1) := by decide +kernel
theorem dX1_signed_33 : decode cX1_signed 33 = .ok (.ireturn, 1) := by decide +kernel
theorem dX1_field_0 : decode cX1_field 0 = .ok (.iload_n 2, 1) := by decide +kernel
theorem dX1_field_1 : decode cX1_field 1 = .ok (.tableswitch 288 0 11 #[63, 71, 80, 89, 98, 107, 116, 130, 156, 210, 220, 274], 63) := by decide +kernel
theorem dX1_field_64 : decode cX1_field 64 = .ok (.iload_n 1, 1) := by decide +kernel
theorem dX1_field_65 : decode cX1_field 65 = .ok (.bipush 6, 2) := by decide +kernel
theorem dX1_field_67 : decode cX1_field 67 = .ok (.iconst 0, 1) := by decide +kernel
theorem dX1_field_68 : decode cX1_field 68 = .ok (.invokestatic 27, 3) := by decide +kernel
theorem dX1_field_71 : decode cX1_field 71 = .ok (.ireturn, 1) := by decide +kernel
theorem dX1_field_72 : decode cX1_field 72 = .ok (.iload_n 1, 1) := by decide +kernel
theorem dX1_field_73 : decode cX1_field 73 = .ok (.bipush 11, 2) := by decide +kernel
theorem dX1_field_75 : decode cX1_field 75 = .ok (.bipush 7, 2) := by decide +kernel
theorem dX1_field_77 : decode cX1_field 77 = .ok (.invokestatic 27, 3) := by decide +kernel
theorem dX1_field_80 : decode cX1_field 80 = .ok (.ireturn, 1) := by decide +kernel
theorem dX1_field_81 : decode cX1_field 81 = .ok (.iload_n 1, 1) := by decide +kernel
theorem dX1_field_82 : decode cX1_field 82 = .ok (.bipush 14, 2) := by decide +kernel
theorem dX1_field_84 : decode cX1_field 84 = .ok (.bipush 12, 2) := by decide +kernel
theorem dX1_field_86 : decode cX1_field 86 = .ok (.invokestatic 27, 3) := by decide +kernel
theorem dX1_field_89 : decode cX1_field 89 = .ok (.ireturn, 1) := by decide +kernel
theorem dX1_field_90 : decode cX1_field 90 = .ok (.iload_n 1, 1) := by decide +kernel
theorem dX1_field_91 : decode cX1_field 91 = .ok (.bipush 19, 2) := by decide +kernel
theorem dX1_field_93 : decode cX1_field 93 = .ok (.bipush 15, 2) := by decide +kernel
theorem dX1_field_95 : decode cX1_field 95 = .ok (.invokestatic 27, 3) := by decide +kernel
theorem dX1_field_98 : decode cX1_field 98 = .ok (.ireturn, 1) := by decide +kernel
theorem dX1_field_99 : decode cX1_field 99 = .ok (.iload_n 1, 1) := by decide +kernel
theorem dX1_field_100 : decode cX1_field 100 = .ok (.bipush 24, 2) := by decide +kernel
theorem dX1_field_102 : decode cX1_field 102 = .ok (.bipush 20, 2) := by decide +kernel
theorem dX1_field_104 : decode cX1_field 104 = .ok (.invokestatic 27, 3) := by decide +kernel
theorem dX1_field_107 : decode cX1_field 107 = .ok (.ireturn, 1) := by decide +kernel
theorem dX1_field_108 : decode cX1_field 108 = .ok (.iload_n 1, 1) := by decide +kernel
theorem dX1_field_109 : decode cX1_field 109 = .ok (.bipush 31, 2) := by decide +kernel
theorem dX1_field_111 : decode cX1_field 111 = .ok (.bipush 25, 2) := by decide +kernel
theorem dX1_field_113 : decode cX1_field 113 = .ok (.invokestatic 27, 3) := by decide +kernel
theorem dX1_field_116 : decode cX1_field 116 = .ok (.ireturn, 1) := by decide +kernel
theorem dX1_field_117 : decode cX1_field 117 = .ok (.iload_n 1, 1) := by decide +kernel
theorem dX1_field_118 : decode cX1_field 118 = .ok (.bipush 31, 2) := by decide +kernel
theorem dX1_field_120 : decode cX1_field 120 = .ok (.bipush 20, 2) := by decide +kernel
theorem dX1_field_122 : decode cX1_field 122 = .ok (.invokestatic 27, 3) := by decide +kernel
theorem dX1_field_125 : decode cX1_field 125 = .ok (.bipush 12, 2) := by decide +kernel
theorem dX1_field_127 : decode cX1_field 127 = .ok (.invokestatic 31, 3) := by decide +kernel
theorem dX1_field_130 : decode cX1_field 130 = .ok (.ireturn, 1) := by decide +kernel
theorem dX1_field_131 : decode cX1_field 131 = .ok (.bipush 32, 2) := by decide +kernel
theorem dX1_field_133 : decode cX1_field 133 = .ok (.iload_n 1, 1) := by decide +kernel
theorem dX1_field_134 : decode cX1_field 134 = .ok (.bipush 31, 2) := by decide +kernel
theorem dX1_field_136 : decode cX1_field 136 = .ok (.bipush 25, 2) := by decide +kernel
theorem dX1_field_138 : decode cX1_field 138 = .ok (.invokestatic 27, 3) := by decide +kernel
theorem dX1_field_141 : decode cX1_field 141 = .ok (.imul, 1) := by decide +kernel
theorem dX1_field_142 : decode cX1_field 142 = .ok (.iload_n 1, 1) := by decide +kernel
theorem dX1_field_143 : decode cX1_field 143 = .ok (.bipush 11, 2) := by decide +kernel
theorem dX1_field_145 : decode cX1_field 145 = .ok (.bipush 7, 2) := by decide +kernel
theorem dX1_field_147 : decode cX1_field 147 = .ok (.invokestatic 27, 3) := by decide +kernel
theorem dX1_field_150 : decode cX1_field 150 = .ok (.iadd, 1) := by decide +kernel
theorem dX1_field_151 : decode cX1_field 151 = .ok (.bipush 12, 2) := by decide +kernel
theorem dX1_field_153 : decode cX1_field 153 = .ok (.invokestatic 31, 3) := by decide +kernel
theorem dX1_field_156 : decode cX1_field 156 = .ok (.ireturn, 1) := by decide +kernel
theorem dX1_field_157 : decode cX1_field 157 = .ok (.sipush 4096, 3) := by decide +kernel
theorem dX1_field_160 : decode cX1_field 160 = .ok (.iload_n 1, 1) := by decide +kernel
theorem dX1_field_161 : decode cX1_field 161 = .ok (.bipush 31, 2) := by decide +kernel
theorem dX1_field_163 : decode cX1_field 163 = .ok (.bipush 31, 2) := by decide +kernel
theorem dX1_field_165 : decode cX1_field 165 = .ok (.invokestatic 27, 3) := by decide +kernel
theorem dX1_field_168 : decode cX1_field 168 = .ok (.imul, 1) := by decide +kernel
theorem dX1_field_169 : decode cX1_field 169 = .ok (.sipush 2048, 3) := by decide +kernel
theorem dX1_field_172 : decode cX1_field 172 = .ok (.iload_n 1, 1) := by decide +kernel
theorem dX1_field_173 : decode cX1_field 173 = .ok (.bipush 7, 2) := by decide +kernel
theorem dX1_field_175 : decode cX1_field 175 = .ok (.bipush 7, 2) := by decide +kernel
theorem dX1_field_177 : decode cX1_field 177 = .ok (.invokestatic 27, 3) := by decide +kernel
theorem dX1_field_180 : decode cX1_field 180 = .ok (.imul, 1) := by decide +kernel
theorem dX1_field_181 : decode cX1_field 181 = .ok (.iadd, 1) := by decide +kernel
theorem dX1_field_182 : decode cX1_field 182 = .ok (.bipush 32, 2) := by decide +kernel
theorem dX1_field_184 : decode cX1_field 184 = .ok (.iload_n 1, 1) := by decide +kernel
theorem dX1_field_185 : decode cX1_field 185 = .ok (.bipush 30, 2) := by decide +kernel
theorem dX1_field_187 : decode cX1_field 187 = .ok (.bipush 25, 2) := by decide +kernel
theorem dX1_field_189 : decode cX1_field 189 = .ok (.invokestatic 27, 3) := by decide +kernel
theorem dX1_field_192 : decode cX1_field 192 = .ok (.imul, 1) := by decide +kernel
theorem dX1_field_193 : decode cX1_field 193 = .ok (.iadd, 1) := by decide +kernel
theorem dX1_field_194 : decode cX1_field 194 = .ok (.iconst 2, 1) := by decide +kernel
theorem dX1_field_195 : decode cX1_field 195 = .ok (.iload_n 1, 1) := by decide +kernel
theorem dX1_field_196 : decode cX1_field 196 = .ok (.bipush 11, 2) := by decide +kernel
theorem dX1_field_198 : decode cX1_field 198 = .ok (.bipush 8, 2) := by decide +kernel
theorem dX1_field_200 : decode cX1_field 200 = .ok (.invokestatic 27, 3) := by decide +kernel
theorem dX1_field_203 : decode cX1_field 203 = .ok (.imul, 1) := by decide +kernel
theorem dX1_field_204 : decode cX1_field 204 = .ok (.iadd, 1) := by decide +kernel
theorem dX1_field_205 : decode cX1_field 205 = .ok (.bipush 13, 2) := by decide +kernel
theorem dX1_field_207 : decode cX1_field 207 = .ok (.invokestatic 31, 3) := by decide +kernel
theorem dX1_field_210 : decode cX1_field 210 = .ok (.ireturn, 1) := by decide +kernel
theorem dX1_field_211 : decode cX1_field 211 = .ok (.iload_n 1, 1) := by decide +kernel
theorem dX1_field_212 : decode cX1_field 212 = .ok (.iload_n 1, 1) := by decide +kernel
theorem dX1_field_213 : decode cX1_field 213 = .ok (.bipush 11, 2) := by decide +kernel
theorem dX1_field_215 : decode cX1_field 215 = .ok (.iconst 0, 1) := by decide +kernel
theorem dX1_field_216 : decode cX1_field 216 = .ok (.invokestatic 27, 3) := by decide +kernel
theorem dX1_field_219 : decode cX1_field 219 = .ok (.isub, 1) := by decide +kernel
theorem dX1_field_220 : decode cX1_field 220 = .ok (.ireturn, 1) := by decide +kernel
theorem dX1_field_221 : decode cX1_field 221 = .ok (.ldc 35, 2) := by decide +kernel
theorem dX1_field_223 : decode cX1_field 223 = .ok (.iload_n 1, 1) := by decide +kernel
theorem dX1_field_224 : decode cX1_field 224 = .ok (.bipush 31, 2) := by decide +kernel
theorem dX1_field_226 : decode cX1_field 226 = .ok (.bipush 31, 2) := by decide +kernel
theorem dX1_field_228 : decode cX1_field 228 = .ok (.invokestatic 27, 3) := by decide +kernel
theorem dX1_field_231 : decode cX1_field 231 = .ok (.imul, 1) := by decide +kernel
theorem dX1_field_232 : decode cX1_field 232 = .ok (.sipush 4096, 3) := by decide +kernel
theorem dX1_field_235 : decode cX1_field 235 = .ok (.iload_n 1, 1) := by decide +kernel
theorem dX1_field_236 : decode cX1_field 236 = .ok (.bipush 19, 2) := by decide +kernel
theorem dX1_field_238 : decode cX1_field 238 = .ok (.bipush 12, 2) := by decide +kernel
theorem dX1_field_240 : decode cX1_field 240 = .ok (.invokestatic 27, 3) := by decide +kernel
theorem dX1_field_243 : decode cX1_field 243 = .ok (.imul, 1) := by decide +kernel
theorem dX1_field_244 : decode cX1_field 244 = .ok (.iadd, 1) := by decide +kernel
theorem dX1_field_245 : decode cX1_field 245 = .ok (.sipush 2048, 3) := by decide +kernel
theorem dX1_field_248 : decode cX1_field 248 = .ok (.iload_n 1, 1) := by decide +kernel
theorem dX1_field_249 : decode cX1_field 249 = .ok (.bipush 20, 2) := by decide +kernel
theorem dX1_field_251 : decode cX1_field 251 = .ok (.bipush 20, 2) := by decide +kernel
theorem dX1_field_253 : decode cX1_field 253 = .ok (.invokestatic 27, 3) := by decide +kernel
theorem dX1_field_256 : decode cX1_field 256 = .ok (.imul, 1) := by decide +kernel
theorem dX1_field_257 : decode cX1_field 257 = .ok (.iadd, 1) := by decide +kernel
theorem dX1_field_258 : decode cX1_field 258 = .ok (.iconst 2, 1) := by decide +kernel
theorem dX1_field_259 : decode cX1_field 259 = .ok (.iload_n 1, 1) := by decide +kernel
theorem dX1_field_260 : decode cX1_field 260 = .ok (.bipush 30, 2) := by decide +kernel
theorem dX1_field_262 : decode cX1_field 262 = .ok (.bipush 21, 2) := by decide +kernel
theorem dX1_field_264 : decode cX1_field 264 = .ok (.invokestatic 27, 3) := by decide +kernel
theorem dX1_field_267 : decode cX1_field 267 = .ok (.imul, 1) := by decide +kernel
theorem dX1_field_268 : decode cX1_field 268 = .ok (.iadd, 1) := by decide +kernel
theorem dX1_field_269 : decode cX1_field 269 = .ok (.bipush 21, 2) := by decide +kernel
theorem dX1_field_271 : decode cX1_field 271 = .ok (.invokestatic 31, 3) := by decide +kernel
theorem dX1_field_274 : decode cX1_field 274 = .ok (.ireturn, 1) := by decide +kernel
theorem dX1_field_275 : decode cX1_field 275 = .ok (.aload_n 0, 1) := by decide +kernel
theorem dX1_field_276 : decode cX1_field 276 = .ok (.iload_n 1, 1) := by decide +kernel
theorem dX1_field_277 : decode cX1_field 277 = .ok (.invokevirtual 36, 3) := by decide +kernel
theorem dX1_field_280 : decode cX1_field 280 = .ok (.ifCond .eq 7, 3) := by decide +kernel
theorem dX1_field_283 : decode cX1_field 283 = .ok (.iconst 1, 1) := by decide +kernel
theorem dX1_field_284 : decode cX1_field 284 = .ok (.goto 4, 3) := by decide +kernel
theorem dX1_field_287 : decode cX1_field 287 = .ok (.iconst 0, 1) := by decide +kernel
theorem dX1_field_288 : decode cX1_field 288 = .ok (.ireturn, 1) := by decide +kernel
theorem dX1_field_289 : decode cX1_field 289 = .ok (.iconst 0, 1) := by decide +kernel
theorem dX1_field_290 : decode cX1_field 290 = .ok (.ireturn, 1) := by decide +kernel
theorem dX1_isNamed_0 : decode cX1_isNamed 0 = .ok (.aload_n 0, 1) := by decide +kernel
theorem dX1_isNamed_1 : decode cX1_isNamed 1 = .ok (.iload_n 1, 1) := by decide +kernel
theorem dX1_isNamed_2 : decode cX1_isNamed 2 = .ok (.iconst 2, 1) := by decide +kernel
theorem dX1_isNamed_3 : decode cX1_isNamed 3 = .ok (.invokevirtual 40, 3) := by decide +kernel
theorem dX1_isNamed_6 : decode cX1_isNamed 6 = .ok (.istore_n 2, 1) := by decide +kernel
theorem dX1_isNamed_7 : decode cX1_isNamed 7 = .ok (.aload_n 0, 1) := by decide +kernel
theorem dX1_isNamed_8 : decode cX1_isNamed 8 = .ok (.iload_n 1, 1) := by decide +kernel
theorem dX1_isNamed_9 : decode cX1_isNamed 9 = .ok (.iconst 5, 1) := by decide +kernel
theorem dX1_isNamed_10 : decode cX1_isNamed 10 = .ok (.invokevirtual 40, 3) := by decide +kernel
theorem dX1_isNamed_13 : decode cX1_isNamed 13 = .ok (.istore_n 3, 1) := by decide +kernel
theorem dX1_isNamed_14 : decode cX1_isNamed 14 = .ok (.aload_n 0, 1) := by decide +kernel
theorem dX1_isNamed_15 : decode cX1_isNamed 15 = .ok (.iload_n 1, 1) := by decide +kernel
theorem dX1_isNamed_16 : decode cX1_isNamed 16 = .ok (.iconst 0, 1) := by decide +kernel
theorem dX1_isNamed_17 : decode cX1_isNamed 17 = .ok (.invokevirtual 40, 3) := by decide +kernel
theorem dX1_isNamed_20 : decode cX1_isNamed 20 = .ok (.lookupswitch 235 #[(3, 128), (15, 160), (19, 171), (23, 100), (35, 149), (51, 209), (55, 100), (99, 112), (103, 102), (111, 100), (115, 100)], 100) := by decide +kernel
theorem dX1_isNamed_120 : decode cX1_isNamed 120 = .ok (.iconst 1, 1) := by decide +kernel
theorem dX1_isNamed_121 : decode cX1_isNamed 121 = .ok (.ireturn, 1) := by decide +kernel
theorem dX1_isNamed_122 : decode cX1_isNamed 122 = .ok (.iload_n 2, 1) := by decide +kernel
theorem dX1_isNamed_123 : decode cX1_isNamed 123 = .ok (.ifCond .ne 7, 3) := by decide +kernel
theorem dX1_isNamed_126 : decode cX1_isNamed 126 = .ok (.iconst 1, 1) := by decide +kernel
theorem dX1_isNamed_127 : decode cX1_isNamed 127 = .ok (.goto 4, 3) := by decide +kernel
theorem dX1_isNamed_130 : decode cX1_isNamed 130 = .ok (.iconst 0, 1) := by decide +kernel
theorem dX1_isNamed_131 : decode cX1_isNamed 131 = .ok (.ireturn, 1) := by decide +kernel
theorem dX1_isNamed_132 : decode cX1_isNamed 132 = .ok (.iload_n 2, 1) := by decide +kernel
theorem dX1_isNamed_133 : decode cX1_isNamed 133 = .ok (.iconst 2, 1) := by decide +kernel
theorem dX1_isNamed_134 : decode cX1_isNamed 134 = .ok (.if_icmp .eq 12, 3) := by decide +kernel
theorem dX1_isNamed_137 : decode cX1_isNamed 137 = .ok (.iload_n 2, 1) := by decide +kernel
theorem dX1_isNamed_138 : decode cX1_isNamed 138 = .ok (.iconst 3, 1) := by decide +kernel
theorem dX1_isNamed_139 : decode cX1_isNamed 139 = .ok (.if_icmp .eq 7, 3) := by decide +kernel
theorem dX1_isNamed_142 : decode cX1_isNamed 142 = .ok (.iconst 1, 1) := by decide +kernel
theorem dX1_isNamed_143 : decode cX1_isNamed 143 = .ok (.goto 4, 3) := by decide +kernel
theorem dX1_isNamed_146 : decode cX1_isNamed 146 = .ok (.iconst 0, 1) := by decide +kernel
theorem dX1_isNamed_147 : decode cX1_isNamed 147 = .ok (.ireturn, 1) := by decide +kernel
theorem dX1_isNamed_148 : decode cX1_isNamed 148 = .ok (.iload_n 2, 1) := by decide +kernel
theorem dX1_isNamed_149 : decode cX1_isNamed 149 = .ok (.iconst 3, 1) := by decide +kernel
theorem dX1_isNamed_150 : decode cX1_isNamed 150 = .ok (.if_icmp .lt 13, 3) := by decide +kernel
theorem dX1_isNamed_153 : decode cX1_isNamed 153 = .ok (.iload_n 2, 1) := by decide +kernel
theorem dX1_isNamed_154 : decode cX1_isNamed 154 = .ok (.iconst 4, 1) := by decide +kernel
theorem dX1_isNamed_155 : decode cX1_isNamed 155 = .ok (.if_icmp .eq 8, 3) := by decide +kernel
theorem dX1_isNamed_158 : decode cX1_isNamed 158 = .ok (.iload_n 2, 1) := by decide +kernel
theorem dX1_isNamed_159 : decode cX1_isNamed 159 = .ok (.iconst 5, 1) := by decide +kernel
theorem dX1_isNamed_160 : decode cX1_isNamed 160 = .ok (.if_icmp .ne 7, 3) := by decide +kernel
theorem dX1_isNamed_163 : decode cX1_isNamed 163 = .ok (.iconst 1, 1) := by decide +kernel
theorem dX1_isNamed_164 : decode cX1_isNamed 164 = .ok (.goto 4, 3) := by decide +kernel
theorem dX1_isNamed_167 : decode cX1_isNamed 167 = .ok (.iconst 0, 1) := by decide +kernel
theorem dX1_isNamed_168 : decode cX1_isNamed 168 = .ok (.ireturn, 1) := by decide +kernel
theorem dX1_isNamed_169 : decode cX1_isNamed 169 = .ok (.iload_n 2, 1) := by decide +kernel
theorem dX1_isNamed_170 : decode cX1_isNamed 170 = .ok (.iconst 3, 1) := by decide +kernel
theorem dX1_isNamed_171 : decode cX1_isNamed 171 = .ok (.if_icmp .ge 7, 3) := by decide +kernel
theorem dX1_isNamed_174 : decode cX1_isNamed 174 = .ok (.iconst 1, 1) := by decide +kernel
theorem dX1_isNamed_175 : decode cX1_isNamed 175 = .ok (.goto 4, 3) := by decide +kernel
theorem dX1_isNamed_178 : decode cX1_isNamed 178 = .ok (.iconst 0, 1) := by decide +kernel
theorem dX1_isNamed_179 : decode cX1_isNamed 179 = .ok (.ireturn, 1) := by decide +kernel
theorem dX1_isNamed_180 : decode cX1_isNamed 180 = .ok (.iload_n 2, 1) := by decide +kernel
theorem dX1_isNamed_181 : decode cX1_isNamed 181 = .ok (.iconst 2, 1) := by decide +kernel
theorem dX1_isNamed_182 : decode cX1_isNamed 182 = .ok (.if_icmp .ge 7, 3) := by decide +kernel
theorem dX1_isNamed_185 : decode cX1_isNamed 185 = .ok (.iconst 1, 1) := by decide +kernel
theorem dX1_isNamed_186 : decode cX1_isNamed 186 = .ok (.goto 4, 3) := by decide +kernel
theorem dX1_isNamed_189 : decode cX1_isNamed 189 = .ok (.iconst 0, 1) := by decide +kernel
theorem dX1_isNamed_190 : decode cX1_isNamed 190 = .ok (.ireturn, 1) := by decide +kernel
theorem dX1_isNamed_191 : decode cX1_isNamed 191 = .ok (.iload_n 2, 1) := by decide +kernel
theorem dX1_isNamed_192 : decode cX1_isNamed 192 = .ok (.iconst 1, 1) := by decide +kernel
theorem dX1_isNamed_193 : decode cX1_isNamed 193 = .ok (.if_icmp .ne 15, 3) := by decide +kernel
theorem dX1_isNamed_196 : decode cX1_isNamed 196 = .ok (.iload_n 3, 1) := by decide +kernel
theorem dX1_isNamed_197 : decode cX1_isNamed 197 = .ok (.ifCond .ne 7, 3) := by decide +kernel
theorem dX1_isNamed_200 : decode cX1_isNamed 200 = .ok (.iconst 1, 1) := by decide +kernel
theorem dX1_isNamed_201 : decode cX1_isNamed 201 = .ok (.goto 27, 3) := by decide +kernel
theorem dX1_isNamed_204 : decode cX1_isNamed 204 = .ok (.iconst 0, 1) := by decide +kernel
theorem dX1_isNamed_205 : decode cX1_isNamed 205 = .ok (.goto 23, 3) := by decide +kernel
theorem dX1_isNamed_208 : decode cX1_isNamed 208 = .ok (.iload_n 2, 1) := by decide +kernel
theorem dX1_isNamed_209 : decode cX1_isNamed 209 = .ok (.iconst 5, 1) := by decide +kernel
theorem dX1_isNamed_210 : decode cX1_isNamed 210 = .ok (.if_icmp .ne 13, 3) := by decide +kernel
theorem dX1_isNamed_213 : decode cX1_isNamed 213 = .ok (.iload_n 3, 1) := by decide +kernel
theorem dX1_isNamed_214 : decode cX1_isNamed 214 = .ok (.ifCond .eq 9, 3) := by decide +kernel
theorem dX1_isNamed_217 : decode cX1_isNamed 217 = .ok (.iload_n 3, 1) := by decide +kernel
theorem dX1_isNamed_218 : decode cX1_isNamed 218 = .ok (.bipush 32, 2) := by decide +kernel
theorem dX1_isNamed_220 : decode cX1_isNamed 220 = .ok (.if_icmp .ne 7, 3) := by decide +kernel
theorem dX1_isNamed_223 : decode cX1_isNamed 223 = .ok (.iconst 1, 1) := by decide +kernel
theorem dX1_isNamed_224 : decode cX1_isNamed 224 = .ok (.goto 4, 3) := by decide +kernel
theorem dX1_isNamed_227 : decode cX1_isNamed 227 = .ok (.iconst 0, 1) := by decide +kernel
theorem dX1_isNamed_228 : decode cX1_isNamed 228 = .ok (.ireturn, 1) := by decide +kernel
theorem dX1_isNamed_229 : decode cX1_isNamed 229 = .ok (.iload_n 3, 1) := by decide +kernel
theorem dX1_isNamed_230 : decode cX1_isNamed 230 = .ok (.iconst 2, 1) := by decide +kernel
theorem dX1_isNamed_231 : decode cX1_isNamed 231 = .ok (.if_icmp .lt 18, 3) := by decide +kernel
theorem dX1_isNamed_234 : decode cX1_isNamed 234 = .ok (.iload_n 3, 1) := by decide +kernel
theorem dX1_isNamed_235 : decode cX1_isNamed 235 = .ok (.bipush 32, 2) := by decide +kernel
theorem dX1_isNamed_237 : decode cX1_isNamed 237 = .ok (.if_icmp .ne 16, 3) := by decide +kernel
theorem dX1_isNamed_240 : decode cX1_isNamed 240 = .ok (.iload_n 2, 1) := by decide +kernel
theorem dX1_isNamed_241 : decode cX1_isNamed 241 = .ok (.ifCond .eq 8, 3) := by decide +kernel
theorem dX1_isNamed_244 : decode cX1_isNamed 244 = .ok (.iload_n 2, 1) := by decide +kernel
theorem dX1_isNamed_245 : decode cX1_isNamed 245 = .ok (.iconst 5, 1) := by decide +kernel
theorem dX1_isNamed_246 : decode cX1_isNamed 246 = .ok (.if_icmp .ne 7, 3) := by decide +kernel
theorem dX1_isNamed_249 : decode cX1_isNamed 249 = .ok (.iconst 1, 1) := by decide +kernel
theorem dX1_isNamed_250 : decode cX1_isNamed 250 = .ok (.goto 4, 3) := by decide +kernel
theorem dX1_isNamed_253 : decode cX1_isNamed 253 = .ok (.iconst 0, 1) := by decide +kernel
theorem dX1_isNamed_254 : decode cX1_isNamed 254 = .ok (.ireturn, 1) := by decide +kernel
theorem dX1_isNamed_255 : decode cX1_isNamed 255 = .ok (.iconst 0, 1) := by decide +kernel
theorem dX1_isNamed_256 : decode cX1_isNamed 256 = .ok (.ireturn, 1) := by decide +kernel
theorem dX1_unsigned_0 : decode cX1_unsigned 0 = .ok (.iload_n 0, 1) := by decide +kernel
theorem dX1_unsigned_1 : decode cX1_unsigned 1 = .ok (.ifCond .ge 12, 3) := by decide +kernel
theorem dX1_unsigned_4 : decode cX1_unsigned 4 = .ok (.iload_n 0, 1) := by decide +kernel
theorem dX1_unsigned_5 : decode cX1_unsigned 5 = .ok (.i2l, 1) := by decide +kernel
theorem dX1_unsigned_6 : decode cX1_unsigned 6 = .ok (.ldc2_w 43, 3) := by decide +kernel
theorem dX1_unsigned_9 : decode cX1_unsigned 9 = .ok (.ladd, 1) := by decide +kernel
theorem dX1_unsigned_10 : decode cX1_unsigned 10 = .ok (.goto 5, 3) := by decide +kernel
theorem dX1_unsigned_13 : decode cX1_unsigned 13 = .ok (.iload_n 0, 1) := by decide +kernel
theorem dX1_unsigned_14 : decode cX1_unsigned 14 = .ok (.i2l, 1) := by decide +kernel
theorem dX1_unsigned_15 : decode cX1_unsigned 15 = .ok (.lreturn, 1) := by decide +kernel
theorem dX1_left_0 : decode cX1_left 0 = .ok (.iload_n 0, 1) := by decide +kernel
theorem dX1_left_1 : decode cX1_left 1 = .ok (.invokestatic 45, 3) := by decide +kernel
theorem dX1_left_4 : decode cX1_left 4 = .ok (.lstore_n 2, 1) := by decide +kernel
theorem dX1_left_5 : decode cX1_left 5 = .ok (.iconst 0, 1) := by decide +kernel
theorem dX1_left_6 : decode cX1_left 6 = .ok (.istore 4, 2) := by decide +kernel
theorem dX1_left_8 : decode cX1_left 8 = .ok (.iload 4, 2) := by decide +kernel
theorem dX1_left_10 : decode cX1_left 10 = .ok (.iload_n 1, 1) := by decide +kernel
theorem dX1_left_11 : decode cX1_left 11 = .ok (.if_icmp .ge 19, 3) := by decide +kernel
theorem dX1_left_14 : decode cX1_left 14 = .ok (.lload_n 2, 1) := by decide +kernel
theorem dX1_left_15 : decode cX1_left 15 = .ok (.ldc2_w 25, 3) := by decide +kernel
theorem dX1_left_18 : decode cX1_left 18 = .ok (.lmul, 1) := by decide +kernel
theorem dX1_left_19 : decode cX1_left 19 = .ok (.ldc2_w 43, 3) := by decide +kernel
theorem dX1_left_22 : decode cX1_left 22 = .ok (.lrem, 1) := by decide +kernel
theorem dX1_left_23 : decode cX1_left 23 = .ok (.lstore_n 2, 1) := by decide +kernel
theorem dX1_left_24 : decode cX1_left 24 = .ok (.iinc 4 1, 3) := by decide +kernel
theorem dX1_left_27 : decode cX1_left 27 = .ok (.goto (-19), 3) := by decide +kernel
theorem dX1_left_30 : decode cX1_left 30 = .ok (.lload_n 2, 1) := by decide +kernel
theorem dX1_left_31 : decode cX1_left 31 = .ok (.l2i, 1) := by decide +kernel
theorem dX1_left_32 : decode cX1_left 32 = .ok (.ireturn, 1) := by decide +kernel
theorem dX1_right_0 : decode cX1_right 0 = .ok (.iload_n 2, 1) := by decide +kernel
theorem dX1_right_1 : decode cX1_right 1 = .ok (.ifCond .eq 8, 3) := by decide +kernel
theorem dX1_right_4 : decode cX1_right 4 = .ok (.iload_n 0, 1) := by decide +kernel
theorem dX1_right_5 : decode cX1_right 5 = .ok (.i2l, 1) := by decide +kernel
theorem dX1_right_6 : decode cX1_right 6 = .ok (.goto 7, 3) := by decide +kernel
theorem dX1_right_9 : decode cX1_right 9 = .ok (.iload_n 0, 1) := by decide +kernel
theorem dX1_right_10 : decode cX1_right 10 = .ok (.invokestatic 45, 3) := by decide +kernel
theorem dX1_right_13 : decode cX1_right 13 = .ok (.lstore_n 3, 1) := by decide +kernel
theorem dX1_right_14 : decode cX1_right 14 = .ok (.iconst 0, 1) := by decide +kernel
theorem dX1_right_15 : decode cX1_right 15 = .ok (.istore 5, 2) := by decide +kernel
theorem dX1_right_17 : decode cX1_right 17 = .ok (.iload 5, 2) := by decide +kernel
theorem dX1_right_19 : decode cX1_right 19 = .ok (.iload_n 1, 1) := by decide +kernel
theorem dX1_right_20 : decode cX1_right 20 = .ok (.if_icmp .ge 31, 3) := by decide +kernel
theorem dX1_right_23 : decode cX1_right 23 = .ok (.lload_n 3, 1) := by decide +kernel
theorem dX1_right_24 : decode cX1_right 24 = .ok (.lconst 0, 1) := by decide +kernel
theorem dX1_right_25 : decode cX1_right 25 = .ok (.lcmp, 1) := by decide +kernel
theorem dX1_right_26 : decode cX1_right 26 = .ok (.ifCond .lt 11, 3) := by decide +kernel
theorem dX1_right_29 : decode cX1_right 29 = .ok (.lload_n 3, 1) := by decide +kernel
theorem dX1_right_30 : decode cX1_right 30 = .ok (.ldc2_w 25, 3) := by decide +kernel
theorem dX1_right_33 : decode cX1_right 33 = .ok (.ldiv, 1) := by decide +kernel
theorem dX1_right_34 : decode cX1_right 34 = .ok (.goto 10, 3) := by decide +kernel
theorem dX1_right_37 : decode cX1_right 37 = .ok (.lload_n 3, 1) := by decide +kernel
theorem dX1_right_38 : decode cX1_right 38 = .ok (.lconst 1, 1) := by decide +kernel
theorem dX1_right_39 : decode cX1_right 39 = .ok (.lsub, 1) := by decide +kernel
theorem dX1_right_40 : decode cX1_right 40 = .ok (.ldc2_w 25, 3) := by decide +kernel
theorem dX1_right_43 : decode cX1_right 43 = .ok (.ldiv, 1) := by decide +kernel
theorem dX1_right_44 : decode cX1_right 44 = .ok (.lstore_n 3, 1) := by decide +kernel
theorem dX1_right_45 : decode cX1_right 45 = .ok (.iinc 5 1, 3) := by decide +kernel
theorem dX1_right_48 : decode cX1_right 48 = .ok (.goto (-31), 3) := by decide +kernel
theorem dX1_right_51 : decode cX1_right 51 = .ok (.lload_n 3, 1) := by decide +kernel
theorem dX1_right_52 : decode cX1_right 52 = .ok (.l2i, 1) := by decide +kernel
theorem dX1_right_53 : decode cX1_right 53 = .ok (.ireturn, 1) := by decide +kernel
theorem dX1_upper_0 : decode cX1_upper 0 = .ok (.lload_n 2, 1) := by decide +kernel
theorem dX1_upper_1 : decode cX1_upper 1 = .ok (.lconst 0, 1) := by decide +kernel
theorem dX1_upper_2 : decode cX1_upper 2 = .ok (.lcmp, 1) := by decide +kernel
theorem dX1_upper_3 : decode cX1_upper 3 = .ok (.ifCond .lt 11, 3) := by decide +kernel
theorem dX1_upper_6 : decode cX1_upper 6 = .ok (.lload_n 2, 1) := by decide +kernel
theorem dX1_upper_7 : decode cX1_upper 7 = .ok (.ldc2_w 49, 3) := by decide +kernel
theorem dX1_upper_10 : decode cX1_upper 10 = .ok (.ldiv, 1) := by decide +kernel
theorem dX1_upper_11 : decode cX1_upper 11 = .ok (.goto 12, 3) := by decide +kernel
theorem dX1_upper_14 : decode cX1_upper 14 = .ok (.lload_n 2, 1) := by decide +kernel
theorem dX1_upper_15 : decode cX1_upper 15 = .ok (.ldc2_w 51, 3) := by decide +kernel
theorem dX1_upper_18 : decode cX1_upper 18 = .ok (.lsub, 1) := by decide +kernel
theorem dX1_upper_19 : decode cX1_upper 19 = .ok (.ldc2_w 49, 3) := by decide +kernel
theorem dX1_upper_22 : decode cX1_upper 22 = .ok (.ldiv, 1) := by decide +kernel
theorem dX1_upper_23 : decode cX1_upper 23 = .ok (.lstore 4, 2) := by decide +kernel
theorem dX1_upper_25 : decode cX1_upper 25 = .ok (.lload_n 2, 1) := by decide +kernel
theorem dX1_upper_26 : decode cX1_upper 26 = .ok (.ldc2_w 49, 3) := by decide +kernel
theorem dX1_upper_29 : decode cX1_upper 29 = .ok (.lload 4, 2) := by decide +kernel
theorem dX1_upper_31 : decode cX1_upper 31 = .ok (.lmul, 1) := by decide +kernel
theorem dX1_upper_32 : decode cX1_upper 32 = .ok (.lsub, 1) := by decide +kernel
theorem dX1_upper_33 : decode cX1_upper 33 = .ok (.lstore 6, 2) := by decide +kernel
theorem dX1_upper_35 : decode cX1_upper 35 = .ok (.lload_n 0, 1) := by decide +kernel
theorem dX1_upper_36 : decode cX1_upper 36 = .ok (.lload 6, 2) := by decide +kernel
theorem dX1_upper_38 : decode cX1_upper 38 = .ok (.lmul, 1) := by decide +kernel
theorem dX1_upper_39 : decode cX1_upper 39 = .ok (.lstore 8, 2) := by decide +kernel
theorem dX1_upper_41 : decode cX1_upper 41 = .ok (.lload_n 0, 1) := by decide +kernel
theorem dX1_upper_42 : decode cX1_upper 42 = .ok (.lload 4, 2) := by decide +kernel
theorem dX1_upper_44 : decode cX1_upper 44 = .ok (.lmul, 1) := by decide +kernel
theorem dX1_upper_45 : decode cX1_upper 45 = .ok (.lload 8, 2) := by decide +kernel
theorem dX1_upper_47 : decode cX1_upper 47 = .ok (.lconst 0, 1) := by decide +kernel
theorem dX1_upper_48 : decode cX1_upper 48 = .ok (.lcmp, 1) := by decide +kernel
theorem dX1_upper_49 : decode cX1_upper 49 = .ok (.ifCond .lt 12, 3) := by decide +kernel
theorem dX1_upper_52 : decode cX1_upper 52 = .ok (.lload 8, 2) := by decide +kernel
theorem dX1_upper_54 : decode cX1_upper 54 = .ok (.ldc2_w 49, 3) := by decide +kernel
theorem dX1_upper_57 : decode cX1_upper 57 = .ok (.ldiv, 1) := by decide +kernel
theorem dX1_upper_58 : decode cX1_upper 58 = .ok (.goto 13, 3) := by decide +kernel
theorem dX1_upper_61 : decode cX1_upper 61 = .ok (.lload 8, 2) := by decide +kernel
theorem dX1_upper_63 : decode cX1_upper 63 = .ok (.ldc2_w 51, 3) := by decide +kernel
theorem dX1_upper_66 : decode cX1_upper 66 = .ok (.lsub, 1) := by decide +kernel
theorem dX1_upper_67 : decode cX1_upper 67 = .ok (.ldc2_w 49, 3) := by decide +kernel
theorem dX1_upper_70 : decode cX1_upper 70 = .ok (.ldiv, 1) := by decide +kernel
theorem dX1_upper_71 : decode cX1_upper 71 = .ok (.ladd, 1) := by decide +kernel
theorem dX1_upper_72 : decode cX1_upper 72 = .ok (.lstore 10, 2) := by decide +kernel
theorem dX1_upper_74 : decode cX1_upper 74 = .ok (.lload 10, 2) := by decide +kernel
theorem dX1_upper_76 : decode cX1_upper 76 = .ok (.lconst 0, 1) := by decide +kernel
theorem dX1_upper_77 : decode cX1_upper 77 = .ok (.lcmp, 1) := by decide +kernel
theorem dX1_upper_78 : decode cX1_upper 78 = .ok (.ifCond .lt 12, 3) := by decide +kernel
theorem dX1_upper_81 : decode cX1_upper 81 = .ok (.lload 10, 2) := by decide +kernel
theorem dX1_upper_83 : decode cX1_upper 83 = .ok (.ldc2_w 49, 3) := by decide +kernel
theorem dX1_upper_86 : decode cX1_upper 86 = .ok (.ldiv, 1) := by decide +kernel
theorem dX1_upper_87 : decode cX1_upper 87 = .ok (.goto 13, 3) := by decide +kernel
theorem dX1_upper_90 : decode cX1_upper 90 = .ok (.lload 10, 2) := by decide +kernel
theorem dX1_upper_92 : decode cX1_upper 92 = .ok (.ldc2_w 51, 3) := by decide +kernel
theorem dX1_upper_95 : decode cX1_upper 95 = .ok (.lsub, 1) := by decide +kernel
theorem dX1_upper_96 : decode cX1_upper 96 = .ok (.ldc2_w 49, 3) := by decide +kernel
theorem dX1_upper_99 : decode cX1_upper 99 = .ok (.ldiv, 1) := by decide +kernel
theorem dX1_upper_100 : decode cX1_upper 100 = .ok (.l2i, 1) := by decide +kernel
theorem dX1_upper_101 : decode cX1_upper 101 = .ok (.ireturn, 1) := by decide +kernel
theorem dX1_quotient_0 : decode cX1_quotient 0 = .ok (.lload_n 2, 1) := by decide +kernel
theorem dX1_quotient_1 : decode cX1_quotient 1 = .ok (.lconst 0, 1) := by decide +kernel
theorem dX1_quotient_2 : decode cX1_quotient 2 = .ok (.lcmp, 1) := by decide +kernel
theorem dX1_quotient_3 : decode cX1_quotient 3 = .ok (.ifCond .ne 7, 3) := by decide +kernel
theorem dX1_quotient_6 : decode cX1_quotient 6 = .ok (.iconst (-1), 1) := by decide +kernel
theorem dX1_quotient_7 : decode cX1_quotient 7 = .ok (.goto 7, 3) := by decide +kernel
theorem dX1_quotient_10 : decode cX1_quotient 10 = .ok (.lload_n 0, 1) := by decide +kernel
theorem dX1_quotient_11 : decode cX1_quotient 11 = .ok (.lload_n 2, 1) := by decide +kernel
theorem dX1_quotient_12 : decode cX1_quotient 12 = .ok (.ldiv, 1) := by decide +kernel
theorem dX1_quotient_13 : decode cX1_quotient 13 = .ok (.l2i, 1) := by decide +kernel
theorem dX1_quotient_14 : decode cX1_quotient 14 = .ok (.ireturn, 1) := by decide +kernel
theorem dX1_rest_0 : decode cX1_rest 0 = .ok (.lload_n 2, 1) := by decide +kernel
theorem dX1_rest_1 : decode cX1_rest 1 = .ok (.lconst 0, 1) := by decide +kernel
theorem dX1_rest_2 : decode cX1_rest 2 = .ok (.lcmp, 1) := by decide +kernel
theorem dX1_rest_3 : decode cX1_rest 3 = .ok (.ifCond .ne 7, 3) := by decide +kernel
theorem dX1_rest_6 : decode cX1_rest 6 = .ok (.lload_n 0, 1) := by decide +kernel
theorem dX1_rest_7 : decode cX1_rest 7 = .ok (.goto 10, 3) := by decide +kernel
theorem dX1_rest_10 : decode cX1_rest 10 = .ok (.lload_n 0, 1) := by decide +kernel
theorem dX1_rest_11 : decode cX1_rest 11 = .ok (.lload_n 0, 1) := by decide +kernel
theorem dX1_rest_12 : decode cX1_rest 12 = .ok (.lload_n 2, 1) := by decide +kernel
theorem dX1_rest_13 : decode cX1_rest 13 = .ok (.ldiv, 1) := by decide +kernel
theorem dX1_rest_14 : decode cX1_rest 14 = .ok (.lload_n 2, 1) := by decide +kernel
theorem dX1_rest_15 : decode cX1_rest 15 = .ok (.lmul, 1) := by decide +kernel
theorem dX1_rest_16 : decode cX1_rest 16 = .ok (.lsub, 1) := by decide +kernel
theorem dX1_rest_17 : decode cX1_rest 17 = .ok (.l2i, 1) := by decide +kernel
theorem dX1_rest_18 : decode cX1_rest 18 = .ok (.ireturn, 1) := by decide +kernel
theorem dX1_plain_0 : decode cX1_plain 0 = .ok (.iload_n 0, 1) := by decide +kernel
theorem dX1_plain_1 : decode cX1_plain 1 = .ok (.tableswitch 87 0 6 #[43, 87, 50, 61, 79, 87, 83], 43) := by decide +kernel
theorem dX1_plain_44 : decode cX1_plain 44 = .ok (.iload_n 1, 1) := by decide +kernel
theorem dX1_plain_45 : decode cX1_plain 45 = .ok (.i2l, 1) := by decide +kernel
theorem dX1_plain_46 : decode cX1_plain 46 = .ok (.iload_n 2, 1) := by decide +kernel
theorem dX1_plain_47 : decode cX1_plain 47 = .ok (.i2l, 1) := by decide +kernel
theorem dX1_plain_48 : decode cX1_plain 48 = .ok (.ladd, 1) := by decide +kernel
theorem dX1_plain_49 : decode cX1_plain 49 = .ok (.l2i, 1) := by decide +kernel
theorem dX1_plain_50 : decode cX1_plain 50 = .ok (.ireturn, 1) := by decide +kernel
theorem dX1_plain_51 : decode cX1_plain 51 = .ok (.iload_n 1, 1) := by decide +kernel
theorem dX1_plain_52 : decode cX1_plain 52 = .ok (.iload_n 2, 1) := by decide +kernel
theorem dX1_plain_53 : decode cX1_plain 53 = .ok (.if_icmp .ge 7, 3) := by decide +kernel
theorem dX1_plain_56 : decode cX1_plain 56 = .ok (.iconst 1, 1) := by decide +kernel
theorem dX1_plain_57 : decode cX1_plain 57 = .ok (.goto 4, 3) := by decide +kernel
theorem dX1_plain_60 : decode cX1_plain 60 = .ok (.iconst 0, 1) := by decide +kernel
theorem dX1_plain_61 : decode cX1_plain 61 = .ok (.ireturn, 1) := by decide +kernel
theorem dX1_plain_62 : decode cX1_plain 62 = .ok (.iload_n 1, 1) := by decide +kernel
theorem dX1_plain_63 : decode cX1_plain 63 = .ok (.invokestatic 45, 3) := by decide +kernel
theorem dX1_plain_66 : decode cX1_plain 66 = .ok (.iload_n 2, 1) := by decide +kernel
theorem dX1_plain_67 : decode cX1_plain 67 = .ok (.invokestatic 45, 3) := by decide +kernel
theorem dX1_plain_70 : decode cX1_plain 70 = .ok (.lcmp, 1) := by decide +kernel
theorem dX1_plain_71 : decode cX1_plain 71 = .ok (.ifCond .ge 7, 3) := by decide +kernel
theorem dX1_plain_74 : decode cX1_plain 74 = .ok (.iconst 1, 1) := by decide +kernel
theorem dX1_plain_75 : decode cX1_plain 75 = .ok (.goto 4, 3) := by decide +kernel
theorem dX1_plain_78 : decode cX1_plain 78 = .ok (.iconst 0, 1) := by decide +kernel
theorem dX1_plain_79 : decode cX1_plain 79 = .ok (.ireturn, 1) := by decide +kernel
theorem dX1_plain_80 : decode cX1_plain 80 = .ok (.iload_n 1, 1) := by decide +kernel
theorem dX1_plain_81 : decode cX1_plain 81 = .ok (.iload_n 2, 1) := by decide +kernel
theorem dX1_plain_82 : decode cX1_plain 82 = .ok (.ixor, 1) := by decide +kernel
theorem dX1_plain_83 : decode cX1_plain 83 = .ok (.ireturn, 1) := by decide +kernel
theorem dX1_plain_84 : decode cX1_plain 84 = .ok (.iload_n 1, 1) := by decide +kernel
theorem dX1_plain_85 : decode cX1_plain 85 = .ok (.iload_n 2, 1) := by decide +kernel
theorem dX1_plain_86 : decode cX1_plain 86 = .ok (.ior, 1) := by decide +kernel
theorem dX1_plain_87 : decode cX1_plain 87 = .ok (.ireturn, 1) := by decide +kernel
theorem dX1_plain_88 : decode cX1_plain 88 = .ok (.iload_n 1, 1) := by decide +kernel
theorem dX1_plain_89 : decode cX1_plain 89 = .ok (.iload_n 2, 1) := by decide +kernel
theorem dX1_plain_90 : decode cX1_plain 90 = .ok (.iand, 1) := by decide +kernel
theorem dX1_plain_91 : decode cX1_plain 91 = .ok (.ireturn, 1) := by decide +kernel
theorem dX1_product_0 : decode cX1_product 0 = .ok (.iload_n 0, 1) := by decide +kernel
theorem dX1_product_1 : decode cX1_product 1 = .ok (.tableswitch 108 0 6 #[43, 50, 58, 68, 80, 88, 100], 43) := by decide +kernel
theorem dX1_product_44 : decode cX1_product 44 = .ok (.iload_n 1, 1) := by decide +kernel
theorem dX1_product_45 : decode cX1_product 45 = .ok (.i2l, 1) := by decide +kernel
theorem dX1_product_46 : decode cX1_product 46 = .ok (.iload_n 2, 1) := by decide +kernel
theorem dX1_product_47 : decode cX1_product 47 = .ok (.i2l, 1) := by decide +kernel
theorem dX1_product_48 : decode cX1_product 48 = .ok (.lmul, 1) := by decide +kernel
theorem dX1_product_49 : decode cX1_product 49 = .ok (.l2i, 1) := by decide +kernel
theorem dX1_product_50 : decode cX1_product 50 = .ok (.ireturn, 1) := by decide +kernel
theorem dX1_product_51 : decode cX1_product 51 = .ok (.iload_n 1, 1) := by decide +kernel
theorem dX1_product_52 : decode cX1_product 52 = .ok (.i2l, 1) := by decide +kernel
theorem dX1_product_53 : decode cX1_product 53 = .ok (.iload_n 2, 1) := by decide +kernel
theorem dX1_product_54 : decode cX1_product 54 = .ok (.i2l, 1) := by decide +kernel
theorem dX1_product_55 : decode cX1_product 55 = .ok (.invokestatic 53, 3) := by decide +kernel
theorem dX1_product_58 : decode cX1_product 58 = .ok (.ireturn, 1) := by decide +kernel
theorem dX1_product_59 : decode cX1_product 59 = .ok (.iload_n 1, 1) := by decide +kernel
theorem dX1_product_60 : decode cX1_product 60 = .ok (.i2l, 1) := by decide +kernel
theorem dX1_product_61 : decode cX1_product 61 = .ok (.iload_n 2, 1) := by decide +kernel
theorem dX1_product_62 : decode cX1_product 62 = .ok (.invokestatic 45, 3) := by decide +kernel
theorem dX1_product_65 : decode cX1_product 65 = .ok (.invokestatic 53, 3) := by decide +kernel
theorem dX1_product_68 : decode cX1_product 68 = .ok (.ireturn, 1) := by decide +kernel
theorem dX1_product_69 : decode cX1_product 69 = .ok (.iload_n 1, 1) := by decide +kernel
theorem dX1_product_70 : decode cX1_product 70 = .ok (.invokestatic 45, 3) := by decide +kernel
theorem dX1_product_73 : decode cX1_product 73 = .ok (.iload_n 2, 1) := by decide +kernel
theorem dX1_product_74 : decode cX1_product 74 = .ok (.invokestatic 45, 3) := by decide +kernel
theorem dX1_product_77 : decode cX1_product 77 = .ok (.invokestatic 53, 3) := by decide +kernel
theorem dX1_product_80 : decode cX1_product 80 = .ok (.ireturn, 1) := by decide +kernel
theorem dX1_product_81 : decode cX1_product 81 = .ok (.iload_n 1, 1) := by decide +kernel
theorem dX1_product_82 : decode cX1_product 82 = .ok (.i2l, 1) := by decide +kernel
theorem dX1_product_83 : decode cX1_product 83 = .ok (.iload_n 2, 1) := by decide +kernel
theorem dX1_product_84 : decode cX1_product 84 = .ok (.i2l, 1) := by decide +kernel
theorem dX1_product_85 : decode cX1_product 85 = .ok (.invokestatic 57, 3) := by decide +kernel
theorem dX1_product_88 : decode cX1_product 88 = .ok (.ireturn, 1) := by decide +kernel
theorem dX1_product_89 : decode cX1_product 89 = .ok (.iload_n 1, 1) := by decide +kernel
theorem dX1_product_90 : decode cX1_product 90 = .ok (.invokestatic 45, 3) := by decide +kernel
theorem dX1_product_93 : decode cX1_product 93 = .ok (.iload_n 2, 1) := by decide +kernel
theorem dX1_product_94 : decode cX1_product 94 = .ok (.invokestatic 45, 3) := by decide +kernel
theorem dX1_product_97 : decode cX1_product 97 = .ok (.invokestatic 57, 3) := by decide +kernel
theorem dX1_product_100 : decode cX1_product 100 = .ok (.ireturn, 1) := by decide +kernel
theorem dX1_product_101 : decode cX1_product 101 = .ok (.iload_n 1, 1) := by decide +kernel
theorem dX1_product_102 : decode cX1_product 102 = .ok (.i2l, 1) := by decide +kernel
theorem dX1_product_103 : decode cX1_product 103 = .ok (.iload_n 2, 1) := by decide +kernel
theorem dX1_product_104 : decode cX1_product 104 = .ok (.i2l, 1) := by decide +kernel
theorem dX1_product_105 : decode cX1_product 105 = .ok (.invokestatic 60, 3) := by decide +kernel
theorem dX1_product_108 : decode cX1_product 108 = .ok (.ireturn, 1) := by decide +kernel
theorem dX1_product_109 : decode cX1_product 109 = .ok (.iload_n 1, 1) := by decide +kernel
theorem dX1_product_110 : decode cX1_product 110 = .ok (.invokestatic 45, 3) := by decide +kernel
theorem dX1_product_113 : decode cX1_product 113 = .ok (.iload_n 2, 1) := by decide +kernel
theorem dX1_product_114 : decode cX1_product 114 = .ok (.invokestatic 45, 3) := by decide +kernel
theorem dX1_product_117 : decode cX1_product 117 = .ok (.invokestatic 60, 3) := by decide +kernel
theorem dX1_product_120 : decode cX1_product 120 = .ok (.ireturn, 1) := by decide +kernel
theorem dX1_puts_0 : decode cX1_puts 0 = .ok (.aload_n 0, 1) := by decide +kernel
theorem dX1_puts_1 : decode cX1_puts 1 = .ok (.iload_n 1, 1) := by decide +kernel
theorem dX1_puts_2 : decode cX1_puts 2 = .ok (.iconst 0, 1) := by decide +kernel
theorem dX1_puts_3 : decode cX1_puts 3 = .ok (.invokevirtual 40, 3) := by decide +kernel
theorem dX1_puts_6 : decode cX1_puts 6 = .ok (.istore 5, 2) := by decide +kernel
theorem dX1_puts_8 : decode cX1_puts 8 = .ok (.aload_n 0, 1) := by decide +kernel
theorem dX1_puts_9 : decode cX1_puts 9 = .ok (.iload_n 1, 1) := by decide +kernel
theorem dX1_puts_10 : decode cX1_puts 10 = .ok (.iconst 2, 1) := by decide +kernel
theorem dX1_puts_11 : decode cX1_puts 11 = .ok (.invokevirtual 40, 3) := by decide +kernel
theorem dX1_puts_14 : decode cX1_puts 14 = .ok (.istore 6, 2) := by decide +kernel
theorem dX1_puts_16 : decode cX1_puts 16 = .ok (.aload_n 0, 1) := by decide +kernel
theorem dX1_puts_17 : decode cX1_puts 17 = .ok (.iload_n 1, 1) := by decide +kernel
theorem dX1_puts_18 : decode cX1_puts 18 = .ok (.iconst 5, 1) := by decide +kernel
theorem dX1_puts_19 : decode cX1_puts 19 = .ok (.invokevirtual 40, 3) := by decide +kernel
theorem dX1_puts_22 : decode cX1_puts 22 = .ok (.istore 7, 2) := by decide +kernel
theorem dX1_puts_24 : decode cX1_puts 24 = .ok (.iload 5, 2) := by decide +kernel
theorem dX1_puts_26 : decode cX1_puts 26 = .ok (.bipush 55, 2) := by decide +kernel
theorem dX1_puts_28 : decode cX1_puts 28 = .ok (.if_icmp .ne 11, 3) := by decide +kernel
theorem dX1_puts_31 : decode cX1_puts 31 = .ok (.aload_n 0, 1) := by decide +kernel
theorem dX1_puts_32 : decode cX1_puts 32 = .ok (.iload_n 1, 1) := by decide +kernel
theorem dX1_puts_33 : decode cX1_puts 33 = .ok (.bipush 9, 2) := by decide +kernel
theorem dX1_puts_35 : decode cX1_puts 35 = .ok (.invokevirtual 40, 3) := by decide +kernel
theorem dX1_puts_38 : decode cX1_puts 38 = .ok (.ireturn, 1) := by decide +kernel
theorem dX1_puts_39 : decode cX1_puts 39 = .ok (.iload 5, 2) := by decide +kernel
theorem dX1_puts_41 : decode cX1_puts 41 = .ok (.bipush 23, 2) := by decide +kernel
theorem dX1_puts_43 : decode cX1_puts 43 = .ok (.if_icmp .ne 17, 3) := by decide +kernel
theorem dX1_puts_46 : decode cX1_puts 46 = .ok (.iload 4, 2) := by decide +kernel
theorem dX1_puts_48 : decode cX1_puts 48 = .ok (.i2l, 1) := by decide +kernel
theorem dX1_puts_49 : decode cX1_puts 49 = .ok (.aload_n 0, 1) := by decide +kernel
theorem dX1_puts_50 : decode cX1_puts 50 = .ok (.iload_n 1, 1) := by decide +kernel
theorem dX1_puts_51 : decode cX1_puts 51 = .ok (.bipush 9, 2) := by decide +kernel
theorem dX1_puts_53 : decode cX1_puts 53 = .ok (.invokevirtual 40, 3) := by decide +kernel
theorem dX1_puts_56 : decode cX1_puts 56 = .ok (.i2l, 1) := by decide +kernel
theorem dX1_puts_57 : decode cX1_puts 57 = .ok (.ladd, 1) := by decide +kernel
theorem dX1_puts_58 : decode cX1_puts 58 = .ok (.l2i, 1) := by decide +kernel
theorem dX1_puts_59 : decode cX1_puts 59 = .ok (.ireturn, 1) := by decide +kernel
theorem dX1_puts_60 : decode cX1_puts 60 = .ok (.iload 5, 2) := by decide +kernel
theorem dX1_puts_62 : decode cX1_puts 62 = .ok (.bipush 51, 2) := by decide +kernel
theorem dX1_puts_64 : decode cX1_puts 64 = .ok (.if_icmp .ne 17, 3) := by decide +kernel
theorem dX1_puts_67 : decode cX1_puts 67 = .ok (.iload 7, 2) := by decide +kernel
theorem dX1_puts_69 : decode cX1_puts 69 = .ok (.iconst 1, 1) := by decide +kernel
theorem dX1_puts_70 : decode cX1_puts 70 = .ok (.if_icmp .ne 11, 3) := by decide +kernel
theorem dX1_puts_73 : decode cX1_puts 73 = .ok (.iload 6, 2) := by decide +kernel
theorem dX1_puts_75 : decode cX1_puts 75 = .ok (.iload_n 2, 1) := by decide +kernel
theorem dX1_puts_76 : decode cX1_puts 76 = .ok (.iload_n 3, 1) := by decide +kernel
theorem dX1_puts_77 : decode cX1_puts 77 = .ok (.invokestatic 63, 3) := by decide +kernel
theorem dX1_puts_80 : decode cX1_puts 80 = .ok (.ireturn, 1) := by decide +kernel
theorem dX1_puts_81 : decode cX1_puts 81 = .ok (.iload 5, 2) := by decide +kernel
theorem dX1_puts_83 : decode cX1_puts 83 = .ok (.bipush 51, 2) := by decide +kernel
theorem dX1_puts_85 : decode cX1_puts 85 = .ok (.if_icmp .ne 22, 3) := by decide +kernel
theorem dX1_puts_88 : decode cX1_puts 88 = .ok (.iload 7, 2) := by decide +kernel
theorem dX1_puts_90 : decode cX1_puts 90 = .ok (.bipush 32, 2) := by decide +kernel
theorem dX1_puts_92 : decode cX1_puts 92 = .ok (.if_icmp .ne 15, 3) := by decide +kernel
theorem dX1_puts_95 : decode cX1_puts 95 = .ok (.iload 6, 2) := by decide +kernel
theorem dX1_puts_97 : decode cX1_puts 97 = .ok (.ifCond .ne 10, 3) := by decide +kernel
theorem dX1_puts_100 : decode cX1_puts 100 = .ok (.iload_n 2, 1) := by decide +kernel
theorem dX1_puts_101 : decode cX1_puts 101 = .ok (.i2l, 1) := by decide +kernel
theorem dX1_puts_102 : decode cX1_puts 102 = .ok (.iload_n 3, 1) := by decide +kernel
theorem dX1_puts_103 : decode cX1_puts 103 = .ok (.i2l, 1) := by decide +kernel
theorem dX1_puts_104 : decode cX1_puts 104 = .ok (.lsub, 1) := by decide +kernel
theorem dX1_puts_105 : decode cX1_puts 105 = .ok (.l2i, 1) := by decide +kernel
theorem dX1_puts_106 : decode cX1_puts 106 = .ok (.ireturn, 1) := by decide +kernel
theorem dX1_puts_107 : decode cX1_puts 107 = .ok (.iload 5, 2) := by decide +kernel
theorem dX1_puts_109 : decode cX1_puts 109 = .ok (.bipush 19, 2) := by decide +kernel
theorem dX1_puts_111 : decode cX1_puts 111 = .ok (.if_icmp .ne 12, 3) := by decide +kernel
theorem dX1_puts_114 : decode cX1_puts 114 = .ok (.aload_n 0, 1) := by decide +kernel
theorem dX1_puts_115 : decode cX1_puts 115 = .ok (.iload_n 1, 1) := by decide +kernel
theorem dX1_puts_116 : decode cX1_puts 116 = .ok (.iconst 4, 1) := by decide +kernel
theorem dX1_puts_117 : decode cX1_puts 117 = .ok (.invokevirtual 40, 3) := by decide +kernel
theorem dX1_puts_120 : decode cX1_puts 120 = .ok (.goto 12, 3) := by decide +kernel
theorem dX1_puts_123 : decode cX1_puts 123 = .ok (.iload_n 3, 1) := by decide +kernel
theorem dX1_puts_124 : decode cX1_puts 124 = .ok (.invokestatic 45, 3) := by decide +kernel
theorem dX1_puts_127 : decode cX1_puts 127 = .ok (.ldc2_w 66, 3) := by decide +kernel
theorem dX1_puts_130 : decode cX1_puts 130 = .ok (.lrem, 1) := by decide +kernel
theorem dX1_puts_131 : decode cX1_puts 131 = .ok (.l2i, 1) := by decide +kernel
theorem dX1_puts_132 : decode cX1_puts 132 = .ok (.istore 8, 2) := by decide +kernel
theorem dX1_puts_134 : decode cX1_puts 134 = .ok (.iload 6, 2) := by decide +kernel
theorem dX1_puts_136 : decode cX1_puts 136 = .ok (.iconst 1, 1) := by decide +kernel
theorem dX1_puts_137 : decode cX1_puts 137 = .ok (.if_icmp .ne 10, 3) := by decide +kernel
theorem dX1_puts_140 : decode cX1_puts 140 = .ok (.iload_n 2, 1) := by decide +kernel
theorem dX1_puts_141 : decode cX1_puts 141 = .ok (.iload 8, 2) := by decide +kernel
theorem dX1_puts_143 : decode cX1_puts 143 = .ok (.invokestatic 68, 3) := by decide +kernel
theorem dX1_puts_146 : decode cX1_puts 146 = .ok (.ireturn, 1) := by decide +kernel
theorem dX1_puts_147 : decode cX1_puts 147 = .ok (.iload 6, 2) := by decide +kernel
theorem dX1_puts_149 : decode cX1_puts 149 = .ok (.iconst 5, 1) := by decide +kernel
theorem dX1_puts_150 : decode cX1_puts 150 = .ok (.if_icmp .ne 22, 3) := by decide +kernel
theorem dX1_puts_153 : decode cX1_puts 153 = .ok (.iload_n 2, 1) := by decide +kernel
theorem dX1_puts_154 : decode cX1_puts 154 = .ok (.iload 8, 2) := by decide +kernel
theorem dX1_puts_156 : decode cX1_puts 156 = .ok (.iload 7, 2) := by decide +kernel
theorem dX1_puts_158 : decode cX1_puts 158 = .ok (.bipush 32, 2) := by decide +kernel
theorem dX1_puts_160 : decode cX1_puts 160 = .ok (.if_icmp .ne 7, 3) := by decide +kernel
theorem dX1_puts_163 : decode cX1_puts 163 = .ok (.iconst 1, 1) := by decide +kernel
theorem dX1_puts_164 : decode cX1_puts 164 = .ok (.goto 4, 3) := by decide +kernel
theorem dX1_puts_167 : decode cX1_puts 167 = .ok (.iconst 0, 1) := by decide +kernel
theorem dX1_puts_168 : decode cX1_puts 168 = .ok (.invokestatic 71, 3) := by decide +kernel
theorem dX1_puts_171 : decode cX1_puts 171 = .ok (.ireturn, 1) := by decide +kernel
theorem dX1_puts_172 : decode cX1_puts 172 = .ok (.iload 6, 2) := by decide +kernel
theorem dX1_puts_174 : decode cX1_puts 174 = .ok (.iload_n 2, 1) := by decide +kernel
theorem dX1_puts_175 : decode cX1_puts 175 = .ok (.iload 5, 2) := by decide +kernel
theorem dX1_puts_177 : decode cX1_puts 177 = .ok (.bipush 19, 2) := by decide +kernel
theorem dX1_puts_179 : decode cX1_puts 179 = .ok (.if_icmp .ne 13, 3) := by decide +kernel
theorem dX1_puts_182 : decode cX1_puts 182 = .ok (.aload_n 0, 1) := by decide +kernel
theorem dX1_puts_183 : decode cX1_puts 183 = .ok (.iload_n 1, 1) := by decide +kernel
theorem dX1_puts_184 : decode cX1_puts 184 = .ok (.bipush 6, 2) := by decide +kernel
theorem dX1_puts_186 : decode cX1_puts 186 = .ok (.invokevirtual 40, 3) := by decide +kernel
theorem dX1_puts_189 : decode cX1_puts 189 = .ok (.goto 4, 3) := by decide +kernel
theorem dX1_puts_192 : decode cX1_puts 192 = .ok (.iload_n 3, 1) := by decide +kernel
theorem dX1_puts_193 : decode cX1_puts 193 = .ok (.invokestatic 75, 3) := by decide +kernel
theorem dX1_puts_196 : decode cX1_puts 196 = .ok (.ireturn, 1) := by decide +kernel
theorem dX1_isArithmetic_0 : decode cX1_isArithmetic 0 = .ok (.iload_n 0, 1) := by decide +kernel
theorem dX1_isArithmetic_1 : decode cX1_isArithmetic 1 = .ok (.bipush 19, 2) := by decide +kernel
theorem dX1_isArithmetic_3 : decode cX1_isArithmetic 3 = .ok (.if_icmp .eq 21, 3) := by decide +kernel
theorem dX1_isArithmetic_6 : decode cX1_isArithmetic 6 = .ok (.iload_n 0, 1) := by decide +kernel
theorem dX1_isArithmetic_7 : decode cX1_isArithmetic 7 = .ok (.bipush 51, 2) := by decide +kernel
theorem dX1_isArithmetic_9 : decode cX1_isArithmetic 9 = .ok (.if_icmp .eq 15, 3) := by decide +kernel
theorem dX1_isArithmetic_12 : decode cX1_isArithmetic 12 = .ok (.iload_n 0, 1) := by decide +kernel
theorem dX1_isArithmetic_13 : decode cX1_isArithmetic 13 = .ok (.bipush 23, 2) := by decide +kernel
theorem dX1_isArithmetic_15 : decode cX1_isArithmetic 15 = .ok (.if_icmp .eq 9, 3) := by decide +kernel
theorem dX1_isArithmetic_18 : decode cX1_isArithmetic 18 = .ok (.iload_n 0, 1) := by decide +kernel
theorem dX1_isArithmetic_19 : decode cX1_isArithmetic 19 = .ok (.bipush 55, 2) := by decide +kernel
theorem dX1_isArithmetic_21 : decode cX1_isArithmetic 21 = .ok (.if_icmp .ne 7, 3) := by decide +kernel
theorem dX1_isArithmetic_24 : decode cX1_isArithmetic 24 = .ok (.iconst 1, 1) := by decide +kernel
theorem dX1_isArithmetic_25 : decode cX1_isArithmetic 25 = .ok (.goto 4, 3) := by decide +kernel
theorem dX1_isArithmetic_28 : decode cX1_isArithmetic 28 = .ok (.iconst 0, 1) := by decide +kernel
theorem dX1_isArithmetic_29 : decode cX1_isArithmetic 29 = .ok (.ireturn, 1) := by decide +kernel
theorem dX1_reckon_0 : decode cX1_reckon 0 = .ok (.aload_n 0, 1) := by decide +kernel
theorem dX1_reckon_1 : decode cX1_reckon 1 = .ok (.iload_n 1, 1) := by decide +kernel
theorem dX1_reckon_2 : decode cX1_reckon 2 = .ok (.invokevirtual 36, 3) := by decide +kernel
theorem dX1_reckon_5 : decode cX1_reckon 5 = .ok (.ifCond .eq 26, 3) := by decide +kernel
theorem dX1_reckon_8 : decode cX1_reckon 8 = .ok (.aload_n 0, 1) := by decide +kernel
theorem dX1_reckon_9 : decode cX1_reckon 9 = .ok (.iload_n 1, 1) := by decide +kernel
theorem dX1_reckon_10 : decode cX1_reckon 10 = .ok (.iconst 0, 1) := by decide +kernel
theorem dX1_reckon_11 : decode cX1_reckon 11 = .ok (.invokevirtual 40, 3) := by decide +kernel
theorem dX1_reckon_14 : decode cX1_reckon 14 = .ok (.invokestatic 78, 3) := by decide +kernel
theorem dX1_reckon_17 : decode cX1_reckon 17 = .ok (.ifCond .eq 14, 3) := by decide +kernel
theorem dX1_reckon_20 : decode cX1_reckon 20 = .ok (.aload_n 0, 1) := by decide +kernel
theorem dX1_reckon_21 : decode cX1_reckon 21 = .ok (.iload_n 1, 1) := by decide +kernel
theorem dX1_reckon_22 : decode cX1_reckon 22 = .ok (.iload_n 2, 1) := by decide +kernel
theorem dX1_reckon_23 : decode cX1_reckon 23 = .ok (.iload_n 3, 1) := by decide +kernel
theorem dX1_reckon_24 : decode cX1_reckon 24 = .ok (.iconst 0, 1) := by decide +kernel
theorem dX1_reckon_25 : decode cX1_reckon 25 = .ok (.invokevirtual 81, 3) := by decide +kernel
theorem dX1_reckon_28 : decode cX1_reckon 28 = .ok (.goto 4, 3) := by decide +kernel
theorem dX1_reckon_31 : decode cX1_reckon 31 = .ok (.iconst 0, 1) := by decide +kernel
theorem dX1_reckon_32 : decode cX1_reckon 32 = .ok (.ireturn, 1) := by decide +kernel
theorem dX1_isThere_0 : decode cX1_isThere 0 = .ok (.lload_n 0, 1) := by decide +kernel
theorem dX1_isThere_1 : decode cX1_isThere 1 = .ok (.lconst 0, 1) := by decide +kernel
theorem dX1_isThere_2 : decode cX1_isThere 2 = .ok (.lcmp, 1) := by decide +kernel
theorem dX1_isThere_3 : decode cX1_isThere 3 = .ok (.ifCond .lt 18, 3) := by decide +kernel
theorem dX1_isThere_6 : decode cX1_isThere 6 = .ok (.lload_n 0, 1) := by decide +kernel
theorem dX1_isThere_7 : decode cX1_isThere 7 = .ok (.iload_n 2, 1) := by decide +kernel
theorem dX1_isThere_8 : decode cX1_isThere 8 = .ok (.i2l, 1) := by decide +kernel
theorem dX1_isThere_9 : decode cX1_isThere 9 = .ok (.ladd, 1) := by decide +kernel
theorem dX1_isThere_10 : decode cX1_isThere 10 = .ok (.ldc2_w 85, 3) := by decide +kernel
theorem dX1_isThere_13 : decode cX1_isThere 13 = .ok (.lcmp, 1) := by decide +kernel
theorem dX1_isThere_14 : decode cX1_isThere 14 = .ok (.ifCond .gt 7, 3) := by decide +kernel
theorem dX1_isThere_17 : decode cX1_isThere 17 = .ok (.iconst 1, 1) := by decide +kernel
theorem dX1_isThere_18 : decode cX1_isThere 18 = .ok (.goto 4, 3) := by decide +kernel
theorem dX1_isThere_21 : decode cX1_isThere 21 = .ok (.iconst 0, 1) := by decide +kernel
theorem dX1_isThere_22 : decode cX1_isThere 22 = .ok (.ireturn, 1) := by decide +kernel
theorem dX1_read_0 : decode cX1_read 0 = .ok (.lconst 0, 1) := by decide +kernel
theorem dX1_read_1 : decode cX1_read 1 = .ok (.lstore_n 3, 1) := by decide +kernel
theorem dX1_read_2 : decode cX1_read 2 = .ok (.iload_n 2, 1) := by decide +kernel
theorem dX1_read_3 : decode cX1_read 3 = .ok (.iconst 1, 1) := by decide +kernel
theorem dX1_read_4 : decode cX1_read 4 = .ok (.isub, 1) := by decide +kernel
theorem dX1_read_5 : decode cX1_read 5 = .ok (.istore 5, 2) := by decide +kernel
theorem dX1_read_7 : decode cX1_read 7 = .ok (.iload 5, 2) := by decide +kernel
theorem dX1_read_9 : decode cX1_read 9 = .ok (.ifCond .lt 26, 3) := by decide +kernel
