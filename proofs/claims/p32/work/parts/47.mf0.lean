abbrev cX12_bitsOf : ByteArray := prog_14_method_88_code
def yX12_bitsOf : MethodName := ⟨RX12, "bitsOf", "(J)I"⟩
theorem okX12_bitsOf : yok yX12_bitsOf 1 := by decide +kernel
theorem dX12_bitsOf_0 : decode cX12_bitsOf 0 = .ok (.iconst 0, 1) := by decide +kernel
theorem dX12_bitsOf_1 : decode cX12_bitsOf 1 = .ok (.istore_n 3, 1) := by decide +kernel
theorem dX12_bitsOf_2 : decode cX12_bitsOf 2 = .ok (.iconst 0, 1) := by decide +kernel
theorem dX12_bitsOf_3 : decode cX12_bitsOf 3 = .ok (.istore 4, 2) := by decide +kernel
theorem dX12_bitsOf_5 : decode cX12_bitsOf 5 = .ok (.iload 4, 2) := by decide +kernel
theorem dX12_bitsOf_7 : decode cX12_bitsOf 7 = .ok (.aload_n 0, 1) := by decide +kernel
theorem dX12_bitsOf_8 : decode cX12_bitsOf 8 = .ok (.getfield 423, 3) := by decide +kernel
theorem dX12_bitsOf_11 : decode cX12_bitsOf 11 = .ok (.if_icmp .ge 26, 3) := by decide +kernel
theorem dX12_bitsOf_37 : decode cX12_bitsOf 37 = .ok (.iload_n 3, 1) := by decide +kernel
theorem dX12_bitsOf_38 : decode cX12_bitsOf 38 = .ok (.ireturn, 1) := by decide +kernel
theorem dX12_bitsOf_14 : decode cX12_bitsOf 14 = .ok (.iload_n 3, 1) := by decide +kernel
theorem dX12_bitsOf_15 : decode cX12_bitsOf 15 = .ok (.lload_n 1, 1) := by decide +kernel
theorem dX12_bitsOf_16 : decode cX12_bitsOf 16 = .ok (.iload 4, 2) := by decide +kernel
theorem dX12_bitsOf_18 : decode cX12_bitsOf 18 = .ok (.invokestatic 487, 3) := by decide +kernel
theorem dX12_bitsOf_21 : decode cX12_bitsOf 21 = .ok (.ifCond .eq 7, 3) := by decide +kernel
theorem dX12_bitsOf_28 : decode cX12_bitsOf 28 = .ok (.iconst 0, 1) := by decide +kernel
theorem dX12_bitsOf_29 : decode cX12_bitsOf 29 = .ok (.iadd, 1) := by decide +kernel
theorem dX12_bitsOf_30 : decode cX12_bitsOf 30 = .ok (.istore_n 3, 1) := by decide +kernel
theorem dX12_bitsOf_31 : decode cX12_bitsOf 31 = .ok (.iinc 4 1, 3) := by decide +kernel
theorem dX12_bitsOf_34 : decode cX12_bitsOf 34 = .ok (.goto (-29), 3) := by decide +kernel
theorem dX12_bitsOf_24 : decode cX12_bitsOf 24 = .ok (.iconst 1, 1) := by decide +kernel
theorem dX12_bitsOf_25 : decode cX12_bitsOf 25 = .ok (.goto 4, 3) := by decide +kernel
abbrev cX12_fault : ByteArray := prog_14_method_65_code
def yX12_fault : MethodName := ⟨RX12, "fault", "(IIZIIII)I"⟩
theorem okX12_fault : yok yX12_fault 7 := by decide +kernel
theorem dX12_fault_0 : decode cX12_fault 0 = .ok (.aload_n 0, 1) := by decide +kernel
theorem dX12_fault_1 : decode cX12_fault 1 = .ok (.iconst 0, 1) := by decide +kernel
theorem dX12_fault_2 : decode cX12_fault 2 = .ok (.putfield 1, 3) := by decide +kernel
theorem dX12_fault_5 : decode cX12_fault 5 = .ok (.iload_n 1, 1) := by decide +kernel
theorem dX12_fault_6 : decode cX12_fault 6 = .ok (.iload_n 2, 1) := by decide +kernel
theorem dX12_fault_7 : decode cX12_fault 7 = .ok (.invokestatic 419, 3) := by decide +kernel
theorem dX12_fault_10 : decode cX12_fault 10 = .ok (.ifCond .eq 72, 3) := by decide +kernel
theorem dX12_fault_82 : decode cX12_fault 82 = .ok (.iconst 0, 1) := by decide +kernel
theorem dX12_fault_83 : decode cX12_fault 83 = .ok (.istore 8, 2) := by decide +kernel
theorem dX12_fault_85 : decode cX12_fault 85 = .ok (.iload 8, 2) := by decide +kernel
theorem dX12_fault_87 : decode cX12_fault 87 = .ok (.ifCond .eq 48, 3) := by decide +kernel
theorem dX12_fault_135 : decode cX12_fault 135 = .ok (.iconst 0, 1) := by decide +kernel
theorem dX12_fault_136 : decode cX12_fault 136 = .ok (.istore 8, 2) := by decide +kernel
theorem dX12_fault_138 : decode cX12_fault 138 = .ok (.iload 8, 2) := by decide +kernel
theorem dX12_fault_140 : decode cX12_fault 140 = .ok (.ifCond .ne 5, 3) := by decide +kernel
theorem dX12_fault_143 : decode cX12_fault 143 = .ok (.iconst (-1), 1) := by decide +kernel
theorem dX12_fault_144 : decode cX12_fault 144 = .ok (.ireturn, 1) := by decide +kernel
theorem dX12_fault_13 : decode cX12_fault 13 = .ok (.iload 4, 2) := by decide +kernel
theorem dX12_fault_15 : decode cX12_fault 15 = .ok (.iconst 1, 1) := by decide +kernel
theorem dX12_fault_16 : decode cX12_fault 16 = .ok (.bipush 12, 2) := by decide +kernel
theorem dX12_fault_18 : decode cX12_fault 18 = .ok (.invokestatic 415, 3) := by decide +kernel
theorem dX12_fault_21 : decode cX12_fault 21 = .ok (.ifCond .eq 61, 3) := by decide +kernel
theorem dX12_fault_24 : decode cX12_fault 24 = .ok (.iload 5, 2) := by decide +kernel
theorem dX12_fault_26 : decode cX12_fault 26 = .ok (.sipush (-300), 3) := by decide +kernel
theorem dX12_fault_29 : decode cX12_fault 29 = .ok (.sipush 300, 3) := by decide +kernel
theorem dX12_fault_32 : decode cX12_fault 32 = .ok (.invokestatic 415, 3) := by decide +kernel
theorem dX12_fault_35 : decode cX12_fault 35 = .ok (.ifCond .eq 47, 3) := by decide +kernel
theorem dX12_fault_38 : decode cX12_fault 38 = .ok (.iload 6, 2) := by decide +kernel
theorem dX12_fault_40 : decode cX12_fault 40 = .ok (.sipush (-300), 3) := by decide +kernel
theorem dX12_fault_43 : decode cX12_fault 43 = .ok (.sipush 300, 3) := by decide +kernel
theorem dX12_fault_46 : decode cX12_fault 46 = .ok (.invokestatic 415, 3) := by decide +kernel
theorem dX12_fault_49 : decode cX12_fault 49 = .ok (.ifCond .eq 33, 3) := by decide +kernel
theorem dX12_fault_52 : decode cX12_fault 52 = .ok (.iload 5, 2) := by decide +kernel
theorem dX12_fault_54 : decode cX12_fault 54 = .ok (.iload 6, 2) := by decide +kernel
theorem dX12_fault_56 : decode cX12_fault 56 = .ok (.if_icmp .gt 26, 3) := by decide +kernel
theorem dX12_fault_59 : decode cX12_fault 59 = .ok (.iload 7, 2) := by decide +kernel
theorem dX12_fault_61 : decode cX12_fault 61 = .ok (.iconst 1, 1) := by decide +kernel
theorem dX12_fault_62 : decode cX12_fault 62 = .ok (.bipush 99, 2) := by decide +kernel
theorem dX12_fault_64 : decode cX12_fault 64 = .ok (.invokestatic 415, 3) := by decide +kernel
theorem dX12_fault_67 : decode cX12_fault 67 = .ok (.ifCond .eq 15, 3) := by decide +kernel
theorem dX12_fault_70 : decode cX12_fault 70 = .ok (.aload_n 0, 1) := by decide +kernel
theorem dX12_fault_71 : decode cX12_fault 71 = .ok (.getfield 477, 3) := by decide +kernel
theorem dX12_fault_74 : decode cX12_fault 74 = .ok (.iconst 4, 1) := by decide +kernel
theorem dX12_fault_75 : decode cX12_fault 75 = .ok (.if_icmp .ge 7, 3) := by decide +kernel
theorem dX12_fault_78 : decode cX12_fault 78 = .ok (.iconst 1, 1) := by decide +kernel
theorem dX12_fault_79 : decode cX12_fault 79 = .ok (.goto 4, 3) := by decide +kernel
theorem dX12_fault_90 : decode cX12_fault 90 = .ok (.iload_n 3, 1) := by decide +kernel
theorem dX12_fault_91 : decode cX12_fault 91 = .ok (.ifCond .eq 23, 3) := by decide +kernel
theorem dX12_fault_114 : decode cX12_fault 114 = .ok (.iload_n 2, 1) := by decide +kernel
theorem dX12_fault_115 : decode cX12_fault 115 = .ok (.iconst 1, 1) := by decide +kernel
theorem dX12_fault_116 : decode cX12_fault 116 = .ok (.iadd, 1) := by decide +kernel
theorem dX12_fault_117 : decode cX12_fault 117 = .ok (.bipush 8, 2) := by decide +kernel
theorem dX12_fault_119 : decode cX12_fault 119 = .ok (.if_icmp .ge 16, 3) := by decide +kernel
theorem dX12_fault_122 : decode cX12_fault 122 = .ok (.iload_n 1, 1) := by decide +kernel
theorem dX12_fault_123 : decode cX12_fault 123 = .ok (.iload 4, 2) := by decide +kernel
theorem dX12_fault_125 : decode cX12_fault 125 = .ok (.iadd, 1) := by decide +kernel
theorem dX12_fault_126 : decode cX12_fault 126 = .ok (.bipush 12, 2) := by decide +kernel
theorem dX12_fault_128 : decode cX12_fault 128 = .ok (.if_icmp .gt 7, 3) := by decide +kernel
theorem dX12_fault_131 : decode cX12_fault 131 = .ok (.iconst 1, 1) := by decide +kernel
theorem dX12_fault_132 : decode cX12_fault 132 = .ok (.goto 4, 3) := by decide +kernel
theorem dX12_fault_145 : decode cX12_fault 145 = .ok (.iconst 0, 1) := by decide +kernel
theorem dX12_fault_146 : decode cX12_fault 146 = .ok (.istore 9, 2) := by decide +kernel
theorem dX12_fault_148 : decode cX12_fault 148 = .ok (.iload 9, 2) := by decide +kernel
theorem dX12_fault_150 : decode cX12_fault 150 = .ok (.sipush 192, 3) := by decide +kernel
theorem dX12_fault_153 : decode cX12_fault 153 = .ok (.if_icmp .ge 26, 3) := by decide +kernel
theorem dX12_fault_179 : decode cX12_fault 179 = .ok (.iconst 0, 1) := by decide +kernel
theorem dX12_fault_180 : decode cX12_fault 180 = .ok (.istore 9, 2) := by decide +kernel
theorem dX12_fault_182 : decode cX12_fault 182 = .ok (.iload 9, 2) := by decide +kernel
theorem dX12_fault_184 : decode cX12_fault 184 = .ok (.iload 4, 2) := by decide +kernel
theorem dX12_fault_186 : decode cX12_fault 186 = .ok (.if_icmp .ge 52, 3) := by decide +kernel
theorem dX12_fault_238 : decode cX12_fault 238 = .ok (.aload_n 0, 1) := by decide +kernel
theorem dX12_fault_239 : decode cX12_fault 239 = .ok (.getfield 224, 3) := by decide +kernel
theorem dX12_fault_242 : decode cX12_fault 242 = .ok (.aload_n 0, 1) := by decide +kernel
theorem dX12_fault_243 : decode cX12_fault 243 = .ok (.getfield 477, 3) := by decide +kernel
theorem dX12_fault_246 : decode cX12_fault 246 = .ok (.iload 5, 2) := by decide +kernel
theorem dX12_fault_248 : decode cX12_fault 248 = .ok (.iastore, 1) := by decide +kernel
theorem dX12_fault_249 : decode cX12_fault 249 = .ok (.aload_n 0, 1) := by decide +kernel
theorem dX12_fault_250 : decode cX12_fault 250 = .ok (.getfield 227, 3) := by decide +kernel
theorem dX12_fault_253 : decode cX12_fault 253 = .ok (.aload_n 0, 1) := by decide +kernel
theorem dX12_fault_254 : decode cX12_fault 254 = .ok (.getfield 477, 3) := by decide +kernel
theorem dX12_fault_257 : decode cX12_fault 257 = .ok (.iload 6, 2) := by decide +kernel
theorem dX12_fault_259 : decode cX12_fault 259 = .ok (.iastore, 1) := by decide +kernel
theorem dX12_fault_260 : decode cX12_fault 260 = .ok (.aload_n 0, 1) := by decide +kernel
theorem dX12_fault_261 : decode cX12_fault 261 = .ok (.getfield 230, 3) := by decide +kernel
theorem dX12_fault_264 : decode cX12_fault 264 = .ok (.aload_n 0, 1) := by decide +kernel
theorem dX12_fault_265 : decode cX12_fault 265 = .ok (.getfield 477, 3) := by decide +kernel
theorem dX12_fault_268 : decode cX12_fault 268 = .ok (.iload 7, 2) := by decide +kernel
theorem dX12_fault_270 : decode cX12_fault 270 = .ok (.iastore, 1) := by decide +kernel
theorem dX12_fault_271 : decode cX12_fault 271 = .ok (.aload_n 0, 1) := by decide +kernel
theorem dX12_fault_272 : decode cX12_fault 272 = .ok (.dup, 1) := by decide +kernel
theorem dX12_fault_273 : decode cX12_fault 273 = .ok (.getfield 477, 3) := by decide +kernel
theorem dX12_fault_276 : decode cX12_fault 276 = .ok (.iconst 1, 1) := by decide +kernel
theorem dX12_fault_277 : decode cX12_fault 277 = .ok (.iadd, 1) := by decide +kernel
theorem dX12_fault_278 : decode cX12_fault 278 = .ok (.putfield 477, 3) := by decide +kernel
theorem pk_LandSurveyModel_57 : pk RX12 TX12 87 57 tyX12 false := ⟨tyX12_ok, nmX12, rfl⟩
theorem dX12_fault_281 : decode cX12_fault 281 = .ok (.aload_n 0, 1) := by decide +kernel
theorem dX12_fault_282 : decode cX12_fault 282 = .ok (.iconst 1, 1) := by decide +kernel
theorem dX12_fault_283 : decode cX12_fault 283 = .ok (.putfield 290, 3) := by decide +kernel
theorem dX12_fault_286 : decode cX12_fault 286 = .ok (.aload_n 0, 1) := by decide +kernel
theorem dX12_fault_287 : decode cX12_fault 287 = .ok (.getfield 477, 3) := by decide +kernel
theorem dX12_fault_290 : decode cX12_fault 290 = .ok (.iconst 1, 1) := by decide +kernel
theorem dX12_fault_291 : decode cX12_fault 291 = .ok (.isub, 1) := by decide +kernel
theorem dX12_fault_292 : decode cX12_fault 292 = .ok (.ireturn, 1) := by decide +kernel
theorem dX12_fault_189 : decode cX12_fault 189 = .ok (.aload_n 0, 1) := by decide +kernel
theorem dX12_fault_190 : decode cX12_fault 190 = .ok (.getfield 221, 3) := by decide +kernel
theorem dX12_fault_193 : decode cX12_fault 193 = .ok (.sipush 192, 3) := by decide +kernel
theorem dX12_fault_196 : decode cX12_fault 196 = .ok (.aload_n 0, 1) := by decide +kernel
theorem dX12_fault_197 : decode cX12_fault 197 = .ok (.getfield 477, 3) := by decide +kernel
theorem dX12_fault_200 : decode cX12_fault 200 = .ok (.imul, 1) := by decide +kernel
theorem dX12_fault_201 : decode cX12_fault 201 = .ok (.iload_n 3, 1) := by decide +kernel
theorem dX12_fault_202 : decode cX12_fault 202 = .ok (.ifCond .eq 15, 3) := by decide +kernel
theorem dX12_fault_217 : decode cX12_fault 217 = .ok (.bipush 96, 2) := by decide +kernel
theorem dX12_fault_219 : decode cX12_fault 219 = .ok (.bipush 12, 2) := by decide +kernel
theorem dX12_fault_221 : decode cX12_fault 221 = .ok (.iload_n 2, 1) := by decide +kernel
theorem dX12_fault_222 : decode cX12_fault 222 = .ok (.imul, 1) := by decide +kernel
theorem dX12_fault_223 : decode cX12_fault 223 = .ok (.iadd, 1) := by decide +kernel
theorem dX12_fault_224 : decode cX12_fault 224 = .ok (.iload_n 1, 1) := by decide +kernel
theorem dX12_fault_225 : decode cX12_fault 225 = .ok (.iadd, 1) := by decide +kernel
theorem dX12_fault_226 : decode cX12_fault 226 = .ok (.iload 9, 2) := by decide +kernel
theorem dX12_fault_228 : decode cX12_fault 228 = .ok (.iadd, 1) := by decide +kernel
theorem dX12_fault_229 : decode cX12_fault 229 = .ok (.iadd, 1) := by decide +kernel
theorem dX12_fault_230 : decode cX12_fault 230 = .ok (.iconst 1, 1) := by decide +kernel
theorem dX12_fault_231 : decode cX12_fault 231 = .ok (.bastore, 1) := by decide +kernel
theorem dX12_fault_232 : decode cX12_fault 232 = .ok (.iinc 9 1, 3) := by decide +kernel
theorem dX12_fault_235 : decode cX12_fault 235 = .ok (.goto (-53), 3) := by decide +kernel
theorem dX12_fault_156 : decode cX12_fault 156 = .ok (.aload_n 0, 1) := by decide +kernel
theorem dX12_fault_157 : decode cX12_fault 157 = .ok (.getfield 221, 3) := by decide +kernel
theorem dX12_fault_160 : decode cX12_fault 160 = .ok (.sipush 192, 3) := by decide +kernel
theorem dX12_fault_163 : decode cX12_fault 163 = .ok (.aload_n 0, 1) := by decide +kernel
theorem dX12_fault_164 : decode cX12_fault 164 = .ok (.getfield 477, 3) := by decide +kernel
theorem dX12_fault_167 : decode cX12_fault 167 = .ok (.imul, 1) := by decide +kernel
theorem dX12_fault_168 : decode cX12_fault 168 = .ok (.iload 9, 2) := by decide +kernel
theorem dX12_fault_170 : decode cX12_fault 170 = .ok (.iadd, 1) := by decide +kernel
theorem dX12_fault_171 : decode cX12_fault 171 = .ok (.iconst 0, 1) := by decide +kernel
theorem dX12_fault_172 : decode cX12_fault 172 = .ok (.bastore, 1) := by decide +kernel
theorem dX12_fault_173 : decode cX12_fault 173 = .ok (.iinc 9 1, 3) := by decide +kernel
theorem dX12_fault_176 : decode cX12_fault 176 = .ok (.goto (-28), 3) := by decide +kernel
theorem dX12_fault_94 : decode cX12_fault 94 = .ok (.iload_n 1, 1) := by decide +kernel
theorem dX12_fault_95 : decode cX12_fault 95 = .ok (.iconst 1, 1) := by decide +kernel
theorem dX12_fault_96 : decode cX12_fault 96 = .ok (.iadd, 1) := by decide +kernel
theorem dX12_fault_97 : decode cX12_fault 97 = .ok (.bipush 12, 2) := by decide +kernel
theorem dX12_fault_99 : decode cX12_fault 99 = .ok (.if_icmp .ge 36, 3) := by decide +kernel
theorem dX12_fault_102 : decode cX12_fault 102 = .ok (.iload_n 2, 1) := by decide +kernel
theorem dX12_fault_103 : decode cX12_fault 103 = .ok (.iload 4, 2) := by decide +kernel
theorem dX12_fault_105 : decode cX12_fault 105 = .ok (.iadd, 1) := by decide +kernel
theorem dX12_fault_106 : decode cX12_fault 106 = .ok (.bipush 8, 2) := by decide +kernel
theorem dX12_fault_108 : decode cX12_fault 108 = .ok (.if_icmp .gt 27, 3) := by decide +kernel
theorem dX12_fault_111 : decode cX12_fault 111 = .ok (.goto 20, 3) := by decide +kernel
theorem dX12_fault_205 : decode cX12_fault 205 = .ok (.bipush 12, 2) := by decide +kernel
theorem dX12_fault_207 : decode cX12_fault 207 = .ok (.iload_n 2, 1) := by decide +kernel
theorem dX12_fault_208 : decode cX12_fault 208 = .ok (.iload 9, 2) := by decide +kernel
theorem dX12_fault_210 : decode cX12_fault 210 = .ok (.iadd, 1) := by decide +kernel
theorem dX12_fault_211 : decode cX12_fault 211 = .ok (.imul, 1) := by decide +kernel
theorem dX12_fault_212 : decode cX12_fault 212 = .ok (.iload_n 1, 1) := by decide +kernel
theorem dX12_fault_213 : decode cX12_fault 213 = .ok (.iadd, 1) := by decide +kernel
theorem dX12_fault_214 : decode cX12_fault 214 = .ok (.goto 15, 3) := by decide +kernel
abbrev cX12_allThin : ByteArray := prog_14_method_92_code
def yX12_allThin : MethodName := ⟨RX12, "allThin", "(II)I"⟩
theorem okX12_allThin : yok yX12_allThin 2 := by decide +kernel
theorem dX12_allThin_0 : decode cX12_allThin 0 = .ok (.iconst 0, 1) := by decide +kernel
theorem dX12_allThin_1 : decode cX12_allThin 1 = .ok (.istore_n 3, 1) := by decide +kernel
theorem dX12_allThin_2 : decode cX12_allThin 2 = .ok (.iload_n 1, 1) := by decide +kernel
theorem dX12_allThin_3 : decode cX12_allThin 3 = .ok (.istore 4, 2) := by decide +kernel
theorem dX12_allThin_5 : decode cX12_allThin 5 = .ok (.iload 4, 2) := by decide +kernel
theorem dX12_allThin_7 : decode cX12_allThin 7 = .ok (.iload_n 2, 1) := by decide +kernel
theorem dX12_allThin_8 : decode cX12_allThin 8 = .ok (.if_icmp .ge 18, 3) := by decide +kernel
theorem dX12_allThin_26 : decode cX12_allThin 26 = .ok (.iload_n 3, 1) := by decide +kernel
theorem dX12_allThin_27 : decode cX12_allThin 27 = .ok (.ireturn, 1) := by decide +kernel
theorem dX12_allThin_11 : decode cX12_allThin 11 = .ok (.iload_n 3, 1) := by decide +kernel
theorem dX12_allThin_12 : decode cX12_allThin 12 = .ok (.aload_n 0, 1) := by decide +kernel
theorem dX12_allThin_13 : decode cX12_allThin 13 = .ok (.iload 4, 2) := by decide +kernel
theorem dX12_allThin_15 : decode cX12_allThin 15 = .ok (.invokevirtual 459, 3) := by decide +kernel
theorem dX12_allThin_18 : decode cX12_allThin 18 = .ok (.iadd, 1) := by decide +kernel
theorem dX12_allThin_19 : decode cX12_allThin 19 = .ok (.istore_n 3, 1) := by decide +kernel
theorem dX12_allThin_20 : decode cX12_allThin 20 = .ok (.iinc 4 1, 3) := by decide +kernel
theorem dX12_allThin_23 : decode cX12_allThin 23 = .ok (.goto (-18), 3) := by decide +kernel
abbrev cX12_mayLie : ByteArray := prog_14_method_93_code
def yX12_mayLie : MethodName := ⟨RX12, "mayLie", "(III)I"⟩
theorem okX12_mayLie : yok yX12_mayLie 3 := by decide +kernel
theorem dX12_mayLie_0 : decode cX12_mayLie 0 = .ok (.aload_n 0, 1) := by decide +kernel
theorem dX12_mayLie_1 : decode cX12_mayLie 1 = .ok (.invokevirtual 453, 3) := by decide +kernel
theorem dX12_mayLie_4 : decode cX12_mayLie 4 = .ok (.istore 4, 2) := by decide +kernel
theorem dX12_mayLie_6 : decode cX12_mayLie 6 = .ok (.aload_n 0, 1) := by decide +kernel
theorem dX12_mayLie_7 : decode cX12_mayLie 7 = .ok (.getfield 263, 3) := by decide +kernel
theorem dX12_mayLie_10 : decode cX12_mayLie 10 = .ok (.iload_n 1, 1) := by decide +kernel
theorem dX12_mayLie_11 : decode cX12_mayLie 11 = .ok (.baload, 1) := by decide +kernel
theorem dX12_mayLie_12 : decode cX12_mayLie 12 = .ok (.ifCond .ne 18, 3) := by decide +kernel
theorem dX12_mayLie_30 : decode cX12_mayLie 30 = .ok (.aload_n 0, 1) := by decide +kernel
theorem dX12_mayLie_31 : decode cX12_mayLie 31 = .ok (.getfield 161, 3) := by decide +kernel
theorem dX12_mayLie_34 : decode cX12_mayLie 34 = .ok (.iload_n 2, 1) := by decide +kernel
theorem dX12_mayLie_35 : decode cX12_mayLie 35 = .ok (.iaload, 1) := by decide +kernel
theorem dX12_mayLie_36 : decode cX12_mayLie 36 = .ok (.iload_n 3, 1) := by decide +kernel
theorem dX12_mayLie_37 : decode cX12_mayLie 37 = .ok (.isub, 1) := by decide +kernel
theorem dX12_mayLie_38 : decode cX12_mayLie 38 = .ok (.istore 5, 2) := by decide +kernel
theorem dX12_mayLie_40 : decode cX12_mayLie 40 = .ok (.aload_n 0, 1) := by decide +kernel
theorem dX12_mayLie_41 : decode cX12_mayLie 41 = .ok (.getfield 266, 3) := by decide +kernel
theorem dX12_mayLie_44 : decode cX12_mayLie 44 = .ok (.bipush 96, 2) := by decide +kernel
theorem dX12_mayLie_46 : decode cX12_mayLie 46 = .ok (.iload_n 1, 1) := by decide +kernel
theorem dX12_mayLie_47 : decode cX12_mayLie 47 = .ok (.imul, 1) := by decide +kernel
theorem dX12_mayLie_48 : decode cX12_mayLie 48 = .ok (.iload_n 2, 1) := by decide +kernel
theorem dX12_mayLie_49 : decode cX12_mayLie 49 = .ok (.iadd, 1) := by decide +kernel
theorem dX12_mayLie_50 : decode cX12_mayLie 50 = .ok (.iaload, 1) := by decide +kernel
theorem dX12_mayLie_51 : decode cX12_mayLie 51 = .ok (.istore 6, 2) := by decide +kernel
theorem dX12_mayLie_53 : decode cX12_mayLie 53 = .ok (.aload_n 0, 1) := by decide +kernel
theorem dX12_mayLie_54 : decode cX12_mayLie 54 = .ok (.getfield 269, 3) := by decide +kernel
theorem dX12_mayLie_57 : decode cX12_mayLie 57 = .ok (.bipush 96, 2) := by decide +kernel
theorem dX12_mayLie_59 : decode cX12_mayLie 59 = .ok (.iload_n 1, 1) := by decide +kernel
theorem dX12_mayLie_60 : decode cX12_mayLie 60 = .ok (.imul, 1) := by decide +kernel
theorem dX12_mayLie_61 : decode cX12_mayLie 61 = .ok (.iload_n 2, 1) := by decide +kernel
theorem dX12_mayLie_62 : decode cX12_mayLie 62 = .ok (.iadd, 1) := by decide +kernel
theorem dX12_mayLie_63 : decode cX12_mayLie 63 = .ok (.iaload, 1) := by decide +kernel
theorem dX12_mayLie_64 : decode cX12_mayLie 64 = .ok (.istore 7, 2) := by decide +kernel
theorem dX12_mayLie_66 : decode cX12_mayLie 66 = .ok (.iload 7, 2) := by decide +kernel
theorem dX12_mayLie_68 : decode cX12_mayLie 68 = .ok (.iload 5, 2) := by decide +kernel
theorem dX12_mayLie_70 : decode cX12_mayLie 70 = .ok (.if_icmp .le 9, 3) := by decide +kernel
theorem dX12_mayLie_79 : decode cX12_mayLie 79 = .ok (.iconst 0, 1) := by decide +kernel
theorem dX12_mayLie_80 : decode cX12_mayLie 80 = .ok (.iload 5, 2) := by decide +kernel
theorem dX12_mayLie_82 : decode cX12_mayLie 82 = .ok (.iload 6, 2) := by decide +kernel
theorem dX12_mayLie_84 : decode cX12_mayLie 84 = .ok (.aload_n 0, 1) := by decide +kernel
theorem dX12_mayLie_85 : decode cX12_mayLie 85 = .ok (.iconst 0, 1) := by decide +kernel
theorem dX12_mayLie_86 : decode cX12_mayLie 86 = .ok (.iload 4, 2) := by decide +kernel
theorem dX12_mayLie_88 : decode cX12_mayLie 88 = .ok (.invokevirtual 569, 3) := by decide +kernel
theorem kw_2127 : Cond.code yX12_allThin prog_14_method_92_code 5 (some .int) ∈ uu := uu_in (i := 2127) (by decide +kernel) (by decide +kernel)
theorem kw_2124 : Cond.methodLink "LandSurveyModel" 569 yX12_allThin ∈ uu := uu_in (i := 2124) (by decide +kernel) (by decide +kernel)
theorem kw_2126 : Cond.instanceMethod yX12_allThin ∈ uu := uu_in (i := 2126) (by decide +kernel) (by decide +kernel)
theorem kw_126 : Cond.selects "LandSurveyModel" yX12_allThin yX12_allThin ∈ uu := uu_in (i := 126) (by decide +kernel) (by decide +kernel)
theorem lk_LandSurveyModel_569 : lkV "LandSurveyModel" 569 yX12_allThin cX12_allThin 5 (some .int) 2 := ⟨kw_2124, kw_2126, kw_126, kw_152, kw_2127, okX12_allThin⟩
theorem dX12_mayLie_91 : decode cX12_mayLie 91 = .ok (.iadd, 1) := by decide +kernel
theorem dX12_mayLie_92 : decode cX12_mayLie 92 = .ok (.if_icmp .le 9, 3) := by decide +kernel
theorem dX12_mayLie_101 : decode cX12_mayLie 101 = .ok (.iconst 0, 1) := by decide +kernel
theorem dX12_mayLie_102 : decode cX12_mayLie 102 = .ok (.ior, 1) := by decide +kernel
theorem dX12_mayLie_103 : decode cX12_mayLie 103 = .ok (.istore 8, 2) := by decide +kernel
theorem dX12_mayLie_105 : decode cX12_mayLie 105 = .ok (.iconst 0, 1) := by decide +kernel
theorem dX12_mayLie_106 : decode cX12_mayLie 106 = .ok (.istore 9, 2) := by decide +kernel
theorem dX12_mayLie_108 : decode cX12_mayLie 108 = .ok (.iload 9, 2) := by decide +kernel
theorem dX12_mayLie_110 : decode cX12_mayLie 110 = .ok (.iload 4, 2) := by decide +kernel
theorem dX12_mayLie_112 : decode cX12_mayLie 112 = .ok (.if_icmp .ge 84, 3) := by decide +kernel
theorem dX12_mayLie_196 : decode cX12_mayLie 196 = .ok (.iload 8, 2) := by decide +kernel
theorem dX12_mayLie_198 : decode cX12_mayLie 198 = .ok (.ireturn, 1) := by decide +kernel
theorem dX12_mayLie_115 : decode cX12_mayLie 115 = .ok (.iload 5, 2) := by decide +kernel
theorem dX12_mayLie_117 : decode cX12_mayLie 117 = .ok (.aload_n 0, 1) := by decide +kernel
theorem dX12_mayLie_118 : decode cX12_mayLie 118 = .ok (.iload 9, 2) := by decide +kernel
theorem dX12_mayLie_120 : decode cX12_mayLie 120 = .ok (.iload_n 2, 1) := by decide +kernel
theorem dX12_mayLie_121 : decode cX12_mayLie 121 = .ok (.invokevirtual 468, 3) := by decide +kernel
theorem dX12_mayLie_124 : decode cX12_mayLie 124 = .ok (.isub, 1) := by decide +kernel
theorem dX12_mayLie_125 : decode cX12_mayLie 125 = .ok (.aload_n 0, 1) := by decide +kernel
theorem dX12_mayLie_126 : decode cX12_mayLie 126 = .ok (.iload 9, 2) := by decide +kernel
theorem dX12_mayLie_128 : decode cX12_mayLie 128 = .ok (.invokevirtual 462, 3) := by decide +kernel
theorem dX12_mayLie_131 : decode cX12_mayLie 131 = .ok (.isub, 1) := by decide +kernel
theorem dX12_mayLie_132 : decode cX12_mayLie 132 = .ok (.istore 10, 2) := by decide +kernel
theorem dX12_mayLie_134 : decode cX12_mayLie 134 = .ok (.iload 5, 2) := by decide +kernel
theorem dX12_mayLie_136 : decode cX12_mayLie 136 = .ok (.aload_n 0, 1) := by decide +kernel
theorem dX12_mayLie_137 : decode cX12_mayLie 137 = .ok (.iload 9, 2) := by decide +kernel
theorem dX12_mayLie_139 : decode cX12_mayLie 139 = .ok (.iload_n 2, 1) := by decide +kernel
theorem dX12_mayLie_140 : decode cX12_mayLie 140 = .ok (.invokevirtual 471, 3) := by decide +kernel
theorem dX12_mayLie_143 : decode cX12_mayLie 143 = .ok (.isub, 1) := by decide +kernel
theorem dX12_mayLie_144 : decode cX12_mayLie 144 = .ok (.istore 11, 2) := by decide +kernel
theorem dX12_mayLie_146 : decode cX12_mayLie 146 = .ok (.iload 8, 2) := by decide +kernel
theorem dX12_mayLie_148 : decode cX12_mayLie 148 = .ok (.iload 10, 2) := by decide +kernel
theorem dX12_mayLie_150 : decode cX12_mayLie 150 = .ok (.iload 6, 2) := by decide +kernel
theorem dX12_mayLie_152 : decode cX12_mayLie 152 = .ok (.if_icmp .le 8, 3) := by decide +kernel
theorem dX12_mayLie_160 : decode cX12_mayLie 160 = .ok (.iload 6, 2) := by decide +kernel
theorem dX12_mayLie_162 : decode cX12_mayLie 162 = .ok (.iload 11, 2) := by decide +kernel
theorem dX12_mayLie_164 : decode cX12_mayLie 164 = .ok (.iload 7, 2) := by decide +kernel
theorem dX12_mayLie_166 : decode cX12_mayLie 166 = .ok (.if_icmp .ge 8, 3) := by decide +kernel
theorem dX12_mayLie_174 : decode cX12_mayLie 174 = .ok (.iload 7, 2) := by decide +kernel
theorem dX12_mayLie_176 : decode cX12_mayLie 176 = .ok (.if_icmp .gt 10, 3) := by decide +kernel
theorem dX12_mayLie_186 : decode cX12_mayLie 186 = .ok (.iconst 0, 1) := by decide +kernel
theorem dX12_mayLie_187 : decode cX12_mayLie 187 = .ok (.ior, 1) := by decide +kernel
theorem dX12_mayLie_188 : decode cX12_mayLie 188 = .ok (.istore 8, 2) := by decide +kernel
theorem dX12_mayLie_190 : decode cX12_mayLie 190 = .ok (.iinc 9 1, 3) := by decide +kernel
theorem dX12_mayLie_193 : decode cX12_mayLie 193 = .ok (.goto (-85), 3) := by decide +kernel
theorem dX12_mayLie_179 : decode cX12_mayLie 179 = .ok (.iconst 1, 1) := by decide +kernel
theorem dX12_mayLie_180 : decode cX12_mayLie 180 = .ok (.iload 9, 2) := by decide +kernel
theorem dX12_mayLie_182 : decode cX12_mayLie 182 = .ok (.ishl, 1) := by decide +kernel
theorem dX12_mayLie_183 : decode cX12_mayLie 183 = .ok (.goto 4, 3) := by decide +kernel
theorem dX12_mayLie_169 : decode cX12_mayLie 169 = .ok (.iload 11, 2) := by decide +kernel
theorem dX12_mayLie_171 : decode cX12_mayLie 171 = .ok (.goto 5, 3) := by decide +kernel
theorem dX12_mayLie_155 : decode cX12_mayLie 155 = .ok (.iload 10, 2) := by decide +kernel
theorem dX12_mayLie_157 : decode cX12_mayLie 157 = .ok (.goto 5, 3) := by decide +kernel
theorem dX12_mayLie_95 : decode cX12_mayLie 95 = .ok (.sipush 2048, 3) := by decide +kernel
theorem dX12_mayLie_98 : decode cX12_mayLie 98 = .ok (.goto 4, 3) := by decide +kernel
theorem dX12_mayLie_73 : decode cX12_mayLie 73 = .ok (.sipush 1024, 3) := by decide +kernel
theorem dX12_mayLie_76 : decode cX12_mayLie 76 = .ok (.goto 4, 3) := by decide +kernel
theorem dX12_mayLie_15 : decode cX12_mayLie 15 = .ok (.iconst 1, 1) := by decide +kernel
theorem dX12_mayLie_16 : decode cX12_mayLie 16 = .ok (.iload 4, 2) := by decide +kernel
theorem dX12_mayLie_18 : decode cX12_mayLie 18 = .ok (.ishl, 1) := by decide +kernel
theorem dX12_mayLie_19 : decode cX12_mayLie 19 = .ok (.iconst 1, 1) := by decide +kernel
theorem dX12_mayLie_20 : decode cX12_mayLie 20 = .ok (.isub, 1) := by decide +kernel
theorem dX12_mayLie_21 : decode cX12_mayLie 21 = .ok (.sipush 1024, 3) := by decide +kernel
theorem dX12_mayLie_24 : decode cX12_mayLie 24 = .ok (.ior, 1) := by decide +kernel
theorem dX12_mayLie_25 : decode cX12_mayLie 25 = .ok (.sipush 2048, 3) := by decide +kernel
theorem dX12_mayLie_28 : decode cX12_mayLie 28 = .ok (.ior, 1) := by decide +kernel
theorem dX12_mayLie_29 : decode cX12_mayLie 29 = .ok (.ireturn, 1) := by decide +kernel
abbrev cX12_mayLieAll : ByteArray := prog_14_method_94_code
def yX12_mayLieAll : MethodName := ⟨RX12, "mayLieAll", "(II)I"⟩
theorem okX12_mayLieAll : yok yX12_mayLieAll 2 := by decide +kernel
theorem dX12_mayLieAll_0 : decode cX12_mayLieAll 0 = .ok (.iconst 0, 1) := by decide +kernel
theorem dX12_mayLieAll_1 : decode cX12_mayLieAll 1 = .ok (.istore_n 3, 1) := by decide +kernel
theorem dX12_mayLieAll_2 : decode cX12_mayLieAll 2 = .ok (.iconst 0, 1) := by decide +kernel
theorem dX12_mayLieAll_3 : decode cX12_mayLieAll 3 = .ok (.istore 4, 2) := by decide +kernel
theorem dX12_mayLieAll_5 : decode cX12_mayLieAll 5 = .ok (.iload 4, 2) := by decide +kernel
theorem dX12_mayLieAll_7 : decode cX12_mayLieAll 7 = .ok (.iconst 1, 1) := by decide +kernel
theorem dX12_mayLieAll_8 : decode cX12_mayLieAll 8 = .ok (.aload_n 0, 1) := by decide +kernel
theorem dX12_mayLieAll_9 : decode cX12_mayLieAll 9 = .ok (.getfield 477, 3) := by decide +kernel
theorem dX12_mayLieAll_12 : decode cX12_mayLieAll 12 = .ok (.ishl, 1) := by decide +kernel
theorem dX12_mayLieAll_13 : decode cX12_mayLieAll 13 = .ok (.if_icmp .ge 34, 3) := by decide +kernel
theorem dX12_mayLieAll_47 : decode cX12_mayLieAll 47 = .ok (.iload_n 3, 1) := by decide +kernel
theorem dX12_mayLieAll_48 : decode cX12_mayLieAll 48 = .ok (.ireturn, 1) := by decide +kernel
theorem dX12_mayLieAll_16 : decode cX12_mayLieAll 16 = .ok (.iload_n 3, 1) := by decide +kernel
theorem dX12_mayLieAll_17 : decode cX12_mayLieAll 17 = .ok (.aload_n 0, 1) := by decide +kernel
theorem dX12_mayLieAll_18 : decode cX12_mayLieAll 18 = .ok (.getfield 260, 3) := by decide +kernel
theorem dX12_mayLieAll_21 : decode cX12_mayLieAll 21 = .ok (.iload 4, 2) := by decide +kernel
theorem dX12_mayLieAll_23 : decode cX12_mayLieAll 23 = .ok (.baload, 1) := by decide +kernel
theorem dX12_mayLieAll_24 : decode cX12_mayLieAll 24 = .ok (.ifCond .eq 14, 3) := by decide +kernel
theorem dX12_mayLieAll_38 : decode cX12_mayLieAll 38 = .ok (.iconst 0, 1) := by decide +kernel
theorem dX12_mayLieAll_39 : decode cX12_mayLieAll 39 = .ok (.ior, 1) := by decide +kernel
theorem dX12_mayLieAll_40 : decode cX12_mayLieAll 40 = .ok (.istore_n 3, 1) := by decide +kernel
theorem dX12_mayLieAll_41 : decode cX12_mayLieAll 41 = .ok (.iinc 4 1, 3) := by decide +kernel
theorem dX12_mayLieAll_44 : decode cX12_mayLieAll 44 = .ok (.goto (-39), 3) := by decide +kernel
theorem dX12_mayLieAll_27 : decode cX12_mayLieAll 27 = .ok (.aload_n 0, 1) := by decide +kernel
theorem dX12_mayLieAll_28 : decode cX12_mayLieAll 28 = .ok (.iload 4, 2) := by decide +kernel
theorem dX12_mayLieAll_30 : decode cX12_mayLieAll 30 = .ok (.iload_n 1, 1) := by decide +kernel
theorem dX12_mayLieAll_31 : decode cX12_mayLieAll 31 = .ok (.iload_n 2, 1) := by decide +kernel
theorem dX12_mayLieAll_32 : decode cX12_mayLieAll 32 = .ok (.invokevirtual 572, 3) := by decide +kernel
theorem kw_2123 : Cond.code yX12_mayLie prog_14_method_93_code 12 (some .int) ∈ uu := uu_in (i := 2123) (by decide +kernel) (by decide +kernel)
theorem kw_2120 : Cond.methodLink "LandSurveyModel" 572 yX12_mayLie ∈ uu := uu_in (i := 2120) (by decide +kernel) (by decide +kernel)
theorem kw_2122 : Cond.instanceMethod yX12_mayLie ∈ uu := uu_in (i := 2122) (by decide +kernel) (by decide +kernel)
theorem kw_125 : Cond.selects "LandSurveyModel" yX12_mayLie yX12_mayLie ∈ uu := uu_in (i := 125) (by decide +kernel) (by decide +kernel)
theorem lk_LandSurveyModel_572 : lkV "LandSurveyModel" 572 yX12_mayLie cX12_mayLie 12 (some .int) 3 := ⟨kw_2120, kw_2122, kw_125, kw_152, kw_2123, okX12_mayLie⟩
theorem dX12_mayLieAll_35 : decode cX12_mayLieAll 35 = .ok (.goto 4, 3) := by decide +kernel
abbrev cX12_areKnown : ByteArray := prog_14_method_98_code
def yX12_areKnown : MethodName := ⟨RX12, "areKnown", "()Z"⟩
theorem okX12_areKnown : yok yX12_areKnown 0 := by decide +kernel
theorem dX12_areKnown_0 : decode cX12_areKnown 0 = .ok (.aload_n 0, 1) := by decide +kernel
theorem dX12_areKnown_1 : decode cX12_areKnown 1 = .ok (.getfield 546, 3) := by decide +kernel
theorem dX12_areKnown_4 : decode cX12_areKnown 4 = .ok (.ifCond .le 7, 3) := by decide +kernel
theorem dX12_areKnown_11 : decode cX12_areKnown 11 = .ok (.iconst 0, 1) := by decide +kernel
theorem dX12_areKnown_12 : decode cX12_areKnown 12 = .ok (.istore_n 1, 1) := by decide +kernel
theorem dX12_areKnown_13 : decode cX12_areKnown 13 = .ok (.iconst 0, 1) := by decide +kernel
theorem dX12_areKnown_14 : decode cX12_areKnown 14 = .ok (.istore_n 2, 1) := by decide +kernel
theorem dX12_areKnown_15 : decode cX12_areKnown 15 = .ok (.iload_n 2, 1) := by decide +kernel
theorem dX12_areKnown_16 : decode cX12_areKnown 16 = .ok (.iconst 1, 1) := by decide +kernel
theorem dX12_areKnown_17 : decode cX12_areKnown 17 = .ok (.aload_n 0, 1) := by decide +kernel
theorem dX12_areKnown_18 : decode cX12_areKnown 18 = .ok (.getfield 477, 3) := by decide +kernel
theorem dX12_areKnown_21 : decode cX12_areKnown 21 = .ok (.ishl, 1) := by decide +kernel
theorem dX12_areKnown_22 : decode cX12_areKnown 22 = .ok (.if_icmp .ge 37, 3) := by decide +kernel
theorem dX12_areKnown_59 : decode cX12_areKnown 59 = .ok (.iload_n 1, 1) := by decide +kernel
theorem dX12_areKnown_60 : decode cX12_areKnown 60 = .ok (.ireturn, 1) := by decide +kernel
theorem dX12_areKnown_25 : decode cX12_areKnown 25 = .ok (.iload_n 1, 1) := by decide +kernel
theorem dX12_areKnown_26 : decode cX12_areKnown 26 = .ok (.ifCond .eq 25, 3) := by decide +kernel
theorem dX12_areKnown_51 : decode cX12_areKnown 51 = .ok (.iconst 0, 1) := by decide +kernel
theorem dX12_areKnown_52 : decode cX12_areKnown 52 = .ok (.istore_n 1, 1) := by decide +kernel
theorem dX12_areKnown_53 : decode cX12_areKnown 53 = .ok (.iinc 2 1, 3) := by decide +kernel
theorem dX12_areKnown_56 : decode cX12_areKnown 56 = .ok (.goto (-41), 3) := by decide +kernel
theorem dX12_areKnown_29 : decode cX12_areKnown 29 = .ok (.aload_n 0, 1) := by decide +kernel
theorem dX12_areKnown_30 : decode cX12_areKnown 30 = .ok (.getfield 260, 3) := by decide +kernel
theorem dX12_areKnown_33 : decode cX12_areKnown 33 = .ok (.iload_n 2, 1) := by decide +kernel
theorem dX12_areKnown_34 : decode cX12_areKnown 34 = .ok (.baload, 1) := by decide +kernel
theorem dX12_areKnown_35 : decode cX12_areKnown 35 = .ok (.ifCond .eq 12, 3) := by decide +kernel
theorem dX12_areKnown_47 : decode cX12_areKnown 47 = .ok (.iconst 1, 1) := by decide +kernel
theorem dX12_areKnown_48 : decode cX12_areKnown 48 = .ok (.goto 4, 3) := by decide +kernel
theorem dX12_areKnown_38 : decode cX12_areKnown 38 = .ok (.aload_n 0, 1) := by decide +kernel
theorem dX12_areKnown_39 : decode cX12_areKnown 39 = .ok (.getfield 263, 3) := by decide +kernel
theorem dX12_areKnown_42 : decode cX12_areKnown 42 = .ok (.iload_n 2, 1) := by decide +kernel
theorem dX12_areKnown_43 : decode cX12_areKnown 43 = .ok (.baload, 1) := by decide +kernel
theorem dX12_areKnown_44 : decode cX12_areKnown 44 = .ok (.ifCond .eq 7, 3) := by decide +kernel
theorem dX12_areKnown_7 : decode cX12_areKnown 7 = .ok (.iconst 1, 1) := by decide +kernel
theorem dX12_areKnown_8 : decode cX12_areKnown 8 = .ok (.goto 4, 3) := by decide +kernel
abbrev cX12_leastHigh : ByteArray := prog_14_method_99_code
def yX12_leastHigh : MethodName := ⟨RX12, "leastHigh", "(I)I"⟩
theorem okX12_leastHigh : yok yX12_leastHigh 1 := by decide +kernel
theorem dX12_leastHigh_0 : decode cX12_leastHigh 0 = .ok (.ldc_w 552, 3) := by decide +kernel
theorem dX12_leastHigh_3 : decode cX12_leastHigh 3 = .ok (.istore_n 2, 1) := by decide +kernel
theorem dX12_leastHigh_4 : decode cX12_leastHigh 4 = .ok (.iconst 0, 1) := by decide +kernel
theorem dX12_leastHigh_5 : decode cX12_leastHigh 5 = .ok (.istore_n 3, 1) := by decide +kernel
theorem dX12_leastHigh_6 : decode cX12_leastHigh 6 = .ok (.iload_n 3, 1) := by decide +kernel
theorem dX12_leastHigh_7 : decode cX12_leastHigh 7 = .ok (.iconst 1, 1) := by decide +kernel
theorem dX12_leastHigh_8 : decode cX12_leastHigh 8 = .ok (.aload_n 0, 1) := by decide +kernel
theorem dX12_leastHigh_9 : decode cX12_leastHigh 9 = .ok (.getfield 477, 3) := by decide +kernel
theorem dX12_leastHigh_12 : decode cX12_leastHigh 12 = .ok (.ishl, 1) := by decide +kernel
theorem dX12_leastHigh_13 : decode cX12_leastHigh 13 = .ok (.if_icmp .ge 49, 3) := by decide +kernel
theorem dX12_leastHigh_62 : decode cX12_leastHigh 62 = .ok (.iload_n 2, 1) := by decide +kernel
theorem dX12_leastHigh_63 : decode cX12_leastHigh 63 = .ok (.ireturn, 1) := by decide +kernel
theorem dX12_leastHigh_16 : decode cX12_leastHigh 16 = .ok (.aload_n 0, 1) := by decide +kernel
theorem dX12_leastHigh_17 : decode cX12_leastHigh 17 = .ok (.getfield 260, 3) := by decide +kernel
theorem dX12_leastHigh_20 : decode cX12_leastHigh 20 = .ok (.iload_n 3, 1) := by decide +kernel
theorem dX12_leastHigh_21 : decode cX12_leastHigh 21 = .ok (.baload, 1) := by decide +kernel
theorem dX12_leastHigh_22 : decode cX12_leastHigh 22 = .ok (.ifCond .eq 32, 3) := by decide +kernel
theorem dX12_leastHigh_54 : decode cX12_leastHigh 54 = .ok (.iload_n 2, 1) := by decide +kernel
theorem dX12_leastHigh_55 : decode cX12_leastHigh 55 = .ok (.istore_n 2, 1) := by decide +kernel
theorem dX12_leastHigh_56 : decode cX12_leastHigh 56 = .ok (.iinc 3 1, 3) := by decide +kernel
theorem dX12_leastHigh_59 : decode cX12_leastHigh 59 = .ok (.goto (-53), 3) := by decide +kernel
theorem dX12_leastHigh_25 : decode cX12_leastHigh 25 = .ok (.aload_n 0, 1) := by decide +kernel
theorem dX12_leastHigh_26 : decode cX12_leastHigh 26 = .ok (.getfield 266, 3) := by decide +kernel
theorem dX12_leastHigh_29 : decode cX12_leastHigh 29 = .ok (.bipush 96, 2) := by decide +kernel
theorem dX12_leastHigh_31 : decode cX12_leastHigh 31 = .ok (.iload_n 3, 1) := by decide +kernel
theorem dX12_leastHigh_32 : decode cX12_leastHigh 32 = .ok (.imul, 1) := by decide +kernel
theorem dX12_leastHigh_33 : decode cX12_leastHigh 33 = .ok (.iload_n 1, 1) := by decide +kernel
theorem dX12_leastHigh_34 : decode cX12_leastHigh 34 = .ok (.iadd, 1) := by decide +kernel
theorem dX12_leastHigh_35 : decode cX12_leastHigh 35 = .ok (.iaload, 1) := by decide +kernel
theorem dX12_leastHigh_36 : decode cX12_leastHigh 36 = .ok (.iload_n 2, 1) := by decide +kernel
theorem dX12_leastHigh_37 : decode cX12_leastHigh 37 = .ok (.if_icmp .ge 17, 3) := by decide +kernel
theorem dX12_leastHigh_40 : decode cX12_leastHigh 40 = .ok (.aload_n 0, 1) := by decide +kernel
theorem dX12_leastHigh_41 : decode cX12_leastHigh 41 = .ok (.getfield 266, 3) := by decide +kernel
theorem dX12_leastHigh_44 : decode cX12_leastHigh 44 = .ok (.bipush 96, 2) := by decide +kernel
theorem dX12_leastHigh_46 : decode cX12_leastHigh 46 = .ok (.iload_n 3, 1) := by decide +kernel
theorem dX12_leastHigh_47 : decode cX12_leastHigh 47 = .ok (.imul, 1) := by decide +kernel
theorem dX12_leastHigh_48 : decode cX12_leastHigh 48 = .ok (.iload_n 1, 1) := by decide +kernel
theorem dX12_leastHigh_49 : decode cX12_leastHigh 49 = .ok (.iadd, 1) := by decide +kernel
theorem dX12_leastHigh_50 : decode cX12_leastHigh 50 = .ok (.iaload, 1) := by decide +kernel
theorem dX12_leastHigh_51 : decode cX12_leastHigh 51 = .ok (.goto 4, 3) := by decide +kernel
abbrev cX12_greatestHigh : ByteArray := prog_14_method_100_code
def yX12_greatestHigh : MethodName := ⟨RX12, "greatestHigh", "(I)I"⟩
theorem okX12_greatestHigh : yok yX12_greatestHigh 1 := by decide +kernel
theorem dX12_greatestHigh_0 : decode cX12_greatestHigh 0 = .ok (.ldc_w 581, 3) := by decide +kernel
theorem kw_2151 : Cond.constant "LandSurveyModel" 581 (-1000000000) ∈ uu := uu_in (i := 2151) (by decide +kernel) (by decide +kernel)
theorem dX12_greatestHigh_3 : decode cX12_greatestHigh 3 = .ok (.istore_n 2, 1) := by decide +kernel
theorem dX12_greatestHigh_4 : decode cX12_greatestHigh 4 = .ok (.iconst 0, 1) := by decide +kernel
theorem dX12_greatestHigh_5 : decode cX12_greatestHigh 5 = .ok (.istore_n 3, 1) := by decide +kernel
theorem dX12_greatestHigh_6 : decode cX12_greatestHigh 6 = .ok (.iload_n 3, 1) := by decide +kernel
theorem dX12_greatestHigh_7 : decode cX12_greatestHigh 7 = .ok (.iconst 1, 1) := by decide +kernel
theorem dX12_greatestHigh_8 : decode cX12_greatestHigh 8 = .ok (.aload_n 0, 1) := by decide +kernel
theorem dX12_greatestHigh_9 : decode cX12_greatestHigh 9 = .ok (.getfield 477, 3) := by decide +kernel
theorem dX12_greatestHigh_12 : decode cX12_greatestHigh 12 = .ok (.ishl, 1) := by decide +kernel
theorem dX12_greatestHigh_13 : decode cX12_greatestHigh 13 = .ok (.if_icmp .ge 49, 3) := by decide +kernel
theorem dX12_greatestHigh_62 : decode cX12_greatestHigh 62 = .ok (.iload_n 2, 1) := by decide +kernel
theorem dX12_greatestHigh_63 : decode cX12_greatestHigh 63 = .ok (.ireturn, 1) := by decide +kernel
theorem dX12_greatestHigh_16 : decode cX12_greatestHigh 16 = .ok (.aload_n 0, 1) := by decide +kernel
theorem dX12_greatestHigh_17 : decode cX12_greatestHigh 17 = .ok (.getfield 260, 3) := by decide +kernel
theorem dX12_greatestHigh_20 : decode cX12_greatestHigh 20 = .ok (.iload_n 3, 1) := by decide +kernel
theorem dX12_greatestHigh_21 : decode cX12_greatestHigh 21 = .ok (.baload, 1) := by decide +kernel
theorem dX12_greatestHigh_22 : decode cX12_greatestHigh 22 = .ok (.ifCond .eq 32, 3) := by decide +kernel
theorem dX12_greatestHigh_54 : decode cX12_greatestHigh 54 = .ok (.iload_n 2, 1) := by decide +kernel
theorem dX12_greatestHigh_55 : decode cX12_greatestHigh 55 = .ok (.istore_n 2, 1) := by decide +kernel
theorem dX12_greatestHigh_56 : decode cX12_greatestHigh 56 = .ok (.iinc 3 1, 3) := by decide +kernel
theorem dX12_greatestHigh_59 : decode cX12_greatestHigh 59 = .ok (.goto (-53), 3) := by decide +kernel
theorem dX12_greatestHigh_25 : decode cX12_greatestHigh 25 = .ok (.aload_n 0, 1) := by decide +kernel
theorem dX12_greatestHigh_26 : decode cX12_greatestHigh 26 = .ok (.getfield 269, 3) := by decide +kernel
theorem dX12_greatestHigh_29 : decode cX12_greatestHigh 29 = .ok (.bipush 96, 2) := by decide +kernel
theorem dX12_greatestHigh_31 : decode cX12_greatestHigh 31 = .ok (.iload_n 3, 1) := by decide +kernel
theorem dX12_greatestHigh_32 : decode cX12_greatestHigh 32 = .ok (.imul, 1) := by decide +kernel
theorem dX12_greatestHigh_33 : decode cX12_greatestHigh 33 = .ok (.iload_n 1, 1) := by decide +kernel
theorem dX12_greatestHigh_34 : decode cX12_greatestHigh 34 = .ok (.iadd, 1) := by decide +kernel
theorem dX12_greatestHigh_35 : decode cX12_greatestHigh 35 = .ok (.iaload, 1) := by decide +kernel
theorem dX12_greatestHigh_36 : decode cX12_greatestHigh 36 = .ok (.iload_n 2, 1) := by decide +kernel
theorem dX12_greatestHigh_37 : decode cX12_greatestHigh 37 = .ok (.if_icmp .le 17, 3) := by decide +kernel
theorem dX12_greatestHigh_40 : decode cX12_greatestHigh 40 = .ok (.aload_n 0, 1) := by decide +kernel
theorem dX12_greatestHigh_41 : decode cX12_greatestHigh 41 = .ok (.getfield 269, 3) := by decide +kernel
theorem dX12_greatestHigh_44 : decode cX12_greatestHigh 44 = .ok (.bipush 96, 2) := by decide +kernel
theorem dX12_greatestHigh_46 : decode cX12_greatestHigh 46 = .ok (.iload_n 3, 1) := by decide +kernel
theorem dX12_greatestHigh_47 : decode cX12_greatestHigh 47 = .ok (.imul, 1) := by decide +kernel
theorem dX12_greatestHigh_48 : decode cX12_greatestHigh 48 = .ok (.iload_n 1, 1) := by decide +kernel
theorem dX12_greatestHigh_49 : decode cX12_greatestHigh 49 = .ok (.iadd, 1) := by decide +kernel
theorem dX12_greatestHigh_50 : decode cX12_greatestHigh 50 = .ok (.iaload, 1) := by decide +kernel
theorem dX12_greatestHigh_51 : decode cX12_greatestHigh 51 = .ok (.goto 4, 3) := by decide +kernel
def wr_k_X12_bitsOf : List Nat := []
set_option maxRecDepth 100000 in
set_option maxHeartbeats 4000000 in
theorem k_X12_bitsOf (l : Launch) (D : va_G) (cy : Nat → ClassId) (w : Nat → Nat) (z0 : Nat)  {h : Hp} {a0 : Nat} {a1 : Int}  (O : Okh h) (ta0 : Tg h a0 = 12) (fa1 : (-9223372036854775808) ≤ a1 ∧ a1 ≤ 9223372036854775807) : MI l D cy w z0 yX12_bitsOf cX12_bitsOf 5 (some .int) 1 22 0 0 [.inr (.inr a0), .inr (.inl a1)] h (fun v h1 => Okh h1 ∧ Fx wr_k_X12_bitsOf h h1 ∧ ((-2147483648) ≤ v ∧ v ≤ 2147483647)) := by
  refine hm_go (by decide +kernel) (Nat.le_of_ble_eq_true rfl) (fun p e s m below meth c C hr hn => ?_)
  refine g_iconst C dX12_bitsOf_0 ?_
  refine g_istore_n C [(3, .inl 0), (0, .inr (.inr a0)), (1, .inr (.inl a1))] rfl (by decide) rfl dX12_bitsOf_1 ?_
  refine g_iconst C dX12_bitsOf_2 ?_
  refine g_istore C [(4, .inl 0), (3, .inl 0), (0, .inr (.inr a0)), (1, .inr (.inl a1))] (by decide) rfl dX12_bitsOf_3 ?_
  refine GW.sub [2, 3, 1, 0] rfl ?_
  -- loop at 5
  have L4 : ∀ (μ : Nat) (x1 : Int) (x2 : Int) (h3 : Hp), (40 - x2).toNat = μ → Okh h3 → Fx [] h h3 → ((-2147483648 : Int) ≤ x1 ∧ x1 ≤ (2147483647 : Int)) → ((0 : Int) ≤ x2 ∧ x2 ≤ (40 : Int)) → GW p l e (rmm 1 22 0 0) s m (List.map toV [.inr (.inr a0), .inr (.inl a1)]).toArray below meth c D cy z0 5 (MQ below (QI D cy z0 (fun v h1 => Okh h1 ∧ Fx wr_k_X12_bitsOf h h1 ∧ ((-2147483648) ≤ v ∧ v ≤ 2147483647))) (List.map toV [.inr (.inr a0), .inr (.inl a1)]).toArray s 0 0 (Aof z0)) 5 [(0, .inr (.inr a0)), (1, .inr (.inl a1)), (3, .inl x1), (4, .inl x2)] [] h3 0 0 := by
    intro μ
    induction μ using Nat.strongRecOn with
    | ind μ ih5 =>
      intro x1 x2 h3 hm6 O7 F8 f9 f10
      refine g_iload C 3 rfl dX12_bitsOf_5 ?_
      refine g_aload_n C rfl 0 rfl dX12_bitsOf_7 ?_
      have e11 : Tg h3 a0 = 12 := (fxT F8 ta0)
      obtain ⟨v12, e13⟩ : ∃ z, Iv h3 a0 40 = z := ⟨_, rfl⟩
      have f14 := ok_I O7 e11 rI_12_40 e13
      refine gf_I C fk_LandSurveyModel_423 rfl e11 e13 dX12_bitsOf_8 ?_
      refine g_icmp_ge C (iw f10 (by decide) (by decide)) (iw f14 (by decide) (by decide)) 37 (by decide) dX12_bitsOf_11 (fun q15 => ?_) (fun q16 => ?_)
      · refine g_iload_n C rfl 2 rfl dX12_bitsOf_37 ?_
        exact g_iret C hr rfl f9 ⟨O7, ((Fx.rf (wr := wr_k_X12_bitsOf)).call F8 rfl), f9⟩ (by decide) (by decide) dX12_bitsOf_38
      · have f17 : (0 : Int) ≤ x2 ∧ x2 ≤ (39 : Int) := r_lt f10 f14 q16 (by decide) (by decide)
        have f18 : (1 : Int) ≤ v12 ∧ v12 ≤ (40 : Int) := r_gt f14 f10 q16 (by decide) (by decide)
        refine g_iload_n C rfl 2 rfl dX12_bitsOf_14 ?_
        refine g_lload_n C rfl 1 rfl dX12_bitsOf_15 ?_
        refine g_iload C 3 rfl dX12_bitsOf_16 ?_
        refine g_callI (st := [.inl x1]) (gc_S C lk_LandSurveyModel_487 (k_X12_isIn l D cy w z0 O7 fa1 (iw f17 (by decide) (by decide))) rfl ⟨by decide, by decide⟩ (Nat.le_of_ble_eq_true rfl) dX12_bitsOf_18 ⟨(by decide), (by decide)⟩) (fun r19 h20 f22 K21 => ?_)
        obtain ⟨O23, F24, f25⟩ := K21
        refine g_if_eq C (iw f25 (by decide) (by decide)) 28 (by decide) dX12_bitsOf_21 (fun q26 => ?_) (fun q27 => ?_)
        · have f28 : (0 : Int) ≤ r19 ∧ r19 ≤ (0 : Int) := ii f25 (r_eq (il 0) q26) (by decide) (by decide)
          refine g_iconst C dX12_bitsOf_28 ?_
          have f29 : (-2147483648 : Int) ≤ (x1 + 0) ∧ (x1 + 0) ≤ (2147483647 : Int) := ia_add f9 (il 0) (by decide) (by decide)
          refine g_iadd C dX12_bitsOf_29 ?_
          refine g_istore_n C [(3, .inl (x1 + 0)), (0, .inr (.inr a0)), (1, .inr (.inl a1)), (4, .inl x2)] rfl (by decide) rfl dX12_bitsOf_30 ?_
          have f30 : (1 : Int) ≤ (x2 + 1) ∧ (x2 + 1) ≤ (40 : Int) := ia_add f17 (il 1) (by decide) (by decide)
          refine g_iinc C [(4, .inl (x2 + 1)), (3, .inl (x1 + 0)), (0, .inr (.inr a0)), (1, .inr (.inl a1))] 3 rfl (by decide) rfl dX12_bitsOf_31 ?_
          refine g_goto C 5 (by decide) dX12_bitsOf_34 ?_
          refine GW.sub [2, 3, 1, 0] rfl ?_
          exact ih5 _ (by omega) (x1 + 0) (x2 + 1) h20 rfl O23 (F8.call F24 rfl) f29 (iw f30 (by decide) (by decide))
        · have f31 : (1 : Int) ≤ r19 ∧ r19 ≤ (1 : Int) := r_nl f25 q27
          refine g_iconst C dX12_bitsOf_24 ?_
          refine g_goto C 29 (by decide) dX12_bitsOf_25 ?_
          have f32 : (-2147483648 : Int) ≤ (w32 (x1 + 1)) ∧ (w32 (x1 + 1)) ≤ (2147483647 : Int) := w32_inR _
          refine g_iaddW C dX12_bitsOf_29 ?_
          refine g_istore_n C [(3, .inl (w32 (x1 + 1))), (0, .inr (.inr a0)), (1, .inr (.inl a1)), (4, .inl x2)] rfl (by decide) rfl dX12_bitsOf_30 ?_
          have f33 : (1 : Int) ≤ (x2 + 1) ∧ (x2 + 1) ≤ (40 : Int) := ia_add f17 (il 1) (by decide) (by decide)
          refine g_iinc C [(4, .inl (x2 + 1)), (3, .inl (w32 (x1 + 1))), (0, .inr (.inr a0)), (1, .inr (.inl a1))] 3 rfl (by decide) rfl dX12_bitsOf_31 ?_
          refine g_goto C 5 (by decide) dX12_bitsOf_34 ?_
          refine GW.sub [2, 3, 1, 0] rfl ?_
          exact ih5 _ (by omega) (w32 (x1 + 1)) (x2 + 1) h20 rfl O23 (F8.call F24 rfl) f32 (iw f33 (by decide) (by decide))
  exact L4 _ 0 0 h rfl O Fx.rf (iw (il 0) (by decide) (by decide)) (iw (il 0) (by decide) (by decide))
def wr_k_X12_fault : List Nat := [2400, 2435, 2457, 31620200, 31820000, 32020000, 32220000]
set_option maxRecDepth 100000 in
set_option maxHeartbeats 4000000 in
theorem k_X12_fault (l : Launch) (D : va_G) (cy : Nat → ClassId) (w : Nat → Nat) (z0 : Nat)  {h : Hp} {a0 : Nat} {a1 : Int} {a2 : Int} {a3 : Int} {a4 : Int} {a5 : Int} {a6 : Int} {a7 : Int}  (O : Okh h) (ta0 : Tg h a0 = 12) (fa1 : (-2147483648) ≤ a1 ∧ a1 ≤ 2147483647) (fa2 : (-2147483648) ≤ a2 ∧ a2 ≤ 2147483647) (fa3 : 0 ≤ a3 ∧ a3 ≤ 1) (fa4 : (-2147483648) ≤ a4 ∧ a4 ≤ 2147483647) (fa5 : (-2147483648) ≤ a5 ∧ a5 ≤ 2147483647) (fa6 : (-2147483648) ≤ a6 ∧ a6 ≤ 2147483647) (fa7 : (-2147483648) ≤ a7 ∧ a7 ≤ 2147483647) : MI l D cy w z0 yX12_fault cX12_fault 10 (some .int) 2 43 0 0 [.inr (.inr a0), .inl a1, .inl a2, .inl a3, .inl a4, .inl a5, .inl a6, .inl a7] h (fun v h1 => Okh h1 ∧ Fx wr_k_X12_fault h h1 ∧ ((-2147483648) ≤ v ∧ v ≤ 2147483647)) := by
  refine hm_go (by decide +kernel) (Nat.le_of_ble_eq_true rfl) (fun p e s m below meth c C hr hn => ?_)
  refine g_aload_n C rfl 0 rfl dX12_fault_0 ?_
  refine g_iconst C dX12_fault_1 ?_
  refine gp_I C fk_LandSurveyModel_1 pk_LandSurveyModel_0 rfl ta0 (iw (il 0) (by decide) (by decide)) (nf_i _) dX12_fault_2 (fun h2 hh1 => ?_)
  have O3 := O.pI ta0 hh1 rI_12_0 (iw (il 0) (by decide) (by decide)) nofun
  refine g_iload_n C rfl 1 rfl dX12_fault_5 ?_
  refine g_iload_n C rfl 2 rfl dX12_fault_6 ?_
  refine g_callI (st := []) (gc_S C lk_LandSurveyModel_419 (k_X12_isCell l D cy w z0 O3 fa1 fa2) rfl ⟨by decide, by decide⟩ (Nat.le_of_ble_eq_true rfl) dX12_fault_7 ⟨(by decide), (by decide)⟩) (fun r4 h5 f7 K6 => ?_)
  obtain ⟨O8, F9, f10, p11⟩ := K6
  refine g_if_eq C (iw f10 (by decide) (by decide)) 82 (by decide) dX12_fault_10 (fun q12 => ?_) (fun q13 => ?_)
  · have f14 : (0 : Int) ≤ r4 ∧ r4 ≤ (0 : Int) := ii f10 (r_eq (il 0) q12) (by decide) (by decide)
    refine g_iconst C dX12_fault_82 ?_
    refine g_istore C [(8, .inl 0), (0, .inr (.inr a0)), (1, .inl a1), (2, .inl a2), (3, .inl a3), (4, .inl a4), (5, .inl a5), (6, .inl a6), (7, .inl a7)] (by decide) rfl dX12_fault_83 ?_
    refine g_iload C 0 rfl dX12_fault_85 ?_
    refine g_if_eq C (iw (il 0) (by decide) (by decide)) 135 (by decide) dX12_fault_87 (fun q15 => ?_) (fun q16 => ?_)
    · refine g_iconst C dX12_fault_135 ?_
      refine g_istore C [(8, .inl 0), (0, .inr (.inr a0)), (1, .inl a1), (2, .inl a2), (3, .inl a3), (4, .inl a4), (5, .inl a5), (6, .inl a6), (7, .inl a7)] (by decide) rfl dX12_fault_136 ?_
      refine g_iload C 0 rfl dX12_fault_138 ?_
      refine g_if_ne C (iw (il 0) (by decide) (by decide)) 145 (by decide) dX12_fault_140 (fun q17 => ?_) (fun q18 => ?_)
      · exact (no_ne (il 0) (il 0) q17 (by decide)).elim
      · refine g_iconst C dX12_fault_143 ?_
        exact g_iret C hr rfl (iw (il (-1)) (by decide) (by decide)) ⟨O8, (((Fx.rf (wr := wr_k_X12_fault)).pI ta0 hh1 rfl).call F9 rfl), (iw (il (-1)) (by decide) (by decide))⟩ (by decide) (by decide) dX12_fault_144
    · exact (no_ne (il 0) (il 0) q16 (by decide)).elim
  · have f19 : (1 : Int) ≤ r4 ∧ r4 ≤ (1 : Int) := r_nl f10 q13
    have f20 : (0 : Int) ≤ a1 ∧ a1 ≤ (11 : Int) := by omega
    have f21 : (0 : Int) ≤ a2 ∧ a2 ≤ (7 : Int) := by omega
    refine g_iload C 4 rfl dX12_fault_13 ?_
    refine g_iconst C dX12_fault_15 ?_
    refine g_bipush C (by decide) dX12_fault_16 ?_
    refine g_callI (st := []) (gc_S C lk_LandSurveyModel_415 (k_X12_within l D cy w z0 O8 fa4 (iw (il 1) (by decide) (by decide)) (iw (il 12) (by decide) (by decide))) rfl ⟨by decide, by decide⟩ (Nat.le_of_ble_eq_true rfl) dX12_fault_18 ⟨(by decide), (by decide)⟩) (fun r22 h23 f25 K24 => ?_)
    obtain ⟨O26, F27, f28, p29⟩ := K24
    refine g_if_eq C (iw f28 (by decide) (by decide)) 82 (by decide) dX12_fault_21 (fun q30 => ?_) (fun q31 => ?_)
    · have f32 : (0 : Int) ≤ r22 ∧ r22 ≤ (0 : Int) := ii f28 (r_eq (il 0) q30) (by decide) (by decide)
      refine g_iconst C dX12_fault_82 ?_
      refine g_istore C [(8, .inl 0), (0, .inr (.inr a0)), (1, .inl a1), (2, .inl a2), (3, .inl a3), (4, .inl a4), (5, .inl a5), (6, .inl a6), (7, .inl a7)] (by decide) rfl dX12_fault_83 ?_
      refine g_iload C 0 rfl dX12_fault_85 ?_
      refine g_if_eq C (iw (il 0) (by decide) (by decide)) 135 (by decide) dX12_fault_87 (fun q33 => ?_) (fun q34 => ?_)
      · refine g_iconst C dX12_fault_135 ?_
        refine g_istore C [(8, .inl 0), (0, .inr (.inr a0)), (1, .inl a1), (2, .inl a2), (3, .inl a3), (4, .inl a4), (5, .inl a5), (6, .inl a6), (7, .inl a7)] (by decide) rfl dX12_fault_136 ?_
        refine g_iload C 0 rfl dX12_fault_138 ?_
        refine g_if_ne C (iw (il 0) (by decide) (by decide)) 145 (by decide) dX12_fault_140 (fun q35 => ?_) (fun q36 => ?_)
        · exact (no_ne (il 0) (il 0) q35 (by decide)).elim
        · refine g_iconst C dX12_fault_143 ?_
          exact g_iret C hr rfl (iw (il (-1)) (by decide) (by decide)) ⟨O26, ((((Fx.rf (wr := wr_k_X12_fault)).pI ta0 hh1 rfl).call F9 rfl).call F27 rfl), (iw (il (-1)) (by decide) (by decide))⟩ (by decide) (by decide) dX12_fault_144
      · exact (no_ne (il 0) (il 0) q34 (by decide)).elim
    · have f37 : (1 : Int) ≤ r22 ∧ r22 ≤ (1 : Int) := r_nl f28 q31
      have f38 : (1 : Int) ≤ a4 ∧ a4 ≤ (12 : Int) := by omega
      refine g_iload C 5 rfl dX12_fault_24 ?_
      refine g_sipush C (by decide) dX12_fault_26 ?_
      refine g_sipush C (by decide) dX12_fault_29 ?_
      refine g_callI (st := []) (gc_S C lk_LandSurveyModel_415 (k_X12_within l D cy w z0 O26 fa5 (iw (il (-300)) (by decide) (by decide)) (iw (il 300) (by decide) (by decide))) rfl ⟨by decide, by decide⟩ (Nat.le_of_ble_eq_true rfl) dX12_fault_32 ⟨(by decide), (by decide)⟩) (fun r39 h40 f42 K41 => ?_)
      obtain ⟨O43, F44, f45, p46⟩ := K41
      refine g_if_eq C (iw f45 (by decide) (by decide)) 82 (by decide) dX12_fault_35 (fun q47 => ?_) (fun q48 => ?_)
      · have f49 : (0 : Int) ≤ r39 ∧ r39 ≤ (0 : Int) := ii f45 (r_eq (il 0) q47) (by decide) (by decide)
        refine g_iconst C dX12_fault_82 ?_
        refine g_istore C [(8, .inl 0), (0, .inr (.inr a0)), (1, .inl a1), (2, .inl a2), (3, .inl a3), (4, .inl a4), (5, .inl a5), (6, .inl a6), (7, .inl a7)] (by decide) rfl dX12_fault_83 ?_
        refine g_iload C 0 rfl dX12_fault_85 ?_
        refine g_if_eq C (iw (il 0) (by decide) (by decide)) 135 (by decide) dX12_fault_87 (fun q50 => ?_) (fun q51 => ?_)
        · refine g_iconst C dX12_fault_135 ?_
          refine g_istore C [(8, .inl 0), (0, .inr (.inr a0)), (1, .inl a1), (2, .inl a2), (3, .inl a3), (4, .inl a4), (5, .inl a5), (6, .inl a6), (7, .inl a7)] (by decide) rfl dX12_fault_136 ?_
          refine g_iload C 0 rfl dX12_fault_138 ?_
          refine g_if_ne C (iw (il 0) (by decide) (by decide)) 145 (by decide) dX12_fault_140 (fun q52 => ?_) (fun q53 => ?_)
          · exact (no_ne (il 0) (il 0) q52 (by decide)).elim
          · refine g_iconst C dX12_fault_143 ?_
            exact g_iret C hr rfl (iw (il (-1)) (by decide) (by decide)) ⟨O43, (((((Fx.rf (wr := wr_k_X12_fault)).pI ta0 hh1 rfl).call F9 rfl).call F27 rfl).call F44 rfl), (iw (il (-1)) (by decide) (by decide))⟩ (by decide) (by decide) dX12_fault_144
        · exact (no_ne (il 0) (il 0) q51 (by decide)).elim
      · have f54 : (1 : Int) ≤ r39 ∧ r39 ≤ (1 : Int) := r_nl f45 q48
        have f55 : (-300 : Int) ≤ a5 ∧ a5 ≤ (300 : Int) := by omega
        refine g_iload C 6 rfl dX12_fault_38 ?_
        refine g_sipush C (by decide) dX12_fault_40 ?_
        refine g_sipush C (by decide) dX12_fault_43 ?_
        refine g_callI (st := []) (gc_S C lk_LandSurveyModel_415 (k_X12_within l D cy w z0 O43 fa6 (iw (il (-300)) (by decide) (by decide)) (iw (il 300) (by decide) (by decide))) rfl ⟨by decide, by decide⟩ (Nat.le_of_ble_eq_true rfl) dX12_fault_46 ⟨(by decide), (by decide)⟩) (fun r56 h57 f59 K58 => ?_)
        obtain ⟨O60, F61, f62, p63⟩ := K58
        refine g_if_eq C (iw f62 (by decide) (by decide)) 82 (by decide) dX12_fault_49 (fun q64 => ?_) (fun q65 => ?_)
        · have f66 : (0 : Int) ≤ r56 ∧ r56 ≤ (0 : Int) := ii f62 (r_eq (il 0) q64) (by decide) (by decide)
          refine g_iconst C dX12_fault_82 ?_
          refine g_istore C [(8, .inl 0), (0, .inr (.inr a0)), (1, .inl a1), (2, .inl a2), (3, .inl a3), (4, .inl a4), (5, .inl a5), (6, .inl a6), (7, .inl a7)] (by decide) rfl dX12_fault_83 ?_
          refine g_iload C 0 rfl dX12_fault_85 ?_
          refine g_if_eq C (iw (il 0) (by decide) (by decide)) 135 (by decide) dX12_fault_87 (fun q67 => ?_) (fun q68 => ?_)
          · refine g_iconst C dX12_fault_135 ?_
            refine g_istore C [(8, .inl 0), (0, .inr (.inr a0)), (1, .inl a1), (2, .inl a2), (3, .inl a3), (4, .inl a4), (5, .inl a5), (6, .inl a6), (7, .inl a7)] (by decide) rfl dX12_fault_136 ?_
            refine g_iload C 0 rfl dX12_fault_138 ?_
            refine g_if_ne C (iw (il 0) (by decide) (by decide)) 145 (by decide) dX12_fault_140 (fun q69 => ?_) (fun q70 => ?_)
            · exact (no_ne (il 0) (il 0) q69 (by decide)).elim
            · refine g_iconst C dX12_fault_143 ?_
              exact g_iret C hr rfl (iw (il (-1)) (by decide) (by decide)) ⟨O60, ((((((Fx.rf (wr := wr_k_X12_fault)).pI ta0 hh1 rfl).call F9 rfl).call F27 rfl).call F44 rfl).call F61 rfl), (iw (il (-1)) (by decide) (by decide))⟩ (by decide) (by decide) dX12_fault_144
          · exact (no_ne (il 0) (il 0) q68 (by decide)).elim
        · have f71 : (1 : Int) ≤ r56 ∧ r56 ≤ (1 : Int) := r_nl f62 q65
          have f72 : (-300 : Int) ≤ a6 ∧ a6 ≤ (300 : Int) := by omega
          refine g_iload C 5 rfl dX12_fault_52 ?_
          refine g_iload C 6 rfl dX12_fault_54 ?_
          refine g_icmp_gt C (iw f55 (by decide) (by decide)) (iw f72 (by decide) (by decide)) 82 (by decide) dX12_fault_56 (fun q73 => ?_) (fun q74 => ?_)
          · have f75 : (-300 : Int) ≤ a6 ∧ a6 ≤ (299 : Int) := r_lt f72 f55 q73 (by decide) (by decide)
            have f76 : (-299 : Int) ≤ a5 ∧ a5 ≤ (300 : Int) := r_gt f55 f72 q73 (by decide) (by decide)
            refine g_iconst C dX12_fault_82 ?_
            refine g_istore C [(8, .inl 0), (0, .inr (.inr a0)), (1, .inl a1), (2, .inl a2), (3, .inl a3), (4, .inl a4), (5, .inl a5), (6, .inl a6), (7, .inl a7)] (by decide) rfl dX12_fault_83 ?_
            refine g_iload C 0 rfl dX12_fault_85 ?_
            refine g_if_eq C (iw (il 0) (by decide) (by decide)) 135 (by decide) dX12_fault_87 (fun q77 => ?_) (fun q78 => ?_)
            · refine g_iconst C dX12_fault_135 ?_
              refine g_istore C [(8, .inl 0), (0, .inr (.inr a0)), (1, .inl a1), (2, .inl a2), (3, .inl a3), (4, .inl a4), (5, .inl a5), (6, .inl a6), (7, .inl a7)] (by decide) rfl dX12_fault_136 ?_
              refine g_iload C 0 rfl dX12_fault_138 ?_
              refine g_if_ne C (iw (il 0) (by decide) (by decide)) 145 (by decide) dX12_fault_140 (fun q79 => ?_) (fun q80 => ?_)
              · exact (no_ne (il 0) (il 0) q79 (by decide)).elim
              · refine g_iconst C dX12_fault_143 ?_
                exact g_iret C hr rfl (iw (il (-1)) (by decide) (by decide)) ⟨O60, ((((((Fx.rf (wr := wr_k_X12_fault)).pI ta0 hh1 rfl).call F9 rfl).call F27 rfl).call F44 rfl).call F61 rfl), (iw (il (-1)) (by decide) (by decide))⟩ (by decide) (by decide) dX12_fault_144
            · exact (no_ne (il 0) (il 0) q78 (by decide)).elim
          · refine g_iload C 7 rfl dX12_fault_59 ?_
            refine g_iconst C dX12_fault_61 ?_
            refine g_bipush C (by decide) dX12_fault_62 ?_
            refine g_callI (st := []) (gc_S C lk_LandSurveyModel_415 (k_X12_within l D cy w z0 O60 fa7 (iw (il 1) (by decide) (by decide)) (iw (il 99) (by decide) (by decide))) rfl ⟨by decide, by decide⟩ (Nat.le_of_ble_eq_true rfl) dX12_fault_64 ⟨(by decide), (by decide)⟩) (fun r81 h82 f84 K83 => ?_)
            obtain ⟨O85, F86, f87, p88⟩ := K83
            refine g_if_eq C (iw f87 (by decide) (by decide)) 82 (by decide) dX12_fault_67 (fun q89 => ?_) (fun q90 => ?_)
            · have f91 : (0 : Int) ≤ r81 ∧ r81 ≤ (0 : Int) := ii f87 (r_eq (il 0) q89) (by decide) (by decide)
              refine g_iconst C dX12_fault_82 ?_
              refine g_istore C [(8, .inl 0), (0, .inr (.inr a0)), (1, .inl a1), (2, .inl a2), (3, .inl a3), (4, .inl a4), (5, .inl a5), (6, .inl a6), (7, .inl a7)] (by decide) rfl dX12_fault_83 ?_
              refine g_iload C 0 rfl dX12_fault_85 ?_
              refine g_if_eq C (iw (il 0) (by decide) (by decide)) 135 (by decide) dX12_fault_87 (fun q92 => ?_) (fun q93 => ?_)
              · refine g_iconst C dX12_fault_135 ?_
                refine g_istore C [(8, .inl 0), (0, .inr (.inr a0)), (1, .inl a1), (2, .inl a2), (3, .inl a3), (4, .inl a4), (5, .inl a5), (6, .inl a6), (7, .inl a7)] (by decide) rfl dX12_fault_136 ?_
                refine g_iload C 0 rfl dX12_fault_138 ?_
                refine g_if_ne C (iw (il 0) (by decide) (by decide)) 145 (by decide) dX12_fault_140 (fun q94 => ?_) (fun q95 => ?_)
                · exact (no_ne (il 0) (il 0) q94 (by decide)).elim
                · refine g_iconst C dX12_fault_143 ?_
                  exact g_iret C hr rfl (iw (il (-1)) (by decide) (by decide)) ⟨O85, (((((((Fx.rf (wr := wr_k_X12_fault)).pI ta0 hh1 rfl).call F9 rfl).call F27 rfl).call F44 rfl).call F61 rfl).call F86 rfl), (iw (il (-1)) (by decide) (by decide))⟩ (by decide) (by decide) dX12_fault_144
              · exact (no_ne (il 0) (il 0) q93 (by decide)).elim
            · have f96 : (1 : Int) ≤ r81 ∧ r81 ≤ (1 : Int) := r_nl f87 q90
              have f97 : (1 : Int) ≤ a7 ∧ a7 ≤ (99 : Int) := by omega
              refine g_aload_n C rfl 0 rfl dX12_fault_70 ?_
              have e98 : Tg h82 a0 = 12 := (fxT F86 (fxT F61 (fxT F44 (fxT F27 (fxT F9 ((pIT hh1).trans ta0))))))
              obtain ⟨v99, e100⟩ : ∃ z, Iv h82 a0 57 = z := ⟨_, rfl⟩
              have f101 := ok_I O85 e98 rI_12_57 e100
              refine gf_I C fk_LandSurveyModel_477 rfl e98 e100 dX12_fault_71 ?_
              refine g_iconst C dX12_fault_74 ?_
              refine g_icmp_ge C (iw f101 (by decide) (by decide)) (iw (il 4) (by decide) (by decide)) 82 (by decide) dX12_fault_75 (fun q102 => ?_) (fun q103 => ?_)
              · have f104 : (4 : Int) ≤ v99 ∧ v99 ≤ (4 : Int) := r_ge f101 (il 4) q102 (by decide) (by decide)
                refine g_iconst C dX12_fault_82 ?_
                refine g_istore C [(8, .inl 0), (0, .inr (.inr a0)), (1, .inl a1), (2, .inl a2), (3, .inl a3), (4, .inl a4), (5, .inl a5), (6, .inl a6), (7, .inl a7)] (by decide) rfl dX12_fault_83 ?_
                refine g_iload C 0 rfl dX12_fault_85 ?_
                refine g_if_eq C (iw (il 0) (by decide) (by decide)) 135 (by decide) dX12_fault_87 (fun q105 => ?_) (fun q106 => ?_)
                · refine g_iconst C dX12_fault_135 ?_
                  refine g_istore C [(8, .inl 0), (0, .inr (.inr a0)), (1, .inl a1), (2, .inl a2), (3, .inl a3), (4, .inl a4), (5, .inl a5), (6, .inl a6), (7, .inl a7)] (by decide) rfl dX12_fault_136 ?_
                  refine g_iload C 0 rfl dX12_fault_138 ?_
                  refine g_if_ne C (iw (il 0) (by decide) (by decide)) 145 (by decide) dX12_fault_140 (fun q107 => ?_) (fun q108 => ?_)
                  · exact (no_ne (il 0) (il 0) q107 (by decide)).elim
                  · refine g_iconst C dX12_fault_143 ?_
                    exact g_iret C hr rfl (iw (il (-1)) (by decide) (by decide)) ⟨O85, (((((((Fx.rf (wr := wr_k_X12_fault)).pI ta0 hh1 rfl).call F9 rfl).call F27 rfl).call F44 rfl).call F61 rfl).call F86 rfl), (iw (il (-1)) (by decide) (by decide))⟩ (by decide) (by decide) dX12_fault_144
                · exact (no_ne (il 0) (il 0) q106 (by decide)).elim
              · have f109 : (0 : Int) ≤ v99 ∧ v99 ≤ (3 : Int) := r_lt f101 (il 4) q103 (by decide) (by decide)
                refine g_iconst C dX12_fault_78 ?_
                refine g_goto C 83 (by decide) dX12_fault_79 ?_
                refine g_istore C [(8, .inl 1), (0, .inr (.inr a0)), (1, .inl a1), (2, .inl a2), (3, .inl a3), (4, .inl a4), (5, .inl a5), (6, .inl a6), (7, .inl a7)] (by decide) rfl dX12_fault_83 ?_
                refine g_iload C 0 rfl dX12_fault_85 ?_
                refine g_if_eq C (iw (il 1) (by decide) (by decide)) 135 (by decide) dX12_fault_87 (fun q110 => ?_) (fun q111 => ?_)
                · exact (no_eq (il 1) (il 0) q110 (by decide)).elim
                · refine g_iload_n C rfl 4 rfl dX12_fault_90 ?_
                  refine g_if_eq C (iw fa3 (by decide) (by decide)) 114 (by decide) dX12_fault_91 (fun q112 => ?_) (fun q113 => ?_)
                  · have f114 : (0 : Int) ≤ a3 ∧ a3 ≤ (0 : Int) := ii fa3 (r_eq (il 0) q112) (by decide) (by decide)
                    refine g_iload_n C rfl 3 rfl dX12_fault_114 ?_
                    refine g_iconst C dX12_fault_115 ?_
                    have f115 : (1 : Int) ≤ (a2 + 1) ∧ (a2 + 1) ≤ (8 : Int) := ia_add f21 (il 1) (by decide) (by decide)
                    refine g_iadd C dX12_fault_116 ?_
                    refine g_bipush C (by decide) dX12_fault_117 ?_
                    refine g_icmp_ge C (iw f115 (by decide) (by decide)) (iw (il 8) (by decide) (by decide)) 135 (by decide) dX12_fault_119 (fun q116 => ?_) (fun q117 => ?_)
                    · have f118 : (8 : Int) ≤ (a2 + 1) ∧ (a2 + 1) ≤ (8 : Int) := r_ge f115 (il 8) q116 (by decide) (by decide)
                      have f119 : (7 : Int) ≤ a2 ∧ a2 ≤ (7 : Int) := (ii f21 (sh_a (c := 1) (l := 7) (u := 7) f118 (by decide) (by decide)) (by decide) (by decide))
                      refine g_iconst C dX12_fault_135 ?_
                      refine g_istore C [(8, .inl 0), (0, .inr (.inr a0)), (1, .inl a1), (2, .inl a2), (3, .inl a3), (4, .inl a4), (5, .inl a5), (6, .inl a6), (7, .inl a7)] (by decide) rfl dX12_fault_136 ?_
                      refine g_iload C 0 rfl dX12_fault_138 ?_
                      refine g_if_ne C (iw (il 0) (by decide) (by decide)) 145 (by decide) dX12_fault_140 (fun q120 => ?_) (fun q121 => ?_)
                      · exact (no_ne (il 0) (il 0) q120 (by decide)).elim
                      · refine g_iconst C dX12_fault_143 ?_
                        exact g_iret C hr rfl (iw (il (-1)) (by decide) (by decide)) ⟨O85, (((((((Fx.rf (wr := wr_k_X12_fault)).pI ta0 hh1 rfl).call F9 rfl).call F27 rfl).call F44 rfl).call F61 rfl).call F86 rfl), (iw (il (-1)) (by decide) (by decide))⟩ (by decide) (by decide) dX12_fault_144
                    · have f122 : (1 : Int) ≤ (a2 + 1) ∧ (a2 + 1) ≤ (7 : Int) := r_lt f115 (il 8) q117 (by decide) (by decide)
                      have f123 : (0 : Int) ≤ a2 ∧ a2 ≤ (6 : Int) := (ii f21 (sh_a (c := 1) (l := 0) (u := 6) f122 (by decide) (by decide)) (by decide) (by decide))
                      refine g_iload_n C rfl 2 rfl dX12_fault_122 ?_
                      refine g_iload C 5 rfl dX12_fault_123 ?_
                      have f124 : (1 : Int) ≤ (a1 + a4) ∧ (a1 + a4) ≤ (23 : Int) := ia_add f20 f38 (by decide) (by decide)
                      refine g_iadd C dX12_fault_125 ?_
                      refine g_bipush C (by decide) dX12_fault_126 ?_
                      refine g_icmp_gt C (iw f124 (by decide) (by decide)) (iw (il 12) (by decide) (by decide)) 135 (by decide) dX12_fault_128 (fun q125 => ?_) (fun q126 => ?_)
                      · have f127 : (13 : Int) ≤ (a1 + a4) ∧ (a1 + a4) ≤ (23 : Int) := r_gt f124 (il 12) q125 (by decide) (by decide)
                        refine g_iconst C dX12_fault_135 ?_
                        refine g_istore C [(8, .inl 0), (0, .inr (.inr a0)), (1, .inl a1), (2, .inl a2), (3, .inl a3), (4, .inl a4), (5, .inl a5), (6, .inl a6), (7, .inl a7)] (by decide) rfl dX12_fault_136 ?_
                        refine g_iload C 0 rfl dX12_fault_138 ?_
                        refine g_if_ne C (iw (il 0) (by decide) (by decide)) 145 (by decide) dX12_fault_140 (fun q128 => ?_) (fun q129 => ?_)
                        · exact (no_ne (il 0) (il 0) q128 (by decide)).elim
                        · refine g_iconst C dX12_fault_143 ?_
                          exact g_iret C hr rfl (iw (il (-1)) (by decide) (by decide)) ⟨O85, (((((((Fx.rf (wr := wr_k_X12_fault)).pI ta0 hh1 rfl).call F9 rfl).call F27 rfl).call F44 rfl).call F61 rfl).call F86 rfl), (iw (il (-1)) (by decide) (by decide))⟩ (by decide) (by decide) dX12_fault_144
                      · have f130 : (1 : Int) ≤ (a1 + a4) ∧ (a1 + a4) ≤ (12 : Int) := r_le f124 (il 12) q126 (by decide) (by decide)
                        refine g_iconst C dX12_fault_131 ?_
                        refine g_goto C 136 (by decide) dX12_fault_132 ?_
                        refine g_istore C [(8, .inl 1), (0, .inr (.inr a0)), (1, .inl a1), (2, .inl a2), (3, .inl a3), (4, .inl a4), (5, .inl a5), (6, .inl a6), (7, .inl a7)] (by decide) rfl dX12_fault_136 ?_
                        refine g_iload C 0 rfl dX12_fault_138 ?_
                        refine g_if_ne C (iw (il 1) (by decide) (by decide)) 145 (by decide) dX12_fault_140 (fun q131 => ?_) (fun q132 => ?_)
                        · refine g_iconst C dX12_fault_145 ?_
                          refine g_istore C [(9, .inl 0), (8, .inl 1), (0, .inr (.inr a0)), (1, .inl a1), (2, .inl a2), (3, .inl a3), (4, .inl a4), (5, .inl a5), (6, .inl a6), (7, .inl a7)] (by decide) rfl dX12_fault_146 ?_
                          refine GW.sub [2, 3, 4, 5, 6, 7, 8, 9, 1, 0] rfl ?_
                          -- loop at 148
                          have L135 : ∀ (μ : Nat) (x133 : Int) (h134 : Hp), (192 - x133).toNat = μ → Okh h134 → Fx [31620200] h82 h134 → ((0 : Int) ≤ x133 ∧ x133 ≤ (192 : Int)) → GW p l e (rmm 2 43 0 0) s m (List.map toV [.inr (.inr a0), .inl a1, .inl a2, .inl a3, .inl a4, .inl a5, .inl a6, .inl a7]).toArray below meth c D cy z0 10 (MQ below (QI D cy z0 (fun v h1 => Okh h1 ∧ Fx wr_k_X12_fault h h1 ∧ ((-2147483648) ≤ v ∧ v ≤ 2147483647))) (List.map toV [.inr (.inr a0), .inl a1, .inl a2, .inl a3, .inl a4, .inl a5, .inl a6, .inl a7]).toArray s 0 0 (Aof z0)) 148 [(0, .inr (.inr a0)), (1, .inl a1), (2, .inl a2), (3, .inl a3), (4, .inl a4), (5, .inl a5), (6, .inl a6), (7, .inl a7), (8, .inl 1), (9, .inl x133)] [] h134 0 0 := by
                            intro μ
                            induction μ using Nat.strongRecOn with
                            | ind μ ih136 =>
                              intro x133 h134 hm137 O138 F139 f140
                              refine g_iload C 9 rfl dX12_fault_148 ?_
                              refine g_sipush C (by decide) dX12_fault_150 ?_
                              refine g_icmp_ge C (iw f140 (by decide) (by decide)) (iw (il 192) (by decide) (by decide)) 179 (by decide) dX12_fault_153 (fun q141 => ?_) (fun q142 => ?_)
                              · have f143 : (192 : Int) ≤ x133 ∧ x133 ≤ (192 : Int) := r_ge f140 (il 192) q141 (by decide) (by decide)
                                refine g_iconst C dX12_fault_179 ?_
                                refine g_istore C [(9, .inl 0), (0, .inr (.inr a0)), (1, .inl a1), (2, .inl a2), (3, .inl a3), (4, .inl a4), (5, .inl a5), (6, .inl a6), (7, .inl a7), (8, .inl 1)] (by decide) rfl dX12_fault_180 ?_
                                refine GW.sub [1, 2, 3, 4, 5, 6, 7, 8, 9, 0] rfl ?_
                                -- loop at 182
                                have L146 : ∀ (μ : Nat) (x144 : Int) (h145 : Hp), (12 - x144).toNat = μ → Okh h145 → Fx [31620200] h134 h145 → ((0 : Int) ≤ x144 ∧ x144 ≤ (12 : Int)) → GW p l e (rmm 2 43 0 0) s m (List.map toV [.inr (.inr a0), .inl a1, .inl a2, .inl a3, .inl a4, .inl a5, .inl a6, .inl a7]).toArray below meth c D cy z0 10 (MQ below (QI D cy z0 (fun v h1 => Okh h1 ∧ Fx wr_k_X12_fault h h1 ∧ ((-2147483648) ≤ v ∧ v ≤ 2147483647))) (List.map toV [.inr (.inr a0), .inl a1, .inl a2, .inl a3, .inl a4, .inl a5, .inl a6, .inl a7]).toArray s 0 0 (Aof z0)) 182 [(0, .inr (.inr a0)), (1, .inl a1), (2, .inl a2), (3, .inl a3), (4, .inl a4), (5, .inl a5), (6, .inl a6), (7, .inl a7), (8, .inl 1), (9, .inl x144)] [] h145 0 0 := by
                                  intro μ
                                  induction μ using Nat.strongRecOn with
                                  | ind μ ih147 =>
                                    intro x144 h145 hm148 O149 F150 f151
                                    refine g_iload C 9 rfl dX12_fault_182 ?_
                                    refine g_iload C 4 rfl dX12_fault_184 ?_
                                    refine g_icmp_ge C (iw f151 (by decide) (by decide)) (iw f38 (by decide) (by decide)) 238 (by decide) dX12_fault_186 (fun q152 => ?_) (fun q153 => ?_)
                                    · have f154 : (1 : Int) ≤ x144 ∧ x144 ≤ (12 : Int) := r_ge f151 f38 q152 (by decide) (by decide)
                                      refine g_aload_n C rfl 0 rfl dX12_fault_238 ?_
                                      have e155 : Tg h145 a0 = 12 := (fxT F150 (fxT F139 e98))
                                      obtain ⟨v156, e157⟩ : ∃ z, Rv h145 a0 59 = z := ⟨_, rfl⟩
                                      have t158 := ok_R O149 e155 rE_12_59 e157
                                      have l159 := ok_L O149 e155 rE_12_59 e157
                                      refine gf_R C fk_LandSurveyModel_224 rfl e155 e157 dX12_fault_239 ?_
                                      refine g_aload_n C rfl 0 rfl dX12_fault_242 ?_
                                      have e160 : Tg h134 a0 = 12 := (fxT F139 e98)
                                      have e161 : Iv h145 a0 57 = v99 := ((fxI F150 e160 rfl).trans ((fxI F139 e98 rfl).trans e100))
                                      refine gf_I C fk_LandSurveyModel_477 rfl e155 e161 dX12_fault_243 ?_
                                      refine g_iload C 5 rfl dX12_fault_246 ?_
                                      refine g_iast C t158 rfl l159 (ix f109 (by decide) (by decide)) (iw f55 (by decide) (by decide)) dX12_fault_248 (fun h163 hh162 => ?_)
                                      have O164 := O149.pIa t158 ar_159100 hh162 rI_159100_0 f55 nofun
                                      refine g_aload_n C rfl 0 rfl dX12_fault_249 ?_
                                      have e165 : Tg h163 a0 = 12 := ((pIT hh162).trans e155)
                                      obtain ⟨v166, e167⟩ : ∃ z, Rv h163 a0 60 = z := ⟨_, rfl⟩
                                      have t168 := ok_R O164 e165 rE_12_60 e167
                                      have l169 := ok_L O164 e165 rE_12_60 e167
                                      refine gf_R C fk_LandSurveyModel_227 rfl e165 e167 dX12_fault_250 ?_
                                      refine g_aload_n C rfl 0 rfl dX12_fault_253 ?_
                                      have e170 : Iv h163 a0 57 = v99 := ((pI_n hh162 (ne_tag e155 t158 (by decide))).trans e161)
                                      refine gf_I C fk_LandSurveyModel_477 rfl e165 e170 dX12_fault_254 ?_
                                      refine g_iload C 6 rfl dX12_fault_257 ?_
                                      refine g_iast C t168 rfl l169 (ix f109 (by decide) (by decide)) (iw f72 (by decide) (by decide)) dX12_fault_259 (fun h172 hh171 => ?_)
                                      have O173 := O164.pIa t168 ar_160100 hh171 rI_160100_0 f72 nofun
                                      refine g_aload_n C rfl 0 rfl dX12_fault_260 ?_
                                      have e174 : Tg h172 a0 = 12 := ((pIT hh171).trans e165)
                                      obtain ⟨v175, e176⟩ : ∃ z, Rv h172 a0 61 = z := ⟨_, rfl⟩
                                      have t177 := ok_R O173 e174 rE_12_61 e176
                                      have l178 := ok_L O173 e174 rE_12_61 e176
                                      refine gf_R C fk_LandSurveyModel_230 rfl e174 e176 dX12_fault_261 ?_
                                      refine g_aload_n C rfl 0 rfl dX12_fault_264 ?_
                                      have e179 : Iv h172 a0 57 = v99 := ((pI_n hh171 (ne_tag e165 t168 (by decide))).trans e170)
                                      refine gf_I C fk_LandSurveyModel_477 rfl e174 e179 dX12_fault_265 ?_
                                      refine g_iload C 7 rfl dX12_fault_268 ?_
                                      refine g_iast C t177 rfl l178 (ix f109 (by decide) (by decide)) (iw f97 (by decide) (by decide)) dX12_fault_270 (fun h181 hh180 => ?_)
                                      have O182 := O173.pIa t177 ar_161100 hh180 rI_161100_0 (iw f97 (by decide) (by decide)) nofun
                                      refine g_aload_n C rfl 0 rfl dX12_fault_271 ?_
                                      refine g_dup C rfl dX12_fault_272 ?_
                                      have e183 : Tg h181 a0 = 12 := ((pIT hh180).trans e174)
                                      have e184 : Iv h181 a0 57 = v99 := ((pI_n hh180 (ne_tag e174 t177 (by decide))).trans e179)
                                      refine gf_I C fk_LandSurveyModel_477 rfl e183 e184 dX12_fault_273 ?_
                                      refine g_iconst C dX12_fault_276 ?_
                                      have f185 : (1 : Int) ≤ (v99 + 1) ∧ (v99 + 1) ≤ (4 : Int) := ia_add f109 (il 1) (by decide) (by decide)
                                      refine g_iadd C dX12_fault_277 ?_
                                      refine gp_I C fk_LandSurveyModel_477 pk_LandSurveyModel_57 rfl e183 (iw f185 (by decide) (by decide)) (nf_i _) dX12_fault_278 (fun h187 hh186 => ?_)
                                      have O188 := O182.pI e183 hh186 rI_12_57 (iw f185 (by decide) (by decide)) nofun
                                      refine g_aload_n C rfl 0 rfl dX12_fault_281 ?_
                                      refine g_iconst C dX12_fault_282 ?_
                                      have e189 : Tg h187 a0 = 12 := ((pIT hh186).trans e183)
                                      refine gp_I C fk_LandSurveyModel_290 pk_LandSurveyModel_35 rfl e189 (iw (il 1) (by decide) (by decide)) (nar_z2 (iw (il 1) (by decide) (by decide))) dX12_fault_283 (fun h191 hh190 => ?_)
                                      have O192 := O188.pI e189 hh190 rI_12_35 (iw (il 1) (by decide) (by decide)) nofun
                                      refine g_aload_n C rfl 0 rfl dX12_fault_286 ?_
                                      have e193 : Tg h191 a0 = 12 := ((pIT hh190).trans e189)
                                      have e194 : Iv h191 a0 57 = (v99 + 1) := ((pI_j hh190 (by decide)).trans (pI_e hh186))
                                      refine gf_I C fk_LandSurveyModel_477 rfl e193 e194 dX12_fault_287 ?_
                                      refine g_iconst C dX12_fault_290 ?_
                                      have f195 : (0 : Int) ≤ ((v99 + 1) - 1) ∧ ((v99 + 1) - 1) ≤ (3 : Int) := ia_sub f185 (il 1) (by decide) (by decide)
                                      refine g_isub C dX12_fault_291 ?_
                                      exact g_iret C hr rfl (iw f195 (by decide) (by decide)) ⟨O192, ((((((((((((((Fx.rf (wr := wr_k_X12_fault)).pI ta0 hh1 rfl).call F9 rfl).call F27 rfl).call F44 rfl).call F61 rfl).call F86 rfl).call F139 rfl).call F150 rfl).pIa t158 ar_159100 hh162 rfl).pIa t168 ar_160100 hh171 rfl).pIa t177 ar_161100 hh180 rfl).pI e183 hh186 rfl).pI e189 hh190 rfl), (iw f195 (by decide) (by decide))⟩ (by decide) (by decide) dX12_fault_292
                                    · have f196 : (0 : Int) ≤ x144 ∧ x144 ≤ (11 : Int) := r_lt f151 f38 q153 (by decide) (by decide)
                                      refine g_aload_n C rfl 0 rfl dX12_fault_189 ?_
                                      have e197 : Tg h145 a0 = 12 := (fxT F150 (fxT F139 e98))
                                      obtain ⟨v198, e199⟩ : ∃ z, Rv h145 a0 58 = z := ⟨_, rfl⟩
                                      have t200 := ok_R O149 e197 rE_12_58 e199
                                      have l201 := ok_L O149 e197 rE_12_58 e199
                                      refine gf_R C fk_LandSurveyModel_221 rfl e197 e199 dX12_fault_190 ?_
                                      refine g_sipush C (by decide) dX12_fault_193 ?_
                                      refine g_aload_n C rfl 0 rfl dX12_fault_196 ?_
                                      have e202 : Tg h134 a0 = 12 := (fxT F139 e98)
                                      have e203 : Iv h145 a0 57 = v99 := ((fxI F150 e202 rfl).trans ((fxI F139 e98 rfl).trans e100))
                                      refine gf_I C fk_LandSurveyModel_477 rfl e197 e203 dX12_fault_197 ?_
                                      have f204 : (0 : Int) ≤ (192 * v99) ∧ (192 * v99) ≤ (576 : Int) := ia_mul (by decide) f109 (by decide) (by decide)
                                      refine g_imul C dX12_fault_200 ?_
                                      refine g_iload_n C rfl 3 rfl dX12_fault_201 ?_
                                      refine g_if_eq C (iw f114 (by decide) (by decide)) 217 (by decide) dX12_fault_202 (fun q205 => ?_) (fun q206 => ?_)
                                      · refine g_bipush C (by decide) dX12_fault_217 ?_
                                        refine g_bipush C (by decide) dX12_fault_219 ?_
                                        refine g_iload_n C rfl 2 rfl dX12_fault_221 ?_
                                        have f207 : (0 : Int) ≤ (12 * a2) ∧ (12 * a2) ≤ (72 : Int) := ia_mul (by decide) f123 (by decide) (by decide)
                                        refine g_imul C dX12_fault_222 ?_
                                        have f208 : (96 : Int) ≤ (96 + (12 * a2)) ∧ (96 + (12 * a2)) ≤ (168 : Int) := ia_add (il 96) f207 (by decide) (by decide)
                                        refine g_iadd C dX12_fault_223 ?_
                                        refine g_iload_n C rfl 1 rfl dX12_fault_224 ?_
                                        have f209 : (96 : Int) ≤ ((96 + (12 * a2)) + a1) ∧ ((96 + (12 * a2)) + a1) ≤ (179 : Int) := ia_add f208 f20 (by decide) (by decide)
                                        refine g_iadd C dX12_fault_225 ?_
                                        refine g_iload C 9 rfl dX12_fault_226 ?_
                                        have f210 : (96 : Int) ≤ (((96 + (12 * a2)) + a1) + x144) ∧ (((96 + (12 * a2)) + a1) + x144) ≤ (190 : Int) := ia_add f209 f196 (by decide) (by decide)
                                        refine g_iadd C dX12_fault_228 ?_
                                        have f211 : (96 : Int) ≤ ((192 * v99) + (((96 + (12 * a2)) + a1) + x144)) ∧ ((192 * v99) + (((96 + (12 * a2)) + a1) + x144)) ≤ (766 : Int) := ia_add f204 f210 (by decide) (by decide)
                                        refine g_iadd C dX12_fault_229 ?_
                                        refine g_iconst C dX12_fault_230 ?_
                                        refine g_zast C t200 rfl l201 (ix f211 (by decide) (by decide)) (iw (il 1) (by decide) (by decide)) dX12_fault_231 (fun h213 hh212 => ?_)
                                        have O214 := O149.pIa t200 ar_158101 hh212 rI_158101_0 (iw (il 1) (by decide) (by decide)) nofun
                                        have f215 : (1 : Int) ≤ (x144 + 1) ∧ (x144 + 1) ≤ (12 : Int) := ia_add f196 (il 1) (by decide) (by decide)
                                        refine g_iinc C [(9, .inl (x144 + 1)), (0, .inr (.inr a0)), (1, .inl a1), (2, .inl a2), (3, .inl a3), (4, .inl a4), (5, .inl a5), (6, .inl a6), (7, .inl a7), (8, .inl 1)] 9 rfl (by decide) rfl dX12_fault_232 ?_
                                        refine g_goto C 182 (by decide) dX12_fault_235 ?_
                                        refine GW.sub [1, 2, 3, 4, 5, 6, 7, 8, 9, 0] rfl ?_
                                        exact ih147 _ (by omega) (x144 + 1) h213 rfl O214 (F150.pIa t200 ar_158101 hh212 rfl) (iw f215 (by decide) (by decide))
                                      · exact (no_ne f114 (il 0) q206 (by decide)).elim
                                exact L146 _ 0 h134 rfl O138 Fx.rf (iw (il 0) (by decide) (by decide))
                              · have f216 : (0 : Int) ≤ x133 ∧ x133 ≤ (191 : Int) := r_lt f140 (il 192) q142 (by decide) (by decide)
                                refine g_aload_n C rfl 0 rfl dX12_fault_156 ?_
                                have e217 : Tg h134 a0 = 12 := (fxT F139 e98)
                                obtain ⟨v218, e219⟩ : ∃ z, Rv h134 a0 58 = z := ⟨_, rfl⟩
                                have t220 := ok_R O138 e217 rE_12_58 e219
                                have l221 := ok_L O138 e217 rE_12_58 e219
                                refine gf_R C fk_LandSurveyModel_221 rfl e217 e219 dX12_fault_157 ?_
                                refine g_sipush C (by decide) dX12_fault_160 ?_
                                refine g_aload_n C rfl 0 rfl dX12_fault_163 ?_
                                have e222 : Iv h134 a0 57 = v99 := ((fxI F139 e98 rfl).trans e100)
                                refine gf_I C fk_LandSurveyModel_477 rfl e217 e222 dX12_fault_164 ?_
                                have f223 : (0 : Int) ≤ (192 * v99) ∧ (192 * v99) ≤ (576 : Int) := ia_mul (by decide) f109 (by decide) (by decide)
                                refine g_imul C dX12_fault_167 ?_
                                refine g_iload C 9 rfl dX12_fault_168 ?_
                                have f224 : (0 : Int) ≤ ((192 * v99) + x133) ∧ ((192 * v99) + x133) ≤ (767 : Int) := ia_add f223 f216 (by decide) (by decide)
                                refine g_iadd C dX12_fault_170 ?_
                                refine g_iconst C dX12_fault_171 ?_
                                refine g_zast C t220 rfl l221 (ix f224 (by decide) (by decide)) (iw (il 0) (by decide) (by decide)) dX12_fault_172 (fun h226 hh225 => ?_)
                                have O227 := O138.pIa t220 ar_158101 hh225 rI_158101_0 (iw (il 0) (by decide) (by decide)) nofun
                                have f228 : (1 : Int) ≤ (x133 + 1) ∧ (x133 + 1) ≤ (192 : Int) := ia_add f216 (il 1) (by decide) (by decide)
                                refine g_iinc C [(9, .inl (x133 + 1)), (0, .inr (.inr a0)), (1, .inl a1), (2, .inl a2), (3, .inl a3), (4, .inl a4), (5, .inl a5), (6, .inl a6), (7, .inl a7), (8, .inl 1)] 9 rfl (by decide) rfl dX12_fault_173 ?_
                                refine g_goto C 148 (by decide) dX12_fault_176 ?_
                                refine GW.sub [1, 2, 3, 4, 5, 6, 7, 8, 9, 0] rfl ?_
                                exact ih136 _ (by omega) (x133 + 1) h226 rfl O227 (F139.pIa t220 ar_158101 hh225 rfl) (iw f228 (by decide) (by decide))
                          exact L135 _ 0 h82 rfl O85 Fx.rf (iw (il 0) (by decide) (by decide))
                        · exact (no_eq (il 1) (il 0) q132 (by decide)).elim
                  · have f229 : (1 : Int) ≤ a3 ∧ a3 ≤ (1 : Int) := r_nl fa3 q113
                    refine g_iload_n C rfl 2 rfl dX12_fault_94 ?_
                    refine g_iconst C dX12_fault_95 ?_
                    have f230 : (1 : Int) ≤ (a1 + 1) ∧ (a1 + 1) ≤ (12 : Int) := ia_add f20 (il 1) (by decide) (by decide)
                    refine g_iadd C dX12_fault_96 ?_
                    refine g_bipush C (by decide) dX12_fault_97 ?_
                    refine g_icmp_ge C (iw f230 (by decide) (by decide)) (iw (il 12) (by decide) (by decide)) 135 (by decide) dX12_fault_99 (fun q231 => ?_) (fun q232 => ?_)
                    · have f233 : (12 : Int) ≤ (a1 + 1) ∧ (a1 + 1) ≤ (12 : Int) := r_ge f230 (il 12) q231 (by decide) (by decide)
                      have f234 : (11 : Int) ≤ a1 ∧ a1 ≤ (11 : Int) := (ii f20 (sh_a (c := 1) (l := 11) (u := 11) f233 (by decide) (by decide)) (by decide) (by decide))
                      refine g_iconst C dX12_fault_135 ?_
                      refine g_istore C [(8, .inl 0), (0, .inr (.inr a0)), (1, .inl a1), (2, .inl a2), (3, .inl a3), (4, .inl a4), (5, .inl a5), (6, .inl a6), (7, .inl a7)] (by decide) rfl dX12_fault_136 ?_
                      refine g_iload C 0 rfl dX12_fault_138 ?_
                      refine g_if_ne C (iw (il 0) (by decide) (by decide)) 145 (by decide) dX12_fault_140 (fun q235 => ?_) (fun q236 => ?_)
                      · exact (no_ne (il 0) (il 0) q235 (by decide)).elim
                      · refine g_iconst C dX12_fault_143 ?_
                        exact g_iret C hr rfl (iw (il (-1)) (by decide) (by decide)) ⟨O85, (((((((Fx.rf (wr := wr_k_X12_fault)).pI ta0 hh1 rfl).call F9 rfl).call F27 rfl).call F44 rfl).call F61 rfl).call F86 rfl), (iw (il (-1)) (by decide) (by decide))⟩ (by decide) (by decide) dX12_fault_144
                    · have f237 : (1 : Int) ≤ (a1 + 1) ∧ (a1 + 1) ≤ (11 : Int) := r_lt f230 (il 12) q232 (by decide) (by decide)
                      have f238 : (0 : Int) ≤ a1 ∧ a1 ≤ (10 : Int) := (ii f20 (sh_a (c := 1) (l := 0) (u := 10) f237 (by decide) (by decide)) (by decide) (by decide))
                      refine g_iload_n C rfl 3 rfl dX12_fault_102 ?_
                      refine g_iload C 5 rfl dX12_fault_103 ?_
                      have f239 : (1 : Int) ≤ (a2 + a4) ∧ (a2 + a4) ≤ (19 : Int) := ia_add f21 f38 (by decide) (by decide)
                      refine g_iadd C dX12_fault_105 ?_
                      refine g_bipush C (by decide) dX12_fault_106 ?_
                      refine g_icmp_gt C (iw f239 (by decide) (by decide)) (iw (il 8) (by decide) (by decide)) 135 (by decide) dX12_fault_108 (fun q240 => ?_) (fun q241 => ?_)
                      · have f242 : (9 : Int) ≤ (a2 + a4) ∧ (a2 + a4) ≤ (19 : Int) := r_gt f239 (il 8) q240 (by decide) (by decide)
                        refine g_iconst C dX12_fault_135 ?_
                        refine g_istore C [(8, .inl 0), (0, .inr (.inr a0)), (1, .inl a1), (2, .inl a2), (3, .inl a3), (4, .inl a4), (5, .inl a5), (6, .inl a6), (7, .inl a7)] (by decide) rfl dX12_fault_136 ?_
                        refine g_iload C 0 rfl dX12_fault_138 ?_
                        refine g_if_ne C (iw (il 0) (by decide) (by decide)) 145 (by decide) dX12_fault_140 (fun q243 => ?_) (fun q244 => ?_)
                        · exact (no_ne (il 0) (il 0) q243 (by decide)).elim
                        · refine g_iconst C dX12_fault_143 ?_
                          exact g_iret C hr rfl (iw (il (-1)) (by decide) (by decide)) ⟨O85, (((((((Fx.rf (wr := wr_k_X12_fault)).pI ta0 hh1 rfl).call F9 rfl).call F27 rfl).call F44 rfl).call F61 rfl).call F86 rfl), (iw (il (-1)) (by decide) (by decide))⟩ (by decide) (by decide) dX12_fault_144
                      · have f245 : (1 : Int) ≤ (a2 + a4) ∧ (a2 + a4) ≤ (8 : Int) := r_le f239 (il 8) q241 (by decide) (by decide)
                        refine g_goto C 131 (by decide) dX12_fault_111 ?_
                        refine g_iconst C dX12_fault_131 ?_
                        refine g_goto C 136 (by decide) dX12_fault_132 ?_
                        refine g_istore C [(8, .inl 1), (0, .inr (.inr a0)), (1, .inl a1), (2, .inl a2), (3, .inl a3), (4, .inl a4), (5, .inl a5), (6, .inl a6), (7, .inl a7)] (by decide) rfl dX12_fault_136 ?_
                        refine g_iload C 0 rfl dX12_fault_138 ?_
                        refine g_if_ne C (iw (il 1) (by decide) (by decide)) 145 (by decide) dX12_fault_140 (fun q246 => ?_) (fun q247 => ?_)
                        · refine g_iconst C dX12_fault_145 ?_
                          refine g_istore C [(9, .inl 0), (8, .inl 1), (0, .inr (.inr a0)), (1, .inl a1), (2, .inl a2), (3, .inl a3), (4, .inl a4), (5, .inl a5), (6, .inl a6), (7, .inl a7)] (by decide) rfl dX12_fault_146 ?_
                          refine GW.sub [2, 3, 4, 5, 6, 7, 8, 9, 1, 0] rfl ?_
                          -- loop at 148
                          have L250 : ∀ (μ : Nat) (x248 : Int) (h249 : Hp), (192 - x248).toNat = μ → Okh h249 → Fx [31620200] h82 h249 → ((0 : Int) ≤ x248 ∧ x248 ≤ (192 : Int)) → GW p l e (rmm 2 43 0 0) s m (List.map toV [.inr (.inr a0), .inl a1, .inl a2, .inl a3, .inl a4, .inl a5, .inl a6, .inl a7]).toArray below meth c D cy z0 10 (MQ below (QI D cy z0 (fun v h1 => Okh h1 ∧ Fx wr_k_X12_fault h h1 ∧ ((-2147483648) ≤ v ∧ v ≤ 2147483647))) (List.map toV [.inr (.inr a0), .inl a1, .inl a2, .inl a3, .inl a4, .inl a5, .inl a6, .inl a7]).toArray s 0 0 (Aof z0)) 148 [(0, .inr (.inr a0)), (1, .inl a1), (2, .inl a2), (3, .inl a3), (4, .inl a4), (5, .inl a5), (6, .inl a6), (7, .inl a7), (8, .inl 1), (9, .inl x248)] [] h249 0 0 := by
                            intro μ
                            induction μ using Nat.strongRecOn with
                            | ind μ ih251 =>
                              intro x248 h249 hm252 O253 F254 f255
                              refine g_iload C 9 rfl dX12_fault_148 ?_
                              refine g_sipush C (by decide) dX12_fault_150 ?_
                              refine g_icmp_ge C (iw f255 (by decide) (by decide)) (iw (il 192) (by decide) (by decide)) 179 (by decide) dX12_fault_153 (fun q256 => ?_) (fun q257 => ?_)
                              · have f258 : (192 : Int) ≤ x248 ∧ x248 ≤ (192 : Int) := r_ge f255 (il 192) q256 (by decide) (by decide)
                                refine g_iconst C dX12_fault_179 ?_
                                refine g_istore C [(9, .inl 0), (0, .inr (.inr a0)), (1, .inl a1), (2, .inl a2), (3, .inl a3), (4, .inl a4), (5, .inl a5), (6, .inl a6), (7, .inl a7), (8, .inl 1)] (by decide) rfl dX12_fault_180 ?_
                                refine GW.sub [1, 2, 3, 4, 5, 6, 7, 8, 9, 0] rfl ?_
                                -- loop at 182
                                have L261 : ∀ (μ : Nat) (x259 : Int) (h260 : Hp), (12 - x259).toNat = μ → Okh h260 → Fx [31620200] h249 h260 → ((0 : Int) ≤ x259 ∧ x259 ≤ (12 : Int)) → GW p l e (rmm 2 43 0 0) s m (List.map toV [.inr (.inr a0), .inl a1, .inl a2, .inl a3, .inl a4, .inl a5, .inl a6, .inl a7]).toArray below meth c D cy z0 10 (MQ below (QI D cy z0 (fun v h1 => Okh h1 ∧ Fx wr_k_X12_fault h h1 ∧ ((-2147483648) ≤ v ∧ v ≤ 2147483647))) (List.map toV [.inr (.inr a0), .inl a1, .inl a2, .inl a3, .inl a4, .inl a5, .inl a6, .inl a7]).toArray s 0 0 (Aof z0)) 182 [(0, .inr (.inr a0)), (1, .inl a1), (2, .inl a2), (3, .inl a3), (4, .inl a4), (5, .inl a5), (6, .inl a6), (7, .inl a7), (8, .inl 1), (9, .inl x259)] [] h260 0 0 := by
                                  intro μ
                                  induction μ using Nat.strongRecOn with
                                  | ind μ ih262 =>
                                    intro x259 h260 hm263 O264 F265 f266
                                    refine g_iload C 9 rfl dX12_fault_182 ?_
                                    refine g_iload C 4 rfl dX12_fault_184 ?_
                                    refine g_icmp_ge C (iw f266 (by decide) (by decide)) (iw f38 (by decide) (by decide)) 238 (by decide) dX12_fault_186 (fun q267 => ?_) (fun q268 => ?_)
                                    · have f269 : (1 : Int) ≤ x259 ∧ x259 ≤ (12 : Int) := r_ge f266 f38 q267 (by decide) (by decide)
                                      refine g_aload_n C rfl 0 rfl dX12_fault_238 ?_
                                      have e270 : Tg h260 a0 = 12 := (fxT F265 (fxT F254 e98))
                                      obtain ⟨v271, e272⟩ : ∃ z, Rv h260 a0 59 = z := ⟨_, rfl⟩
                                      have t273 := ok_R O264 e270 rE_12_59 e272
                                      have l274 := ok_L O264 e270 rE_12_59 e272
                                      refine gf_R C fk_LandSurveyModel_224 rfl e270 e272 dX12_fault_239 ?_
                                      refine g_aload_n C rfl 0 rfl dX12_fault_242 ?_
                                      have e275 : Tg h249 a0 = 12 := (fxT F254 e98)
                                      have e276 : Iv h260 a0 57 = v99 := ((fxI F265 e275 rfl).trans ((fxI F254 e98 rfl).trans e100))
                                      refine gf_I C fk_LandSurveyModel_477 rfl e270 e276 dX12_fault_243 ?_
                                      refine g_iload C 5 rfl dX12_fault_246 ?_
                                      refine g_iast C t273 rfl l274 (ix f109 (by decide) (by decide)) (iw f55 (by decide) (by decide)) dX12_fault_248 (fun h278 hh277 => ?_)
                                      have O279 := O264.pIa t273 ar_159100 hh277 rI_159100_0 f55 nofun
                                      refine g_aload_n C rfl 0 rfl dX12_fault_249 ?_
                                      have e280 : Tg h278 a0 = 12 := ((pIT hh277).trans e270)
                                      obtain ⟨v281, e282⟩ : ∃ z, Rv h278 a0 60 = z := ⟨_, rfl⟩
                                      have t283 := ok_R O279 e280 rE_12_60 e282
                                      have l284 := ok_L O279 e280 rE_12_60 e282
                                      refine gf_R C fk_LandSurveyModel_227 rfl e280 e282 dX12_fault_250 ?_
                                      refine g_aload_n C rfl 0 rfl dX12_fault_253 ?_
                                      have e285 : Iv h278 a0 57 = v99 := ((pI_n hh277 (ne_tag e270 t273 (by decide))).trans e276)
                                      refine gf_I C fk_LandSurveyModel_477 rfl e280 e285 dX12_fault_254 ?_
                                      refine g_iload C 6 rfl dX12_fault_257 ?_
                                      refine g_iast C t283 rfl l284 (ix f109 (by decide) (by decide)) (iw f72 (by decide) (by decide)) dX12_fault_259 (fun h287 hh286 => ?_)
                                      have O288 := O279.pIa t283 ar_160100 hh286 rI_160100_0 f72 nofun
                                      refine g_aload_n C rfl 0 rfl dX12_fault_260 ?_
                                      have e289 : Tg h287 a0 = 12 := ((pIT hh286).trans e280)
                                      obtain ⟨v290, e291⟩ : ∃ z, Rv h287 a0 61 = z := ⟨_, rfl⟩
                                      have t292 := ok_R O288 e289 rE_12_61 e291
                                      have l293 := ok_L O288 e289 rE_12_61 e291
                                      refine gf_R C fk_LandSurveyModel_230 rfl e289 e291 dX12_fault_261 ?_
                                      refine g_aload_n C rfl 0 rfl dX12_fault_264 ?_
                                      have e294 : Iv h287 a0 57 = v99 := ((pI_n hh286 (ne_tag e280 t283 (by decide))).trans e285)
                                      refine gf_I C fk_LandSurveyModel_477 rfl e289 e294 dX12_fault_265 ?_
                                      refine g_iload C 7 rfl dX12_fault_268 ?_
                                      refine g_iast C t292 rfl l293 (ix f109 (by decide) (by decide)) (iw f97 (by decide) (by decide)) dX12_fault_270 (fun h296 hh295 => ?_)
                                      have O297 := O288.pIa t292 ar_161100 hh295 rI_161100_0 (iw f97 (by decide) (by decide)) nofun
                                      refine g_aload_n C rfl 0 rfl dX12_fault_271 ?_
                                      refine g_dup C rfl dX12_fault_272 ?_
                                      have e298 : Tg h296 a0 = 12 := ((pIT hh295).trans e289)
                                      have e299 : Iv h296 a0 57 = v99 := ((pI_n hh295 (ne_tag e289 t292 (by decide))).trans e294)
                                      refine gf_I C fk_LandSurveyModel_477 rfl e298 e299 dX12_fault_273 ?_
                                      refine g_iconst C dX12_fault_276 ?_
                                      have f300 : (1 : Int) ≤ (v99 + 1) ∧ (v99 + 1) ≤ (4 : Int) := ia_add f109 (il 1) (by decide) (by decide)
                                      refine g_iadd C dX12_fault_277 ?_
                                      refine gp_I C fk_LandSurveyModel_477 pk_LandSurveyModel_57 rfl e298 (iw f300 (by decide) (by decide)) (nf_i _) dX12_fault_278 (fun h302 hh301 => ?_)
                                      have O303 := O297.pI e298 hh301 rI_12_57 (iw f300 (by decide) (by decide)) nofun
                                      refine g_aload_n C rfl 0 rfl dX12_fault_281 ?_
                                      refine g_iconst C dX12_fault_282 ?_
                                      have e304 : Tg h302 a0 = 12 := ((pIT hh301).trans e298)
                                      refine gp_I C fk_LandSurveyModel_290 pk_LandSurveyModel_35 rfl e304 (iw (il 1) (by decide) (by decide)) (nar_z2 (iw (il 1) (by decide) (by decide))) dX12_fault_283 (fun h306 hh305 => ?_)
                                      have O307 := O303.pI e304 hh305 rI_12_35 (iw (il 1) (by decide) (by decide)) nofun
                                      refine g_aload_n C rfl 0 rfl dX12_fault_286 ?_
                                      have e308 : Tg h306 a0 = 12 := ((pIT hh305).trans e304)
                                      have e309 : Iv h306 a0 57 = (v99 + 1) := ((pI_j hh305 (by decide)).trans (pI_e hh301))
                                      refine gf_I C fk_LandSurveyModel_477 rfl e308 e309 dX12_fault_287 ?_
                                      refine g_iconst C dX12_fault_290 ?_
                                      have f310 : (0 : Int) ≤ ((v99 + 1) - 1) ∧ ((v99 + 1) - 1) ≤ (3 : Int) := ia_sub f300 (il 1) (by decide) (by decide)
                                      refine g_isub C dX12_fault_291 ?_
                                      exact g_iret C hr rfl (iw f310 (by decide) (by decide)) ⟨O307, ((((((((((((((Fx.rf (wr := wr_k_X12_fault)).pI ta0 hh1 rfl).call F9 rfl).call F27 rfl).call F44 rfl).call F61 rfl).call F86 rfl).call F254 rfl).call F265 rfl).pIa t273 ar_159100 hh277 rfl).pIa t283 ar_160100 hh286 rfl).pIa t292 ar_161100 hh295 rfl).pI e298 hh301 rfl).pI e304 hh305 rfl), (iw f310 (by decide) (by decide))⟩ (by decide) (by decide) dX12_fault_292
                                    · have f311 : (0 : Int) ≤ x259 ∧ x259 ≤ (11 : Int) := r_lt f266 f38 q268 (by decide) (by decide)
                                      refine g_aload_n C rfl 0 rfl dX12_fault_189 ?_
                                      have e312 : Tg h260 a0 = 12 := (fxT F265 (fxT F254 e98))
                                      obtain ⟨v313, e314⟩ : ∃ z, Rv h260 a0 58 = z := ⟨_, rfl⟩
                                      have t315 := ok_R O264 e312 rE_12_58 e314
                                      have l316 := ok_L O264 e312 rE_12_58 e314
                                      refine gf_R C fk_LandSurveyModel_221 rfl e312 e314 dX12_fault_190 ?_
                                      refine g_sipush C (by decide) dX12_fault_193 ?_
                                      refine g_aload_n C rfl 0 rfl dX12_fault_196 ?_
                                      have e317 : Tg h249 a0 = 12 := (fxT F254 e98)
                                      have e318 : Iv h260 a0 57 = v99 := ((fxI F265 e317 rfl).trans ((fxI F254 e98 rfl).trans e100))
                                      refine gf_I C fk_LandSurveyModel_477 rfl e312 e318 dX12_fault_197 ?_
                                      have f319 : (0 : Int) ≤ (192 * v99) ∧ (192 * v99) ≤ (576 : Int) := ia_mul (by decide) f109 (by decide) (by decide)
                                      refine g_imul C dX12_fault_200 ?_
                                      refine g_iload_n C rfl 3 rfl dX12_fault_201 ?_
                                      refine g_if_eq C (iw f229 (by decide) (by decide)) 217 (by decide) dX12_fault_202 (fun q320 => ?_) (fun q321 => ?_)
                                      · exact (no_eq f229 (il 0) q320 (by decide)).elim
                                      · refine g_bipush C (by decide) dX12_fault_205 ?_
                                        refine g_iload_n C rfl 2 rfl dX12_fault_207 ?_
                                        refine g_iload C 9 rfl dX12_fault_208 ?_
                                        have f322 : (0 : Int) ≤ (a2 + x259) ∧ (a2 + x259) ≤ (18 : Int) := ia_add f21 f311 (by decide) (by decide)
                                        refine g_iadd C dX12_fault_210 ?_
                                        have f323 : (0 : Int) ≤ (12 * (a2 + x259)) ∧ (12 * (a2 + x259)) ≤ (216 : Int) := ia_mul (by decide) f322 (by decide) (by decide)
                                        refine g_imul C dX12_fault_211 ?_
                                        refine g_iload_n C rfl 1 rfl dX12_fault_212 ?_
                                        have f324 : (0 : Int) ≤ ((12 * (a2 + x259)) + a1) ∧ ((12 * (a2 + x259)) + a1) ≤ (226 : Int) := ia_add f323 f238 (by decide) (by decide)
                                        refine g_iadd C dX12_fault_213 ?_
                                        refine g_goto C 229 (by decide) dX12_fault_214 ?_
                                        have f325 : (0 : Int) ≤ ((192 * v99) + ((12 * (a2 + x259)) + a1)) ∧ ((192 * v99) + ((12 * (a2 + x259)) + a1)) ≤ (802 : Int) := ia_add f319 f324 (by decide) (by decide)
                                        refine g_iadd C dX12_fault_229 ?_
                                        refine g_iconst C dX12_fault_230 ?_
                                        refine g_zast C t315 rfl l316 (by omega) (iw (il 1) (by decide) (by decide)) dX12_fault_231 (fun h327 hh326 => ?_)
                                        have O328 := O264.pIa t315 ar_158101 hh326 rI_158101_0 (iw (il 1) (by decide) (by decide)) nofun
                                        have f329 : (1 : Int) ≤ (x259 + 1) ∧ (x259 + 1) ≤ (12 : Int) := ia_add f311 (il 1) (by decide) (by decide)
                                        refine g_iinc C [(9, .inl (x259 + 1)), (0, .inr (.inr a0)), (1, .inl a1), (2, .inl a2), (3, .inl a3), (4, .inl a4), (5, .inl a5), (6, .inl a6), (7, .inl a7), (8, .inl 1)] 9 rfl (by decide) rfl dX12_fault_232 ?_
                                        refine g_goto C 182 (by decide) dX12_fault_235 ?_
                                        refine GW.sub [1, 2, 3, 4, 5, 6, 7, 8, 9, 0] rfl ?_
                                        exact ih262 _ (by omega) (x259 + 1) h327 rfl O328 (F265.pIa t315 ar_158101 hh326 rfl) (iw f329 (by decide) (by decide))
                                exact L261 _ 0 h249 rfl O253 Fx.rf (iw (il 0) (by decide) (by decide))
                              · have f330 : (0 : Int) ≤ x248 ∧ x248 ≤ (191 : Int) := r_lt f255 (il 192) q257 (by decide) (by decide)
                                refine g_aload_n C rfl 0 rfl dX12_fault_156 ?_
                                have e331 : Tg h249 a0 = 12 := (fxT F254 e98)
                                obtain ⟨v332, e333⟩ : ∃ z, Rv h249 a0 58 = z := ⟨_, rfl⟩
                                have t334 := ok_R O253 e331 rE_12_58 e333
                                have l335 := ok_L O253 e331 rE_12_58 e333
                                refine gf_R C fk_LandSurveyModel_221 rfl e331 e333 dX12_fault_157 ?_
                                refine g_sipush C (by decide) dX12_fault_160 ?_
                                refine g_aload_n C rfl 0 rfl dX12_fault_163 ?_
                                have e336 : Iv h249 a0 57 = v99 := ((fxI F254 e98 rfl).trans e100)
                                refine gf_I C fk_LandSurveyModel_477 rfl e331 e336 dX12_fault_164 ?_
                                have f337 : (0 : Int) ≤ (192 * v99) ∧ (192 * v99) ≤ (576 : Int) := ia_mul (by decide) f109 (by decide) (by decide)
                                refine g_imul C dX12_fault_167 ?_
                                refine g_iload C 9 rfl dX12_fault_168 ?_
                                have f338 : (0 : Int) ≤ ((192 * v99) + x248) ∧ ((192 * v99) + x248) ≤ (767 : Int) := ia_add f337 f330 (by decide) (by decide)
                                refine g_iadd C dX12_fault_170 ?_
                                refine g_iconst C dX12_fault_171 ?_
                                refine g_zast C t334 rfl l335 (ix f338 (by decide) (by decide)) (iw (il 0) (by decide) (by decide)) dX12_fault_172 (fun h340 hh339 => ?_)
                                have O341 := O253.pIa t334 ar_158101 hh339 rI_158101_0 (iw (il 0) (by decide) (by decide)) nofun
                                have f342 : (1 : Int) ≤ (x248 + 1) ∧ (x248 + 1) ≤ (192 : Int) := ia_add f330 (il 1) (by decide) (by decide)
                                refine g_iinc C [(9, .inl (x248 + 1)), (0, .inr (.inr a0)), (1, .inl a1), (2, .inl a2), (3, .inl a3), (4, .inl a4), (5, .inl a5), (6, .inl a6), (7, .inl a7), (8, .inl 1)] 9 rfl (by decide) rfl dX12_fault_173 ?_
                                refine g_goto C 148 (by decide) dX12_fault_176 ?_
                                refine GW.sub [1, 2, 3, 4, 5, 6, 7, 8, 9, 0] rfl ?_
                                exact ih251 _ (by omega) (x248 + 1) h340 rfl O341 (F254.pIa t334 ar_158101 hh339 rfl) (iw f342 (by decide) (by decide))
                          exact L250 _ 0 h82 rfl O85 Fx.rf (iw (il 0) (by decide) (by decide))
                        · exact (no_eq (il 1) (il 0) q247 (by decide)).elim
def wr_k_X12_allThin : List Nat := []
set_option maxRecDepth 100000 in
set_option maxHeartbeats 4000000 in
theorem k_X12_allThin (l : Launch) (D : va_G) (cy : Nat → ClassId) (w : Nat → Nat) (z0 : Nat)  {h : Hp} {a0 : Nat} {a1 : Int} {a2 : Int}  (O : Okh h) (ta0 : Tg h a0 = 12) (fa1 : 0 ≤ a1 ∧ a1 ≤ 10) (fa2 : 0 ≤ a2 ∧ a2 ≤ 10) (P_al : a2 = 0 ∨ 0 ≤ BNow h a0) : MI l D cy w z0 yX12_allThin cX12_allThin 5 (some .int) 3 63 0 0 [.inr (.inr a0), .inl a1, .inl a2] h (fun v h1 => Okh h1 ∧ Fx wr_k_X12_allThin h h1 ∧ ((-2147483648) ≤ v ∧ v ≤ 2147483647)) := by
  obtain ⟨v1, e2⟩ : ∃ z, BNow h a0 = z := ⟨_, rfl⟩
  have f3 : (-1 : Int) ≤ v1 ∧ v1 ≤ (7 : Int) := BNow_rng O ta0 e2
  rw [e2] at P_al
  refine hm_go (by decide +kernel) (Nat.le_of_ble_eq_true rfl) (fun p e s m below meth c C hr hn => ?_)
  refine g_iconst C dX12_allThin_0 ?_
  refine g_istore_n C [(3, .inl 0), (0, .inr (.inr a0)), (1, .inl a1), (2, .inl a2)] rfl (by decide) rfl dX12_allThin_1 ?_
  refine g_iload_n C rfl 2 rfl dX12_allThin_2 ?_
  refine g_istore C [(4, .inl a1), (3, .inl 0), (0, .inr (.inr a0)), (1, .inl a1), (2, .inl a2)] (by decide) rfl dX12_allThin_3 ?_
  refine GW.sub [2, 3, 4, 1, 0] rfl ?_
  -- loop at 5
  have L7 : ∀ (μ : Nat) (x4 : Int) (x5 : Int) (h6 : Hp), (10 - x5).toNat = μ → Okh h6 → Fx [] h h6 → ((-2147483648 : Int) ≤ x4 ∧ x4 ≤ (2147483647 : Int)) → ((0 : Int) ≤ x5 ∧ x5 ≤ (10 : Int)) → GW p l e (rmm 3 63 0 0) s m (List.map toV [.inr (.inr a0), .inl a1, .inl a2]).toArray below meth c D cy z0 5 (MQ below (QI D cy z0 (fun v h1 => Okh h1 ∧ Fx wr_k_X12_allThin h h1 ∧ ((-2147483648) ≤ v ∧ v ≤ 2147483647))) (List.map toV [.inr (.inr a0), .inl a1, .inl a2]).toArray s 0 0 (Aof z0)) 5 [(0, .inr (.inr a0)), (1, .inl a1), (2, .inl a2), (3, .inl x4), (4, .inl x5)] [] h6 0 0 := by
    intro μ
    induction μ using Nat.strongRecOn with
    | ind μ ih8 =>
      intro x4 x5 h6 hm9 O10 F11 f12 f13
      refine g_iload C 4 rfl dX12_allThin_5 ?_
      refine g_iload_n C rfl 2 rfl dX12_allThin_7 ?_
      refine g_icmp_ge C (iw f13 (by decide) (by decide)) (iw fa2 (by decide) (by decide)) 26 (by decide) dX12_allThin_8 (fun q14 => ?_) (fun q15 => ?_)
      · refine g_iload_n C rfl 3 rfl dX12_allThin_26 ?_
        exact g_iret C hr rfl f12 ⟨O10, ((Fx.rf (wr := wr_k_X12_allThin)).call F11 rfl), f12⟩ (by decide) (by decide) dX12_allThin_27
      · have f16 : (0 : Int) ≤ x5 ∧ x5 ≤ (9 : Int) := r_lt f13 fa2 q15 (by decide) (by decide)
        have f17 : (1 : Int) ≤ a2 ∧ a2 ≤ (10 : Int) := r_gt fa2 f13 q15 (by decide) (by decide)
        refine g_iload_n C rfl 3 rfl dX12_allThin_11 ?_
        refine g_aload_n C rfl 0 rfl dX12_allThin_12 ?_
        refine g_iload C 4 rfl dX12_allThin_13 ?_
        have e18 : Tg h6 a0 = 12 := (fxT F11 ta0)
        have p19 := ((BNow_fx O F11 ta0 rfl).trans e2)
        refine g_callI (st := [.inl x4]) (gc_V C lk_LandSurveyModel_459 (k_X12_thinOf l D cy w z0 O10 e18 f16 (by rw [p19]; omega)) e18 rfl rfl rfl ⟨by decide, by decide⟩ (Nat.le_of_ble_eq_true rfl) dX12_allThin_15 ⟨(by decide), (by decide)⟩) (fun r20 h21 f23 K22 => ?_)
        obtain ⟨O24, F25, f26⟩ := K22
        have f27 : (-2147483648 : Int) ≤ (w32 (x4 + r20)) ∧ (w32 (x4 + r20)) ≤ (2147483647 : Int) := w32_inR _
        refine g_iaddW C dX12_allThin_18 ?_
        refine g_istore_n C [(3, .inl (w32 (x4 + r20))), (0, .inr (.inr a0)), (1, .inl a1), (2, .inl a2), (4, .inl x5)] rfl (by decide) rfl dX12_allThin_19 ?_
        have f28 : (1 : Int) ≤ (x5 + 1) ∧ (x5 + 1) ≤ (10 : Int) := ia_add f16 (il 1) (by decide) (by decide)
        refine g_iinc C [(4, .inl (x5 + 1)), (3, .inl (w32 (x4 + r20))), (0, .inr (.inr a0)), (1, .inl a1), (2, .inl a2)] 4 rfl (by decide) rfl dX12_allThin_20 ?_
        refine g_goto C 5 (by decide) dX12_allThin_23 ?_
        refine GW.sub [2, 3, 4, 1, 0] rfl ?_
        exact ih8 _ (by omega) (w32 (x4 + r20)) (x5 + 1) h21 rfl O24 (F11.call F25 rfl) f27 (iw f28 (by decide) (by decide))
  exact L7 _ 0 a1 h rfl O Fx.rf (iw (il 0) (by decide) (by decide)) fa1
def wr_k_X12_mayLie : List Nat := []
set_option maxRecDepth 100000 in
set_option maxHeartbeats 4000000 in
theorem k_X12_mayLie (l : Launch) (D : va_G) (cy : Nat → ClassId) (w : Nat → Nat) (z0 : Nat)  {h : Hp} {a0 : Nat} {a1 : Int} {a2 : Int} {a3 : Int}  (O : Okh h) (ta0 : Tg h a0 = 12) (fa1 : 0 ≤ a1 ∧ a1 ≤ 15) (fa2 : 0 ≤ a2 ∧ a2 ≤ 95) (fa3 : (-2147483648) ≤ a3 ∧ a3 ≤ 2147483647) : MI l D cy w z0 yX12_mayLie cX12_mayLie 12 (some .int) 4 87 0 0 [.inr (.inr a0), .inl a1, .inl a2, .inl a3] h (fun v h1 => Okh h1 ∧ Fx wr_k_X12_mayLie h h1 ∧ ((-2147483648) ≤ v ∧ v ≤ 2147483647)) := by
  refine hm_go (by decide +kernel) (Nat.le_of_ble_eq_true rfl) (fun p e s m below meth c C hr hn => ?_)
  refine g_aload_n C rfl 0 rfl dX12_mayLie_0 ?_
  refine g_callI (st := []) (gc_V C lk_LandSurveyModel_453 (k_X12_rocksNow l D cy w z0 O ta0) ta0 rfl rfl rfl ⟨by decide, by decide⟩ (Nat.le_of_ble_eq_true rfl) dX12_mayLie_1 ⟨(by decide), (by decide)⟩) (fun r1 h2 f4 K3 => ?_)
  obtain ⟨O5, F6, f7, p8⟩ := K3
  obtain ⟨v9, e10⟩ : ∃ z, BNow h a0 = z := ⟨_, rfl⟩
  have f11 : (-1 : Int) ≤ v9 ∧ v9 ≤ (7 : Int) := BNow_rng O ta0 e10
  rw [e10] at p8
  refine g_istore C [(4, .inl r1), (0, .inr (.inr a0)), (1, .inl a1), (2, .inl a2), (3, .inl a3)] (by decide) rfl dX12_mayLie_4 ?_
  refine g_aload_n C rfl 1 rfl dX12_mayLie_6 ?_
  have e12 : Tg h2 a0 = 12 := (fxT F6 ta0)
  obtain ⟨v13, e14⟩ : ∃ z, Rv h2 a0 74 = z := ⟨_, rfl⟩
  have t15 := ok_R O5 e12 rE_12_74 e14
  have l16 := ok_L O5 e12 rE_12_74 e14
  refine gf_R C fk_LandSurveyModel_263 rfl e12 e14 dX12_mayLie_7 ?_
  refine g_iload_n C rfl 2 rfl dX12_mayLie_10 ?_
  obtain ⟨v17, e18⟩ : ∃ z, Iv h2 v13 a1.toNat = z := ⟨_, rfl⟩
  have f19 := ok_Ia O5 t15 ar_174101 rI_174101_0 e18
  refine g_zald C t15 rfl l16 (ix fa1 (by decide) (by decide)) e18 dX12_mayLie_11 ?_
  refine g_if_ne C (iw f19 (by decide) (by decide)) 30 (by decide) dX12_mayLie_12 (fun q20 => ?_) (fun q21 => ?_)
  · have f22 : (1 : Int) ≤ v17 ∧ v17 ≤ (1 : Int) := r_nl f19 q20
    refine g_aload_n C rfl 1 rfl dX12_mayLie_30 ?_
    obtain ⟨v23, e24⟩ : ∃ z, Rv h2 a0 36 = z := ⟨_, rfl⟩
    have t25 := ok_R O5 e12 rE_12_36 e24
    have l26 := ok_L O5 e12 rE_12_36 e24
    refine gf_R C fk_LandSurveyModel_161 rfl e12 e24 dX12_mayLie_31 ?_
    refine g_iload_n C rfl 3 rfl dX12_mayLie_34 ?_
    obtain ⟨v27, e28⟩ : ∃ z, Iv h2 v23 a2.toNat = z := ⟨_, rfl⟩
    have f29 := ok_Ia O5 t25 ar_136100 rI_136100_0 e28
    refine g_iald C t25 rfl l26 (ix fa2 (by decide) (by decide)) e28 dX12_mayLie_35 ?_
    refine g_iload_n C rfl 4 rfl dX12_mayLie_36 ?_
    have f30 : (-2147483648 : Int) ≤ (w32 (v27 - a3)) ∧ (w32 (v27 - a3)) ≤ (2147483647 : Int) := w32_inR _
    refine g_isubW C dX12_mayLie_37 ?_
    refine g_istore C [(5, .inl (w32 (v27 - a3))), (4, .inl r1), (0, .inr (.inr a0)), (1, .inl a1), (2, .inl a2), (3, .inl a3)] (by decide) rfl dX12_mayLie_38 ?_
    refine g_aload_n C rfl 2 rfl dX12_mayLie_40 ?_
    obtain ⟨v31, e32⟩ : ∃ z, Rv h2 a0 75 = z := ⟨_, rfl⟩
    have t33 := ok_R O5 e12 rE_12_75 e32
    have l34 := ok_L O5 e12 rE_12_75 e32
    refine gf_R C fk_LandSurveyModel_266 rfl e12 e32 dX12_mayLie_41 ?_
    refine g_bipush C (by decide) dX12_mayLie_44 ?_
    refine g_iload_n C rfl 3 rfl dX12_mayLie_46 ?_
    have f35 : (0 : Int) ≤ (96 * a1) ∧ (96 * a1) ≤ (1440 : Int) := ia_mul (by decide) fa1 (by decide) (by decide)
    refine g_imul C dX12_mayLie_47 ?_
    refine g_iload_n C rfl 4 rfl dX12_mayLie_48 ?_
    have f36 : (0 : Int) ≤ ((96 * a1) + a2) ∧ ((96 * a1) + a2) ≤ (1535 : Int) := ia_add f35 fa2 (by decide) (by decide)
    refine g_iadd C dX12_mayLie_49 ?_
    obtain ⟨v37, e38⟩ : ∃ z, Iv h2 v31 (((96 * a1) + a2).toNat) = z := ⟨_, rfl⟩
    have f39 := ok_Ia O5 t33 ar_175100 rI_175100_0 e38
    refine g_iald C t33 rfl l34 (ix f36 (by decide) (by decide)) e38 dX12_mayLie_50 ?_
    refine g_istore C [(6, .inl v37), (5, .inl (w32 (v27 - a3))), (4, .inl r1), (0, .inr (.inr a0)), (1, .inl a1), (2, .inl a2), (3, .inl a3)] (by decide) rfl dX12_mayLie_51 ?_
    refine g_aload_n C rfl 3 rfl dX12_mayLie_53 ?_
    obtain ⟨v40, e41⟩ : ∃ z, Rv h2 a0 76 = z := ⟨_, rfl⟩
    have t42 := ok_R O5 e12 rE_12_76 e41
    have l43 := ok_L O5 e12 rE_12_76 e41
    refine gf_R C fk_LandSurveyModel_269 rfl e12 e41 dX12_mayLie_54 ?_
    refine g_bipush C (by decide) dX12_mayLie_57 ?_
    refine g_iload_n C rfl 4 rfl dX12_mayLie_59 ?_
    refine g_imul C dX12_mayLie_60 ?_
    refine g_iload_n C rfl 5 rfl dX12_mayLie_61 ?_
    refine g_iadd C dX12_mayLie_62 ?_
    obtain ⟨v44, e45⟩ : ∃ z, Iv h2 v40 (((96 * a1) + a2).toNat) = z := ⟨_, rfl⟩
    have f46 := ok_Ia O5 t42 ar_176100 rI_176100_0 e45
    refine g_iald C t42 rfl l43 (ix f36 (by decide) (by decide)) e45 dX12_mayLie_63 ?_
    refine g_istore C [(7, .inl v44), (6, .inl v37), (5, .inl (w32 (v27 - a3))), (4, .inl r1), (0, .inr (.inr a0)), (1, .inl a1), (2, .inl a2), (3, .inl a3)] (by decide) rfl dX12_mayLie_64 ?_
    refine g_iload C 0 rfl dX12_mayLie_66 ?_
    refine g_iload C 2 rfl dX12_mayLie_68 ?_
    refine g_icmp_le C f46 f30 79 (by decide) dX12_mayLie_70 (fun q47 => ?_) (fun q48 => ?_)
    · refine g_iconst C dX12_mayLie_79 ?_
      refine g_iload C 2 rfl dX12_mayLie_80 ?_
      refine g_iload C 1 rfl dX12_mayLie_82 ?_
      refine g_aload_n C rfl 4 rfl dX12_mayLie_84 ?_
      refine g_iconst C dX12_mayLie_85 ?_
      refine g_iload C 3 rfl dX12_mayLie_86 ?_
      have p49 := ((BNow_fx O F6 ta0 rfl).trans e10)
      refine g_callI (st := [.inl v37, .inl (w32 (v27 - a3)), .inl 0]) (gc_V C lk_LandSurveyModel_569 (k_X12_allThin l D cy w z0 O5 e12 (iw (il 0) (by decide) (by decide)) f7 (by rw [p49]; omega)) e12 rfl rfl rfl ⟨by decide, by decide⟩ (Nat.le_of_ble_eq_true rfl) dX12_mayLie_88 ⟨(by decide), (by decide)⟩) (fun r50 h51 f53 K52 => ?_)
      obtain ⟨O54, F55, f56⟩ := K52
      have f57 : (-2147483648 : Int) ≤ (w32 (v37 + r50)) ∧ (w32 (v37 + r50)) ≤ (2147483647 : Int) := w32_inR _
      refine g_iaddW C dX12_mayLie_91 ?_
      refine g_icmp_le C f30 f57 101 (by decide) dX12_mayLie_92 (fun q58 => ?_) (fun q59 => ?_)
      · refine g_iconst C dX12_mayLie_101 ?_
        refine g_ior C dX12_mayLie_102 ?_
        have f60 : (-2147483648 : Int) ≤ (bOr 0 0) ∧ (bOr 0 0) ≤ (2147483647 : Int) := inR_of _
        refine g_istore C [(8, .inl (bOr 0 0)), (7, .inl v44), (6, .inl v37), (5, .inl (w32 (v27 - a3))), (4, .inl r1), (0, .inr (.inr a0)), (1, .inl a1), (2, .inl a2), (3, .inl a3)] (by decide) rfl dX12_mayLie_103 ?_
        refine g_iconst C dX12_mayLie_105 ?_
        refine g_istore C [(9, .inl 0), (8, .inl (bOr 0 0)), (7, .inl v44), (6, .inl v37), (5, .inl (w32 (v27 - a3))), (4, .inl r1), (0, .inr (.inr a0)), (1, .inl a1), (2, .inl a2), (3, .inl a3)] (by decide) rfl dX12_mayLie_106 ?_
        refine GW.sub [6, 7, 8, 9, 5, 4, 3, 2, 1, 0] rfl ?_
        -- loop at 108
        have L64 : ∀ (μ : Nat) (x61 : Int) (x62 : Int) (h63 : Hp), (10 - x62).toNat = μ → Okh h63 → Fx [] h51 h63 → ((-2147483648 : Int) ≤ x61 ∧ x61 ≤ (2147483647 : Int)) → ((0 : Int) ≤ x62 ∧ x62 ≤ (10 : Int)) → GW p l e (rmm 4 87 0 0) s m (List.map toV [.inr (.inr a0), .inl a1, .inl a2, .inl a3]).toArray below meth c D cy z0 12 (MQ below (QI D cy z0 (fun v h1 => Okh h1 ∧ Fx wr_k_X12_mayLie h h1 ∧ ((-2147483648) ≤ v ∧ v ≤ 2147483647))) (List.map toV [.inr (.inr a0), .inl a1, .inl a2, .inl a3]).toArray s 0 0 (Aof z0)) 108 [(0, .inr (.inr a0)), (1, .inl a1), (2, .inl a2), (3, .inl a3), (4, .inl r1), (5, .inl (w32 (v27 - a3))), (6, .inl v37), (7, .inl v44), (8, .inl x61), (9, .inl x62)] [] h63 0 0 := by
          intro μ
          induction μ using Nat.strongRecOn with
          | ind μ ih65 =>
            intro x61 x62 h63 hm66 O67 F68 f69 f70
            refine g_iload C 9 rfl dX12_mayLie_108 ?_
            refine g_iload C 4 rfl dX12_mayLie_110 ?_
            refine g_icmp_ge C (iw f70 (by decide) (by decide)) (iw f7 (by decide) (by decide)) 196 (by decide) dX12_mayLie_112 (fun q71 => ?_) (fun q72 => ?_)
            · refine g_iload C 8 rfl dX12_mayLie_196 ?_
              exact g_iret C hr rfl f69 ⟨O67, ((((Fx.rf (wr := wr_k_X12_mayLie)).call F6 rfl).call F55 rfl).call F68 rfl), f69⟩ (by decide) (by decide) dX12_mayLie_198
            · have f73 : (0 : Int) ≤ x62 ∧ x62 ≤ (9 : Int) := r_lt f70 f7 q72 (by decide) (by decide)
              have f74 : (1 : Int) ≤ r1 ∧ r1 ≤ (10 : Int) := r_gt f7 f70 q72 (by decide) (by decide)
              refine g_iload C 5 rfl dX12_mayLie_115 ?_
              refine g_aload_n C rfl 0 rfl dX12_mayLie_117 ?_
              refine g_iload C 9 rfl dX12_mayLie_118 ?_
              refine g_iload_n C rfl 2 rfl dX12_mayLie_120 ?_
              have e75 : Tg h63 a0 = 12 := (fxT F68 (fxT F55 e12))
              refine g_callI (st := [.inl (w32 (v27 - a3))]) (gc_V C lk_LandSurveyModel_468 (k_X12_underHigh l D cy w z0 O67 e75 (iw f73 (by decide) (by decide)) fa2) e75 rfl rfl rfl ⟨by decide, by decide⟩ (Nat.le_of_ble_eq_true rfl) dX12_mayLie_121 ⟨(by decide), (by decide)⟩) (fun r76 h77 f79 K78 => ?_)
              obtain ⟨O80, F81, f82⟩ := K78
              have f83 : (-2147483648 : Int) ≤ (w32 ((w32 (v27 - a3)) - r76)) ∧ (w32 ((w32 (v27 - a3)) - r76)) ≤ (2147483647 : Int) := w32_inR _
              refine g_isubW C dX12_mayLie_124 ?_
              refine g_aload_n C rfl 0 rfl dX12_mayLie_125 ?_
              refine g_iload C 9 rfl dX12_mayLie_126 ?_
              have e84 : Tg h77 a0 = 12 := (fxT F81 e75)
              have e85 : Tg h51 a0 = 12 := (fxT F55 e12)
              have p86 := ((BNow_fx O67 F81 e75 rfl).trans ((BNow_fx O54 F68 e85 rfl).trans ((BNow_fx O5 F55 e12 rfl).trans p49)))
              refine g_callI (st := [.inl (w32 ((w32 (v27 - a3)) - r76))]) (gc_V C lk_LandSurveyModel_462 (k_X12_thickOf l D cy w z0 O80 e84 f73 (by rw [p86]; omega)) e84 rfl rfl rfl ⟨by decide, by decide⟩ (Nat.le_of_ble_eq_true rfl) dX12_mayLie_128 ⟨(by decide), (by decide)⟩) (fun r87 h88 f90 K89 => ?_)
              obtain ⟨O91, F92, f93⟩ := K89
              have f94 : (-2147483648 : Int) ≤ (w32 ((w32 ((w32 (v27 - a3)) - r76)) - r87)) ∧ (w32 ((w32 ((w32 (v27 - a3)) - r76)) - r87)) ≤ (2147483647 : Int) := w32_inR _
              refine g_isubW C dX12_mayLie_131 ?_
              refine g_istore C [(10, .inl (w32 ((w32 ((w32 (v27 - a3)) - r76)) - r87))), (0, .inr (.inr a0)), (1, .inl a1), (2, .inl a2), (3, .inl a3), (4, .inl r1), (5, .inl (w32 (v27 - a3))), (6, .inl v37), (7, .inl v44), (8, .inl x61), (9, .inl x62)] (by decide) rfl dX12_mayLie_132 ?_
              refine g_iload C 6 rfl dX12_mayLie_134 ?_
              refine g_aload_n C rfl 1 rfl dX12_mayLie_136 ?_
              refine g_iload C 10 rfl dX12_mayLie_137 ?_
              refine g_iload_n C rfl 3 rfl dX12_mayLie_139 ?_
              have e95 : Tg h88 a0 = 12 := (fxT F92 e84)
              refine g_callI (st := [.inl (w32 (v27 - a3))]) (gc_V C lk_LandSurveyModel_471 (k_X12_underLow l D cy w z0 O91 e95 (iw f73 (by decide) (by decide)) fa2) e95 rfl rfl rfl ⟨by decide, by decide⟩ (Nat.le_of_ble_eq_true rfl) dX12_mayLie_140 ⟨(by decide), (by decide)⟩) (fun r96 h97 f99 K98 => ?_)
              obtain ⟨O100, F101, f102⟩ := K98
              have f103 : (-2147483648 : Int) ≤ (w32 ((w32 (v27 - a3)) - r96)) ∧ (w32 ((w32 (v27 - a3)) - r96)) ≤ (2147483647 : Int) := w32_inR _
              refine g_isubW C dX12_mayLie_143 ?_
              refine g_istore C [(11, .inl (w32 ((w32 (v27 - a3)) - r96))), (10, .inl (w32 ((w32 ((w32 (v27 - a3)) - r76)) - r87))), (0, .inr (.inr a0)), (1, .inl a1), (2, .inl a2), (3, .inl a3), (4, .inl r1), (5, .inl (w32 (v27 - a3))), (6, .inl v37), (7, .inl v44), (8, .inl x61), (9, .inl x62)] (by decide) rfl dX12_mayLie_144 ?_
              refine g_iload C 10 rfl dX12_mayLie_146 ?_
              refine g_iload C 1 rfl dX12_mayLie_148 ?_
              refine g_iload C 8 rfl dX12_mayLie_150 ?_
              refine g_icmp_le C f94 f39 160 (by decide) dX12_mayLie_152 (fun q104 => ?_) (fun q105 => ?_)
              · refine g_iload C 8 rfl dX12_mayLie_160 ?_
                refine g_iload C 0 rfl dX12_mayLie_162 ?_
                refine g_iload C 9 rfl dX12_mayLie_164 ?_
                refine g_icmp_ge C f103 f46 174 (by decide) dX12_mayLie_166 (fun q106 => ?_) (fun q107 => ?_)
                · refine g_iload C 9 rfl dX12_mayLie_174 ?_
                  refine g_icmp_gt C f39 f46 186 (by decide) dX12_mayLie_176 (fun q108 => ?_) (fun q109 => ?_)
                  · have f110 : (-2147483648 : Int) ≤ v44 ∧ v44 ≤ (2147483646 : Int) := r_lt f46 f39 q108 (by decide) (by decide)
                    have f111 : (-2147483647 : Int) ≤ v37 ∧ v37 ≤ (2147483647 : Int) := r_gt f39 f46 q108 (by decide) (by decide)
                    refine g_iconst C dX12_mayLie_186 ?_
                    refine g_ior C dX12_mayLie_187 ?_
                    have f112 : (-2147483648 : Int) ≤ (bOr x61 0) ∧ (bOr x61 0) ≤ (2147483647 : Int) := inR_of _
                    refine g_istore C [(8, .inl (bOr x61 0)), (11, .inl (w32 ((w32 (v27 - a3)) - r96))), (10, .inl (w32 ((w32 ((w32 (v27 - a3)) - r76)) - r87))), (0, .inr (.inr a0)), (1, .inl a1), (2, .inl a2), (3, .inl a3), (4, .inl r1), (5, .inl (w32 (v27 - a3))), (6, .inl v37), (7, .inl v44), (9, .inl x62)] (by decide) rfl dX12_mayLie_188 ?_
                    have f113 : (1 : Int) ≤ (x62 + 1) ∧ (x62 + 1) ≤ (10 : Int) := ia_add f73 (il 1) (by decide) (by decide)
                    refine g_iinc C [(9, .inl (x62 + 1)), (8, .inl (bOr x61 0)), (11, .inl (w32 ((w32 (v27 - a3)) - r96))), (10, .inl (w32 ((w32 ((w32 (v27 - a3)) - r76)) - r87))), (0, .inr (.inr a0)), (1, .inl a1), (2, .inl a2), (3, .inl a3), (4, .inl r1), (5, .inl (w32 (v27 - a3))), (6, .inl v37), (7, .inl v44)] 11 rfl (by decide) rfl dX12_mayLie_190 ?_
                    refine g_goto C 108 (by decide) dX12_mayLie_193 ?_
                    refine GW.sub [4, 5, 6, 7, 8, 9, 10, 11, 1, 0] rfl ?_
                    exact ih65 _ (by omega) (bOr x61 0) (x62 + 1) h97 rfl O100 (((F68.call F81 rfl).call F92 rfl).call F101 rfl) f112 (iw f113 (by decide) (by decide))
                  · refine g_iconst C dX12_mayLie_179 ?_
                    refine g_iload C 11 rfl dX12_mayLie_180 ?_
                    refine g_ishl C dX12_mayLie_182 ?_
                    have f114 : (-2147483648 : Int) ≤ (bShl 1 x62) ∧ (bShl 1 x62) ≤ (2147483647 : Int) := inR_of _
                    refine g_goto C 187 (by decide) dX12_mayLie_183 ?_
                    refine g_ior C dX12_mayLie_187 ?_
                    have f115 : (-2147483648 : Int) ≤ (bOr x61 (bShl 1 x62)) ∧ (bOr x61 (bShl 1 x62)) ≤ (2147483647 : Int) := inR_of _
                    refine g_istore C [(8, .inl (bOr x61 (bShl 1 x62))), (11, .inl (w32 ((w32 (v27 - a3)) - r96))), (10, .inl (w32 ((w32 ((w32 (v27 - a3)) - r76)) - r87))), (0, .inr (.inr a0)), (1, .inl a1), (2, .inl a2), (3, .inl a3), (4, .inl r1), (5, .inl (w32 (v27 - a3))), (6, .inl v37), (7, .inl v44), (9, .inl x62)] (by decide) rfl dX12_mayLie_188 ?_
                    have f116 : (1 : Int) ≤ (x62 + 1) ∧ (x62 + 1) ≤ (10 : Int) := ia_add f73 (il 1) (by decide) (by decide)
                    refine g_iinc C [(9, .inl (x62 + 1)), (8, .inl (bOr x61 (bShl 1 x62))), (11, .inl (w32 ((w32 (v27 - a3)) - r96))), (10, .inl (w32 ((w32 ((w32 (v27 - a3)) - r76)) - r87))), (0, .inr (.inr a0)), (1, .inl a1), (2, .inl a2), (3, .inl a3), (4, .inl r1), (5, .inl (w32 (v27 - a3))), (6, .inl v37), (7, .inl v44)] 11 rfl (by decide) rfl dX12_mayLie_190 ?_
                    refine g_goto C 108 (by decide) dX12_mayLie_193 ?_
                    refine GW.sub [4, 5, 6, 7, 8, 9, 10, 11, 1, 0] rfl ?_
                    exact ih65 _ (by omega) (bOr x61 (bShl 1 x62)) (x62 + 1) h97 rfl O100 (((F68.call F81 rfl).call F92 rfl).call F101 rfl) f115 (iw f116 (by decide) (by decide))
                · have f117 : (-2147483648 : Int) ≤ (w32 ((w32 (v27 - a3)) - r96)) ∧ (w32 ((w32 (v27 - a3)) - r96)) ≤ (2147483646 : Int) := r_lt f103 f46 q107 (by decide) (by decide)
                  have f118 : (-2147483647 : Int) ≤ v44 ∧ v44 ≤ (2147483647 : Int) := r_gt f46 f103 q107 (by decide) (by decide)
                  refine g_iload C 0 rfl dX12_mayLie_169 ?_
                  refine g_goto C 176 (by decide) dX12_mayLie_171 ?_
                  refine g_icmp_gt C f39 (iw f117 (by decide) (by decide)) 186 (by decide) dX12_mayLie_176 (fun q119 => ?_) (fun q120 => ?_)
                  · have f121 : (-2147483647 : Int) ≤ v37 ∧ v37 ≤ (2147483647 : Int) := r_gt f39 f117 q119 (by decide) (by decide)
                    refine g_iconst C dX12_mayLie_186 ?_
                    refine g_ior C dX12_mayLie_187 ?_
                    have f122 : (-2147483648 : Int) ≤ (bOr x61 0) ∧ (bOr x61 0) ≤ (2147483647 : Int) := inR_of _
                    refine g_istore C [(8, .inl (bOr x61 0)), (11, .inl (w32 ((w32 (v27 - a3)) - r96))), (10, .inl (w32 ((w32 ((w32 (v27 - a3)) - r76)) - r87))), (0, .inr (.inr a0)), (1, .inl a1), (2, .inl a2), (3, .inl a3), (4, .inl r1), (5, .inl (w32 (v27 - a3))), (6, .inl v37), (7, .inl v44), (9, .inl x62)] (by decide) rfl dX12_mayLie_188 ?_
                    have f123 : (1 : Int) ≤ (x62 + 1) ∧ (x62 + 1) ≤ (10 : Int) := ia_add f73 (il 1) (by decide) (by decide)
                    refine g_iinc C [(9, .inl (x62 + 1)), (8, .inl (bOr x61 0)), (11, .inl (w32 ((w32 (v27 - a3)) - r96))), (10, .inl (w32 ((w32 ((w32 (v27 - a3)) - r76)) - r87))), (0, .inr (.inr a0)), (1, .inl a1), (2, .inl a2), (3, .inl a3), (4, .inl r1), (5, .inl (w32 (v27 - a3))), (6, .inl v37), (7, .inl v44)] 11 rfl (by decide) rfl dX12_mayLie_190 ?_
                    refine g_goto C 108 (by decide) dX12_mayLie_193 ?_
                    refine GW.sub [4, 5, 6, 7, 8, 9, 10, 11, 1, 0] rfl ?_
                    exact ih65 _ (by omega) (bOr x61 0) (x62 + 1) h97 rfl O100 (((F68.call F81 rfl).call F92 rfl).call F101 rfl) f122 (iw f123 (by decide) (by decide))
                  · have f124 : (-2147483648 : Int) ≤ v37 ∧ v37 ≤ (2147483646 : Int) := r_le f39 f117 q120 (by decide) (by decide)
                    refine g_iconst C dX12_mayLie_179 ?_
                    refine g_iload C 11 rfl dX12_mayLie_180 ?_
                    refine g_ishl C dX12_mayLie_182 ?_
                    have f125 : (-2147483648 : Int) ≤ (bShl 1 x62) ∧ (bShl 1 x62) ≤ (2147483647 : Int) := inR_of _
                    refine g_goto C 187 (by decide) dX12_mayLie_183 ?_
                    refine g_ior C dX12_mayLie_187 ?_
                    have f126 : (-2147483648 : Int) ≤ (bOr x61 (bShl 1 x62)) ∧ (bOr x61 (bShl 1 x62)) ≤ (2147483647 : Int) := inR_of _
                    refine g_istore C [(8, .inl (bOr x61 (bShl 1 x62))), (11, .inl (w32 ((w32 (v27 - a3)) - r96))), (10, .inl (w32 ((w32 ((w32 (v27 - a3)) - r76)) - r87))), (0, .inr (.inr a0)), (1, .inl a1), (2, .inl a2), (3, .inl a3), (4, .inl r1), (5, .inl (w32 (v27 - a3))), (6, .inl v37), (7, .inl v44), (9, .inl x62)] (by decide) rfl dX12_mayLie_188 ?_
                    have f127 : (1 : Int) ≤ (x62 + 1) ∧ (x62 + 1) ≤ (10 : Int) := ia_add f73 (il 1) (by decide) (by decide)
                    refine g_iinc C [(9, .inl (x62 + 1)), (8, .inl (bOr x61 (bShl 1 x62))), (11, .inl (w32 ((w32 (v27 - a3)) - r96))), (10, .inl (w32 ((w32 ((w32 (v27 - a3)) - r76)) - r87))), (0, .inr (.inr a0)), (1, .inl a1), (2, .inl a2), (3, .inl a3), (4, .inl r1), (5, .inl (w32 (v27 - a3))), (6, .inl v37), (7, .inl v44)] 11 rfl (by decide) rfl dX12_mayLie_190 ?_
                    refine g_goto C 108 (by decide) dX12_mayLie_193 ?_
                    refine GW.sub [4, 5, 6, 7, 8, 9, 10, 11, 1, 0] rfl ?_
                    exact ih65 _ (by omega) (bOr x61 (bShl 1 x62)) (x62 + 1) h97 rfl O100 (((F68.call F81 rfl).call F92 rfl).call F101 rfl) f126 (iw f127 (by decide) (by decide))
              · have f128 : (-2147483648 : Int) ≤ v37 ∧ v37 ≤ (2147483646 : Int) := r_lt f39 f94 q105 (by decide) (by decide)
                have f129 : (-2147483647 : Int) ≤ (w32 ((w32 ((w32 (v27 - a3)) - r76)) - r87)) ∧ (w32 ((w32 ((w32 (v27 - a3)) - r76)) - r87)) ≤ (2147483647 : Int) := r_gt f94 f39 q105 (by decide) (by decide)
                refine g_iload C 1 rfl dX12_mayLie_155 ?_
                refine g_goto C 162 (by decide) dX12_mayLie_157 ?_
                refine g_iload C 0 rfl dX12_mayLie_162 ?_
                refine g_iload C 9 rfl dX12_mayLie_164 ?_
                refine g_icmp_ge C f103 f46 174 (by decide) dX12_mayLie_166 (fun q130 => ?_) (fun q131 => ?_)
                · refine g_iload C 9 rfl dX12_mayLie_174 ?_
                  refine g_icmp_gt C (iw f129 (by decide) (by decide)) f46 186 (by decide) dX12_mayLie_176 (fun q132 => ?_) (fun q133 => ?_)
                  · have f134 : (-2147483648 : Int) ≤ v44 ∧ v44 ≤ (2147483646 : Int) := r_lt f46 f129 q132 (by decide) (by decide)
                    refine g_iconst C dX12_mayLie_186 ?_
                    refine g_ior C dX12_mayLie_187 ?_
                    have f135 : (-2147483648 : Int) ≤ (bOr x61 0) ∧ (bOr x61 0) ≤ (2147483647 : Int) := inR_of _
                    refine g_istore C [(8, .inl (bOr x61 0)), (11, .inl (w32 ((w32 (v27 - a3)) - r96))), (10, .inl (w32 ((w32 ((w32 (v27 - a3)) - r76)) - r87))), (0, .inr (.inr a0)), (1, .inl a1), (2, .inl a2), (3, .inl a3), (4, .inl r1), (5, .inl (w32 (v27 - a3))), (6, .inl v37), (7, .inl v44), (9, .inl x62)] (by decide) rfl dX12_mayLie_188 ?_
                    have f136 : (1 : Int) ≤ (x62 + 1) ∧ (x62 + 1) ≤ (10 : Int) := ia_add f73 (il 1) (by decide) (by decide)
                    refine g_iinc C [(9, .inl (x62 + 1)), (8, .inl (bOr x61 0)), (11, .inl (w32 ((w32 (v27 - a3)) - r96))), (10, .inl (w32 ((w32 ((w32 (v27 - a3)) - r76)) - r87))), (0, .inr (.inr a0)), (1, .inl a1), (2, .inl a2), (3, .inl a3), (4, .inl r1), (5, .inl (w32 (v27 - a3))), (6, .inl v37), (7, .inl v44)] 11 rfl (by decide) rfl dX12_mayLie_190 ?_
                    refine g_goto C 108 (by decide) dX12_mayLie_193 ?_
                    refine GW.sub [4, 5, 6, 7, 8, 9, 10, 11, 1, 0] rfl ?_
                    exact ih65 _ (by omega) (bOr x61 0) (x62 + 1) h97 rfl O100 (((F68.call F81 rfl).call F92 rfl).call F101 rfl) f135 (iw f136 (by decide) (by decide))
                  · have f137 : (-2147483647 : Int) ≤ v44 ∧ v44 ≤ (2147483647 : Int) := r_ge f46 f129 q133 (by decide) (by decide)
                    refine g_iconst C dX12_mayLie_179 ?_
                    refine g_iload C 11 rfl dX12_mayLie_180 ?_
                    refine g_ishl C dX12_mayLie_182 ?_
                    have f138 : (-2147483648 : Int) ≤ (bShl 1 x62) ∧ (bShl 1 x62) ≤ (2147483647 : Int) := inR_of _
                    refine g_goto C 187 (by decide) dX12_mayLie_183 ?_
                    refine g_ior C dX12_mayLie_187 ?_
                    have f139 : (-2147483648 : Int) ≤ (bOr x61 (bShl 1 x62)) ∧ (bOr x61 (bShl 1 x62)) ≤ (2147483647 : Int) := inR_of _
                    refine g_istore C [(8, .inl (bOr x61 (bShl 1 x62))), (11, .inl (w32 ((w32 (v27 - a3)) - r96))), (10, .inl (w32 ((w32 ((w32 (v27 - a3)) - r76)) - r87))), (0, .inr (.inr a0)), (1, .inl a1), (2, .inl a2), (3, .inl a3), (4, .inl r1), (5, .inl (w32 (v27 - a3))), (6, .inl v37), (7, .inl v44), (9, .inl x62)] (by decide) rfl dX12_mayLie_188 ?_
                    have f140 : (1 : Int) ≤ (x62 + 1) ∧ (x62 + 1) ≤ (10 : Int) := ia_add f73 (il 1) (by decide) (by decide)
                    refine g_iinc C [(9, .inl (x62 + 1)), (8, .inl (bOr x61 (bShl 1 x62))), (11, .inl (w32 ((w32 (v27 - a3)) - r96))), (10, .inl (w32 ((w32 ((w32 (v27 - a3)) - r76)) - r87))), (0, .inr (.inr a0)), (1, .inl a1), (2, .inl a2), (3, .inl a3), (4, .inl r1), (5, .inl (w32 (v27 - a3))), (6, .inl v37), (7, .inl v44)] 11 rfl (by decide) rfl dX12_mayLie_190 ?_
                    refine g_goto C 108 (by decide) dX12_mayLie_193 ?_
                    refine GW.sub [4, 5, 6, 7, 8, 9, 10, 11, 1, 0] rfl ?_
                    exact ih65 _ (by omega) (bOr x61 (bShl 1 x62)) (x62 + 1) h97 rfl O100 (((F68.call F81 rfl).call F92 rfl).call F101 rfl) f139 (iw f140 (by decide) (by decide))
                · have f141 : (-2147483648 : Int) ≤ (w32 ((w32 (v27 - a3)) - r96)) ∧ (w32 ((w32 (v27 - a3)) - r96)) ≤ (2147483646 : Int) := r_lt f103 f46 q131 (by decide) (by decide)
                  have f142 : (-2147483647 : Int) ≤ v44 ∧ v44 ≤ (2147483647 : Int) := r_gt f46 f103 q131 (by decide) (by decide)
                  refine g_iload C 0 rfl dX12_mayLie_169 ?_
                  refine g_goto C 176 (by decide) dX12_mayLie_171 ?_
                  refine g_icmp_gt C (iw f129 (by decide) (by decide)) (iw f141 (by decide) (by decide)) 186 (by decide) dX12_mayLie_176 (fun q143 => ?_) (fun q144 => ?_)
                  · refine g_iconst C dX12_mayLie_186 ?_
                    refine g_ior C dX12_mayLie_187 ?_
                    have f145 : (-2147483648 : Int) ≤ (bOr x61 0) ∧ (bOr x61 0) ≤ (2147483647 : Int) := inR_of _
                    refine g_istore C [(8, .inl (bOr x61 0)), (11, .inl (w32 ((w32 (v27 - a3)) - r96))), (10, .inl (w32 ((w32 ((w32 (v27 - a3)) - r76)) - r87))), (0, .inr (.inr a0)), (1, .inl a1), (2, .inl a2), (3, .inl a3), (4, .inl r1), (5, .inl (w32 (v27 - a3))), (6, .inl v37), (7, .inl v44), (9, .inl x62)] (by decide) rfl dX12_mayLie_188 ?_
                    have f146 : (1 : Int) ≤ (x62 + 1) ∧ (x62 + 1) ≤ (10 : Int) := ia_add f73 (il 1) (by decide) (by decide)
                    refine g_iinc C [(9, .inl (x62 + 1)), (8, .inl (bOr x61 0)), (11, .inl (w32 ((w32 (v27 - a3)) - r96))), (10, .inl (w32 ((w32 ((w32 (v27 - a3)) - r76)) - r87))), (0, .inr (.inr a0)), (1, .inl a1), (2, .inl a2), (3, .inl a3), (4, .inl r1), (5, .inl (w32 (v27 - a3))), (6, .inl v37), (7, .inl v44)] 11 rfl (by decide) rfl dX12_mayLie_190 ?_
                    refine g_goto C 108 (by decide) dX12_mayLie_193 ?_
                    refine GW.sub [4, 5, 6, 7, 8, 9, 10, 11, 1, 0] rfl ?_
                    exact ih65 _ (by omega) (bOr x61 0) (x62 + 1) h97 rfl O100 (((F68.call F81 rfl).call F92 rfl).call F101 rfl) f145 (iw f146 (by decide) (by decide))
                  · have f147 : (-2147483647 : Int) ≤ (w32 ((w32 ((w32 (v27 - a3)) - r76)) - r87)) ∧ (w32 ((w32 ((w32 (v27 - a3)) - r76)) - r87)) ≤ (2147483646 : Int) := r_le f129 f141 q144 (by decide) (by decide)
                    have f148 : (-2147483647 : Int) ≤ (w32 ((w32 (v27 - a3)) - r96)) ∧ (w32 ((w32 (v27 - a3)) - r96)) ≤ (2147483646 : Int) := r_ge f141 f129 q144 (by decide) (by decide)
                    refine g_iconst C dX12_mayLie_179 ?_
                    refine g_iload C 11 rfl dX12_mayLie_180 ?_
                    refine g_ishl C dX12_mayLie_182 ?_
                    have f149 : (-2147483648 : Int) ≤ (bShl 1 x62) ∧ (bShl 1 x62) ≤ (2147483647 : Int) := inR_of _
                    refine g_goto C 187 (by decide) dX12_mayLie_183 ?_
                    refine g_ior C dX12_mayLie_187 ?_
                    have f150 : (-2147483648 : Int) ≤ (bOr x61 (bShl 1 x62)) ∧ (bOr x61 (bShl 1 x62)) ≤ (2147483647 : Int) := inR_of _
                    refine g_istore C [(8, .inl (bOr x61 (bShl 1 x62))), (11, .inl (w32 ((w32 (v27 - a3)) - r96))), (10, .inl (w32 ((w32 ((w32 (v27 - a3)) - r76)) - r87))), (0, .inr (.inr a0)), (1, .inl a1), (2, .inl a2), (3, .inl a3), (4, .inl r1), (5, .inl (w32 (v27 - a3))), (6, .inl v37), (7, .inl v44), (9, .inl x62)] (by decide) rfl dX12_mayLie_188 ?_
                    have f151 : (1 : Int) ≤ (x62 + 1) ∧ (x62 + 1) ≤ (10 : Int) := ia_add f73 (il 1) (by decide) (by decide)
                    refine g_iinc C [(9, .inl (x62 + 1)), (8, .inl (bOr x61 (bShl 1 x62))), (11, .inl (w32 ((w32 (v27 - a3)) - r96))), (10, .inl (w32 ((w32 ((w32 (v27 - a3)) - r76)) - r87))), (0, .inr (.inr a0)), (1, .inl a1), (2, .inl a2), (3, .inl a3), (4, .inl r1), (5, .inl (w32 (v27 - a3))), (6, .inl v37), (7, .inl v44)] 11 rfl (by decide) rfl dX12_mayLie_190 ?_
                    refine g_goto C 108 (by decide) dX12_mayLie_193 ?_
                    refine GW.sub [4, 5, 6, 7, 8, 9, 10, 11, 1, 0] rfl ?_
                    exact ih65 _ (by omega) (bOr x61 (bShl 1 x62)) (x62 + 1) h97 rfl O100 (((F68.call F81 rfl).call F92 rfl).call F101 rfl) f150 (iw f151 (by decide) (by decide))
        exact L64 _ (bOr 0 0) 0 h51 rfl O54 Fx.rf f60 (iw (il 0) (by decide) (by decide))
      · have f152 : (-2147483648 : Int) ≤ (w32 (v37 + r50)) ∧ (w32 (v37 + r50)) ≤ (2147483646 : Int) := r_lt f57 f30 q59 (by decide) (by decide)
        have f153 : (-2147483647 : Int) ≤ (w32 (v27 - a3)) ∧ (w32 (v27 - a3)) ≤ (2147483647 : Int) := r_gt f30 f57 q59 (by decide) (by decide)
        refine g_sipush C (by decide) dX12_mayLie_95 ?_
        refine g_goto C 102 (by decide) dX12_mayLie_98 ?_
        refine g_ior C dX12_mayLie_102 ?_
        have f154 : (-2147483648 : Int) ≤ (bOr 0 2048) ∧ (bOr 0 2048) ≤ (2147483647 : Int) := inR_of _
        refine g_istore C [(8, .inl (bOr 0 2048)), (7, .inl v44), (6, .inl v37), (5, .inl (w32 (v27 - a3))), (4, .inl r1), (0, .inr (.inr a0)), (1, .inl a1), (2, .inl a2), (3, .inl a3)] (by decide) rfl dX12_mayLie_103 ?_
        refine g_iconst C dX12_mayLie_105 ?_
        refine g_istore C [(9, .inl 0), (8, .inl (bOr 0 2048)), (7, .inl v44), (6, .inl v37), (5, .inl (w32 (v27 - a3))), (4, .inl r1), (0, .inr (.inr a0)), (1, .inl a1), (2, .inl a2), (3, .inl a3)] (by decide) rfl dX12_mayLie_106 ?_
        refine GW.sub [6, 7, 8, 9, 5, 4, 3, 2, 1, 0] rfl ?_
        -- loop at 108
        have L158 : ∀ (μ : Nat) (x155 : Int) (x156 : Int) (h157 : Hp), (10 - x156).toNat = μ → Okh h157 → Fx [] h51 h157 → ((-2147483648 : Int) ≤ x155 ∧ x155 ≤ (2147483647 : Int)) → ((0 : Int) ≤ x156 ∧ x156 ≤ (10 : Int)) → GW p l e (rmm 4 87 0 0) s m (List.map toV [.inr (.inr a0), .inl a1, .inl a2, .inl a3]).toArray below meth c D cy z0 12 (MQ below (QI D cy z0 (fun v h1 => Okh h1 ∧ Fx wr_k_X12_mayLie h h1 ∧ ((-2147483648) ≤ v ∧ v ≤ 2147483647))) (List.map toV [.inr (.inr a0), .inl a1, .inl a2, .inl a3]).toArray s 0 0 (Aof z0)) 108 [(0, .inr (.inr a0)), (1, .inl a1), (2, .inl a2), (3, .inl a3), (4, .inl r1), (5, .inl (w32 (v27 - a3))), (6, .inl v37), (7, .inl v44), (8, .inl x155), (9, .inl x156)] [] h157 0 0 := by
          intro μ
          induction μ using Nat.strongRecOn with
          | ind μ ih159 =>
            intro x155 x156 h157 hm160 O161 F162 f163 f164
            refine g_iload C 9 rfl dX12_mayLie_108 ?_
            refine g_iload C 4 rfl dX12_mayLie_110 ?_
            refine g_icmp_ge C (iw f164 (by decide) (by decide)) (iw f7 (by decide) (by decide)) 196 (by decide) dX12_mayLie_112 (fun q165 => ?_) (fun q166 => ?_)
            · refine g_iload C 8 rfl dX12_mayLie_196 ?_
              exact g_iret C hr rfl f163 ⟨O161, ((((Fx.rf (wr := wr_k_X12_mayLie)).call F6 rfl).call F55 rfl).call F162 rfl), f163⟩ (by decide) (by decide) dX12_mayLie_198
            · have f167 : (0 : Int) ≤ x156 ∧ x156 ≤ (9 : Int) := r_lt f164 f7 q166 (by decide) (by decide)
              have f168 : (1 : Int) ≤ r1 ∧ r1 ≤ (10 : Int) := r_gt f7 f164 q166 (by decide) (by decide)
              refine g_iload C 5 rfl dX12_mayLie_115 ?_
              refine g_aload_n C rfl 0 rfl dX12_mayLie_117 ?_
              refine g_iload C 9 rfl dX12_mayLie_118 ?_
              refine g_iload_n C rfl 2 rfl dX12_mayLie_120 ?_
              have e169 : Tg h157 a0 = 12 := (fxT F162 (fxT F55 e12))
              refine g_callI (st := [.inl (w32 (v27 - a3))]) (gc_V C lk_LandSurveyModel_468 (k_X12_underHigh l D cy w z0 O161 e169 (iw f167 (by decide) (by decide)) fa2) e169 rfl rfl rfl ⟨by decide, by decide⟩ (Nat.le_of_ble_eq_true rfl) dX12_mayLie_121 ⟨(by decide), (by decide)⟩) (fun r170 h171 f173 K172 => ?_)
              obtain ⟨O174, F175, f176⟩ := K172
              have f177 : (-2147483648 : Int) ≤ (w32 ((w32 (v27 - a3)) - r170)) ∧ (w32 ((w32 (v27 - a3)) - r170)) ≤ (2147483647 : Int) := w32_inR _
              refine g_isubW C dX12_mayLie_124 ?_
              refine g_aload_n C rfl 0 rfl dX12_mayLie_125 ?_
              refine g_iload C 9 rfl dX12_mayLie_126 ?_
              have e178 : Tg h171 a0 = 12 := (fxT F175 e169)
              have e179 : Tg h51 a0 = 12 := (fxT F55 e12)
              have p180 := ((BNow_fx O161 F175 e169 rfl).trans ((BNow_fx O54 F162 e179 rfl).trans ((BNow_fx O5 F55 e12 rfl).trans p49)))
              refine g_callI (st := [.inl (w32 ((w32 (v27 - a3)) - r170))]) (gc_V C lk_LandSurveyModel_462 (k_X12_thickOf l D cy w z0 O174 e178 f167 (by rw [p180]; omega)) e178 rfl rfl rfl ⟨by decide, by decide⟩ (Nat.le_of_ble_eq_true rfl) dX12_mayLie_128 ⟨(by decide), (by decide)⟩) (fun r181 h182 f184 K183 => ?_)
              obtain ⟨O185, F186, f187⟩ := K183
              have f188 : (-2147483648 : Int) ≤ (w32 ((w32 ((w32 (v27 - a3)) - r170)) - r181)) ∧ (w32 ((w32 ((w32 (v27 - a3)) - r170)) - r181)) ≤ (2147483647 : Int) := w32_inR _
              refine g_isubW C dX12_mayLie_131 ?_
              refine g_istore C [(10, .inl (w32 ((w32 ((w32 (v27 - a3)) - r170)) - r181))), (0, .inr (.inr a0)), (1, .inl a1), (2, .inl a2), (3, .inl a3), (4, .inl r1), (5, .inl (w32 (v27 - a3))), (6, .inl v37), (7, .inl v44), (8, .inl x155), (9, .inl x156)] (by decide) rfl dX12_mayLie_132 ?_
              refine g_iload C 6 rfl dX12_mayLie_134 ?_
              refine g_aload_n C rfl 1 rfl dX12_mayLie_136 ?_
              refine g_iload C 10 rfl dX12_mayLie_137 ?_
              refine g_iload_n C rfl 3 rfl dX12_mayLie_139 ?_
              have e189 : Tg h182 a0 = 12 := (fxT F186 e178)
              refine g_callI (st := [.inl (w32 (v27 - a3))]) (gc_V C lk_LandSurveyModel_471 (k_X12_underLow l D cy w z0 O185 e189 (iw f167 (by decide) (by decide)) fa2) e189 rfl rfl rfl ⟨by decide, by decide⟩ (Nat.le_of_ble_eq_true rfl) dX12_mayLie_140 ⟨(by decide), (by decide)⟩) (fun r190 h191 f193 K192 => ?_)
              obtain ⟨O194, F195, f196⟩ := K192
              have f197 : (-2147483648 : Int) ≤ (w32 ((w32 (v27 - a3)) - r190)) ∧ (w32 ((w32 (v27 - a3)) - r190)) ≤ (2147483647 : Int) := w32_inR _
              refine g_isubW C dX12_mayLie_143 ?_
              refine g_istore C [(11, .inl (w32 ((w32 (v27 - a3)) - r190))), (10, .inl (w32 ((w32 ((w32 (v27 - a3)) - r170)) - r181))), (0, .inr (.inr a0)), (1, .inl a1), (2, .inl a2), (3, .inl a3), (4, .inl r1), (5, .inl (w32 (v27 - a3))), (6, .inl v37), (7, .inl v44), (8, .inl x155), (9, .inl x156)] (by decide) rfl dX12_mayLie_144 ?_
              refine g_iload C 10 rfl dX12_mayLie_146 ?_
              refine g_iload C 1 rfl dX12_mayLie_148 ?_
              refine g_iload C 8 rfl dX12_mayLie_150 ?_
              refine g_icmp_le C f188 f39 160 (by decide) dX12_mayLie_152 (fun q198 => ?_) (fun q199 => ?_)
              · refine g_iload C 8 rfl dX12_mayLie_160 ?_
                refine g_iload C 0 rfl dX12_mayLie_162 ?_
                refine g_iload C 9 rfl dX12_mayLie_164 ?_
                refine g_icmp_ge C f197 f46 174 (by decide) dX12_mayLie_166 (fun q200 => ?_) (fun q201 => ?_)
                · refine g_iload C 9 rfl dX12_mayLie_174 ?_
                  refine g_icmp_gt C f39 f46 186 (by decide) dX12_mayLie_176 (fun q202 => ?_) (fun q203 => ?_)
                  · have f204 : (-2147483648 : Int) ≤ v44 ∧ v44 ≤ (2147483646 : Int) := r_lt f46 f39 q202 (by decide) (by decide)
                    have f205 : (-2147483647 : Int) ≤ v37 ∧ v37 ≤ (2147483647 : Int) := r_gt f39 f46 q202 (by decide) (by decide)
                    refine g_iconst C dX12_mayLie_186 ?_
                    refine g_ior C dX12_mayLie_187 ?_
                    have f206 : (-2147483648 : Int) ≤ (bOr x155 0) ∧ (bOr x155 0) ≤ (2147483647 : Int) := inR_of _
                    refine g_istore C [(8, .inl (bOr x155 0)), (11, .inl (w32 ((w32 (v27 - a3)) - r190))), (10, .inl (w32 ((w32 ((w32 (v27 - a3)) - r170)) - r181))), (0, .inr (.inr a0)), (1, .inl a1), (2, .inl a2), (3, .inl a3), (4, .inl r1), (5, .inl (w32 (v27 - a3))), (6, .inl v37), (7, .inl v44), (9, .inl x156)] (by decide) rfl dX12_mayLie_188 ?_
                    have f207 : (1 : Int) ≤ (x156 + 1) ∧ (x156 + 1) ≤ (10 : Int) := ia_add f167 (il 1) (by decide) (by decide)
                    refine g_iinc C [(9, .inl (x156 + 1)), (8, .inl (bOr x155 0)), (11, .inl (w32 ((w32 (v27 - a3)) - r190))), (10, .inl (w32 ((w32 ((w32 (v27 - a3)) - r170)) - r181))), (0, .inr (.inr a0)), (1, .inl a1), (2, .inl a2), (3, .inl a3), (4, .inl r1), (5, .inl (w32 (v27 - a3))), (6, .inl v37), (7, .inl v44)] 11 rfl (by decide) rfl dX12_mayLie_190 ?_
                    refine g_goto C 108 (by decide) dX12_mayLie_193 ?_
                    refine GW.sub [4, 5, 6, 7, 8, 9, 10, 11, 1, 0] rfl ?_
                    exact ih159 _ (by omega) (bOr x155 0) (x156 + 1) h191 rfl O194 (((F162.call F175 rfl).call F186 rfl).call F195 rfl) f206 (iw f207 (by decide) (by decide))
                  · refine g_iconst C dX12_mayLie_179 ?_
                    refine g_iload C 11 rfl dX12_mayLie_180 ?_
                    refine g_ishl C dX12_mayLie_182 ?_
                    have f208 : (-2147483648 : Int) ≤ (bShl 1 x156) ∧ (bShl 1 x156) ≤ (2147483647 : Int) := inR_of _
                    refine g_goto C 187 (by decide) dX12_mayLie_183 ?_
                    refine g_ior C dX12_mayLie_187 ?_
                    have f209 : (-2147483648 : Int) ≤ (bOr x155 (bShl 1 x156)) ∧ (bOr x155 (bShl 1 x156)) ≤ (2147483647 : Int) := inR_of _
                    refine g_istore C [(8, .inl (bOr x155 (bShl 1 x156))), (11, .inl (w32 ((w32 (v27 - a3)) - r190))), (10, .inl (w32 ((w32 ((w32 (v27 - a3)) - r170)) - r181))), (0, .inr (.inr a0)), (1, .inl a1), (2, .inl a2), (3, .inl a3), (4, .inl r1), (5, .inl (w32 (v27 - a3))), (6, .inl v37), (7, .inl v44), (9, .inl x156)] (by decide) rfl dX12_mayLie_188 ?_
                    have f210 : (1 : Int) ≤ (x156 + 1) ∧ (x156 + 1) ≤ (10 : Int) := ia_add f167 (il 1) (by decide) (by decide)
                    refine g_iinc C [(9, .inl (x156 + 1)), (8, .inl (bOr x155 (bShl 1 x156))), (11, .inl (w32 ((w32 (v27 - a3)) - r190))), (10, .inl (w32 ((w32 ((w32 (v27 - a3)) - r170)) - r181))), (0, .inr (.inr a0)), (1, .inl a1), (2, .inl a2), (3, .inl a3), (4, .inl r1), (5, .inl (w32 (v27 - a3))), (6, .inl v37), (7, .inl v44)] 11 rfl (by decide) rfl dX12_mayLie_190 ?_
                    refine g_goto C 108 (by decide) dX12_mayLie_193 ?_
                    refine GW.sub [4, 5, 6, 7, 8, 9, 10, 11, 1, 0] rfl ?_
                    exact ih159 _ (by omega) (bOr x155 (bShl 1 x156)) (x156 + 1) h191 rfl O194 (((F162.call F175 rfl).call F186 rfl).call F195 rfl) f209 (iw f210 (by decide) (by decide))
                · have f211 : (-2147483648 : Int) ≤ (w32 ((w32 (v27 - a3)) - r190)) ∧ (w32 ((w32 (v27 - a3)) - r190)) ≤ (2147483646 : Int) := r_lt f197 f46 q201 (by decide) (by decide)
                  have f212 : (-2147483647 : Int) ≤ v44 ∧ v44 ≤ (2147483647 : Int) := r_gt f46 f197 q201 (by decide) (by decide)
                  refine g_iload C 0 rfl dX12_mayLie_169 ?_
                  refine g_goto C 176 (by decide) dX12_mayLie_171 ?_
                  refine g_icmp_gt C f39 (iw f211 (by decide) (by decide)) 186 (by decide) dX12_mayLie_176 (fun q213 => ?_) (fun q214 => ?_)
                  · have f215 : (-2147483647 : Int) ≤ v37 ∧ v37 ≤ (2147483647 : Int) := r_gt f39 f211 q213 (by decide) (by decide)
                    refine g_iconst C dX12_mayLie_186 ?_
                    refine g_ior C dX12_mayLie_187 ?_
                    have f216 : (-2147483648 : Int) ≤ (bOr x155 0) ∧ (bOr x155 0) ≤ (2147483647 : Int) := inR_of _
                    refine g_istore C [(8, .inl (bOr x155 0)), (11, .inl (w32 ((w32 (v27 - a3)) - r190))), (10, .inl (w32 ((w32 ((w32 (v27 - a3)) - r170)) - r181))), (0, .inr (.inr a0)), (1, .inl a1), (2, .inl a2), (3, .inl a3), (4, .inl r1), (5, .inl (w32 (v27 - a3))), (6, .inl v37), (7, .inl v44), (9, .inl x156)] (by decide) rfl dX12_mayLie_188 ?_
                    have f217 : (1 : Int) ≤ (x156 + 1) ∧ (x156 + 1) ≤ (10 : Int) := ia_add f167 (il 1) (by decide) (by decide)
                    refine g_iinc C [(9, .inl (x156 + 1)), (8, .inl (bOr x155 0)), (11, .inl (w32 ((w32 (v27 - a3)) - r190))), (10, .inl (w32 ((w32 ((w32 (v27 - a3)) - r170)) - r181))), (0, .inr (.inr a0)), (1, .inl a1), (2, .inl a2), (3, .inl a3), (4, .inl r1), (5, .inl (w32 (v27 - a3))), (6, .inl v37), (7, .inl v44)] 11 rfl (by decide) rfl dX12_mayLie_190 ?_
                    refine g_goto C 108 (by decide) dX12_mayLie_193 ?_
                    refine GW.sub [4, 5, 6, 7, 8, 9, 10, 11, 1, 0] rfl ?_
                    exact ih159 _ (by omega) (bOr x155 0) (x156 + 1) h191 rfl O194 (((F162.call F175 rfl).call F186 rfl).call F195 rfl) f216 (iw f217 (by decide) (by decide))
                  · have f218 : (-2147483648 : Int) ≤ v37 ∧ v37 ≤ (2147483646 : Int) := r_le f39 f211 q214 (by decide) (by decide)
                    refine g_iconst C dX12_mayLie_179 ?_
                    refine g_iload C 11 rfl dX12_mayLie_180 ?_
                    refine g_ishl C dX12_mayLie_182 ?_
                    have f219 : (-2147483648 : Int) ≤ (bShl 1 x156) ∧ (bShl 1 x156) ≤ (2147483647 : Int) := inR_of _
                    refine g_goto C 187 (by decide) dX12_mayLie_183 ?_
                    refine g_ior C dX12_mayLie_187 ?_
                    have f220 : (-2147483648 : Int) ≤ (bOr x155 (bShl 1 x156)) ∧ (bOr x155 (bShl 1 x156)) ≤ (2147483647 : Int) := inR_of _
                    refine g_istore C [(8, .inl (bOr x155 (bShl 1 x156))), (11, .inl (w32 ((w32 (v27 - a3)) - r190))), (10, .inl (w32 ((w32 ((w32 (v27 - a3)) - r170)) - r181))), (0, .inr (.inr a0)), (1, .inl a1), (2, .inl a2), (3, .inl a3), (4, .inl r1), (5, .inl (w32 (v27 - a3))), (6, .inl v37), (7, .inl v44), (9, .inl x156)] (by decide) rfl dX12_mayLie_188 ?_
                    have f221 : (1 : Int) ≤ (x156 + 1) ∧ (x156 + 1) ≤ (10 : Int) := ia_add f167 (il 1) (by decide) (by decide)
                    refine g_iinc C [(9, .inl (x156 + 1)), (8, .inl (bOr x155 (bShl 1 x156))), (11, .inl (w32 ((w32 (v27 - a3)) - r190))), (10, .inl (w32 ((w32 ((w32 (v27 - a3)) - r170)) - r181))), (0, .inr (.inr a0)), (1, .inl a1), (2, .inl a2), (3, .inl a3), (4, .inl r1), (5, .inl (w32 (v27 - a3))), (6, .inl v37), (7, .inl v44)] 11 rfl (by decide) rfl dX12_mayLie_190 ?_
                    refine g_goto C 108 (by decide) dX12_mayLie_193 ?_
                    refine GW.sub [4, 5, 6, 7, 8, 9, 10, 11, 1, 0] rfl ?_
                    exact ih159 _ (by omega) (bOr x155 (bShl 1 x156)) (x156 + 1) h191 rfl O194 (((F162.call F175 rfl).call F186 rfl).call F195 rfl) f220 (iw f221 (by decide) (by decide))
              · have f222 : (-2147483648 : Int) ≤ v37 ∧ v37 ≤ (2147483646 : Int) := r_lt f39 f188 q199 (by decide) (by decide)
                have f223 : (-2147483647 : Int) ≤ (w32 ((w32 ((w32 (v27 - a3)) - r170)) - r181)) ∧ (w32 ((w32 ((w32 (v27 - a3)) - r170)) - r181)) ≤ (2147483647 : Int) := r_gt f188 f39 q199 (by decide) (by decide)
                refine g_iload C 1 rfl dX12_mayLie_155 ?_
                refine g_goto C 162 (by decide) dX12_mayLie_157 ?_
                refine g_iload C 0 rfl dX12_mayLie_162 ?_
                refine g_iload C 9 rfl dX12_mayLie_164 ?_
                refine g_icmp_ge C f197 f46 174 (by decide) dX12_mayLie_166 (fun q224 => ?_) (fun q225 => ?_)
                · refine g_iload C 9 rfl dX12_mayLie_174 ?_
                  refine g_icmp_gt C (iw f223 (by decide) (by decide)) f46 186 (by decide) dX12_mayLie_176 (fun q226 => ?_) (fun q227 => ?_)
                  · have f228 : (-2147483648 : Int) ≤ v44 ∧ v44 ≤ (2147483646 : Int) := r_lt f46 f223 q226 (by decide) (by decide)
                    refine g_iconst C dX12_mayLie_186 ?_
                    refine g_ior C dX12_mayLie_187 ?_
                    have f229 : (-2147483648 : Int) ≤ (bOr x155 0) ∧ (bOr x155 0) ≤ (2147483647 : Int) := inR_of _
                    refine g_istore C [(8, .inl (bOr x155 0)), (11, .inl (w32 ((w32 (v27 - a3)) - r190))), (10, .inl (w32 ((w32 ((w32 (v27 - a3)) - r170)) - r181))), (0, .inr (.inr a0)), (1, .inl a1), (2, .inl a2), (3, .inl a3), (4, .inl r1), (5, .inl (w32 (v27 - a3))), (6, .inl v37), (7, .inl v44), (9, .inl x156)] (by decide) rfl dX12_mayLie_188 ?_
                    have f230 : (1 : Int) ≤ (x156 + 1) ∧ (x156 + 1) ≤ (10 : Int) := ia_add f167 (il 1) (by decide) (by decide)
                    refine g_iinc C [(9, .inl (x156 + 1)), (8, .inl (bOr x155 0)), (11, .inl (w32 ((w32 (v27 - a3)) - r190))), (10, .inl (w32 ((w32 ((w32 (v27 - a3)) - r170)) - r181))), (0, .inr (.inr a0)), (1, .inl a1), (2, .inl a2), (3, .inl a3), (4, .inl r1), (5, .inl (w32 (v27 - a3))), (6, .inl v37), (7, .inl v44)] 11 rfl (by decide) rfl dX12_mayLie_190 ?_
                    refine g_goto C 108 (by decide) dX12_mayLie_193 ?_
                    refine GW.sub [4, 5, 6, 7, 8, 9, 10, 11, 1, 0] rfl ?_
                    exact ih159 _ (by omega) (bOr x155 0) (x156 + 1) h191 rfl O194 (((F162.call F175 rfl).call F186 rfl).call F195 rfl) f229 (iw f230 (by decide) (by decide))
                  · have f231 : (-2147483647 : Int) ≤ v44 ∧ v44 ≤ (2147483647 : Int) := r_ge f46 f223 q227 (by decide) (by decide)
                    refine g_iconst C dX12_mayLie_179 ?_
                    refine g_iload C 11 rfl dX12_mayLie_180 ?_
                    refine g_ishl C dX12_mayLie_182 ?_
                    have f232 : (-2147483648 : Int) ≤ (bShl 1 x156) ∧ (bShl 1 x156) ≤ (2147483647 : Int) := inR_of _
                    refine g_goto C 187 (by decide) dX12_mayLie_183 ?_
                    refine g_ior C dX12_mayLie_187 ?_
                    have f233 : (-2147483648 : Int) ≤ (bOr x155 (bShl 1 x156)) ∧ (bOr x155 (bShl 1 x156)) ≤ (2147483647 : Int) := inR_of _
                    refine g_istore C [(8, .inl (bOr x155 (bShl 1 x156))), (11, .inl (w32 ((w32 (v27 - a3)) - r190))), (10, .inl (w32 ((w32 ((w32 (v27 - a3)) - r170)) - r181))), (0, .inr (.inr a0)), (1, .inl a1), (2, .inl a2), (3, .inl a3), (4, .inl r1), (5, .inl (w32 (v27 - a3))), (6, .inl v37), (7, .inl v44), (9, .inl x156)] (by decide) rfl dX12_mayLie_188 ?_
                    have f234 : (1 : Int) ≤ (x156 + 1) ∧ (x156 + 1) ≤ (10 : Int) := ia_add f167 (il 1) (by decide) (by decide)
                    refine g_iinc C [(9, .inl (x156 + 1)), (8, .inl (bOr x155 (bShl 1 x156))), (11, .inl (w32 ((w32 (v27 - a3)) - r190))), (10, .inl (w32 ((w32 ((w32 (v27 - a3)) - r170)) - r181))), (0, .inr (.inr a0)), (1, .inl a1), (2, .inl a2), (3, .inl a3), (4, .inl r1), (5, .inl (w32 (v27 - a3))), (6, .inl v37), (7, .inl v44)] 11 rfl (by decide) rfl dX12_mayLie_190 ?_
                    refine g_goto C 108 (by decide) dX12_mayLie_193 ?_
                    refine GW.sub [4, 5, 6, 7, 8, 9, 10, 11, 1, 0] rfl ?_
                    exact ih159 _ (by omega) (bOr x155 (bShl 1 x156)) (x156 + 1) h191 rfl O194 (((F162.call F175 rfl).call F186 rfl).call F195 rfl) f233 (iw f234 (by decide) (by decide))
                · have f235 : (-2147483648 : Int) ≤ (w32 ((w32 (v27 - a3)) - r190)) ∧ (w32 ((w32 (v27 - a3)) - r190)) ≤ (2147483646 : Int) := r_lt f197 f46 q225 (by decide) (by decide)
                  have f236 : (-2147483647 : Int) ≤ v44 ∧ v44 ≤ (2147483647 : Int) := r_gt f46 f197 q225 (by decide) (by decide)
                  refine g_iload C 0 rfl dX12_mayLie_169 ?_
                  refine g_goto C 176 (by decide) dX12_mayLie_171 ?_
                  refine g_icmp_gt C (iw f223 (by decide) (by decide)) (iw f235 (by decide) (by decide)) 186 (by decide) dX12_mayLie_176 (fun q237 => ?_) (fun q238 => ?_)
                  · refine g_iconst C dX12_mayLie_186 ?_
                    refine g_ior C dX12_mayLie_187 ?_
                    have f239 : (-2147483648 : Int) ≤ (bOr x155 0) ∧ (bOr x155 0) ≤ (2147483647 : Int) := inR_of _
                    refine g_istore C [(8, .inl (bOr x155 0)), (11, .inl (w32 ((w32 (v27 - a3)) - r190))), (10, .inl (w32 ((w32 ((w32 (v27 - a3)) - r170)) - r181))), (0, .inr (.inr a0)), (1, .inl a1), (2, .inl a2), (3, .inl a3), (4, .inl r1), (5, .inl (w32 (v27 - a3))), (6, .inl v37), (7, .inl v44), (9, .inl x156)] (by decide) rfl dX12_mayLie_188 ?_
                    have f240 : (1 : Int) ≤ (x156 + 1) ∧ (x156 + 1) ≤ (10 : Int) := ia_add f167 (il 1) (by decide) (by decide)
                    refine g_iinc C [(9, .inl (x156 + 1)), (8, .inl (bOr x155 0)), (11, .inl (w32 ((w32 (v27 - a3)) - r190))), (10, .inl (w32 ((w32 ((w32 (v27 - a3)) - r170)) - r181))), (0, .inr (.inr a0)), (1, .inl a1), (2, .inl a2), (3, .inl a3), (4, .inl r1), (5, .inl (w32 (v27 - a3))), (6, .inl v37), (7, .inl v44)] 11 rfl (by decide) rfl dX12_mayLie_190 ?_
                    refine g_goto C 108 (by decide) dX12_mayLie_193 ?_
                    refine GW.sub [4, 5, 6, 7, 8, 9, 10, 11, 1, 0] rfl ?_
                    exact ih159 _ (by omega) (bOr x155 0) (x156 + 1) h191 rfl O194 (((F162.call F175 rfl).call F186 rfl).call F195 rfl) f239 (iw f240 (by decide) (by decide))
                  · have f241 : (-2147483647 : Int) ≤ (w32 ((w32 ((w32 (v27 - a3)) - r170)) - r181)) ∧ (w32 ((w32 ((w32 (v27 - a3)) - r170)) - r181)) ≤ (2147483646 : Int) := r_le f223 f235 q238 (by decide) (by decide)
                    have f242 : (-2147483647 : Int) ≤ (w32 ((w32 (v27 - a3)) - r190)) ∧ (w32 ((w32 (v27 - a3)) - r190)) ≤ (2147483646 : Int) := r_ge f235 f223 q238 (by decide) (by decide)
                    refine g_iconst C dX12_mayLie_179 ?_
                    refine g_iload C 11 rfl dX12_mayLie_180 ?_
                    refine g_ishl C dX12_mayLie_182 ?_
                    have f243 : (-2147483648 : Int) ≤ (bShl 1 x156) ∧ (bShl 1 x156) ≤ (2147483647 : Int) := inR_of _
                    refine g_goto C 187 (by decide) dX12_mayLie_183 ?_
                    refine g_ior C dX12_mayLie_187 ?_
                    have f244 : (-2147483648 : Int) ≤ (bOr x155 (bShl 1 x156)) ∧ (bOr x155 (bShl 1 x156)) ≤ (2147483647 : Int) := inR_of _
                    refine g_istore C [(8, .inl (bOr x155 (bShl 1 x156))), (11, .inl (w32 ((w32 (v27 - a3)) - r190))), (10, .inl (w32 ((w32 ((w32 (v27 - a3)) - r170)) - r181))), (0, .inr (.inr a0)), (1, .inl a1), (2, .inl a2), (3, .inl a3), (4, .inl r1), (5, .inl (w32 (v27 - a3))), (6, .inl v37), (7, .inl v44), (9, .inl x156)] (by decide) rfl dX12_mayLie_188 ?_
                    have f245 : (1 : Int) ≤ (x156 + 1) ∧ (x156 + 1) ≤ (10 : Int) := ia_add f167 (il 1) (by decide) (by decide)
                    refine g_iinc C [(9, .inl (x156 + 1)), (8, .inl (bOr x155 (bShl 1 x156))), (11, .inl (w32 ((w32 (v27 - a3)) - r190))), (10, .inl (w32 ((w32 ((w32 (v27 - a3)) - r170)) - r181))), (0, .inr (.inr a0)), (1, .inl a1), (2, .inl a2), (3, .inl a3), (4, .inl r1), (5, .inl (w32 (v27 - a3))), (6, .inl v37), (7, .inl v44)] 11 rfl (by decide) rfl dX12_mayLie_190 ?_
                    refine g_goto C 108 (by decide) dX12_mayLie_193 ?_
                    refine GW.sub [4, 5, 6, 7, 8, 9, 10, 11, 1, 0] rfl ?_
                    exact ih159 _ (by omega) (bOr x155 (bShl 1 x156)) (x156 + 1) h191 rfl O194 (((F162.call F175 rfl).call F186 rfl).call F195 rfl) f244 (iw f245 (by decide) (by decide))
        exact L158 _ (bOr 0 2048) 0 h51 rfl O54 Fx.rf f154 (iw (il 0) (by decide) (by decide))
    · have f246 : (-2147483648 : Int) ≤ (w32 (v27 - a3)) ∧ (w32 (v27 - a3)) ≤ (2147483646 : Int) := r_lt f30 f46 q48 (by decide) (by decide)
      have f247 : (-2147483647 : Int) ≤ v44 ∧ v44 ≤ (2147483647 : Int) := r_gt f46 f30 q48 (by decide) (by decide)
      refine g_sipush C (by decide) dX12_mayLie_73 ?_
      refine g_goto C 80 (by decide) dX12_mayLie_76 ?_
      refine g_iload C 2 rfl dX12_mayLie_80 ?_
      refine g_iload C 1 rfl dX12_mayLie_82 ?_
      refine g_aload_n C rfl 4 rfl dX12_mayLie_84 ?_
      refine g_iconst C dX12_mayLie_85 ?_
      refine g_iload C 3 rfl dX12_mayLie_86 ?_
      have p248 := ((BNow_fx O F6 ta0 rfl).trans e10)
      refine g_callI (st := [.inl v37, .inl (w32 (v27 - a3)), .inl 1024]) (gc_V C lk_LandSurveyModel_569 (k_X12_allThin l D cy w z0 O5 e12 (iw (il 0) (by decide) (by decide)) f7 (by rw [p248]; omega)) e12 rfl rfl rfl ⟨by decide, by decide⟩ (Nat.le_of_ble_eq_true rfl) dX12_mayLie_88 ⟨(by decide), (by decide)⟩) (fun r249 h250 f252 K251 => ?_)
      obtain ⟨O253, F254, f255⟩ := K251
      have f256 : (-2147483648 : Int) ≤ (w32 (v37 + r249)) ∧ (w32 (v37 + r249)) ≤ (2147483647 : Int) := w32_inR _
      refine g_iaddW C dX12_mayLie_91 ?_
      refine g_icmp_le C (iw f246 (by decide) (by decide)) f256 101 (by decide) dX12_mayLie_92 (fun q257 => ?_) (fun q258 => ?_)
      · refine g_iconst C dX12_mayLie_101 ?_
        refine g_ior C dX12_mayLie_102 ?_
        have f259 : (-2147483648 : Int) ≤ (bOr 1024 0) ∧ (bOr 1024 0) ≤ (2147483647 : Int) := inR_of _
        refine g_istore C [(8, .inl (bOr 1024 0)), (7, .inl v44), (6, .inl v37), (5, .inl (w32 (v27 - a3))), (4, .inl r1), (0, .inr (.inr a0)), (1, .inl a1), (2, .inl a2), (3, .inl a3)] (by decide) rfl dX12_mayLie_103 ?_
        refine g_iconst C dX12_mayLie_105 ?_
        refine g_istore C [(9, .inl 0), (8, .inl (bOr 1024 0)), (7, .inl v44), (6, .inl v37), (5, .inl (w32 (v27 - a3))), (4, .inl r1), (0, .inr (.inr a0)), (1, .inl a1), (2, .inl a2), (3, .inl a3)] (by decide) rfl dX12_mayLie_106 ?_
        refine GW.sub [6, 7, 8, 9, 5, 4, 3, 2, 1, 0] rfl ?_
        -- loop at 108
        have L263 : ∀ (μ : Nat) (x260 : Int) (x261 : Int) (h262 : Hp), (10 - x261).toNat = μ → Okh h262 → Fx [] h250 h262 → ((-2147483648 : Int) ≤ x260 ∧ x260 ≤ (2147483647 : Int)) → ((0 : Int) ≤ x261 ∧ x261 ≤ (10 : Int)) → GW p l e (rmm 4 87 0 0) s m (List.map toV [.inr (.inr a0), .inl a1, .inl a2, .inl a3]).toArray below meth c D cy z0 12 (MQ below (QI D cy z0 (fun v h1 => Okh h1 ∧ Fx wr_k_X12_mayLie h h1 ∧ ((-2147483648) ≤ v ∧ v ≤ 2147483647))) (List.map toV [.inr (.inr a0), .inl a1, .inl a2, .inl a3]).toArray s 0 0 (Aof z0)) 108 [(0, .inr (.inr a0)), (1, .inl a1), (2, .inl a2), (3, .inl a3), (4, .inl r1), (5, .inl (w32 (v27 - a3))), (6, .inl v37), (7, .inl v44), (8, .inl x260), (9, .inl x261)] [] h262 0 0 := by
          intro μ
          induction μ using Nat.strongRecOn with
          | ind μ ih264 =>
            intro x260 x261 h262 hm265 O266 F267 f268 f269
            refine g_iload C 9 rfl dX12_mayLie_108 ?_
            refine g_iload C 4 rfl dX12_mayLie_110 ?_
            refine g_icmp_ge C (iw f269 (by decide) (by decide)) (iw f7 (by decide) (by decide)) 196 (by decide) dX12_mayLie_112 (fun q270 => ?_) (fun q271 => ?_)
            · refine g_iload C 8 rfl dX12_mayLie_196 ?_
              exact g_iret C hr rfl f268 ⟨O266, ((((Fx.rf (wr := wr_k_X12_mayLie)).call F6 rfl).call F254 rfl).call F267 rfl), f268⟩ (by decide) (by decide) dX12_mayLie_198
            · have f272 : (0 : Int) ≤ x261 ∧ x261 ≤ (9 : Int) := r_lt f269 f7 q271 (by decide) (by decide)
              have f273 : (1 : Int) ≤ r1 ∧ r1 ≤ (10 : Int) := r_gt f7 f269 q271 (by decide) (by decide)
              refine g_iload C 5 rfl dX12_mayLie_115 ?_
              refine g_aload_n C rfl 0 rfl dX12_mayLie_117 ?_
              refine g_iload C 9 rfl dX12_mayLie_118 ?_
              refine g_iload_n C rfl 2 rfl dX12_mayLie_120 ?_
              have e274 : Tg h262 a0 = 12 := (fxT F267 (fxT F254 e12))
              refine g_callI (st := [.inl (w32 (v27 - a3))]) (gc_V C lk_LandSurveyModel_468 (k_X12_underHigh l D cy w z0 O266 e274 (iw f272 (by decide) (by decide)) fa2) e274 rfl rfl rfl ⟨by decide, by decide⟩ (Nat.le_of_ble_eq_true rfl) dX12_mayLie_121 ⟨(by decide), (by decide)⟩) (fun r275 h276 f278 K277 => ?_)
              obtain ⟨O279, F280, f281⟩ := K277
              have f282 : (-2147483648 : Int) ≤ (w32 ((w32 (v27 - a3)) - r275)) ∧ (w32 ((w32 (v27 - a3)) - r275)) ≤ (2147483647 : Int) := w32_inR _
              refine g_isubW C dX12_mayLie_124 ?_
              refine g_aload_n C rfl 0 rfl dX12_mayLie_125 ?_
              refine g_iload C 9 rfl dX12_mayLie_126 ?_
              have e283 : Tg h276 a0 = 12 := (fxT F280 e274)
              have e284 : Tg h250 a0 = 12 := (fxT F254 e12)
              have p285 := ((BNow_fx O266 F280 e274 rfl).trans ((BNow_fx O253 F267 e284 rfl).trans ((BNow_fx O5 F254 e12 rfl).trans p248)))
              refine g_callI (st := [.inl (w32 ((w32 (v27 - a3)) - r275))]) (gc_V C lk_LandSurveyModel_462 (k_X12_thickOf l D cy w z0 O279 e283 f272 (by rw [p285]; omega)) e283 rfl rfl rfl ⟨by decide, by decide⟩ (Nat.le_of_ble_eq_true rfl) dX12_mayLie_128 ⟨(by decide), (by decide)⟩) (fun r286 h287 f289 K288 => ?_)
              obtain ⟨O290, F291, f292⟩ := K288
              have f293 : (-2147483648 : Int) ≤ (w32 ((w32 ((w32 (v27 - a3)) - r275)) - r286)) ∧ (w32 ((w32 ((w32 (v27 - a3)) - r275)) - r286)) ≤ (2147483647 : Int) := w32_inR _
              refine g_isubW C dX12_mayLie_131 ?_
              refine g_istore C [(10, .inl (w32 ((w32 ((w32 (v27 - a3)) - r275)) - r286))), (0, .inr (.inr a0)), (1, .inl a1), (2, .inl a2), (3, .inl a3), (4, .inl r1), (5, .inl (w32 (v27 - a3))), (6, .inl v37), (7, .inl v44), (8, .inl x260), (9, .inl x261)] (by decide) rfl dX12_mayLie_132 ?_
              refine g_iload C 6 rfl dX12_mayLie_134 ?_
              refine g_aload_n C rfl 1 rfl dX12_mayLie_136 ?_
              refine g_iload C 10 rfl dX12_mayLie_137 ?_
              refine g_iload_n C rfl 3 rfl dX12_mayLie_139 ?_
              have e294 : Tg h287 a0 = 12 := (fxT F291 e283)
              refine g_callI (st := [.inl (w32 (v27 - a3))]) (gc_V C lk_LandSurveyModel_471 (k_X12_underLow l D cy w z0 O290 e294 (iw f272 (by decide) (by decide)) fa2) e294 rfl rfl rfl ⟨by decide, by decide⟩ (Nat.le_of_ble_eq_true rfl) dX12_mayLie_140 ⟨(by decide), (by decide)⟩) (fun r295 h296 f298 K297 => ?_)
              obtain ⟨O299, F300, f301⟩ := K297
              have f302 : (-2147483648 : Int) ≤ (w32 ((w32 (v27 - a3)) - r295)) ∧ (w32 ((w32 (v27 - a3)) - r295)) ≤ (2147483647 : Int) := w32_inR _
              refine g_isubW C dX12_mayLie_143 ?_
              refine g_istore C [(11, .inl (w32 ((w32 (v27 - a3)) - r295))), (10, .inl (w32 ((w32 ((w32 (v27 - a3)) - r275)) - r286))), (0, .inr (.inr a0)), (1, .inl a1), (2, .inl a2), (3, .inl a3), (4, .inl r1), (5, .inl (w32 (v27 - a3))), (6, .inl v37), (7, .inl v44), (8, .inl x260), (9, .inl x261)] (by decide) rfl dX12_mayLie_144 ?_
              refine g_iload C 10 rfl dX12_mayLie_146 ?_
              refine g_iload C 1 rfl dX12_mayLie_148 ?_
              refine g_iload C 8 rfl dX12_mayLie_150 ?_
              refine g_icmp_le C f293 f39 160 (by decide) dX12_mayLie_152 (fun q303 => ?_) (fun q304 => ?_)
              · refine g_iload C 8 rfl dX12_mayLie_160 ?_
                refine g_iload C 0 rfl dX12_mayLie_162 ?_
                refine g_iload C 9 rfl dX12_mayLie_164 ?_
                refine g_icmp_ge C f302 (iw f247 (by decide) (by decide)) 174 (by decide) dX12_mayLie_166 (fun q305 => ?_) (fun q306 => ?_)
                · have f307 : (-2147483647 : Int) ≤ (w32 ((w32 (v27 - a3)) - r295)) ∧ (w32 ((w32 (v27 - a3)) - r295)) ≤ (2147483647 : Int) := r_ge f302 f247 q305 (by decide) (by decide)
                  refine g_iload C 9 rfl dX12_mayLie_174 ?_
                  refine g_icmp_gt C f39 (iw f247 (by decide) (by decide)) 186 (by decide) dX12_mayLie_176 (fun q308 => ?_) (fun q309 => ?_)
                  · have f310 : (-2147483647 : Int) ≤ v44 ∧ v44 ≤ (2147483646 : Int) := r_lt f247 f39 q308 (by decide) (by decide)
                    have f311 : (-2147483646 : Int) ≤ v37 ∧ v37 ≤ (2147483647 : Int) := r_gt f39 f247 q308 (by decide) (by decide)
                    refine g_iconst C dX12_mayLie_186 ?_
                    refine g_ior C dX12_mayLie_187 ?_
                    have f312 : (-2147483648 : Int) ≤ (bOr x260 0) ∧ (bOr x260 0) ≤ (2147483647 : Int) := inR_of _
                    refine g_istore C [(8, .inl (bOr x260 0)), (11, .inl (w32 ((w32 (v27 - a3)) - r295))), (10, .inl (w32 ((w32 ((w32 (v27 - a3)) - r275)) - r286))), (0, .inr (.inr a0)), (1, .inl a1), (2, .inl a2), (3, .inl a3), (4, .inl r1), (5, .inl (w32 (v27 - a3))), (6, .inl v37), (7, .inl v44), (9, .inl x261)] (by decide) rfl dX12_mayLie_188 ?_
                    have f313 : (1 : Int) ≤ (x261 + 1) ∧ (x261 + 1) ≤ (10 : Int) := ia_add f272 (il 1) (by decide) (by decide)
                    refine g_iinc C [(9, .inl (x261 + 1)), (8, .inl (bOr x260 0)), (11, .inl (w32 ((w32 (v27 - a3)) - r295))), (10, .inl (w32 ((w32 ((w32 (v27 - a3)) - r275)) - r286))), (0, .inr (.inr a0)), (1, .inl a1), (2, .inl a2), (3, .inl a3), (4, .inl r1), (5, .inl (w32 (v27 - a3))), (6, .inl v37), (7, .inl v44)] 11 rfl (by decide) rfl dX12_mayLie_190 ?_
                    refine g_goto C 108 (by decide) dX12_mayLie_193 ?_
                    refine GW.sub [4, 5, 6, 7, 8, 9, 10, 11, 1, 0] rfl ?_
                    exact ih264 _ (by omega) (bOr x260 0) (x261 + 1) h296 rfl O299 (((F267.call F280 rfl).call F291 rfl).call F300 rfl) f312 (iw f313 (by decide) (by decide))
                  · refine g_iconst C dX12_mayLie_179 ?_
                    refine g_iload C 11 rfl dX12_mayLie_180 ?_
                    refine g_ishl C dX12_mayLie_182 ?_
                    have f314 : (-2147483648 : Int) ≤ (bShl 1 x261) ∧ (bShl 1 x261) ≤ (2147483647 : Int) := inR_of _
                    refine g_goto C 187 (by decide) dX12_mayLie_183 ?_
                    refine g_ior C dX12_mayLie_187 ?_
                    have f315 : (-2147483648 : Int) ≤ (bOr x260 (bShl 1 x261)) ∧ (bOr x260 (bShl 1 x261)) ≤ (2147483647 : Int) := inR_of _
                    refine g_istore C [(8, .inl (bOr x260 (bShl 1 x261))), (11, .inl (w32 ((w32 (v27 - a3)) - r295))), (10, .inl (w32 ((w32 ((w32 (v27 - a3)) - r275)) - r286))), (0, .inr (.inr a0)), (1, .inl a1), (2, .inl a2), (3, .inl a3), (4, .inl r1), (5, .inl (w32 (v27 - a3))), (6, .inl v37), (7, .inl v44), (9, .inl x261)] (by decide) rfl dX12_mayLie_188 ?_
                    have f316 : (1 : Int) ≤ (x261 + 1) ∧ (x261 + 1) ≤ (10 : Int) := ia_add f272 (il 1) (by decide) (by decide)
                    refine g_iinc C [(9, .inl (x261 + 1)), (8, .inl (bOr x260 (bShl 1 x261))), (11, .inl (w32 ((w32 (v27 - a3)) - r295))), (10, .inl (w32 ((w32 ((w32 (v27 - a3)) - r275)) - r286))), (0, .inr (.inr a0)), (1, .inl a1), (2, .inl a2), (3, .inl a3), (4, .inl r1), (5, .inl (w32 (v27 - a3))), (6, .inl v37), (7, .inl v44)] 11 rfl (by decide) rfl dX12_mayLie_190 ?_
                    refine g_goto C 108 (by decide) dX12_mayLie_193 ?_
                    refine GW.sub [4, 5, 6, 7, 8, 9, 10, 11, 1, 0] rfl ?_
                    exact ih264 _ (by omega) (bOr x260 (bShl 1 x261)) (x261 + 1) h296 rfl O299 (((F267.call F280 rfl).call F291 rfl).call F300 rfl) f315 (iw f316 (by decide) (by decide))
                · have f317 : (-2147483648 : Int) ≤ (w32 ((w32 (v27 - a3)) - r295)) ∧ (w32 ((w32 (v27 - a3)) - r295)) ≤ (2147483646 : Int) := r_lt f302 f247 q306 (by decide) (by decide)
                  refine g_iload C 0 rfl dX12_mayLie_169 ?_
                  refine g_goto C 176 (by decide) dX12_mayLie_171 ?_
                  refine g_icmp_gt C f39 (iw f317 (by decide) (by decide)) 186 (by decide) dX12_mayLie_176 (fun q318 => ?_) (fun q319 => ?_)
                  · have f320 : (-2147483647 : Int) ≤ v37 ∧ v37 ≤ (2147483647 : Int) := r_gt f39 f317 q318 (by decide) (by decide)
                    refine g_iconst C dX12_mayLie_186 ?_
                    refine g_ior C dX12_mayLie_187 ?_
                    have f321 : (-2147483648 : Int) ≤ (bOr x260 0) ∧ (bOr x260 0) ≤ (2147483647 : Int) := inR_of _
                    refine g_istore C [(8, .inl (bOr x260 0)), (11, .inl (w32 ((w32 (v27 - a3)) - r295))), (10, .inl (w32 ((w32 ((w32 (v27 - a3)) - r275)) - r286))), (0, .inr (.inr a0)), (1, .inl a1), (2, .inl a2), (3, .inl a3), (4, .inl r1), (5, .inl (w32 (v27 - a3))), (6, .inl v37), (7, .inl v44), (9, .inl x261)] (by decide) rfl dX12_mayLie_188 ?_
                    have f322 : (1 : Int) ≤ (x261 + 1) ∧ (x261 + 1) ≤ (10 : Int) := ia_add f272 (il 1) (by decide) (by decide)
                    refine g_iinc C [(9, .inl (x261 + 1)), (8, .inl (bOr x260 0)), (11, .inl (w32 ((w32 (v27 - a3)) - r295))), (10, .inl (w32 ((w32 ((w32 (v27 - a3)) - r275)) - r286))), (0, .inr (.inr a0)), (1, .inl a1), (2, .inl a2), (3, .inl a3), (4, .inl r1), (5, .inl (w32 (v27 - a3))), (6, .inl v37), (7, .inl v44)] 11 rfl (by decide) rfl dX12_mayLie_190 ?_
                    refine g_goto C 108 (by decide) dX12_mayLie_193 ?_
                    refine GW.sub [4, 5, 6, 7, 8, 9, 10, 11, 1, 0] rfl ?_
                    exact ih264 _ (by omega) (bOr x260 0) (x261 + 1) h296 rfl O299 (((F267.call F280 rfl).call F291 rfl).call F300 rfl) f321 (iw f322 (by decide) (by decide))
                  · have f323 : (-2147483648 : Int) ≤ v37 ∧ v37 ≤ (2147483646 : Int) := r_le f39 f317 q319 (by decide) (by decide)
                    refine g_iconst C dX12_mayLie_179 ?_
                    refine g_iload C 11 rfl dX12_mayLie_180 ?_
                    refine g_ishl C dX12_mayLie_182 ?_
                    have f324 : (-2147483648 : Int) ≤ (bShl 1 x261) ∧ (bShl 1 x261) ≤ (2147483647 : Int) := inR_of _
                    refine g_goto C 187 (by decide) dX12_mayLie_183 ?_
                    refine g_ior C dX12_mayLie_187 ?_
                    have f325 : (-2147483648 : Int) ≤ (bOr x260 (bShl 1 x261)) ∧ (bOr x260 (bShl 1 x261)) ≤ (2147483647 : Int) := inR_of _
                    refine g_istore C [(8, .inl (bOr x260 (bShl 1 x261))), (11, .inl (w32 ((w32 (v27 - a3)) - r295))), (10, .inl (w32 ((w32 ((w32 (v27 - a3)) - r275)) - r286))), (0, .inr (.inr a0)), (1, .inl a1), (2, .inl a2), (3, .inl a3), (4, .inl r1), (5, .inl (w32 (v27 - a3))), (6, .inl v37), (7, .inl v44), (9, .inl x261)] (by decide) rfl dX12_mayLie_188 ?_
                    have f326 : (1 : Int) ≤ (x261 + 1) ∧ (x261 + 1) ≤ (10 : Int) := ia_add f272 (il 1) (by decide) (by decide)
                    refine g_iinc C [(9, .inl (x261 + 1)), (8, .inl (bOr x260 (bShl 1 x261))), (11, .inl (w32 ((w32 (v27 - a3)) - r295))), (10, .inl (w32 ((w32 ((w32 (v27 - a3)) - r275)) - r286))), (0, .inr (.inr a0)), (1, .inl a1), (2, .inl a2), (3, .inl a3), (4, .inl r1), (5, .inl (w32 (v27 - a3))), (6, .inl v37), (7, .inl v44)] 11 rfl (by decide) rfl dX12_mayLie_190 ?_
                    refine g_goto C 108 (by decide) dX12_mayLie_193 ?_
                    refine GW.sub [4, 5, 6, 7, 8, 9, 10, 11, 1, 0] rfl ?_
                    exact ih264 _ (by omega) (bOr x260 (bShl 1 x261)) (x261 + 1) h296 rfl O299 (((F267.call F280 rfl).call F291 rfl).call F300 rfl) f325 (iw f326 (by decide) (by decide))
              · have f327 : (-2147483648 : Int) ≤ v37 ∧ v37 ≤ (2147483646 : Int) := r_lt f39 f293 q304 (by decide) (by decide)
                have f328 : (-2147483647 : Int) ≤ (w32 ((w32 ((w32 (v27 - a3)) - r275)) - r286)) ∧ (w32 ((w32 ((w32 (v27 - a3)) - r275)) - r286)) ≤ (2147483647 : Int) := r_gt f293 f39 q304 (by decide) (by decide)
                refine g_iload C 1 rfl dX12_mayLie_155 ?_
                refine g_goto C 162 (by decide) dX12_mayLie_157 ?_
                refine g_iload C 0 rfl dX12_mayLie_162 ?_
                refine g_iload C 9 rfl dX12_mayLie_164 ?_
                refine g_icmp_ge C f302 (iw f247 (by decide) (by decide)) 174 (by decide) dX12_mayLie_166 (fun q329 => ?_) (fun q330 => ?_)
                · have f331 : (-2147483647 : Int) ≤ (w32 ((w32 (v27 - a3)) - r295)) ∧ (w32 ((w32 (v27 - a3)) - r295)) ≤ (2147483647 : Int) := r_ge f302 f247 q329 (by decide) (by decide)
                  refine g_iload C 9 rfl dX12_mayLie_174 ?_
                  refine g_icmp_gt C (iw f328 (by decide) (by decide)) (iw f247 (by decide) (by decide)) 186 (by decide) dX12_mayLie_176 (fun q332 => ?_) (fun q333 => ?_)
                  · have f334 : (-2147483647 : Int) ≤ v44 ∧ v44 ≤ (2147483646 : Int) := r_lt f247 f328 q332 (by decide) (by decide)
                    have f335 : (-2147483646 : Int) ≤ (w32 ((w32 ((w32 (v27 - a3)) - r275)) - r286)) ∧ (w32 ((w32 ((w32 (v27 - a3)) - r275)) - r286)) ≤ (2147483647 : Int) := r_gt f328 f247 q332 (by decide) (by decide)
                    refine g_iconst C dX12_mayLie_186 ?_
                    refine g_ior C dX12_mayLie_187 ?_
                    have f336 : (-2147483648 : Int) ≤ (bOr x260 0) ∧ (bOr x260 0) ≤ (2147483647 : Int) := inR_of _
                    refine g_istore C [(8, .inl (bOr x260 0)), (11, .inl (w32 ((w32 (v27 - a3)) - r295))), (10, .inl (w32 ((w32 ((w32 (v27 - a3)) - r275)) - r286))), (0, .inr (.inr a0)), (1, .inl a1), (2, .inl a2), (3, .inl a3), (4, .inl r1), (5, .inl (w32 (v27 - a3))), (6, .inl v37), (7, .inl v44), (9, .inl x261)] (by decide) rfl dX12_mayLie_188 ?_
                    have f337 : (1 : Int) ≤ (x261 + 1) ∧ (x261 + 1) ≤ (10 : Int) := ia_add f272 (il 1) (by decide) (by decide)
                    refine g_iinc C [(9, .inl (x261 + 1)), (8, .inl (bOr x260 0)), (11, .inl (w32 ((w32 (v27 - a3)) - r295))), (10, .inl (w32 ((w32 ((w32 (v27 - a3)) - r275)) - r286))), (0, .inr (.inr a0)), (1, .inl a1), (2, .inl a2), (3, .inl a3), (4, .inl r1), (5, .inl (w32 (v27 - a3))), (6, .inl v37), (7, .inl v44)] 11 rfl (by decide) rfl dX12_mayLie_190 ?_
                    refine g_goto C 108 (by decide) dX12_mayLie_193 ?_
                    refine GW.sub [4, 5, 6, 7, 8, 9, 10, 11, 1, 0] rfl ?_
                    exact ih264 _ (by omega) (bOr x260 0) (x261 + 1) h296 rfl O299 (((F267.call F280 rfl).call F291 rfl).call F300 rfl) f336 (iw f337 (by decide) (by decide))
                  · refine g_iconst C dX12_mayLie_179 ?_
                    refine g_iload C 11 rfl dX12_mayLie_180 ?_
                    refine g_ishl C dX12_mayLie_182 ?_
                    have f338 : (-2147483648 : Int) ≤ (bShl 1 x261) ∧ (bShl 1 x261) ≤ (2147483647 : Int) := inR_of _
                    refine g_goto C 187 (by decide) dX12_mayLie_183 ?_
                    refine g_ior C dX12_mayLie_187 ?_
                    have f339 : (-2147483648 : Int) ≤ (bOr x260 (bShl 1 x261)) ∧ (bOr x260 (bShl 1 x261)) ≤ (2147483647 : Int) := inR_of _
                    refine g_istore C [(8, .inl (bOr x260 (bShl 1 x261))), (11, .inl (w32 ((w32 (v27 - a3)) - r295))), (10, .inl (w32 ((w32 ((w32 (v27 - a3)) - r275)) - r286))), (0, .inr (.inr a0)), (1, .inl a1), (2, .inl a2), (3, .inl a3), (4, .inl r1), (5, .inl (w32 (v27 - a3))), (6, .inl v37), (7, .inl v44), (9, .inl x261)] (by decide) rfl dX12_mayLie_188 ?_
                    have f340 : (1 : Int) ≤ (x261 + 1) ∧ (x261 + 1) ≤ (10 : Int) := ia_add f272 (il 1) (by decide) (by decide)
                    refine g_iinc C [(9, .inl (x261 + 1)), (8, .inl (bOr x260 (bShl 1 x261))), (11, .inl (w32 ((w32 (v27 - a3)) - r295))), (10, .inl (w32 ((w32 ((w32 (v27 - a3)) - r275)) - r286))), (0, .inr (.inr a0)), (1, .inl a1), (2, .inl a2), (3, .inl a3), (4, .inl r1), (5, .inl (w32 (v27 - a3))), (6, .inl v37), (7, .inl v44)] 11 rfl (by decide) rfl dX12_mayLie_190 ?_
                    refine g_goto C 108 (by decide) dX12_mayLie_193 ?_
                    refine GW.sub [4, 5, 6, 7, 8, 9, 10, 11, 1, 0] rfl ?_
                    exact ih264 _ (by omega) (bOr x260 (bShl 1 x261)) (x261 + 1) h296 rfl O299 (((F267.call F280 rfl).call F291 rfl).call F300 rfl) f339 (iw f340 (by decide) (by decide))
                · have f341 : (-2147483648 : Int) ≤ (w32 ((w32 (v27 - a3)) - r295)) ∧ (w32 ((w32 (v27 - a3)) - r295)) ≤ (2147483646 : Int) := r_lt f302 f247 q330 (by decide) (by decide)
                  refine g_iload C 0 rfl dX12_mayLie_169 ?_
                  refine g_goto C 176 (by decide) dX12_mayLie_171 ?_
                  refine g_icmp_gt C (iw f328 (by decide) (by decide)) (iw f341 (by decide) (by decide)) 186 (by decide) dX12_mayLie_176 (fun q342 => ?_) (fun q343 => ?_)
                  · refine g_iconst C dX12_mayLie_186 ?_
                    refine g_ior C dX12_mayLie_187 ?_
                    have f344 : (-2147483648 : Int) ≤ (bOr x260 0) ∧ (bOr x260 0) ≤ (2147483647 : Int) := inR_of _
                    refine g_istore C [(8, .inl (bOr x260 0)), (11, .inl (w32 ((w32 (v27 - a3)) - r295))), (10, .inl (w32 ((w32 ((w32 (v27 - a3)) - r275)) - r286))), (0, .inr (.inr a0)), (1, .inl a1), (2, .inl a2), (3, .inl a3), (4, .inl r1), (5, .inl (w32 (v27 - a3))), (6, .inl v37), (7, .inl v44), (9, .inl x261)] (by decide) rfl dX12_mayLie_188 ?_
                    have f345 : (1 : Int) ≤ (x261 + 1) ∧ (x261 + 1) ≤ (10 : Int) := ia_add f272 (il 1) (by decide) (by decide)
                    refine g_iinc C [(9, .inl (x261 + 1)), (8, .inl (bOr x260 0)), (11, .inl (w32 ((w32 (v27 - a3)) - r295))), (10, .inl (w32 ((w32 ((w32 (v27 - a3)) - r275)) - r286))), (0, .inr (.inr a0)), (1, .inl a1), (2, .inl a2), (3, .inl a3), (4, .inl r1), (5, .inl (w32 (v27 - a3))), (6, .inl v37), (7, .inl v44)] 11 rfl (by decide) rfl dX12_mayLie_190 ?_
                    refine g_goto C 108 (by decide) dX12_mayLie_193 ?_
                    refine GW.sub [4, 5, 6, 7, 8, 9, 10, 11, 1, 0] rfl ?_
                    exact ih264 _ (by omega) (bOr x260 0) (x261 + 1) h296 rfl O299 (((F267.call F280 rfl).call F291 rfl).call F300 rfl) f344 (iw f345 (by decide) (by decide))
                  · have f346 : (-2147483647 : Int) ≤ (w32 ((w32 ((w32 (v27 - a3)) - r275)) - r286)) ∧ (w32 ((w32 ((w32 (v27 - a3)) - r275)) - r286)) ≤ (2147483646 : Int) := r_le f328 f341 q343 (by decide) (by decide)
                    have f347 : (-2147483647 : Int) ≤ (w32 ((w32 (v27 - a3)) - r295)) ∧ (w32 ((w32 (v27 - a3)) - r295)) ≤ (2147483646 : Int) := r_ge f341 f328 q343 (by decide) (by decide)
                    refine g_iconst C dX12_mayLie_179 ?_
                    refine g_iload C 11 rfl dX12_mayLie_180 ?_
                    refine g_ishl C dX12_mayLie_182 ?_
                    have f348 : (-2147483648 : Int) ≤ (bShl 1 x261) ∧ (bShl 1 x261) ≤ (2147483647 : Int) := inR_of _
                    refine g_goto C 187 (by decide) dX12_mayLie_183 ?_
                    refine g_ior C dX12_mayLie_187 ?_
                    have f349 : (-2147483648 : Int) ≤ (bOr x260 (bShl 1 x261)) ∧ (bOr x260 (bShl 1 x261)) ≤ (2147483647 : Int) := inR_of _
                    refine g_istore C [(8, .inl (bOr x260 (bShl 1 x261))), (11, .inl (w32 ((w32 (v27 - a3)) - r295))), (10, .inl (w32 ((w32 ((w32 (v27 - a3)) - r275)) - r286))), (0, .inr (.inr a0)), (1, .inl a1), (2, .inl a2), (3, .inl a3), (4, .inl r1), (5, .inl (w32 (v27 - a3))), (6, .inl v37), (7, .inl v44), (9, .inl x261)] (by decide) rfl dX12_mayLie_188 ?_
                    have f350 : (1 : Int) ≤ (x261 + 1) ∧ (x261 + 1) ≤ (10 : Int) := ia_add f272 (il 1) (by decide) (by decide)
                    refine g_iinc C [(9, .inl (x261 + 1)), (8, .inl (bOr x260 (bShl 1 x261))), (11, .inl (w32 ((w32 (v27 - a3)) - r295))), (10, .inl (w32 ((w32 ((w32 (v27 - a3)) - r275)) - r286))), (0, .inr (.inr a0)), (1, .inl a1), (2, .inl a2), (3, .inl a3), (4, .inl r1), (5, .inl (w32 (v27 - a3))), (6, .inl v37), (7, .inl v44)] 11 rfl (by decide) rfl dX12_mayLie_190 ?_
                    refine g_goto C 108 (by decide) dX12_mayLie_193 ?_
                    refine GW.sub [4, 5, 6, 7, 8, 9, 10, 11, 1, 0] rfl ?_
                    exact ih264 _ (by omega) (bOr x260 (bShl 1 x261)) (x261 + 1) h296 rfl O299 (((F267.call F280 rfl).call F291 rfl).call F300 rfl) f349 (iw f350 (by decide) (by decide))
        exact L263 _ (bOr 1024 0) 0 h250 rfl O253 Fx.rf f259 (iw (il 0) (by decide) (by decide))
      · have f351 : (-2147483648 : Int) ≤ (w32 (v37 + r249)) ∧ (w32 (v37 + r249)) ≤ (2147483645 : Int) := r_lt f256 f246 q258 (by decide) (by decide)
        have f352 : (-2147483647 : Int) ≤ (w32 (v27 - a3)) ∧ (w32 (v27 - a3)) ≤ (2147483646 : Int) := r_gt f246 f256 q258 (by decide) (by decide)
        refine g_sipush C (by decide) dX12_mayLie_95 ?_
        refine g_goto C 102 (by decide) dX12_mayLie_98 ?_
        refine g_ior C dX12_mayLie_102 ?_
        have f353 : (-2147483648 : Int) ≤ (bOr 1024 2048) ∧ (bOr 1024 2048) ≤ (2147483647 : Int) := inR_of _
        refine g_istore C [(8, .inl (bOr 1024 2048)), (7, .inl v44), (6, .inl v37), (5, .inl (w32 (v27 - a3))), (4, .inl r1), (0, .inr (.inr a0)), (1, .inl a1), (2, .inl a2), (3, .inl a3)] (by decide) rfl dX12_mayLie_103 ?_
        refine g_iconst C dX12_mayLie_105 ?_
        refine g_istore C [(9, .inl 0), (8, .inl (bOr 1024 2048)), (7, .inl v44), (6, .inl v37), (5, .inl (w32 (v27 - a3))), (4, .inl r1), (0, .inr (.inr a0)), (1, .inl a1), (2, .inl a2), (3, .inl a3)] (by decide) rfl dX12_mayLie_106 ?_
        refine GW.sub [6, 7, 8, 9, 5, 4, 3, 2, 1, 0] rfl ?_
        -- loop at 108
        have L357 : ∀ (μ : Nat) (x354 : Int) (x355 : Int) (h356 : Hp), (10 - x355).toNat = μ → Okh h356 → Fx [] h250 h356 → ((-2147483648 : Int) ≤ x354 ∧ x354 ≤ (2147483647 : Int)) → ((0 : Int) ≤ x355 ∧ x355 ≤ (10 : Int)) → GW p l e (rmm 4 87 0 0) s m (List.map toV [.inr (.inr a0), .inl a1, .inl a2, .inl a3]).toArray below meth c D cy z0 12 (MQ below (QI D cy z0 (fun v h1 => Okh h1 ∧ Fx wr_k_X12_mayLie h h1 ∧ ((-2147483648) ≤ v ∧ v ≤ 2147483647))) (List.map toV [.inr (.inr a0), .inl a1, .inl a2, .inl a3]).toArray s 0 0 (Aof z0)) 108 [(0, .inr (.inr a0)), (1, .inl a1), (2, .inl a2), (3, .inl a3), (4, .inl r1), (5, .inl (w32 (v27 - a3))), (6, .inl v37), (7, .inl v44), (8, .inl x354), (9, .inl x355)] [] h356 0 0 := by
          intro μ
          induction μ using Nat.strongRecOn with
          | ind μ ih358 =>
            intro x354 x355 h356 hm359 O360 F361 f362 f363
            refine g_iload C 9 rfl dX12_mayLie_108 ?_
            refine g_iload C 4 rfl dX12_mayLie_110 ?_
            refine g_icmp_ge C (iw f363 (by decide) (by decide)) (iw f7 (by decide) (by decide)) 196 (by decide) dX12_mayLie_112 (fun q364 => ?_) (fun q365 => ?_)
            · refine g_iload C 8 rfl dX12_mayLie_196 ?_
              exact g_iret C hr rfl f362 ⟨O360, ((((Fx.rf (wr := wr_k_X12_mayLie)).call F6 rfl).call F254 rfl).call F361 rfl), f362⟩ (by decide) (by decide) dX12_mayLie_198
            · have f366 : (0 : Int) ≤ x355 ∧ x355 ≤ (9 : Int) := r_lt f363 f7 q365 (by decide) (by decide)
              have f367 : (1 : Int) ≤ r1 ∧ r1 ≤ (10 : Int) := r_gt f7 f363 q365 (by decide) (by decide)
              refine g_iload C 5 rfl dX12_mayLie_115 ?_
              refine g_aload_n C rfl 0 rfl dX12_mayLie_117 ?_
              refine g_iload C 9 rfl dX12_mayLie_118 ?_
              refine g_iload_n C rfl 2 rfl dX12_mayLie_120 ?_
              have e368 : Tg h356 a0 = 12 := (fxT F361 (fxT F254 e12))
              refine g_callI (st := [.inl (w32 (v27 - a3))]) (gc_V C lk_LandSurveyModel_468 (k_X12_underHigh l D cy w z0 O360 e368 (iw f366 (by decide) (by decide)) fa2) e368 rfl rfl rfl ⟨by decide, by decide⟩ (Nat.le_of_ble_eq_true rfl) dX12_mayLie_121 ⟨(by decide), (by decide)⟩) (fun r369 h370 f372 K371 => ?_)
              obtain ⟨O373, F374, f375⟩ := K371
              have f376 : (-2147483648 : Int) ≤ (w32 ((w32 (v27 - a3)) - r369)) ∧ (w32 ((w32 (v27 - a3)) - r369)) ≤ (2147483647 : Int) := w32_inR _
              refine g_isubW C dX12_mayLie_124 ?_
              refine g_aload_n C rfl 0 rfl dX12_mayLie_125 ?_
              refine g_iload C 9 rfl dX12_mayLie_126 ?_
              have e377 : Tg h370 a0 = 12 := (fxT F374 e368)
              have e378 : Tg h250 a0 = 12 := (fxT F254 e12)
              have p379 := ((BNow_fx O360 F374 e368 rfl).trans ((BNow_fx O253 F361 e378 rfl).trans ((BNow_fx O5 F254 e12 rfl).trans p248)))
              refine g_callI (st := [.inl (w32 ((w32 (v27 - a3)) - r369))]) (gc_V C lk_LandSurveyModel_462 (k_X12_thickOf l D cy w z0 O373 e377 f366 (by rw [p379]; omega)) e377 rfl rfl rfl ⟨by decide, by decide⟩ (Nat.le_of_ble_eq_true rfl) dX12_mayLie_128 ⟨(by decide), (by decide)⟩) (fun r380 h381 f383 K382 => ?_)
              obtain ⟨O384, F385, f386⟩ := K382
              have f387 : (-2147483648 : Int) ≤ (w32 ((w32 ((w32 (v27 - a3)) - r369)) - r380)) ∧ (w32 ((w32 ((w32 (v27 - a3)) - r369)) - r380)) ≤ (2147483647 : Int) := w32_inR _
              refine g_isubW C dX12_mayLie_131 ?_
              refine g_istore C [(10, .inl (w32 ((w32 ((w32 (v27 - a3)) - r369)) - r380))), (0, .inr (.inr a0)), (1, .inl a1), (2, .inl a2), (3, .inl a3), (4, .inl r1), (5, .inl (w32 (v27 - a3))), (6, .inl v37), (7, .inl v44), (8, .inl x354), (9, .inl x355)] (by decide) rfl dX12_mayLie_132 ?_
              refine g_iload C 6 rfl dX12_mayLie_134 ?_
              refine g_aload_n C rfl 1 rfl dX12_mayLie_136 ?_
              refine g_iload C 10 rfl dX12_mayLie_137 ?_
              refine g_iload_n C rfl 3 rfl dX12_mayLie_139 ?_
              have e388 : Tg h381 a0 = 12 := (fxT F385 e377)
              refine g_callI (st := [.inl (w32 (v27 - a3))]) (gc_V C lk_LandSurveyModel_471 (k_X12_underLow l D cy w z0 O384 e388 (iw f366 (by decide) (by decide)) fa2) e388 rfl rfl rfl ⟨by decide, by decide⟩ (Nat.le_of_ble_eq_true rfl) dX12_mayLie_140 ⟨(by decide), (by decide)⟩) (fun r389 h390 f392 K391 => ?_)
              obtain ⟨O393, F394, f395⟩ := K391
              have f396 : (-2147483648 : Int) ≤ (w32 ((w32 (v27 - a3)) - r389)) ∧ (w32 ((w32 (v27 - a3)) - r389)) ≤ (2147483647 : Int) := w32_inR _
              refine g_isubW C dX12_mayLie_143 ?_
              refine g_istore C [(11, .inl (w32 ((w32 (v27 - a3)) - r389))), (10, .inl (w32 ((w32 ((w32 (v27 - a3)) - r369)) - r380))), (0, .inr (.inr a0)), (1, .inl a1), (2, .inl a2), (3, .inl a3), (4, .inl r1), (5, .inl (w32 (v27 - a3))), (6, .inl v37), (7, .inl v44), (8, .inl x354), (9, .inl x355)] (by decide) rfl dX12_mayLie_144 ?_
              refine g_iload C 10 rfl dX12_mayLie_146 ?_
              refine g_iload C 1 rfl dX12_mayLie_148 ?_
              refine g_iload C 8 rfl dX12_mayLie_150 ?_
              refine g_icmp_le C f387 f39 160 (by decide) dX12_mayLie_152 (fun q397 => ?_) (fun q398 => ?_)
              · refine g_iload C 8 rfl dX12_mayLie_160 ?_
                refine g_iload C 0 rfl dX12_mayLie_162 ?_
                refine g_iload C 9 rfl dX12_mayLie_164 ?_
                refine g_icmp_ge C f396 (iw f247 (by decide) (by decide)) 174 (by decide) dX12_mayLie_166 (fun q399 => ?_) (fun q400 => ?_)
                · have f401 : (-2147483647 : Int) ≤ (w32 ((w32 (v27 - a3)) - r389)) ∧ (w32 ((w32 (v27 - a3)) - r389)) ≤ (2147483647 : Int) := r_ge f396 f247 q399 (by decide) (by decide)
                  refine g_iload C 9 rfl dX12_mayLie_174 ?_
                  refine g_icmp_gt C f39 (iw f247 (by decide) (by decide)) 186 (by decide) dX12_mayLie_176 (fun q402 => ?_) (fun q403 => ?_)
                  · have f404 : (-2147483647 : Int) ≤ v44 ∧ v44 ≤ (2147483646 : Int) := r_lt f247 f39 q402 (by decide) (by decide)
                    have f405 : (-2147483646 : Int) ≤ v37 ∧ v37 ≤ (2147483647 : Int) := r_gt f39 f247 q402 (by decide) (by decide)
                    refine g_iconst C dX12_mayLie_186 ?_
                    refine g_ior C dX12_mayLie_187 ?_
                    have f406 : (-2147483648 : Int) ≤ (bOr x354 0) ∧ (bOr x354 0) ≤ (2147483647 : Int) := inR_of _
                    refine g_istore C [(8, .inl (bOr x354 0)), (11, .inl (w32 ((w32 (v27 - a3)) - r389))), (10, .inl (w32 ((w32 ((w32 (v27 - a3)) - r369)) - r380))), (0, .inr (.inr a0)), (1, .inl a1), (2, .inl a2), (3, .inl a3), (4, .inl r1), (5, .inl (w32 (v27 - a3))), (6, .inl v37), (7, .inl v44), (9, .inl x355)] (by decide) rfl dX12_mayLie_188 ?_
                    have f407 : (1 : Int) ≤ (x355 + 1) ∧ (x355 + 1) ≤ (10 : Int) := ia_add f366 (il 1) (by decide) (by decide)
                    refine g_iinc C [(9, .inl (x355 + 1)), (8, .inl (bOr x354 0)), (11, .inl (w32 ((w32 (v27 - a3)) - r389))), (10, .inl (w32 ((w32 ((w32 (v27 - a3)) - r369)) - r380))), (0, .inr (.inr a0)), (1, .inl a1), (2, .inl a2), (3, .inl a3), (4, .inl r1), (5, .inl (w32 (v27 - a3))), (6, .inl v37), (7, .inl v44)] 11 rfl (by decide) rfl dX12_mayLie_190 ?_
                    refine g_goto C 108 (by decide) dX12_mayLie_193 ?_
                    refine GW.sub [4, 5, 6, 7, 8, 9, 10, 11, 1, 0] rfl ?_
                    exact ih358 _ (by omega) (bOr x354 0) (x355 + 1) h390 rfl O393 (((F361.call F374 rfl).call F385 rfl).call F394 rfl) f406 (iw f407 (by decide) (by decide))
                  · refine g_iconst C dX12_mayLie_179 ?_
                    refine g_iload C 11 rfl dX12_mayLie_180 ?_
                    refine g_ishl C dX12_mayLie_182 ?_
                    have f408 : (-2147483648 : Int) ≤ (bShl 1 x355) ∧ (bShl 1 x355) ≤ (2147483647 : Int) := inR_of _
                    refine g_goto C 187 (by decide) dX12_mayLie_183 ?_
                    refine g_ior C dX12_mayLie_187 ?_
                    have f409 : (-2147483648 : Int) ≤ (bOr x354 (bShl 1 x355)) ∧ (bOr x354 (bShl 1 x355)) ≤ (2147483647 : Int) := inR_of _
                    refine g_istore C [(8, .inl (bOr x354 (bShl 1 x355))), (11, .inl (w32 ((w32 (v27 - a3)) - r389))), (10, .inl (w32 ((w32 ((w32 (v27 - a3)) - r369)) - r380))), (0, .inr (.inr a0)), (1, .inl a1), (2, .inl a2), (3, .inl a3), (4, .inl r1), (5, .inl (w32 (v27 - a3))), (6, .inl v37), (7, .inl v44), (9, .inl x355)] (by decide) rfl dX12_mayLie_188 ?_
                    have f410 : (1 : Int) ≤ (x355 + 1) ∧ (x355 + 1) ≤ (10 : Int) := ia_add f366 (il 1) (by decide) (by decide)
                    refine g_iinc C [(9, .inl (x355 + 1)), (8, .inl (bOr x354 (bShl 1 x355))), (11, .inl (w32 ((w32 (v27 - a3)) - r389))), (10, .inl (w32 ((w32 ((w32 (v27 - a3)) - r369)) - r380))), (0, .inr (.inr a0)), (1, .inl a1), (2, .inl a2), (3, .inl a3), (4, .inl r1), (5, .inl (w32 (v27 - a3))), (6, .inl v37), (7, .inl v44)] 11 rfl (by decide) rfl dX12_mayLie_190 ?_
                    refine g_goto C 108 (by decide) dX12_mayLie_193 ?_
                    refine GW.sub [4, 5, 6, 7, 8, 9, 10, 11, 1, 0] rfl ?_
                    exact ih358 _ (by omega) (bOr x354 (bShl 1 x355)) (x355 + 1) h390 rfl O393 (((F361.call F374 rfl).call F385 rfl).call F394 rfl) f409 (iw f410 (by decide) (by decide))
                · have f411 : (-2147483648 : Int) ≤ (w32 ((w32 (v27 - a3)) - r389)) ∧ (w32 ((w32 (v27 - a3)) - r389)) ≤ (2147483646 : Int) := r_lt f396 f247 q400 (by decide) (by decide)
                  refine g_iload C 0 rfl dX12_mayLie_169 ?_
                  refine g_goto C 176 (by decide) dX12_mayLie_171 ?_
                  refine g_icmp_gt C f39 (iw f411 (by decide) (by decide)) 186 (by decide) dX12_mayLie_176 (fun q412 => ?_) (fun q413 => ?_)
                  · have f414 : (-2147483647 : Int) ≤ v37 ∧ v37 ≤ (2147483647 : Int) := r_gt f39 f411 q412 (by decide) (by decide)
                    refine g_iconst C dX12_mayLie_186 ?_
                    refine g_ior C dX12_mayLie_187 ?_
                    have f415 : (-2147483648 : Int) ≤ (bOr x354 0) ∧ (bOr x354 0) ≤ (2147483647 : Int) := inR_of _
                    refine g_istore C [(8, .inl (bOr x354 0)), (11, .inl (w32 ((w32 (v27 - a3)) - r389))), (10, .inl (w32 ((w32 ((w32 (v27 - a3)) - r369)) - r380))), (0, .inr (.inr a0)), (1, .inl a1), (2, .inl a2), (3, .inl a3), (4, .inl r1), (5, .inl (w32 (v27 - a3))), (6, .inl v37), (7, .inl v44), (9, .inl x355)] (by decide) rfl dX12_mayLie_188 ?_
                    have f416 : (1 : Int) ≤ (x355 + 1) ∧ (x355 + 1) ≤ (10 : Int) := ia_add f366 (il 1) (by decide) (by decide)
                    refine g_iinc C [(9, .inl (x355 + 1)), (8, .inl (bOr x354 0)), (11, .inl (w32 ((w32 (v27 - a3)) - r389))), (10, .inl (w32 ((w32 ((w32 (v27 - a3)) - r369)) - r380))), (0, .inr (.inr a0)), (1, .inl a1), (2, .inl a2), (3, .inl a3), (4, .inl r1), (5, .inl (w32 (v27 - a3))), (6, .inl v37), (7, .inl v44)] 11 rfl (by decide) rfl dX12_mayLie_190 ?_
                    refine g_goto C 108 (by decide) dX12_mayLie_193 ?_
                    refine GW.sub [4, 5, 6, 7, 8, 9, 10, 11, 1, 0] rfl ?_
                    exact ih358 _ (by omega) (bOr x354 0) (x355 + 1) h390 rfl O393 (((F361.call F374 rfl).call F385 rfl).call F394 rfl) f415 (iw f416 (by decide) (by decide))
                  · have f417 : (-2147483648 : Int) ≤ v37 ∧ v37 ≤ (2147483646 : Int) := r_le f39 f411 q413 (by decide) (by decide)
                    refine g_iconst C dX12_mayLie_179 ?_
                    refine g_iload C 11 rfl dX12_mayLie_180 ?_
                    refine g_ishl C dX12_mayLie_182 ?_
                    have f418 : (-2147483648 : Int) ≤ (bShl 1 x355) ∧ (bShl 1 x355) ≤ (2147483647 : Int) := inR_of _
                    refine g_goto C 187 (by decide) dX12_mayLie_183 ?_
                    refine g_ior C dX12_mayLie_187 ?_
                    have f419 : (-2147483648 : Int) ≤ (bOr x354 (bShl 1 x355)) ∧ (bOr x354 (bShl 1 x355)) ≤ (2147483647 : Int) := inR_of _
                    refine g_istore C [(8, .inl (bOr x354 (bShl 1 x355))), (11, .inl (w32 ((w32 (v27 - a3)) - r389))), (10, .inl (w32 ((w32 ((w32 (v27 - a3)) - r369)) - r380))), (0, .inr (.inr a0)), (1, .inl a1), (2, .inl a2), (3, .inl a3), (4, .inl r1), (5, .inl (w32 (v27 - a3))), (6, .inl v37), (7, .inl v44), (9, .inl x355)] (by decide) rfl dX12_mayLie_188 ?_
                    have f420 : (1 : Int) ≤ (x355 + 1) ∧ (x355 + 1) ≤ (10 : Int) := ia_add f366 (il 1) (by decide) (by decide)
                    refine g_iinc C [(9, .inl (x355 + 1)), (8, .inl (bOr x354 (bShl 1 x355))), (11, .inl (w32 ((w32 (v27 - a3)) - r389))), (10, .inl (w32 ((w32 ((w32 (v27 - a3)) - r369)) - r380))), (0, .inr (.inr a0)), (1, .inl a1), (2, .inl a2), (3, .inl a3), (4, .inl r1), (5, .inl (w32 (v27 - a3))), (6, .inl v37), (7, .inl v44)] 11 rfl (by decide) rfl dX12_mayLie_190 ?_
                    refine g_goto C 108 (by decide) dX12_mayLie_193 ?_
                    refine GW.sub [4, 5, 6, 7, 8, 9, 10, 11, 1, 0] rfl ?_
                    exact ih358 _ (by omega) (bOr x354 (bShl 1 x355)) (x355 + 1) h390 rfl O393 (((F361.call F374 rfl).call F385 rfl).call F394 rfl) f419 (iw f420 (by decide) (by decide))
              · have f421 : (-2147483648 : Int) ≤ v37 ∧ v37 ≤ (2147483646 : Int) := r_lt f39 f387 q398 (by decide) (by decide)
                have f422 : (-2147483647 : Int) ≤ (w32 ((w32 ((w32 (v27 - a3)) - r369)) - r380)) ∧ (w32 ((w32 ((w32 (v27 - a3)) - r369)) - r380)) ≤ (2147483647 : Int) := r_gt f387 f39 q398 (by decide) (by decide)
                refine g_iload C 1 rfl dX12_mayLie_155 ?_
                refine g_goto C 162 (by decide) dX12_mayLie_157 ?_
                refine g_iload C 0 rfl dX12_mayLie_162 ?_
                refine g_iload C 9 rfl dX12_mayLie_164 ?_
                refine g_icmp_ge C f396 (iw f247 (by decide) (by decide)) 174 (by decide) dX12_mayLie_166 (fun q423 => ?_) (fun q424 => ?_)
                · have f425 : (-2147483647 : Int) ≤ (w32 ((w32 (v27 - a3)) - r389)) ∧ (w32 ((w32 (v27 - a3)) - r389)) ≤ (2147483647 : Int) := r_ge f396 f247 q423 (by decide) (by decide)
                  refine g_iload C 9 rfl dX12_mayLie_174 ?_
                  refine g_icmp_gt C (iw f422 (by decide) (by decide)) (iw f247 (by decide) (by decide)) 186 (by decide) dX12_mayLie_176 (fun q426 => ?_) (fun q427 => ?_)
                  · have f428 : (-2147483647 : Int) ≤ v44 ∧ v44 ≤ (2147483646 : Int) := r_lt f247 f422 q426 (by decide) (by decide)
                    have f429 : (-2147483646 : Int) ≤ (w32 ((w32 ((w32 (v27 - a3)) - r369)) - r380)) ∧ (w32 ((w32 ((w32 (v27 - a3)) - r369)) - r380)) ≤ (2147483647 : Int) := r_gt f422 f247 q426 (by decide) (by decide)
                    refine g_iconst C dX12_mayLie_186 ?_
                    refine g_ior C dX12_mayLie_187 ?_
                    have f430 : (-2147483648 : Int) ≤ (bOr x354 0) ∧ (bOr x354 0) ≤ (2147483647 : Int) := inR_of _
                    refine g_istore C [(8, .inl (bOr x354 0)), (11, .inl (w32 ((w32 (v27 - a3)) - r389))), (10, .inl (w32 ((w32 ((w32 (v27 - a3)) - r369)) - r380))), (0, .inr (.inr a0)), (1, .inl a1), (2, .inl a2), (3, .inl a3), (4, .inl r1), (5, .inl (w32 (v27 - a3))), (6, .inl v37), (7, .inl v44), (9, .inl x355)] (by decide) rfl dX12_mayLie_188 ?_
                    have f431 : (1 : Int) ≤ (x355 + 1) ∧ (x355 + 1) ≤ (10 : Int) := ia_add f366 (il 1) (by decide) (by decide)
                    refine g_iinc C [(9, .inl (x355 + 1)), (8, .inl (bOr x354 0)), (11, .inl (w32 ((w32 (v27 - a3)) - r389))), (10, .inl (w32 ((w32 ((w32 (v27 - a3)) - r369)) - r380))), (0, .inr (.inr a0)), (1, .inl a1), (2, .inl a2), (3, .inl a3), (4, .inl r1), (5, .inl (w32 (v27 - a3))), (6, .inl v37), (7, .inl v44)] 11 rfl (by decide) rfl dX12_mayLie_190 ?_
                    refine g_goto C 108 (by decide) dX12_mayLie_193 ?_
                    refine GW.sub [4, 5, 6, 7, 8, 9, 10, 11, 1, 0] rfl ?_
                    exact ih358 _ (by omega) (bOr x354 0) (x355 + 1) h390 rfl O393 (((F361.call F374 rfl).call F385 rfl).call F394 rfl) f430 (iw f431 (by decide) (by decide))
                  · refine g_iconst C dX12_mayLie_179 ?_
                    refine g_iload C 11 rfl dX12_mayLie_180 ?_
                    refine g_ishl C dX12_mayLie_182 ?_
                    have f432 : (-2147483648 : Int) ≤ (bShl 1 x355) ∧ (bShl 1 x355) ≤ (2147483647 : Int) := inR_of _
                    refine g_goto C 187 (by decide) dX12_mayLie_183 ?_
                    refine g_ior C dX12_mayLie_187 ?_
                    have f433 : (-2147483648 : Int) ≤ (bOr x354 (bShl 1 x355)) ∧ (bOr x354 (bShl 1 x355)) ≤ (2147483647 : Int) := inR_of _
                    refine g_istore C [(8, .inl (bOr x354 (bShl 1 x355))), (11, .inl (w32 ((w32 (v27 - a3)) - r389))), (10, .inl (w32 ((w32 ((w32 (v27 - a3)) - r369)) - r380))), (0, .inr (.inr a0)), (1, .inl a1), (2, .inl a2), (3, .inl a3), (4, .inl r1), (5, .inl (w32 (v27 - a3))), (6, .inl v37), (7, .inl v44), (9, .inl x355)] (by decide) rfl dX12_mayLie_188 ?_
                    have f434 : (1 : Int) ≤ (x355 + 1) ∧ (x355 + 1) ≤ (10 : Int) := ia_add f366 (il 1) (by decide) (by decide)
                    refine g_iinc C [(9, .inl (x355 + 1)), (8, .inl (bOr x354 (bShl 1 x355))), (11, .inl (w32 ((w32 (v27 - a3)) - r389))), (10, .inl (w32 ((w32 ((w32 (v27 - a3)) - r369)) - r380))), (0, .inr (.inr a0)), (1, .inl a1), (2, .inl a2), (3, .inl a3), (4, .inl r1), (5, .inl (w32 (v27 - a3))), (6, .inl v37), (7, .inl v44)] 11 rfl (by decide) rfl dX12_mayLie_190 ?_
                    refine g_goto C 108 (by decide) dX12_mayLie_193 ?_
                    refine GW.sub [4, 5, 6, 7, 8, 9, 10, 11, 1, 0] rfl ?_
                    exact ih358 _ (by omega) (bOr x354 (bShl 1 x355)) (x355 + 1) h390 rfl O393 (((F361.call F374 rfl).call F385 rfl).call F394 rfl) f433 (iw f434 (by decide) (by decide))
                · have f435 : (-2147483648 : Int) ≤ (w32 ((w32 (v27 - a3)) - r389)) ∧ (w32 ((w32 (v27 - a3)) - r389)) ≤ (2147483646 : Int) := r_lt f396 f247 q424 (by decide) (by decide)
                  refine g_iload C 0 rfl dX12_mayLie_169 ?_
                  refine g_goto C 176 (by decide) dX12_mayLie_171 ?_
                  refine g_icmp_gt C (iw f422 (by decide) (by decide)) (iw f435 (by decide) (by decide)) 186 (by decide) dX12_mayLie_176 (fun q436 => ?_) (fun q437 => ?_)
                  · refine g_iconst C dX12_mayLie_186 ?_
                    refine g_ior C dX12_mayLie_187 ?_
                    have f438 : (-2147483648 : Int) ≤ (bOr x354 0) ∧ (bOr x354 0) ≤ (2147483647 : Int) := inR_of _
                    refine g_istore C [(8, .inl (bOr x354 0)), (11, .inl (w32 ((w32 (v27 - a3)) - r389))), (10, .inl (w32 ((w32 ((w32 (v27 - a3)) - r369)) - r380))), (0, .inr (.inr a0)), (1, .inl a1), (2, .inl a2), (3, .inl a3), (4, .inl r1), (5, .inl (w32 (v27 - a3))), (6, .inl v37), (7, .inl v44), (9, .inl x355)] (by decide) rfl dX12_mayLie_188 ?_
                    have f439 : (1 : Int) ≤ (x355 + 1) ∧ (x355 + 1) ≤ (10 : Int) := ia_add f366 (il 1) (by decide) (by decide)
                    refine g_iinc C [(9, .inl (x355 + 1)), (8, .inl (bOr x354 0)), (11, .inl (w32 ((w32 (v27 - a3)) - r389))), (10, .inl (w32 ((w32 ((w32 (v27 - a3)) - r369)) - r380))), (0, .inr (.inr a0)), (1, .inl a1), (2, .inl a2), (3, .inl a3), (4, .inl r1), (5, .inl (w32 (v27 - a3))), (6, .inl v37), (7, .inl v44)] 11 rfl (by decide) rfl dX12_mayLie_190 ?_
                    refine g_goto C 108 (by decide) dX12_mayLie_193 ?_
                    refine GW.sub [4, 5, 6, 7, 8, 9, 10, 11, 1, 0] rfl ?_
                    exact ih358 _ (by omega) (bOr x354 0) (x355 + 1) h390 rfl O393 (((F361.call F374 rfl).call F385 rfl).call F394 rfl) f438 (iw f439 (by decide) (by decide))
                  · have f440 : (-2147483647 : Int) ≤ (w32 ((w32 ((w32 (v27 - a3)) - r369)) - r380)) ∧ (w32 ((w32 ((w32 (v27 - a3)) - r369)) - r380)) ≤ (2147483646 : Int) := r_le f422 f435 q437 (by decide) (by decide)
                    have f441 : (-2147483647 : Int) ≤ (w32 ((w32 (v27 - a3)) - r389)) ∧ (w32 ((w32 (v27 - a3)) - r389)) ≤ (2147483646 : Int) := r_ge f435 f422 q437 (by decide) (by decide)
                    refine g_iconst C dX12_mayLie_179 ?_
                    refine g_iload C 11 rfl dX12_mayLie_180 ?_
                    refine g_ishl C dX12_mayLie_182 ?_
                    have f442 : (-2147483648 : Int) ≤ (bShl 1 x355) ∧ (bShl 1 x355) ≤ (2147483647 : Int) := inR_of _
                    refine g_goto C 187 (by decide) dX12_mayLie_183 ?_
                    refine g_ior C dX12_mayLie_187 ?_
                    have f443 : (-2147483648 : Int) ≤ (bOr x354 (bShl 1 x355)) ∧ (bOr x354 (bShl 1 x355)) ≤ (2147483647 : Int) := inR_of _
                    refine g_istore C [(8, .inl (bOr x354 (bShl 1 x355))), (11, .inl (w32 ((w32 (v27 - a3)) - r389))), (10, .inl (w32 ((w32 ((w32 (v27 - a3)) - r369)) - r380))), (0, .inr (.inr a0)), (1, .inl a1), (2, .inl a2), (3, .inl a3), (4, .inl r1), (5, .inl (w32 (v27 - a3))), (6, .inl v37), (7, .inl v44), (9, .inl x355)] (by decide) rfl dX12_mayLie_188 ?_
                    have f444 : (1 : Int) ≤ (x355 + 1) ∧ (x355 + 1) ≤ (10 : Int) := ia_add f366 (il 1) (by decide) (by decide)
                    refine g_iinc C [(9, .inl (x355 + 1)), (8, .inl (bOr x354 (bShl 1 x355))), (11, .inl (w32 ((w32 (v27 - a3)) - r389))), (10, .inl (w32 ((w32 ((w32 (v27 - a3)) - r369)) - r380))), (0, .inr (.inr a0)), (1, .inl a1), (2, .inl a2), (3, .inl a3), (4, .inl r1), (5, .inl (w32 (v27 - a3))), (6, .inl v37), (7, .inl v44)] 11 rfl (by decide) rfl dX12_mayLie_190 ?_
                    refine g_goto C 108 (by decide) dX12_mayLie_193 ?_
                    refine GW.sub [4, 5, 6, 7, 8, 9, 10, 11, 1, 0] rfl ?_
                    exact ih358 _ (by omega) (bOr x354 (bShl 1 x355)) (x355 + 1) h390 rfl O393 (((F361.call F374 rfl).call F385 rfl).call F394 rfl) f443 (iw f444 (by decide) (by decide))
        exact L357 _ (bOr 1024 2048) 0 h250 rfl O253 Fx.rf f353 (iw (il 0) (by decide) (by decide))
  · have f445 : (0 : Int) ≤ v17 ∧ v17 ≤ (0 : Int) := ii f19 (r_eq (il 0) q21) (by decide) (by decide)
    refine g_iconst C dX12_mayLie_15 ?_
    refine g_iload C 0 rfl dX12_mayLie_16 ?_
    refine g_ishl C dX12_mayLie_18 ?_
    have f446 : (-2147483648 : Int) ≤ (bShl 1 r1) ∧ (bShl 1 r1) ≤ (2147483647 : Int) := inR_of _
    refine g_iconst C dX12_mayLie_19 ?_
    have f447 : (-2147483648 : Int) ≤ (w32 ((bShl 1 r1) - 1)) ∧ (w32 ((bShl 1 r1) - 1)) ≤ (2147483647 : Int) := w32_inR _
    refine g_isubW C dX12_mayLie_20 ?_
    refine g_sipush C (by decide) dX12_mayLie_21 ?_
    refine g_ior C dX12_mayLie_24 ?_
    have f448 : (-2147483648 : Int) ≤ (bOr (w32 ((bShl 1 r1) - 1)) 1024) ∧ (bOr (w32 ((bShl 1 r1) - 1)) 1024) ≤ (2147483647 : Int) := inR_of _
    refine g_sipush C (by decide) dX12_mayLie_25 ?_
    refine g_ior C dX12_mayLie_28 ?_
    have f449 : (-2147483648 : Int) ≤ (bOr (bOr (w32 ((bShl 1 r1) - 1)) 1024) 2048) ∧ (bOr (bOr (w32 ((bShl 1 r1) - 1)) 1024) 2048) ≤ (2147483647 : Int) := inR_of _
    exact g_iret C hr rfl f449 ⟨O5, ((Fx.rf (wr := wr_k_X12_mayLie)).call F6 rfl), f449⟩ (by decide) (by decide) dX12_mayLie_29
def wr_k_X12_mayLieAll : List Nat := []
set_option maxRecDepth 100000 in
set_option maxHeartbeats 4000000 in
theorem k_X12_mayLieAll (l : Launch) (D : va_G) (cy : Nat → ClassId) (w : Nat → Nat) (z0 : Nat)  {h : Hp} {a0 : Nat} {a1 : Int} {a2 : Int}  (O : Okh h) (ta0 : Tg h a0 = 12) (fa1 : 0 ≤ a1 ∧ a1 ≤ 95) (fa2 : (-2147483648) ≤ a2 ∧ a2 ≤ 2147483647) : MI l D cy w z0 yX12_mayLieAll cX12_mayLieAll 5 (some .int) 5 118 0 0 [.inr (.inr a0), .inl a1, .inl a2] h (fun v h1 => Okh h1 ∧ Fx wr_k_X12_mayLieAll h h1 ∧ ((-2147483648) ≤ v ∧ v ≤ 2147483647)) := by
  refine hm_go (by decide +kernel) (Nat.le_of_ble_eq_true rfl) (fun p e s m below meth c C hr hn => ?_)
  refine g_iconst C dX12_mayLieAll_0 ?_
  refine g_istore_n C [(3, .inl 0), (0, .inr (.inr a0)), (1, .inl a1), (2, .inl a2)] rfl (by decide) rfl dX12_mayLieAll_1 ?_
  refine g_iconst C dX12_mayLieAll_2 ?_
  refine g_istore C [(4, .inl 0), (3, .inl 0), (0, .inr (.inr a0)), (1, .inl a1), (2, .inl a2)] (by decide) rfl dX12_mayLieAll_3 ?_
  refine GW.sub [2, 3, 4, 1, 0] rfl ?_
  -- loop at 5
  have L4 : ∀ (μ : Nat) (x1 : Int) (x2 : Int) (h3 : Hp), (16 - x2).toNat = μ → Okh h3 → Fx [] h h3 → ((-2147483648 : Int) ≤ x1 ∧ x1 ≤ (2147483647 : Int)) → ((0 : Int) ≤ x2 ∧ x2 ≤ (16 : Int)) → GW p l e (rmm 5 118 0 0) s m (List.map toV [.inr (.inr a0), .inl a1, .inl a2]).toArray below meth c D cy z0 5 (MQ below (QI D cy z0 (fun v h1 => Okh h1 ∧ Fx wr_k_X12_mayLieAll h h1 ∧ ((-2147483648) ≤ v ∧ v ≤ 2147483647))) (List.map toV [.inr (.inr a0), .inl a1, .inl a2]).toArray s 0 0 (Aof z0)) 5 [(0, .inr (.inr a0)), (1, .inl a1), (2, .inl a2), (3, .inl x1), (4, .inl x2)] [] h3 0 0 := by
    intro μ
    induction μ using Nat.strongRecOn with
    | ind μ ih5 =>
      intro x1 x2 h3 hm6 O7 F8 f9 f10
      refine g_iload C 4 rfl dX12_mayLieAll_5 ?_
      refine g_iconst C dX12_mayLieAll_7 ?_
      refine g_aload_n C rfl 0 rfl dX12_mayLieAll_8 ?_
      have e11 : Tg h3 a0 = 12 := (fxT F8 ta0)
      obtain ⟨v12, e13⟩ : ∃ z, Iv h3 a0 57 = z := ⟨_, rfl⟩
      have f14 := ok_I O7 e11 rI_12_57 e13
      refine gf_I C fk_LandSurveyModel_477 rfl e11 e13 dX12_mayLieAll_9 ?_
      refine g_ishl C dX12_mayLieAll_12 ?_
      have f15 : (1 : Int) ≤ (bShl 1 v12) ∧ (bShl 1 v12) ≤ (16 : Int) := bShl_4 f14
      refine g_icmp_ge C (iw f10 (by decide) (by decide)) (iw f15 (by decide) (by decide)) 47 (by decide) dX12_mayLieAll_13 (fun q16 => ?_) (fun q17 => ?_)
      · have f18 : (1 : Int) ≤ x2 ∧ x2 ≤ (16 : Int) := r_ge f10 f15 q16 (by decide) (by decide)
        refine g_iload_n C rfl 3 rfl dX12_mayLieAll_47 ?_
        exact g_iret C hr rfl f9 ⟨O7, ((Fx.rf (wr := wr_k_X12_mayLieAll)).call F8 rfl), f9⟩ (by decide) (by decide) dX12_mayLieAll_48
      · have f19 : (0 : Int) ≤ x2 ∧ x2 ≤ (15 : Int) := r_lt f10 f15 q17 (by decide) (by decide)
        refine g_iload_n C rfl 3 rfl dX12_mayLieAll_16 ?_
        refine g_aload_n C rfl 0 rfl dX12_mayLieAll_17 ?_
        obtain ⟨v20, e21⟩ : ∃ z, Rv h3 a0 73 = z := ⟨_, rfl⟩
        have t22 := ok_R O7 e11 rE_12_73 e21
        have l23 := ok_L O7 e11 rE_12_73 e21
        refine gf_R C fk_LandSurveyModel_260 rfl e11 e21 dX12_mayLieAll_18 ?_
        refine g_iload C 4 rfl dX12_mayLieAll_21 ?_
        obtain ⟨v24, e25⟩ : ∃ z, Iv h3 v20 x2.toNat = z := ⟨_, rfl⟩
        have f26 := ok_Ia O7 t22 ar_173101 rI_173101_0 e25
        refine g_zald C t22 rfl l23 (ix f19 (by decide) (by decide)) e25 dX12_mayLieAll_23 ?_
        refine g_if_eq C (iw f26 (by decide) (by decide)) 38 (by decide) dX12_mayLieAll_24 (fun q27 => ?_) (fun q28 => ?_)
        · have f29 : (0 : Int) ≤ v24 ∧ v24 ≤ (0 : Int) := ii f26 (r_eq (il 0) q27) (by decide) (by decide)
          refine g_iconst C dX12_mayLieAll_38 ?_
          refine g_ior C dX12_mayLieAll_39 ?_
          have f30 : (-2147483648 : Int) ≤ (bOr x1 0) ∧ (bOr x1 0) ≤ (2147483647 : Int) := inR_of _
          refine g_istore_n C [(3, .inl (bOr x1 0)), (0, .inr (.inr a0)), (1, .inl a1), (2, .inl a2), (4, .inl x2)] rfl (by decide) rfl dX12_mayLieAll_40 ?_
          have f31 : (1 : Int) ≤ (x2 + 1) ∧ (x2 + 1) ≤ (16 : Int) := ia_add f19 (il 1) (by decide) (by decide)
          refine g_iinc C [(4, .inl (x2 + 1)), (3, .inl (bOr x1 0)), (0, .inr (.inr a0)), (1, .inl a1), (2, .inl a2)] 4 rfl (by decide) rfl dX12_mayLieAll_41 ?_
          refine g_goto C 5 (by decide) dX12_mayLieAll_44 ?_
          refine GW.sub [2, 3, 4, 1, 0] rfl ?_
          exact ih5 _ (by omega) (bOr x1 0) (x2 + 1) h3 rfl O7 F8 f30 (iw f31 (by decide) (by decide))
        · have f32 : (1 : Int) ≤ v24 ∧ v24 ≤ (1 : Int) := r_nl f26 q28
          refine g_aload_n C rfl 0 rfl dX12_mayLieAll_27 ?_
          refine g_iload C 4 rfl dX12_mayLieAll_28 ?_
          refine g_iload_n C rfl 1 rfl dX12_mayLieAll_30 ?_
          refine g_iload_n C rfl 2 rfl dX12_mayLieAll_31 ?_
          refine g_callI (st := [.inl x1]) (gc_V C lk_LandSurveyModel_572 (k_X12_mayLie l D cy w z0 O7 e11 f19 fa1 fa2) e11 rfl rfl rfl ⟨by decide, by decide⟩ (Nat.le_of_ble_eq_true rfl) dX12_mayLieAll_32 ⟨(by decide), (by decide)⟩) (fun r33 h34 f36 K35 => ?_)
          obtain ⟨O37, F38, f39⟩ := K35
          refine g_goto C 39 (by decide) dX12_mayLieAll_35 ?_
          refine g_ior C dX12_mayLieAll_39 ?_
          have f40 : (-2147483648 : Int) ≤ (bOr x1 r33) ∧ (bOr x1 r33) ≤ (2147483647 : Int) := inR_of _
          refine g_istore_n C [(3, .inl (bOr x1 r33)), (0, .inr (.inr a0)), (1, .inl a1), (2, .inl a2), (4, .inl x2)] rfl (by decide) rfl dX12_mayLieAll_40 ?_
          have f41 : (1 : Int) ≤ (x2 + 1) ∧ (x2 + 1) ≤ (16 : Int) := ia_add f19 (il 1) (by decide) (by decide)
          refine g_iinc C [(4, .inl (x2 + 1)), (3, .inl (bOr x1 r33)), (0, .inr (.inr a0)), (1, .inl a1), (2, .inl a2)] 4 rfl (by decide) rfl dX12_mayLieAll_41 ?_
          refine g_goto C 5 (by decide) dX12_mayLieAll_44 ?_
          refine GW.sub [2, 3, 4, 1, 0] rfl ?_
          exact ih5 _ (by omega) (bOr x1 r33) (x2 + 1) h34 rfl O37 (F8.call F38 rfl) f40 (iw f41 (by decide) (by decide))
  exact L4 _ 0 0 h rfl O Fx.rf (iw (il 0) (by decide) (by decide)) (iw (il 0) (by decide) (by decide))
def wr_k_X12_areKnown : List Nat := []
set_option maxRecDepth 100000 in
set_option maxHeartbeats 4000000 in
theorem k_X12_areKnown (l : Launch) (D : va_G) (cy : Nat → ClassId) (w : Nat → Nat) (z0 : Nat)  {h : Hp} {a0 : Nat}  (O : Okh h) (ta0 : Tg h a0 = 12) : MI l D cy w z0 yX12_areKnown cX12_areKnown 3 (some .boolean) 0 0 0 0 [.inr (.inr a0)] h (fun v h1 => Okh h1 ∧ Fx wr_k_X12_areKnown h h1 ∧ (0 ≤ v ∧ v ≤ 1)) := by
  refine hm_go (by decide +kernel) (Nat.le_of_ble_eq_true rfl) (fun p e s m below meth c C hr hn => ?_)
  refine g_aload_n C rfl 0 rfl dX12_areKnown_0 ?_
  obtain ⟨v1, e2⟩ : ∃ z, Iv h a0 78 = z := ⟨_, rfl⟩
  have f3 := ok_I O ta0 rI_12_78 e2
  refine gf_I C fk_LandSurveyModel_546 rfl ta0 e2 dX12_areKnown_1 ?_
  refine g_if_le C (iw f3 (by decide) (by decide)) 11 (by decide) dX12_areKnown_4 (fun q4 => ?_) (fun q5 => ?_)
  · have f6 : (0 : Int) ≤ v1 ∧ v1 ≤ (0 : Int) := r_le f3 (il 0) q4 (by decide) (by decide)
    refine g_iconst C dX12_areKnown_11 ?_
    refine g_istore_n C [(1, .inl 0), (0, .inr (.inr a0))] rfl (by decide) rfl dX12_areKnown_12 ?_
    refine g_iconst C dX12_areKnown_13 ?_
    refine g_istore_n C [(2, .inl 0), (1, .inl 0), (0, .inr (.inr a0))] rfl (by decide) rfl dX12_areKnown_14 ?_
    refine GW.sub [2, 1, 0] rfl ?_
    -- loop at 15
    have L9 : ∀ (μ : Nat) (x7 : Int) (x8 : Int), (16 - x8).toNat = μ → ((0 : Int) ≤ x7 ∧ x7 ≤ (1 : Int)) → ((0 : Int) ≤ x8 ∧ x8 ≤ (16 : Int)) → GW p l e (rmm 0 0 0 0) s m (List.map toV [.inr (.inr a0)]).toArray below meth c D cy z0 3 (MQ below (QI D cy z0 (fun v h1 => Okh h1 ∧ Fx wr_k_X12_areKnown h h1 ∧ (0 ≤ v ∧ v ≤ 1))) (List.map toV [.inr (.inr a0)]).toArray s 0 0 (Aof z0)) 15 [(0, .inr (.inr a0)), (1, .inl x7), (2, .inl x8)] [] h 0 0 := by
      intro μ
      induction μ using Nat.strongRecOn with
      | ind μ ih10 =>
        intro x7 x8 hm11 f12 f13
        refine g_iload_n C rfl 2 rfl dX12_areKnown_15 ?_
        refine g_iconst C dX12_areKnown_16 ?_
        refine g_aload_n C rfl 0 rfl dX12_areKnown_17 ?_
        obtain ⟨v14, e15⟩ : ∃ z, Iv h a0 57 = z := ⟨_, rfl⟩
        have f16 := ok_I O ta0 rI_12_57 e15
        refine gf_I C fk_LandSurveyModel_477 rfl ta0 e15 dX12_areKnown_18 ?_
        refine g_ishl C dX12_areKnown_21 ?_
        have f17 : (1 : Int) ≤ (bShl 1 v14) ∧ (bShl 1 v14) ≤ (16 : Int) := bShl_4 f16
        refine g_icmp_ge C (iw f13 (by decide) (by decide)) (iw f17 (by decide) (by decide)) 59 (by decide) dX12_areKnown_22 (fun q18 => ?_) (fun q19 => ?_)
        · have f20 : (1 : Int) ≤ x8 ∧ x8 ≤ (16 : Int) := r_ge f13 f17 q18 (by decide) (by decide)
          refine g_iload_n C rfl 1 rfl dX12_areKnown_59 ?_
          exact g_iret C hr (nar_z2 f12).1 (iw f12 (by decide) (by decide)) ⟨O, Fx.rf, f12⟩ (by decide) (by decide) dX12_areKnown_60
        · have f21 : (0 : Int) ≤ x8 ∧ x8 ≤ (15 : Int) := r_lt f13 f17 q19 (by decide) (by decide)
          refine g_iload_n C rfl 1 rfl dX12_areKnown_25 ?_
          refine g_if_eq C (iw f12 (by decide) (by decide)) 51 (by decide) dX12_areKnown_26 (fun q22 => ?_) (fun q23 => ?_)
          · have f24 : (0 : Int) ≤ x7 ∧ x7 ≤ (0 : Int) := ii f12 (r_eq (il 0) q22) (by decide) (by decide)
            refine g_iconst C dX12_areKnown_51 ?_
            refine g_istore_n C [(1, .inl 0), (0, .inr (.inr a0)), (2, .inl x8)] rfl (by decide) rfl dX12_areKnown_52 ?_
            have f25 : (1 : Int) ≤ (x8 + 1) ∧ (x8 + 1) ≤ (16 : Int) := ia_add f21 (il 1) (by decide) (by decide)
            refine g_iinc C [(2, .inl (x8 + 1)), (1, .inl 0), (0, .inr (.inr a0))] 2 rfl (by decide) rfl dX12_areKnown_53 ?_
            refine g_goto C 15 (by decide) dX12_areKnown_56 ?_
            refine GW.sub [2, 1, 0] rfl ?_
            exact ih10 _ (by omega) 0 (x8 + 1) rfl (iw (il 0) (by decide) (by decide)) (iw f25 (by decide) (by decide))
          · have f26 : (1 : Int) ≤ x7 ∧ x7 ≤ (1 : Int) := r_nl f12 q23
            refine g_aload_n C rfl 0 rfl dX12_areKnown_29 ?_
            obtain ⟨v27, e28⟩ : ∃ z, Rv h a0 73 = z := ⟨_, rfl⟩
            have t29 := ok_R O ta0 rE_12_73 e28
            have l30 := ok_L O ta0 rE_12_73 e28
            refine gf_R C fk_LandSurveyModel_260 rfl ta0 e28 dX12_areKnown_30 ?_
            refine g_iload_n C rfl 2 rfl dX12_areKnown_33 ?_
            obtain ⟨v31, e32⟩ : ∃ z, Iv h v27 x8.toNat = z := ⟨_, rfl⟩
            have f33 := ok_Ia O t29 ar_173101 rI_173101_0 e32
            refine g_zald C t29 rfl l30 (ix f21 (by decide) (by decide)) e32 dX12_areKnown_34 ?_
            refine g_if_eq C (iw f33 (by decide) (by decide)) 47 (by decide) dX12_areKnown_35 (fun q34 => ?_) (fun q35 => ?_)
            · have f36 : (0 : Int) ≤ v31 ∧ v31 ≤ (0 : Int) := ii f33 (r_eq (il 0) q34) (by decide) (by decide)
              refine g_iconst C dX12_areKnown_47 ?_
              refine g_goto C 52 (by decide) dX12_areKnown_48 ?_
              refine g_istore_n C [(1, .inl 1), (0, .inr (.inr a0)), (2, .inl x8)] rfl (by decide) rfl dX12_areKnown_52 ?_
              have f37 : (1 : Int) ≤ (x8 + 1) ∧ (x8 + 1) ≤ (16 : Int) := ia_add f21 (il 1) (by decide) (by decide)
              refine g_iinc C [(2, .inl (x8 + 1)), (1, .inl 1), (0, .inr (.inr a0))] 2 rfl (by decide) rfl dX12_areKnown_53 ?_
              refine g_goto C 15 (by decide) dX12_areKnown_56 ?_
              refine GW.sub [2, 1, 0] rfl ?_
              exact ih10 _ (by omega) 1 (x8 + 1) rfl (iw (il 1) (by decide) (by decide)) (iw f37 (by decide) (by decide))
            · have f38 : (1 : Int) ≤ v31 ∧ v31 ≤ (1 : Int) := r_nl f33 q35
              refine g_aload_n C rfl 0 rfl dX12_areKnown_38 ?_
              obtain ⟨v39, e40⟩ : ∃ z, Rv h a0 74 = z := ⟨_, rfl⟩
              have t41 := ok_R O ta0 rE_12_74 e40
              have l42 := ok_L O ta0 rE_12_74 e40
              refine gf_R C fk_LandSurveyModel_263 rfl ta0 e40 dX12_areKnown_39 ?_
              refine g_iload_n C rfl 2 rfl dX12_areKnown_42 ?_
              obtain ⟨v43, e44⟩ : ∃ z, Iv h v39 x8.toNat = z := ⟨_, rfl⟩
              have f45 := ok_Ia O t41 ar_174101 rI_174101_0 e44
              refine g_zald C t41 rfl l42 (ix f21 (by decide) (by decide)) e44 dX12_areKnown_43 ?_
              refine g_if_eq C (iw f45 (by decide) (by decide)) 51 (by decide) dX12_areKnown_44 (fun q46 => ?_) (fun q47 => ?_)
              · have f48 : (0 : Int) ≤ v43 ∧ v43 ≤ (0 : Int) := ii f45 (r_eq (il 0) q46) (by decide) (by decide)
                refine g_iconst C dX12_areKnown_51 ?_
                refine g_istore_n C [(1, .inl 0), (0, .inr (.inr a0)), (2, .inl x8)] rfl (by decide) rfl dX12_areKnown_52 ?_
                have f49 : (1 : Int) ≤ (x8 + 1) ∧ (x8 + 1) ≤ (16 : Int) := ia_add f21 (il 1) (by decide) (by decide)
                refine g_iinc C [(2, .inl (x8 + 1)), (1, .inl 0), (0, .inr (.inr a0))] 2 rfl (by decide) rfl dX12_areKnown_53 ?_
                refine g_goto C 15 (by decide) dX12_areKnown_56 ?_
                refine GW.sub [2, 1, 0] rfl ?_
                exact ih10 _ (by omega) 0 (x8 + 1) rfl (iw (il 0) (by decide) (by decide)) (iw f49 (by decide) (by decide))
              · have f50 : (1 : Int) ≤ v43 ∧ v43 ≤ (1 : Int) := r_nl f45 q47
                refine g_iconst C dX12_areKnown_47 ?_
                refine g_goto C 52 (by decide) dX12_areKnown_48 ?_
                refine g_istore_n C [(1, .inl 1), (0, .inr (.inr a0)), (2, .inl x8)] rfl (by decide) rfl dX12_areKnown_52 ?_
                have f51 : (1 : Int) ≤ (x8 + 1) ∧ (x8 + 1) ≤ (16 : Int) := ia_add f21 (il 1) (by decide) (by decide)
                refine g_iinc C [(2, .inl (x8 + 1)), (1, .inl 1), (0, .inr (.inr a0))] 2 rfl (by decide) rfl dX12_areKnown_53 ?_
                refine g_goto C 15 (by decide) dX12_areKnown_56 ?_
                refine GW.sub [2, 1, 0] rfl ?_
                exact ih10 _ (by omega) 1 (x8 + 1) rfl (iw (il 1) (by decide) (by decide)) (iw f51 (by decide) (by decide))
    exact L9 _ 0 0 rfl (iw (il 0) (by decide) (by decide)) (iw (il 0) (by decide) (by decide))
  · have f52 : (1 : Int) ≤ v1 ∧ v1 ≤ (16 : Int) := r_gt f3 (il 0) q5 (by decide) (by decide)
    refine g_iconst C dX12_areKnown_7 ?_
    refine g_goto C 12 (by decide) dX12_areKnown_8 ?_
    refine g_istore_n C [(1, .inl 1), (0, .inr (.inr a0))] rfl (by decide) rfl dX12_areKnown_12 ?_
    refine g_iconst C dX12_areKnown_13 ?_
    refine g_istore_n C [(2, .inl 0), (1, .inl 1), (0, .inr (.inr a0))] rfl (by decide) rfl dX12_areKnown_14 ?_
    refine GW.sub [2, 1, 0] rfl ?_
    -- loop at 15
    have L55 : ∀ (μ : Nat) (x53 : Int) (x54 : Int), (16 - x54).toNat = μ → ((0 : Int) ≤ x53 ∧ x53 ≤ (1 : Int)) → ((0 : Int) ≤ x54 ∧ x54 ≤ (16 : Int)) → GW p l e (rmm 0 0 0 0) s m (List.map toV [.inr (.inr a0)]).toArray below meth c D cy z0 3 (MQ below (QI D cy z0 (fun v h1 => Okh h1 ∧ Fx wr_k_X12_areKnown h h1 ∧ (0 ≤ v ∧ v ≤ 1))) (List.map toV [.inr (.inr a0)]).toArray s 0 0 (Aof z0)) 15 [(0, .inr (.inr a0)), (1, .inl x53), (2, .inl x54)] [] h 0 0 := by
      intro μ
      induction μ using Nat.strongRecOn with
      | ind μ ih56 =>
        intro x53 x54 hm57 f58 f59
        refine g_iload_n C rfl 2 rfl dX12_areKnown_15 ?_
        refine g_iconst C dX12_areKnown_16 ?_
        refine g_aload_n C rfl 0 rfl dX12_areKnown_17 ?_
        obtain ⟨v60, e61⟩ : ∃ z, Iv h a0 57 = z := ⟨_, rfl⟩
        have f62 := ok_I O ta0 rI_12_57 e61
        refine gf_I C fk_LandSurveyModel_477 rfl ta0 e61 dX12_areKnown_18 ?_
        refine g_ishl C dX12_areKnown_21 ?_
        have f63 : (1 : Int) ≤ (bShl 1 v60) ∧ (bShl 1 v60) ≤ (16 : Int) := bShl_4 f62
        refine g_icmp_ge C (iw f59 (by decide) (by decide)) (iw f63 (by decide) (by decide)) 59 (by decide) dX12_areKnown_22 (fun q64 => ?_) (fun q65 => ?_)
        · have f66 : (1 : Int) ≤ x54 ∧ x54 ≤ (16 : Int) := r_ge f59 f63 q64 (by decide) (by decide)
          refine g_iload_n C rfl 1 rfl dX12_areKnown_59 ?_
          exact g_iret C hr (nar_z2 f58).1 (iw f58 (by decide) (by decide)) ⟨O, Fx.rf, f58⟩ (by decide) (by decide) dX12_areKnown_60
        · have f67 : (0 : Int) ≤ x54 ∧ x54 ≤ (15 : Int) := r_lt f59 f63 q65 (by decide) (by decide)
          refine g_iload_n C rfl 1 rfl dX12_areKnown_25 ?_
          refine g_if_eq C (iw f58 (by decide) (by decide)) 51 (by decide) dX12_areKnown_26 (fun q68 => ?_) (fun q69 => ?_)
          · have f70 : (0 : Int) ≤ x53 ∧ x53 ≤ (0 : Int) := ii f58 (r_eq (il 0) q68) (by decide) (by decide)
            refine g_iconst C dX12_areKnown_51 ?_
            refine g_istore_n C [(1, .inl 0), (0, .inr (.inr a0)), (2, .inl x54)] rfl (by decide) rfl dX12_areKnown_52 ?_
            have f71 : (1 : Int) ≤ (x54 + 1) ∧ (x54 + 1) ≤ (16 : Int) := ia_add f67 (il 1) (by decide) (by decide)
            refine g_iinc C [(2, .inl (x54 + 1)), (1, .inl 0), (0, .inr (.inr a0))] 2 rfl (by decide) rfl dX12_areKnown_53 ?_
            refine g_goto C 15 (by decide) dX12_areKnown_56 ?_
            refine GW.sub [2, 1, 0] rfl ?_
            exact ih56 _ (by omega) 0 (x54 + 1) rfl (iw (il 0) (by decide) (by decide)) (iw f71 (by decide) (by decide))
          · have f72 : (1 : Int) ≤ x53 ∧ x53 ≤ (1 : Int) := r_nl f58 q69
            refine g_aload_n C rfl 0 rfl dX12_areKnown_29 ?_
            obtain ⟨v73, e74⟩ : ∃ z, Rv h a0 73 = z := ⟨_, rfl⟩
            have t75 := ok_R O ta0 rE_12_73 e74
            have l76 := ok_L O ta0 rE_12_73 e74
            refine gf_R C fk_LandSurveyModel_260 rfl ta0 e74 dX12_areKnown_30 ?_
            refine g_iload_n C rfl 2 rfl dX12_areKnown_33 ?_
            obtain ⟨v77, e78⟩ : ∃ z, Iv h v73 x54.toNat = z := ⟨_, rfl⟩
            have f79 := ok_Ia O t75 ar_173101 rI_173101_0 e78
            refine g_zald C t75 rfl l76 (ix f67 (by decide) (by decide)) e78 dX12_areKnown_34 ?_
            refine g_if_eq C (iw f79 (by decide) (by decide)) 47 (by decide) dX12_areKnown_35 (fun q80 => ?_) (fun q81 => ?_)
            · have f82 : (0 : Int) ≤ v77 ∧ v77 ≤ (0 : Int) := ii f79 (r_eq (il 0) q80) (by decide) (by decide)
              refine g_iconst C dX12_areKnown_47 ?_
              refine g_goto C 52 (by decide) dX12_areKnown_48 ?_
              refine g_istore_n C [(1, .inl 1), (0, .inr (.inr a0)), (2, .inl x54)] rfl (by decide) rfl dX12_areKnown_52 ?_
              have f83 : (1 : Int) ≤ (x54 + 1) ∧ (x54 + 1) ≤ (16 : Int) := ia_add f67 (il 1) (by decide) (by decide)
              refine g_iinc C [(2, .inl (x54 + 1)), (1, .inl 1), (0, .inr (.inr a0))] 2 rfl (by decide) rfl dX12_areKnown_53 ?_
              refine g_goto C 15 (by decide) dX12_areKnown_56 ?_
              refine GW.sub [2, 1, 0] rfl ?_
              exact ih56 _ (by omega) 1 (x54 + 1) rfl (iw (il 1) (by decide) (by decide)) (iw f83 (by decide) (by decide))
            · have f84 : (1 : Int) ≤ v77 ∧ v77 ≤ (1 : Int) := r_nl f79 q81
              refine g_aload_n C rfl 0 rfl dX12_areKnown_38 ?_
              obtain ⟨v85, e86⟩ : ∃ z, Rv h a0 74 = z := ⟨_, rfl⟩
              have t87 := ok_R O ta0 rE_12_74 e86
              have l88 := ok_L O ta0 rE_12_74 e86
              refine gf_R C fk_LandSurveyModel_263 rfl ta0 e86 dX12_areKnown_39 ?_
              refine g_iload_n C rfl 2 rfl dX12_areKnown_42 ?_
              obtain ⟨v89, e90⟩ : ∃ z, Iv h v85 x54.toNat = z := ⟨_, rfl⟩
              have f91 := ok_Ia O t87 ar_174101 rI_174101_0 e90
              refine g_zald C t87 rfl l88 (ix f67 (by decide) (by decide)) e90 dX12_areKnown_43 ?_
              refine g_if_eq C (iw f91 (by decide) (by decide)) 51 (by decide) dX12_areKnown_44 (fun q92 => ?_) (fun q93 => ?_)
              · have f94 : (0 : Int) ≤ v89 ∧ v89 ≤ (0 : Int) := ii f91 (r_eq (il 0) q92) (by decide) (by decide)
                refine g_iconst C dX12_areKnown_51 ?_
                refine g_istore_n C [(1, .inl 0), (0, .inr (.inr a0)), (2, .inl x54)] rfl (by decide) rfl dX12_areKnown_52 ?_
                have f95 : (1 : Int) ≤ (x54 + 1) ∧ (x54 + 1) ≤ (16 : Int) := ia_add f67 (il 1) (by decide) (by decide)
                refine g_iinc C [(2, .inl (x54 + 1)), (1, .inl 0), (0, .inr (.inr a0))] 2 rfl (by decide) rfl dX12_areKnown_53 ?_
                refine g_goto C 15 (by decide) dX12_areKnown_56 ?_
                refine GW.sub [2, 1, 0] rfl ?_
                exact ih56 _ (by omega) 0 (x54 + 1) rfl (iw (il 0) (by decide) (by decide)) (iw f95 (by decide) (by decide))
              · have f96 : (1 : Int) ≤ v89 ∧ v89 ≤ (1 : Int) := r_nl f91 q93
                refine g_iconst C dX12_areKnown_47 ?_
                refine g_goto C 52 (by decide) dX12_areKnown_48 ?_
                refine g_istore_n C [(1, .inl 1), (0, .inr (.inr a0)), (2, .inl x54)] rfl (by decide) rfl dX12_areKnown_52 ?_
                have f97 : (1 : Int) ≤ (x54 + 1) ∧ (x54 + 1) ≤ (16 : Int) := ia_add f67 (il 1) (by decide) (by decide)
                refine g_iinc C [(2, .inl (x54 + 1)), (1, .inl 1), (0, .inr (.inr a0))] 2 rfl (by decide) rfl dX12_areKnown_53 ?_
                refine g_goto C 15 (by decide) dX12_areKnown_56 ?_
                refine GW.sub [2, 1, 0] rfl ?_
                exact ih56 _ (by omega) 1 (x54 + 1) rfl (iw (il 1) (by decide) (by decide)) (iw f97 (by decide) (by decide))
    exact L55 _ 1 0 rfl (iw (il 1) (by decide) (by decide)) (iw (il 0) (by decide) (by decide))
def wr_k_X12_leastHigh : List Nat := []
set_option maxRecDepth 100000 in
set_option maxHeartbeats 4000000 in
theorem k_X12_leastHigh (l : Launch) (D : va_G) (cy : Nat → ClassId) (w : Nat → Nat) (z0 : Nat)  {h : Hp} {a0 : Nat} {a1 : Int}  (O : Okh h) (ta0 : Tg h a0 = 12) (fa1 : 0 ≤ a1 ∧ a1 ≤ 95) : MI l D cy w z0 yX12_leastHigh cX12_leastHigh 4 (some .int) 0 0 0 0 [.inr (.inr a0), .inl a1] h (fun v h1 => Okh h1 ∧ Fx wr_k_X12_leastHigh h h1 ∧ ((-2147483648) ≤ v ∧ v ≤ 2147483647)) := by
  refine hm_go (by decide +kernel) (Nat.le_of_ble_eq_true rfl) (fun p e s m below meth c C hr hn => ?_)
  refine g_ldcw (z := 1000000000) C kw_2075 (by decide) dX12_leastHigh_0 ?_
  refine g_istore_n C [(2, .inl 1000000000), (0, .inr (.inr a0)), (1, .inl a1)] rfl (by decide) rfl dX12_leastHigh_3 ?_
  refine g_iconst C dX12_leastHigh_4 ?_
  refine g_istore_n C [(3, .inl 0), (2, .inl 1000000000), (0, .inr (.inr a0)), (1, .inl a1)] rfl (by decide) rfl dX12_leastHigh_5 ?_
  refine GW.sub [2, 3, 1, 0] rfl ?_
  -- loop at 6
  have L3 : ∀ (μ : Nat) (x1 : Int) (x2 : Int), (16 - x2).toNat = μ → ((-2147483648 : Int) ≤ x1 ∧ x1 ≤ (2147483647 : Int)) → ((0 : Int) ≤ x2 ∧ x2 ≤ (16 : Int)) → GW p l e (rmm 0 0 0 0) s m (List.map toV [.inr (.inr a0), .inl a1]).toArray below meth c D cy z0 4 (MQ below (QI D cy z0 (fun v h1 => Okh h1 ∧ Fx wr_k_X12_leastHigh h h1 ∧ ((-2147483648) ≤ v ∧ v ≤ 2147483647))) (List.map toV [.inr (.inr a0), .inl a1]).toArray s 0 0 (Aof z0)) 6 [(0, .inr (.inr a0)), (1, .inl a1), (2, .inl x1), (3, .inl x2)] [] h 0 0 := by
    intro μ
    induction μ using Nat.strongRecOn with
    | ind μ ih4 =>
      intro x1 x2 hm5 f6 f7
      refine g_iload_n C rfl 3 rfl dX12_leastHigh_6 ?_
      refine g_iconst C dX12_leastHigh_7 ?_
      refine g_aload_n C rfl 0 rfl dX12_leastHigh_8 ?_
      obtain ⟨v8, e9⟩ : ∃ z, Iv h a0 57 = z := ⟨_, rfl⟩
      have f10 := ok_I O ta0 rI_12_57 e9
      refine gf_I C fk_LandSurveyModel_477 rfl ta0 e9 dX12_leastHigh_9 ?_
      refine g_ishl C dX12_leastHigh_12 ?_
      have f11 : (1 : Int) ≤ (bShl 1 v8) ∧ (bShl 1 v8) ≤ (16 : Int) := bShl_4 f10
      refine g_icmp_ge C (iw f7 (by decide) (by decide)) (iw f11 (by decide) (by decide)) 62 (by decide) dX12_leastHigh_13 (fun q12 => ?_) (fun q13 => ?_)
      · have f14 : (1 : Int) ≤ x2 ∧ x2 ≤ (16 : Int) := r_ge f7 f11 q12 (by decide) (by decide)
        refine g_iload_n C rfl 2 rfl dX12_leastHigh_62 ?_
        exact g_iret C hr rfl f6 ⟨O, Fx.rf, f6⟩ (by decide) (by decide) dX12_leastHigh_63
      · have f15 : (0 : Int) ≤ x2 ∧ x2 ≤ (15 : Int) := r_lt f7 f11 q13 (by decide) (by decide)
        refine g_aload_n C rfl 0 rfl dX12_leastHigh_16 ?_
        obtain ⟨v16, e17⟩ : ∃ z, Rv h a0 73 = z := ⟨_, rfl⟩
        have t18 := ok_R O ta0 rE_12_73 e17
        have l19 := ok_L O ta0 rE_12_73 e17
        refine gf_R C fk_LandSurveyModel_260 rfl ta0 e17 dX12_leastHigh_17 ?_
        refine g_iload_n C rfl 3 rfl dX12_leastHigh_20 ?_
        obtain ⟨v20, e21⟩ : ∃ z, Iv h v16 x2.toNat = z := ⟨_, rfl⟩
        have f22 := ok_Ia O t18 ar_173101 rI_173101_0 e21
        refine g_zald C t18 rfl l19 (ix f15 (by decide) (by decide)) e21 dX12_leastHigh_21 ?_
        refine g_if_eq C (iw f22 (by decide) (by decide)) 54 (by decide) dX12_leastHigh_22 (fun q23 => ?_) (fun q24 => ?_)
        · have f25 : (0 : Int) ≤ v20 ∧ v20 ≤ (0 : Int) := ii f22 (r_eq (il 0) q23) (by decide) (by decide)
          refine g_iload_n C rfl 2 rfl dX12_leastHigh_54 ?_
          refine g_istore_n C [(2, .inl x1), (0, .inr (.inr a0)), (1, .inl a1), (3, .inl x2)] rfl (by decide) rfl dX12_leastHigh_55 ?_
          have f26 : (1 : Int) ≤ (x2 + 1) ∧ (x2 + 1) ≤ (16 : Int) := ia_add f15 (il 1) (by decide) (by decide)
          refine g_iinc C [(3, .inl (x2 + 1)), (2, .inl x1), (0, .inr (.inr a0)), (1, .inl a1)] 3 rfl (by decide) rfl dX12_leastHigh_56 ?_
          refine g_goto C 6 (by decide) dX12_leastHigh_59 ?_
          refine GW.sub [2, 3, 1, 0] rfl ?_
          exact ih4 _ (by omega) x1 (x2 + 1) rfl f6 (iw f26 (by decide) (by decide))
        · have f27 : (1 : Int) ≤ v20 ∧ v20 ≤ (1 : Int) := r_nl f22 q24
          refine g_aload_n C rfl 0 rfl dX12_leastHigh_25 ?_
          obtain ⟨v28, e29⟩ : ∃ z, Rv h a0 75 = z := ⟨_, rfl⟩
          have t30 := ok_R O ta0 rE_12_75 e29
          have l31 := ok_L O ta0 rE_12_75 e29
          refine gf_R C fk_LandSurveyModel_266 rfl ta0 e29 dX12_leastHigh_26 ?_
          refine g_bipush C (by decide) dX12_leastHigh_29 ?_
          refine g_iload_n C rfl 3 rfl dX12_leastHigh_31 ?_
          have f32 : (0 : Int) ≤ (96 * x2) ∧ (96 * x2) ≤ (1440 : Int) := ia_mul (by decide) f15 (by decide) (by decide)
          refine g_imul C dX12_leastHigh_32 ?_
          refine g_iload_n C rfl 1 rfl dX12_leastHigh_33 ?_
          have f33 : (0 : Int) ≤ ((96 * x2) + a1) ∧ ((96 * x2) + a1) ≤ (1535 : Int) := ia_add f32 fa1 (by decide) (by decide)
          refine g_iadd C dX12_leastHigh_34 ?_
          obtain ⟨v34, e35⟩ : ∃ z, Iv h v28 (((96 * x2) + a1).toNat) = z := ⟨_, rfl⟩
          have f36 := ok_Ia O t30 ar_175100 rI_175100_0 e35
          refine g_iald C t30 rfl l31 (ix f33 (by decide) (by decide)) e35 dX12_leastHigh_35 ?_
          refine g_iload_n C rfl 2 rfl dX12_leastHigh_36 ?_
          refine g_icmp_ge C f36 f6 54 (by decide) dX12_leastHigh_37 (fun q37 => ?_) (fun q38 => ?_)
          · refine g_iload_n C rfl 2 rfl dX12_leastHigh_54 ?_
            refine g_istore_n C [(2, .inl x1), (0, .inr (.inr a0)), (1, .inl a1), (3, .inl x2)] rfl (by decide) rfl dX12_leastHigh_55 ?_
            have f39 : (1 : Int) ≤ (x2 + 1) ∧ (x2 + 1) ≤ (16 : Int) := ia_add f15 (il 1) (by decide) (by decide)
            refine g_iinc C [(3, .inl (x2 + 1)), (2, .inl x1), (0, .inr (.inr a0)), (1, .inl a1)] 3 rfl (by decide) rfl dX12_leastHigh_56 ?_
            refine g_goto C 6 (by decide) dX12_leastHigh_59 ?_
            refine GW.sub [2, 3, 1, 0] rfl ?_
            exact ih4 _ (by omega) x1 (x2 + 1) rfl f6 (iw f39 (by decide) (by decide))
          · have f40 : (-2147483648 : Int) ≤ v34 ∧ v34 ≤ (2147483646 : Int) := r_lt f36 f6 q38 (by decide) (by decide)
            have f41 : (-2147483647 : Int) ≤ x1 ∧ x1 ≤ (2147483647 : Int) := r_gt f6 f36 q38 (by decide) (by decide)
            refine g_aload_n C rfl 0 rfl dX12_leastHigh_40 ?_
            refine gf_R C fk_LandSurveyModel_266 rfl ta0 e29 dX12_leastHigh_41 ?_
            refine g_bipush C (by decide) dX12_leastHigh_44 ?_
            refine g_iload_n C rfl 3 rfl dX12_leastHigh_46 ?_
            refine g_imul C dX12_leastHigh_47 ?_
            refine g_iload_n C rfl 1 rfl dX12_leastHigh_48 ?_
            refine g_iadd C dX12_leastHigh_49 ?_
            refine g_iald C t30 rfl l31 (ix f33 (by decide) (by decide)) e35 dX12_leastHigh_50 ?_
            refine g_goto C 55 (by decide) dX12_leastHigh_51 ?_
            refine g_istore_n C [(2, .inl v34), (0, .inr (.inr a0)), (1, .inl a1), (3, .inl x2)] rfl (by decide) rfl dX12_leastHigh_55 ?_
            have f42 : (1 : Int) ≤ (x2 + 1) ∧ (x2 + 1) ≤ (16 : Int) := ia_add f15 (il 1) (by decide) (by decide)
            refine g_iinc C [(3, .inl (x2 + 1)), (2, .inl v34), (0, .inr (.inr a0)), (1, .inl a1)] 3 rfl (by decide) rfl dX12_leastHigh_56 ?_
            refine g_goto C 6 (by decide) dX12_leastHigh_59 ?_
            refine GW.sub [2, 3, 1, 0] rfl ?_
            exact ih4 _ (by omega) v34 (x2 + 1) rfl (iw f40 (by decide) (by decide)) (iw f42 (by decide) (by decide))
  exact L3 _ 1000000000 0 rfl (iw (il 1000000000) (by decide) (by decide)) (iw (il 0) (by decide) (by decide))
def wr_k_X12_greatestHigh : List Nat := []
set_option maxRecDepth 100000 in
set_option maxHeartbeats 4000000 in
theorem k_X12_greatestHigh (l : Launch) (D : va_G) (cy : Nat → ClassId) (w : Nat → Nat) (z0 : Nat)  {h : Hp} {a0 : Nat} {a1 : Int}  (O : Okh h) (ta0 : Tg h a0 = 12) (fa1 : 0 ≤ a1 ∧ a1 ≤ 95) : MI l D cy w z0 yX12_greatestHigh cX12_greatestHigh 4 (some .int) 0 0 0 0 [.inr (.inr a0), .inl a1] h (fun v h1 => Okh h1 ∧ Fx wr_k_X12_greatestHigh h h1 ∧ ((-2147483648) ≤ v ∧ v ≤ 2147483647)) := by
  refine hm_go (by decide +kernel) (Nat.le_of_ble_eq_true rfl) (fun p e s m below meth c C hr hn => ?_)
  refine g_ldcw (z := (-1000000000)) C kw_2151 (by decide) dX12_greatestHigh_0 ?_
  refine g_istore_n C [(2, .inl (-1000000000)), (0, .inr (.inr a0)), (1, .inl a1)] rfl (by decide) rfl dX12_greatestHigh_3 ?_
  refine g_iconst C dX12_greatestHigh_4 ?_
  refine g_istore_n C [(3, .inl 0), (2, .inl (-1000000000)), (0, .inr (.inr a0)), (1, .inl a1)] rfl (by decide) rfl dX12_greatestHigh_5 ?_
  refine GW.sub [2, 3, 1, 0] rfl ?_
  -- loop at 6
  have L3 : ∀ (μ : Nat) (x1 : Int) (x2 : Int), (16 - x2).toNat = μ → ((-2147483648 : Int) ≤ x1 ∧ x1 ≤ (2147483647 : Int)) → ((0 : Int) ≤ x2 ∧ x2 ≤ (16 : Int)) → GW p l e (rmm 0 0 0 0) s m (List.map toV [.inr (.inr a0), .inl a1]).toArray below meth c D cy z0 4 (MQ below (QI D cy z0 (fun v h1 => Okh h1 ∧ Fx wr_k_X12_greatestHigh h h1 ∧ ((-2147483648) ≤ v ∧ v ≤ 2147483647))) (List.map toV [.inr (.inr a0), .inl a1]).toArray s 0 0 (Aof z0)) 6 [(0, .inr (.inr a0)), (1, .inl a1), (2, .inl x1), (3, .inl x2)] [] h 0 0 := by
    intro μ
    induction μ using Nat.strongRecOn with
    | ind μ ih4 =>
      intro x1 x2 hm5 f6 f7
      refine g_iload_n C rfl 3 rfl dX12_greatestHigh_6 ?_
      refine g_iconst C dX12_greatestHigh_7 ?_
      refine g_aload_n C rfl 0 rfl dX12_greatestHigh_8 ?_
      obtain ⟨v8, e9⟩ : ∃ z, Iv h a0 57 = z := ⟨_, rfl⟩
      have f10 := ok_I O ta0 rI_12_57 e9
      refine gf_I C fk_LandSurveyModel_477 rfl ta0 e9 dX12_greatestHigh_9 ?_
      refine g_ishl C dX12_greatestHigh_12 ?_
      have f11 : (1 : Int) ≤ (bShl 1 v8) ∧ (bShl 1 v8) ≤ (16 : Int) := bShl_4 f10
      refine g_icmp_ge C (iw f7 (by decide) (by decide)) (iw f11 (by decide) (by decide)) 62 (by decide) dX12_greatestHigh_13 (fun q12 => ?_) (fun q13 => ?_)
      · have f14 : (1 : Int) ≤ x2 ∧ x2 ≤ (16 : Int) := r_ge f7 f11 q12 (by decide) (by decide)
        refine g_iload_n C rfl 2 rfl dX12_greatestHigh_62 ?_
        exact g_iret C hr rfl f6 ⟨O, Fx.rf, f6⟩ (by decide) (by decide) dX12_greatestHigh_63
      · have f15 : (0 : Int) ≤ x2 ∧ x2 ≤ (15 : Int) := r_lt f7 f11 q13 (by decide) (by decide)
        refine g_aload_n C rfl 0 rfl dX12_greatestHigh_16 ?_
        obtain ⟨v16, e17⟩ : ∃ z, Rv h a0 73 = z := ⟨_, rfl⟩
        have t18 := ok_R O ta0 rE_12_73 e17
        have l19 := ok_L O ta0 rE_12_73 e17
        refine gf_R C fk_LandSurveyModel_260 rfl ta0 e17 dX12_greatestHigh_17 ?_
        refine g_iload_n C rfl 3 rfl dX12_greatestHigh_20 ?_
        obtain ⟨v20, e21⟩ : ∃ z, Iv h v16 x2.toNat = z := ⟨_, rfl⟩
        have f22 := ok_Ia O t18 ar_173101 rI_173101_0 e21
        refine g_zald C t18 rfl l19 (ix f15 (by decide) (by decide)) e21 dX12_greatestHigh_21 ?_
        refine g_if_eq C (iw f22 (by decide) (by decide)) 54 (by decide) dX12_greatestHigh_22 (fun q23 => ?_) (fun q24 => ?_)
        · have f25 : (0 : Int) ≤ v20 ∧ v20 ≤ (0 : Int) := ii f22 (r_eq (il 0) q23) (by decide) (by decide)
          refine g_iload_n C rfl 2 rfl dX12_greatestHigh_54 ?_
          refine g_istore_n C [(2, .inl x1), (0, .inr (.inr a0)), (1, .inl a1), (3, .inl x2)] rfl (by decide) rfl dX12_greatestHigh_55 ?_
          have f26 : (1 : Int) ≤ (x2 + 1) ∧ (x2 + 1) ≤ (16 : Int) := ia_add f15 (il 1) (by decide) (by decide)
          refine g_iinc C [(3, .inl (x2 + 1)), (2, .inl x1), (0, .inr (.inr a0)), (1, .inl a1)] 3 rfl (by decide) rfl dX12_greatestHigh_56 ?_
          refine g_goto C 6 (by decide) dX12_greatestHigh_59 ?_
          refine GW.sub [2, 3, 1, 0] rfl ?_
          exact ih4 _ (by omega) x1 (x2 + 1) rfl f6 (iw f26 (by decide) (by decide))
        · have f27 : (1 : Int) ≤ v20 ∧ v20 ≤ (1 : Int) := r_nl f22 q24
          refine g_aload_n C rfl 0 rfl dX12_greatestHigh_25 ?_
          obtain ⟨v28, e29⟩ : ∃ z, Rv h a0 76 = z := ⟨_, rfl⟩
          have t30 := ok_R O ta0 rE_12_76 e29
          have l31 := ok_L O ta0 rE_12_76 e29
          refine gf_R C fk_LandSurveyModel_269 rfl ta0 e29 dX12_greatestHigh_26 ?_
          refine g_bipush C (by decide) dX12_greatestHigh_29 ?_
          refine g_iload_n C rfl 3 rfl dX12_greatestHigh_31 ?_
          have f32 : (0 : Int) ≤ (96 * x2) ∧ (96 * x2) ≤ (1440 : Int) := ia_mul (by decide) f15 (by decide) (by decide)
          refine g_imul C dX12_greatestHigh_32 ?_
          refine g_iload_n C rfl 1 rfl dX12_greatestHigh_33 ?_
          have f33 : (0 : Int) ≤ ((96 * x2) + a1) ∧ ((96 * x2) + a1) ≤ (1535 : Int) := ia_add f32 fa1 (by decide) (by decide)
          refine g_iadd C dX12_greatestHigh_34 ?_
          obtain ⟨v34, e35⟩ : ∃ z, Iv h v28 (((96 * x2) + a1).toNat) = z := ⟨_, rfl⟩
          have f36 := ok_Ia O t30 ar_176100 rI_176100_0 e35
          refine g_iald C t30 rfl l31 (ix f33 (by decide) (by decide)) e35 dX12_greatestHigh_35 ?_
          refine g_iload_n C rfl 2 rfl dX12_greatestHigh_36 ?_
          refine g_icmp_le C f36 f6 54 (by decide) dX12_greatestHigh_37 (fun q37 => ?_) (fun q38 => ?_)
          · refine g_iload_n C rfl 2 rfl dX12_greatestHigh_54 ?_
            refine g_istore_n C [(2, .inl x1), (0, .inr (.inr a0)), (1, .inl a1), (3, .inl x2)] rfl (by decide) rfl dX12_greatestHigh_55 ?_
            have f39 : (1 : Int) ≤ (x2 + 1) ∧ (x2 + 1) ≤ (16 : Int) := ia_add f15 (il 1) (by decide) (by decide)
            refine g_iinc C [(3, .inl (x2 + 1)), (2, .inl x1), (0, .inr (.inr a0)), (1, .inl a1)] 3 rfl (by decide) rfl dX12_greatestHigh_56 ?_
            refine g_goto C 6 (by decide) dX12_greatestHigh_59 ?_
            refine GW.sub [2, 3, 1, 0] rfl ?_
            exact ih4 _ (by omega) x1 (x2 + 1) rfl f6 (iw f39 (by decide) (by decide))
          · have f40 : (-2147483648 : Int) ≤ x1 ∧ x1 ≤ (2147483646 : Int) := r_lt f6 f36 q38 (by decide) (by decide)
            have f41 : (-2147483647 : Int) ≤ v34 ∧ v34 ≤ (2147483647 : Int) := r_gt f36 f6 q38 (by decide) (by decide)
            refine g_aload_n C rfl 0 rfl dX12_greatestHigh_40 ?_
            refine gf_R C fk_LandSurveyModel_269 rfl ta0 e29 dX12_greatestHigh_41 ?_
            refine g_bipush C (by decide) dX12_greatestHigh_44 ?_
            refine g_iload_n C rfl 3 rfl dX12_greatestHigh_46 ?_
            refine g_imul C dX12_greatestHigh_47 ?_
            refine g_iload_n C rfl 1 rfl dX12_greatestHigh_48 ?_
            refine g_iadd C dX12_greatestHigh_49 ?_
            refine g_iald C t30 rfl l31 (ix f33 (by decide) (by decide)) e35 dX12_greatestHigh_50 ?_
            refine g_goto C 55 (by decide) dX12_greatestHigh_51 ?_
            refine g_istore_n C [(2, .inl v34), (0, .inr (.inr a0)), (1, .inl a1), (3, .inl x2)] rfl (by decide) rfl dX12_greatestHigh_55 ?_
            have f42 : (1 : Int) ≤ (x2 + 1) ∧ (x2 + 1) ≤ (16 : Int) := ia_add f15 (il 1) (by decide) (by decide)
            refine g_iinc C [(3, .inl (x2 + 1)), (2, .inl v34), (0, .inr (.inr a0)), (1, .inl a1)] 3 rfl (by decide) rfl dX12_greatestHigh_56 ?_
            refine g_goto C 6 (by decide) dX12_greatestHigh_59 ?_
            refine GW.sub [2, 3, 1, 0] rfl ?_
            exact ih4 _ (by omega) v34 (x2 + 1) rfl (iw f41 (by decide) (by decide)) (iw f42 (by decide) (by decide))
  exact L3 _ (-1000000000) 0 rfl (iw (il (-1000000000)) (by decide) (by decide)) (iw (il 0) (by decide) (by decide))
