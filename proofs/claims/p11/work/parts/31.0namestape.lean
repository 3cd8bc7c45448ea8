theorem dX10_append_0 : decode cX10_append 0 = .ok (.bipush 24, 2) := by decide +kernel
theorem dX10_append_2 : decode cX10_append 2 = .ok (.istore_n 2, 1) := by decide +kernel
theorem dX10_append_3 : decode cX10_append 3 = .ok (.iload_n 2, 1) := by decide +kernel
theorem dX10_append_4 : decode cX10_append 4 = .ok (.ifCond .lt 44, 3) := by decide +kernel
theorem dX10_append_7 : decode cX10_append 7 = .ok (.aload_n 0, 1) := by decide +kernel
theorem dX10_append_8 : decode cX10_append 8 = .ok (.getfield 13, 3) := by decide +kernel
theorem dX10_append_11 : decode cX10_append 11 = .ok (.aload_n 0, 1) := by decide +kernel
theorem dX10_append_12 : decode cX10_append 12 = .ok (.getfield 9, 3) := by decide +kernel
theorem dX10_append_15 : decode cX10_append 15 = .ok (.arraylength, 1) := by decide +kernel
theorem dX10_append_16 : decode cX10_append 16 = .ok (.if_icmp .ge 26, 3) := by decide +kernel
theorem dX10_append_19 : decode cX10_append 19 = .ok (.aload_n 0, 1) := by decide +kernel
theorem dX10_append_20 : decode cX10_append 20 = .ok (.getfield 9, 3) := by decide +kernel
theorem dX10_append_23 : decode cX10_append 23 = .ok (.aload_n 0, 1) := by decide +kernel
theorem dX10_append_24 : decode cX10_append 24 = .ok (.getfield 13, 3) := by decide +kernel
theorem dX10_append_27 : decode cX10_append 27 = .ok (.iload_n 1, 1) := by decide +kernel
theorem dX10_append_28 : decode cX10_append 28 = .ok (.iload_n 2, 1) := by decide +kernel
theorem dX10_append_29 : decode cX10_append 29 = .ok (.ishr, 1) := by decide +kernel
theorem dX10_append_30 : decode cX10_append 30 = .ok (.i2b, 1) := by decide +kernel
theorem dX10_append_31 : decode cX10_append 31 = .ok (.bastore, 1) := by decide +kernel
theorem dX10_append_32 : decode cX10_append 32 = .ok (.aload_n 0, 1) := by decide +kernel
theorem dX10_append_33 : decode cX10_append 33 = .ok (.dup, 1) := by decide +kernel
theorem dX10_append_34 : decode cX10_append 34 = .ok (.getfield 13, 3) := by decide +kernel
theorem dX10_append_37 : decode cX10_append 37 = .ok (.iconst 1, 1) := by decide +kernel
theorem dX10_append_38 : decode cX10_append 38 = .ok (.iadd, 1) := by decide +kernel
theorem dX10_append_39 : decode cX10_append 39 = .ok (.putfield 13, 3) := by decide +kernel
theorem dX10_append_42 : decode cX10_append 42 = .ok (.iinc 2 (-8), 3) := by decide +kernel
theorem dX10_append_45 : decode cX10_append 45 = .ok (.goto (-42), 3) := by decide +kernel
theorem dX10_append_48 : decode cX10_append 48 = .ok (.return_, 1) := by decide +kernel
set_option maxRecDepth 20000 in
theorem ggX10_rewind_X10_advance : GoodIn wsX10_rewind wsX10_advance := goodIn_r _ [12, 7, 6, 1, 13, 14, 15, 16, 17, 18, 19, 20, 21, 22] (by decide +kernel) (by decide +kernel)
set_option maxRecDepth 20000 in
theorem gX10_rewind_X10_advance : GoodIn wsX10_rewind (wsV RX10 38 RX10 yX10_advance wsX10_advance) := goodIn_app (goodIn_of _ (by decide +kernel)) ggX10_rewind_X10_advance
theorem dX10_rewind_0 : decode cX10_rewind 0 = .ok (.aload_n 0, 1) := by decide +kernel
theorem dX10_rewind_1 : decode cX10_rewind 1 = .ok (.iload_n 1, 1) := by decide +kernel
theorem dX10_rewind_2 : decode cX10_rewind 2 = .ok (.aload_n 0, 1) := by decide +kernel
theorem dX10_rewind_3 : decode cX10_rewind 3 = .ok (.getfield 9, 3) := by decide +kernel
theorem dX10_rewind_6 : decode cX10_rewind 6 = .ok (.arraylength, 1) := by decide +kernel
theorem dX10_rewind_7 : decode cX10_rewind 7 = .ok (.invokestatic 32, 3) := by decide +kernel
theorem dX10_rewind_10 : decode cX10_rewind 10 = .ok (.putfield 26, 3) := by decide +kernel
theorem dX10_rewind_13 : decode cX10_rewind 13 = .ok (.aload_n 0, 1) := by decide +kernel
theorem dX10_rewind_14 : decode cX10_rewind 14 = .ok (.iconst 0, 1) := by decide +kernel
theorem dX10_rewind_15 : decode cX10_rewind 15 = .ok (.putfield 29, 3) := by decide +kernel
theorem dX10_rewind_18 : decode cX10_rewind 18 = .ok (.aload_n 0, 1) := by decide +kernel
theorem dX10_rewind_19 : decode cX10_rewind 19 = .ok (.invokevirtual 38, 3) := by decide +kernel
theorem dX10_rewind_22 : decode cX10_rewind 22 = .ok (.return_, 1) := by decide +kernel
theorem dX10_advance_0 : decode cX10_advance 0 = .ok (.aload_n 0, 1) := by decide +kernel
theorem dX10_advance_1 : decode cX10_advance 1 = .ok (.getfield 29, 3) := by decide +kernel
theorem dX10_advance_4 : decode cX10_advance 4 = .ok (.aload_n 0, 1) := by decide +kernel
theorem dX10_advance_5 : decode cX10_advance 5 = .ok (.getfield 26, 3) := by decide +kernel
theorem dX10_advance_8 : decode cX10_advance 8 = .ok (.if_icmp .ge 30, 3) := by decide +kernel
theorem dX10_advance_11 : decode cX10_advance 11 = .ok (.aload_n 0, 1) := by decide +kernel
theorem dX10_advance_12 : decode cX10_advance 12 = .ok (.getfield 9, 3) := by decide +kernel
theorem dX10_advance_15 : decode cX10_advance 15 = .ok (.aload_n 0, 1) := by decide +kernel
theorem dX10_advance_16 : decode cX10_advance 16 = .ok (.getfield 29, 3) := by decide +kernel
theorem dX10_advance_19 : decode cX10_advance 19 = .ok (.baload, 1) := by decide +kernel
theorem dX10_advance_20 : decode cX10_advance 20 = .ok (.bipush 32, 2) := by decide +kernel
theorem dX10_advance_22 : decode cX10_advance 22 = .ok (.if_icmp .ne 16, 3) := by decide +kernel
theorem dX10_advance_25 : decode cX10_advance 25 = .ok (.aload_n 0, 1) := by decide +kernel
theorem dX10_advance_26 : decode cX10_advance 26 = .ok (.dup, 1) := by decide +kernel
theorem dX10_advance_27 : decode cX10_advance 27 = .ok (.getfield 29, 3) := by decide +kernel
theorem dX10_advance_30 : decode cX10_advance 30 = .ok (.iconst 1, 1) := by decide +kernel
theorem dX10_advance_31 : decode cX10_advance 31 = .ok (.iadd, 1) := by decide +kernel
theorem dX10_advance_32 : decode cX10_advance 32 = .ok (.putfield 29, 3) := by decide +kernel
theorem dX10_advance_35 : decode cX10_advance 35 = .ok (.goto (-35), 3) := by decide +kernel
theorem dX10_advance_38 : decode cX10_advance 38 = .ok (.aload_n 0, 1) := by decide +kernel
theorem dX10_advance_39 : decode cX10_advance 39 = .ok (.aload_n 0, 1) := by decide +kernel
theorem dX10_advance_40 : decode cX10_advance 40 = .ok (.getfield 29, 3) := by decide +kernel
theorem dX10_advance_43 : decode cX10_advance 43 = .ok (.putfield 20, 3) := by decide +kernel
theorem dX10_advance_46 : decode cX10_advance 46 = .ok (.aload_n 0, 1) := by decide +kernel
theorem dX10_advance_47 : decode cX10_advance 47 = .ok (.iconst 0, 1) := by decide +kernel
theorem dX10_advance_48 : decode cX10_advance 48 = .ok (.putfield 23, 3) := by decide +kernel
theorem dX10_advance_51 : decode cX10_advance 51 = .ok (.aload_n 0, 1) := by decide +kernel
theorem dX10_advance_52 : decode cX10_advance 52 = .ok (.getfield 29, 3) := by decide +kernel
theorem dX10_advance_55 : decode cX10_advance 55 = .ok (.aload_n 0, 1) := by decide +kernel
theorem dX10_advance_56 : decode cX10_advance 56 = .ok (.getfield 26, 3) := by decide +kernel
theorem dX10_advance_59 : decode cX10_advance 59 = .ok (.if_icmp .lt 9, 3) := by decide +kernel
theorem dX10_advance_62 : decode cX10_advance 62 = .ok (.aload_n 0, 1) := by decide +kernel
theorem dX10_advance_63 : decode cX10_advance 63 = .ok (.iconst 0, 1) := by decide +kernel
theorem dX10_advance_64 : decode cX10_advance 64 = .ok (.putfield 17, 3) := by decide +kernel
theorem dX10_advance_67 : decode cX10_advance 67 = .ok (.return_, 1) := by decide +kernel
theorem dX10_advance_68 : decode cX10_advance 68 = .ok (.aload_n 0, 1) := by decide +kernel
theorem dX10_advance_69 : decode cX10_advance 69 = .ok (.getfield 9, 3) := by decide +kernel
theorem dX10_advance_72 : decode cX10_advance 72 = .ok (.aload_n 0, 1) := by decide +kernel
theorem dX10_advance_73 : decode cX10_advance 73 = .ok (.getfield 29, 3) := by decide +kernel
theorem dX10_advance_76 : decode cX10_advance 76 = .ok (.baload, 1) := by decide +kernel
theorem dX10_advance_77 : decode cX10_advance 77 = .ok (.istore_n 1, 1) := by decide +kernel
theorem dX10_advance_78 : decode cX10_advance 78 = .ok (.iload_n 1, 1) := by decide +kernel
theorem dX10_advance_79 : decode cX10_advance 79 = .ok (.bipush 97, 2) := by decide +kernel
theorem dX10_advance_81 : decode cX10_advance 81 = .ok (.if_icmp .lt 13, 3) := by decide +kernel
theorem dX10_advance_84 : decode cX10_advance 84 = .ok (.iload_n 1, 1) := by decide +kernel
theorem dX10_advance_85 : decode cX10_advance 85 = .ok (.bipush 122, 2) := by decide +kernel
theorem dX10_advance_87 : decode cX10_advance 87 = .ok (.if_icmp .gt 7, 3) := by decide +kernel
theorem dX10_advance_90 : decode cX10_advance 90 = .ok (.iconst 1, 1) := by decide +kernel
theorem dX10_advance_91 : decode cX10_advance 91 = .ok (.goto 4, 3) := by decide +kernel
theorem dX10_advance_94 : decode cX10_advance 94 = .ok (.iconst 0, 1) := by decide +kernel
theorem dX10_advance_95 : decode cX10_advance 95 = .ok (.istore_n 2, 1) := by decide +kernel
theorem dX10_advance_96 : decode cX10_advance 96 = .ok (.iload_n 1, 1) := by decide +kernel
theorem dX10_advance_97 : decode cX10_advance 97 = .ok (.bipush 48, 2) := by decide +kernel
theorem dX10_advance_99 : decode cX10_advance 99 = .ok (.if_icmp .lt 13, 3) := by decide +kernel
theorem dX10_advance_102 : decode cX10_advance 102 = .ok (.iload_n 1, 1) := by decide +kernel
theorem dX10_advance_103 : decode cX10_advance 103 = .ok (.bipush 57, 2) := by decide +kernel
theorem dX10_advance_105 : decode cX10_advance 105 = .ok (.if_icmp .gt 7, 3) := by decide +kernel
theorem dX10_advance_108 : decode cX10_advance 108 = .ok (.iconst 1, 1) := by decide +kernel
theorem dX10_advance_109 : decode cX10_advance 109 = .ok (.goto 4, 3) := by decide +kernel
theorem dX10_advance_112 : decode cX10_advance 112 = .ok (.iconst 0, 1) := by decide +kernel
theorem dX10_advance_113 : decode cX10_advance 113 = .ok (.istore_n 3, 1) := by decide +kernel
theorem dX10_advance_114 : decode cX10_advance 114 = .ok (.iload_n 1, 1) := by decide +kernel
theorem dX10_advance_115 : decode cX10_advance 115 = .ok (.bipush 59, 2) := by decide +kernel
theorem dX10_advance_117 : decode cX10_advance 117 = .ok (.if_icmp .ne 21, 3) := by decide +kernel
theorem dX10_advance_120 : decode cX10_advance 120 = .ok (.aload_n 0, 1) := by decide +kernel
theorem dX10_advance_121 : decode cX10_advance 121 = .ok (.iconst 3, 1) := by decide +kernel
theorem dX10_advance_122 : decode cX10_advance 122 = .ok (.putfield 17, 3) := by decide +kernel
theorem dX10_advance_125 : decode cX10_advance 125 = .ok (.aload_n 0, 1) := by decide +kernel
theorem dX10_advance_126 : decode cX10_advance 126 = .ok (.dup, 1) := by decide +kernel
theorem dX10_advance_127 : decode cX10_advance 127 = .ok (.getfield 29, 3) := by decide +kernel
theorem dX10_advance_130 : decode cX10_advance 130 = .ok (.iconst 1, 1) := by decide +kernel
theorem dX10_advance_131 : decode cX10_advance 131 = .ok (.iadd, 1) := by decide +kernel
theorem dX10_advance_132 : decode cX10_advance 132 = .ok (.putfield 29, 3) := by decide +kernel
theorem dX10_advance_135 : decode cX10_advance 135 = .ok (.goto 165, 3) := by decide +kernel
theorem dX10_advance_138 : decode cX10_advance 138 = .ok (.iload_n 2, 1) := by decide +kernel
theorem dX10_advance_139 : decode cX10_advance 139 = .ok (.ifCond .ne 7, 3) := by decide +kernel
theorem dX10_advance_142 : decode cX10_advance 142 = .ok (.iload_n 3, 1) := by decide +kernel
theorem dX10_advance_143 : decode cX10_advance 143 = .ok (.ifCond .eq 152, 3) := by decide +kernel
theorem dX10_advance_146 : decode cX10_advance 146 = .ok (.iload_n 2, 1) := by decide +kernel
theorem dX10_advance_147 : decode cX10_advance 147 = .ok (.ifCond .eq 8, 3) := by decide +kernel
theorem dX10_advance_150 : decode cX10_advance 150 = .ok (.bipush 97, 2) := by decide +kernel
theorem dX10_advance_152 : decode cX10_advance 152 = .ok (.goto 5, 3) := by decide +kernel
theorem dX10_advance_155 : decode cX10_advance 155 = .ok (.bipush 48, 2) := by decide +kernel
theorem dX10_advance_157 : decode cX10_advance 157 = .ok (.istore 4, 2) := by decide +kernel
theorem dX10_advance_159 : decode cX10_advance 159 = .ok (.iload_n 2, 1) := by decide +kernel
theorem dX10_advance_160 : decode cX10_advance 160 = .ok (.ifCond .eq 8, 3) := by decide +kernel
theorem dX10_advance_163 : decode cX10_advance 163 = .ok (.bipush 122, 2) := by decide +kernel
theorem dX10_advance_165 : decode cX10_advance 165 = .ok (.goto 5, 3) := by decide +kernel
theorem dX10_advance_168 : decode cX10_advance 168 = .ok (.bipush 57, 2) := by decide +kernel
theorem dX10_advance_170 : decode cX10_advance 170 = .ok (.istore 5, 2) := by decide +kernel
theorem dX10_advance_172 : decode cX10_advance 172 = .ok (.aload_n 0, 1) := by decide +kernel
theorem dX10_advance_173 : decode cX10_advance 173 = .ok (.getfield 29, 3) := by decide +kernel
theorem dX10_advance_176 : decode cX10_advance 176 = .ok (.aload_n 0, 1) := by decide +kernel
theorem dX10_advance_177 : decode cX10_advance 177 = .ok (.getfield 26, 3) := by decide +kernel
theorem dX10_advance_180 : decode cX10_advance 180 = .ok (.if_icmp .ge 68, 3) := by decide +kernel
theorem dX10_advance_183 : decode cX10_advance 183 = .ok (.aload_n 0, 1) := by decide +kernel
theorem dX10_advance_184 : decode cX10_advance 184 = .ok (.getfield 9, 3) := by decide +kernel
theorem dX10_advance_187 : decode cX10_advance 187 = .ok (.aload_n 0, 1) := by decide +kernel
theorem dX10_advance_188 : decode cX10_advance 188 = .ok (.getfield 29, 3) := by decide +kernel
theorem dX10_advance_191 : decode cX10_advance 191 = .ok (.baload, 1) := by decide +kernel
theorem dX10_advance_192 : decode cX10_advance 192 = .ok (.iload 4, 2) := by decide +kernel
theorem dX10_advance_194 : decode cX10_advance 194 = .ok (.if_icmp .lt 54, 3) := by decide +kernel
theorem dX10_advance_197 : decode cX10_advance 197 = .ok (.aload_n 0, 1) := by decide +kernel
theorem dX10_advance_198 : decode cX10_advance 198 = .ok (.getfield 9, 3) := by decide +kernel
theorem dX10_advance_201 : decode cX10_advance 201 = .ok (.aload_n 0, 1) := by decide +kernel
theorem dX10_advance_202 : decode cX10_advance 202 = .ok (.getfield 29, 3) := by decide +kernel
theorem dX10_advance_205 : decode cX10_advance 205 = .ok (.baload, 1) := by decide +kernel
theorem dX10_advance_206 : decode cX10_advance 206 = .ok (.iload 5, 2) := by decide +kernel
theorem dX10_advance_208 : decode cX10_advance 208 = .ok (.if_icmp .gt 40, 3) := by decide +kernel
theorem dX10_advance_211 : decode cX10_advance 211 = .ok (.aload_n 0, 1) := by decide +kernel
theorem dX10_advance_212 : decode cX10_advance 212 = .ok (.aload_n 0, 1) := by decide +kernel
theorem dX10_advance_213 : decode cX10_advance 213 = .ok (.getfield 23, 3) := by decide +kernel
theorem dX10_advance_216 : decode cX10_advance 216 = .ok (.bipush 10, 2) := by decide +kernel
theorem dX10_advance_218 : decode cX10_advance 218 = .ok (.imul, 1) := by decide +kernel
theorem dX10_advance_219 : decode cX10_advance 219 = .ok (.aload_n 0, 1) := by decide +kernel
theorem dX10_advance_220 : decode cX10_advance 220 = .ok (.getfield 9, 3) := by decide +kernel
theorem dX10_advance_223 : decode cX10_advance 223 = .ok (.aload_n 0, 1) := by decide +kernel
theorem dX10_advance_224 : decode cX10_advance 224 = .ok (.getfield 29, 3) := by decide +kernel
theorem dX10_advance_227 : decode cX10_advance 227 = .ok (.baload, 1) := by decide +kernel
theorem dX10_advance_228 : decode cX10_advance 228 = .ok (.iadd, 1) := by decide +kernel
theorem dX10_advance_229 : decode cX10_advance 229 = .ok (.bipush 48, 2) := by decide +kernel
theorem dX10_advance_231 : decode cX10_advance 231 = .ok (.isub, 1) := by decide +kernel
theorem dX10_advance_232 : decode cX10_advance 232 = .ok (.putfield 23, 3) := by decide +kernel
theorem dX10_advance_235 : decode cX10_advance 235 = .ok (.aload_n 0, 1) := by decide +kernel
theorem dX10_advance_236 : decode cX10_advance 236 = .ok (.dup, 1) := by decide +kernel
theorem dX10_advance_237 : decode cX10_advance 237 = .ok (.getfield 29, 3) := by decide +kernel
theorem dX10_advance_240 : decode cX10_advance 240 = .ok (.iconst 1, 1) := by decide +kernel
theorem dX10_advance_241 : decode cX10_advance 241 = .ok (.iadd, 1) := by decide +kernel
theorem dX10_advance_242 : decode cX10_advance 242 = .ok (.putfield 29, 3) := by decide +kernel
theorem dX10_advance_245 : decode cX10_advance 245 = .ok (.goto (-73), 3) := by decide +kernel
theorem dX10_advance_248 : decode cX10_advance 248 = .ok (.iload_n 2, 1) := by decide +kernel
theorem dX10_advance_249 : decode cX10_advance 249 = .ok (.ifCond .eq 8, 3) := by decide +kernel
theorem dX10_advance_252 : decode cX10_advance 252 = .ok (.bipush 7, 2) := by decide +kernel
theorem dX10_advance_254 : decode cX10_advance 254 = .ok (.goto 5, 3) := by decide +kernel
theorem dX10_advance_257 : decode cX10_advance 257 = .ok (.bipush 8, 2) := by decide +kernel
theorem dX10_advance_259 : decode cX10_advance 259 = .ok (.istore 6, 2) := by decide +kernel
theorem dX10_advance_261 : decode cX10_advance 261 = .ok (.aload_n 0, 1) := by decide +kernel
theorem dX10_advance_262 : decode cX10_advance 262 = .ok (.aload_n 0, 1) := by decide +kernel
theorem dX10_advance_263 : decode cX10_advance 263 = .ok (.getfield 29, 3) := by decide +kernel
theorem dX10_advance_266 : decode cX10_advance 266 = .ok (.aload_n 0, 1) := by decide +kernel
theorem dX10_advance_267 : decode cX10_advance 267 = .ok (.getfield 20, 3) := by decide +kernel
theorem dX10_advance_270 : decode cX10_advance 270 = .ok (.isub, 1) := by decide +kernel
theorem dX10_advance_271 : decode cX10_advance 271 = .ok (.iload 6, 2) := by decide +kernel
theorem dX10_advance_273 : decode cX10_advance 273 = .ok (.if_icmp .le 7, 3) := by decide +kernel
theorem dX10_advance_276 : decode cX10_advance 276 = .ok (.iconst 4, 1) := by decide +kernel
theorem dX10_advance_277 : decode cX10_advance 277 = .ok (.goto 12, 3) := by decide +kernel
theorem dX10_advance_280 : decode cX10_advance 280 = .ok (.iload_n 2, 1) := by decide +kernel
theorem dX10_advance_281 : decode cX10_advance 281 = .ok (.ifCond .eq 7, 3) := by decide +kernel
theorem dX10_advance_284 : decode cX10_advance 284 = .ok (.iconst 1, 1) := by decide +kernel
theorem dX10_advance_285 : decode cX10_advance 285 = .ok (.goto 4, 3) := by decide +kernel
theorem dX10_advance_288 : decode cX10_advance 288 = .ok (.iconst 2, 1) := by decide +kernel
theorem dX10_advance_289 : decode cX10_advance 289 = .ok (.putfield 17, 3) := by decide +kernel
theorem dX10_advance_292 : decode cX10_advance 292 = .ok (.goto 8, 3) := by decide +kernel
theorem dX10_advance_295 : decode cX10_advance 295 = .ok (.aload_n 0, 1) := by decide +kernel
theorem dX10_advance_296 : decode cX10_advance 296 = .ok (.iconst 4, 1) := by decide +kernel
theorem dX10_advance_297 : decode cX10_advance 297 = .ok (.putfield 17, 3) := by decide +kernel
theorem dX10_advance_300 : decode cX10_advance 300 = .ok (.return_, 1) := by decide +kernel
