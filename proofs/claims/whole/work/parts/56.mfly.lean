theorem dX14_fly_0 : decode cX14_fly 0 = .ok (.aload_n 0, 1) := by decide +kernel
theorem dX14_fly_1 : decode cX14_fly 1 = .ok (.getfield 32, 3) := by decide +kernel
theorem dX14_fly_4 : decode cX14_fly 4 = .ok (.getfield 227, 3) := by decide +kernel
theorem dX14_fly_7 : decode cX14_fly 7 = .ok (.iconst 3, 1) := by decide +kernel
theorem dX14_fly_8 : decode cX14_fly 8 = .ok (.iload_n 3, 1) := by decide +kernel
theorem dX14_fly_9 : decode cX14_fly 9 = .ok (.imul, 1) := by decide +kernel
theorem dX14_fly_10 : decode cX14_fly 10 = .ok (.iaload, 1) := by decide +kernel
theorem dX14_fly_11 : decode cX14_fly 11 = .ok (.istore 5, 2) := by decide +kernel
theorem dX14_fly_13 : decode cX14_fly 13 = .ok (.aload_n 1, 1) := by decide +kernel
theorem dX14_fly_14 : decode cX14_fly 14 = .ok (.getfield 284, 3) := by decide +kernel
theorem dX14_fly_17 : decode cX14_fly 17 = .ok (.iconst 3, 1) := by decide +kernel
theorem dX14_fly_18 : decode cX14_fly 18 = .ok (.iload_n 3, 1) := by decide +kernel
theorem dX14_fly_19 : decode cX14_fly 19 = .ok (.imul, 1) := by decide +kernel
theorem dX14_fly_20 : decode cX14_fly 20 = .ok (.iaload, 1) := by decide +kernel
theorem dX14_fly_21 : decode cX14_fly 21 = .ok (.istore 6, 2) := by decide +kernel
theorem dX14_fly_23 : decode cX14_fly 23 = .ok (.iconst 4, 1) := by decide +kernel
theorem dX14_fly_24 : decode cX14_fly 24 = .ok (.iconst 0, 1) := by decide +kernel
theorem dX14_fly_25 : decode cX14_fly 25 = .ok (.iload 4, 2) := by decide +kernel
theorem dX14_fly_27 : decode cX14_fly 27 = .ok (.aload_n 0, 1) := by decide +kernel
theorem dX14_fly_28 : decode cX14_fly 28 = .ok (.getfield 32, 3) := by decide +kernel
theorem dX14_fly_31 : decode cX14_fly 31 = .ok (.getfield 240, 3) := by decide +kernel
theorem dX14_fly_34 : decode cX14_fly 34 = .ok (.iconst 3, 1) := by decide +kernel
theorem dX14_fly_35 : decode cX14_fly 35 = .ok (.iload_n 2, 1) := by decide +kernel
theorem dX14_fly_36 : decode cX14_fly 36 = .ok (.imul, 1) := by decide +kernel
theorem dX14_fly_37 : decode cX14_fly 37 = .ok (.iconst 1, 1) := by decide +kernel
theorem dX14_fly_38 : decode cX14_fly 38 = .ok (.iadd, 1) := by decide +kernel
theorem dX14_fly_39 : decode cX14_fly 39 = .ok (.iaload, 1) := by decide +kernel
theorem dX14_fly_40 : decode cX14_fly 40 = .ok (.iadd, 1) := by decide +kernel
theorem dX14_fly_41 : decode cX14_fly 41 = .ok (.aload_n 1, 1) := by decide +kernel
theorem dX14_fly_42 : decode cX14_fly 42 = .ok (.getfield 283, 3) := by decide +kernel
theorem dX14_fly_45 : decode cX14_fly 45 = .ok (.bipush 7, 2) := by decide +kernel
theorem dX14_fly_47 : decode cX14_fly 47 = .ok (.iload_n 2, 1) := by decide +kernel
theorem dX14_fly_48 : decode cX14_fly 48 = .ok (.imul, 1) := by decide +kernel
theorem dX14_fly_49 : decode cX14_fly 49 = .ok (.iconst 1, 1) := by decide +kernel
theorem dX14_fly_50 : decode cX14_fly 50 = .ok (.iadd, 1) := by decide +kernel
theorem dX14_fly_51 : decode cX14_fly 51 = .ok (.iaload, 1) := by decide +kernel
theorem dX14_fly_52 : decode cX14_fly 52 = .ok (.isub, 1) := by decide +kernel
theorem dX14_fly_53 : decode cX14_fly 53 = .ok (.invokestatic 295, 3) := by decide +kernel
theorem dX14_fly_56 : decode cX14_fly 56 = .ok (.imul, 1) := by decide +kernel
theorem dX14_fly_57 : decode cX14_fly 57 = .ok (.aload_n 0, 1) := by decide +kernel
theorem dX14_fly_58 : decode cX14_fly 58 = .ok (.getfield 32, 3) := by decide +kernel
theorem dX14_fly_61 : decode cX14_fly 61 = .ok (.getfield 227, 3) := by decide +kernel
theorem dX14_fly_64 : decode cX14_fly 64 = .ok (.iconst 3, 1) := by decide +kernel
theorem dX14_fly_65 : decode cX14_fly 65 = .ok (.iload_n 3, 1) := by decide +kernel
theorem dX14_fly_66 : decode cX14_fly 66 = .ok (.imul, 1) := by decide +kernel
theorem dX14_fly_67 : decode cX14_fly 67 = .ok (.iconst 1, 1) := by decide +kernel
theorem dX14_fly_68 : decode cX14_fly 68 = .ok (.iadd, 1) := by decide +kernel
theorem dX14_fly_69 : decode cX14_fly 69 = .ok (.iaload, 1) := by decide +kernel
theorem dX14_fly_70 : decode cX14_fly 70 = .ok (.idiv, 1) := by decide +kernel
theorem dX14_fly_71 : decode cX14_fly 71 = .ok (.istore 7, 2) := by decide +kernel
theorem dX14_fly_73 : decode cX14_fly 73 = .ok (.iconst 0, 1) := by decide +kernel
theorem dX14_fly_74 : decode cX14_fly 74 = .ok (.istore 8, 2) := by decide +kernel
theorem dX14_fly_76 : decode cX14_fly 76 = .ok (.iload 7, 2) := by decide +kernel
theorem dX14_fly_78 : decode cX14_fly 78 = .ok (.ifCond .ne 7, 3) := by decide +kernel
theorem dX14_fly_81 : decode cX14_fly 81 = .ok (.iconst 1, 1) := by decide +kernel
theorem dX14_fly_82 : decode cX14_fly 82 = .ok (.goto 4, 3) := by decide +kernel
theorem dX14_fly_85 : decode cX14_fly 85 = .ok (.iconst 0, 1) := by decide +kernel
theorem dX14_fly_86 : decode cX14_fly 86 = .ok (.istore 9, 2) := by decide +kernel
theorem dX14_fly_88 : decode cX14_fly 88 = .ok (.aload_n 0, 1) := by decide +kernel
theorem dX14_fly_89 : decode cX14_fly 89 = .ok (.iconst 0, 1) := by decide +kernel
theorem dX14_fly_90 : decode cX14_fly 90 = .ok (.putfield 305, 3) := by decide +kernel
theorem dX14_fly_93 : decode cX14_fly 93 = .ok (.aload_n 0, 1) := by decide +kernel
theorem dX14_fly_94 : decode cX14_fly 94 = .ok (.iconst 0, 1) := by decide +kernel
theorem dX14_fly_95 : decode cX14_fly 95 = .ok (.putfield 308, 3) := by decide +kernel
theorem dX14_fly_98 : decode cX14_fly 98 = .ok (.aload_n 0, 1) := by decide +kernel
theorem dX14_fly_99 : decode cX14_fly 99 = .ok (.iconst 0, 1) := by decide +kernel
theorem dX14_fly_100 : decode cX14_fly 100 = .ok (.putfield 311, 3) := by decide +kernel
theorem dX14_fly_103 : decode cX14_fly 103 = .ok (.aload_n 0, 1) := by decide +kernel
theorem dX14_fly_104 : decode cX14_fly 104 = .ok (.iconst 0, 1) := by decide +kernel
theorem dX14_fly_105 : decode cX14_fly 105 = .ok (.putfield 314, 3) := by decide +kernel
theorem dX14_fly_108 : decode cX14_fly 108 = .ok (.iload 9, 2) := by decide +kernel
theorem dX14_fly_110 : decode cX14_fly 110 = .ok (.ifCond .ne 165, 3) := by decide +kernel
theorem dX14_fly_113 : decode cX14_fly 113 = .ok (.aload_n 0, 1) := by decide +kernel
theorem dX14_fly_114 : decode cX14_fly 114 = .ok (.getfield 311, 3) := by decide +kernel
theorem dX14_fly_117 : decode cX14_fly 117 = .ok (.sipush 300, 3) := by decide +kernel
theorem dX14_fly_120 : decode cX14_fly 120 = .ok (.if_icmp .ge 155, 3) := by decide +kernel
theorem dX14_fly_123 : decode cX14_fly 123 = .ok (.aload_n 0, 1) := by decide +kernel
theorem dX14_fly_124 : decode cX14_fly 124 = .ok (.dup, 1) := by decide +kernel
theorem dX14_fly_125 : decode cX14_fly 125 = .ok (.getfield 311, 3) := by decide +kernel
theorem dX14_fly_128 : decode cX14_fly 128 = .ok (.iconst 1, 1) := by decide +kernel
theorem dX14_fly_129 : decode cX14_fly 129 = .ok (.iadd, 1) := by decide +kernel
theorem dX14_fly_130 : decode cX14_fly 130 = .ok (.putfield 311, 3) := by decide +kernel
theorem dX14_fly_133 : decode cX14_fly 133 = .ok (.iload 8, 2) := by decide +kernel
theorem dX14_fly_135 : decode cX14_fly 135 = .ok (.iload 7, 2) := by decide +kernel
theorem dX14_fly_137 : decode cX14_fly 137 = .ok (.iadd, 1) := by decide +kernel
theorem dX14_fly_138 : decode cX14_fly 138 = .ok (.istore 8, 2) := by decide +kernel
theorem dX14_fly_140 : decode cX14_fly 140 = .ok (.iload 8, 2) := by decide +kernel
theorem dX14_fly_142 : decode cX14_fly 142 = .ok (.iload 5, 2) := by decide +kernel
theorem dX14_fly_144 : decode cX14_fly 144 = .ok (.if_icmp .lt 31, 3) := by decide +kernel
theorem dX14_fly_147 : decode cX14_fly 147 = .ok (.iload 5, 2) := by decide +kernel
theorem dX14_fly_149 : decode cX14_fly 149 = .ok (.istore 8, 2) := by decide +kernel
theorem dX14_fly_151 : decode cX14_fly 151 = .ok (.aload_n 0, 1) := by decide +kernel
theorem dX14_fly_152 : decode cX14_fly 152 = .ok (.dup, 1) := by decide +kernel
theorem dX14_fly_153 : decode cX14_fly 153 = .ok (.getfield 308, 3) := by decide +kernel
theorem dX14_fly_156 : decode cX14_fly 156 = .ok (.iconst 1, 1) := by decide +kernel
theorem dX14_fly_157 : decode cX14_fly 157 = .ok (.iadd, 1) := by decide +kernel
theorem dX14_fly_158 : decode cX14_fly 158 = .ok (.putfield 308, 3) := by decide +kernel
theorem dX14_fly_161 : decode cX14_fly 161 = .ok (.iload 7, 2) := by decide +kernel
theorem dX14_fly_163 : decode cX14_fly 163 = .ok (.iload 6, 2) := by decide +kernel
theorem dX14_fly_165 : decode cX14_fly 165 = .ok (.imul, 1) := by decide +kernel
theorem dX14_fly_166 : decode cX14_fly 166 = .ok (.bipush 20, 2) := by decide +kernel
theorem dX14_fly_168 : decode cX14_fly 168 = .ok (.idiv, 1) := by decide +kernel
theorem dX14_fly_169 : decode cX14_fly 169 = .ok (.ineg, 1) := by decide +kernel
theorem dX14_fly_170 : decode cX14_fly 170 = .ok (.istore 7, 2) := by decide +kernel
theorem dX14_fly_172 : decode cX14_fly 172 = .ok (.goto 35, 3) := by decide +kernel
theorem dX14_fly_175 : decode cX14_fly 175 = .ok (.iload 8, 2) := by decide +kernel
theorem dX14_fly_177 : decode cX14_fly 177 = .ok (.ifCond .gt 30, 3) := by decide +kernel
theorem dX14_fly_180 : decode cX14_fly 180 = .ok (.iconst 0, 1) := by decide +kernel
theorem dX14_fly_181 : decode cX14_fly 181 = .ok (.istore 8, 2) := by decide +kernel
theorem dX14_fly_183 : decode cX14_fly 183 = .ok (.iload 7, 2) := by decide +kernel
theorem dX14_fly_185 : decode cX14_fly 185 = .ok (.ineg, 1) := by decide +kernel
theorem dX14_fly_186 : decode cX14_fly 186 = .ok (.iload 6, 2) := by decide +kernel
theorem dX14_fly_188 : decode cX14_fly 188 = .ok (.imul, 1) := by decide +kernel
theorem dX14_fly_189 : decode cX14_fly 189 = .ok (.bipush 30, 2) := by decide +kernel
theorem dX14_fly_191 : decode cX14_fly 191 = .ok (.idiv, 1) := by decide +kernel
theorem dX14_fly_192 : decode cX14_fly 192 = .ok (.istore 7, 2) := by decide +kernel
theorem dX14_fly_194 : decode cX14_fly 194 = .ok (.iload 7, 2) := by decide +kernel
theorem dX14_fly_196 : decode cX14_fly 196 = .ok (.iconst 1, 1) := by decide +kernel
theorem dX14_fly_197 : decode cX14_fly 197 = .ok (.if_icmp .gt 7, 3) := by decide +kernel
theorem dX14_fly_200 : decode cX14_fly 200 = .ok (.iconst 1, 1) := by decide +kernel
theorem dX14_fly_201 : decode cX14_fly 201 = .ok (.goto 4, 3) := by decide +kernel
theorem dX14_fly_204 : decode cX14_fly 204 = .ok (.iconst 0, 1) := by decide +kernel
theorem dX14_fly_205 : decode cX14_fly 205 = .ok (.istore 9, 2) := by decide +kernel
theorem dX14_fly_207 : decode cX14_fly 207 = .ok (.iload 7, 2) := by decide +kernel
theorem dX14_fly_209 : decode cX14_fly 209 = .ok (.ifCond .le 22, 3) := by decide +kernel
theorem dX14_fly_212 : decode cX14_fly 212 = .ok (.iconst 0, 1) := by decide +kernel
theorem dX14_fly_213 : decode cX14_fly 213 = .ok (.iload 7, 2) := by decide +kernel
theorem dX14_fly_215 : decode cX14_fly 215 = .ok (.iconst 1, 1) := by decide +kernel
theorem dX14_fly_216 : decode cX14_fly 216 = .ok (.isub, 1) := by decide +kernel
theorem dX14_fly_217 : decode cX14_fly 217 = .ok (.aload_n 0, 1) := by decide +kernel
theorem dX14_fly_218 : decode cX14_fly 218 = .ok (.iload_n 3, 1) := by decide +kernel
theorem dX14_fly_219 : decode cX14_fly 219 = .ok (.iload 8, 2) := by decide +kernel
theorem dX14_fly_221 : decode cX14_fly 221 = .ok (.invokevirtual 317, 3) := by decide +kernel
theorem dX14_fly_224 : decode cX14_fly 224 = .ok (.isub, 1) := by decide +kernel
theorem dX14_fly_225 : decode cX14_fly 225 = .ok (.invokestatic 295, 3) := by decide +kernel
theorem dX14_fly_228 : decode cX14_fly 228 = .ok (.goto 12, 3) := by decide +kernel
theorem dX14_fly_231 : decode cX14_fly 231 = .ok (.bipush (-20), 2) := by decide +kernel
theorem dX14_fly_233 : decode cX14_fly 233 = .ok (.iload 7, 2) := by decide +kernel
theorem dX14_fly_235 : decode cX14_fly 235 = .ok (.iconst 1, 1) := by decide +kernel
theorem dX14_fly_236 : decode cX14_fly 236 = .ok (.isub, 1) := by decide +kernel
theorem dX14_fly_237 : decode cX14_fly 237 = .ok (.invokestatic 295, 3) := by decide +kernel
theorem dX14_fly_240 : decode cX14_fly 240 = .ok (.istore 7, 2) := by decide +kernel
theorem dX14_fly_242 : decode cX14_fly 242 = .ok (.aload_n 0, 1) := by decide +kernel
theorem dX14_fly_243 : decode cX14_fly 243 = .ok (.aload_n 0, 1) := by decide +kernel
theorem dX14_fly_244 : decode cX14_fly 244 = .ok (.getfield 305, 3) := by decide +kernel
theorem dX14_fly_247 : decode cX14_fly 247 = .ok (.iload 8, 2) := by decide +kernel
theorem dX14_fly_249 : decode cX14_fly 249 = .ok (.invokestatic 295, 3) := by decide +kernel
theorem dX14_fly_252 : decode cX14_fly 252 = .ok (.putfield 305, 3) := by decide +kernel
theorem dX14_fly_255 : decode cX14_fly 255 = .ok (.aload_n 0, 1) := by decide +kernel
theorem dX14_fly_256 : decode cX14_fly 256 = .ok (.getfield 311, 3) := by decide +kernel
theorem dX14_fly_259 : decode cX14_fly 259 = .ok (.aload_n 0, 1) := by decide +kernel
theorem dX14_fly_260 : decode cX14_fly 260 = .ok (.getfield 320, 3) := by decide +kernel
theorem dX14_fly_263 : decode cX14_fly 263 = .ok (.if_icmp .ne (-155), 3) := by decide +kernel
theorem dX14_fly_266 : decode cX14_fly 266 = .ok (.aload_n 0, 1) := by decide +kernel
theorem dX14_fly_267 : decode cX14_fly 267 = .ok (.iload 8, 2) := by decide +kernel
theorem dX14_fly_269 : decode cX14_fly 269 = .ok (.putfield 314, 3) := by decide +kernel
theorem dX14_fly_272 : decode cX14_fly 272 = .ok (.goto (-164), 3) := by decide +kernel
theorem dX14_fly_275 : decode cX14_fly 275 = .ok (.return_, 1) := by decide +kernel
theorem dX14_isIn_0 : decode cX14_isIn 0 = .ok (.iload_n 0, 1) := by decide +kernel
theorem dX14_isIn_1 : decode cX14_isIn 1 = .ok (.iload_n 1, 1) := by decide +kernel
theorem dX14_isIn_2 : decode cX14_isIn 2 = .ok (.if_icmp .lt 12, 3) := by decide +kernel
theorem dX14_isIn_5 : decode cX14_isIn 5 = .ok (.iload_n 0, 1) := by decide +kernel
theorem dX14_isIn_6 : decode cX14_isIn 6 = .ok (.iload_n 2, 1) := by decide +kernel
theorem dX14_isIn_7 : decode cX14_isIn 7 = .ok (.if_icmp .gt 7, 3) := by decide +kernel
theorem dX14_isIn_10 : decode cX14_isIn 10 = .ok (.iconst 1, 1) := by decide +kernel
theorem dX14_isIn_11 : decode cX14_isIn 11 = .ok (.goto 4, 3) := by decide +kernel
theorem dX14_isIn_14 : decode cX14_isIn 14 = .ok (.iconst 0, 1) := by decide +kernel
theorem dX14_isIn_15 : decode cX14_isIn 15 = .ok (.ireturn, 1) := by decide +kernel
theorem dX14_rustAt_0 : decode cX14_rustAt 0 = .ok (.iconst 0, 1) := by decide +kernel
theorem dX14_rustAt_1 : decode cX14_rustAt 1 = .ok (.istore_n 3, 1) := by decide +kernel
theorem dX14_rustAt_2 : decode cX14_rustAt 2 = .ok (.iconst 0, 1) := by decide +kernel
theorem dX14_rustAt_3 : decode cX14_rustAt 3 = .ok (.istore 4, 2) := by decide +kernel
theorem dX14_rustAt_5 : decode cX14_rustAt 5 = .ok (.iload 4, 2) := by decide +kernel
theorem dX14_rustAt_7 : decode cX14_rustAt 7 = .ok (.iconst 4, 1) := by decide +kernel
theorem dX14_rustAt_8 : decode cX14_rustAt 8 = .ok (.aload_n 0, 1) := by decide +kernel
theorem dX14_rustAt_9 : decode cX14_rustAt 9 = .ok (.getfield 32, 3) := by decide +kernel
theorem dX14_rustAt_12 : decode cX14_rustAt 12 = .ok (.getfield 234, 3) := by decide +kernel
theorem dX14_rustAt_15 : decode cX14_rustAt 15 = .ok (.imul, 1) := by decide +kernel
theorem dX14_rustAt_16 : decode cX14_rustAt 16 = .ok (.if_icmp .ge 73, 3) := by decide +kernel
theorem dX14_rustAt_19 : decode cX14_rustAt 19 = .ok (.iload_n 3, 1) := by decide +kernel
theorem dX14_rustAt_20 : decode cX14_rustAt 20 = .ok (.aload_n 0, 1) := by decide +kernel
theorem dX14_rustAt_21 : decode cX14_rustAt 21 = .ok (.getfield 32, 3) := by decide +kernel
theorem dX14_rustAt_24 : decode cX14_rustAt 24 = .ok (.getfield 237, 3) := by decide +kernel
theorem dX14_rustAt_27 : decode cX14_rustAt 27 = .ok (.iload 4, 2) := by decide +kernel
theorem dX14_rustAt_29 : decode cX14_rustAt 29 = .ok (.iaload, 1) := by decide +kernel
theorem dX14_rustAt_30 : decode cX14_rustAt 30 = .ok (.iload_n 1, 1) := by decide +kernel
theorem dX14_rustAt_31 : decode cX14_rustAt 31 = .ok (.if_icmp .ne 49, 3) := by decide +kernel
theorem dX14_rustAt_34 : decode cX14_rustAt 34 = .ok (.iload_n 2, 1) := by decide +kernel
theorem dX14_rustAt_35 : decode cX14_rustAt 35 = .ok (.aload_n 0, 1) := by decide +kernel
theorem dX14_rustAt_36 : decode cX14_rustAt 36 = .ok (.getfield 32, 3) := by decide +kernel
theorem dX14_rustAt_39 : decode cX14_rustAt 39 = .ok (.getfield 237, 3) := by decide +kernel
theorem dX14_rustAt_42 : decode cX14_rustAt 42 = .ok (.iload 4, 2) := by decide +kernel
theorem dX14_rustAt_44 : decode cX14_rustAt 44 = .ok (.iconst 1, 1) := by decide +kernel
theorem dX14_rustAt_45 : decode cX14_rustAt 45 = .ok (.iadd, 1) := by decide +kernel
theorem dX14_rustAt_46 : decode cX14_rustAt 46 = .ok (.iaload, 1) := by decide +kernel
theorem dX14_rustAt_47 : decode cX14_rustAt 47 = .ok (.aload_n 0, 1) := by decide +kernel
theorem dX14_rustAt_48 : decode cX14_rustAt 48 = .ok (.getfield 32, 3) := by decide +kernel
theorem dX14_rustAt_51 : decode cX14_rustAt 51 = .ok (.getfield 237, 3) := by decide +kernel
theorem dX14_rustAt_54 : decode cX14_rustAt 54 = .ok (.iload 4, 2) := by decide +kernel
theorem dX14_rustAt_56 : decode cX14_rustAt 56 = .ok (.iconst 2, 1) := by decide +kernel
theorem dX14_rustAt_57 : decode cX14_rustAt 57 = .ok (.iadd, 1) := by decide +kernel
theorem dX14_rustAt_58 : decode cX14_rustAt 58 = .ok (.iaload, 1) := by decide +kernel
theorem dX14_rustAt_59 : decode cX14_rustAt 59 = .ok (.invokestatic 72, 3) := by decide +kernel
theorem dX14_rustAt_62 : decode cX14_rustAt 62 = .ok (.ifCond .eq 18, 3) := by decide +kernel
theorem dX14_rustAt_65 : decode cX14_rustAt 65 = .ok (.aload_n 0, 1) := by decide +kernel
theorem dX14_rustAt_66 : decode cX14_rustAt 66 = .ok (.getfield 32, 3) := by decide +kernel
theorem dX14_rustAt_69 : decode cX14_rustAt 69 = .ok (.getfield 237, 3) := by decide +kernel
theorem dX14_rustAt_72 : decode cX14_rustAt 72 = .ok (.iload 4, 2) := by decide +kernel
theorem dX14_rustAt_74 : decode cX14_rustAt 74 = .ok (.iconst 3, 1) := by decide +kernel
theorem dX14_rustAt_75 : decode cX14_rustAt 75 = .ok (.iadd, 1) := by decide +kernel
theorem dX14_rustAt_76 : decode cX14_rustAt 76 = .ok (.iaload, 1) := by decide +kernel
theorem dX14_rustAt_77 : decode cX14_rustAt 77 = .ok (.goto 4, 3) := by decide +kernel
theorem dX14_rustAt_80 : decode cX14_rustAt 80 = .ok (.iconst 0, 1) := by decide +kernel
theorem dX14_rustAt_81 : decode cX14_rustAt 81 = .ok (.iadd, 1) := by decide +kernel
theorem dX14_rustAt_82 : decode cX14_rustAt 82 = .ok (.istore_n 3, 1) := by decide +kernel
theorem dX14_rustAt_83 : decode cX14_rustAt 83 = .ok (.iinc 4 4, 3) := by decide +kernel
theorem dX14_rustAt_86 : decode cX14_rustAt 86 = .ok (.goto (-81), 3) := by decide +kernel
theorem dX14_rustAt_89 : decode cX14_rustAt 89 = .ok (.iload_n 3, 1) := by decide +kernel
theorem dX14_rustAt_90 : decode cX14_rustAt 90 = .ok (.ireturn, 1) := by decide +kernel
/-! the reference flies -/
section Mf
variable {G : Gp} {S : AMem} {I : Nat → Nat → Int32} {J : Nat → Nat → Int64} {R : Nat → Nat → Option Nat} {y bl z : Nat} {B : BS} {m : MS}
theorem k_X14_isIn {v lo hi : Int32} : Fn G mX14_isIn 0 [vI v, vI lo, vI hi] (mw S I J R) (fun rr M1 => rr = some (vI (bI (lo ≤ v ∧ v ≤ hi))) ∧ M1 = mw S I J R) := by
  refine am_iload_n (q := 1) dX14_isIn_0 rfl rfl ?_
  refine am_iload_n (q := 2) dX14_isIn_1 rfl rfl ?_
  refine am_icmp_lt (tgt := 14) (q := 5) dX14_isIn_2 rfl rfl (fun h1 => ?_) (fun h1 => ?_)
  · refine am_iconst (q := 15) (v := 0) dX14_isIn_14 kc_i0 rfl ?_
    exact am_iret dX14_isIn_15 rfl rfl ⟨_, rfl, by rw [bI_f (fun q => Int32.not_le.mpr h1 q.1)], rfl⟩
  · refine am_iload_n (q := 6) dX14_isIn_5 rfl rfl ?_
    refine am_iload_n (q := 7) dX14_isIn_6 rfl rfl ?_
    refine am_icmp_gt (tgt := 14) (q := 10) dX14_isIn_7 rfl rfl (fun h2 => ?_) (fun h2 => ?_)
    · refine am_iconst (q := 15) (v := 0) dX14_isIn_14 kc_i0 rfl ?_
      exact am_iret dX14_isIn_15 rfl rfl ⟨_, rfl, by rw [bI_f (fun q => Int32.not_le.mpr h2 q.2)], rfl⟩
    · refine am_iconst (q := 11) (v := 1) dX14_isIn_10 kc_i1 rfl ?_
      refine am_goto (tgt := 15) dX14_isIn_11 rfl ?_
      exact am_iret dX14_isIn_15 rfl rfl ⟨_, rfl, by rw [bI_t ⟨Int32.not_lt.mp h1, Int32.not_lt.mp h2⟩], rfl⟩
theorem k_X14_rustAt {u : Nat} {r p : Int32} (hG : okG G) (hM : MCb S R y bl) (hu : u ≤ 12) (hI : I bl 1 = nI u) : Fn G mX14_rustAt 1 [vR y, vI r, vI p] (mw S I J R) (fun rr M1 => rr = some (vI (rusE (I (bl + 2)) r p u)) ∧ M1 = mw S I J R) := by
  obtain ⟨ky, ry, kb, b5, b6, b7, b8, b9, b11, b12, b13, _, ⟨k2, l2⟩, _⟩ := hM
  refine am_iconst (q := 1) (v := 0) dX14_rustAt_0 kc_i0 rfl ?_
  refine am_istore_n (q := 2) (ls1 := [_, _, _, _, _]) dX14_rustAt_1 (Nat.le_of_ble_eq_true rfl) rfl rfl ?_
  refine am_iconst (q := 3) (v := 0) dX14_rustAt_2 kc_i0 rfl ?_
  refine am_istore (q := 5) (ls1 := [_, _, _, _, _]) dX14_rustAt_3 (Nat.le_of_ble_eq_true rfl) rfl rfl ?_
  refine k_loop (σ := Int32) (n := u) (Inv := fun i v => v = rusE (I (bl + 2)) r p i) (W := fun i v => MW G mX14_rustAt 1 5 [some (vR y), some (vI r), some (vI p), some (vI v), some (vI (nI (4 * i)))] [] (mw S I J R) _) ?_ ?_ 0 0 (Nat.zero_le _) rfl
  · rintro i v hi rfl ih
    have fin : ∀ w : Int32, w = (if I (bl + 2) (4 * i) = r ∧ I (bl + 2) (4 * i + 1) ≤ p ∧ p ≤ I (bl + 2) (4 * i + 2) then I (bl + 2) (4 * i + 3) else 0) → MW G mX14_rustAt 1 81 [some (vR y), some (vI r), some (vI p), some (vI (rusE (I (bl + 2)) r p i)), some (vI (nI (4 * i)))] [vI w, vI (rusE (I (bl + 2)) r p i)] (mw S I J R) (fun f M1 => ∃ r1, f = .inl r1 ∧ (r1 = some (vI (rusE (I (bl + 2)) r p u)) ∧ M1 = mw S I J R)) := by
      intro w hw
      refine am_iadd (q := 82) dX14_rustAt_81 rfl ?_
      refine am_istore_n (q := 83) (ls1 := [_, _, _, _, _]) dX14_rustAt_82 (Nat.le_of_ble_eq_true rfl) rfl rfl ?_
      refine am_iincW (q := 86) (ls1 := [_, _, _, _, _]) (w := 4) dX14_rustAt_83 rfl (Nat.le_of_ble_eq_true rfl) kc_i4 rfl rfl ?_
      refine am_goto (tgt := 5) dX14_rustAt_86 rfl ?_
      rw [show (nI (4 * i) + 4 : Int32) = nI (4 * (i + 1)) from nI_add (4 * i) 4]
      exact ih _ (by rw [hw]; rfl)
    refine am_iload (q := 7) dX14_rustAt_5 rfl rfl ?_
    refine am_iconst (q := 8) (v := 4) dX14_rustAt_7 kc_i4 rfl ?_
    refine am_aload_n (q := 9) dX14_rustAt_8 rfl rfl ?_
    refine cm_getR (q := 12) dX14_rustAt_9 flX14_32 rfl (by assumption) (by assumption) rfl ?_
    refine cm_getI (q := 15) dX14_rustAt_12 flX14_234 rfl (by assumption) rfl ?_
    rw [hI]
    refine am_imul (q := 16) dX14_rustAt_15 rfl ?_
    rw [show (4 * nI u : Int32) = nI (4 * u) from k_mul 4 u]
    have i0 : vp_in (nI (4 * i)) (S.ln (bl + 2)) := by rw [l2]; exact vp_in_nI (by omega) (by decide)
    refine am_icmp_ge (tgt := 89) (q := 19) dX14_rustAt_16 rfl rfl (fun hz => absurd hz (nI_ge (by omega) (by omega))) (fun _ => ?_)
    refine am_iload_n (q := 20) dX14_rustAt_19 rfl rfl ?_
    refine am_aload_n (q := 21) dX14_rustAt_20 rfl rfl ?_
    refine cm_getR (q := 24) dX14_rustAt_21 flX14_32 rfl (by assumption) (by assumption) rfl ?_
    refine cm_getR (q := 27) dX14_rustAt_24 flX14_237 rfl (by assumption) (by assumption) rfl ?_
    refine am_iload (q := 29) dX14_rustAt_27 rfl rfl ?_
    refine cm_iaload (q := 30) dX14_rustAt_29 (by assumption) i0 rfl ?_
    refine am_iload_n (q := 31) dX14_rustAt_30 rfl rfl ?_
    rw [nI_clamp (show 4 * i < 2 ^ 31 by omega)]
    refine am_icmp_ne (tgt := 80) (q := 34) dX14_rustAt_31 rfl rfl (fun hc => ?_) (fun hc => ?_)
    · refine am_iconst (q := 81) (v := 0) dX14_rustAt_80 kc_i0 rfl ?_
      exact fin 0 (if_neg (fun q => hc q.1)).symm
    · refine am_iload_n (q := 35) dX14_rustAt_34 rfl rfl ?_
      refine am_aload_n (q := 36) dX14_rustAt_35 rfl rfl ?_
      refine cm_getR (q := 39) dX14_rustAt_36 flX14_32 rfl (by assumption) (by assumption) rfl ?_
      refine cm_getR (q := 42) dX14_rustAt_39 flX14_237 rfl (by assumption) (by assumption) rfl ?_
      refine am_iload (q := 44) dX14_rustAt_42 rfl rfl ?_
      refine am_iconst (q := 45) (v := 1) dX14_rustAt_44 kc_i1 rfl ?_
      refine am_iadd (q := 46) dX14_rustAt_45 rfl ?_
      rw [show (nI (4 * i) + 1 : Int32) = nI (4 * i + 1) from nI_add (4 * i) 1]
      refine cm_iaload (q := 47) dX14_rustAt_46 (by assumption) (by rw [l2]; exact vp_in_nI (by omega) (by decide)) rfl ?_
      refine am_aload_n (q := 48) dX14_rustAt_47 rfl rfl ?_
      refine cm_getR (q := 51) dX14_rustAt_48 flX14_32 rfl (by assumption) (by assumption) rfl ?_
      refine cm_getR (q := 54) dX14_rustAt_51 flX14_237 rfl (by assumption) (by assumption) rfl ?_
      refine am_iload (q := 56) dX14_rustAt_54 rfl rfl ?_
      refine am_iconst (q := 57) (v := 2) dX14_rustAt_56 kc_i2 rfl ?_
      refine am_iadd (q := 58) dX14_rustAt_57 rfl ?_
      rw [show (nI (4 * i) + 2 : Int32) = nI (4 * i + 2) from nI_add (4 * i) 2, nI_clamp (show 4 * i + 1 < 2 ^ 31 by omega)]
      refine cm_iaload (q := 59) dX14_rustAt_58 (by assumption) (by rw [l2]; exact vp_in_nI (by omega) (by decide)) rfl ?_
      refine am_call1 (q := 62) (As := [_, _, _]) hG dX14_rustAt_59 mlX14_72 rfl (Nat.le_of_ble_eq_true rfl) (Nat.le_of_ble_eq_true rfl) (Nat.le_of_ble_eq_true rfl) k_X14_isIn rfl ?_
      rintro _ _ ⟨rfl, rfl⟩
      rw [nI_clamp (show 4 * i + 2 < 2 ^ 31 by omega)]
      refine am_if_eq (tgt := 80) (q := 65) dX14_rustAt_62 rfl rfl (fun hc2 => ?_) (fun hc2 => ?_)
      · refine am_iconst (q := 81) (v := 0) dX14_rustAt_80 kc_i0 rfl ?_
        exact fin 0 (if_neg (fun q => bI_e0.mp hc2 q.2)).symm
      · refine am_aload_n (q := 66) dX14_rustAt_65 rfl rfl ?_
        refine cm_getR (q := 69) dX14_rustAt_66 flX14_32 rfl (by assumption) (by assumption) rfl ?_
        refine cm_getR (q := 72) dX14_rustAt_69 flX14_237 rfl (by assumption) (by assumption) rfl ?_
        refine am_iload (q := 74) dX14_rustAt_72 rfl rfl ?_
        refine am_iconst (q := 75) (v := 3) dX14_rustAt_74 kc_i3 rfl ?_
        refine am_iadd (q := 76) dX14_rustAt_75 rfl ?_
        rw [show (nI (4 * i) + 3 : Int32) = nI (4 * i + 3) from nI_add (4 * i) 3]
        refine cm_iaload (q := 77) dX14_rustAt_76 (by assumption) (by rw [l2]; exact vp_in_nI (by omega) (by decide)) rfl ?_
        rw [nI_clamp (show 4 * i + 3 < 2 ^ 31 by omega)]
        refine am_goto (tgt := 81) dX14_rustAt_77 rfl ?_
        exact fin _ (if_pos ⟨hc, bI_n0.mp hc2⟩).symm
  · rintro v rfl
    refine am_iload (q := 7) dX14_rustAt_5 rfl rfl ?_
    refine am_iconst (q := 8) (v := 4) dX14_rustAt_7 kc_i4 rfl ?_
    refine am_aload_n (q := 9) dX14_rustAt_8 rfl rfl ?_
    refine cm_getR (q := 12) dX14_rustAt_9 flX14_32 rfl (by assumption) (by assumption) rfl ?_
    refine cm_getI (q := 15) dX14_rustAt_12 flX14_234 rfl (by assumption) rfl ?_
    rw [hI]
    refine am_imul (q := 16) dX14_rustAt_15 rfl ?_
    rw [show (4 * nI u : Int32) = nI (4 * u) from k_mul 4 u]
    refine am_icmp_ge (tgt := 89) (q := 19) dX14_rustAt_16 rfl rfl (fun _ => ?_) (fun hz => absurd (Int32.le_refl _) hz)
    refine am_iload_n (q := 90) dX14_rustAt_89 rfl rfl ?_
    exact am_iret dX14_rustAt_90 rfl rfl ⟨_, rfl, rfl, rfl⟩
theorem fP_rng {hi pl v : Int32} (h0 : 0 < hi) (h1 : hi < 100) : 0 ≤ fP hi pl v ∧ fP hi pl v < 100 := by
  unfold fP
  by_cases a : hi ≤ pl + v
  · rw [if_pos a]
    exact ⟨Int32.le_of_lt h0, h1⟩
  · rw [if_neg a]
    by_cases b : pl + v ≤ 0
    · rw [if_pos b]
      exact ⟨Int32.le_refl _, by decide⟩
    · rw [if_neg b]
      exact ⟨Int32.le_of_lt (Int32.not_le.mp b), Int32.lt_trans (Int32.not_le.mp a) h1⟩
theorem ruM_at {r : Nat} {p : Int32} (hr : r < B.nR) {u : Nat} {F : Nat → Int32} (h : ∀ r, r < B.nR → ∀ p, p < 100 → B.rust r p = rusE F (nI r) (nI p) u) (h0 : 0 ≤ p) (h1 : p < 100) : ruM B r p = rusE F (nI r) p u := by
  obtain ⟨j, hj, rfl⟩ := k_idx (n := 100) (by decide) ⟨h0, h1⟩
  unfold ruM
  rw [if_pos ⟨h0, h1⟩, nI_clamp (by omega)]
  exact h r hr j hj
/-- what the reference's flight tells behind so many ticks -/
def FlR (I0 I1 : Nat → Nat → Int32) (y : Nat) (F : Nat → Int32 × Int32 × Int32 × Int32 × Nat × Int32) (n : Nat) : Prop := I1 y 20 = (F n).2.2.1 ∧ I1 y 21 = (F n).2.2.2.1 ∧ I1 y 22 = nI (F n).2.2.2.2.1 ∧ (∀ t, t ≤ 300 → I0 y 23 = nI t → I1 y 24 = if 1 ≤ t ∧ t ≤ (F n).2.2.2.2.1 then (F t).1 else 0) ∧ ∀ x j, (x ≠ y ∨ j < 20 ∨ j = 23) → I1 x j = I0 x j
theorem k_X14_fly {f r : Nat} {arm : Int32} (hG : okG G) (hM : MCb S R y bl) (hS : SCc S R z) (hB : RB I bl B m) (hs : RS I z B m) (hyz : y < bl ∧ bl + 9 ≤ z) (hf : f < B.nF) (hr : r < B.nR) : Fn G mX14_fly 2 [vR y, vR z, vI (nI f), vI (nI r), vI arm] (mw S I J R) (fun rr M1 => rr = none ∧ ∃ I1, M1 = mw S I1 J R ∧ FlR I I1 y (flM B m f r arm) 300) := by
  have hM0 := hM
  obtain ⟨ky, ry, kb, b5, b6, b7, b8, b9, b11, b12, b13, ⟨k1, l1⟩, ⟨k2, l2⟩, ⟨k3, l3⟩, _⟩ := hM
  obtain ⟨kz, z6, z7, z8, z9, z10, ⟨kz1, lz1⟩, ⟨kz2, lz2⟩, ⟨kz3, lz3⟩, _⟩ := hS
  obtain ⟨hcs, ⟨u, hu, hu1, hru⟩, hra, hfi, _⟩ := hB
  obtain ⟨_, _, sra, sfi, _⟩ := hs
  have uF := hcs.2.1.2
  have uR := hcs.1.2
  obtain ⟨a1, a2, a3, a4, a5, _⟩ := hra r hr
  obtain ⟨c1, c2⟩ := hfi f hf
  have d1 := sra r hr 0 (by decide)
  have d2 := sfi f hf 1 (by decide)
  have e0 : (3 * nI r : Int32) = nI (3 * r) := k_mul 3 r
  have e1 : (3 * nI r + 1 : Int32) = nI (3 * r + 1) := k_lin 3 r 1
  have e2 : (3 * nI f + 1 : Int32) = nI (3 * f + 1) := k_lin 3 f 1
  have e3 : (7 * nI f + 1 : Int32) = nI (7 * f + 1) := k_lin 7 f 1
  refine am_aload_n (q := 1) dX14_fly_0 rfl rfl ?_
  refine cm_getR (q := 4) dX14_fly_1 flX14_32 rfl (by assumption) (by assumption) rfl ?_
  refine cm_getR (q := 7) dX14_fly_4 flX14_227 rfl (by assumption) (by assumption) rfl ?_
  refine am_iconst (q := 8) (v := 3) dX14_fly_7 kc_i3 rfl ?_
  refine am_iload_n (q := 9) dX14_fly_8 rfl rfl ?_
  refine am_imul (q := 10) dX14_fly_9 rfl ?_
  rw [e0]
  refine cm_iaload (q := 11) dX14_fly_10 (by assumption) (by rw [l1]; exact vp_in_nI (by omega) (by decide)) rfl ?_
  rw [nI_clamp (show 3 * r < 2 ^ 31 by omega), a1]
  refine am_istore (q := 13) (ls1 := [_, _, _, _, _, _, _, _, _, _]) dX14_fly_11 (Nat.le_of_ble_eq_true rfl) rfl rfl ?_
  refine am_aload_n (q := 14) dX14_fly_13 rfl rfl ?_
  refine cm_getR (q := 17) dX14_fly_14 flX14_284 rfl (by assumption) (by assumption) rfl ?_
  refine am_iconst (q := 18) (v := 3) dX14_fly_17 kc_i3 rfl ?_
  refine am_iload_n (q := 19) dX14_fly_18 rfl rfl ?_
  refine am_imul (q := 20) dX14_fly_19 rfl ?_
  rw [e0]
  refine cm_iaload (q := 21) dX14_fly_20 (by assumption) (by rw [lz2]; exact vp_in_nI (by omega) (by decide)) rfl ?_
  rw [nI_clamp (show 3 * r < 2 ^ 31 by omega), show I (z + 2) (3 * r) = m.rail r 2 from d1]
  refine am_istore (q := 23) (ls1 := [_, _, _, _, _, _, _, _, _, _]) dX14_fly_21 (Nat.le_of_ble_eq_true rfl) rfl rfl ?_
  refine am_iconst (q := 24) (v := 4) dX14_fly_23 kc_i4 rfl ?_
  refine am_iconst (q := 25) (v := 0) dX14_fly_24 kc_i0 rfl ?_
  refine am_iload (q := 27) dX14_fly_25 rfl rfl ?_
  refine am_aload_n (q := 28) dX14_fly_27 rfl rfl ?_
  refine cm_getR (q := 31) dX14_fly_28 flX14_32 rfl (by assumption) (by assumption) rfl ?_
  refine cm_getR (q := 34) dX14_fly_31 flX14_240 rfl (by assumption) (by assumption) rfl ?_
  refine am_iconst (q := 35) (v := 3) dX14_fly_34 kc_i3 rfl ?_
  refine am_iload_n (q := 36) dX14_fly_35 rfl rfl ?_
  refine am_imul (q := 37) dX14_fly_36 rfl ?_
  refine am_iconst (q := 38) (v := 1) dX14_fly_37 kc_i1 rfl ?_
  refine am_iadd (q := 39) dX14_fly_38 rfl ?_
  rw [e2]
  refine cm_iaload (q := 40) dX14_fly_39 (by assumption) (by rw [l3]; exact vp_in_nI (by omega) (by decide)) rfl ?_
  refine am_iadd (q := 41) dX14_fly_40 rfl ?_
  refine am_aload_n (q := 42) dX14_fly_41 rfl rfl ?_
  refine cm_getR (q := 45) dX14_fly_42 flX14_283 rfl (by assumption) (by assumption) rfl ?_
  refine am_bipush (q := 47) (v := 7) dX14_fly_45 kc_b7 rfl ?_
  refine am_iload_n (q := 48) dX14_fly_47 rfl rfl ?_
  refine am_imul (q := 49) dX14_fly_48 rfl ?_
  refine am_iconst (q := 50) (v := 1) dX14_fly_49 kc_i1 rfl ?_
  refine am_iadd (q := 51) dX14_fly_50 rfl ?_
  rw [e3, nI_clamp (show 3 * f + 1 < 2 ^ 31 by omega), c2]
  refine cm_iaload (q := 52) dX14_fly_51 (by assumption) (by rw [lz3]; exact vp_in_nI (by omega) (by decide)) rfl ?_
  refine am_isub (q := 53) dX14_fly_52 rfl ?_
  refine am_mmax (q := 56) dX14_fly_53 (tbc7 178 rfl rfl) tb_max1 tb_math tb_max2 (Nat.le_of_ble_eq_true rfl) rfl ?_
  refine am_imul (q := 57) dX14_fly_56 rfl ?_
  refine am_aload_n (q := 58) dX14_fly_57 rfl rfl ?_
  refine cm_getR (q := 61) dX14_fly_58 flX14_32 rfl (by assumption) (by assumption) rfl ?_
  refine cm_getR (q := 64) dX14_fly_61 flX14_227 rfl (by assumption) (by assumption) rfl ?_
  refine am_iconst (q := 65) (v := 3) dX14_fly_64 kc_i3 rfl ?_
  refine am_iload_n (q := 66) dX14_fly_65 rfl rfl ?_
  refine am_imul (q := 67) dX14_fly_66 rfl ?_
  refine am_iconst (q := 68) (v := 1) dX14_fly_67 kc_i1 rfl ?_
  refine am_iadd (q := 69) dX14_fly_68 rfl ?_
  rw [e1, nI_clamp (show 7 * f + 1 < 2 ^ 31 by omega), show I (z + 3) (7 * f + 1) = m.fist f 3 from d2]
  have hp0 : m.rail r 1 ≠ 0 := fun q => by rw [q] at a3; exact absurd a3 (by decide)
  refine cm_iaload (q := 70) dX14_fly_69 (by assumption) (by rw [l1]; exact vp_in_nI (by omega) (by decide)) rfl ?_
  rw [nI_clamp (show 3 * r + 1 < 2 ^ 31 by omega), a2]
  have eF : flM B m f r arm = flS (m.rail r 0) (m.rail r 2) (ruM B r) (4 * fcM m f arm / m.rail r 1) := rfl
  rw [eF, show (if 0 < arm + m.fist f 1 - m.fist f 3 then arm + m.fist f 1 - m.fist f 3 else 0) = fcM m f arm from rfl]
  have hru2 : ∀ p : Int32, 0 ≤ p → p < 100 → ruM B r p = rusE (I (bl + 2)) (nI r) p u := fun p q1 q2 => ruM_at hr hru q1 q2
  clear eF hru hfi sra sfi d1 d2 c1 c2 a1 a2
  generalize m.rail r 0 = hi at a4 a5 ⊢
  generalize m.rail r 2 = sp
  generalize ruM B r = ru at hru2 ⊢
  refine am_idiv (q := 71) dX14_fly_70 hp0 rfl ?_
  refine am_istore (q := 73) (ls1 := [_, _, _, _, _, _, _, _, _, _]) dX14_fly_71 (Nat.le_of_ble_eq_true rfl) rfl rfl ?_
  generalize 4 * fcM m f arm / m.rail r 1 = v0
  clear a3 hp0
  -- the first memory
  have st : ∀ o : Int32, o = bI (v0 = 0) → MW G mX14_fly 2 86 [some (vR y), some (vR z), some (vI (nI f)), some (vI (nI r)), some (vI arm), some (vI hi), some (vI sp), some (vI v0), some (vI 0), none] [vI o] (mw S I J R) (fun f M1 => ∃ r, f = .inl r ∧ (r = none ∧ ∃ I1, M1 = mw S I1 J R ∧ FlR I I1 y (flS hi sp ru v0) 300)) := by
    intro o ho
    refine am_istore (q := 88) (ls1 := [_, _, _, _, _, _, _, _, _, _]) dX14_fly_86 (Nat.le_of_ble_eq_true rfl) rfl rfl ?_
    refine am_aload_n (q := 89) dX14_fly_88 rfl rfl ?_
    refine am_iconst (q := 90) (v := 0) dX14_fly_89 kc_i0 rfl ?_
    refine cm_putI (q := 93) dX14_fly_90 flX14_305 rfl (Or.inl rfl) (Or.inl rfl) (by assumption) rfl ?_
    refine am_aload_n (q := 94) dX14_fly_93 rfl rfl ?_
    refine am_iconst (q := 95) (v := 0) dX14_fly_94 kc_i0 rfl ?_
    refine cm_putI (q := 98) dX14_fly_95 flX14_308 rfl (Or.inl rfl) (Or.inl rfl) (by assumption) rfl ?_
    refine am_aload_n (q := 99) dX14_fly_98 rfl rfl ?_
    refine am_iconst (q := 100) (v := 0) dX14_fly_99 kc_i0 rfl ?_
    refine cm_putI (q := 103) dX14_fly_100 flX14_311 rfl (Or.inl rfl) (Or.inl rfl) (by assumption) rfl ?_
    refine am_aload_n (q := 104) dX14_fly_103 rfl rfl ?_
    refine am_iconst (q := 105) (v := 0) dX14_fly_104 kc_i0 rfl ?_
    refine cm_putI (q := 108) dX14_fly_105 flX14_314 rfl (Or.inl rfl) (Or.inl rfl) (by assumption) rfl ?_
    refine k_nm (P := fun I2 => MW G mX14_fly 2 108 _ _ (mw S I2 J R) _) _ ?_
    intro I2 hI2
    have h0 : FlR I I2 y (flS hi sp ru v0) 0 := by
      refine ⟨by rw [hI2, up2_j (by decide), up2_j (by decide), up2_j (by decide), up2_s]; rfl, by rw [hI2, up2_j (by decide), up2_j (by decide), up2_s]; rfl, by rw [hI2, up2_j (by decide), up2_s]; rfl, fun t ht _ => ?_, fun x j q => ?_⟩
      · rw [if_neg (fun z => by have h1 : t ≤ 0 := z.2; omega), hI2, up2_s]
      · rw [hI2, up2_at, if_neg (by omega), up2_at, if_neg (by omega), up2_at, if_neg (by omega), up2_at, if_neg (by omega)]
    clear hI2
    refine k_loop (σ := (Nat → Nat → Int32) × Int32 × Int32 × Int32) (n := 300) (Inv := fun n q => FlR I q.1 y (flS hi sp ru v0) n ∧ (flS hi sp ru v0 n).2.2.2.2.1 = n ∧ q.2.1 = (flS hi sp ru v0 n).2.1 ∧ q.2.2.1 = (flS hi sp ru v0 n).1 ∧ q.2.2.2 = (flS hi sp ru v0 n).2.2.2.2.2) (W := fun n q => MW G mX14_fly 2 108 [some (vR y), some (vR z), some (vI (nI f)), some (vI (nI r)), some (vI arm), some (vI hi), some (vI sp), some (vI q.2.1), some (vI q.2.2.1), some (vI q.2.2.2)] [] (mw S q.1 J R) _) ?_ ?_ 0 (I2, v0, 0, o) (Nat.zero_le _) ⟨h0, rfl, rfl, rfl, ho⟩
    · rintro n ⟨I1, v, pl, o1⟩ hn ⟨h1, h2, h3, h4, h5⟩ ih
      dsimp only at h1 h2 h3 h4 h5 ih ⊢
      by_cases ho1 : o1 = 0
      · have step : flS hi sp ru v0 (n + 1) = (fP hi pl v, fW (ru (fP hi pl v)) (fV hi sp pl v), if (flS hi sp ru v0 n).2.2.1 < fP hi pl v then fP hi pl v else (flS hi sp ru v0 n).2.2.1, fB hi pl v (flS hi sp ru v0 n).2.2.2.1, n + 1, fO hi sp pl v o1) := by
          rw [flS]
          rw [← h5, if_pos ho1, ← h3, ← h4, h2]
        obtain ⟨p1, p2, p3, p4, p5⟩ := h1
        rw [h2] at p3 p4
        generalize (flS hi sp ru v0 n).2.2.1 = top at p1 step
        generalize (flS hi sp ru v0 n).2.2.2.1 = ri at p2 step
        clear h2 h3 h4 h5
        subst ho1
        have rng := fP_rng (pl := pl) (v := v) a4 a5
        have tail : ∀ (I3 : Nat → Nat → Int32) (w s o2 : Int32), w = fP hi pl v → s = fV hi sp pl v → o2 = fO hi sp pl v 0 → I3 y 21 = fB hi pl v ri → I3 y 22 = nI (n + 1) → (∀ x j, (x ≠ y ∨ (j ≠ 21 ∧ j ≠ 22)) → I3 x j = I1 x j) → MW G mX14_fly 2 207 [some (vR y), some (vR z), some (vI (nI f)), some (vI (nI r)), some (vI arm), some (vI hi), some (vI sp), some (vI s), some (vI w), some (vI o2)] [] (mw S I3 J R) (fun f M1 => ∃ r, f = .inl r ∧ (r = none ∧ ∃ I1, M1 = mw S I1 J R ∧ FlR I I1 y (flS hi sp ru v0) 300)) := by
          intro I3 w s o2 hw hs ho2 q1 q2 q3
          rw [← hw] at rng step
          rw [← hs, ← ho2] at step
          have fin : ∀ s2 : Int32, s2 = fW (ru w) s → MW G mX14_fly 2 240 [some (vR y), some (vR z), some (vI (nI f)), some (vI (nI r)), some (vI arm), some (vI hi), some (vI sp), some (vI s), some (vI w), some (vI o2)] [vI s2] (mw S I3 J R) (fun f M1 => ∃ r, f = .inl r ∧ (r = none ∧ ∃ I1, M1 = mw S I1 J R ∧ FlR I I1 y (flS hi sp ru v0) 300)) := by
            intro s2 hs2
            rw [← hs2] at step
            have r1 : I3 y 20 = top := (q3 _ _ (by omega)).trans p1
            have r4 : I3 y 24 = I1 y 24 := q3 _ _ (by omega)
            have r5 : I3 y 23 = I y 23 := (q3 _ _ (by omega)).trans (p5 _ _ (by omega))
            refine am_istore (q := 242) (ls1 := [_, _, _, _, _, _, _, _, _, _]) dX14_fly_240 (Nat.le_of_ble_eq_true rfl) rfl rfl ?_
            refine am_aload_n (q := 243) dX14_fly_242 rfl rfl ?_
            refine am_aload_n (q := 244) dX14_fly_243 rfl rfl ?_
            refine cm_getI (q := 247) dX14_fly_244 flX14_305 rfl (by assumption) rfl ?_
            rw [r1]
            refine am_iload (q := 249) dX14_fly_247 rfl rfl ?_
            refine am_mmax (q := 252) dX14_fly_249 (tbc7 178 rfl rfl) tb_max1 tb_math tb_max2 (Nat.le_of_ble_eq_true rfl) rfl ?_
            refine cm_putI (q := 255) dX14_fly_252 flX14_305 rfl (Or.inl rfl) (Or.inl rfl) (by assumption) rfl ?_
            refine am_aload_n (q := 256) dX14_fly_255 rfl rfl ?_
            refine cm_getI (q := 259) dX14_fly_256 flX14_311 rfl (by assumption) rfl ?_
            rw [up2_j (by decide), q2]
            have r6 : up2 I3 y 20 (if top < w then w else top) y 23 = I y 23 := by rw [up2_j (by decide)]; exact r5
            refine am_aload_n (q := 260) dX14_fly_259 rfl rfl ?_
            refine cm_getI (q := 263) dX14_fly_260 flX14_320 rfl (by assumption) rfl ?_
            rw [r6]
            have goOn : ∀ I4 : Nat → Nat → Int32, I4 y 20 = (if top < w then w else top) → I4 y 24 = (if I y 23 = nI (n + 1) then w else I1 y 24) → (∀ x j, (x ≠ y ∨ (j ≠ 20 ∧ j ≠ 24)) → I4 x j = I3 x j) → MW G mX14_fly 2 108 [some (vR y), some (vR z), some (vI (nI f)), some (vI (nI r)), some (vI arm), some (vI hi), some (vI sp), some (vI s2), some (vI w), some (vI o2)] [] (mw S I4 J R) (fun f M1 => ∃ r, f = .inl r ∧ (r = none ∧ ∃ I1, M1 = mw S I1 J R ∧ FlR I I1 y (flS hi sp ru v0) 300)) := by
              intro I4 t1 t2 t3
              refine ih (I4, s2, w, o2) ⟨⟨?_, ?_, ?_, ?_, ?_⟩, ?_, ?_, ?_, ?_⟩
              · rw [step]; exact t1
              · rw [step]; exact (t3 _ _ (by omega)).trans q1
              · rw [step]; exact (t3 _ _ (by omega)).trans q2
              · intro t ht e
                refine t2.trans ?_
                rw [e]
                by_cases e2 : t = n + 1
                · subst e2
                  rw [if_pos rfl, step, if_pos ⟨by omega, Nat.le_refl _⟩]
                · rw [if_neg (fun z => e2 ((nI_eq (by omega) (by omega)).mp z)), p4 t ht e, step]
                  dsimp only
                  by_cases e3 : 1 ≤ t ∧ t ≤ n
                  · rw [if_pos e3, if_pos ⟨e3.1, by omega⟩]
                  · rw [if_neg e3, if_neg (by omega)]
              · intro x j q
                exact ((t3 _ _ (by omega)).trans (q3 _ _ (by omega))).trans (p5 x j q)
              · rw [step]
              · rw [step]
              · rw [step]
              · rw [step]
            refine am_icmp_ne (tgt := 108) (q := 266) dX14_fly_263 rfl rfl (fun hc => ?_) (fun hc => ?_)
            · exact goOn _ up2_s (((up2_j (by decide)).trans r4).trans (if_neg (fun z => hc z.symm)).symm) (fun x j q => by rw [up2_at, if_neg (by omega)])
            · refine am_aload_n (q := 267) dX14_fly_266 rfl rfl ?_
              refine am_iload (q := 269) dX14_fly_267 rfl rfl ?_
              refine cm_putI (q := 272) dX14_fly_269 flX14_314 rfl (Or.inl rfl) (Or.inl rfl) (by assumption) rfl ?_
              refine am_goto (tgt := 108) dX14_fly_272 rfl ?_
              refine goOn _ ?_ ?_ (fun x j q => by rw [up2_at, if_neg (by omega), up2_at, if_neg (by omega)])
              · rw [up2_j (by decide), up2_s]
              · rw [if_pos hc.symm, up2_s]
          refine am_iload (q := 209) dX14_fly_207 rfl rfl ?_
          refine am_if_le (tgt := 231) (q := 212) dX14_fly_209 rfl rfl (fun hc => ?_) (fun hc => ?_)
          · refine am_bipush (q := 233) (v := (-20)) dX14_fly_231 kc_bm20 rfl ?_
            refine am_iload (q := 235) dX14_fly_233 rfl rfl ?_
            refine am_iconst (q := 236) (v := 1) dX14_fly_235 kc_i1 rfl ?_
            refine am_isub (q := 237) dX14_fly_236 rfl ?_
            refine am_mmax (q := 240) dX14_fly_237 (tbc7 178 rfl rfl) tb_max1 tb_math tb_max2 (Nat.le_of_ble_eq_true rfl) rfl ?_
            exact fin _ (by rw [fW, if_neg (Int32.not_lt.mpr hc)])
          · have hu3 : I3 bl 1 = nI u := by rw [q3 _ _ (by omega), p5 _ _ (by omega)]; exact hu1
            have e4 : I3 (bl + 2) = I (bl + 2) := funext fun j => by rw [q3 _ _ (by omega), p5 _ _ (by omega)]
            refine am_iconst (q := 213) (v := 0) dX14_fly_212 kc_i0 rfl ?_
            refine am_iload (q := 215) dX14_fly_213 rfl rfl ?_
            refine am_iconst (q := 216) (v := 1) dX14_fly_215 kc_i1 rfl ?_
            refine am_isub (q := 217) dX14_fly_216 rfl ?_
            refine am_aload_n (q := 218) dX14_fly_217 rfl rfl ?_
            refine am_iload_n (q := 219) dX14_fly_218 rfl rfl ?_
            refine am_iload (q := 221) dX14_fly_219 rfl rfl ?_
            refine cm_call0 (q := 224) (As := [_, _]) hG dX14_fly_221 mlX14_317 rfl (by assumption) ⟨_, _, rfl⟩ (Nat.le_of_ble_eq_true rfl) (Nat.le_of_ble_eq_true rfl) (Nat.le_of_ble_eq_true rfl) (Nat.le_of_ble_eq_true rfl) (k_X14_rustAt hG hM0 hu hu3) rfl ?_
            rintro _ _ ⟨rfl, rfl⟩
            rw [e4, ← hru2 w rng.1 rng.2]
            refine am_isub (q := 225) dX14_fly_224 rfl ?_
            refine am_mmax (q := 228) dX14_fly_225 (tbc7 178 rfl rfl) tb_max1 tb_math tb_max2 (Nat.le_of_ble_eq_true rfl) rfl ?_
            refine am_goto (tgt := 240) dX14_fly_228 rfl ?_
            exact fin _ (by rw [fW, if_pos (Int32.not_le.mp hc)])
        refine am_iload (q := 110) dX14_fly_108 rfl rfl ?_
        refine am_if_ne (tgt := 275) (q := 113) dX14_fly_110 rfl rfl (fun hz => absurd rfl hz) (fun _ => ?_)
        refine am_aload_n (q := 114) dX14_fly_113 rfl rfl ?_
        refine cm_getI (q := 117) dX14_fly_114 flX14_311 rfl (by assumption) rfl ?_
        rw [p3]
        refine am_sipush (q := 120) (v := 300) dX14_fly_117 kc_s300 rfl ?_
        refine am_icmp_ge (tgt := 275) (q := 123) dX14_fly_120 rfl rfl (fun hz => absurd hz (nI_ge (b := 300) (by omega) (by decide))) (fun _ => ?_)
        refine am_aload_n (q := 124) dX14_fly_123 rfl rfl ?_
        refine am_dup (q := 125) dX14_fly_124 rfl rfl ?_
        refine cm_getI (q := 128) dX14_fly_125 flX14_311 rfl (by assumption) rfl ?_
        rw [p3]
        refine am_iconst (q := 129) (v := 1) dX14_fly_128 kc_i1 rfl ?_
        refine am_iadd (q := 130) dX14_fly_129 rfl ?_
        rw [nI_1]
        refine cm_putI (q := 133) dX14_fly_130 flX14_311 rfl (Or.inl rfl) (Or.inl rfl) (by assumption) rfl ?_
        refine am_iload (q := 135) dX14_fly_133 rfl rfl ?_
        refine am_iload (q := 137) dX14_fly_135 rfl rfl ?_
        refine am_iadd (q := 138) dX14_fly_137 rfl ?_
        refine am_istore (q := 140) (ls1 := [_, _, _, _, _, _, _, _, _, _]) dX14_fly_138 (Nat.le_of_ble_eq_true rfl) rfl rfl ?_
        refine k_nm (P := fun I3 => MW G mX14_fly 2 140 _ _ (mw S I3 J R) _) _ ?_
        intro I3 hI3
        have w1 : I3 y 22 = nI (n + 1) := by rw [hI3]; exact up2_s
        have w2 : ∀ x j, (x ≠ y ∨ j ≠ 22) → I3 x j = I1 x j := fun x j q => by rw [hI3, up2_at, if_neg (by omega)]
        clear hI3
        refine am_iload (q := 142) dX14_fly_140 rfl rfl ?_
        refine am_iload (q := 144) dX14_fly_142 rfl rfl ?_
        refine am_icmp_lt (tgt := 175) (q := 147) dX14_fly_144 rfl rfl (fun hc => ?_) (fun hc => ?_)
        · refine am_iload (q := 177) dX14_fly_175 rfl rfl ?_
          refine am_if_gt (tgt := 207) (q := 180) dX14_fly_177 rfl rfl (fun hc2 => ?_) (fun hc2 => ?_)
          · exact tail I3 _ _ _ (by rw [fP, if_neg (Int32.not_le.mpr hc), if_neg (Int32.not_le.mpr hc2)]) (by rw [fV, if_neg (Int32.not_le.mpr hc), if_neg (Int32.not_le.mpr hc2)]) (by rw [fO, if_neg (Int32.not_le.mpr hc), if_neg (Int32.not_le.mpr hc2)]) (by rw [fB, if_neg (Int32.not_le.mpr hc), w2 _ _ (by omega)]; exact p2) w1 (fun x j q => w2 x j (by omega))
          · refine am_iconst (q := 181) (v := 0) dX14_fly_180 kc_i0 rfl ?_
            refine am_istore (q := 183) (ls1 := [_, _, _, _, _, _, _, _, _, _]) dX14_fly_181 (Nat.le_of_ble_eq_true rfl) rfl rfl ?_
            refine am_iload (q := 185) dX14_fly_183 rfl rfl ?_
            refine am_ineg (q := 186) dX14_fly_185 rfl ?_
            refine am_iload (q := 188) dX14_fly_186 rfl rfl ?_
            refine am_imul (q := 189) dX14_fly_188 rfl ?_
            refine am_bipush (q := 191) (v := 30) dX14_fly_189 kc_b30 rfl ?_
            refine am_idiv (q := 192) dX14_fly_191 (by decide) rfl ?_
            refine am_istore (q := 194) (ls1 := [_, _, _, _, _, _, _, _, _, _]) dX14_fly_192 (Nat.le_of_ble_eq_true rfl) rfl rfl ?_
            have t2 : ∀ o2 : Int32, o2 = bI (-v * sp / 30 ≤ 1) → MW G mX14_fly 2 207 [some (vR y), some (vR z), some (vI (nI f)), some (vI (nI r)), some (vI arm), some (vI hi), some (vI sp), some (vI (-v * sp / 30)), some (vI 0), some (vI o2)] [] (mw S I3 J R) (fun f M1 => ∃ r, f = .inl r ∧ (r = none ∧ ∃ I1, M1 = mw S I1 J R ∧ FlR I I1 y (flS hi sp ru v0) 300)) := fun o2 ho2 => tail I3 _ _ _ (by rw [fP, if_neg (Int32.not_le.mpr hc), if_pos (Int32.not_lt.mp hc2)]) (by rw [fV, if_neg (Int32.not_le.mpr hc), if_pos (Int32.not_lt.mp hc2)]) (by rw [fO, if_neg (Int32.not_le.mpr hc), if_pos (Int32.not_lt.mp hc2), ho2]) (by rw [fB, if_neg (Int32.not_le.mpr hc), w2 _ _ (by omega)]; exact p2) w1 (fun x j q => w2 x j (by omega))
            refine am_iload (q := 196) dX14_fly_194 rfl rfl ?_
            refine am_iconst (q := 197) (v := 1) dX14_fly_196 kc_i1 rfl ?_
            refine am_icmp_gt (tgt := 204) (q := 200) dX14_fly_197 rfl rfl (fun hc3 => ?_) (fun hc3 => ?_)
            · refine am_iconst (q := 205) (v := 0) dX14_fly_204 kc_i0 rfl ?_
              refine am_istore (q := 207) (ls1 := [_, _, _, _, _, _, _, _, _, _]) dX14_fly_205 (Nat.le_of_ble_eq_true rfl) rfl rfl ?_
              exact t2 0 (bI_f (Int32.not_le.mpr hc3)).symm
            · refine am_iconst (q := 201) (v := 1) dX14_fly_200 kc_i1 rfl ?_
              refine am_goto (tgt := 205) dX14_fly_201 rfl ?_
              refine am_istore (q := 207) (ls1 := [_, _, _, _, _, _, _, _, _, _]) dX14_fly_205 (Nat.le_of_ble_eq_true rfl) rfl rfl ?_
              exact t2 1 (bI_t (Int32.not_lt.mp hc3)).symm
        · refine am_iload (q := 149) dX14_fly_147 rfl rfl ?_
          refine am_istore (q := 151) (ls1 := [_, _, _, _, _, _, _, _, _, _]) dX14_fly_149 (Nat.le_of_ble_eq_true rfl) rfl rfl ?_
          refine am_aload_n (q := 152) dX14_fly_151 rfl rfl ?_
          refine am_dup (q := 153) dX14_fly_152 rfl rfl ?_
          refine cm_getI (q := 156) dX14_fly_153 flX14_308 rfl (by assumption) rfl ?_
          rw [w2 y 21 (by omega), p2]
          refine am_iconst (q := 157) (v := 1) dX14_fly_156 kc_i1 rfl ?_
          refine am_iadd (q := 158) dX14_fly_157 rfl ?_
          refine cm_putI (q := 161) dX14_fly_158 flX14_308 rfl (Or.inl rfl) (Or.inl rfl) (by assumption) rfl ?_
          refine am_iload (q := 163) dX14_fly_161 rfl rfl ?_
          refine am_iload (q := 165) dX14_fly_163 rfl rfl ?_
          refine am_imul (q := 166) dX14_fly_165 rfl ?_
          refine am_bipush (q := 168) (v := 20) dX14_fly_166 kc_b20 rfl ?_
          refine am_idiv (q := 169) dX14_fly_168 (by decide) rfl ?_
          refine am_ineg (q := 170) dX14_fly_169 rfl ?_
          refine am_istore (q := 172) (ls1 := [_, _, _, _, _, _, _, _, _, _]) dX14_fly_170 (Nat.le_of_ble_eq_true rfl) rfl rfl ?_
          refine am_goto (tgt := 207) dX14_fly_172 rfl ?_
          exact tail _ _ _ _ (by rw [fP, if_pos (Int32.not_lt.mp hc)]) (by rw [fV, if_pos (Int32.not_lt.mp hc)]) (by rw [fO, if_pos (Int32.not_lt.mp hc)]) (by rw [fB, if_pos (Int32.not_lt.mp hc)]; exact up2_s) ((up2_j (by decide)).trans w1) (fun x j q => by rw [up2_at, if_neg (by omega)]; exact w2 x j (by omega))
      · have es : flS hi sp ru v0 300 = flS hi sp ru v0 n := by
          have := flS_stop (hi := hi) (sp := sp) (ru := ru) (v0 := v0) (n := n) (by rw [← h5]; exact ho1) (300 - n)
          rw [show n + (300 - n) = 300 by omega] at this
          exact this
        have h6 : FlR I I1 y (flS hi sp ru v0) 300 := by
          unfold FlR at h1 ⊢
          rw [es]
          exact h1
        clear h1 h2 h3 h4 h5 es
        refine am_iload (q := 110) dX14_fly_108 rfl rfl ?_
        refine am_if_ne (tgt := 275) (q := 113) dX14_fly_110 rfl rfl (fun _ => ?_) (fun hz => absurd hz ho1)
        exact am_ret dX14_fly_275 rfl ⟨_, rfl, rfl, I1, rfl, h6⟩
    · rintro ⟨I1, v, pl, o1⟩ ⟨h1, h2, h3, h4, h5⟩
      dsimp only at h1 h2 h3 h4 h5 ⊢
      have p3 : I1 y 22 = nI 300 := by rw [h1.2.2.1, h2]
      clear h2 h3 h4 h5
      by_cases ho1 : o1 = 0
      · refine am_iload (q := 110) dX14_fly_108 rfl rfl ?_
        refine am_if_ne (tgt := 275) (q := 113) dX14_fly_110 rfl rfl (fun hz => absurd ho1 hz) (fun _ => ?_)
        refine am_aload_n (q := 114) dX14_fly_113 rfl rfl ?_
        refine cm_getI (q := 117) dX14_fly_114 flX14_311 rfl (by assumption) rfl ?_
        rw [p3]
        refine am_sipush (q := 120) (v := 300) dX14_fly_117 kc_s300 rfl ?_
        refine am_icmp_ge (tgt := 275) (q := 123) dX14_fly_120 rfl rfl (fun _ => ?_) (fun hz => absurd (Int32.le_refl _) hz)
        exact am_ret dX14_fly_275 rfl ⟨_, rfl, rfl, I1, rfl, h1⟩
      · refine am_iload (q := 110) dX14_fly_108 rfl rfl ?_
        refine am_if_ne (tgt := 275) (q := 113) dX14_fly_110 rfl rfl (fun _ => ?_) (fun hz => absurd hz ho1)
        exact am_ret dX14_fly_275 rfl ⟨_, rfl, rfl, I1, rfl, h1⟩
  refine am_iconst (q := 74) (v := 0) dX14_fly_73 kc_i0 rfl ?_
  refine am_istore (q := 76) (ls1 := [_, _, _, _, _, _, _, _, _, _]) dX14_fly_74 (Nat.le_of_ble_eq_true rfl) rfl rfl ?_
  refine am_iload (q := 78) dX14_fly_76 rfl rfl ?_
  refine am_if_ne (tgt := 85) (q := 81) dX14_fly_78 rfl rfl (fun hc => ?_) (fun hc => ?_)
  · refine am_iconst (q := 86) (v := 0) dX14_fly_85 kc_i0 rfl ?_
    exact st 0 (bI_f hc).symm
  · refine am_iconst (q := 82) (v := 1) dX14_fly_81 kc_i1 rfl ?_
    refine am_goto (tgt := 86) dX14_fly_82 rfl ?_
    exact st 1 (bI_t hc).symm
end Mf

