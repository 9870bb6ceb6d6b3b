theorem dX12_sooner_0 : decode cX12_sooner 0 = .ok (.aload_n 0, 1) := by decide +kernel
theorem dX12_sooner_1 : decode cX12_sooner 1 = .ok (.iconst 0, 1) := by decide +kernel
theorem dX12_sooner_2 : decode cX12_sooner 2 = .ok (.putfield 107, 3) := by decide +kernel
theorem dX12_sooner_5 : decode cX12_sooner 5 = .ok (.aload_n 0, 1) := by decide +kernel
theorem dX12_sooner_6 : decode cX12_sooner 6 = .ok (.iload_n 1, 1) := by decide +kernel
theorem dX12_sooner_7 : decode cX12_sooner 7 = .ok (.invokevirtual 180, 3) := by decide +kernel
theorem dX12_sooner_10 : decode cX12_sooner 10 = .ok (.ifCond .eq 49, 3) := by decide +kernel
theorem dX12_sooner_13 : decode cX12_sooner 13 = .ok (.iload_n 2, 1) := by decide +kernel
theorem dX12_sooner_14 : decode cX12_sooner 14 = .ok (.invokestatic 138, 3) := by decide +kernel
theorem dX12_sooner_17 : decode cX12_sooner 17 = .ok (.ifCond .eq 42, 3) := by decide +kernel
theorem dX12_sooner_20 : decode cX12_sooner 20 = .ok (.iload_n 3, 1) := by decide +kernel
theorem dX12_sooner_21 : decode cX12_sooner 21 = .ok (.invokestatic 175, 3) := by decide +kernel
theorem dX12_sooner_24 : decode cX12_sooner 24 = .ok (.ifCond .eq 35, 3) := by decide +kernel
theorem dX12_sooner_27 : decode cX12_sooner 27 = .ok (.iload 4, 2) := by decide +kernel
theorem dX12_sooner_29 : decode cX12_sooner 29 = .ok (.i2l, 1) := by decide +kernel
theorem dX12_sooner_30 : decode cX12_sooner 30 = .ok (.lconst 0, 1) := by decide +kernel
theorem dX12_sooner_31 : decode cX12_sooner 31 = .ok (.ldc2_w 411, 3) := by decide +kernel
theorem dX12_sooner_34 : decode cX12_sooner 34 = .ok (.invokestatic 121, 3) := by decide +kernel
theorem dX12_sooner_37 : decode cX12_sooner 37 = .ok (.ifCond .eq 22, 3) := by decide +kernel
theorem dX12_sooner_40 : decode cX12_sooner 40 = .ok (.aload_n 0, 1) := by decide +kernel
theorem dX12_sooner_41 : decode cX12_sooner 41 = .ok (.iload_n 2, 1) := by decide +kernel
theorem dX12_sooner_42 : decode cX12_sooner 42 = .ok (.invokestatic 138, 3) := by decide +kernel
theorem dX12_sooner_45 : decode cX12_sooner 45 = .ok (.ifCond .eq 7, 3) := by decide +kernel
theorem dX12_sooner_48 : decode cX12_sooner 48 = .ok (.iload_n 2, 1) := by decide +kernel
theorem dX12_sooner_49 : decode cX12_sooner 49 = .ok (.goto 4, 3) := by decide +kernel
theorem dX12_sooner_52 : decode cX12_sooner 52 = .ok (.iconst 0, 1) := by decide +kernel
theorem dX12_sooner_53 : decode cX12_sooner 53 = .ok (.invokevirtual 160, 3) := by decide +kernel
theorem dX12_sooner_56 : decode cX12_sooner 56 = .ok (.ifCond .eq 5, 3) := by decide +kernel
theorem dX12_sooner_59 : decode cX12_sooner 59 = .ok (.iconst (-1), 1) := by decide +kernel
theorem dX12_sooner_60 : decode cX12_sooner 60 = .ok (.ireturn, 1) := by decide +kernel
theorem dX12_sooner_61 : decode cX12_sooner 61 = .ok (.aload_n 0, 1) := by decide +kernel
theorem dX12_sooner_62 : decode cX12_sooner 62 = .ok (.iload_n 1, 1) := by decide +kernel
theorem dX12_sooner_63 : decode cX12_sooner 63 = .ok (.iload_n 2, 1) := by decide +kernel
theorem dX12_sooner_64 : decode cX12_sooner 64 = .ok (.iload_n 3, 1) := by decide +kernel
theorem dX12_sooner_65 : decode cX12_sooner 65 = .ok (.invokevirtual 466, 3) := by decide +kernel
theorem dX12_sooner_68 : decode cX12_sooner 68 = .ok (.istore 5, 2) := by decide +kernel
theorem dX12_sooner_70 : decode cX12_sooner 70 = .ok (.iload 5, 2) := by decide +kernel
theorem dX12_sooner_72 : decode cX12_sooner 72 = .ok (.iconst (-1), 1) := by decide +kernel
theorem dX12_sooner_73 : decode cX12_sooner 73 = .ok (.if_icmp .ne 8, 3) := by decide +kernel
theorem dX12_sooner_76 : decode cX12_sooner 76 = .ok (.bipush 24, 2) := by decide +kernel
theorem dX12_sooner_78 : decode cX12_sooner 78 = .ok (.goto 5, 3) := by decide +kernel
theorem dX12_sooner_81 : decode cX12_sooner 81 = .ok (.iload 5, 2) := by decide +kernel
theorem dX12_sooner_83 : decode cX12_sooner 83 = .ok (.istore 6, 2) := by decide +kernel
theorem dX12_sooner_85 : decode cX12_sooner 85 = .ok (.iconst (-1), 1) := by decide +kernel
theorem dX12_sooner_86 : decode cX12_sooner 86 = .ok (.istore 7, 2) := by decide +kernel
theorem dX12_sooner_88 : decode cX12_sooner 88 = .ok (.iconst 0, 1) := by decide +kernel
theorem dX12_sooner_89 : decode cX12_sooner 89 = .ok (.istore 8, 2) := by decide +kernel
theorem dX12_sooner_91 : decode cX12_sooner 91 = .ok (.iload 8, 2) := by decide +kernel
theorem dX12_sooner_93 : decode cX12_sooner 93 = .ok (.aload_n 0, 1) := by decide +kernel
theorem dX12_sooner_94 : decode cX12_sooner 94 = .ok (.getfield 13, 3) := by decide +kernel
theorem dX12_sooner_97 : decode cX12_sooner 97 = .ok (.iconst 0, 1) := by decide +kernel
theorem dX12_sooner_98 : decode cX12_sooner 98 = .ok (.iaload, 1) := by decide +kernel
theorem dX12_sooner_99 : decode cX12_sooner 99 = .ok (.if_icmp .ge 136, 3) := by decide +kernel
theorem dX12_sooner_102 : decode cX12_sooner 102 = .ok (.aload_n 0, 1) := by decide +kernel
theorem dX12_sooner_103 : decode cX12_sooner 103 = .ok (.iload 8, 2) := by decide +kernel
theorem dX12_sooner_105 : decode cX12_sooner 105 = .ok (.iconst 1, 1) := by decide +kernel
theorem dX12_sooner_106 : decode cX12_sooner 106 = .ok (.invokevirtual 134, 3) := by decide +kernel
theorem dX12_sooner_109 : decode cX12_sooner 109 = .ok (.istore 9, 2) := by decide +kernel
theorem dX12_sooner_111 : decode cX12_sooner 111 = .ok (.iconst 0, 1) := by decide +kernel
theorem dX12_sooner_112 : decode cX12_sooner 112 = .ok (.istore 10, 2) := by decide +kernel
theorem dX12_sooner_114 : decode cX12_sooner 114 = .ok (.iload 10, 2) := by decide +kernel
theorem dX12_sooner_116 : decode cX12_sooner 116 = .ok (.bipush 6, 2) := by decide +kernel
theorem dX12_sooner_118 : decode cX12_sooner 118 = .ok (.if_icmp .ge 95, 3) := by decide +kernel
theorem dX12_sooner_121 : decode cX12_sooner 121 = .ok (.aload_n 0, 1) := by decide +kernel
theorem dX12_sooner_122 : decode cX12_sooner 122 = .ok (.getfield 13, 3) := by decide +kernel
theorem dX12_sooner_125 : decode cX12_sooner 125 = .ok (.bipush 80, 2) := by decide +kernel
theorem dX12_sooner_127 : decode cX12_sooner 127 = .ok (.iconst 5, 1) := by decide +kernel
theorem dX12_sooner_128 : decode cX12_sooner 128 = .ok (.iload 8, 2) := by decide +kernel
theorem dX12_sooner_130 : decode cX12_sooner 130 = .ok (.imul, 1) := by decide +kernel
theorem dX12_sooner_131 : decode cX12_sooner 131 = .ok (.iadd, 1) := by decide +kernel
theorem dX12_sooner_132 : decode cX12_sooner 132 = .ok (.iconst 1, 1) := by decide +kernel
theorem dX12_sooner_133 : decode cX12_sooner 133 = .ok (.iadd, 1) := by decide +kernel
theorem dX12_sooner_134 : decode cX12_sooner 134 = .ok (.iload 10, 2) := by decide +kernel
theorem dX12_sooner_136 : decode cX12_sooner 136 = .ok (.iastore, 1) := by decide +kernel
theorem dX12_sooner_137 : decode cX12_sooner 137 = .ok (.iload 10, 2) := by decide +kernel
theorem dX12_sooner_139 : decode cX12_sooner 139 = .ok (.iload 9, 2) := by decide +kernel
theorem dX12_sooner_141 : decode cX12_sooner 141 = .ok (.if_icmp .ne 7, 3) := by decide +kernel
theorem dX12_sooner_144 : decode cX12_sooner 144 = .ok (.iconst (-1), 1) := by decide +kernel
theorem dX12_sooner_145 : decode cX12_sooner 145 = .ok (.goto 10, 3) := by decide +kernel
theorem dX12_sooner_148 : decode cX12_sooner 148 = .ok (.aload_n 0, 1) := by decide +kernel
theorem dX12_sooner_149 : decode cX12_sooner 149 = .ok (.iload_n 1, 1) := by decide +kernel
theorem dX12_sooner_150 : decode cX12_sooner 150 = .ok (.iload_n 2, 1) := by decide +kernel
theorem dX12_sooner_151 : decode cX12_sooner 151 = .ok (.iload_n 3, 1) := by decide +kernel
theorem dX12_sooner_152 : decode cX12_sooner 152 = .ok (.invokevirtual 466, 3) := by decide +kernel
theorem dX12_sooner_155 : decode cX12_sooner 155 = .ok (.istore 11, 2) := by decide +kernel
theorem dX12_sooner_157 : decode cX12_sooner 157 = .ok (.iload 11, 2) := by decide +kernel
theorem dX12_sooner_159 : decode cX12_sooner 159 = .ok (.iconst (-1), 1) := by decide +kernel
theorem dX12_sooner_160 : decode cX12_sooner 160 = .ok (.if_icmp .eq 21, 3) := by decide +kernel
theorem dX12_sooner_163 : decode cX12_sooner 163 = .ok (.iload 11, 2) := by decide +kernel
theorem dX12_sooner_165 : decode cX12_sooner 165 = .ok (.iload 6, 2) := by decide +kernel
theorem dX12_sooner_167 : decode cX12_sooner 167 = .ok (.if_icmp .ge 14, 3) := by decide +kernel
theorem dX12_sooner_170 : decode cX12_sooner 170 = .ok (.bipush 6, 2) := by decide +kernel
theorem dX12_sooner_172 : decode cX12_sooner 172 = .ok (.iload 8, 2) := by decide +kernel
theorem dX12_sooner_174 : decode cX12_sooner 174 = .ok (.imul, 1) := by decide +kernel
theorem dX12_sooner_175 : decode cX12_sooner 175 = .ok (.iload 10, 2) := by decide +kernel
theorem dX12_sooner_177 : decode cX12_sooner 177 = .ok (.iadd, 1) := by decide +kernel
theorem dX12_sooner_178 : decode cX12_sooner 178 = .ok (.goto 5, 3) := by decide +kernel
theorem dX12_sooner_181 : decode cX12_sooner 181 = .ok (.iload 7, 2) := by decide +kernel
theorem dX12_sooner_183 : decode cX12_sooner 183 = .ok (.istore 7, 2) := by decide +kernel
theorem dX12_sooner_185 : decode cX12_sooner 185 = .ok (.iload 11, 2) := by decide +kernel
theorem dX12_sooner_187 : decode cX12_sooner 187 = .ok (.iconst (-1), 1) := by decide +kernel
theorem dX12_sooner_188 : decode cX12_sooner 188 = .ok (.if_icmp .eq 15, 3) := by decide +kernel
theorem dX12_sooner_191 : decode cX12_sooner 191 = .ok (.iload 11, 2) := by decide +kernel
theorem dX12_sooner_193 : decode cX12_sooner 193 = .ok (.iload 6, 2) := by decide +kernel
theorem dX12_sooner_195 : decode cX12_sooner 195 = .ok (.if_icmp .ge 8, 3) := by decide +kernel
theorem dX12_sooner_198 : decode cX12_sooner 198 = .ok (.iload 11, 2) := by decide +kernel
theorem dX12_sooner_200 : decode cX12_sooner 200 = .ok (.goto 5, 3) := by decide +kernel
theorem dX12_sooner_203 : decode cX12_sooner 203 = .ok (.iload 6, 2) := by decide +kernel
theorem dX12_sooner_205 : decode cX12_sooner 205 = .ok (.istore 6, 2) := by decide +kernel
theorem dX12_sooner_207 : decode cX12_sooner 207 = .ok (.iinc 10 1, 3) := by decide +kernel
theorem dX12_sooner_210 : decode cX12_sooner 210 = .ok (.goto (-96), 3) := by decide +kernel
theorem dX12_sooner_213 : decode cX12_sooner 213 = .ok (.aload_n 0, 1) := by decide +kernel
theorem dX12_sooner_214 : decode cX12_sooner 214 = .ok (.getfield 13, 3) := by decide +kernel
theorem dX12_sooner_217 : decode cX12_sooner 217 = .ok (.bipush 80, 2) := by decide +kernel
theorem dX12_sooner_219 : decode cX12_sooner 219 = .ok (.iconst 5, 1) := by decide +kernel
theorem dX12_sooner_220 : decode cX12_sooner 220 = .ok (.iload 8, 2) := by decide +kernel
theorem dX12_sooner_222 : decode cX12_sooner 222 = .ok (.imul, 1) := by decide +kernel
theorem dX12_sooner_223 : decode cX12_sooner 223 = .ok (.iadd, 1) := by decide +kernel
theorem dX12_sooner_224 : decode cX12_sooner 224 = .ok (.iconst 1, 1) := by decide +kernel
theorem dX12_sooner_225 : decode cX12_sooner 225 = .ok (.iadd, 1) := by decide +kernel
theorem dX12_sooner_226 : decode cX12_sooner 226 = .ok (.iload 9, 2) := by decide +kernel
theorem dX12_sooner_228 : decode cX12_sooner 228 = .ok (.iastore, 1) := by decide +kernel
theorem dX12_sooner_229 : decode cX12_sooner 229 = .ok (.iinc 8 1, 3) := by decide +kernel
theorem dX12_sooner_232 : decode cX12_sooner 232 = .ok (.goto (-141), 3) := by decide +kernel
theorem dX12_sooner_235 : decode cX12_sooner 235 = .ok (.iload 7, 2) := by decide +kernel
theorem dX12_sooner_237 : decode cX12_sooner 237 = .ok (.iconst (-1), 1) := by decide +kernel
theorem dX12_sooner_238 : decode cX12_sooner 238 = .ok (.if_icmp .ne 7, 3) := by decide +kernel
theorem dX12_sooner_241 : decode cX12_sooner 241 = .ok (.iconst (-1), 1) := by decide +kernel
theorem dX12_sooner_242 : decode cX12_sooner 242 = .ok (.goto 32, 3) := by decide +kernel
theorem dX12_sooner_245 : decode cX12_sooner 245 = .ok (.iload 4, 2) := by decide +kernel
theorem dX12_sooner_247 : decode cX12_sooner 247 = .ok (.ifCond .ne 8, 3) := by decide +kernel
theorem dX12_sooner_250 : decode cX12_sooner 250 = .ok (.iload 6, 2) := by decide +kernel
theorem dX12_sooner_252 : decode cX12_sooner 252 = .ok (.goto 22, 3) := by decide +kernel
theorem dX12_sooner_255 : decode cX12_sooner 255 = .ok (.iload 4, 2) := by decide +kernel
theorem dX12_sooner_257 : decode cX12_sooner 257 = .ok (.iconst 1, 1) := by decide +kernel
theorem dX12_sooner_258 : decode cX12_sooner 258 = .ok (.if_icmp .ne 11, 3) := by decide +kernel
theorem dX12_sooner_261 : decode cX12_sooner 261 = .ok (.iload 7, 2) := by decide +kernel
theorem dX12_sooner_263 : decode cX12_sooner 263 = .ok (.bipush 6, 2) := by decide +kernel
theorem dX12_sooner_265 : decode cX12_sooner 265 = .ok (.idiv, 1) := by decide +kernel
theorem dX12_sooner_266 : decode cX12_sooner 266 = .ok (.goto 8, 3) := by decide +kernel
theorem dX12_sooner_269 : decode cX12_sooner 269 = .ok (.iload 7, 2) := by decide +kernel
theorem dX12_sooner_271 : decode cX12_sooner 271 = .ok (.bipush 6, 2) := by decide +kernel
theorem dX12_sooner_273 : decode cX12_sooner 273 = .ok (.irem, 1) := by decide +kernel
theorem dX12_sooner_274 : decode cX12_sooner 274 = .ok (.ireturn, 1) := by decide +kernel
