theorem cd_X11_init : Cond.code yX11_init cX11_init 1 none ∈ tblG := tg 115 (by decide +kernel) (by decide +kernel)
theorem gW_X11_init : GoodIn tblG (wsG yX11_init cX11_init 1 none) := tgi cd_X11_init
theorem ml_L_9 : Cond.methodLink RL 9 yX11_init ∈ tblG := tg 113 (by decide +kernel) (by decide +kernel)
theorem im_X11_init : Cond.instanceMethod yX11_init ∈ tblG := tg 114 (by decide +kernel) (by decide +kernel)
theorem hs_X11_init : yX11_init.cls ≠ "java/lang/invoke/MethodHandle" ∧ yX11_init.cls ≠ "java/lang/invoke/VarHandle" ∧ (parseMethodDescriptor yX11_init.desc).map (fun d => d.parameters.length) = some 0 := by decide +kernel
theorem cl_L_10 : Cond.classLink RL 10 RX12 ∈ tblG := tg 1184 (by decide +kernel) (by decide +kernel)
theorem oi_X12_1 : Cond.methodLink RX12 1 objectInit ∈ tblG := tg 1189 (by decide +kernel) (by decide +kernel)
theorem kl_X12_45 : Cond.constantLong RX12 45 7734899 ∈ tblG := tg 1190 (by decide +kernel) (by decide +kernel)
theorem kl_X12_49 : Cond.constantLong RX12 49 25 ∈ tblG := tg 1192 (by decide +kernel) (by decide +kernel)
theorem kl_X12_51 : Cond.constantLong RX12 51 278194 ∈ tblG := tg 1193 (by decide +kernel) (by decide +kernel)
theorem kl_X12_53 : Cond.constantLong RX12 53 23609 ∈ tblG := tg 1194 (by decide +kernel) (by decide +kernel)
theorem kl_X12_55 : Cond.constantLong RX12 55 81049 ∈ tblG := tg 1195 (by decide +kernel) (by decide +kernel)
theorem kl_X12_57 : Cond.constantLong RX12 57 20583955 ∈ tblG := tg 1196 (by decide +kernel) (by decide +kernel)
theorem kl_X12_59 : Cond.constantLong RX12 59 86285588 ∈ tblG := tg 1197 (by decide +kernel) (by decide +kernel)
theorem kl_X12_65 : Cond.constantLong RX12 65 394885 ∈ tblG := tg 1198 (by decide +kernel) (by decide +kernel)
theorem kl_X12_67 : Cond.constantLong RX12 67 153204 ∈ tblG := tg 1199 (by decide +kernel) (by decide +kernel)
theorem kl_X12_69 : Cond.constantLong RX12 69 117118547 ∈ tblG := tg 1200 (by decide +kernel) (by decide +kernel)
theorem kl_X12_71 : Cond.constantLong RX12 71 3544114 ∈ tblG := tg 1201 (by decide +kernel) (by decide +kernel)
theorem dX12_init_0 : decode cX12_init 0 = .ok (.aload_n 0, 1) := by decide +kernel
theorem dX12_init_1 : decode cX12_init 1 = .ok (.invokespecial 1, 3) := by decide +kernel
theorem dX12_init_4 : decode cX12_init 4 = .ok (.aload_n 0, 1) := by decide +kernel
theorem dX12_init_5 : decode cX12_init 5 = .ok (.bipush 7, 2) := by decide +kernel
theorem dX12_init_7 : decode cX12_init 7 = .ok (.newarray .int, 2) := by decide +kernel
theorem dX12_init_9 : decode cX12_init 9 = .ok (.putfield 7, 3) := by decide +kernel
theorem dX12_init_12 : decode cX12_init 12 = .ok (.aload_n 0, 1) := by decide +kernel
theorem dX12_init_13 : decode cX12_init 13 = .ok (.sipush 5740, 3) := by decide +kernel
theorem dX12_init_16 : decode cX12_init 16 = .ok (.newarray .int, 2) := by decide +kernel
theorem dX12_init_18 : decode cX12_init 18 = .ok (.putfield 13, 3) := by decide +kernel
theorem dX12_init_21 : decode cX12_init 21 = .ok (.aload_n 0, 1) := by decide +kernel
theorem dX12_init_22 : decode cX12_init 22 = .ok (.sipush 11480, 3) := by decide +kernel
theorem dX12_init_25 : decode cX12_init 25 = .ok (.newarray .int, 2) := by decide +kernel
theorem dX12_init_27 : decode cX12_init 27 = .ok (.putfield 16, 3) := by decide +kernel
theorem dX12_init_30 : decode cX12_init 30 = .ok (.aload_n 0, 1) := by decide +kernel
theorem dX12_init_31 : decode cX12_init 31 = .ok (.iconst 2, 1) := by decide +kernel
theorem dX12_init_32 : decode cX12_init 32 = .ok (.newarray .boolean, 2) := by decide +kernel
theorem dX12_init_34 : decode cX12_init 34 = .ok (.putfield 19, 3) := by decide +kernel
theorem dX12_init_37 : decode cX12_init 37 = .ok (.aload_n 0, 1) := by decide +kernel
theorem dX12_init_38 : decode cX12_init 38 = .ok (.sipush 400, 3) := by decide +kernel
theorem dX12_init_41 : decode cX12_init 41 = .ok (.newarray .int, 2) := by decide +kernel
theorem dX12_init_43 : decode cX12_init 43 = .ok (.putfield 23, 3) := by decide +kernel
theorem dX12_init_46 : decode cX12_init 46 = .ok (.aload_n 0, 1) := by decide +kernel
theorem dX12_init_47 : decode cX12_init 47 = .ok (.iconst (-1), 1) := by decide +kernel
theorem dX12_init_48 : decode cX12_init 48 = .ok (.putfield 26, 3) := by decide +kernel
theorem dX12_init_51 : decode cX12_init 51 = .ok (.aload_n 0, 1) := by decide +kernel
theorem dX12_init_52 : decode cX12_init 52 = .ok (.bipush 96, 2) := by decide +kernel
theorem dX12_init_54 : decode cX12_init 54 = .ok (.newarray .int, 2) := by decide +kernel
theorem dX12_init_56 : decode cX12_init 56 = .ok (.putfield 30, 3) := by decide +kernel
theorem dX12_init_59 : decode cX12_init 59 = .ok (.aload_n 0, 1) := by decide +kernel
theorem dX12_init_60 : decode cX12_init 60 = .ok (.sipush 400, 3) := by decide +kernel
theorem dX12_init_63 : decode cX12_init 63 = .ok (.newarray .int, 2) := by decide +kernel
theorem dX12_init_65 : decode cX12_init 65 = .ok (.putfield 33, 3) := by decide +kernel
theorem dX12_init_68 : decode cX12_init 68 = .ok (.aload_n 0, 1) := by decide +kernel
theorem dX12_init_69 : decode cX12_init 69 = .ok (.sipush 400, 3) := by decide +kernel
theorem dX12_init_72 : decode cX12_init 72 = .ok (.newarray .int, 2) := by decide +kernel
theorem dX12_init_74 : decode cX12_init 74 = .ok (.putfield 36, 3) := by decide +kernel
theorem dX12_init_77 : decode cX12_init 77 = .ok (.aload_n 0, 1) := by decide +kernel
theorem dX12_init_78 : decode cX12_init 78 = .ok (.sipush 400, 3) := by decide +kernel
theorem dX12_init_81 : decode cX12_init 81 = .ok (.newarray .int, 2) := by decide +kernel
theorem dX12_init_83 : decode cX12_init 83 = .ok (.putfield 39, 3) := by decide +kernel
theorem dX12_init_86 : decode cX12_init 86 = .ok (.aload_n 0, 1) := by decide +kernel
theorem dX12_init_87 : decode cX12_init 87 = .ok (.sipush 400, 3) := by decide +kernel
theorem dX12_init_90 : decode cX12_init 90 = .ok (.newarray .int, 2) := by decide +kernel
theorem dX12_init_92 : decode cX12_init 92 = .ok (.putfield 42, 3) := by decide +kernel
theorem dX12_init_95 : decode cX12_init 95 = .ok (.aload_n 0, 1) := by decide +kernel
theorem dX12_init_96 : decode cX12_init 96 = .ok (.bipush 8, 2) := by decide +kernel
theorem dX12_init_98 : decode cX12_init 98 = .ok (.newarray .long, 2) := by decide +kernel
theorem dX12_init_100 : decode cX12_init 100 = .ok (.dup, 1) := by decide +kernel
theorem dX12_init_101 : decode cX12_init 101 = .ok (.iconst 0, 1) := by decide +kernel
theorem dX12_init_102 : decode cX12_init 102 = .ok (.ldc2_w 45, 3) := by decide +kernel
theorem dX12_init_105 : decode cX12_init 105 = .ok (.lastore, 1) := by decide +kernel
theorem dX12_init_106 : decode cX12_init 106 = .ok (.dup, 1) := by decide +kernel
theorem dX12_init_107 : decode cX12_init 107 = .ok (.iconst 1, 1) := by decide +kernel
theorem dX12_init_108 : decode cX12_init 108 = .ok (.ldc2_w 47, 3) := by decide +kernel
theorem dX12_init_111 : decode cX12_init 111 = .ok (.lastore, 1) := by decide +kernel
theorem dX12_init_112 : decode cX12_init 112 = .ok (.dup, 1) := by decide +kernel
theorem dX12_init_113 : decode cX12_init 113 = .ok (.iconst 2, 1) := by decide +kernel
theorem dX12_init_114 : decode cX12_init 114 = .ok (.ldc2_w 49, 3) := by decide +kernel
theorem dX12_init_117 : decode cX12_init 117 = .ok (.lastore, 1) := by decide +kernel
theorem dX12_init_118 : decode cX12_init 118 = .ok (.dup, 1) := by decide +kernel
theorem dX12_init_119 : decode cX12_init 119 = .ok (.iconst 3, 1) := by decide +kernel
theorem dX12_init_120 : decode cX12_init 120 = .ok (.ldc2_w 51, 3) := by decide +kernel
theorem dX12_init_123 : decode cX12_init 123 = .ok (.lastore, 1) := by decide +kernel
theorem dX12_init_124 : decode cX12_init 124 = .ok (.dup, 1) := by decide +kernel
theorem dX12_init_125 : decode cX12_init 125 = .ok (.iconst 4, 1) := by decide +kernel
theorem dX12_init_126 : decode cX12_init 126 = .ok (.ldc2_w 53, 3) := by decide +kernel
theorem dX12_init_129 : decode cX12_init 129 = .ok (.lastore, 1) := by decide +kernel
theorem dX12_init_130 : decode cX12_init 130 = .ok (.dup, 1) := by decide +kernel
theorem dX12_init_131 : decode cX12_init 131 = .ok (.iconst 5, 1) := by decide +kernel
theorem dX12_init_132 : decode cX12_init 132 = .ok (.ldc2_w 55, 3) := by decide +kernel
theorem dX12_init_135 : decode cX12_init 135 = .ok (.lastore, 1) := by decide +kernel
theorem dX12_init_136 : decode cX12_init 136 = .ok (.dup, 1) := by decide +kernel
theorem dX12_init_137 : decode cX12_init 137 = .ok (.bipush 6, 2) := by decide +kernel
theorem dX12_init_139 : decode cX12_init 139 = .ok (.ldc2_w 57, 3) := by decide +kernel
theorem dX12_init_142 : decode cX12_init 142 = .ok (.lastore, 1) := by decide +kernel
theorem dX12_init_143 : decode cX12_init 143 = .ok (.dup, 1) := by decide +kernel
theorem dX12_init_144 : decode cX12_init 144 = .ok (.bipush 7, 2) := by decide +kernel
theorem dX12_init_146 : decode cX12_init 146 = .ok (.ldc2_w 59, 3) := by decide +kernel
theorem dX12_init_149 : decode cX12_init 149 = .ok (.lastore, 1) := by decide +kernel
theorem dX12_init_150 : decode cX12_init 150 = .ok (.putfield 61, 3) := by decide +kernel
theorem dX12_init_153 : decode cX12_init 153 = .ok (.aload_n 0, 1) := by decide +kernel
theorem dX12_init_154 : decode cX12_init 154 = .ok (.iconst 4, 1) := by decide +kernel
theorem dX12_init_155 : decode cX12_init 155 = .ok (.newarray .long, 2) := by decide +kernel
theorem dX12_init_157 : decode cX12_init 157 = .ok (.dup, 1) := by decide +kernel
theorem dX12_init_158 : decode cX12_init 158 = .ok (.iconst 0, 1) := by decide +kernel
theorem dX12_init_159 : decode cX12_init 159 = .ok (.ldc2_w 65, 3) := by decide +kernel
theorem dX12_init_162 : decode cX12_init 162 = .ok (.lastore, 1) := by decide +kernel
theorem dX12_init_163 : decode cX12_init 163 = .ok (.dup, 1) := by decide +kernel
theorem dX12_init_164 : decode cX12_init 164 = .ok (.iconst 1, 1) := by decide +kernel
theorem dX12_init_165 : decode cX12_init 165 = .ok (.ldc2_w 67, 3) := by decide +kernel
theorem dX12_init_168 : decode cX12_init 168 = .ok (.lastore, 1) := by decide +kernel
theorem dX12_init_169 : decode cX12_init 169 = .ok (.dup, 1) := by decide +kernel
theorem dX12_init_170 : decode cX12_init 170 = .ok (.iconst 2, 1) := by decide +kernel
theorem dX12_init_171 : decode cX12_init 171 = .ok (.ldc2_w 69, 3) := by decide +kernel
theorem dX12_init_174 : decode cX12_init 174 = .ok (.lastore, 1) := by decide +kernel
theorem dX12_init_175 : decode cX12_init 175 = .ok (.dup, 1) := by decide +kernel
theorem dX12_init_176 : decode cX12_init 176 = .ok (.iconst 3, 1) := by decide +kernel
theorem dX12_init_177 : decode cX12_init 177 = .ok (.ldc2_w 71, 3) := by decide +kernel
theorem dX12_init_180 : decode cX12_init 180 = .ok (.lastore, 1) := by decide +kernel
theorem dX12_init_181 : decode cX12_init 181 = .ok (.putfield 73, 3) := by decide +kernel
theorem dX12_init_184 : decode cX12_init 184 = .ok (.aload_n 0, 1) := by decide +kernel
theorem dX12_init_185 : decode cX12_init 185 = .ok (.bipush 13, 2) := by decide +kernel
theorem dX12_init_187 : decode cX12_init 187 = .ok (.newarray .long, 2) := by decide +kernel
theorem dX12_init_189 : decode cX12_init 189 = .ok (.putfield 76, 3) := by decide +kernel
theorem dX12_init_192 : decode cX12_init 192 = .ok (.aload_n 0, 1) := by decide +kernel
theorem dX12_init_193 : decode cX12_init 193 = .ok (.sipush 400, 3) := by decide +kernel
theorem dX12_init_196 : decode cX12_init 196 = .ok (.newarray .long, 2) := by decide +kernel
theorem dX12_init_198 : decode cX12_init 198 = .ok (.putfield 79, 3) := by decide +kernel
theorem dX12_init_201 : decode cX12_init 201 = .ok (.aload_n 0, 1) := by decide +kernel
theorem dX12_init_202 : decode cX12_init 202 = .ok (.sipush 200, 3) := by decide +kernel
theorem dX12_init_205 : decode cX12_init 205 = .ok (.newarray .int, 2) := by decide +kernel
theorem dX12_init_207 : decode cX12_init 207 = .ok (.putfield 82, 3) := by decide +kernel
theorem dX12_init_210 : decode cX12_init 210 = .ok (.aload_n 0, 1) := by decide +kernel
theorem dX12_init_211 : decode cX12_init 211 = .ok (.sipush 1536, 3) := by decide +kernel
theorem dX12_init_214 : decode cX12_init 214 = .ok (.newarray .boolean, 2) := by decide +kernel
theorem dX12_init_216 : decode cX12_init 216 = .ok (.putfield 85, 3) := by decide +kernel
theorem dX12_init_219 : decode cX12_init 219 = .ok (.aload_n 0, 1) := by decide +kernel
theorem dX12_init_220 : decode cX12_init 220 = .ok (.ldc 88, 2) := by decide +kernel
theorem dX12_init_222 : decode cX12_init 222 = .ok (.newarray .long, 2) := by decide +kernel
theorem dX12_init_224 : decode cX12_init 224 = .ok (.putfield 89, 3) := by decide +kernel
theorem dX12_init_227 : decode cX12_init 227 = .ok (.aload_n 0, 1) := by decide +kernel
theorem dX12_init_228 : decode cX12_init 228 = .ok (.ldc 88, 2) := by decide +kernel
theorem dX12_init_230 : decode cX12_init 230 = .ok (.newarray .long, 2) := by decide +kernel
theorem dX12_init_232 : decode cX12_init 232 = .ok (.putfield 92, 3) := by decide +kernel
theorem dX12_init_235 : decode cX12_init 235 = .ok (.aload_n 0, 1) := by decide +kernel
theorem dX12_init_236 : decode cX12_init 236 = .ok (.sipush 1536, 3) := by decide +kernel
theorem dX12_init_239 : decode cX12_init 239 = .ok (.newarray .int, 2) := by decide +kernel
theorem dX12_init_241 : decode cX12_init 241 = .ok (.putfield 95, 3) := by decide +kernel
theorem dX12_init_244 : decode cX12_init 244 = .ok (.aload_n 0, 1) := by decide +kernel
theorem dX12_init_245 : decode cX12_init 245 = .ok (.sipush 1536, 3) := by decide +kernel
theorem dX12_init_248 : decode cX12_init 248 = .ok (.newarray .boolean, 2) := by decide +kernel
theorem dX12_init_250 : decode cX12_init 250 = .ok (.putfield 98, 3) := by decide +kernel
theorem dX12_init_253 : decode cX12_init 253 = .ok (.aload_n 0, 1) := by decide +kernel
theorem dX12_init_254 : decode cX12_init 254 = .ok (.sipush 1536, 3) := by decide +kernel
theorem dX12_init_257 : decode cX12_init 257 = .ok (.newarray .boolean, 2) := by decide +kernel
theorem dX12_init_259 : decode cX12_init 259 = .ok (.putfield 101, 3) := by decide +kernel
theorem dX12_init_262 : decode cX12_init 262 = .ok (.aload_n 0, 1) := by decide +kernel
theorem dX12_init_263 : decode cX12_init 263 = .ok (.bipush 24, 2) := by decide +kernel
theorem dX12_init_265 : decode cX12_init 265 = .ok (.newarray .int, 2) := by decide +kernel
theorem dX12_init_267 : decode cX12_init 267 = .ok (.putfield 104, 3) := by decide +kernel
theorem dX12_init_270 : decode cX12_init 270 = .ok (.aload_n 0, 1) := by decide +kernel
theorem dX12_init_271 : decode cX12_init 271 = .ok (.getfield 13, 3) := by decide +kernel
theorem dX12_init_274 : decode cX12_init 274 = .ok (.iconst 3, 1) := by decide +kernel
theorem dX12_init_275 : decode cX12_init 275 = .ok (.iconst (-1), 1) := by decide +kernel
theorem dX12_init_276 : decode cX12_init 276 = .ok (.iastore, 1) := by decide +kernel
theorem dX12_init_277 : decode cX12_init 277 = .ok (.aload_n 0, 1) := by decide +kernel
theorem dX12_init_278 : decode cX12_init 278 = .ok (.getfield 13, 3) := by decide +kernel
theorem dX12_init_281 : decode cX12_init 281 = .ok (.iconst 4, 1) := by decide +kernel
theorem dX12_init_282 : decode cX12_init 282 = .ok (.sipush 1000, 3) := by decide +kernel
theorem dX12_init_285 : decode cX12_init 285 = .ok (.iastore, 1) := by decide +kernel
theorem dX12_init_286 : decode cX12_init 286 = .ok (.aload_n 0, 1) := by decide +kernel
theorem dX12_init_287 : decode cX12_init 287 = .ok (.getfield 13, 3) := by decide +kernel
theorem dX12_init_290 : decode cX12_init 290 = .ok (.bipush 6, 2) := by decide +kernel
theorem dX12_init_292 : decode cX12_init 292 = .ok (.iconst (-1), 1) := by decide +kernel
theorem dX12_init_293 : decode cX12_init 293 = .ok (.iastore, 1) := by decide +kernel
theorem dX12_init_294 : decode cX12_init 294 = .ok (.return_, 1) := by decide +kernel
