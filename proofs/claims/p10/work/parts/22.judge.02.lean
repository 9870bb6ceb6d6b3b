theorem dX2_holds_0 : decode cX2_holds 0 = .ok (.iconst 0, 1) := by decide +kernel
theorem dX2_holds_1 : decode cX2_holds 1 = .ok (.istore_n 3, 1) := by decide +kernel
theorem dX2_holds_2 : decode cX2_holds 2 = .ok (.aload_n 1, 1) := by decide +kernel
theorem dX2_holds_3 : decode cX2_holds 3 = .ok (.getfield 41, 3) := by decide +kernel
theorem dX2_holds_6 : decode cX2_holds 6 = .ok (.iload_n 2, 1) := by decide +kernel
theorem dX2_holds_7 : decode cX2_holds 7 = .ok (.iconst 1, 1) := by decide +kernel
theorem dX2_holds_8 : decode cX2_holds 8 = .ok (.iadd, 1) := by decide +kernel
theorem dX2_holds_9 : decode cX2_holds 9 = .ok (.iaload, 1) := by decide +kernel
theorem dX2_holds_10 : decode cX2_holds 10 = .ok (.istore 4, 2) := by decide +kernel
theorem dX2_holds_12 : decode cX2_holds 12 = .ok (.aload_n 1, 1) := by decide +kernel
theorem dX2_holds_13 : decode cX2_holds 13 = .ok (.getfield 41, 3) := by decide +kernel
theorem dX2_holds_16 : decode cX2_holds 16 = .ok (.iload_n 2, 1) := by decide +kernel
theorem dX2_holds_17 : decode cX2_holds 17 = .ok (.iaload, 1) := by decide +kernel
theorem dX2_holds_18 : decode cX2_holds 18 = .ok (.istore 5, 2) := by decide +kernel
theorem dX2_holds_20 : decode cX2_holds 20 = .ok (.iload 5, 2) := by decide +kernel
theorem dX2_holds_22 : decode cX2_holds 22 = .ok (.iload 4, 2) := by decide +kernel
theorem dX2_holds_24 : decode cX2_holds 24 = .ok (.if_icmp .ge 219, 3) := by decide +kernel
theorem dX2_holds_27 : decode cX2_holds 27 = .ok (.aload_n 1, 1) := by decide +kernel
theorem dX2_holds_28 : decode cX2_holds 28 = .ok (.getfield 44, 3) := by decide +kernel
theorem dX2_holds_31 : decode cX2_holds 31 = .ok (.iload 5, 2) := by decide +kernel
theorem dX2_holds_33 : decode cX2_holds 33 = .ok (.iaload, 1) := by decide +kernel
theorem dX2_holds_34 : decode cX2_holds 34 = .ok (.bipush 12, 2) := by decide +kernel
theorem dX2_holds_36 : decode cX2_holds 36 = .ok (.ishr, 1) := by decide +kernel
theorem dX2_holds_37 : decode cX2_holds 37 = .ok (.istore 6, 2) := by decide +kernel
theorem dX2_holds_39 : decode cX2_holds 39 = .ok (.aload_n 1, 1) := by decide +kernel
theorem dX2_holds_40 : decode cX2_holds 40 = .ok (.getfield 44, 3) := by decide +kernel
theorem dX2_holds_43 : decode cX2_holds 43 = .ok (.iload 5, 2) := by decide +kernel
theorem dX2_holds_45 : decode cX2_holds 45 = .ok (.iaload, 1) := by decide +kernel
theorem dX2_holds_46 : decode cX2_holds 46 = .ok (.sipush 4095, 3) := by decide +kernel
theorem dX2_holds_49 : decode cX2_holds 49 = .ok (.iand, 1) := by decide +kernel
theorem dX2_holds_50 : decode cX2_holds 50 = .ok (.istore 7, 2) := by decide +kernel
theorem dX2_holds_52 : decode cX2_holds 52 = .ok (.iload 6, 2) := by decide +kernel
theorem dX2_holds_54 : decode cX2_holds 54 = .ok (.ifCond .eq 9, 3) := by decide +kernel
theorem dX2_holds_57 : decode cX2_holds 57 = .ok (.iload 6, 2) := by decide +kernel
theorem dX2_holds_59 : decode cX2_holds 59 = .ok (.iconst 1, 1) := by decide +kernel
theorem dX2_holds_60 : decode cX2_holds 60 = .ok (.if_icmp .ne 45, 3) := by decide +kernel
theorem dX2_holds_63 : decode cX2_holds 63 = .ok (.iload_n 3, 1) := by decide +kernel
theorem dX2_holds_64 : decode cX2_holds 64 = .ok (.aload_n 0, 1) := by decide +kernel
theorem dX2_holds_65 : decode cX2_holds 65 = .ok (.getfield 15, 3) := by decide +kernel
theorem dX2_holds_68 : decode cX2_holds 68 = .ok (.arraylength, 1) := by decide +kernel
theorem dX2_holds_69 : decode cX2_holds 69 = .ok (.if_icmp .lt 5, 3) := by decide +kernel
theorem dX2_holds_72 : decode cX2_holds 72 = .ok (.iconst 0, 1) := by decide +kernel
theorem dX2_holds_73 : decode cX2_holds 73 = .ok (.ireturn, 1) := by decide +kernel
theorem dX2_holds_74 : decode cX2_holds 74 = .ok (.aload_n 0, 1) := by decide +kernel
theorem dX2_holds_75 : decode cX2_holds 75 = .ok (.getfield 15, 3) := by decide +kernel
theorem dX2_holds_78 : decode cX2_holds 78 = .ok (.iload_n 3, 1) := by decide +kernel
theorem dX2_holds_79 : decode cX2_holds 79 = .ok (.iload 6, 2) := by decide +kernel
theorem dX2_holds_81 : decode cX2_holds 81 = .ok (.ifCond .ne 9, 3) := by decide +kernel
theorem dX2_holds_84 : decode cX2_holds 84 = .ok (.iload 7, 2) := by decide +kernel
theorem dX2_holds_86 : decode cX2_holds 86 = .ok (.i2l, 1) := by decide +kernel
theorem dX2_holds_87 : decode cX2_holds 87 = .ok (.goto 11, 3) := by decide +kernel
theorem dX2_holds_90 : decode cX2_holds 90 = .ok (.aload_n 0, 1) := by decide +kernel
theorem dX2_holds_91 : decode cX2_holds 91 = .ok (.getfield 9, 3) := by decide +kernel
theorem dX2_holds_94 : decode cX2_holds 94 = .ok (.iload 7, 2) := by decide +kernel
theorem dX2_holds_96 : decode cX2_holds 96 = .ok (.iaload, 1) := by decide +kernel
theorem dX2_holds_97 : decode cX2_holds 97 = .ok (.i2l, 1) := by decide +kernel
theorem dX2_holds_98 : decode cX2_holds 98 = .ok (.lastore, 1) := by decide +kernel
theorem dX2_holds_99 : decode cX2_holds 99 = .ok (.iinc 3 1, 3) := by decide +kernel
theorem dX2_holds_102 : decode cX2_holds 102 = .ok (.goto 135, 3) := by decide +kernel
theorem dX2_holds_105 : decode cX2_holds 105 = .ok (.iload 6, 2) := by decide +kernel
theorem dX2_holds_107 : decode cX2_holds 107 = .ok (.bipush 8, 2) := by decide +kernel
theorem dX2_holds_109 : decode cX2_holds 109 = .ok (.if_icmp .gt 20, 3) := by decide +kernel
theorem dX2_holds_112 : decode cX2_holds 112 = .ok (.iinc 3 (-1), 3) := by decide +kernel
theorem dX2_holds_115 : decode cX2_holds 115 = .ok (.aload_n 0, 1) := by decide +kernel
theorem dX2_holds_116 : decode cX2_holds 116 = .ok (.iload 6, 2) := by decide +kernel
theorem dX2_holds_118 : decode cX2_holds 118 = .ok (.iload_n 3, 1) := by decide +kernel
theorem dX2_holds_119 : decode cX2_holds 119 = .ok (.iconst 1, 1) := by decide +kernel
theorem dX2_holds_120 : decode cX2_holds 120 = .ok (.isub, 1) := by decide +kernel
theorem dX2_holds_121 : decode cX2_holds 121 = .ok (.invokevirtual 47, 3) := by decide +kernel
theorem dX2_holds_124 : decode cX2_holds 124 = .ok (.ifCond .ne 113, 3) := by decide +kernel
theorem dX2_holds_127 : decode cX2_holds 127 = .ok (.iconst 0, 1) := by decide +kernel
theorem dX2_holds_128 : decode cX2_holds 128 = .ok (.ireturn, 1) := by decide +kernel
theorem dX2_holds_129 : decode cX2_holds 129 = .ok (.iload_n 3, 1) := by decide +kernel
theorem dX2_holds_130 : decode cX2_holds 130 = .ok (.iconst 1, 1) := by decide +kernel
theorem dX2_holds_131 : decode cX2_holds 131 = .ok (.if_icmp .ge 5, 3) := by decide +kernel
theorem dX2_holds_134 : decode cX2_holds 134 = .ok (.iconst 0, 1) := by decide +kernel
theorem dX2_holds_135 : decode cX2_holds 135 = .ok (.ireturn, 1) := by decide +kernel
theorem dX2_holds_136 : decode cX2_holds 136 = .ok (.iload 6, 2) := by decide +kernel
theorem dX2_holds_138 : decode cX2_holds 138 = .ok (.bipush 9, 2) := by decide +kernel
theorem dX2_holds_140 : decode cX2_holds 140 = .ok (.if_icmp .ne 24, 3) := by decide +kernel
theorem dX2_holds_143 : decode cX2_holds 143 = .ok (.aload_n 0, 1) := by decide +kernel
theorem dX2_holds_144 : decode cX2_holds 144 = .ok (.getfield 15, 3) := by decide +kernel
theorem dX2_holds_147 : decode cX2_holds 147 = .ok (.iload_n 3, 1) := by decide +kernel
theorem dX2_holds_148 : decode cX2_holds 148 = .ok (.iconst 1, 1) := by decide +kernel
theorem dX2_holds_149 : decode cX2_holds 149 = .ok (.isub, 1) := by decide +kernel
theorem dX2_holds_150 : decode cX2_holds 150 = .ok (.lconst 1, 1) := by decide +kernel
theorem dX2_holds_151 : decode cX2_holds 151 = .ok (.aload_n 0, 1) := by decide +kernel
theorem dX2_holds_152 : decode cX2_holds 152 = .ok (.getfield 15, 3) := by decide +kernel
theorem dX2_holds_155 : decode cX2_holds 155 = .ok (.iload_n 3, 1) := by decide +kernel
theorem dX2_holds_156 : decode cX2_holds 156 = .ok (.iconst 1, 1) := by decide +kernel
theorem dX2_holds_157 : decode cX2_holds 157 = .ok (.isub, 1) := by decide +kernel
theorem dX2_holds_158 : decode cX2_holds 158 = .ok (.laload, 1) := by decide +kernel
theorem dX2_holds_159 : decode cX2_holds 159 = .ok (.lsub, 1) := by decide +kernel
theorem dX2_holds_160 : decode cX2_holds 160 = .ok (.lastore, 1) := by decide +kernel
theorem dX2_holds_161 : decode cX2_holds 161 = .ok (.goto 76, 3) := by decide +kernel
theorem dX2_holds_164 : decode cX2_holds 164 = .ok (.iload 6, 2) := by decide +kernel
theorem dX2_holds_166 : decode cX2_holds 166 = .ok (.bipush 10, 2) := by decide +kernel
theorem dX2_holds_168 : decode cX2_holds 168 = .ok (.if_icmp .ne 19, 3) := by decide +kernel
theorem dX2_holds_171 : decode cX2_holds 171 = .ok (.iinc 3 (-1), 3) := by decide +kernel
theorem dX2_holds_174 : decode cX2_holds 174 = .ok (.aload_n 0, 1) := by decide +kernel
theorem dX2_holds_175 : decode cX2_holds 175 = .ok (.getfield 15, 3) := by decide +kernel
theorem dX2_holds_178 : decode cX2_holds 178 = .ok (.iload_n 3, 1) := by decide +kernel
theorem dX2_holds_179 : decode cX2_holds 179 = .ok (.laload, 1) := by decide +kernel
theorem dX2_holds_180 : decode cX2_holds 180 = .ok (.lconst 0, 1) := by decide +kernel
theorem dX2_holds_181 : decode cX2_holds 181 = .ok (.lcmp, 1) := by decide +kernel
theorem dX2_holds_182 : decode cX2_holds 182 = .ok (.ifCond .ne 55, 3) := by decide +kernel
theorem dX2_holds_185 : decode cX2_holds 185 = .ok (.iconst 0, 1) := by decide +kernel
theorem dX2_holds_186 : decode cX2_holds 186 = .ok (.ireturn, 1) := by decide +kernel
theorem dX2_holds_187 : decode cX2_holds 187 = .ok (.aload_n 0, 1) := by decide +kernel
theorem dX2_holds_188 : decode cX2_holds 188 = .ok (.getfield 15, 3) := by decide +kernel
theorem dX2_holds_191 : decode cX2_holds 191 = .ok (.iload_n 3, 1) := by decide +kernel
theorem dX2_holds_192 : decode cX2_holds 192 = .ok (.iconst 1, 1) := by decide +kernel
theorem dX2_holds_193 : decode cX2_holds 193 = .ok (.isub, 1) := by decide +kernel
theorem dX2_holds_194 : decode cX2_holds 194 = .ok (.laload, 1) := by decide +kernel
theorem dX2_holds_195 : decode cX2_holds 195 = .ok (.lconst 0, 1) := by decide +kernel
theorem dX2_holds_196 : decode cX2_holds 196 = .ok (.lcmp, 1) := by decide +kernel
theorem dX2_holds_197 : decode cX2_holds 197 = .ok (.ifCond .eq 7, 3) := by decide +kernel
theorem dX2_holds_200 : decode cX2_holds 200 = .ok (.iconst 1, 1) := by decide +kernel
theorem dX2_holds_201 : decode cX2_holds 201 = .ok (.goto 4, 3) := by decide +kernel
theorem dX2_holds_204 : decode cX2_holds 204 = .ok (.iconst 0, 1) := by decide +kernel
theorem dX2_holds_205 : decode cX2_holds 205 = .ok (.iload 6, 2) := by decide +kernel
theorem dX2_holds_207 : decode cX2_holds 207 = .ok (.bipush 11, 2) := by decide +kernel
theorem dX2_holds_209 : decode cX2_holds 209 = .ok (.if_icmp .ne 7, 3) := by decide +kernel
theorem dX2_holds_212 : decode cX2_holds 212 = .ok (.iconst 1, 1) := by decide +kernel
theorem dX2_holds_213 : decode cX2_holds 213 = .ok (.goto 4, 3) := by decide +kernel
theorem dX2_holds_216 : decode cX2_holds 216 = .ok (.iconst 0, 1) := by decide +kernel
theorem dX2_holds_217 : decode cX2_holds 217 = .ok (.if_icmp .ne 17, 3) := by decide +kernel
theorem dX2_holds_220 : decode cX2_holds 220 = .ok (.iload 5, 2) := by decide +kernel
theorem dX2_holds_222 : decode cX2_holds 222 = .ok (.iload 7, 2) := by decide +kernel
theorem dX2_holds_224 : decode cX2_holds 224 = .ok (.iconst 1, 1) := by decide +kernel
theorem dX2_holds_225 : decode cX2_holds 225 = .ok (.isub, 1) := by decide +kernel
theorem dX2_holds_226 : decode cX2_holds 226 = .ok (.invokestatic 51, 3) := by decide +kernel
theorem dX2_holds_229 : decode cX2_holds 229 = .ok (.istore 5, 2) := by decide +kernel
theorem dX2_holds_231 : decode cX2_holds 231 = .ok (.goto 6, 3) := by decide +kernel
theorem dX2_holds_234 : decode cX2_holds 234 = .ok (.iinc 3 (-1), 3) := by decide +kernel
theorem dX2_holds_237 : decode cX2_holds 237 = .ok (.iinc 5 1, 3) := by decide +kernel
theorem dX2_holds_240 : decode cX2_holds 240 = .ok (.goto (-220), 3) := by decide +kernel
theorem dX2_holds_243 : decode cX2_holds 243 = .ok (.iconst 1, 1) := by decide +kernel
theorem dX2_holds_244 : decode cX2_holds 244 = .ok (.ireturn, 1) := by decide +kernel
theorem inG_X3 : ∀ w ∈ wsX30, w ∈ tblG := tgs [786, 788, 790, 792] (by decide +kernel) (by decide +kernel)
theorem fl_X2_41 : Cond.fieldLink RX2 41 "LateGlass$Law" "starts" "[I" ∈ tblG := tg 783 (by decide +kernel) (by decide +kernel)
theorem fl_X2_44 : Cond.fieldLink RX2 44 "LateGlass$Law" "code" "[I" ∈ tblG := tg 785 (by decide +kernel) (by decide +kernel)
theorem ml_X2_51 : Cond.methodLink RX2 51 Lib.Math.max.name ∈ tblG := tg 852 (by decide +kernel) (by decide +kernel)
theorem st_Math_maxI : Cond.static Lib.Math.max.name ∈ tblG := tg 853 (by decide +kernel) (by decide +kernel)
theorem ini_Math : Cond.initialized "java/lang/Math" ∈ tblG := tg 106 (by decide +kernel) (by decide +kernel)
theorem cd_Math_maxI : Cond.code Lib.Math.max.name Lib.Math.max.code 2 (some .int) ∈ tblG := tg 854 (by decide +kernel) (by decide +kernel)
theorem ml_X2_47 : Cond.methodLink RX2 47 yX2_combine ∈ tblG := tg 846 (by decide +kernel) (by decide +kernel)
theorem im_X2_combine : Cond.instanceMethod yX2_combine ∈ tblG := tg 848 (by decide +kernel) (by decide +kernel)
theorem se_X2_combine : Cond.selects RX2 yX2_combine yX2_combine ∈ tblG := tg 17 (by decide +kernel) (by decide +kernel)
theorem ini_X2 : Cond.initialized RX2 ∈ tblG := tg 92 (by decide +kernel) (by decide +kernel)
theorem cd_X2_combine : Cond.code yX2_combine cX2_combine 9 (some .boolean) ∈ tblG := tg 849 (by decide +kernel) (by decide +kernel)
theorem gW_X2_combine : GoodIn tblG (wsG yX2_combine cX2_combine 9 (some .boolean)) := tgi cd_X2_combine
theorem gV_X2_47 : GoodIn tblG (wsV RX2 47 RX2 yX2_combine (wsG yX2_combine cX2_combine 9 (some .boolean))) := tgV ml_X2_47 im_X2_combine se_X2_combine ini_X2 gW_X2_combine
theorem hv_X2_combine : yX2_combine.cls = RX2 ∧ yX2_combine.cls ≠ "java/lang/invoke/MethodHandle" ∧ yX2_combine.cls ≠ "java/lang/invoke/VarHandle" ∧ (parseMethodDescriptor yX2_combine.desc).map (fun d => d.parameters.length) = some 2 := by decide +kernel
theorem fl_X2_9 : Cond.fieldLink RX2 9 "LateGlass$Judge" "asked" "[I" ∈ tblG := tg 234 (by decide +kernel) (by decide +kernel)
