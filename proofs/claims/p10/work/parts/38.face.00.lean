theorem dX11_sooner_0 : decode cX11_sooner 0 = .ok (.aload_n 0, 1) := by decide +kernel
theorem dX11_sooner_1 : decode cX11_sooner 1 = .ok (.iload_n 1, 1) := by decide +kernel
theorem dX11_sooner_2 : decode cX11_sooner 2 = .ok (.iload_n 2, 1) := by decide +kernel
theorem dX11_sooner_3 : decode cX11_sooner 3 = .ok (.iload_n 3, 1) := by decide +kernel
theorem dX11_sooner_4 : decode cX11_sooner 4 = .ok (.invokevirtual 327, 3) := by decide +kernel
theorem dX11_sooner_7 : decode cX11_sooner 7 = .ok (.ifCond .eq 14, 3) := by decide +kernel
theorem dX11_sooner_10 : decode cX11_sooner 10 = .ok (.iload 4, 2) := by decide +kernel
theorem dX11_sooner_12 : decode cX11_sooner 12 = .ok (.ifCond .lt 9, 3) := by decide +kernel
theorem dX11_sooner_15 : decode cX11_sooner 15 = .ok (.iload 4, 2) := by decide +kernel
theorem dX11_sooner_17 : decode cX11_sooner 17 = .ok (.iconst 2, 1) := by decide +kernel
theorem dX11_sooner_18 : decode cX11_sooner 18 = .ok (.if_icmp .le 5, 3) := by decide +kernel
theorem dX11_sooner_21 : decode cX11_sooner 21 = .ok (.iconst (-1), 1) := by decide +kernel
theorem dX11_sooner_22 : decode cX11_sooner 22 = .ok (.ireturn, 1) := by decide +kernel
theorem dX11_sooner_23 : decode cX11_sooner 23 = .ok (.aload_n 0, 1) := by decide +kernel
theorem dX11_sooner_24 : decode cX11_sooner 24 = .ok (.getfield 59, 3) := by decide +kernel
theorem dX11_sooner_27 : decode cX11_sooner 27 = .ok (.iload_n 1, 1) := by decide +kernel
theorem dX11_sooner_28 : decode cX11_sooner 28 = .ok (.iload_n 2, 1) := by decide +kernel
theorem dX11_sooner_29 : decode cX11_sooner 29 = .ok (.iload_n 3, 1) := by decide +kernel
theorem dX11_sooner_30 : decode cX11_sooner 30 = .ok (.bipush 24, 2) := by decide +kernel
theorem dX11_sooner_32 : decode cX11_sooner 32 = .ok (.invokevirtual 330, 3) := by decide +kernel
theorem dX11_sooner_35 : decode cX11_sooner 35 = .ok (.istore 5, 2) := by decide +kernel
theorem dX11_sooner_37 : decode cX11_sooner 37 = .ok (.iload 5, 2) := by decide +kernel
theorem dX11_sooner_39 : decode cX11_sooner 39 = .ok (.iconst (-1), 1) := by decide +kernel
theorem dX11_sooner_40 : decode cX11_sooner 40 = .ok (.if_icmp .ne 8, 3) := by decide +kernel
theorem dX11_sooner_43 : decode cX11_sooner 43 = .ok (.bipush 24, 2) := by decide +kernel
theorem dX11_sooner_45 : decode cX11_sooner 45 = .ok (.goto 5, 3) := by decide +kernel
theorem dX11_sooner_48 : decode cX11_sooner 48 = .ok (.iload 5, 2) := by decide +kernel
theorem dX11_sooner_50 : decode cX11_sooner 50 = .ok (.istore 6, 2) := by decide +kernel
theorem dX11_sooner_52 : decode cX11_sooner 52 = .ok (.iconst (-1), 1) := by decide +kernel
theorem dX11_sooner_53 : decode cX11_sooner 53 = .ok (.istore 7, 2) := by decide +kernel
theorem dX11_sooner_55 : decode cX11_sooner 55 = .ok (.iconst 0, 1) := by decide +kernel
theorem dX11_sooner_56 : decode cX11_sooner 56 = .ok (.istore 8, 2) := by decide +kernel
theorem dX11_sooner_58 : decode cX11_sooner 58 = .ok (.iload 8, 2) := by decide +kernel
theorem dX11_sooner_60 : decode cX11_sooner 60 = .ok (.aload_n 0, 1) := by decide +kernel
theorem dX11_sooner_61 : decode cX11_sooner 61 = .ok (.getfield 12, 3) := by decide +kernel
theorem dX11_sooner_64 : decode cX11_sooner 64 = .ok (.getfield 136, 3) := by decide +kernel
theorem dX11_sooner_67 : decode cX11_sooner 67 = .ok (.getfield 238, 3) := by decide +kernel
theorem dX11_sooner_70 : decode cX11_sooner 70 = .ok (.if_icmp .ge 132, 3) := by decide +kernel
theorem dX11_sooner_73 : decode cX11_sooner 73 = .ok (.aload_n 0, 1) := by decide +kernel
theorem dX11_sooner_74 : decode cX11_sooner 74 = .ok (.getfield 12, 3) := by decide +kernel
theorem dX11_sooner_77 : decode cX11_sooner 77 = .ok (.getfield 136, 3) := by decide +kernel
theorem dX11_sooner_80 : decode cX11_sooner 80 = .ok (.iload 8, 2) := by decide +kernel
theorem dX11_sooner_82 : decode cX11_sooner 82 = .ok (.iconst 1, 1) := by decide +kernel
theorem dX11_sooner_83 : decode cX11_sooner 83 = .ok (.invokevirtual 163, 3) := by decide +kernel
theorem dX11_sooner_86 : decode cX11_sooner 86 = .ok (.istore 9, 2) := by decide +kernel
theorem dX11_sooner_88 : decode cX11_sooner 88 = .ok (.iconst 0, 1) := by decide +kernel
theorem dX11_sooner_89 : decode cX11_sooner 89 = .ok (.istore 10, 2) := by decide +kernel
theorem dX11_sooner_91 : decode cX11_sooner 91 = .ok (.iload 10, 2) := by decide +kernel
theorem dX11_sooner_93 : decode cX11_sooner 93 = .ok (.bipush 6, 2) := by decide +kernel
theorem dX11_sooner_95 : decode cX11_sooner 95 = .ok (.if_icmp .ge 86, 3) := by decide +kernel
theorem dX11_sooner_98 : decode cX11_sooner 98 = .ok (.aload_n 0, 1) := by decide +kernel
theorem dX11_sooner_99 : decode cX11_sooner 99 = .ok (.getfield 12, 3) := by decide +kernel
theorem dX11_sooner_102 : decode cX11_sooner 102 = .ok (.getfield 136, 3) := by decide +kernel
theorem dX11_sooner_105 : decode cX11_sooner 105 = .ok (.iload 8, 2) := by decide +kernel
theorem dX11_sooner_107 : decode cX11_sooner 107 = .ok (.iconst 1, 1) := by decide +kernel
theorem dX11_sooner_108 : decode cX11_sooner 108 = .ok (.iload 10, 2) := by decide +kernel
theorem dX11_sooner_110 : decode cX11_sooner 110 = .ok (.invokevirtual 149, 3) := by decide +kernel
theorem dX11_sooner_113 : decode cX11_sooner 113 = .ok (.iload 10, 2) := by decide +kernel
theorem dX11_sooner_115 : decode cX11_sooner 115 = .ok (.iload 9, 2) := by decide +kernel
theorem dX11_sooner_117 : decode cX11_sooner 117 = .ok (.if_icmp .ne 7, 3) := by decide +kernel
theorem dX11_sooner_120 : decode cX11_sooner 120 = .ok (.iconst (-1), 1) := by decide +kernel
theorem dX11_sooner_121 : decode cX11_sooner 121 = .ok (.goto 17, 3) := by decide +kernel
theorem dX11_sooner_124 : decode cX11_sooner 124 = .ok (.aload_n 0, 1) := by decide +kernel
theorem dX11_sooner_125 : decode cX11_sooner 125 = .ok (.getfield 59, 3) := by decide +kernel
theorem dX11_sooner_128 : decode cX11_sooner 128 = .ok (.iload 8, 2) := by decide +kernel
theorem dX11_sooner_130 : decode cX11_sooner 130 = .ok (.iload_n 1, 1) := by decide +kernel
theorem dX11_sooner_131 : decode cX11_sooner 131 = .ok (.iload_n 2, 1) := by decide +kernel
theorem dX11_sooner_132 : decode cX11_sooner 132 = .ok (.iload_n 3, 1) := by decide +kernel
theorem dX11_sooner_133 : decode cX11_sooner 133 = .ok (.iload 6, 2) := by decide +kernel
theorem dX11_sooner_135 : decode cX11_sooner 135 = .ok (.invokevirtual 336, 3) := by decide +kernel
theorem dX11_sooner_138 : decode cX11_sooner 138 = .ok (.istore 11, 2) := by decide +kernel
theorem dX11_sooner_140 : decode cX11_sooner 140 = .ok (.iload 11, 2) := by decide +kernel
theorem dX11_sooner_142 : decode cX11_sooner 142 = .ok (.iconst (-1), 1) := by decide +kernel
theorem dX11_sooner_143 : decode cX11_sooner 143 = .ok (.if_icmp .eq 32, 3) := by decide +kernel
theorem dX11_sooner_146 : decode cX11_sooner 146 = .ok (.iload 11, 2) := by decide +kernel
theorem dX11_sooner_148 : decode cX11_sooner 148 = .ok (.istore 6, 2) := by decide +kernel
theorem dX11_sooner_150 : decode cX11_sooner 150 = .ok (.iload 4, 2) := by decide +kernel
theorem dX11_sooner_152 : decode cX11_sooner 152 = .ok (.ifCond .ne 8, 3) := by decide +kernel
theorem dX11_sooner_155 : decode cX11_sooner 155 = .ok (.iload 11, 2) := by decide +kernel
theorem dX11_sooner_157 : decode cX11_sooner 157 = .ok (.goto 16, 3) := by decide +kernel
theorem dX11_sooner_160 : decode cX11_sooner 160 = .ok (.iload 4, 2) := by decide +kernel
theorem dX11_sooner_162 : decode cX11_sooner 162 = .ok (.iconst 1, 1) := by decide +kernel
theorem dX11_sooner_163 : decode cX11_sooner 163 = .ok (.if_icmp .ne 8, 3) := by decide +kernel
theorem dX11_sooner_166 : decode cX11_sooner 166 = .ok (.iload 8, 2) := by decide +kernel
theorem dX11_sooner_168 : decode cX11_sooner 168 = .ok (.goto 5, 3) := by decide +kernel
theorem dX11_sooner_171 : decode cX11_sooner 171 = .ok (.iload 10, 2) := by decide +kernel
theorem dX11_sooner_173 : decode cX11_sooner 173 = .ok (.istore 7, 2) := by decide +kernel
theorem dX11_sooner_175 : decode cX11_sooner 175 = .ok (.iinc 10 1, 3) := by decide +kernel
theorem dX11_sooner_178 : decode cX11_sooner 178 = .ok (.goto (-87), 3) := by decide +kernel
theorem dX11_sooner_181 : decode cX11_sooner 181 = .ok (.aload_n 0, 1) := by decide +kernel
theorem dX11_sooner_182 : decode cX11_sooner 182 = .ok (.getfield 12, 3) := by decide +kernel
theorem dX11_sooner_185 : decode cX11_sooner 185 = .ok (.getfield 136, 3) := by decide +kernel
theorem dX11_sooner_188 : decode cX11_sooner 188 = .ok (.iload 8, 2) := by decide +kernel
theorem dX11_sooner_190 : decode cX11_sooner 190 = .ok (.iconst 1, 1) := by decide +kernel
theorem dX11_sooner_191 : decode cX11_sooner 191 = .ok (.iload 9, 2) := by decide +kernel
theorem dX11_sooner_193 : decode cX11_sooner 193 = .ok (.invokevirtual 149, 3) := by decide +kernel
theorem dX11_sooner_196 : decode cX11_sooner 196 = .ok (.iinc 8 1, 3) := by decide +kernel
theorem dX11_sooner_199 : decode cX11_sooner 199 = .ok (.goto (-141), 3) := by decide +kernel
theorem dX11_sooner_202 : decode cX11_sooner 202 = .ok (.iload 7, 2) := by decide +kernel
theorem dX11_sooner_204 : decode cX11_sooner 204 = .ok (.ireturn, 1) := by decide +kernel
theorem ml_X11_336 : Cond.methodLink RX11 336 yX9_sightBy ∈ tblG := tg 1139 (by decide +kernel) (by decide +kernel)
theorem im_X9_sightBy : Cond.instanceMethod yX9_sightBy ∈ tblG := tg 1140 (by decide +kernel) (by decide +kernel)
theorem se_X9_sightBy : Cond.selects RX9 yX9_sightBy yX9_sightBy ∈ tblG := tg 1141 (by decide +kernel) (by decide +kernel)
theorem cd_X9_sightBy : Cond.code yX9_sightBy cX9_sightBy 11 (some .int) ∈ tblG := tg 1142 (by decide +kernel) (by decide +kernel)
theorem gW_X9_sightBy : GoodIn tblG (wsG yX9_sightBy cX9_sightBy 11 (some .int)) := tgi cd_X9_sightBy
theorem gV_X11_336 : GoodIn tblG (wsV RX11 336 RX9 yX9_sightBy (wsG yX9_sightBy cX9_sightBy 11 (some .int))) := tgV ml_X11_336 im_X9_sightBy se_X9_sightBy ini_X9 gW_X9_sightBy
theorem hv_X9_sightBy : yX9_sightBy.cls = RX9 ∧ yX9_sightBy.cls ≠ "java/lang/invoke/MethodHandle" ∧ yX9_sightBy.cls ≠ "java/lang/invoke/VarHandle" ∧ (parseMethodDescriptor yX9_sightBy.desc).map (fun d => d.parameters.length) = some 5 := by decide +kernel
