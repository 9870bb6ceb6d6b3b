theorem dX2_combine_0 : decode cX2_combine 0 = .ok (.iload_n 2, 1) := by decide +kernel
theorem dX2_combine_1 : decode cX2_combine 1 = .ok (.ifCond .lt 32, 3) := by decide +kernel
theorem dX2_combine_4 : decode cX2_combine 4 = .ok (.iload_n 2, 1) := by decide +kernel
theorem dX2_combine_5 : decode cX2_combine 5 = .ok (.iconst 1, 1) := by decide +kernel
theorem dX2_combine_6 : decode cX2_combine 6 = .ok (.iadd, 1) := by decide +kernel
theorem dX2_combine_7 : decode cX2_combine 7 = .ok (.aload_n 0, 1) := by decide +kernel
theorem dX2_combine_8 : decode cX2_combine 8 = .ok (.getfield 15, 3) := by decide +kernel
theorem dX2_combine_11 : decode cX2_combine 11 = .ok (.arraylength, 1) := by decide +kernel
theorem dX2_combine_12 : decode cX2_combine 12 = .ok (.if_icmp .ge 21, 3) := by decide +kernel
theorem dX2_combine_15 : decode cX2_combine 15 = .ok (.iload_n 1, 1) := by decide +kernel
theorem dX2_combine_16 : decode cX2_combine 16 = .ok (.iconst 5, 1) := by decide +kernel
theorem dX2_combine_17 : decode cX2_combine 17 = .ok (.if_icmp .ne 18, 3) := by decide +kernel
theorem dX2_combine_20 : decode cX2_combine 20 = .ok (.aload_n 0, 1) := by decide +kernel
theorem dX2_combine_21 : decode cX2_combine 21 = .ok (.getfield 15, 3) := by decide +kernel
theorem dX2_combine_24 : decode cX2_combine 24 = .ok (.iload_n 2, 1) := by decide +kernel
theorem dX2_combine_25 : decode cX2_combine 25 = .ok (.iconst 1, 1) := by decide +kernel
theorem dX2_combine_26 : decode cX2_combine 26 = .ok (.iadd, 1) := by decide +kernel
theorem dX2_combine_27 : decode cX2_combine 27 = .ok (.laload, 1) := by decide +kernel
theorem dX2_combine_28 : decode cX2_combine 28 = .ok (.lconst 0, 1) := by decide +kernel
theorem dX2_combine_29 : decode cX2_combine 29 = .ok (.lcmp, 1) := by decide +kernel
theorem dX2_combine_30 : decode cX2_combine 30 = .ok (.ifCond .ne 5, 3) := by decide +kernel
theorem dX2_combine_33 : decode cX2_combine 33 = .ok (.iconst 0, 1) := by decide +kernel
theorem dX2_combine_34 : decode cX2_combine 34 = .ok (.ireturn, 1) := by decide +kernel
theorem dX2_combine_35 : decode cX2_combine 35 = .ok (.aload_n 0, 1) := by decide +kernel
theorem dX2_combine_36 : decode cX2_combine 36 = .ok (.getfield 15, 3) := by decide +kernel
theorem dX2_combine_39 : decode cX2_combine 39 = .ok (.iload_n 2, 1) := by decide +kernel
theorem dX2_combine_40 : decode cX2_combine 40 = .ok (.laload, 1) := by decide +kernel
theorem dX2_combine_41 : decode cX2_combine 41 = .ok (.lstore_n 3, 1) := by decide +kernel
theorem dX2_combine_42 : decode cX2_combine 42 = .ok (.aload_n 0, 1) := by decide +kernel
theorem dX2_combine_43 : decode cX2_combine 43 = .ok (.getfield 15, 3) := by decide +kernel
theorem dX2_combine_46 : decode cX2_combine 46 = .ok (.iload_n 2, 1) := by decide +kernel
theorem dX2_combine_47 : decode cX2_combine 47 = .ok (.iconst 1, 1) := by decide +kernel
theorem dX2_combine_48 : decode cX2_combine 48 = .ok (.iadd, 1) := by decide +kernel
theorem dX2_combine_49 : decode cX2_combine 49 = .ok (.laload, 1) := by decide +kernel
theorem dX2_combine_50 : decode cX2_combine 50 = .ok (.lstore 5, 2) := by decide +kernel
theorem dX2_combine_52 : decode cX2_combine 52 = .ok (.iload_n 1, 1) := by decide +kernel
theorem dX2_combine_53 : decode cX2_combine 53 = .ok (.tableswitch 67 2 5 #[31, 40, 49, 58], 31) := by decide +kernel
theorem dX2_combine_84 : decode cX2_combine 84 = .ok (.lload_n 3, 1) := by decide +kernel
theorem dX2_combine_85 : decode cX2_combine 85 = .ok (.lload 5, 2) := by decide +kernel
theorem dX2_combine_87 : decode cX2_combine 87 = .ok (.ladd, 1) := by decide +kernel
theorem dX2_combine_88 : decode cX2_combine 88 = .ok (.lstore 7, 2) := by decide +kernel
theorem dX2_combine_90 : decode cX2_combine 90 = .ok (.goto 76, 3) := by decide +kernel
theorem dX2_combine_93 : decode cX2_combine 93 = .ok (.lload_n 3, 1) := by decide +kernel
theorem dX2_combine_94 : decode cX2_combine 94 = .ok (.lload 5, 2) := by decide +kernel
theorem dX2_combine_96 : decode cX2_combine 96 = .ok (.lsub, 1) := by decide +kernel
theorem dX2_combine_97 : decode cX2_combine 97 = .ok (.lstore 7, 2) := by decide +kernel
theorem dX2_combine_99 : decode cX2_combine 99 = .ok (.goto 67, 3) := by decide +kernel
theorem dX2_combine_102 : decode cX2_combine 102 = .ok (.lload_n 3, 1) := by decide +kernel
theorem dX2_combine_103 : decode cX2_combine 103 = .ok (.lload 5, 2) := by decide +kernel
theorem dX2_combine_105 : decode cX2_combine 105 = .ok (.lmul, 1) := by decide +kernel
theorem dX2_combine_106 : decode cX2_combine 106 = .ok (.lstore 7, 2) := by decide +kernel
theorem dX2_combine_108 : decode cX2_combine 108 = .ok (.goto 58, 3) := by decide +kernel
theorem dX2_combine_111 : decode cX2_combine 111 = .ok (.lload_n 3, 1) := by decide +kernel
theorem dX2_combine_112 : decode cX2_combine 112 = .ok (.lload 5, 2) := by decide +kernel
theorem dX2_combine_114 : decode cX2_combine 114 = .ok (.ldiv, 1) := by decide +kernel
theorem dX2_combine_115 : decode cX2_combine 115 = .ok (.lstore 7, 2) := by decide +kernel
theorem dX2_combine_117 : decode cX2_combine 117 = .ok (.goto 49, 3) := by decide +kernel
theorem dX2_combine_120 : decode cX2_combine 120 = .ok (.iload_n 1, 1) := by decide +kernel
theorem dX2_combine_121 : decode cX2_combine 121 = .ok (.bipush 6, 2) := by decide +kernel
theorem dX2_combine_123 : decode cX2_combine 123 = .ok (.if_icmp .ne 13, 3) := by decide +kernel
theorem dX2_combine_126 : decode cX2_combine 126 = .ok (.lload_n 3, 1) := by decide +kernel
theorem dX2_combine_127 : decode cX2_combine 127 = .ok (.lload 5, 2) := by decide +kernel
theorem dX2_combine_129 : decode cX2_combine 129 = .ok (.lcmp, 1) := by decide +kernel
theorem dX2_combine_130 : decode cX2_combine 130 = .ok (.ifCond .ge 33, 3) := by decide +kernel
theorem dX2_combine_133 : decode cX2_combine 133 = .ok (.goto 26, 3) := by decide +kernel
theorem dX2_combine_136 : decode cX2_combine 136 = .ok (.iload_n 1, 1) := by decide +kernel
theorem dX2_combine_137 : decode cX2_combine 137 = .ok (.bipush 7, 2) := by decide +kernel
theorem dX2_combine_139 : decode cX2_combine 139 = .ok (.if_icmp .ne 13, 3) := by decide +kernel
theorem dX2_combine_142 : decode cX2_combine 142 = .ok (.lload_n 3, 1) := by decide +kernel
theorem dX2_combine_143 : decode cX2_combine 143 = .ok (.lload 5, 2) := by decide +kernel
theorem dX2_combine_145 : decode cX2_combine 145 = .ok (.lcmp, 1) := by decide +kernel
theorem dX2_combine_146 : decode cX2_combine 146 = .ok (.ifCond .le 17, 3) := by decide +kernel
theorem dX2_combine_149 : decode cX2_combine 149 = .ok (.goto 10, 3) := by decide +kernel
theorem dX2_combine_152 : decode cX2_combine 152 = .ok (.lload_n 3, 1) := by decide +kernel
theorem dX2_combine_153 : decode cX2_combine 153 = .ok (.lload 5, 2) := by decide +kernel
theorem dX2_combine_155 : decode cX2_combine 155 = .ok (.lcmp, 1) := by decide +kernel
theorem dX2_combine_156 : decode cX2_combine 156 = .ok (.ifCond .ne 7, 3) := by decide +kernel
theorem dX2_combine_159 : decode cX2_combine 159 = .ok (.lconst 1, 1) := by decide +kernel
theorem dX2_combine_160 : decode cX2_combine 160 = .ok (.goto 4, 3) := by decide +kernel
theorem dX2_combine_163 : decode cX2_combine 163 = .ok (.lconst 0, 1) := by decide +kernel
theorem dX2_combine_164 : decode cX2_combine 164 = .ok (.lstore 7, 2) := by decide +kernel
theorem dX2_combine_166 : decode cX2_combine 166 = .ok (.aload_n 0, 1) := by decide +kernel
theorem dX2_combine_167 : decode cX2_combine 167 = .ok (.getfield 15, 3) := by decide +kernel
theorem dX2_combine_170 : decode cX2_combine 170 = .ok (.iload_n 2, 1) := by decide +kernel
theorem dX2_combine_171 : decode cX2_combine 171 = .ok (.lload 7, 2) := by decide +kernel
theorem dX2_combine_173 : decode cX2_combine 173 = .ok (.lastore, 1) := by decide +kernel
theorem dX2_combine_174 : decode cX2_combine 174 = .ok (.lload 7, 2) := by decide +kernel
theorem dX2_combine_176 : decode cX2_combine 176 = .ok (.ldc2_w 54, 3) := by decide +kernel
theorem dX2_combine_179 : decode cX2_combine 179 = .ok (.lcmp, 1) := by decide +kernel
theorem dX2_combine_180 : decode cX2_combine 180 = .ok (.ifCond .lt 16, 3) := by decide +kernel
theorem dX2_combine_183 : decode cX2_combine 183 = .ok (.lload 7, 2) := by decide +kernel
theorem dX2_combine_185 : decode cX2_combine 185 = .ok (.ldc2_w 56, 3) := by decide +kernel
theorem dX2_combine_188 : decode cX2_combine 188 = .ok (.lcmp, 1) := by decide +kernel
theorem dX2_combine_189 : decode cX2_combine 189 = .ok (.ifCond .gt 7, 3) := by decide +kernel
theorem dX2_combine_192 : decode cX2_combine 192 = .ok (.iconst 1, 1) := by decide +kernel
theorem dX2_combine_193 : decode cX2_combine 193 = .ok (.goto 4, 3) := by decide +kernel
theorem dX2_combine_196 : decode cX2_combine 196 = .ok (.iconst 0, 1) := by decide +kernel
theorem dX2_combine_197 : decode cX2_combine 197 = .ok (.ireturn, 1) := by decide +kernel
theorem inG_X2 : ∀ w ∈ wsX20, w ∈ tblG := tgs [237, 239] (by decide +kernel) (by decide +kernel)
theorem fl_X2_15 : Cond.fieldLink RX2 15 "LateGlass$Judge" "stack" "[J" ∈ tblG := tg 236 (by decide +kernel) (by decide +kernel)
theorem kl_X2_54 : Cond.constantLong RX2 54 (-1000000000) ∈ tblG := tg 850 (by decide +kernel) (by decide +kernel)
theorem kl_X2_56 : Cond.constantLong RX2 56 1000000000 ∈ tblG := tg 851 (by decide +kernel) (by decide +kernel)
