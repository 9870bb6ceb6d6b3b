theorem dX4_readPlain_0 : decode cX4_readPlain 0 = .ok (.iconst 0, 1) := by decide +kernel
theorem dX4_readPlain_1 : decode cX4_readPlain 1 = .ok (.istore_n 2, 1) := by decide +kernel
theorem dX4_readPlain_2 : decode cX4_readPlain 2 = .ok (.iconst 0, 1) := by decide +kernel
theorem dX4_readPlain_3 : decode cX4_readPlain 3 = .ok (.istore_n 3, 1) := by decide +kernel
theorem dX4_readPlain_4 : decode cX4_readPlain 4 = .ok (.iload_n 3, 1) := by decide +kernel
theorem dX4_readPlain_5 : decode cX4_readPlain 5 = .ok (.sipush 400, 3) := by decide +kernel
theorem dX4_readPlain_8 : decode cX4_readPlain 8 = .ok (.if_icmp .ge 29, 3) := by decide +kernel
theorem dX4_readPlain_11 : decode cX4_readPlain 11 = .ok (.aload_n 0, 1) := by decide +kernel
theorem dX4_readPlain_12 : decode cX4_readPlain 12 = .ok (.sipush 263, 3) := by decide +kernel
theorem dX4_readPlain_15 : decode cX4_readPlain 15 = .ok (.invokevirtual 63, 3) := by decide +kernel
theorem dX4_readPlain_18 : decode cX4_readPlain 18 = .ok (.ifCond .eq 19, 3) := by decide +kernel
theorem dX4_readPlain_21 : decode cX4_readPlain 21 = .ok (.iload_n 2, 1) := by decide +kernel
theorem dX4_readPlain_22 : decode cX4_readPlain 22 = .ok (.ifCond .ne 7, 3) := by decide +kernel
theorem dX4_readPlain_25 : decode cX4_readPlain 25 = .ok (.iconst 1, 1) := by decide +kernel
theorem dX4_readPlain_26 : decode cX4_readPlain 26 = .ok (.goto 4, 3) := by decide +kernel
theorem dX4_readPlain_29 : decode cX4_readPlain 29 = .ok (.iconst 0, 1) := by decide +kernel
theorem dX4_readPlain_30 : decode cX4_readPlain 30 = .ok (.istore_n 2, 1) := by decide +kernel
theorem dX4_readPlain_31 : decode cX4_readPlain 31 = .ok (.iinc 3 1, 3) := by decide +kernel
theorem dX4_readPlain_34 : decode cX4_readPlain 34 = .ok (.goto (-30), 3) := by decide +kernel
theorem dX4_readPlain_37 : decode cX4_readPlain 37 = .ok (.aload_n 0, 1) := by decide +kernel
theorem dX4_readPlain_38 : decode cX4_readPlain 38 = .ok (.bipush 40, 2) := by decide +kernel
theorem dX4_readPlain_40 : decode cX4_readPlain 40 = .ok (.invokevirtual 49, 3) := by decide +kernel
theorem dX4_readPlain_43 : decode cX4_readPlain 43 = .ok (.ifCond .eq 39, 3) := by decide +kernel
theorem dX4_readPlain_46 : decode cX4_readPlain 46 = .ok (.iload_n 1, 1) := by decide +kernel
theorem dX4_readPlain_47 : decode cX4_readPlain 47 = .ok (.bipush 8, 2) := by decide +kernel
theorem dX4_readPlain_49 : decode cX4_readPlain 49 = .ok (.if_icmp .ge 31, 3) := by decide +kernel
theorem dX4_readPlain_52 : decode cX4_readPlain 52 = .ok (.aload_n 0, 1) := by decide +kernel
theorem dX4_readPlain_53 : decode cX4_readPlain 53 = .ok (.bipush 40, 2) := by decide +kernel
theorem dX4_readPlain_55 : decode cX4_readPlain 55 = .ok (.invokevirtual 63, 3) := by decide +kernel
theorem dX4_readPlain_58 : decode cX4_readPlain 58 = .ok (.ifCond .eq 22, 3) := by decide +kernel
theorem dX4_readPlain_61 : decode cX4_readPlain 61 = .ok (.aload_n 0, 1) := by decide +kernel
theorem dX4_readPlain_62 : decode cX4_readPlain 62 = .ok (.iload_n 1, 1) := by decide +kernel
theorem dX4_readPlain_63 : decode cX4_readPlain 63 = .ok (.iconst 1, 1) := by decide +kernel
theorem dX4_readPlain_64 : decode cX4_readPlain 64 = .ok (.iadd, 1) := by decide +kernel
theorem dX4_readPlain_65 : decode cX4_readPlain 65 = .ok (.invokevirtual 76, 3) := by decide +kernel
theorem dX4_readPlain_68 : decode cX4_readPlain 68 = .ok (.ifCond .eq 12, 3) := by decide +kernel
theorem dX4_readPlain_71 : decode cX4_readPlain 71 = .ok (.aload_n 0, 1) := by decide +kernel
theorem dX4_readPlain_72 : decode cX4_readPlain 72 = .ok (.bipush 41, 2) := by decide +kernel
theorem dX4_readPlain_74 : decode cX4_readPlain 74 = .ok (.invokevirtual 63, 3) := by decide +kernel
theorem dX4_readPlain_77 : decode cX4_readPlain 77 = .ok (.ifCond .ne 93, 3) := by decide +kernel
theorem dX4_readPlain_80 : decode cX4_readPlain 80 = .ok (.iconst 0, 1) := by decide +kernel
theorem dX4_readPlain_81 : decode cX4_readPlain 81 = .ok (.ireturn, 1) := by decide +kernel
theorem dX4_readPlain_82 : decode cX4_readPlain 82 = .ok (.aload_n 0, 1) := by decide +kernel
theorem dX4_readPlain_83 : decode cX4_readPlain 83 = .ok (.iload_n 1, 1) := by decide +kernel
theorem dX4_readPlain_84 : decode cX4_readPlain 84 = .ok (.invokevirtual 73, 3) := by decide +kernel
theorem dX4_readPlain_87 : decode cX4_readPlain 87 = .ok (.ifCond .ne 5, 3) := by decide +kernel
theorem dX4_readPlain_90 : decode cX4_readPlain 90 = .ok (.iconst 0, 1) := by decide +kernel
theorem dX4_readPlain_91 : decode cX4_readPlain 91 = .ok (.ireturn, 1) := by decide +kernel
theorem dX4_readPlain_92 : decode cX4_readPlain 92 = .ok (.aload_n 0, 1) := by decide +kernel
theorem dX4_readPlain_93 : decode cX4_readPlain 93 = .ok (.bipush 60, 2) := by decide +kernel
theorem dX4_readPlain_95 : decode cX4_readPlain 95 = .ok (.invokevirtual 49, 3) := by decide +kernel
theorem dX4_readPlain_98 : decode cX4_readPlain 98 = .ok (.ifCond .eq 8, 3) := by decide +kernel
theorem dX4_readPlain_101 : decode cX4_readPlain 101 = .ok (.bipush 6, 2) := by decide +kernel
theorem dX4_readPlain_103 : decode cX4_readPlain 103 = .ok (.goto 32, 3) := by decide +kernel
theorem dX4_readPlain_106 : decode cX4_readPlain 106 = .ok (.aload_n 0, 1) := by decide +kernel
theorem dX4_readPlain_107 : decode cX4_readPlain 107 = .ok (.bipush 62, 2) := by decide +kernel
theorem dX4_readPlain_109 : decode cX4_readPlain 109 = .ok (.invokevirtual 49, 3) := by decide +kernel
theorem dX4_readPlain_112 : decode cX4_readPlain 112 = .ok (.ifCond .eq 8, 3) := by decide +kernel
theorem dX4_readPlain_115 : decode cX4_readPlain 115 = .ok (.bipush 7, 2) := by decide +kernel
theorem dX4_readPlain_117 : decode cX4_readPlain 117 = .ok (.goto 18, 3) := by decide +kernel
theorem dX4_readPlain_120 : decode cX4_readPlain 120 = .ok (.aload_n 0, 1) := by decide +kernel
theorem dX4_readPlain_121 : decode cX4_readPlain 121 = .ok (.bipush 61, 2) := by decide +kernel
theorem dX4_readPlain_123 : decode cX4_readPlain 123 = .ok (.invokevirtual 49, 3) := by decide +kernel
theorem dX4_readPlain_126 : decode cX4_readPlain 126 = .ok (.ifCond .eq 8, 3) := by decide +kernel
theorem dX4_readPlain_129 : decode cX4_readPlain 129 = .ok (.bipush 8, 2) := by decide +kernel
theorem dX4_readPlain_131 : decode cX4_readPlain 131 = .ok (.goto 4, 3) := by decide +kernel
theorem dX4_readPlain_134 : decode cX4_readPlain 134 = .ok (.iconst (-1), 1) := by decide +kernel
theorem dX4_readPlain_135 : decode cX4_readPlain 135 = .ok (.istore_n 3, 1) := by decide +kernel
theorem dX4_readPlain_136 : decode cX4_readPlain 136 = .ok (.iload_n 3, 1) := by decide +kernel
theorem dX4_readPlain_137 : decode cX4_readPlain 137 = .ok (.iconst (-1), 1) := by decide +kernel
theorem dX4_readPlain_138 : decode cX4_readPlain 138 = .ok (.if_icmp .ne 5, 3) := by decide +kernel
theorem dX4_readPlain_141 : decode cX4_readPlain 141 = .ok (.iconst 0, 1) := by decide +kernel
theorem dX4_readPlain_142 : decode cX4_readPlain 142 = .ok (.ireturn, 1) := by decide +kernel
theorem dX4_readPlain_143 : decode cX4_readPlain 143 = .ok (.aload_n 0, 1) := by decide +kernel
theorem dX4_readPlain_144 : decode cX4_readPlain 144 = .ok (.dup, 1) := by decide +kernel
theorem dX4_readPlain_145 : decode cX4_readPlain 145 = .ok (.getfield 42, 3) := by decide +kernel
theorem dX4_readPlain_148 : decode cX4_readPlain 148 = .ok (.iconst 1, 1) := by decide +kernel
theorem dX4_readPlain_149 : decode cX4_readPlain 149 = .ok (.iadd, 1) := by decide +kernel
theorem dX4_readPlain_150 : decode cX4_readPlain 150 = .ok (.putfield 42, 3) := by decide +kernel
theorem dX4_readPlain_153 : decode cX4_readPlain 153 = .ok (.aload_n 0, 1) := by decide +kernel
theorem dX4_readPlain_154 : decode cX4_readPlain 154 = .ok (.iload_n 1, 1) := by decide +kernel
theorem dX4_readPlain_155 : decode cX4_readPlain 155 = .ok (.invokevirtual 73, 3) := by decide +kernel
theorem dX4_readPlain_158 : decode cX4_readPlain 158 = .ok (.ifCond .ne 5, 3) := by decide +kernel
theorem dX4_readPlain_161 : decode cX4_readPlain 161 = .ok (.iconst 0, 1) := by decide +kernel
theorem dX4_readPlain_162 : decode cX4_readPlain 162 = .ok (.ireturn, 1) := by decide +kernel
theorem dX4_readPlain_163 : decode cX4_readPlain 163 = .ok (.aload_n 0, 1) := by decide +kernel
theorem dX4_readPlain_164 : decode cX4_readPlain 164 = .ok (.iload_n 3, 1) := by decide +kernel
theorem dX4_readPlain_165 : decode cX4_readPlain 165 = .ok (.iconst 0, 1) := by decide +kernel
theorem dX4_readPlain_166 : decode cX4_readPlain 166 = .ok (.invokevirtual 79, 3) := by decide +kernel
theorem dX4_readPlain_169 : decode cX4_readPlain 169 = .ok (.pop, 1) := by decide +kernel
theorem dX4_readPlain_170 : decode cX4_readPlain 170 = .ok (.iload_n 2, 1) := by decide +kernel
theorem dX4_readPlain_171 : decode cX4_readPlain 171 = .ok (.ifCond .eq 11, 3) := by decide +kernel
theorem dX4_readPlain_174 : decode cX4_readPlain 174 = .ok (.aload_n 0, 1) := by decide +kernel
theorem dX4_readPlain_175 : decode cX4_readPlain 175 = .ok (.bipush 9, 2) := by decide +kernel
theorem dX4_readPlain_177 : decode cX4_readPlain 177 = .ok (.iconst 0, 1) := by decide +kernel
theorem dX4_readPlain_178 : decode cX4_readPlain 178 = .ok (.invokevirtual 79, 3) := by decide +kernel
theorem dX4_readPlain_181 : decode cX4_readPlain 181 = .ok (.pop, 1) := by decide +kernel
theorem dX4_readPlain_182 : decode cX4_readPlain 182 = .ok (.iconst 1, 1) := by decide +kernel
theorem dX4_readPlain_183 : decode cX4_readPlain 183 = .ok (.ireturn, 1) := by decide +kernel
theorem ml_X4_76 : Cond.methodLink RX4 76 yX4_readTest ∈ tblG := tg 744 (by decide +kernel) (by decide +kernel)
theorem im_X4_readTest : Cond.instanceMethod yX4_readTest ∈ tblG := tg 746 (by decide +kernel) (by decide +kernel)
theorem se_X4_readTest : Cond.selects RX4 yX4_readTest yX4_readTest ∈ tblG := tg 10 (by decide +kernel) (by decide +kernel)
theorem cd_X4_readTest : Cond.code yX4_readTest cX4_readTest 6 (some .boolean) ∈ tblG := tg 747 (by decide +kernel) (by decide +kernel)
theorem gW_X4_readTest : GoodIn tblG (wsG yX4_readTest cX4_readTest 6 (some .boolean)) := tgi cd_X4_readTest
theorem gV_X4_76 : GoodIn tblG (wsV RX4 76 RX4 yX4_readTest (wsG yX4_readTest cX4_readTest 6 (some .boolean))) := tgV ml_X4_76 im_X4_readTest se_X4_readTest ini_X4 gW_X4_readTest
theorem hv_X4_readTest : yX4_readTest.cls = RX4 ∧ yX4_readTest.cls ≠ "java/lang/invoke/MethodHandle" ∧ yX4_readTest.cls ≠ "java/lang/invoke/VarHandle" ∧ (parseMethodDescriptor yX4_readTest.desc).map (fun d => d.parameters.length) = some 1 := by decide +kernel
