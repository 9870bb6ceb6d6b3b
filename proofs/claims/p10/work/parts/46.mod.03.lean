theorem dX12_countFor_0 : decode cX12_countFor 0 = .ok (.aload_n 0, 1) := by decide +kernel
theorem dX12_countFor_1 : decode cX12_countFor 1 = .ok (.iconst 0, 1) := by decide +kernel
theorem dX12_countFor_2 : decode cX12_countFor 2 = .ok (.putfield 113, 3) := by decide +kernel
theorem dX12_countFor_5 : decode cX12_countFor 5 = .ok (.aload_n 0, 1) := by decide +kernel
theorem dX12_countFor_6 : decode cX12_countFor 6 = .ok (.iload_n 1, 1) := by decide +kernel
theorem dX12_countFor_7 : decode cX12_countFor 7 = .ok (.iload_n 2, 1) := by decide +kernel
theorem dX12_countFor_8 : decode cX12_countFor 8 = .ok (.iload_n 3, 1) := by decide +kernel
theorem dX12_countFor_9 : decode cX12_countFor 9 = .ok (.iload 4, 2) := by decide +kernel
theorem dX12_countFor_11 : decode cX12_countFor 11 = .ok (.invokevirtual 428, 3) := by decide +kernel
theorem dX12_countFor_14 : decode cX12_countFor 14 = .ok (.iconst 0, 1) := by decide +kernel
theorem dX12_countFor_15 : decode cX12_countFor 15 = .ok (.istore 5, 2) := by decide +kernel
theorem dX12_countFor_17 : decode cX12_countFor 17 = .ok (.iload 5, 2) := by decide +kernel
theorem dX12_countFor_19 : decode cX12_countFor 19 = .ok (.ldc 88, 2) := by decide +kernel
theorem dX12_countFor_21 : decode cX12_countFor 21 = .ok (.if_icmp .ge 25, 3) := by decide +kernel
theorem dX12_countFor_24 : decode cX12_countFor 24 = .ok (.aload_n 0, 1) := by decide +kernel
theorem dX12_countFor_25 : decode cX12_countFor 25 = .ok (.getfield 89, 3) := by decide +kernel
theorem dX12_countFor_28 : decode cX12_countFor 28 = .ok (.iload 5, 2) := by decide +kernel
theorem dX12_countFor_30 : decode cX12_countFor 30 = .ok (.lconst 0, 1) := by decide +kernel
theorem dX12_countFor_31 : decode cX12_countFor 31 = .ok (.lastore, 1) := by decide +kernel
theorem dX12_countFor_32 : decode cX12_countFor 32 = .ok (.aload_n 0, 1) := by decide +kernel
theorem dX12_countFor_33 : decode cX12_countFor 33 = .ok (.getfield 92, 3) := by decide +kernel
theorem dX12_countFor_36 : decode cX12_countFor 36 = .ok (.iload 5, 2) := by decide +kernel
theorem dX12_countFor_38 : decode cX12_countFor 38 = .ok (.lconst 0, 1) := by decide +kernel
theorem dX12_countFor_39 : decode cX12_countFor 39 = .ok (.lastore, 1) := by decide +kernel
theorem dX12_countFor_40 : decode cX12_countFor 40 = .ok (.iinc 5 1, 3) := by decide +kernel
theorem dX12_countFor_43 : decode cX12_countFor 43 = .ok (.goto (-26), 3) := by decide +kernel
theorem dX12_countFor_46 : decode cX12_countFor 46 = .ok (.iconst 0, 1) := by decide +kernel
theorem dX12_countFor_47 : decode cX12_countFor 47 = .ok (.istore 5, 2) := by decide +kernel
theorem dX12_countFor_49 : decode cX12_countFor 49 = .ok (.iload 5, 2) := by decide +kernel
theorem dX12_countFor_51 : decode cX12_countFor 51 = .ok (.bipush 64, 2) := by decide +kernel
theorem dX12_countFor_53 : decode cX12_countFor 53 = .ok (.if_icmp .ge 110, 3) := by decide +kernel
theorem dX12_countFor_56 : decode cX12_countFor 56 = .ok (.aload_n 0, 1) := by decide +kernel
theorem dX12_countFor_57 : decode cX12_countFor 57 = .ok (.getfield 95, 3) := by decide +kernel
theorem dX12_countFor_60 : decode cX12_countFor 60 = .ok (.iload 5, 2) := by decide +kernel
theorem dX12_countFor_62 : decode cX12_countFor 62 = .ok (.iaload, 1) := by decide +kernel
theorem dX12_countFor_63 : decode cX12_countFor 63 = .ok (.bipush 64, 2) := by decide +kernel
theorem dX12_countFor_65 : decode cX12_countFor 65 = .ok (.if_icmp .ge 45, 3) := by decide +kernel
theorem dX12_countFor_68 : decode cX12_countFor 68 = .ok (.aload_n 0, 1) := by decide +kernel
theorem dX12_countFor_69 : decode cX12_countFor 69 = .ok (.getfield 13, 3) := by decide +kernel
theorem dX12_countFor_72 : decode cX12_countFor 72 = .ok (.bipush 6, 2) := by decide +kernel
theorem dX12_countFor_74 : decode cX12_countFor 74 = .ok (.iaload, 1) := by decide +kernel
theorem dX12_countFor_75 : decode cX12_countFor 75 = .ok (.iconst (-1), 1) := by decide +kernel
theorem dX12_countFor_76 : decode cX12_countFor 76 = .ok (.if_icmp .eq 15, 3) := by decide +kernel
theorem dX12_countFor_79 : decode cX12_countFor 79 = .ok (.aload_n 0, 1) := by decide +kernel
theorem dX12_countFor_80 : decode cX12_countFor 80 = .ok (.getfield 13, 3) := by decide +kernel
theorem dX12_countFor_83 : decode cX12_countFor 83 = .ok (.bipush 6, 2) := by decide +kernel
theorem dX12_countFor_85 : decode cX12_countFor 85 = .ok (.iaload, 1) := by decide +kernel
theorem dX12_countFor_86 : decode cX12_countFor 86 = .ok (.iload 5, 2) := by decide +kernel
theorem dX12_countFor_88 : decode cX12_countFor 88 = .ok (.if_icmp .ne 22, 3) := by decide +kernel
theorem dX12_countFor_91 : decode cX12_countFor 91 = .ok (.aload_n 0, 1) := by decide +kernel
theorem dX12_countFor_92 : decode cX12_countFor 92 = .ok (.getfield 89, 3) := by decide +kernel
theorem dX12_countFor_95 : decode cX12_countFor 95 = .ok (.bipush 32, 2) := by decide +kernel
theorem dX12_countFor_97 : decode cX12_countFor 97 = .ok (.iload 5, 2) := by decide +kernel
theorem dX12_countFor_99 : decode cX12_countFor 99 = .ok (.imul, 1) := by decide +kernel
theorem dX12_countFor_100 : decode cX12_countFor 100 = .ok (.aload_n 0, 1) := by decide +kernel
theorem dX12_countFor_101 : decode cX12_countFor 101 = .ok (.getfield 95, 3) := by decide +kernel
theorem dX12_countFor_104 : decode cX12_countFor 104 = .ok (.iload 5, 2) := by decide +kernel
theorem dX12_countFor_106 : decode cX12_countFor 106 = .ok (.iaload, 1) := by decide +kernel
theorem dX12_countFor_107 : decode cX12_countFor 107 = .ok (.iadd, 1) := by decide +kernel
theorem dX12_countFor_108 : decode cX12_countFor 108 = .ok (.lconst 1, 1) := by decide +kernel
theorem dX12_countFor_109 : decode cX12_countFor 109 = .ok (.lastore, 1) := by decide +kernel
theorem dX12_countFor_110 : decode cX12_countFor 110 = .ok (.iconst 0, 1) := by decide +kernel
theorem dX12_countFor_111 : decode cX12_countFor 111 = .ok (.istore 6, 2) := by decide +kernel
theorem dX12_countFor_113 : decode cX12_countFor 113 = .ok (.iload 6, 2) := by decide +kernel
theorem dX12_countFor_115 : decode cX12_countFor 115 = .ok (.bipush 32, 2) := by decide +kernel
theorem dX12_countFor_117 : decode cX12_countFor 117 = .ok (.if_icmp .ge 40, 3) := by decide +kernel
theorem dX12_countFor_120 : decode cX12_countFor 120 = .ok (.aload_n 0, 1) := by decide +kernel
theorem dX12_countFor_121 : decode cX12_countFor 121 = .ok (.getfield 92, 3) := by decide +kernel
theorem dX12_countFor_124 : decode cX12_countFor 124 = .ok (.bipush 32, 2) := by decide +kernel
theorem dX12_countFor_126 : decode cX12_countFor 126 = .ok (.sipush 1472, 3) := by decide +kernel
theorem dX12_countFor_129 : decode cX12_countFor 129 = .ok (.iload 5, 2) := by decide +kernel
theorem dX12_countFor_131 : decode cX12_countFor 131 = .ok (.iadd, 1) := by decide +kernel
theorem dX12_countFor_132 : decode cX12_countFor 132 = .ok (.imul, 1) := by decide +kernel
theorem dX12_countFor_133 : decode cX12_countFor 133 = .ok (.iload 6, 2) := by decide +kernel
theorem dX12_countFor_135 : decode cX12_countFor 135 = .ok (.iadd, 1) := by decide +kernel
theorem dX12_countFor_136 : decode cX12_countFor 136 = .ok (.iload 6, 2) := by decide +kernel
theorem dX12_countFor_138 : decode cX12_countFor 138 = .ok (.aload_n 0, 1) := by decide +kernel
theorem dX12_countFor_139 : decode cX12_countFor 139 = .ok (.getfield 422, 3) := by decide +kernel
theorem dX12_countFor_142 : decode cX12_countFor 142 = .ok (.if_icmp .ne 7, 3) := by decide +kernel
theorem dX12_countFor_145 : decode cX12_countFor 145 = .ok (.lconst 1, 1) := by decide +kernel
theorem dX12_countFor_146 : decode cX12_countFor 146 = .ok (.goto 4, 3) := by decide +kernel
theorem dX12_countFor_149 : decode cX12_countFor 149 = .ok (.lconst 0, 1) := by decide +kernel
theorem dX12_countFor_150 : decode cX12_countFor 150 = .ok (.lastore, 1) := by decide +kernel
theorem dX12_countFor_151 : decode cX12_countFor 151 = .ok (.iinc 6 1, 3) := by decide +kernel
theorem dX12_countFor_154 : decode cX12_countFor 154 = .ok (.goto (-41), 3) := by decide +kernel
theorem dX12_countFor_157 : decode cX12_countFor 157 = .ok (.iinc 5 1, 3) := by decide +kernel
theorem dX12_countFor_160 : decode cX12_countFor 160 = .ok (.goto (-111), 3) := by decide +kernel
theorem dX12_countFor_163 : decode cX12_countFor 163 = .ok (.iconst 0, 1) := by decide +kernel
theorem dX12_countFor_164 : decode cX12_countFor 164 = .ok (.istore 5, 2) := by decide +kernel
theorem dX12_countFor_166 : decode cX12_countFor 166 = .ok (.iload 5, 2) := by decide +kernel
theorem dX12_countFor_168 : decode cX12_countFor 168 = .ok (.bipush 23, 2) := by decide +kernel
theorem dX12_countFor_170 : decode cX12_countFor 170 = .ok (.if_icmp .ge 33, 3) := by decide +kernel
theorem dX12_countFor_173 : decode cX12_countFor 173 = .ok (.iconst 0, 1) := by decide +kernel
theorem dX12_countFor_174 : decode cX12_countFor 174 = .ok (.istore 6, 2) := by decide +kernel
theorem dX12_countFor_176 : decode cX12_countFor 176 = .ok (.iload 6, 2) := by decide +kernel
theorem dX12_countFor_178 : decode cX12_countFor 178 = .ok (.bipush 64, 2) := by decide +kernel
theorem dX12_countFor_180 : decode cX12_countFor 180 = .ok (.if_icmp .ge 17, 3) := by decide +kernel
theorem dX12_countFor_183 : decode cX12_countFor 183 = .ok (.aload_n 0, 1) := by decide +kernel
theorem dX12_countFor_184 : decode cX12_countFor 184 = .ok (.iload 5, 2) := by decide +kernel
theorem dX12_countFor_186 : decode cX12_countFor 186 = .ok (.iload 6, 2) := by decide +kernel
theorem dX12_countFor_188 : decode cX12_countFor 188 = .ok (.invokevirtual 431, 3) := by decide +kernel
theorem dX12_countFor_191 : decode cX12_countFor 191 = .ok (.iinc 6 1, 3) := by decide +kernel
theorem dX12_countFor_194 : decode cX12_countFor 194 = .ok (.goto (-18), 3) := by decide +kernel
theorem dX12_countFor_197 : decode cX12_countFor 197 = .ok (.iinc 5 1, 3) := by decide +kernel
theorem dX12_countFor_200 : decode cX12_countFor 200 = .ok (.goto (-34), 3) := by decide +kernel
theorem dX12_countFor_203 : decode cX12_countFor 203 = .ok (.bipush 22, 2) := by decide +kernel
theorem dX12_countFor_205 : decode cX12_countFor 205 = .ok (.istore 5, 2) := by decide +kernel
theorem dX12_countFor_207 : decode cX12_countFor 207 = .ok (.iload 5, 2) := by decide +kernel
theorem dX12_countFor_209 : decode cX12_countFor 209 = .ok (.ifCond .lt 33, 3) := by decide +kernel
theorem dX12_countFor_212 : decode cX12_countFor 212 = .ok (.iconst 0, 1) := by decide +kernel
theorem dX12_countFor_213 : decode cX12_countFor 213 = .ok (.istore 6, 2) := by decide +kernel
theorem dX12_countFor_215 : decode cX12_countFor 215 = .ok (.iload 6, 2) := by decide +kernel
theorem dX12_countFor_217 : decode cX12_countFor 217 = .ok (.bipush 64, 2) := by decide +kernel
theorem dX12_countFor_219 : decode cX12_countFor 219 = .ok (.if_icmp .ge 17, 3) := by decide +kernel
theorem dX12_countFor_222 : decode cX12_countFor 222 = .ok (.aload_n 0, 1) := by decide +kernel
theorem dX12_countFor_223 : decode cX12_countFor 223 = .ok (.iload 5, 2) := by decide +kernel
theorem dX12_countFor_225 : decode cX12_countFor 225 = .ok (.iload 6, 2) := by decide +kernel
theorem dX12_countFor_227 : decode cX12_countFor 227 = .ok (.invokevirtual 434, 3) := by decide +kernel
theorem dX12_countFor_230 : decode cX12_countFor 230 = .ok (.iinc 6 1, 3) := by decide +kernel
theorem dX12_countFor_233 : decode cX12_countFor 233 = .ok (.goto (-18), 3) := by decide +kernel
theorem dX12_countFor_236 : decode cX12_countFor 236 = .ok (.iinc 5 (-1), 3) := by decide +kernel
theorem dX12_countFor_239 : decode cX12_countFor 239 = .ok (.goto (-32), 3) := by decide +kernel
theorem dX12_countFor_242 : decode cX12_countFor 242 = .ok (.return_, 1) := by decide +kernel
theorem ml_X12_428 : Cond.methodLink RX12 428 yX12_findMeets ∈ tblG := tg 1720 (by decide +kernel) (by decide +kernel)
theorem im_X12_findMeets : Cond.instanceMethod yX12_findMeets ∈ tblG := tg 1722 (by decide +kernel) (by decide +kernel)
theorem se_X12_findMeets : Cond.selects RX12 yX12_findMeets yX12_findMeets ∈ tblG := tg 77 (by decide +kernel) (by decide +kernel)
theorem cd_X12_findMeets : Cond.code yX12_findMeets cX12_findMeets 10 none ∈ tblG := tg 1723 (by decide +kernel) (by decide +kernel)
theorem gW_X12_findMeets : GoodIn tblG (wsG yX12_findMeets cX12_findMeets 10 none) := tgi cd_X12_findMeets
theorem gV_X12_428 : GoodIn tblG (wsV RX12 428 RX12 yX12_findMeets (wsG yX12_findMeets cX12_findMeets 10 none)) := tgV ml_X12_428 im_X12_findMeets se_X12_findMeets ini_X12 gW_X12_findMeets
theorem hv_X12_findMeets : yX12_findMeets.cls = RX12 ∧ yX12_findMeets.cls ≠ "java/lang/invoke/MethodHandle" ∧ yX12_findMeets.cls ≠ "java/lang/invoke/VarHandle" ∧ (parseMethodDescriptor yX12_findMeets.desc).map (fun d => d.parameters.length) = some 4 := by decide +kernel
theorem ki_X12_88 : Cond.constant RX12 88 49152 ∈ tblG := tg 1202 (by decide +kernel) (by decide +kernel)
theorem ml_X12_434 : Cond.methodLink RX12 434 yX12_comesFrom ∈ tblG := tg 1732 (by decide +kernel) (by decide +kernel)
theorem im_X12_comesFrom : Cond.instanceMethod yX12_comesFrom ∈ tblG := tg 1734 (by decide +kernel) (by decide +kernel)
theorem se_X12_comesFrom : Cond.selects RX12 yX12_comesFrom yX12_comesFrom ∈ tblG := tg 80 (by decide +kernel) (by decide +kernel)
theorem cd_X12_comesFrom : Cond.code yX12_comesFrom cX12_comesFrom 6 none ∈ tblG := tg 1735 (by decide +kernel) (by decide +kernel)
theorem gW_X12_comesFrom : GoodIn tblG (wsG yX12_comesFrom cX12_comesFrom 6 none) := tgi cd_X12_comesFrom
theorem gV_X12_434 : GoodIn tblG (wsV RX12 434 RX12 yX12_comesFrom (wsG yX12_comesFrom cX12_comesFrom 6 none)) := tgV ml_X12_434 im_X12_comesFrom se_X12_comesFrom ini_X12 gW_X12_comesFrom
theorem hv_X12_comesFrom : yX12_comesFrom.cls = RX12 ∧ yX12_comesFrom.cls ≠ "java/lang/invoke/MethodHandle" ∧ yX12_comesFrom.cls ≠ "java/lang/invoke/VarHandle" ∧ (parseMethodDescriptor yX12_comesFrom.desc).map (fun d => d.parameters.length) = some 2 := by decide +kernel
theorem ml_X12_431 : Cond.methodLink RX12 431 yX12_goesOn ∈ tblG := tg 1724 (by decide +kernel) (by decide +kernel)
theorem im_X12_goesOn : Cond.instanceMethod yX12_goesOn ∈ tblG := tg 1726 (by decide +kernel) (by decide +kernel)
theorem se_X12_goesOn : Cond.selects RX12 yX12_goesOn yX12_goesOn ∈ tblG := tg 78 (by decide +kernel) (by decide +kernel)
theorem cd_X12_goesOn : Cond.code yX12_goesOn cX12_goesOn 6 none ∈ tblG := tg 1727 (by decide +kernel) (by decide +kernel)
theorem gW_X12_goesOn : GoodIn tblG (wsG yX12_goesOn cX12_goesOn 6 none) := tgi cd_X12_goesOn
theorem gV_X12_431 : GoodIn tblG (wsV RX12 431 RX12 yX12_goesOn (wsG yX12_goesOn cX12_goesOn 6 none)) := tgV ml_X12_431 im_X12_goesOn se_X12_goesOn ini_X12 gW_X12_goesOn
theorem hv_X12_goesOn : yX12_goesOn.cls = RX12 ∧ yX12_goesOn.cls ≠ "java/lang/invoke/MethodHandle" ∧ yX12_goesOn.cls ≠ "java/lang/invoke/VarHandle" ∧ (parseMethodDescriptor yX12_goesOn.desc).map (fun d => d.parameters.length) = some 2 := by decide +kernel
