theorem dX4_readTest_0 : decode cX4_readTest 0 = .ok (.aload_n 0, 1) := by decide +kernel
theorem dX4_readTest_1 : decode cX4_readTest 1 = .ok (.iload_n 1, 1) := by decide +kernel
theorem dX4_readTest_2 : decode cX4_readTest 2 = .ok (.invokevirtual 83, 3) := by decide +kernel
theorem dX4_readTest_5 : decode cX4_readTest 5 = .ok (.ifCond .ne 5, 3) := by decide +kernel
theorem dX4_readTest_8 : decode cX4_readTest 8 = .ok (.iconst 0, 1) := by decide +kernel
theorem dX4_readTest_9 : decode cX4_readTest 9 = .ok (.ireturn, 1) := by decide +kernel
theorem dX4_readTest_10 : decode cX4_readTest 10 = .ok (.iconst (-1), 1) := by decide +kernel
theorem dX4_readTest_11 : decode cX4_readTest 11 = .ok (.istore_n 2, 1) := by decide +kernel
theorem dX4_readTest_12 : decode cX4_readTest 12 = .ok (.iconst 0, 1) := by decide +kernel
theorem dX4_readTest_13 : decode cX4_readTest 13 = .ok (.istore_n 3, 1) := by decide +kernel
theorem dX4_readTest_14 : decode cX4_readTest 14 = .ok (.iload_n 3, 1) := by decide +kernel
theorem dX4_readTest_15 : decode cX4_readTest 15 = .ok (.sipush 400, 3) := by decide +kernel
theorem dX4_readTest_18 : decode cX4_readTest 18 = .ok (.if_icmp .ge 104, 3) := by decide +kernel
theorem dX4_readTest_21 : decode cX4_readTest 21 = .ok (.aload_n 0, 1) := by decide +kernel
theorem dX4_readTest_22 : decode cX4_readTest 22 = .ok (.sipush 261, 3) := by decide +kernel
theorem dX4_readTest_25 : decode cX4_readTest 25 = .ok (.invokevirtual 49, 3) := by decide +kernel
theorem dX4_readTest_28 : decode cX4_readTest 28 = .ok (.ifCond .ne 13, 3) := by decide +kernel
theorem dX4_readTest_31 : decode cX4_readTest 31 = .ok (.aload_n 0, 1) := by decide +kernel
theorem dX4_readTest_32 : decode cX4_readTest 32 = .ok (.sipush 262, 3) := by decide +kernel
theorem dX4_readTest_35 : decode cX4_readTest 35 = .ok (.invokevirtual 49, 3) := by decide +kernel
theorem dX4_readTest_38 : decode cX4_readTest 38 = .ok (.ifCond .eq 84, 3) := by decide +kernel
theorem dX4_readTest_41 : decode cX4_readTest 41 = .ok (.aload_n 0, 1) := by decide +kernel
theorem dX4_readTest_42 : decode cX4_readTest 42 = .ok (.sipush 261, 3) := by decide +kernel
theorem dX4_readTest_45 : decode cX4_readTest 45 = .ok (.invokevirtual 49, 3) := by decide +kernel
theorem dX4_readTest_48 : decode cX4_readTest 48 = .ok (.istore 4, 2) := by decide +kernel
theorem dX4_readTest_50 : decode cX4_readTest 50 = .ok (.aload_n 0, 1) := by decide +kernel
theorem dX4_readTest_51 : decode cX4_readTest 51 = .ok (.dup, 1) := by decide +kernel
theorem dX4_readTest_52 : decode cX4_readTest 52 = .ok (.getfield 42, 3) := by decide +kernel
theorem dX4_readTest_55 : decode cX4_readTest 55 = .ok (.iconst 1, 1) := by decide +kernel
theorem dX4_readTest_56 : decode cX4_readTest 56 = .ok (.iadd, 1) := by decide +kernel
theorem dX4_readTest_57 : decode cX4_readTest 57 = .ok (.putfield 42, 3) := by decide +kernel
theorem dX4_readTest_60 : decode cX4_readTest 60 = .ok (.iload 4, 2) := by decide +kernel
theorem dX4_readTest_62 : decode cX4_readTest 62 = .ok (.ifCond .eq 8, 3) := by decide +kernel
theorem dX4_readTest_65 : decode cX4_readTest 65 = .ok (.aload_n 0, 1) := by decide +kernel
theorem dX4_readTest_66 : decode cX4_readTest 66 = .ok (.iload_n 2, 1) := by decide +kernel
theorem dX4_readTest_67 : decode cX4_readTest 67 = .ok (.invokevirtual 86, 3) := by decide +kernel
theorem dX4_readTest_70 : decode cX4_readTest 70 = .ok (.aload_n 0, 1) := by decide +kernel
theorem dX4_readTest_71 : decode cX4_readTest 71 = .ok (.iload 4, 2) := by decide +kernel
theorem dX4_readTest_73 : decode cX4_readTest 73 = .ok (.ifCond .eq 8, 3) := by decide +kernel
theorem dX4_readTest_76 : decode cX4_readTest 76 = .ok (.bipush 11, 2) := by decide +kernel
theorem dX4_readTest_78 : decode cX4_readTest 78 = .ok (.goto 5, 3) := by decide +kernel
theorem dX4_readTest_81 : decode cX4_readTest 81 = .ok (.bipush 12, 2) := by decide +kernel
theorem dX4_readTest_83 : decode cX4_readTest 83 = .ok (.iconst 0, 1) := by decide +kernel
theorem dX4_readTest_84 : decode cX4_readTest 84 = .ok (.invokevirtual 79, 3) := by decide +kernel
theorem dX4_readTest_87 : decode cX4_readTest 87 = .ok (.istore 5, 2) := by decide +kernel
theorem dX4_readTest_89 : decode cX4_readTest 89 = .ok (.aload_n 0, 1) := by decide +kernel
theorem dX4_readTest_90 : decode cX4_readTest 90 = .ok (.iload_n 1, 1) := by decide +kernel
theorem dX4_readTest_91 : decode cX4_readTest 91 = .ok (.invokevirtual 83, 3) := by decide +kernel
theorem dX4_readTest_94 : decode cX4_readTest 94 = .ok (.ifCond .ne 5, 3) := by decide +kernel
theorem dX4_readTest_97 : decode cX4_readTest 97 = .ok (.iconst 0, 1) := by decide +kernel
theorem dX4_readTest_98 : decode cX4_readTest 98 = .ok (.ireturn, 1) := by decide +kernel
theorem dX4_readTest_99 : decode cX4_readTest 99 = .ok (.iload 4, 2) := by decide +kernel
theorem dX4_readTest_101 : decode cX4_readTest 101 = .ok (.ifCond .eq 9, 3) := by decide +kernel
theorem dX4_readTest_104 : decode cX4_readTest 104 = .ok (.iload 5, 2) := by decide +kernel
theorem dX4_readTest_106 : decode cX4_readTest 106 = .ok (.istore_n 2, 1) := by decide +kernel
theorem dX4_readTest_107 : decode cX4_readTest 107 = .ok (.goto 9, 3) := by decide +kernel
theorem dX4_readTest_110 : decode cX4_readTest 110 = .ok (.aload_n 0, 1) := by decide +kernel
theorem dX4_readTest_111 : decode cX4_readTest 111 = .ok (.iload 5, 2) := by decide +kernel
theorem dX4_readTest_113 : decode cX4_readTest 113 = .ok (.invokevirtual 86, 3) := by decide +kernel
theorem dX4_readTest_116 : decode cX4_readTest 116 = .ok (.iinc 3 1, 3) := by decide +kernel
theorem dX4_readTest_119 : decode cX4_readTest 119 = .ok (.goto (-105), 3) := by decide +kernel
theorem dX4_readTest_122 : decode cX4_readTest 122 = .ok (.aload_n 0, 1) := by decide +kernel
theorem dX4_readTest_123 : decode cX4_readTest 123 = .ok (.iload_n 2, 1) := by decide +kernel
theorem dX4_readTest_124 : decode cX4_readTest 124 = .ok (.invokevirtual 86, 3) := by decide +kernel
theorem dX4_readTest_127 : decode cX4_readTest 127 = .ok (.iconst 1, 1) := by decide +kernel
theorem dX4_readTest_128 : decode cX4_readTest 128 = .ok (.ireturn, 1) := by decide +kernel
theorem ml_X4_83 : Cond.methodLink RX4 83 yX4_readPlain ∈ tblG := tg 748 (by decide +kernel) (by decide +kernel)
theorem im_X4_readPlain : Cond.instanceMethod yX4_readPlain ∈ tblG := tg 750 (by decide +kernel) (by decide +kernel)
theorem se_X4_readPlain : Cond.selects RX4 yX4_readPlain yX4_readPlain ∈ tblG := tg 11 (by decide +kernel) (by decide +kernel)
theorem cd_X4_readPlain : Cond.code yX4_readPlain cX4_readPlain 4 (some .boolean) ∈ tblG := tg 751 (by decide +kernel) (by decide +kernel)
theorem gW_X4_readPlain : GoodIn tblG (wsG yX4_readPlain cX4_readPlain 4 (some .boolean)) := tgi cd_X4_readPlain
theorem gV_X4_83 : GoodIn tblG (wsV RX4 83 RX4 yX4_readPlain (wsG yX4_readPlain cX4_readPlain 4 (some .boolean))) := tgV ml_X4_83 im_X4_readPlain se_X4_readPlain ini_X4 gW_X4_readPlain
theorem hv_X4_readPlain : yX4_readPlain.cls = RX4 ∧ yX4_readPlain.cls ≠ "java/lang/invoke/MethodHandle" ∧ yX4_readPlain.cls ≠ "java/lang/invoke/VarHandle" ∧ (parseMethodDescriptor yX4_readPlain.desc).map (fun d => d.parameters.length) = some 1 := by decide +kernel
theorem ml_X4_86 : Cond.methodLink RX4 86 yX4_jumpHere ∈ tblG := tg 752 (by decide +kernel) (by decide +kernel)
theorem im_X4_jumpHere : Cond.instanceMethod yX4_jumpHere ∈ tblG := tg 754 (by decide +kernel) (by decide +kernel)
theorem se_X4_jumpHere : Cond.selects RX4 yX4_jumpHere yX4_jumpHere ∈ tblG := tg 12 (by decide +kernel) (by decide +kernel)
theorem cd_X4_jumpHere : Cond.code yX4_jumpHere cX4_jumpHere 2 none ∈ tblG := tg 755 (by decide +kernel) (by decide +kernel)
theorem gW_X4_jumpHere : GoodIn tblG (wsG yX4_jumpHere cX4_jumpHere 2 none) := tgi cd_X4_jumpHere
theorem gV_X4_86 : GoodIn tblG (wsV RX4 86 RX4 yX4_jumpHere (wsG yX4_jumpHere cX4_jumpHere 2 none)) := tgV ml_X4_86 im_X4_jumpHere se_X4_jumpHere ini_X4 gW_X4_jumpHere
theorem hv_X4_jumpHere : yX4_jumpHere.cls = RX4 ∧ yX4_jumpHere.cls ≠ "java/lang/invoke/MethodHandle" ∧ yX4_jumpHere.cls ≠ "java/lang/invoke/VarHandle" ∧ (parseMethodDescriptor yX4_jumpHere.desc).map (fun d => d.parameters.length) = some 1 := by decide +kernel
