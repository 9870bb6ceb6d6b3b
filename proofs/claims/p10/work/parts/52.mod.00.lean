theorem dX12_readExpression_0 : decode cX12_readExpression 0 = .ok (.aload_n 0, 1) := by decide +kernel
theorem dX12_readExpression_1 : decode cX12_readExpression 1 = .ok (.iconst 0, 1) := by decide +kernel
theorem dX12_readExpression_2 : decode cX12_readExpression 2 = .ok (.putfield 240, 3) := by decide +kernel
theorem dX12_readExpression_5 : decode cX12_readExpression 5 = .ok (.aload_n 0, 1) := by decide +kernel
theorem dX12_readExpression_6 : decode cX12_readExpression 6 = .ok (.iconst 0, 1) := by decide +kernel
theorem dX12_readExpression_7 : decode cX12_readExpression 7 = .ok (.putfield 258, 3) := by decide +kernel
theorem dX12_readExpression_10 : decode cX12_readExpression 10 = .ok (.iload_n 1, 1) := by decide +kernel
theorem dX12_readExpression_11 : decode cX12_readExpression 11 = .ok (.ifCond .eq 7, 3) := by decide +kernel
theorem dX12_readExpression_14 : decode cX12_readExpression 14 = .ok (.iconst 0, 1) := by decide +kernel
theorem dX12_readExpression_15 : decode cX12_readExpression 15 = .ok (.goto 4, 3) := by decide +kernel
theorem dX12_readExpression_18 : decode cX12_readExpression 18 = .ok (.iconst 1, 1) := by decide +kernel
theorem dX12_readExpression_19 : decode cX12_readExpression 19 = .ok (.istore_n 2, 1) := by decide +kernel
theorem dX12_readExpression_20 : decode cX12_readExpression 20 = .ok (.aload_n 0, 1) := by decide +kernel
theorem dX12_readExpression_21 : decode cX12_readExpression 21 = .ok (.getfield 205, 3) := by decide +kernel
theorem dX12_readExpression_24 : decode cX12_readExpression 24 = .ok (.ifCond .ne 52, 3) := by decide +kernel
theorem dX12_readExpression_27 : decode cX12_readExpression 27 = .ok (.iload_n 2, 1) := by decide +kernel
theorem dX12_readExpression_28 : decode cX12_readExpression 28 = .ok (.iconst 4, 1) := by decide +kernel
theorem dX12_readExpression_29 : decode cX12_readExpression 29 = .ok (.if_icmp .eq 47, 3) := by decide +kernel
theorem dX12_readExpression_32 : decode cX12_readExpression 32 = .ok (.iload_n 2, 1) := by decide +kernel
theorem dX12_readExpression_33 : decode cX12_readExpression 33 = .ok (.ifCond .ne 10, 3) := by decide +kernel
theorem dX12_readExpression_36 : decode cX12_readExpression 36 = .ok (.aload_n 0, 1) := by decide +kernel
theorem dX12_readExpression_37 : decode cX12_readExpression 37 = .ok (.invokevirtual 302, 3) := by decide +kernel
theorem dX12_readExpression_40 : decode cX12_readExpression 40 = .ok (.goto 32, 3) := by decide +kernel
theorem dX12_readExpression_43 : decode cX12_readExpression 43 = .ok (.iload_n 2, 1) := by decide +kernel
theorem dX12_readExpression_44 : decode cX12_readExpression 44 = .ok (.iconst 1, 1) := by decide +kernel
theorem dX12_readExpression_45 : decode cX12_readExpression 45 = .ok (.if_icmp .ne 10, 3) := by decide +kernel
theorem dX12_readExpression_48 : decode cX12_readExpression 48 = .ok (.aload_n 0, 1) := by decide +kernel
theorem dX12_readExpression_49 : decode cX12_readExpression 49 = .ok (.invokevirtual 285, 3) := by decide +kernel
theorem dX12_readExpression_52 : decode cX12_readExpression 52 = .ok (.goto 20, 3) := by decide +kernel
theorem dX12_readExpression_55 : decode cX12_readExpression 55 = .ok (.iload_n 2, 1) := by decide +kernel
theorem dX12_readExpression_56 : decode cX12_readExpression 56 = .ok (.iconst 3, 1) := by decide +kernel
theorem dX12_readExpression_57 : decode cX12_readExpression 57 = .ok (.if_icmp .ne 11, 3) := by decide +kernel
theorem dX12_readExpression_60 : decode cX12_readExpression 60 = .ok (.aload_n 0, 1) := by decide +kernel
theorem dX12_readExpression_61 : decode cX12_readExpression 61 = .ok (.iload_n 1, 1) := by decide +kernel
theorem dX12_readExpression_62 : decode cX12_readExpression 62 = .ok (.invokevirtual 305, 3) := by decide +kernel
theorem dX12_readExpression_65 : decode cX12_readExpression 65 = .ok (.goto 7, 3) := by decide +kernel
theorem dX12_readExpression_68 : decode cX12_readExpression 68 = .ok (.aload_n 0, 1) := by decide +kernel
theorem dX12_readExpression_69 : decode cX12_readExpression 69 = .ok (.invokevirtual 309, 3) := by decide +kernel
theorem dX12_readExpression_72 : decode cX12_readExpression 72 = .ok (.istore_n 2, 1) := by decide +kernel
theorem dX12_readExpression_73 : decode cX12_readExpression 73 = .ok (.goto (-53), 3) := by decide +kernel
theorem dX12_readExpression_76 : decode cX12_readExpression 76 = .ok (.aload_n 0, 1) := by decide +kernel
theorem dX12_readExpression_77 : decode cX12_readExpression 77 = .ok (.iconst 1, 1) := by decide +kernel
theorem dX12_readExpression_78 : decode cX12_readExpression 78 = .ok (.invokevirtual 288, 3) := by decide +kernel
theorem dX12_readExpression_81 : decode cX12_readExpression 81 = .ok (.return_, 1) := by decide +kernel
theorem ml_X12_309 : Cond.methodLink RX12 309 yX12_behindTest ∈ tblG := tg 1588 (by decide +kernel) (by decide +kernel)
theorem im_X12_behindTest : Cond.instanceMethod yX12_behindTest ∈ tblG := tg 1590 (by decide +kernel) (by decide +kernel)
theorem se_X12_behindTest : Cond.selects RX12 yX12_behindTest yX12_behindTest ∈ tblG := tg 61 (by decide +kernel) (by decide +kernel)
theorem cd_X12_behindTest : Cond.code yX12_behindTest cX12_behindTest 2 (some .int) ∈ tblG := tg 1591 (by decide +kernel) (by decide +kernel)
theorem gW_X12_behindTest : GoodIn tblG (wsG yX12_behindTest cX12_behindTest 2 (some .int)) := tgi cd_X12_behindTest
theorem gV_X12_309 : GoodIn tblG (wsV RX12 309 RX12 yX12_behindTest (wsG yX12_behindTest cX12_behindTest 2 (some .int))) := tgV ml_X12_309 im_X12_behindTest se_X12_behindTest ini_X12 gW_X12_behindTest
theorem hv_X12_behindTest : yX12_behindTest.cls = RX12 ∧ yX12_behindTest.cls ≠ "java/lang/invoke/MethodHandle" ∧ yX12_behindTest.cls ≠ "java/lang/invoke/VarHandle" ∧ (parseMethodDescriptor yX12_behindTest.desc).map (fun d => d.parameters.length) = some 0 := by decide +kernel
theorem ml_X12_305 : Cond.methodLink RX12 305 yX12_behindSum ∈ tblG := tg 1567 (by decide +kernel) (by decide +kernel)
theorem im_X12_behindSum : Cond.instanceMethod yX12_behindSum ∈ tblG := tg 1569 (by decide +kernel) (by decide +kernel)
theorem se_X12_behindSum : Cond.selects RX12 yX12_behindSum yX12_behindSum ∈ tblG := tg 57 (by decide +kernel) (by decide +kernel)
theorem cd_X12_behindSum : Cond.code yX12_behindSum cX12_behindSum 4 (some .int) ∈ tblG := tg 1570 (by decide +kernel) (by decide +kernel)
theorem gW_X12_behindSum : GoodIn tblG (wsG yX12_behindSum cX12_behindSum 4 (some .int)) := tgi cd_X12_behindSum
theorem gV_X12_305 : GoodIn tblG (wsV RX12 305 RX12 yX12_behindSum (wsG yX12_behindSum cX12_behindSum 4 (some .int))) := tgV ml_X12_305 im_X12_behindSum se_X12_behindSum ini_X12 gW_X12_behindSum
theorem hv_X12_behindSum : yX12_behindSum.cls = RX12 ∧ yX12_behindSum.cls ≠ "java/lang/invoke/MethodHandle" ∧ yX12_behindSum.cls ≠ "java/lang/invoke/VarHandle" ∧ (parseMethodDescriptor yX12_behindSum.desc).map (fun d => d.parameters.length) = some 1 := by decide +kernel
theorem ml_X12_302 : Cond.methodLink RX12 302 yX12_readPlain ∈ tblG := tg 1533 (by decide +kernel) (by decide +kernel)
theorem im_X12_readPlain : Cond.instanceMethod yX12_readPlain ∈ tblG := tg 1535 (by decide +kernel) (by decide +kernel)
theorem se_X12_readPlain : Cond.selects RX12 yX12_readPlain yX12_readPlain ∈ tblG := tg 49 (by decide +kernel) (by decide +kernel)
theorem cd_X12_readPlain : Cond.code yX12_readPlain cX12_readPlain 1 (some .int) ∈ tblG := tg 1536 (by decide +kernel) (by decide +kernel)
theorem gW_X12_readPlain : GoodIn tblG (wsG yX12_readPlain cX12_readPlain 1 (some .int)) := tgi cd_X12_readPlain
theorem gV_X12_302 : GoodIn tblG (wsV RX12 302 RX12 yX12_readPlain (wsG yX12_readPlain cX12_readPlain 1 (some .int))) := tgV ml_X12_302 im_X12_readPlain se_X12_readPlain ini_X12 gW_X12_readPlain
theorem hv_X12_readPlain : yX12_readPlain.cls = RX12 ∧ yX12_readPlain.cls ≠ "java/lang/invoke/MethodHandle" ∧ yX12_readPlain.cls ≠ "java/lang/invoke/VarHandle" ∧ (parseMethodDescriptor yX12_readPlain.desc).map (fun d => d.parameters.length) = some 0 := by decide +kernel
