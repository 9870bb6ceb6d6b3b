theorem dgX12_countRows_0 : ∀ r ∈ ([(0, (.aload_n 0, 1)), (1, (.getfield 113, 3)), (4, (.ifCond .eq 4, 3)), (7, (.return_, 1)), (8, (.aload_n 0, 1)), (9, (.sipush 1023, 3)), (12, (.iconst 0, 1)), (13, (.iconst (-1), 1)), (14, (.iconst 0, 1)), (15, (.invokevirtual 425, 3)), (18, (.aload_n 0, 1)), (19, (.iconst 1, 1)), (20, (.putfield 113, 3)), (23, (.return_, 1))] : List (Nat × (Instr × Nat))), decode cX12_countRows r.1 = .ok r.2 := by decide +kernel
theorem dX12_countRows_0 : decode cX12_countRows 0 = .ok (.aload_n 0, 1) := dgX12_countRows_0 (0, (.aload_n 0, 1)) (List.mem_of_getElem? (i := 0) rfl)
theorem dX12_countRows_1 : decode cX12_countRows 1 = .ok (.getfield 113, 3) := dgX12_countRows_0 (1, (.getfield 113, 3)) (List.mem_of_getElem? (i := 1) rfl)
theorem dX12_countRows_4 : decode cX12_countRows 4 = .ok (.ifCond .eq 4, 3) := dgX12_countRows_0 (4, (.ifCond .eq 4, 3)) (List.mem_of_getElem? (i := 2) rfl)
theorem dX12_countRows_7 : decode cX12_countRows 7 = .ok (.return_, 1) := dgX12_countRows_0 (7, (.return_, 1)) (List.mem_of_getElem? (i := 3) rfl)
theorem dX12_countRows_8 : decode cX12_countRows 8 = .ok (.aload_n 0, 1) := dgX12_countRows_0 (8, (.aload_n 0, 1)) (List.mem_of_getElem? (i := 4) rfl)
theorem dX12_countRows_9 : decode cX12_countRows 9 = .ok (.sipush 1023, 3) := dgX12_countRows_0 (9, (.sipush 1023, 3)) (List.mem_of_getElem? (i := 5) rfl)
theorem dX12_countRows_12 : decode cX12_countRows 12 = .ok (.iconst 0, 1) := dgX12_countRows_0 (12, (.iconst 0, 1)) (List.mem_of_getElem? (i := 6) rfl)
theorem dX12_countRows_13 : decode cX12_countRows 13 = .ok (.iconst (-1), 1) := dgX12_countRows_0 (13, (.iconst (-1), 1)) (List.mem_of_getElem? (i := 7) rfl)
theorem dX12_countRows_14 : decode cX12_countRows 14 = .ok (.iconst 0, 1) := dgX12_countRows_0 (14, (.iconst 0, 1)) (List.mem_of_getElem? (i := 8) rfl)
theorem dX12_countRows_15 : decode cX12_countRows 15 = .ok (.invokevirtual 425, 3) := dgX12_countRows_0 (15, (.invokevirtual 425, 3)) (List.mem_of_getElem? (i := 9) rfl)
theorem dX12_countRows_18 : decode cX12_countRows 18 = .ok (.aload_n 0, 1) := dgX12_countRows_0 (18, (.aload_n 0, 1)) (List.mem_of_getElem? (i := 10) rfl)
theorem dX12_countRows_19 : decode cX12_countRows 19 = .ok (.iconst 1, 1) := dgX12_countRows_0 (19, (.iconst 1, 1)) (List.mem_of_getElem? (i := 11) rfl)
theorem dX12_countRows_20 : decode cX12_countRows 20 = .ok (.putfield 113, 3) := dgX12_countRows_0 (20, (.putfield 113, 3)) (List.mem_of_getElem? (i := 12) rfl)
theorem dX12_countRows_23 : decode cX12_countRows 23 = .ok (.return_, 1) := dgX12_countRows_0 (23, (.return_, 1)) (List.mem_of_getElem? (i := 13) rfl)
theorem ml_X12_425 : Cond.methodLink RX12 425 yX12_countFor ∈ tblG := tg 1716 (by decide +kernel) (by decide +kernel)
theorem im_X12_countFor : Cond.instanceMethod yX12_countFor ∈ tblG := tg 1718 (by decide +kernel) (by decide +kernel)
theorem se_X12_countFor : Cond.selects RX12 yX12_countFor yX12_countFor ∈ tblG := tg 76 (by decide +kernel) (by decide +kernel)
theorem cd_X12_countFor : Cond.code yX12_countFor cX12_countFor 7 none ∈ tblG := tg 1719 (by decide +kernel) (by decide +kernel)
theorem gW_X12_countFor : GoodIn tblG (wsG yX12_countFor cX12_countFor 7 none) := tgi cd_X12_countFor
theorem gV_X12_425 : GoodIn tblG (wsV RX12 425 RX12 yX12_countFor (wsG yX12_countFor cX12_countFor 7 none)) := tgV ml_X12_425 im_X12_countFor se_X12_countFor ini_X12 gW_X12_countFor
theorem hv_X12_countFor : yX12_countFor.cls = RX12 ∧ yX12_countFor.cls ≠ "java/lang/invoke/MethodHandle" ∧ yX12_countFor.cls ≠ "java/lang/invoke/VarHandle" ∧ (parseMethodDescriptor yX12_countFor.desc).map (fun d => d.parameters.length) = some 4 := by decide +kernel
theorem dgX12_fits__0 : ∀ r ∈ ([(0, (.aload_n 0, 1)), (1, (.iconst 0, 1)), (2, (.putfield 107, 3)), (5, (.aload_n 0, 1)), (6, (.invokevirtual 444, 3)), (9, (.aload_n 0, 1)), (10, (.invokevirtual 447, 3)), (13, (.lreturn, 1))] : List (Nat × (Instr × Nat))), decode cX12_fits_ r.1 = .ok r.2 := by decide +kernel
theorem dX12_fits__0 : decode cX12_fits_ 0 = .ok (.aload_n 0, 1) := dgX12_fits__0 (0, (.aload_n 0, 1)) (List.mem_of_getElem? (i := 0) rfl)
theorem dX12_fits__1 : decode cX12_fits_ 1 = .ok (.iconst 0, 1) := dgX12_fits__0 (1, (.iconst 0, 1)) (List.mem_of_getElem? (i := 1) rfl)
theorem dX12_fits__2 : decode cX12_fits_ 2 = .ok (.putfield 107, 3) := dgX12_fits__0 (2, (.putfield 107, 3)) (List.mem_of_getElem? (i := 2) rfl)
theorem dX12_fits__5 : decode cX12_fits_ 5 = .ok (.aload_n 0, 1) := dgX12_fits__0 (5, (.aload_n 0, 1)) (List.mem_of_getElem? (i := 3) rfl)
theorem dX12_fits__6 : decode cX12_fits_ 6 = .ok (.invokevirtual 444, 3) := dgX12_fits__0 (6, (.invokevirtual 444, 3)) (List.mem_of_getElem? (i := 4) rfl)
theorem dX12_fits__9 : decode cX12_fits_ 9 = .ok (.aload_n 0, 1) := dgX12_fits__0 (9, (.aload_n 0, 1)) (List.mem_of_getElem? (i := 5) rfl)
theorem dX12_fits__10 : decode cX12_fits_ 10 = .ok (.invokevirtual 447, 3) := dgX12_fits__0 (10, (.invokevirtual 447, 3)) (List.mem_of_getElem? (i := 6) rfl)
theorem dX12_fits__13 : decode cX12_fits_ 13 = .ok (.lreturn, 1) := dgX12_fits__0 (13, (.lreturn, 1)) (List.mem_of_getElem? (i := 7) rfl)
theorem ml_X12_444 : Cond.methodLink RX12 444 yX12_countRows ∈ tblG := tg 1712 (by decide +kernel) (by decide +kernel)
theorem im_X12_countRows : Cond.instanceMethod yX12_countRows ∈ tblG := tg 1714 (by decide +kernel) (by decide +kernel)
theorem se_X12_countRows : Cond.selects RX12 yX12_countRows yX12_countRows ∈ tblG := tg 75 (by decide +kernel) (by decide +kernel)
theorem cd_X12_countRows : Cond.code yX12_countRows cX12_countRows 1 none ∈ tblG := tg 1715 (by decide +kernel) (by decide +kernel)
theorem gW_X12_countRows : GoodIn tblG (wsG yX12_countRows cX12_countRows 1 none) := tgi cd_X12_countRows
theorem gV_X12_444 : GoodIn tblG (wsV RX12 444 RX12 yX12_countRows (wsG yX12_countRows cX12_countRows 1 none)) := tgV ml_X12_444 im_X12_countRows se_X12_countRows ini_X12 gW_X12_countRows
theorem hv_X12_countRows : yX12_countRows.cls = RX12 ∧ yX12_countRows.cls ≠ "java/lang/invoke/MethodHandle" ∧ yX12_countRows.cls ≠ "java/lang/invoke/VarHandle" ∧ (parseMethodDescriptor yX12_countRows.desc).map (fun d => d.parameters.length) = some 0 := by decide +kernel
theorem ml_X12_447 : Cond.methodLink RX12 447 yX12_allRows ∈ tblG := tg 1736 (by decide +kernel) (by decide +kernel)
theorem im_X12_allRows : Cond.instanceMethod yX12_allRows ∈ tblG := tg 1738 (by decide +kernel) (by decide +kernel)
theorem se_X12_allRows : Cond.selects RX12 yX12_allRows yX12_allRows ∈ tblG := tg 81 (by decide +kernel) (by decide +kernel)
theorem cd_X12_allRows : Cond.code yX12_allRows cX12_allRows 4 (some .long) ∈ tblG := tg 1739 (by decide +kernel) (by decide +kernel)
theorem gW_X12_allRows : GoodIn tblG (wsG yX12_allRows cX12_allRows 4 (some .long)) := tgi cd_X12_allRows
theorem gV_X12_447 : GoodIn tblG (wsV RX12 447 RX12 yX12_allRows (wsG yX12_allRows cX12_allRows 4 (some .long))) := tgV ml_X12_447 im_X12_allRows se_X12_allRows ini_X12 gW_X12_allRows
theorem hv_X12_allRows : yX12_allRows.cls = RX12 ∧ yX12_allRows.cls ≠ "java/lang/invoke/MethodHandle" ∧ yX12_allRows.cls ≠ "java/lang/invoke/VarHandle" ∧ (parseMethodDescriptor yX12_allRows.desc).map (fun d => d.parameters.length) = some 0 := by decide +kernel
