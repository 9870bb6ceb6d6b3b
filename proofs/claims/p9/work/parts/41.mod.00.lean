theorem dgX12_change_0 : ∀ r ∈ ([(0, (.aload_n 0, 1)), (1, (.getfield 13, 3)), (4, (.iload_n 1, 1)), (5, (.iaload, 1)), (6, (.istore_n 3, 1)), (7, (.aload_n 0, 1)), (8, (.getfield 13, 3)), (11, (.iload_n 1, 1)), (12, (.iload_n 2, 1)), (13, (.iastore, 1)), (14, (.aload_n 0, 1)), (15, (.iload_n 3, 1)), (16, (.invokevirtual 117, 3)), (19, (.ireturn, 1))] : List (Nat × (Instr × Nat))), decode cX12_change r.1 = .ok r.2 := by decide +kernel
theorem dX12_change_0 : decode cX12_change 0 = .ok (.aload_n 0, 1) := dgX12_change_0 (0, (.aload_n 0, 1)) (List.mem_of_getElem? (i := 0) rfl)
theorem dX12_change_1 : decode cX12_change 1 = .ok (.getfield 13, 3) := dgX12_change_0 (1, (.getfield 13, 3)) (List.mem_of_getElem? (i := 1) rfl)
theorem dX12_change_4 : decode cX12_change 4 = .ok (.iload_n 1, 1) := dgX12_change_0 (4, (.iload_n 1, 1)) (List.mem_of_getElem? (i := 2) rfl)
theorem dX12_change_5 : decode cX12_change 5 = .ok (.iaload, 1) := dgX12_change_0 (5, (.iaload, 1)) (List.mem_of_getElem? (i := 3) rfl)
theorem dX12_change_6 : decode cX12_change 6 = .ok (.istore_n 3, 1) := dgX12_change_0 (6, (.istore_n 3, 1)) (List.mem_of_getElem? (i := 4) rfl)
theorem dX12_change_7 : decode cX12_change 7 = .ok (.aload_n 0, 1) := dgX12_change_0 (7, (.aload_n 0, 1)) (List.mem_of_getElem? (i := 5) rfl)
theorem dX12_change_8 : decode cX12_change 8 = .ok (.getfield 13, 3) := dgX12_change_0 (8, (.getfield 13, 3)) (List.mem_of_getElem? (i := 6) rfl)
theorem dX12_change_11 : decode cX12_change 11 = .ok (.iload_n 1, 1) := dgX12_change_0 (11, (.iload_n 1, 1)) (List.mem_of_getElem? (i := 7) rfl)
theorem dX12_change_12 : decode cX12_change 12 = .ok (.iload_n 2, 1) := dgX12_change_0 (12, (.iload_n 2, 1)) (List.mem_of_getElem? (i := 8) rfl)
theorem dX12_change_13 : decode cX12_change 13 = .ok (.iastore, 1) := dgX12_change_0 (13, (.iastore, 1)) (List.mem_of_getElem? (i := 9) rfl)
theorem dX12_change_14 : decode cX12_change 14 = .ok (.aload_n 0, 1) := dgX12_change_0 (14, (.aload_n 0, 1)) (List.mem_of_getElem? (i := 10) rfl)
theorem dX12_change_15 : decode cX12_change 15 = .ok (.iload_n 3, 1) := dgX12_change_0 (15, (.iload_n 3, 1)) (List.mem_of_getElem? (i := 11) rfl)
theorem dX12_change_16 : decode cX12_change 16 = .ok (.invokevirtual 117, 3) := dgX12_change_0 (16, (.invokevirtual 117, 3)) (List.mem_of_getElem? (i := 12) rfl)
theorem dX12_change_19 : decode cX12_change 19 = .ok (.ireturn, 1) := dgX12_change_0 (19, (.ireturn, 1)) (List.mem_of_getElem? (i := 13) rfl)
theorem ml_X12_117 : Cond.methodLink RX12 117 yX12_was ∈ tblG := tg 1403 (by decide +kernel) (by decide +kernel)
theorem im_X12_was : Cond.instanceMethod yX12_was ∈ tblG := tg 1405 (by decide +kernel) (by decide +kernel)
theorem se_X12_was : Cond.selects RX12 yX12_was yX12_was ∈ tblG := tg 35 (by decide +kernel) (by decide +kernel)
theorem cd_X12_was : Cond.code yX12_was cX12_was 2 (some .int) ∈ tblG := tg 1406 (by decide +kernel) (by decide +kernel)
theorem gW_X12_was : GoodIn tblG (wsG yX12_was cX12_was 2 (some .int)) := tgi cd_X12_was
theorem gV_X12_117 : GoodIn tblG (wsV RX12 117 RX12 yX12_was (wsG yX12_was cX12_was 2 (some .int))) := tgV ml_X12_117 im_X12_was se_X12_was ini_X12 gW_X12_was
theorem hv_X12_was : yX12_was.cls = RX12 ∧ yX12_was.cls ≠ "java/lang/invoke/MethodHandle" ∧ yX12_was.cls ≠ "java/lang/invoke/VarHandle" ∧ (parseMethodDescriptor yX12_was.desc).map (fun d => d.parameters.length) = some 1 := by decide +kernel
theorem dgX12_hasGlass_0 : ∀ r ∈ ([(0, (.iconst 0, 1)), (1, (.istore_n 2, 1)), (2, (.iconst 0, 1)), (3, (.istore_n 3, 1)), (4, (.iload_n 3, 1)), (5, (.aload_n 0, 1)), (6, (.getfield 13, 3)), (9, (.iconst 0, 1)), (10, (.iaload, 1)), (11, (.if_icmp .ge 29, 3)), (14, (.iload_n 2, 1)), (15, (.ifCond .ne 13, 3)), (18, (.aload_n 0, 1)), (19, (.iload_n 3, 1)), (20, (.iconst 0, 1)), (21, (.invokevirtual 134, 3)), (24, (.iload_n 1, 1)), (25, (.if_icmp .ne 7, 3)), (28, (.iconst 1, 1)), (29, (.goto 4, 3)), (32, (.iconst 0, 1)), (33, (.istore_n 2, 1)), (34, (.iinc 3 1, 3)), (37, (.goto (-33), 3)), (40, (.iload_n 2, 1)), (41, (.ireturn, 1))] : List (Nat × (Instr × Nat))), decode cX12_hasGlass r.1 = .ok r.2 := by decide +kernel
theorem dX12_hasGlass_0 : decode cX12_hasGlass 0 = .ok (.iconst 0, 1) := dgX12_hasGlass_0 (0, (.iconst 0, 1)) (List.mem_of_getElem? (i := 0) rfl)
theorem dX12_hasGlass_1 : decode cX12_hasGlass 1 = .ok (.istore_n 2, 1) := dgX12_hasGlass_0 (1, (.istore_n 2, 1)) (List.mem_of_getElem? (i := 1) rfl)
theorem dX12_hasGlass_2 : decode cX12_hasGlass 2 = .ok (.iconst 0, 1) := dgX12_hasGlass_0 (2, (.iconst 0, 1)) (List.mem_of_getElem? (i := 2) rfl)
theorem dX12_hasGlass_3 : decode cX12_hasGlass 3 = .ok (.istore_n 3, 1) := dgX12_hasGlass_0 (3, (.istore_n 3, 1)) (List.mem_of_getElem? (i := 3) rfl)
theorem dX12_hasGlass_4 : decode cX12_hasGlass 4 = .ok (.iload_n 3, 1) := dgX12_hasGlass_0 (4, (.iload_n 3, 1)) (List.mem_of_getElem? (i := 4) rfl)
theorem dX12_hasGlass_5 : decode cX12_hasGlass 5 = .ok (.aload_n 0, 1) := dgX12_hasGlass_0 (5, (.aload_n 0, 1)) (List.mem_of_getElem? (i := 5) rfl)
theorem dX12_hasGlass_6 : decode cX12_hasGlass 6 = .ok (.getfield 13, 3) := dgX12_hasGlass_0 (6, (.getfield 13, 3)) (List.mem_of_getElem? (i := 6) rfl)
theorem dX12_hasGlass_9 : decode cX12_hasGlass 9 = .ok (.iconst 0, 1) := dgX12_hasGlass_0 (9, (.iconst 0, 1)) (List.mem_of_getElem? (i := 7) rfl)
theorem dX12_hasGlass_10 : decode cX12_hasGlass 10 = .ok (.iaload, 1) := dgX12_hasGlass_0 (10, (.iaload, 1)) (List.mem_of_getElem? (i := 8) rfl)
theorem dX12_hasGlass_11 : decode cX12_hasGlass 11 = .ok (.if_icmp .ge 29, 3) := dgX12_hasGlass_0 (11, (.if_icmp .ge 29, 3)) (List.mem_of_getElem? (i := 9) rfl)
theorem dX12_hasGlass_14 : decode cX12_hasGlass 14 = .ok (.iload_n 2, 1) := dgX12_hasGlass_0 (14, (.iload_n 2, 1)) (List.mem_of_getElem? (i := 10) rfl)
theorem dX12_hasGlass_15 : decode cX12_hasGlass 15 = .ok (.ifCond .ne 13, 3) := dgX12_hasGlass_0 (15, (.ifCond .ne 13, 3)) (List.mem_of_getElem? (i := 11) rfl)
theorem dX12_hasGlass_18 : decode cX12_hasGlass 18 = .ok (.aload_n 0, 1) := dgX12_hasGlass_0 (18, (.aload_n 0, 1)) (List.mem_of_getElem? (i := 12) rfl)
theorem dX12_hasGlass_19 : decode cX12_hasGlass 19 = .ok (.iload_n 3, 1) := dgX12_hasGlass_0 (19, (.iload_n 3, 1)) (List.mem_of_getElem? (i := 13) rfl)
theorem dX12_hasGlass_20 : decode cX12_hasGlass 20 = .ok (.iconst 0, 1) := dgX12_hasGlass_0 (20, (.iconst 0, 1)) (List.mem_of_getElem? (i := 14) rfl)
theorem dX12_hasGlass_21 : decode cX12_hasGlass 21 = .ok (.invokevirtual 134, 3) := dgX12_hasGlass_0 (21, (.invokevirtual 134, 3)) (List.mem_of_getElem? (i := 15) rfl)
theorem dX12_hasGlass_24 : decode cX12_hasGlass 24 = .ok (.iload_n 1, 1) := dgX12_hasGlass_0 (24, (.iload_n 1, 1)) (List.mem_of_getElem? (i := 16) rfl)
theorem dX12_hasGlass_25 : decode cX12_hasGlass 25 = .ok (.if_icmp .ne 7, 3) := dgX12_hasGlass_0 (25, (.if_icmp .ne 7, 3)) (List.mem_of_getElem? (i := 17) rfl)
theorem dX12_hasGlass_28 : decode cX12_hasGlass 28 = .ok (.iconst 1, 1) := dgX12_hasGlass_0 (28, (.iconst 1, 1)) (List.mem_of_getElem? (i := 18) rfl)
theorem dX12_hasGlass_29 : decode cX12_hasGlass 29 = .ok (.goto 4, 3) := dgX12_hasGlass_0 (29, (.goto 4, 3)) (List.mem_of_getElem? (i := 19) rfl)
theorem dX12_hasGlass_32 : decode cX12_hasGlass 32 = .ok (.iconst 0, 1) := dgX12_hasGlass_0 (32, (.iconst 0, 1)) (List.mem_of_getElem? (i := 20) rfl)
theorem dX12_hasGlass_33 : decode cX12_hasGlass 33 = .ok (.istore_n 2, 1) := dgX12_hasGlass_0 (33, (.istore_n 2, 1)) (List.mem_of_getElem? (i := 21) rfl)
theorem dX12_hasGlass_34 : decode cX12_hasGlass 34 = .ok (.iinc 3 1, 3) := dgX12_hasGlass_0 (34, (.iinc 3 1, 3)) (List.mem_of_getElem? (i := 22) rfl)
theorem dX12_hasGlass_37 : decode cX12_hasGlass 37 = .ok (.goto (-33), 3) := dgX12_hasGlass_0 (37, (.goto (-33), 3)) (List.mem_of_getElem? (i := 23) rfl)
theorem dX12_hasGlass_40 : decode cX12_hasGlass 40 = .ok (.iload_n 2, 1) := dgX12_hasGlass_0 (40, (.iload_n 2, 1)) (List.mem_of_getElem? (i := 24) rfl)
theorem dX12_hasGlass_41 : decode cX12_hasGlass 41 = .ok (.ireturn, 1) := dgX12_hasGlass_0 (41, (.ireturn, 1)) (List.mem_of_getElem? (i := 25) rfl)
theorem ml_X12_134 : Cond.methodLink RX12 134 yX12_ofGlass ∈ tblG := tg 1387 (by decide +kernel) (by decide +kernel)
theorem im_X12_ofGlass : Cond.instanceMethod yX12_ofGlass ∈ tblG := tg 1389 (by decide +kernel) (by decide +kernel)
theorem se_X12_ofGlass : Cond.selects RX12 yX12_ofGlass yX12_ofGlass ∈ tblG := tg 31 (by decide +kernel) (by decide +kernel)
theorem cd_X12_ofGlass : Cond.code yX12_ofGlass cX12_ofGlass 3 (some .int) ∈ tblG := tg 1390 (by decide +kernel) (by decide +kernel)
theorem gW_X12_ofGlass : GoodIn tblG (wsG yX12_ofGlass cX12_ofGlass 3 (some .int)) := tgi cd_X12_ofGlass
theorem gV_X12_134 : GoodIn tblG (wsV RX12 134 RX12 yX12_ofGlass (wsG yX12_ofGlass cX12_ofGlass 3 (some .int))) := tgV ml_X12_134 im_X12_ofGlass se_X12_ofGlass ini_X12 gW_X12_ofGlass
theorem hv_X12_ofGlass : yX12_ofGlass.cls = RX12 ∧ yX12_ofGlass.cls ≠ "java/lang/invoke/MethodHandle" ∧ yX12_ofGlass.cls ≠ "java/lang/invoke/VarHandle" ∧ (parseMethodDescriptor yX12_ofGlass.desc).map (fun d => d.parameters.length) = some 2 := by decide +kernel
theorem dgX12_hasSpot_0 : ∀ r ∈ ([(0, (.iconst 0, 1)), (1, (.istore_n 2, 1)), (2, (.iconst 0, 1)), (3, (.istore_n 3, 1)), (4, (.iload_n 3, 1)), (5, (.aload_n 0, 1)), (6, (.getfield 13, 3)), (9, (.bipush 7, 2)), (11, (.iaload, 1)), (12, (.if_icmp .ge 35, 3)), (15, (.iload_n 2, 1)), (16, (.ifCond .ne 19, 3)), (19, (.aload_n 0, 1)), (20, (.getfield 13, 3)), (23, (.sipush 270, 3)), (26, (.iconst 3, 1)), (27, (.iload_n 3, 1)), (28, (.imul, 1)), (29, (.iadd, 1)), (30, (.iaload, 1)), (31, (.iload_n 1, 1)), (32, (.if_icmp .ne 7, 3)), (35, (.iconst 1, 1)), (36, (.goto 4, 3)), (39, (.iconst 0, 1)), (40, (.istore_n 2, 1)), (41, (.iinc 3 1, 3)), (44, (.goto (-40), 3)), (47, (.iload_n 2, 1)), (48, (.ireturn, 1))] : List (Nat × (Instr × Nat))), decode cX12_hasSpot r.1 = .ok r.2 := by decide +kernel
theorem dX12_hasSpot_0 : decode cX12_hasSpot 0 = .ok (.iconst 0, 1) := dgX12_hasSpot_0 (0, (.iconst 0, 1)) (List.mem_of_getElem? (i := 0) rfl)
theorem dX12_hasSpot_1 : decode cX12_hasSpot 1 = .ok (.istore_n 2, 1) := dgX12_hasSpot_0 (1, (.istore_n 2, 1)) (List.mem_of_getElem? (i := 1) rfl)
theorem dX12_hasSpot_2 : decode cX12_hasSpot 2 = .ok (.iconst 0, 1) := dgX12_hasSpot_0 (2, (.iconst 0, 1)) (List.mem_of_getElem? (i := 2) rfl)
theorem dX12_hasSpot_3 : decode cX12_hasSpot 3 = .ok (.istore_n 3, 1) := dgX12_hasSpot_0 (3, (.istore_n 3, 1)) (List.mem_of_getElem? (i := 3) rfl)
theorem dX12_hasSpot_4 : decode cX12_hasSpot 4 = .ok (.iload_n 3, 1) := dgX12_hasSpot_0 (4, (.iload_n 3, 1)) (List.mem_of_getElem? (i := 4) rfl)
theorem dX12_hasSpot_5 : decode cX12_hasSpot 5 = .ok (.aload_n 0, 1) := dgX12_hasSpot_0 (5, (.aload_n 0, 1)) (List.mem_of_getElem? (i := 5) rfl)
theorem dX12_hasSpot_6 : decode cX12_hasSpot 6 = .ok (.getfield 13, 3) := dgX12_hasSpot_0 (6, (.getfield 13, 3)) (List.mem_of_getElem? (i := 6) rfl)
theorem dX12_hasSpot_9 : decode cX12_hasSpot 9 = .ok (.bipush 7, 2) := dgX12_hasSpot_0 (9, (.bipush 7, 2)) (List.mem_of_getElem? (i := 7) rfl)
theorem dX12_hasSpot_11 : decode cX12_hasSpot 11 = .ok (.iaload, 1) := dgX12_hasSpot_0 (11, (.iaload, 1)) (List.mem_of_getElem? (i := 8) rfl)
theorem dX12_hasSpot_12 : decode cX12_hasSpot 12 = .ok (.if_icmp .ge 35, 3) := dgX12_hasSpot_0 (12, (.if_icmp .ge 35, 3)) (List.mem_of_getElem? (i := 9) rfl)
theorem dX12_hasSpot_15 : decode cX12_hasSpot 15 = .ok (.iload_n 2, 1) := dgX12_hasSpot_0 (15, (.iload_n 2, 1)) (List.mem_of_getElem? (i := 10) rfl)
theorem dX12_hasSpot_16 : decode cX12_hasSpot 16 = .ok (.ifCond .ne 19, 3) := dgX12_hasSpot_0 (16, (.ifCond .ne 19, 3)) (List.mem_of_getElem? (i := 11) rfl)
theorem dX12_hasSpot_19 : decode cX12_hasSpot 19 = .ok (.aload_n 0, 1) := dgX12_hasSpot_0 (19, (.aload_n 0, 1)) (List.mem_of_getElem? (i := 12) rfl)
theorem dX12_hasSpot_20 : decode cX12_hasSpot 20 = .ok (.getfield 13, 3) := dgX12_hasSpot_0 (20, (.getfield 13, 3)) (List.mem_of_getElem? (i := 13) rfl)
theorem dX12_hasSpot_23 : decode cX12_hasSpot 23 = .ok (.sipush 270, 3) := dgX12_hasSpot_0 (23, (.sipush 270, 3)) (List.mem_of_getElem? (i := 14) rfl)
theorem dX12_hasSpot_26 : decode cX12_hasSpot 26 = .ok (.iconst 3, 1) := dgX12_hasSpot_0 (26, (.iconst 3, 1)) (List.mem_of_getElem? (i := 15) rfl)
theorem dX12_hasSpot_27 : decode cX12_hasSpot 27 = .ok (.iload_n 3, 1) := dgX12_hasSpot_0 (27, (.iload_n 3, 1)) (List.mem_of_getElem? (i := 16) rfl)
theorem dX12_hasSpot_28 : decode cX12_hasSpot 28 = .ok (.imul, 1) := dgX12_hasSpot_0 (28, (.imul, 1)) (List.mem_of_getElem? (i := 17) rfl)
theorem dX12_hasSpot_29 : decode cX12_hasSpot 29 = .ok (.iadd, 1) := dgX12_hasSpot_0 (29, (.iadd, 1)) (List.mem_of_getElem? (i := 18) rfl)
theorem dX12_hasSpot_30 : decode cX12_hasSpot 30 = .ok (.iaload, 1) := dgX12_hasSpot_0 (30, (.iaload, 1)) (List.mem_of_getElem? (i := 19) rfl)
theorem dX12_hasSpot_31 : decode cX12_hasSpot 31 = .ok (.iload_n 1, 1) := dgX12_hasSpot_0 (31, (.iload_n 1, 1)) (List.mem_of_getElem? (i := 20) rfl)
theorem dX12_hasSpot_32 : decode cX12_hasSpot 32 = .ok (.if_icmp .ne 7, 3) := dgX12_hasSpot_0 (32, (.if_icmp .ne 7, 3)) (List.mem_of_getElem? (i := 21) rfl)
theorem dX12_hasSpot_35 : decode cX12_hasSpot 35 = .ok (.iconst 1, 1) := dgX12_hasSpot_0 (35, (.iconst 1, 1)) (List.mem_of_getElem? (i := 22) rfl)
theorem dX12_hasSpot_36 : decode cX12_hasSpot 36 = .ok (.goto 4, 3) := dgX12_hasSpot_0 (36, (.goto 4, 3)) (List.mem_of_getElem? (i := 23) rfl)
theorem dX12_hasSpot_39 : decode cX12_hasSpot 39 = .ok (.iconst 0, 1) := dgX12_hasSpot_0 (39, (.iconst 0, 1)) (List.mem_of_getElem? (i := 24) rfl)
theorem dX12_hasSpot_40 : decode cX12_hasSpot 40 = .ok (.istore_n 2, 1) := dgX12_hasSpot_0 (40, (.istore_n 2, 1)) (List.mem_of_getElem? (i := 25) rfl)
theorem dX12_hasSpot_41 : decode cX12_hasSpot 41 = .ok (.iinc 3 1, 3) := dgX12_hasSpot_0 (41, (.iinc 3 1, 3)) (List.mem_of_getElem? (i := 26) rfl)
theorem dX12_hasSpot_44 : decode cX12_hasSpot 44 = .ok (.goto (-40), 3) := dgX12_hasSpot_0 (44, (.goto (-40), 3)) (List.mem_of_getElem? (i := 27) rfl)
theorem dX12_hasSpot_47 : decode cX12_hasSpot 47 = .ok (.iload_n 2, 1) := dgX12_hasSpot_0 (47, (.iload_n 2, 1)) (List.mem_of_getElem? (i := 28) rfl)
theorem dX12_hasSpot_48 : decode cX12_hasSpot 48 = .ok (.ireturn, 1) := dgX12_hasSpot_0 (48, (.ireturn, 1)) (List.mem_of_getElem? (i := 29) rfl)
theorem dgX12_hasBody_0 : ∀ r ∈ ([(0, (.iconst 0, 1)), (1, (.istore_n 2, 1)), (2, (.iconst 0, 1)), (3, (.istore_n 3, 1)), (4, (.iload_n 3, 1)), (5, (.bipush 24, 2)), (7, (.aload_n 0, 1)), (8, (.getfield 13, 3)), (11, (.iconst 1, 1)), (12, (.iaload, 1)), (13, (.imul, 1)), (14, (.if_icmp .ge 32, 3)), (17, (.iload_n 2, 1)), (18, (.ifCond .ne 16, 3)), (21, (.aload_n 0, 1)), (22, (.getfield 13, 3)), (25, (.bipush 110, 2)), (27, (.iload_n 3, 1)), (28, (.iadd, 1)), (29, (.iaload, 1)), (30, (.iload_n 1, 1)), (31, (.if_icmp .ne 7, 3)), (34, (.iconst 1, 1)), (35, (.goto 4, 3)), (38, (.iconst 0, 1)), (39, (.istore_n 2, 1)), (40, (.iinc 3 1, 3)), (43, (.goto (-39), 3)), (46, (.iload_n 2, 1)), (47, (.ireturn, 1))] : List (Nat × (Instr × Nat))), decode cX12_hasBody r.1 = .ok r.2 := by decide +kernel
theorem dX12_hasBody_0 : decode cX12_hasBody 0 = .ok (.iconst 0, 1) := dgX12_hasBody_0 (0, (.iconst 0, 1)) (List.mem_of_getElem? (i := 0) rfl)
theorem dX12_hasBody_1 : decode cX12_hasBody 1 = .ok (.istore_n 2, 1) := dgX12_hasBody_0 (1, (.istore_n 2, 1)) (List.mem_of_getElem? (i := 1) rfl)
theorem dX12_hasBody_2 : decode cX12_hasBody 2 = .ok (.iconst 0, 1) := dgX12_hasBody_0 (2, (.iconst 0, 1)) (List.mem_of_getElem? (i := 2) rfl)
theorem dX12_hasBody_3 : decode cX12_hasBody 3 = .ok (.istore_n 3, 1) := dgX12_hasBody_0 (3, (.istore_n 3, 1)) (List.mem_of_getElem? (i := 3) rfl)
theorem dX12_hasBody_4 : decode cX12_hasBody 4 = .ok (.iload_n 3, 1) := dgX12_hasBody_0 (4, (.iload_n 3, 1)) (List.mem_of_getElem? (i := 4) rfl)
theorem dX12_hasBody_5 : decode cX12_hasBody 5 = .ok (.bipush 24, 2) := dgX12_hasBody_0 (5, (.bipush 24, 2)) (List.mem_of_getElem? (i := 5) rfl)
theorem dX12_hasBody_7 : decode cX12_hasBody 7 = .ok (.aload_n 0, 1) := dgX12_hasBody_0 (7, (.aload_n 0, 1)) (List.mem_of_getElem? (i := 6) rfl)
theorem dX12_hasBody_8 : decode cX12_hasBody 8 = .ok (.getfield 13, 3) := dgX12_hasBody_0 (8, (.getfield 13, 3)) (List.mem_of_getElem? (i := 7) rfl)
theorem dX12_hasBody_11 : decode cX12_hasBody 11 = .ok (.iconst 1, 1) := dgX12_hasBody_0 (11, (.iconst 1, 1)) (List.mem_of_getElem? (i := 8) rfl)
theorem dX12_hasBody_12 : decode cX12_hasBody 12 = .ok (.iaload, 1) := dgX12_hasBody_0 (12, (.iaload, 1)) (List.mem_of_getElem? (i := 9) rfl)
theorem dX12_hasBody_13 : decode cX12_hasBody 13 = .ok (.imul, 1) := dgX12_hasBody_0 (13, (.imul, 1)) (List.mem_of_getElem? (i := 10) rfl)
theorem dX12_hasBody_14 : decode cX12_hasBody 14 = .ok (.if_icmp .ge 32, 3) := dgX12_hasBody_0 (14, (.if_icmp .ge 32, 3)) (List.mem_of_getElem? (i := 11) rfl)
theorem dX12_hasBody_17 : decode cX12_hasBody 17 = .ok (.iload_n 2, 1) := dgX12_hasBody_0 (17, (.iload_n 2, 1)) (List.mem_of_getElem? (i := 12) rfl)
theorem dX12_hasBody_18 : decode cX12_hasBody 18 = .ok (.ifCond .ne 16, 3) := dgX12_hasBody_0 (18, (.ifCond .ne 16, 3)) (List.mem_of_getElem? (i := 13) rfl)
theorem dX12_hasBody_21 : decode cX12_hasBody 21 = .ok (.aload_n 0, 1) := dgX12_hasBody_0 (21, (.aload_n 0, 1)) (List.mem_of_getElem? (i := 14) rfl)
theorem dX12_hasBody_22 : decode cX12_hasBody 22 = .ok (.getfield 13, 3) := dgX12_hasBody_0 (22, (.getfield 13, 3)) (List.mem_of_getElem? (i := 15) rfl)
theorem dX12_hasBody_25 : decode cX12_hasBody 25 = .ok (.bipush 110, 2) := dgX12_hasBody_0 (25, (.bipush 110, 2)) (List.mem_of_getElem? (i := 16) rfl)
theorem dX12_hasBody_27 : decode cX12_hasBody 27 = .ok (.iload_n 3, 1) := dgX12_hasBody_0 (27, (.iload_n 3, 1)) (List.mem_of_getElem? (i := 17) rfl)
theorem dX12_hasBody_28 : decode cX12_hasBody 28 = .ok (.iadd, 1) := dgX12_hasBody_0 (28, (.iadd, 1)) (List.mem_of_getElem? (i := 18) rfl)
theorem dX12_hasBody_29 : decode cX12_hasBody 29 = .ok (.iaload, 1) := dgX12_hasBody_0 (29, (.iaload, 1)) (List.mem_of_getElem? (i := 19) rfl)
theorem dX12_hasBody_30 : decode cX12_hasBody 30 = .ok (.iload_n 1, 1) := dgX12_hasBody_0 (30, (.iload_n 1, 1)) (List.mem_of_getElem? (i := 20) rfl)
theorem dX12_hasBody_31 : decode cX12_hasBody 31 = .ok (.if_icmp .ne 7, 3) := dgX12_hasBody_0 (31, (.if_icmp .ne 7, 3)) (List.mem_of_getElem? (i := 21) rfl)
theorem dX12_hasBody_34 : decode cX12_hasBody 34 = .ok (.iconst 1, 1) := dgX12_hasBody_0 (34, (.iconst 1, 1)) (List.mem_of_getElem? (i := 22) rfl)
theorem dX12_hasBody_35 : decode cX12_hasBody 35 = .ok (.goto 4, 3) := dgX12_hasBody_0 (35, (.goto 4, 3)) (List.mem_of_getElem? (i := 23) rfl)
theorem dX12_hasBody_38 : decode cX12_hasBody 38 = .ok (.iconst 0, 1) := dgX12_hasBody_0 (38, (.iconst 0, 1)) (List.mem_of_getElem? (i := 24) rfl)
theorem dX12_hasBody_39 : decode cX12_hasBody 39 = .ok (.istore_n 2, 1) := dgX12_hasBody_0 (39, (.istore_n 2, 1)) (List.mem_of_getElem? (i := 25) rfl)
theorem dX12_hasBody_40 : decode cX12_hasBody 40 = .ok (.iinc 3 1, 3) := dgX12_hasBody_0 (40, (.iinc 3 1, 3)) (List.mem_of_getElem? (i := 26) rfl)
theorem dX12_hasBody_43 : decode cX12_hasBody 43 = .ok (.goto (-39), 3) := dgX12_hasBody_0 (43, (.goto (-39), 3)) (List.mem_of_getElem? (i := 27) rfl)
theorem dX12_hasBody_46 : decode cX12_hasBody 46 = .ok (.iload_n 2, 1) := dgX12_hasBody_0 (46, (.iload_n 2, 1)) (List.mem_of_getElem? (i := 28) rfl)
theorem dX12_hasBody_47 : decode cX12_hasBody 47 = .ok (.ireturn, 1) := dgX12_hasBody_0 (47, (.ireturn, 1)) (List.mem_of_getElem? (i := 29) rfl)
theorem dgX12_wall_0 : ∀ r ∈ ([(0, (.aload_n 0, 1)), (1, (.iconst 0, 1)), (2, (.putfield 107, 3)), (5, (.iload_n 1, 1)), (6, (.invokestatic 138, 3)), (9, (.ifCond .eq 13, 3)), (12, (.iload_n 2, 1)), (13, (.i2l, 1)), (14, (.lconst 0, 1)), (15, (.lconst 1, 1)), (16, (.invokestatic 121, 3)), (19, (.ifCond .ne 9, 3)), (22, (.aload_n 0, 1)), (23, (.iconst (-1), 1)), (24, (.invokevirtual 125, 3)), (27, (.ireturn, 1)), (28, (.iload_n 2, 1)), (29, (.iconst 1, 1)), (30, (.if_icmp .ne 45, 3)), (33, (.aload_n 0, 1)), (34, (.iload_n 1, 1)), (35, (.invokevirtual 142, 3)), (38, (.ifCond .ne 30, 3)), (41, (.aload_n 0, 1)), (42, (.iload_n 1, 1)), (43, (.invokevirtual 145, 3)), (46, (.ifCond .ne 22, 3)), (49, (.aload_n 0, 1)), (50, (.iload_n 1, 1)), (51, (.invokevirtual 148, 3)), (54, (.ifCond .ne 14, 3)), (57, (.aload_n 0, 1)), (58, (.getfield 13, 3)), (61, (.bipush 6, 2)), (63, (.iaload, 1)), (64, (.iload_n 1, 1)), (65, (.if_icmp .ne 10, 3)), (68, (.aload_n 0, 1)), (69, (.bipush (-3), 2)), (71, (.invokevirtual 125, 3))] : List (Nat × (Instr × Nat))), decode cX12_wall r.1 = .ok r.2 := by decide +kernel
theorem dX12_wall_0 : decode cX12_wall 0 = .ok (.aload_n 0, 1) := dgX12_wall_0 (0, (.aload_n 0, 1)) (List.mem_of_getElem? (i := 0) rfl)
theorem dX12_wall_1 : decode cX12_wall 1 = .ok (.iconst 0, 1) := dgX12_wall_0 (1, (.iconst 0, 1)) (List.mem_of_getElem? (i := 1) rfl)
theorem dX12_wall_2 : decode cX12_wall 2 = .ok (.putfield 107, 3) := dgX12_wall_0 (2, (.putfield 107, 3)) (List.mem_of_getElem? (i := 2) rfl)
theorem dX12_wall_5 : decode cX12_wall 5 = .ok (.iload_n 1, 1) := dgX12_wall_0 (5, (.iload_n 1, 1)) (List.mem_of_getElem? (i := 3) rfl)
theorem dX12_wall_6 : decode cX12_wall 6 = .ok (.invokestatic 138, 3) := dgX12_wall_0 (6, (.invokestatic 138, 3)) (List.mem_of_getElem? (i := 4) rfl)
theorem dX12_wall_9 : decode cX12_wall 9 = .ok (.ifCond .eq 13, 3) := dgX12_wall_0 (9, (.ifCond .eq 13, 3)) (List.mem_of_getElem? (i := 5) rfl)
theorem dX12_wall_12 : decode cX12_wall 12 = .ok (.iload_n 2, 1) := dgX12_wall_0 (12, (.iload_n 2, 1)) (List.mem_of_getElem? (i := 6) rfl)
theorem dX12_wall_13 : decode cX12_wall 13 = .ok (.i2l, 1) := dgX12_wall_0 (13, (.i2l, 1)) (List.mem_of_getElem? (i := 7) rfl)
theorem dX12_wall_14 : decode cX12_wall 14 = .ok (.lconst 0, 1) := dgX12_wall_0 (14, (.lconst 0, 1)) (List.mem_of_getElem? (i := 8) rfl)
theorem dX12_wall_15 : decode cX12_wall 15 = .ok (.lconst 1, 1) := dgX12_wall_0 (15, (.lconst 1, 1)) (List.mem_of_getElem? (i := 9) rfl)
theorem dX12_wall_16 : decode cX12_wall 16 = .ok (.invokestatic 121, 3) := dgX12_wall_0 (16, (.invokestatic 121, 3)) (List.mem_of_getElem? (i := 10) rfl)
theorem dX12_wall_19 : decode cX12_wall 19 = .ok (.ifCond .ne 9, 3) := dgX12_wall_0 (19, (.ifCond .ne 9, 3)) (List.mem_of_getElem? (i := 11) rfl)
theorem dX12_wall_22 : decode cX12_wall 22 = .ok (.aload_n 0, 1) := dgX12_wall_0 (22, (.aload_n 0, 1)) (List.mem_of_getElem? (i := 12) rfl)
theorem dX12_wall_23 : decode cX12_wall 23 = .ok (.iconst (-1), 1) := dgX12_wall_0 (23, (.iconst (-1), 1)) (List.mem_of_getElem? (i := 13) rfl)
theorem dX12_wall_24 : decode cX12_wall 24 = .ok (.invokevirtual 125, 3) := dgX12_wall_0 (24, (.invokevirtual 125, 3)) (List.mem_of_getElem? (i := 14) rfl)
theorem dX12_wall_27 : decode cX12_wall 27 = .ok (.ireturn, 1) := dgX12_wall_0 (27, (.ireturn, 1)) (List.mem_of_getElem? (i := 15) rfl)
theorem dX12_wall_28 : decode cX12_wall 28 = .ok (.iload_n 2, 1) := dgX12_wall_0 (28, (.iload_n 2, 1)) (List.mem_of_getElem? (i := 16) rfl)
theorem dX12_wall_29 : decode cX12_wall 29 = .ok (.iconst 1, 1) := dgX12_wall_0 (29, (.iconst 1, 1)) (List.mem_of_getElem? (i := 17) rfl)
theorem dX12_wall_30 : decode cX12_wall 30 = .ok (.if_icmp .ne 45, 3) := dgX12_wall_0 (30, (.if_icmp .ne 45, 3)) (List.mem_of_getElem? (i := 18) rfl)
theorem dX12_wall_33 : decode cX12_wall 33 = .ok (.aload_n 0, 1) := dgX12_wall_0 (33, (.aload_n 0, 1)) (List.mem_of_getElem? (i := 19) rfl)
theorem dX12_wall_34 : decode cX12_wall 34 = .ok (.iload_n 1, 1) := dgX12_wall_0 (34, (.iload_n 1, 1)) (List.mem_of_getElem? (i := 20) rfl)
theorem dX12_wall_35 : decode cX12_wall 35 = .ok (.invokevirtual 142, 3) := dgX12_wall_0 (35, (.invokevirtual 142, 3)) (List.mem_of_getElem? (i := 21) rfl)
theorem dX12_wall_38 : decode cX12_wall 38 = .ok (.ifCond .ne 30, 3) := dgX12_wall_0 (38, (.ifCond .ne 30, 3)) (List.mem_of_getElem? (i := 22) rfl)
theorem dX12_wall_41 : decode cX12_wall 41 = .ok (.aload_n 0, 1) := dgX12_wall_0 (41, (.aload_n 0, 1)) (List.mem_of_getElem? (i := 23) rfl)
theorem dX12_wall_42 : decode cX12_wall 42 = .ok (.iload_n 1, 1) := dgX12_wall_0 (42, (.iload_n 1, 1)) (List.mem_of_getElem? (i := 24) rfl)
theorem dX12_wall_43 : decode cX12_wall 43 = .ok (.invokevirtual 145, 3) := dgX12_wall_0 (43, (.invokevirtual 145, 3)) (List.mem_of_getElem? (i := 25) rfl)
theorem dX12_wall_46 : decode cX12_wall 46 = .ok (.ifCond .ne 22, 3) := dgX12_wall_0 (46, (.ifCond .ne 22, 3)) (List.mem_of_getElem? (i := 26) rfl)
theorem dX12_wall_49 : decode cX12_wall 49 = .ok (.aload_n 0, 1) := dgX12_wall_0 (49, (.aload_n 0, 1)) (List.mem_of_getElem? (i := 27) rfl)
theorem dX12_wall_50 : decode cX12_wall 50 = .ok (.iload_n 1, 1) := dgX12_wall_0 (50, (.iload_n 1, 1)) (List.mem_of_getElem? (i := 28) rfl)
theorem dX12_wall_51 : decode cX12_wall 51 = .ok (.invokevirtual 148, 3) := dgX12_wall_0 (51, (.invokevirtual 148, 3)) (List.mem_of_getElem? (i := 29) rfl)
theorem dX12_wall_54 : decode cX12_wall 54 = .ok (.ifCond .ne 14, 3) := dgX12_wall_0 (54, (.ifCond .ne 14, 3)) (List.mem_of_getElem? (i := 30) rfl)
theorem dX12_wall_57 : decode cX12_wall 57 = .ok (.aload_n 0, 1) := dgX12_wall_0 (57, (.aload_n 0, 1)) (List.mem_of_getElem? (i := 31) rfl)
theorem dX12_wall_58 : decode cX12_wall 58 = .ok (.getfield 13, 3) := dgX12_wall_0 (58, (.getfield 13, 3)) (List.mem_of_getElem? (i := 32) rfl)
theorem dX12_wall_61 : decode cX12_wall 61 = .ok (.bipush 6, 2) := dgX12_wall_0 (61, (.bipush 6, 2)) (List.mem_of_getElem? (i := 33) rfl)
theorem dX12_wall_63 : decode cX12_wall 63 = .ok (.iaload, 1) := dgX12_wall_0 (63, (.iaload, 1)) (List.mem_of_getElem? (i := 34) rfl)
theorem dX12_wall_64 : decode cX12_wall 64 = .ok (.iload_n 1, 1) := dgX12_wall_0 (64, (.iload_n 1, 1)) (List.mem_of_getElem? (i := 35) rfl)
theorem dX12_wall_65 : decode cX12_wall 65 = .ok (.if_icmp .ne 10, 3) := dgX12_wall_0 (65, (.if_icmp .ne 10, 3)) (List.mem_of_getElem? (i := 36) rfl)
theorem dX12_wall_68 : decode cX12_wall 68 = .ok (.aload_n 0, 1) := dgX12_wall_0 (68, (.aload_n 0, 1)) (List.mem_of_getElem? (i := 37) rfl)
theorem dX12_wall_69 : decode cX12_wall 69 = .ok (.bipush (-3), 2) := dgX12_wall_0 (69, (.bipush (-3), 2)) (List.mem_of_getElem? (i := 38) rfl)
theorem dX12_wall_71 : decode cX12_wall 71 = .ok (.invokevirtual 125, 3) := dgX12_wall_0 (71, (.invokevirtual 125, 3)) (List.mem_of_getElem? (i := 39) rfl)
theorem dgX12_wall_1 : ∀ r ∈ ([(74, (.ireturn, 1)), (75, (.aload_n 0, 1)), (76, (.bipush 10, 2)), (78, (.iload_n 1, 1)), (79, (.iadd, 1)), (80, (.iload_n 2, 1)), (81, (.invokevirtual 151, 3)), (84, (.ireturn, 1))] : List (Nat × (Instr × Nat))), decode cX12_wall r.1 = .ok r.2 := by decide +kernel
theorem dX12_wall_74 : decode cX12_wall 74 = .ok (.ireturn, 1) := dgX12_wall_1 (74, (.ireturn, 1)) (List.mem_of_getElem? (i := 0) rfl)
theorem dX12_wall_75 : decode cX12_wall 75 = .ok (.aload_n 0, 1) := dgX12_wall_1 (75, (.aload_n 0, 1)) (List.mem_of_getElem? (i := 1) rfl)
theorem dX12_wall_76 : decode cX12_wall 76 = .ok (.bipush 10, 2) := dgX12_wall_1 (76, (.bipush 10, 2)) (List.mem_of_getElem? (i := 2) rfl)
theorem dX12_wall_78 : decode cX12_wall 78 = .ok (.iload_n 1, 1) := dgX12_wall_1 (78, (.iload_n 1, 1)) (List.mem_of_getElem? (i := 3) rfl)
theorem dX12_wall_79 : decode cX12_wall 79 = .ok (.iadd, 1) := dgX12_wall_1 (79, (.iadd, 1)) (List.mem_of_getElem? (i := 4) rfl)
theorem dX12_wall_80 : decode cX12_wall 80 = .ok (.iload_n 2, 1) := dgX12_wall_1 (80, (.iload_n 2, 1)) (List.mem_of_getElem? (i := 5) rfl)
theorem dX12_wall_81 : decode cX12_wall 81 = .ok (.invokevirtual 151, 3) := dgX12_wall_1 (81, (.invokevirtual 151, 3)) (List.mem_of_getElem? (i := 6) rfl)
theorem dX12_wall_84 : decode cX12_wall 84 = .ok (.ireturn, 1) := dgX12_wall_1 (84, (.ireturn, 1)) (List.mem_of_getElem? (i := 7) rfl)
theorem fl_X12_107 : Cond.fieldLink RX12 107 "LateGlassModel" "thrown" "I" ∈ tblG := tg 1203 (by decide +kernel) (by decide +kernel)
set_option maxHeartbeats 4000000 in
set_option maxRecDepth 100000 in
theorem n_in_0_1 (l : Launch) (G : g5_G) (sz : Nat) (p_x : Int32) : Met l yX12_in (wsG yX12_in cX12_in 6 (some .boolean)) ({ frames := 0, cells := 0, slots := 0, locals := 0 }) (va_Pc [.long p_x.toInt64, .long 0, .long 1] (g5_P G [] sz)) (va_Qi (fun (r : Int32) (u : va_W) => ((p_x.toInt < 0 ∨ 1 < p_x.toInt) ∧ (r = 0) ∧ (u = [])) ∨ ((0 ≤ p_x.toInt ∧ p_x.toInt ≤ 1) ∧ (r = 1) ∧ (u = []))) (g5_B G (va_A [] sz)) (va_A [] sz)) 0 0 (va_A [] sz) := by
  refine Met.ofW (cc := cX12_in) (maxL := 6) (ret := (some .boolean)) (by decide) rfl ?_
  intro p e s m args below meth c s₁ B hml hv
  obtain ⟨rfl, hsz, hP, hK, hD0, hN, hT⟩ := hv
  have hx := B.exec
  have hb := B.bytes
  have hr := B.returns
  have hts : ∀ w ∈ tblG, w.before _ s = true := fun w h => atoms_spec (ws := (wsG yX12_in cX12_in 6 (some .boolean))) B.pre w (List.mem_cons_of_mem _ h)
  have hown : s.vm.findClass RX12 = some m.cls := findClass_of_methodNamed B.named
  have hlocks := B.notSynchronized
  subst hsz
  have hD := hD0.self (sz := s.heap.size)
  generalize hAe : va_A [] s.heap.size = A at hD hT ⊢
  have hA : ∀ q : Nat, s.heap.size ≤ q → A q := fun q h => by rw [← hAe]; exact Or.inr h
  have hS : va_S A s.heap s.heap [] := va_S.rf
  have hP : va_P G.1 vwCl [] s.heap := hP
  have hl := lv_entry ([.long p_x.toInt64, .long 0, .long 1]) (n := 6) (Nat.le_of_ble_eq_true rfl)
  rw [lg_entry_eq]
  generalize (lg_sl ([.long p_x.toInt64, .long 0, .long 1]) ++ List.replicate (6 - (lg_sl ([.long p_x.toInt64, .long 0, .long 1])).length) Slot.unset).toArray = ls at hl ⊢
  have hl : lv_has ls 6 [(0, .long p_x.toInt64), (2, .long 0), (4, .long 1)] := hl
  refine lv_lload_n hx hb dX12_in_0 rfl (lv_at hl 0 rfl) ?_
  refine lv_lload_n hx hb dX12_in_1 rfl (lv_at hl 1 rfl) ?_
  have tl_1 : p_x.toInt64.toInt = p_x.toInt := Int32.toInt_toInt64 _
  have tl_2 : (0 : Int64).toInt = 0 := (by decide)
  have tc_3 := g5_cmpI p_x.toInt64 0
  refine W.lcmp hx hb dX12_in_2 ?_
  refine lv_if_lt (tgt := 17) hx hb dX12_in_3 (by decide) (fun c_4 => ?_) (fun c_4 => ?_)
  ·
    have i_4 : (lg_cmp p_x.toInt64 0).toInt < 0 := by have z := g5_lt (a := (lg_cmp p_x.toInt64 0).toInt) (b := 0) (by rfl) (by decide) c_4; omega
    refine lv_iconst (v := 0) hx hb dX12_in_17 (by decide) ?_
    exact W.zret (v := 0) hx hb hr rfl (fun t ht hW => ⟨⟨0, [], rfl, Or.inl (⟨by omega, rfl, rfl⟩), by rw [ht]; exact hP.sub [] rfl, hD.sub [] (by decide) rfl⟩, hS.F ht⟩) hS.2.2 dX12_in_18
  ·
    have i_4 : (lg_cmp p_x.toInt64 0).toInt ≥ 0 := by have z := g5_ltN (a := (lg_cmp p_x.toInt64 0).toInt) (b := 0) (by rfl) (by decide) c_4; omega
    refine lv_lload_n hx hb dX12_in_6 rfl (lv_at hl 0 rfl) ?_
    refine lv_lload hx hb dX12_in_7 (lv_at hl 2 rfl) ?_
    have tl_5 : p_x.toInt64.toInt = p_x.toInt := Int32.toInt_toInt64 _
    have tl_6 : (1 : Int64).toInt = 1 := (by decide)
    have tc_7 := g5_cmpI p_x.toInt64 1
    refine W.lcmp hx hb dX12_in_9 ?_
    refine lv_if_gt (tgt := 17) hx hb dX12_in_10 (by decide) (fun c_8 => ?_) (fun c_8 => ?_)
    ·
      have i_8 : (lg_cmp p_x.toInt64 1).toInt > 0 := by have z := g5_gt (a := (lg_cmp p_x.toInt64 1).toInt) (b := 0) (by rfl) (by decide) c_8; omega
      refine lv_iconst (v := 0) hx hb dX12_in_17 (by decide) ?_
      exact W.zret (v := 0) hx hb hr rfl (fun t ht hW => ⟨⟨0, [], rfl, Or.inl (⟨by omega, rfl, rfl⟩), by rw [ht]; exact hP.sub [] rfl, hD.sub [] (by decide) rfl⟩, hS.F ht⟩) hS.2.2 dX12_in_18
    ·
      have i_8 : (lg_cmp p_x.toInt64 1).toInt ≤ 0 := by have z := g5_gtN (a := (lg_cmp p_x.toInt64 1).toInt) (b := 0) (by rfl) (by decide) c_8; omega
      refine lv_iconst (v := 1) hx hb dX12_in_13 (by decide) ?_
      refine lv_goto (tgt := 18) hx hb dX12_in_14 (by decide) ?_
      exact W.zret (v := 1) hx hb hr rfl (fun t ht hW => ⟨⟨1, [], rfl, Or.inr (⟨by omega, rfl, rfl⟩), by rw [ht]; exact hP.sub [] rfl, hD.sub [] (by decide) rfl⟩, hS.F ht⟩) hS.2.2 dX12_in_18
theorem ml_X12_125 : Cond.methodLink RX12 125 yX12_tell ∈ tblG := tg 1367 (by decide +kernel) (by decide +kernel)
theorem im_X12_tell : Cond.instanceMethod yX12_tell ∈ tblG := tg 1369 (by decide +kernel) (by decide +kernel)
theorem se_X12_tell : Cond.selects RX12 yX12_tell yX12_tell ∈ tblG := tg 29 (by decide +kernel) (by decide +kernel)
theorem cd_X12_tell : Cond.code yX12_tell cX12_tell 2 (some .int) ∈ tblG := tg 1370 (by decide +kernel) (by decide +kernel)
theorem gW_X12_tell : GoodIn tblG (wsG yX12_tell cX12_tell 2 (some .int)) := tgi cd_X12_tell
theorem gV_X12_125 : GoodIn tblG (wsV RX12 125 RX12 yX12_tell (wsG yX12_tell cX12_tell 2 (some .int))) := tgV ml_X12_125 im_X12_tell se_X12_tell ini_X12 gW_X12_tell
theorem hv_X12_tell : yX12_tell.cls = RX12 ∧ yX12_tell.cls ≠ "java/lang/invoke/MethodHandle" ∧ yX12_tell.cls ≠ "java/lang/invoke/VarHandle" ∧ (parseMethodDescriptor yX12_tell.desc).map (fun d => d.parameters.length) = some 1 := by decide +kernel
theorem ml_X12_151 : Cond.methodLink RX12 151 yX12_change ∈ tblG := tg 1399 (by decide +kernel) (by decide +kernel)
theorem im_X12_change : Cond.instanceMethod yX12_change ∈ tblG := tg 1401 (by decide +kernel) (by decide +kernel)
theorem se_X12_change : Cond.selects RX12 yX12_change yX12_change ∈ tblG := tg 34 (by decide +kernel) (by decide +kernel)
theorem cd_X12_change : Cond.code yX12_change cX12_change 4 (some .int) ∈ tblG := tg 1402 (by decide +kernel) (by decide +kernel)
theorem gW_X12_change : GoodIn tblG (wsG yX12_change cX12_change 4 (some .int)) := tgi cd_X12_change
theorem gV_X12_151 : GoodIn tblG (wsV RX12 151 RX12 yX12_change (wsG yX12_change cX12_change 4 (some .int))) := tgV ml_X12_151 im_X12_change se_X12_change ini_X12 gW_X12_change
theorem hv_X12_change : yX12_change.cls = RX12 ∧ yX12_change.cls ≠ "java/lang/invoke/MethodHandle" ∧ yX12_change.cls ≠ "java/lang/invoke/VarHandle" ∧ (parseMethodDescriptor yX12_change.desc).map (fun d => d.parameters.length) = some 2 := by decide +kernel
theorem ml_X12_142 : Cond.methodLink RX12 142 yX12_hasGlass ∈ tblG := tg 1383 (by decide +kernel) (by decide +kernel)
theorem im_X12_hasGlass : Cond.instanceMethod yX12_hasGlass ∈ tblG := tg 1385 (by decide +kernel) (by decide +kernel)
theorem se_X12_hasGlass : Cond.selects RX12 yX12_hasGlass yX12_hasGlass ∈ tblG := tg 30 (by decide +kernel) (by decide +kernel)
theorem cd_X12_hasGlass : Cond.code yX12_hasGlass cX12_hasGlass 4 (some .boolean) ∈ tblG := tg 1386 (by decide +kernel) (by decide +kernel)
theorem gW_X12_hasGlass : GoodIn tblG (wsG yX12_hasGlass cX12_hasGlass 4 (some .boolean)) := tgi cd_X12_hasGlass
theorem gV_X12_142 : GoodIn tblG (wsV RX12 142 RX12 yX12_hasGlass (wsG yX12_hasGlass cX12_hasGlass 4 (some .boolean))) := tgV ml_X12_142 im_X12_hasGlass se_X12_hasGlass ini_X12 gW_X12_hasGlass
theorem hv_X12_hasGlass : yX12_hasGlass.cls = RX12 ∧ yX12_hasGlass.cls ≠ "java/lang/invoke/MethodHandle" ∧ yX12_hasGlass.cls ≠ "java/lang/invoke/VarHandle" ∧ (parseMethodDescriptor yX12_hasGlass.desc).map (fun d => d.parameters.length) = some 1 := by decide +kernel
theorem ml_X12_145 : Cond.methodLink RX12 145 yX12_hasSpot ∈ tblG := tg 1391 (by decide +kernel) (by decide +kernel)
theorem im_X12_hasSpot : Cond.instanceMethod yX12_hasSpot ∈ tblG := tg 1393 (by decide +kernel) (by decide +kernel)
theorem se_X12_hasSpot : Cond.selects RX12 yX12_hasSpot yX12_hasSpot ∈ tblG := tg 32 (by decide +kernel) (by decide +kernel)
theorem cd_X12_hasSpot : Cond.code yX12_hasSpot cX12_hasSpot 4 (some .boolean) ∈ tblG := tg 1394 (by decide +kernel) (by decide +kernel)
theorem gW_X12_hasSpot : GoodIn tblG (wsG yX12_hasSpot cX12_hasSpot 4 (some .boolean)) := tgi cd_X12_hasSpot
theorem gV_X12_145 : GoodIn tblG (wsV RX12 145 RX12 yX12_hasSpot (wsG yX12_hasSpot cX12_hasSpot 4 (some .boolean))) := tgV ml_X12_145 im_X12_hasSpot se_X12_hasSpot ini_X12 gW_X12_hasSpot
theorem hv_X12_hasSpot : yX12_hasSpot.cls = RX12 ∧ yX12_hasSpot.cls ≠ "java/lang/invoke/MethodHandle" ∧ yX12_hasSpot.cls ≠ "java/lang/invoke/VarHandle" ∧ (parseMethodDescriptor yX12_hasSpot.desc).map (fun d => d.parameters.length) = some 1 := by decide +kernel
theorem ml_X12_148 : Cond.methodLink RX12 148 yX12_hasBody ∈ tblG := tg 1395 (by decide +kernel) (by decide +kernel)
theorem im_X12_hasBody : Cond.instanceMethod yX12_hasBody ∈ tblG := tg 1397 (by decide +kernel) (by decide +kernel)
theorem se_X12_hasBody : Cond.selects RX12 yX12_hasBody yX12_hasBody ∈ tblG := tg 33 (by decide +kernel) (by decide +kernel)
theorem cd_X12_hasBody : Cond.code yX12_hasBody cX12_hasBody 4 (some .boolean) ∈ tblG := tg 1398 (by decide +kernel) (by decide +kernel)
theorem gW_X12_hasBody : GoodIn tblG (wsG yX12_hasBody cX12_hasBody 4 (some .boolean)) := tgi cd_X12_hasBody
theorem gV_X12_148 : GoodIn tblG (wsV RX12 148 RX12 yX12_hasBody (wsG yX12_hasBody cX12_hasBody 4 (some .boolean))) := tgV ml_X12_148 im_X12_hasBody se_X12_hasBody ini_X12 gW_X12_hasBody
theorem hv_X12_hasBody : yX12_hasBody.cls = RX12 ∧ yX12_hasBody.cls ≠ "java/lang/invoke/MethodHandle" ∧ yX12_hasBody.cls ≠ "java/lang/invoke/VarHandle" ∧ (parseMethodDescriptor yX12_hasBody.desc).map (fun d => d.parameters.length) = some 1 := by decide +kernel
