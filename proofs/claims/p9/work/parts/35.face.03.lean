theorem dgX11_where_0 : ∀ r ∈ ([(0, (.aload_n 0, 1)), (1, (.getfield 12, 3)), (4, (.getfield 167, 3)), (7, (.iload_n 1, 1)), (8, (.iload_n 2, 1)), (9, (.invokevirtual 163, 3)), (12, (.ireturn, 1))] : List (Nat × (Instr × Nat))), decode cX11_where r.1 = .ok r.2 := by decide +kernel
theorem dX11_where_0 : decode cX11_where 0 = .ok (.aload_n 0, 1) := dgX11_where_0 (0, (.aload_n 0, 1)) (List.mem_of_getElem? (i := 0) rfl)
theorem dX11_where_1 : decode cX11_where 1 = .ok (.getfield 12, 3) := dgX11_where_0 (1, (.getfield 12, 3)) (List.mem_of_getElem? (i := 1) rfl)
theorem dX11_where_4 : decode cX11_where 4 = .ok (.getfield 167, 3) := dgX11_where_0 (4, (.getfield 167, 3)) (List.mem_of_getElem? (i := 2) rfl)
theorem dX11_where_7 : decode cX11_where 7 = .ok (.iload_n 1, 1) := dgX11_where_0 (7, (.iload_n 1, 1)) (List.mem_of_getElem? (i := 3) rfl)
theorem dX11_where_8 : decode cX11_where 8 = .ok (.iload_n 2, 1) := dgX11_where_0 (8, (.iload_n 2, 1)) (List.mem_of_getElem? (i := 4) rfl)
theorem dX11_where_9 : decode cX11_where 9 = .ok (.invokevirtual 163, 3) := dgX11_where_0 (9, (.invokevirtual 163, 3)) (List.mem_of_getElem? (i := 5) rfl)
theorem dX11_where_12 : decode cX11_where 12 = .ok (.ireturn, 1) := dgX11_where_0 (12, (.ireturn, 1)) (List.mem_of_getElem? (i := 6) rfl)
theorem dgX11_least_0 : ∀ r ∈ ([(0, (.iload_n 1, 1)), (1, (.ifCond .lt 9, 3)), (4, (.iload_n 1, 1)), (5, (.ldc 181, 2)), (7, (.if_icmp .le 9, 3)), (10, (.aload_n 0, 1)), (11, (.iconst (-1), 1)), (12, (.invokevirtual 104, 3)), (15, (.ireturn, 1)), (16, (.aload_n 0, 1)), (17, (.getfield 12, 3)), (20, (.getfield 182, 3)), (23, (.istore_n 2, 1)), (24, (.aload_n 0, 1)), (25, (.getfield 12, 3)), (28, (.iload_n 1, 1)), (29, (.putfield 182, 3)), (32, (.aload_n 0, 1)), (33, (.iload_n 2, 1)), (34, (.invokevirtual 121, 3)), (37, (.ireturn, 1))] : List (Nat × (Instr × Nat))), decode cX11_least r.1 = .ok r.2 := by decide +kernel
theorem dX11_least_0 : decode cX11_least 0 = .ok (.iload_n 1, 1) := dgX11_least_0 (0, (.iload_n 1, 1)) (List.mem_of_getElem? (i := 0) rfl)
theorem dX11_least_1 : decode cX11_least 1 = .ok (.ifCond .lt 9, 3) := dgX11_least_0 (1, (.ifCond .lt 9, 3)) (List.mem_of_getElem? (i := 1) rfl)
theorem dX11_least_4 : decode cX11_least 4 = .ok (.iload_n 1, 1) := dgX11_least_0 (4, (.iload_n 1, 1)) (List.mem_of_getElem? (i := 2) rfl)
theorem dX11_least_5 : decode cX11_least 5 = .ok (.ldc 181, 2) := dgX11_least_0 (5, (.ldc 181, 2)) (List.mem_of_getElem? (i := 3) rfl)
theorem dX11_least_7 : decode cX11_least 7 = .ok (.if_icmp .le 9, 3) := dgX11_least_0 (7, (.if_icmp .le 9, 3)) (List.mem_of_getElem? (i := 4) rfl)
theorem dX11_least_10 : decode cX11_least 10 = .ok (.aload_n 0, 1) := dgX11_least_0 (10, (.aload_n 0, 1)) (List.mem_of_getElem? (i := 5) rfl)
theorem dX11_least_11 : decode cX11_least 11 = .ok (.iconst (-1), 1) := dgX11_least_0 (11, (.iconst (-1), 1)) (List.mem_of_getElem? (i := 6) rfl)
theorem dX11_least_12 : decode cX11_least 12 = .ok (.invokevirtual 104, 3) := dgX11_least_0 (12, (.invokevirtual 104, 3)) (List.mem_of_getElem? (i := 7) rfl)
theorem dX11_least_15 : decode cX11_least 15 = .ok (.ireturn, 1) := dgX11_least_0 (15, (.ireturn, 1)) (List.mem_of_getElem? (i := 8) rfl)
theorem dX11_least_16 : decode cX11_least 16 = .ok (.aload_n 0, 1) := dgX11_least_0 (16, (.aload_n 0, 1)) (List.mem_of_getElem? (i := 9) rfl)
theorem dX11_least_17 : decode cX11_least 17 = .ok (.getfield 12, 3) := dgX11_least_0 (17, (.getfield 12, 3)) (List.mem_of_getElem? (i := 10) rfl)
theorem dX11_least_20 : decode cX11_least 20 = .ok (.getfield 182, 3) := dgX11_least_0 (20, (.getfield 182, 3)) (List.mem_of_getElem? (i := 11) rfl)
theorem dX11_least_23 : decode cX11_least 23 = .ok (.istore_n 2, 1) := dgX11_least_0 (23, (.istore_n 2, 1)) (List.mem_of_getElem? (i := 12) rfl)
theorem dX11_least_24 : decode cX11_least 24 = .ok (.aload_n 0, 1) := dgX11_least_0 (24, (.aload_n 0, 1)) (List.mem_of_getElem? (i := 13) rfl)
theorem dX11_least_25 : decode cX11_least 25 = .ok (.getfield 12, 3) := dgX11_least_0 (25, (.getfield 12, 3)) (List.mem_of_getElem? (i := 14) rfl)
theorem dX11_least_28 : decode cX11_least 28 = .ok (.iload_n 1, 1) := dgX11_least_0 (28, (.iload_n 1, 1)) (List.mem_of_getElem? (i := 15) rfl)
theorem dX11_least_29 : decode cX11_least 29 = .ok (.putfield 182, 3) := dgX11_least_0 (29, (.putfield 182, 3)) (List.mem_of_getElem? (i := 16) rfl)
theorem dX11_least_32 : decode cX11_least 32 = .ok (.aload_n 0, 1) := dgX11_least_0 (32, (.aload_n 0, 1)) (List.mem_of_getElem? (i := 17) rfl)
theorem dX11_least_33 : decode cX11_least 33 = .ok (.iload_n 2, 1) := dgX11_least_0 (33, (.iload_n 2, 1)) (List.mem_of_getElem? (i := 18) rfl)
theorem dX11_least_34 : decode cX11_least 34 = .ok (.invokevirtual 121, 3) := dgX11_least_0 (34, (.invokevirtual 121, 3)) (List.mem_of_getElem? (i := 19) rfl)
theorem dX11_least_37 : decode cX11_least 37 = .ok (.ireturn, 1) := dgX11_least_0 (37, (.ireturn, 1)) (List.mem_of_getElem? (i := 20) rfl)
theorem ki_X11_181 : Cond.constant RX11 181 1000000 ∈ tblG := tg 612 (by decide +kernel) (by decide +kernel)
theorem fl_X11_182 : Cond.fieldLink RX11 182 "LateGlass$House" "least" "I" ∈ tblG := tg 159 (by decide +kernel) (by decide +kernel)
theorem dgX11_write_0 : ∀ r ∈ ([(0, (.bipush 24, 2)), (2, (.istore_n 2, 1)), (3, (.iload_n 2, 1)), (4, (.ifCond .lt 47, 3)), (7, (.aload_n 0, 1)), (8, (.getfield 74, 3)), (11, (.aload_n 0, 1)), (12, (.getfield 70, 3)), (15, (.arraylength, 1)), (16, (.if_icmp .ge 35, 3)), (19, (.aload_n 0, 1)), (20, (.getfield 70, 3)), (23, (.aload_n 0, 1)), (24, (.getfield 74, 3)), (27, (.iload_n 1, 1)), (28, (.iload_n 2, 1)), (29, (.iushr, 1)), (30, (.sipush 255, 3)), (33, (.iand, 1)), (34, (.iastore, 1)), (35, (.aload_n 0, 1)), (36, (.dup, 1)), (37, (.getfield 74, 3)), (40, (.iconst 1, 1)), (41, (.iadd, 1)), (42, (.putfield 74, 3)), (45, (.iinc 2 (-8), 3)), (48, (.goto (-45), 3)), (51, (.return_, 1))] : List (Nat × (Instr × Nat))), decode cX11_write r.1 = .ok r.2 := by decide +kernel
theorem dX11_write_0 : decode cX11_write 0 = .ok (.bipush 24, 2) := dgX11_write_0 (0, (.bipush 24, 2)) (List.mem_of_getElem? (i := 0) rfl)
theorem dX11_write_2 : decode cX11_write 2 = .ok (.istore_n 2, 1) := dgX11_write_0 (2, (.istore_n 2, 1)) (List.mem_of_getElem? (i := 1) rfl)
theorem dX11_write_3 : decode cX11_write 3 = .ok (.iload_n 2, 1) := dgX11_write_0 (3, (.iload_n 2, 1)) (List.mem_of_getElem? (i := 2) rfl)
theorem dX11_write_4 : decode cX11_write 4 = .ok (.ifCond .lt 47, 3) := dgX11_write_0 (4, (.ifCond .lt 47, 3)) (List.mem_of_getElem? (i := 3) rfl)
theorem dX11_write_7 : decode cX11_write 7 = .ok (.aload_n 0, 1) := dgX11_write_0 (7, (.aload_n 0, 1)) (List.mem_of_getElem? (i := 4) rfl)
theorem dX11_write_8 : decode cX11_write 8 = .ok (.getfield 74, 3) := dgX11_write_0 (8, (.getfield 74, 3)) (List.mem_of_getElem? (i := 5) rfl)
theorem dX11_write_11 : decode cX11_write 11 = .ok (.aload_n 0, 1) := dgX11_write_0 (11, (.aload_n 0, 1)) (List.mem_of_getElem? (i := 6) rfl)
theorem dX11_write_12 : decode cX11_write 12 = .ok (.getfield 70, 3) := dgX11_write_0 (12, (.getfield 70, 3)) (List.mem_of_getElem? (i := 7) rfl)
theorem dX11_write_15 : decode cX11_write 15 = .ok (.arraylength, 1) := dgX11_write_0 (15, (.arraylength, 1)) (List.mem_of_getElem? (i := 8) rfl)
theorem dX11_write_16 : decode cX11_write 16 = .ok (.if_icmp .ge 35, 3) := dgX11_write_0 (16, (.if_icmp .ge 35, 3)) (List.mem_of_getElem? (i := 9) rfl)
theorem dX11_write_19 : decode cX11_write 19 = .ok (.aload_n 0, 1) := dgX11_write_0 (19, (.aload_n 0, 1)) (List.mem_of_getElem? (i := 10) rfl)
theorem dX11_write_20 : decode cX11_write 20 = .ok (.getfield 70, 3) := dgX11_write_0 (20, (.getfield 70, 3)) (List.mem_of_getElem? (i := 11) rfl)
theorem dX11_write_23 : decode cX11_write 23 = .ok (.aload_n 0, 1) := dgX11_write_0 (23, (.aload_n 0, 1)) (List.mem_of_getElem? (i := 12) rfl)
theorem dX11_write_24 : decode cX11_write 24 = .ok (.getfield 74, 3) := dgX11_write_0 (24, (.getfield 74, 3)) (List.mem_of_getElem? (i := 13) rfl)
theorem dX11_write_27 : decode cX11_write 27 = .ok (.iload_n 1, 1) := dgX11_write_0 (27, (.iload_n 1, 1)) (List.mem_of_getElem? (i := 14) rfl)
theorem dX11_write_28 : decode cX11_write 28 = .ok (.iload_n 2, 1) := dgX11_write_0 (28, (.iload_n 2, 1)) (List.mem_of_getElem? (i := 15) rfl)
theorem dX11_write_29 : decode cX11_write 29 = .ok (.iushr, 1) := dgX11_write_0 (29, (.iushr, 1)) (List.mem_of_getElem? (i := 16) rfl)
theorem dX11_write_30 : decode cX11_write 30 = .ok (.sipush 255, 3) := dgX11_write_0 (30, (.sipush 255, 3)) (List.mem_of_getElem? (i := 17) rfl)
theorem dX11_write_33 : decode cX11_write 33 = .ok (.iand, 1) := dgX11_write_0 (33, (.iand, 1)) (List.mem_of_getElem? (i := 18) rfl)
theorem dX11_write_34 : decode cX11_write 34 = .ok (.iastore, 1) := dgX11_write_0 (34, (.iastore, 1)) (List.mem_of_getElem? (i := 19) rfl)
theorem dX11_write_35 : decode cX11_write 35 = .ok (.aload_n 0, 1) := dgX11_write_0 (35, (.aload_n 0, 1)) (List.mem_of_getElem? (i := 20) rfl)
theorem dX11_write_36 : decode cX11_write 36 = .ok (.dup, 1) := dgX11_write_0 (36, (.dup, 1)) (List.mem_of_getElem? (i := 21) rfl)
theorem dX11_write_37 : decode cX11_write 37 = .ok (.getfield 74, 3) := dgX11_write_0 (37, (.getfield 74, 3)) (List.mem_of_getElem? (i := 22) rfl)
theorem dX11_write_40 : decode cX11_write 40 = .ok (.iconst 1, 1) := dgX11_write_0 (40, (.iconst 1, 1)) (List.mem_of_getElem? (i := 23) rfl)
theorem dX11_write_41 : decode cX11_write 41 = .ok (.iadd, 1) := dgX11_write_0 (41, (.iadd, 1)) (List.mem_of_getElem? (i := 24) rfl)
theorem dX11_write_42 : decode cX11_write 42 = .ok (.putfield 74, 3) := dgX11_write_0 (42, (.putfield 74, 3)) (List.mem_of_getElem? (i := 25) rfl)
theorem dX11_write_45 : decode cX11_write 45 = .ok (.iinc 2 (-8), 3) := dgX11_write_0 (45, (.iinc 2 (-8), 3)) (List.mem_of_getElem? (i := 26) rfl)
theorem dX11_write_48 : decode cX11_write 48 = .ok (.goto (-45), 3) := dgX11_write_0 (48, (.goto (-45), 3)) (List.mem_of_getElem? (i := 27) rfl)
theorem dX11_write_51 : decode cX11_write 51 = .ok (.return_, 1) := dgX11_write_0 (51, (.return_, 1)) (List.mem_of_getElem? (i := 28) rfl)
theorem fl_X11_74 : Cond.fieldLink RX11 74 "LateGlass" "tapeLength" "I" ∈ tblG := tg 454 (by decide +kernel) (by decide +kernel)
theorem fl_X11_70 : Cond.fieldLink RX11 70 "LateGlass" "tape" "[I" ∈ tblG := tg 453 (by decide +kernel) (by decide +kernel)
theorem dgX11_feed_0 : ∀ r ∈ ([(0, (.aload_n 0, 1)), (1, (.getfield 74, 3)), (4, (.bipush 20, 2)), (6, (.iadd, 1)), (7, (.sipush 400, 3)), (10, (.if_icmp .le 5, 3)), (13, (.iconst (-1), 1)), (14, (.ireturn, 1)), (15, (.aload_n 0, 1)), (16, (.iload_n 1, 1)), (17, (.invokevirtual 185, 3)), (20, (.aload_n 0, 1)), (21, (.iload_n 2, 1)), (22, (.invokevirtual 185, 3)), (25, (.aload_n 0, 1)), (26, (.iload_n 3, 1)), (27, (.invokevirtual 185, 3)), (30, (.aload_n 0, 1)), (31, (.iload 4, 2)), (33, (.invokevirtual 185, 3)), (36, (.aload_n 0, 1)), (37, (.iload 5, 2)), (39, (.invokevirtual 185, 3)), (42, (.aload_n 0, 1)), (43, (.getfield 74, 3)), (46, (.ireturn, 1))] : List (Nat × (Instr × Nat))), decode cX11_feed r.1 = .ok r.2 := by decide +kernel
theorem dX11_feed_0 : decode cX11_feed 0 = .ok (.aload_n 0, 1) := dgX11_feed_0 (0, (.aload_n 0, 1)) (List.mem_of_getElem? (i := 0) rfl)
theorem dX11_feed_1 : decode cX11_feed 1 = .ok (.getfield 74, 3) := dgX11_feed_0 (1, (.getfield 74, 3)) (List.mem_of_getElem? (i := 1) rfl)
theorem dX11_feed_4 : decode cX11_feed 4 = .ok (.bipush 20, 2) := dgX11_feed_0 (4, (.bipush 20, 2)) (List.mem_of_getElem? (i := 2) rfl)
theorem dX11_feed_6 : decode cX11_feed 6 = .ok (.iadd, 1) := dgX11_feed_0 (6, (.iadd, 1)) (List.mem_of_getElem? (i := 3) rfl)
theorem dX11_feed_7 : decode cX11_feed 7 = .ok (.sipush 400, 3) := dgX11_feed_0 (7, (.sipush 400, 3)) (List.mem_of_getElem? (i := 4) rfl)
theorem dX11_feed_10 : decode cX11_feed 10 = .ok (.if_icmp .le 5, 3) := dgX11_feed_0 (10, (.if_icmp .le 5, 3)) (List.mem_of_getElem? (i := 5) rfl)
theorem dX11_feed_13 : decode cX11_feed 13 = .ok (.iconst (-1), 1) := dgX11_feed_0 (13, (.iconst (-1), 1)) (List.mem_of_getElem? (i := 6) rfl)
theorem dX11_feed_14 : decode cX11_feed 14 = .ok (.ireturn, 1) := dgX11_feed_0 (14, (.ireturn, 1)) (List.mem_of_getElem? (i := 7) rfl)
theorem dX11_feed_15 : decode cX11_feed 15 = .ok (.aload_n 0, 1) := dgX11_feed_0 (15, (.aload_n 0, 1)) (List.mem_of_getElem? (i := 8) rfl)
theorem dX11_feed_16 : decode cX11_feed 16 = .ok (.iload_n 1, 1) := dgX11_feed_0 (16, (.iload_n 1, 1)) (List.mem_of_getElem? (i := 9) rfl)
theorem dX11_feed_17 : decode cX11_feed 17 = .ok (.invokevirtual 185, 3) := dgX11_feed_0 (17, (.invokevirtual 185, 3)) (List.mem_of_getElem? (i := 10) rfl)
theorem dX11_feed_20 : decode cX11_feed 20 = .ok (.aload_n 0, 1) := dgX11_feed_0 (20, (.aload_n 0, 1)) (List.mem_of_getElem? (i := 11) rfl)
theorem dX11_feed_21 : decode cX11_feed 21 = .ok (.iload_n 2, 1) := dgX11_feed_0 (21, (.iload_n 2, 1)) (List.mem_of_getElem? (i := 12) rfl)
theorem dX11_feed_22 : decode cX11_feed 22 = .ok (.invokevirtual 185, 3) := dgX11_feed_0 (22, (.invokevirtual 185, 3)) (List.mem_of_getElem? (i := 13) rfl)
theorem dX11_feed_25 : decode cX11_feed 25 = .ok (.aload_n 0, 1) := dgX11_feed_0 (25, (.aload_n 0, 1)) (List.mem_of_getElem? (i := 14) rfl)
theorem dX11_feed_26 : decode cX11_feed 26 = .ok (.iload_n 3, 1) := dgX11_feed_0 (26, (.iload_n 3, 1)) (List.mem_of_getElem? (i := 15) rfl)
theorem dX11_feed_27 : decode cX11_feed 27 = .ok (.invokevirtual 185, 3) := dgX11_feed_0 (27, (.invokevirtual 185, 3)) (List.mem_of_getElem? (i := 16) rfl)
theorem dX11_feed_30 : decode cX11_feed 30 = .ok (.aload_n 0, 1) := dgX11_feed_0 (30, (.aload_n 0, 1)) (List.mem_of_getElem? (i := 17) rfl)
theorem dX11_feed_31 : decode cX11_feed 31 = .ok (.iload 4, 2) := dgX11_feed_0 (31, (.iload 4, 2)) (List.mem_of_getElem? (i := 18) rfl)
theorem dX11_feed_33 : decode cX11_feed 33 = .ok (.invokevirtual 185, 3) := dgX11_feed_0 (33, (.invokevirtual 185, 3)) (List.mem_of_getElem? (i := 19) rfl)
theorem dX11_feed_36 : decode cX11_feed 36 = .ok (.aload_n 0, 1) := dgX11_feed_0 (36, (.aload_n 0, 1)) (List.mem_of_getElem? (i := 20) rfl)
theorem dX11_feed_37 : decode cX11_feed 37 = .ok (.iload 5, 2) := dgX11_feed_0 (37, (.iload 5, 2)) (List.mem_of_getElem? (i := 21) rfl)
theorem dX11_feed_39 : decode cX11_feed 39 = .ok (.invokevirtual 185, 3) := dgX11_feed_0 (39, (.invokevirtual 185, 3)) (List.mem_of_getElem? (i := 22) rfl)
theorem dX11_feed_42 : decode cX11_feed 42 = .ok (.aload_n 0, 1) := dgX11_feed_0 (42, (.aload_n 0, 1)) (List.mem_of_getElem? (i := 23) rfl)
theorem dX11_feed_43 : decode cX11_feed 43 = .ok (.getfield 74, 3) := dgX11_feed_0 (43, (.getfield 74, 3)) (List.mem_of_getElem? (i := 24) rfl)
theorem dX11_feed_46 : decode cX11_feed 46 = .ok (.ireturn, 1) := dgX11_feed_0 (46, (.ireturn, 1)) (List.mem_of_getElem? (i := 25) rfl)
theorem ml_X11_185 : Cond.methodLink RX11 185 yX11_write ∈ tblG := tg 617 (by decide +kernel) (by decide +kernel)
theorem im_X11_write : Cond.instanceMethod yX11_write ∈ tblG := tg 619 (by decide +kernel) (by decide +kernel)
theorem se_X11_write : Cond.selects RX11 yX11_write yX11_write ∈ tblG := tg 2 (by decide +kernel) (by decide +kernel)
theorem cd_X11_write : Cond.code yX11_write cX11_write 3 none ∈ tblG := tg 620 (by decide +kernel) (by decide +kernel)
theorem gW_X11_write : GoodIn tblG (wsG yX11_write cX11_write 3 none) := tgi cd_X11_write
theorem gV_X11_185 : GoodIn tblG (wsV RX11 185 RX11 yX11_write (wsG yX11_write cX11_write 3 none)) := tgV ml_X11_185 im_X11_write se_X11_write ini_X11 gW_X11_write
theorem hv_X11_write : yX11_write.cls = RX11 ∧ yX11_write.cls ≠ "java/lang/invoke/MethodHandle" ∧ yX11_write.cls ≠ "java/lang/invoke/VarHandle" ∧ (parseMethodDescriptor yX11_write.desc).map (fun d => d.parameters.length) = some 1 := by decide +kernel
theorem dgX11_end_0 : ∀ r ∈ ([(0, (.iload_n 1, 1)), (1, (.ifCond .lt 11, 3)), (4, (.iload_n 1, 1)), (5, (.aload_n 0, 1)), (6, (.getfield 74, 3)), (9, (.if_icmp .le 5, 3)), (12, (.iconst (-1), 1)), (13, (.ireturn, 1)), (14, (.aload_n 0, 1)), (15, (.iload_n 1, 1)), (16, (.putfield 74, 3)), (19, (.iload_n 1, 1)), (20, (.ireturn, 1))] : List (Nat × (Instr × Nat))), decode cX11_end r.1 = .ok r.2 := by decide +kernel
theorem dX11_end_0 : decode cX11_end 0 = .ok (.iload_n 1, 1) := dgX11_end_0 (0, (.iload_n 1, 1)) (List.mem_of_getElem? (i := 0) rfl)
theorem dX11_end_1 : decode cX11_end 1 = .ok (.ifCond .lt 11, 3) := dgX11_end_0 (1, (.ifCond .lt 11, 3)) (List.mem_of_getElem? (i := 1) rfl)
theorem dX11_end_4 : decode cX11_end 4 = .ok (.iload_n 1, 1) := dgX11_end_0 (4, (.iload_n 1, 1)) (List.mem_of_getElem? (i := 2) rfl)
theorem dX11_end_5 : decode cX11_end 5 = .ok (.aload_n 0, 1) := dgX11_end_0 (5, (.aload_n 0, 1)) (List.mem_of_getElem? (i := 3) rfl)
theorem dX11_end_6 : decode cX11_end 6 = .ok (.getfield 74, 3) := dgX11_end_0 (6, (.getfield 74, 3)) (List.mem_of_getElem? (i := 4) rfl)
theorem dX11_end_9 : decode cX11_end 9 = .ok (.if_icmp .le 5, 3) := dgX11_end_0 (9, (.if_icmp .le 5, 3)) (List.mem_of_getElem? (i := 5) rfl)
theorem dX11_end_12 : decode cX11_end 12 = .ok (.iconst (-1), 1) := dgX11_end_0 (12, (.iconst (-1), 1)) (List.mem_of_getElem? (i := 6) rfl)
theorem dX11_end_13 : decode cX11_end 13 = .ok (.ireturn, 1) := dgX11_end_0 (13, (.ireturn, 1)) (List.mem_of_getElem? (i := 7) rfl)
theorem dX11_end_14 : decode cX11_end 14 = .ok (.aload_n 0, 1) := dgX11_end_0 (14, (.aload_n 0, 1)) (List.mem_of_getElem? (i := 8) rfl)
theorem dX11_end_15 : decode cX11_end 15 = .ok (.iload_n 1, 1) := dgX11_end_0 (15, (.iload_n 1, 1)) (List.mem_of_getElem? (i := 9) rfl)
theorem dX11_end_16 : decode cX11_end 16 = .ok (.putfield 74, 3) := dgX11_end_0 (16, (.putfield 74, 3)) (List.mem_of_getElem? (i := 10) rfl)
theorem dX11_end_19 : decode cX11_end 19 = .ok (.iload_n 1, 1) := dgX11_end_0 (19, (.iload_n 1, 1)) (List.mem_of_getElem? (i := 11) rfl)
theorem dX11_end_20 : decode cX11_end 20 = .ok (.ireturn, 1) := dgX11_end_0 (20, (.ireturn, 1)) (List.mem_of_getElem? (i := 12) rfl)
theorem dX11_faded_0 : decode cX11_faded 0 = .ok (.aload_n 0, 1) := by decide +kernel
theorem dX11_faded_1 : decode cX11_faded 1 = .ok (.getfield 78, 3) := by decide +kernel
theorem dX11_faded_4 : decode cX11_faded 4 = .ok (.ireturn, 1) := by decide +kernel
theorem fl_X11_78 : Cond.fieldLink RX11 78 "LateGlass" "fadedStays" "I" ∈ tblG := tg 455 (by decide +kernel) (by decide +kernel)
set_option maxHeartbeats 4000000 in
set_option maxRecDepth 100000 in
theorem x_faded (l : Launch) (G : g5_G) (a_o a_h a_im a_ke a_k a_wa a_th a_ha a_wk a_r a_x a_wd a_rf : Nat) (sz : Nat) (e_tl : Int32) (e_fd : Int32) (e_fpl : Int32) (e_wn : Int32) (e_lr : Int32) (h_e_tl : 0 ≤ e_tl.toInt ∧ e_tl.toInt ≤ 400) (h_e_wn : 0 ≤ e_wn.toInt ∧ e_wn.toInt ≤ 1) : Met l yX11_faded (wsG yX11_faded cX11_faded 1 (some .int)) ({ frames := 0, cells := 0, slots := 0, locals := 0 }) (va_Pc [.ref a_o] (g5_P G [(a_o, (oc11 a_h a_im a_ke a_k a_wa a_th a_ha a_wk a_r a_x e_tl e_fd e_fpl a_wd e_wn a_rf e_lr))] sz)) (va_Qi (fun (r : Int32) (u : va_W) => ((r = e_fd) ∧ (u = [(a_o, (oc11 a_h a_im a_ke a_k a_wa a_th a_ha a_wk a_r a_x e_tl e_fd e_fpl a_wd e_wn a_rf e_lr))]))) (g5_B G (va_A [(a_o, (oc11 a_h a_im a_ke a_k a_wa a_th a_ha a_wk a_r a_x e_tl e_fd e_fpl a_wd e_wn a_rf e_lr))] sz)) (va_A [(a_o, (oc11 a_h a_im a_ke a_k a_wa a_th a_ha a_wk a_r a_x e_tl e_fd e_fpl a_wd e_wn a_rf e_lr))] sz)) 0 0 (va_A [(a_o, (oc11 a_h a_im a_ke a_k a_wa a_th a_ha a_wk a_r a_x e_tl e_fd e_fpl a_wd e_wn a_rf e_lr))] sz) := by
  refine Met.ofW (cc := cX11_faded) (maxL := 1) (ret := (some .int)) (by decide) rfl ?_
  intro p e s m args below meth c s₁ B hml hv
  obtain ⟨rfl, hsz, hP, hK, hD0, hN, hT⟩ := hv
  have hx := B.exec
  have hb := B.bytes
  have hr := B.returns
  have hts : ∀ w ∈ tblG, w.before _ s = true := fun w h => atoms_spec (ws := (wsG yX11_faded cX11_faded 1 (some .int))) B.pre w (List.mem_cons_of_mem _ h)
  have hown : s.vm.findClass RX11 = some m.cls := findClass_of_methodNamed B.named
  have hlocks := B.notSynchronized
  subst hsz
  have hD := hD0.self (sz := s.heap.size)
  generalize hAe : va_A [(a_o, (oc11 a_h a_im a_ke a_k a_wa a_th a_ha a_wk a_r a_x e_tl e_fd e_fpl a_wd e_wn a_rf e_lr))] s.heap.size = A at hD hT ⊢
  have hA : ∀ q : Nat, s.heap.size ≤ q → A q := fun q h => by rw [← hAe]; exact Or.inr h
  have hS : va_S A s.heap s.heap [] := va_S.rf
  have hP : va_P G.1 vwCl [(a_o, (oc11 a_h a_im a_ke a_k a_wa a_th a_ha a_wk a_r a_x e_tl e_fd e_fpl a_wd e_wn a_rf e_lr))] s.heap := hP
  have hl := lv_entry ([.ref a_o]) (n := 1) (Nat.le_of_ble_eq_true rfl)
  rw [lg_entry_eq]
  generalize (lg_sl ([.ref a_o]) ++ List.replicate (1 - (lg_sl ([.ref a_o])).length) Slot.unset).toArray = ls at hl ⊢
  have hl : lv_has ls 1 [(0, .ref a_o)] := hl
  refine lv_aload_n hx hb dX11_faded_0 rfl (lv_at hl 0 rfl) ?_
  refine va_get (D := G.1) (ci := 11) (v := .int e_fd) (C := RX11) (T := TX11) (N := 17) hx hb hts inG_X11 hown hK hP 0 rfl rfl 11 (by decide) (hts _ fl_X11_78) (fun _ h9 => h9) rfl dX11_faded_1 ?_
  exact W.iret (v := e_fd) hx hb hr (fun t ht hW => ⟨⟨e_fd, [(a_o, (oc11 a_h a_im a_ke a_k a_wa a_th a_ha a_wk a_r a_x e_tl e_fd e_fpl a_wd e_wn a_rf e_lr))], rfl, ⟨rfl, rfl⟩, by rw [ht]; exact hP.sub [0] rfl, hD.sub [0] (by decide) rfl⟩, hS.F ht⟩) hS.2.2 dX11_faded_4
theorem dX11_fault_0 : decode cX11_fault 0 = .ok (.aload_n 0, 1) := by decide +kernel
theorem dX11_fault_1 : decode cX11_fault 1 = .ok (.getfield 81, 3) := by decide +kernel
theorem dX11_fault_4 : decode cX11_fault 4 = .ok (.ireturn, 1) := by decide +kernel
theorem fl_X11_81 : Cond.fieldLink RX11 81 "LateGlass" "faultPlace" "I" ∈ tblG := tg 456 (by decide +kernel) (by decide +kernel)
set_option maxHeartbeats 4000000 in
set_option maxRecDepth 100000 in
theorem x_fault (l : Launch) (G : g5_G) (a_o a_h a_im a_ke a_k a_wa a_th a_ha a_wk a_r a_x a_wd a_rf : Nat) (sz : Nat) (e_tl : Int32) (e_fd : Int32) (e_fpl : Int32) (e_wn : Int32) (e_lr : Int32) (h_e_tl : 0 ≤ e_tl.toInt ∧ e_tl.toInt ≤ 400) (h_e_wn : 0 ≤ e_wn.toInt ∧ e_wn.toInt ≤ 1) : Met l yX11_fault (wsG yX11_fault cX11_fault 1 (some .int)) ({ frames := 0, cells := 0, slots := 0, locals := 0 }) (va_Pc [.ref a_o] (g5_P G [(a_o, (oc11 a_h a_im a_ke a_k a_wa a_th a_ha a_wk a_r a_x e_tl e_fd e_fpl a_wd e_wn a_rf e_lr))] sz)) (va_Qi (fun (r : Int32) (u : va_W) => ((r = e_fpl) ∧ (u = [(a_o, (oc11 a_h a_im a_ke a_k a_wa a_th a_ha a_wk a_r a_x e_tl e_fd e_fpl a_wd e_wn a_rf e_lr))]))) (g5_B G (va_A [(a_o, (oc11 a_h a_im a_ke a_k a_wa a_th a_ha a_wk a_r a_x e_tl e_fd e_fpl a_wd e_wn a_rf e_lr))] sz)) (va_A [(a_o, (oc11 a_h a_im a_ke a_k a_wa a_th a_ha a_wk a_r a_x e_tl e_fd e_fpl a_wd e_wn a_rf e_lr))] sz)) 0 0 (va_A [(a_o, (oc11 a_h a_im a_ke a_k a_wa a_th a_ha a_wk a_r a_x e_tl e_fd e_fpl a_wd e_wn a_rf e_lr))] sz) := by
  refine Met.ofW (cc := cX11_fault) (maxL := 1) (ret := (some .int)) (by decide) rfl ?_
  intro p e s m args below meth c s₁ B hml hv
  obtain ⟨rfl, hsz, hP, hK, hD0, hN, hT⟩ := hv
  have hx := B.exec
  have hb := B.bytes
  have hr := B.returns
  have hts : ∀ w ∈ tblG, w.before _ s = true := fun w h => atoms_spec (ws := (wsG yX11_fault cX11_fault 1 (some .int))) B.pre w (List.mem_cons_of_mem _ h)
  have hown : s.vm.findClass RX11 = some m.cls := findClass_of_methodNamed B.named
  have hlocks := B.notSynchronized
  subst hsz
  have hD := hD0.self (sz := s.heap.size)
  generalize hAe : va_A [(a_o, (oc11 a_h a_im a_ke a_k a_wa a_th a_ha a_wk a_r a_x e_tl e_fd e_fpl a_wd e_wn a_rf e_lr))] s.heap.size = A at hD hT ⊢
  have hA : ∀ q : Nat, s.heap.size ≤ q → A q := fun q h => by rw [← hAe]; exact Or.inr h
  have hS : va_S A s.heap s.heap [] := va_S.rf
  have hP : va_P G.1 vwCl [(a_o, (oc11 a_h a_im a_ke a_k a_wa a_th a_ha a_wk a_r a_x e_tl e_fd e_fpl a_wd e_wn a_rf e_lr))] s.heap := hP
  have hl := lv_entry ([.ref a_o]) (n := 1) (Nat.le_of_ble_eq_true rfl)
  rw [lg_entry_eq]
  generalize (lg_sl ([.ref a_o]) ++ List.replicate (1 - (lg_sl ([.ref a_o])).length) Slot.unset).toArray = ls at hl ⊢
  have hl : lv_has ls 1 [(0, .ref a_o)] := hl
  refine lv_aload_n hx hb dX11_fault_0 rfl (lv_at hl 0 rfl) ?_
  refine va_get (D := G.1) (ci := 11) (v := .int e_fpl) (C := RX11) (T := TX11) (N := 17) hx hb hts inG_X11 hown hK hP 0 rfl rfl 12 (by decide) (hts _ fl_X11_81) (fun _ h9 => h9) rfl dX11_fault_1 ?_
  exact W.iret (v := e_fpl) hx hb hr (fun t ht hW => ⟨⟨e_fpl, [(a_o, (oc11 a_h a_im a_ke a_k a_wa a_th a_ha a_wk a_r a_x e_tl e_fd e_fpl a_wd e_wn a_rf e_lr))], rfl, ⟨rfl, rfl⟩, by rw [ht]; exact hP.sub [0] rfl, hD.sub [0] (by decide) rfl⟩, hS.F ht⟩) hS.2.2 dX11_fault_4
theorem dX11_status_0 : decode cX11_status 0 = .ok (.aload_n 0, 1) := by decide +kernel
theorem dX11_status_1 : decode cX11_status 1 = .ok (.getfield 94, 3) := by decide +kernel
theorem dX11_status_4 : decode cX11_status 4 = .ok (.ireturn, 1) := by decide +kernel
set_option maxHeartbeats 4000000 in
set_option maxRecDepth 100000 in
theorem x_status (l : Launch) (G : g5_G) (a_o a_h a_im a_ke a_k a_wa a_th a_ha a_wk a_r a_x a_wd a_rf : Nat) (sz : Nat) (e_tl : Int32) (e_fd : Int32) (e_fpl : Int32) (e_wn : Int32) (e_lr : Int32) (h_e_tl : 0 ≤ e_tl.toInt ∧ e_tl.toInt ≤ 400) (h_e_wn : 0 ≤ e_wn.toInt ∧ e_wn.toInt ≤ 1) : Met l yX11_status (wsG yX11_status cX11_status 1 (some .int)) ({ frames := 0, cells := 0, slots := 0, locals := 0 }) (va_Pc [.ref a_o] (g5_P G [(a_o, (oc11 a_h a_im a_ke a_k a_wa a_th a_ha a_wk a_r a_x e_tl e_fd e_fpl a_wd e_wn a_rf e_lr))] sz)) (va_Qi (fun (r : Int32) (u : va_W) => ((r = e_lr) ∧ (u = [(a_o, (oc11 a_h a_im a_ke a_k a_wa a_th a_ha a_wk a_r a_x e_tl e_fd e_fpl a_wd e_wn a_rf e_lr))]))) (g5_B G (va_A [(a_o, (oc11 a_h a_im a_ke a_k a_wa a_th a_ha a_wk a_r a_x e_tl e_fd e_fpl a_wd e_wn a_rf e_lr))] sz)) (va_A [(a_o, (oc11 a_h a_im a_ke a_k a_wa a_th a_ha a_wk a_r a_x e_tl e_fd e_fpl a_wd e_wn a_rf e_lr))] sz)) 0 0 (va_A [(a_o, (oc11 a_h a_im a_ke a_k a_wa a_th a_ha a_wk a_r a_x e_tl e_fd e_fpl a_wd e_wn a_rf e_lr))] sz) := by
  refine Met.ofW (cc := cX11_status) (maxL := 1) (ret := (some .int)) (by decide) rfl ?_
  intro p e s m args below meth c s₁ B hml hv
  obtain ⟨rfl, hsz, hP, hK, hD0, hN, hT⟩ := hv
  have hx := B.exec
  have hb := B.bytes
  have hr := B.returns
  have hts : ∀ w ∈ tblG, w.before _ s = true := fun w h => atoms_spec (ws := (wsG yX11_status cX11_status 1 (some .int))) B.pre w (List.mem_cons_of_mem _ h)
  have hown : s.vm.findClass RX11 = some m.cls := findClass_of_methodNamed B.named
  have hlocks := B.notSynchronized
  subst hsz
  have hD := hD0.self (sz := s.heap.size)
  generalize hAe : va_A [(a_o, (oc11 a_h a_im a_ke a_k a_wa a_th a_ha a_wk a_r a_x e_tl e_fd e_fpl a_wd e_wn a_rf e_lr))] s.heap.size = A at hD hT ⊢
  have hA : ∀ q : Nat, s.heap.size ≤ q → A q := fun q h => by rw [← hAe]; exact Or.inr h
  have hS : va_S A s.heap s.heap [] := va_S.rf
  have hP : va_P G.1 vwCl [(a_o, (oc11 a_h a_im a_ke a_k a_wa a_th a_ha a_wk a_r a_x e_tl e_fd e_fpl a_wd e_wn a_rf e_lr))] s.heap := hP
  have hl := lv_entry ([.ref a_o]) (n := 1) (Nat.le_of_ble_eq_true rfl)
  rw [lg_entry_eq]
  generalize (lg_sl ([.ref a_o]) ++ List.replicate (1 - (lg_sl ([.ref a_o])).length) Slot.unset).toArray = ls at hl ⊢
  have hl : lv_has ls 1 [(0, .ref a_o)] := hl
  refine lv_aload_n hx hb dX11_status_0 rfl (lv_at hl 0 rfl) ?_
  refine va_get (D := G.1) (ci := 11) (v := .int e_lr) (C := RX11) (T := TX11) (N := 17) hx hb hts inG_X11 hown hK hP 0 rfl rfl 16 (by decide) (hts _ fl_X11_94) (fun _ h9 => h9) rfl dX11_status_1 ?_
  exact W.iret (v := e_lr) hx hb hr (fun t ht hW => ⟨⟨e_lr, [(a_o, (oc11 a_h a_im a_ke a_k a_wa a_th a_ha a_wk a_r a_x e_tl e_fd e_fpl a_wd e_wn a_rf e_lr))], rfl, ⟨rfl, rfl⟩, by rw [ht]; exact hP.sub [0] rfl, hD.sub [0] (by decide) rfl⟩, hS.F ht⟩) hS.2.2 dX11_status_4
theorem dgX11_drawn_0 : ∀ r ∈ ([(0, (.aload_n 0, 1)), (1, (.getfield 87, 3)), (4, (.ifCond .eq 19, 3)), (7, (.iload_n 1, 1)), (8, (.invokestatic 127, 3)), (11, (.ifCond .eq 12, 3)), (14, (.aload_n 0, 1)), (15, (.getfield 84, 3)), (18, (.iload_n 1, 1)), (19, (.iaload, 1)), (20, (.goto 4, 3)), (23, (.iconst (-1), 1)), (24, (.ireturn, 1))] : List (Nat × (Instr × Nat))), decode cX11_drawn r.1 = .ok r.2 := by decide +kernel
theorem dX11_drawn_0 : decode cX11_drawn 0 = .ok (.aload_n 0, 1) := dgX11_drawn_0 (0, (.aload_n 0, 1)) (List.mem_of_getElem? (i := 0) rfl)
theorem dX11_drawn_1 : decode cX11_drawn 1 = .ok (.getfield 87, 3) := dgX11_drawn_0 (1, (.getfield 87, 3)) (List.mem_of_getElem? (i := 1) rfl)
theorem dX11_drawn_4 : decode cX11_drawn 4 = .ok (.ifCond .eq 19, 3) := dgX11_drawn_0 (4, (.ifCond .eq 19, 3)) (List.mem_of_getElem? (i := 2) rfl)
theorem dX11_drawn_7 : decode cX11_drawn 7 = .ok (.iload_n 1, 1) := dgX11_drawn_0 (7, (.iload_n 1, 1)) (List.mem_of_getElem? (i := 3) rfl)
theorem dX11_drawn_8 : decode cX11_drawn 8 = .ok (.invokestatic 127, 3) := dgX11_drawn_0 (8, (.invokestatic 127, 3)) (List.mem_of_getElem? (i := 4) rfl)
theorem dX11_drawn_11 : decode cX11_drawn 11 = .ok (.ifCond .eq 12, 3) := dgX11_drawn_0 (11, (.ifCond .eq 12, 3)) (List.mem_of_getElem? (i := 5) rfl)
theorem dX11_drawn_14 : decode cX11_drawn 14 = .ok (.aload_n 0, 1) := dgX11_drawn_0 (14, (.aload_n 0, 1)) (List.mem_of_getElem? (i := 6) rfl)
theorem dX11_drawn_15 : decode cX11_drawn 15 = .ok (.getfield 84, 3) := dgX11_drawn_0 (15, (.getfield 84, 3)) (List.mem_of_getElem? (i := 7) rfl)
theorem dX11_drawn_18 : decode cX11_drawn 18 = .ok (.iload_n 1, 1) := dgX11_drawn_0 (18, (.iload_n 1, 1)) (List.mem_of_getElem? (i := 8) rfl)
theorem dX11_drawn_19 : decode cX11_drawn 19 = .ok (.iaload, 1) := dgX11_drawn_0 (19, (.iaload, 1)) (List.mem_of_getElem? (i := 9) rfl)
theorem dX11_drawn_20 : decode cX11_drawn 20 = .ok (.goto 4, 3) := dgX11_drawn_0 (20, (.goto 4, 3)) (List.mem_of_getElem? (i := 10) rfl)
theorem dX11_drawn_23 : decode cX11_drawn 23 = .ok (.iconst (-1), 1) := dgX11_drawn_0 (23, (.iconst (-1), 1)) (List.mem_of_getElem? (i := 11) rfl)
theorem dX11_drawn_24 : decode cX11_drawn 24 = .ok (.ireturn, 1) := dgX11_drawn_0 (24, (.ireturn, 1)) (List.mem_of_getElem? (i := 12) rfl)
theorem fl_X11_87 : Cond.fieldLink RX11 87 "LateGlass" "wandered" "Z" ∈ tblG := tg 458 (by decide +kernel) (by decide +kernel)
theorem fl_X11_84 : Cond.fieldLink RX11 84 "LateGlass" "wandering" "[I" ∈ tblG := tg 457 (by decide +kernel) (by decide +kernel)
theorem dgX11_force_0 : ∀ r ∈ ([(0, (.iload_n 1, 1)), (1, (.iconst (-1), 1)), (2, (.if_icmp .lt 14, 3)), (5, (.iload_n 1, 1)), (6, (.aload_n 0, 1)), (7, (.getfield 12, 3)), (10, (.getfield 192, 3)), (13, (.if_icmp .lt 10, 3)), (16, (.aload_n 0, 1)), (17, (.bipush (-2), 2)), (19, (.invokevirtual 104, 3)), (22, (.ireturn, 1)), (23, (.aload_n 0, 1)), (24, (.getfield 12, 3)), (27, (.getfield 204, 3)), (30, (.istore_n 2, 1)), (31, (.aload_n 0, 1)), (32, (.getfield 12, 3)), (35, (.iload_n 1, 1)), (36, (.putfield 204, 3)), (39, (.aload_n 0, 1)), (40, (.iload_n 2, 1)), (41, (.invokevirtual 121, 3)), (44, (.ireturn, 1))] : List (Nat × (Instr × Nat))), decode cX11_force r.1 = .ok r.2 := by decide +kernel
theorem dX11_force_0 : decode cX11_force 0 = .ok (.iload_n 1, 1) := dgX11_force_0 (0, (.iload_n 1, 1)) (List.mem_of_getElem? (i := 0) rfl)
theorem dX11_force_1 : decode cX11_force 1 = .ok (.iconst (-1), 1) := dgX11_force_0 (1, (.iconst (-1), 1)) (List.mem_of_getElem? (i := 1) rfl)
theorem dX11_force_2 : decode cX11_force 2 = .ok (.if_icmp .lt 14, 3) := dgX11_force_0 (2, (.if_icmp .lt 14, 3)) (List.mem_of_getElem? (i := 2) rfl)
theorem dX11_force_5 : decode cX11_force 5 = .ok (.iload_n 1, 1) := dgX11_force_0 (5, (.iload_n 1, 1)) (List.mem_of_getElem? (i := 3) rfl)
theorem dX11_force_6 : decode cX11_force 6 = .ok (.aload_n 0, 1) := dgX11_force_0 (6, (.aload_n 0, 1)) (List.mem_of_getElem? (i := 4) rfl)
theorem dX11_force_7 : decode cX11_force 7 = .ok (.getfield 12, 3) := dgX11_force_0 (7, (.getfield 12, 3)) (List.mem_of_getElem? (i := 5) rfl)
theorem dX11_force_10 : decode cX11_force 10 = .ok (.getfield 192, 3) := dgX11_force_0 (10, (.getfield 192, 3)) (List.mem_of_getElem? (i := 6) rfl)
theorem dX11_force_13 : decode cX11_force 13 = .ok (.if_icmp .lt 10, 3) := dgX11_force_0 (13, (.if_icmp .lt 10, 3)) (List.mem_of_getElem? (i := 7) rfl)
theorem dX11_force_16 : decode cX11_force 16 = .ok (.aload_n 0, 1) := dgX11_force_0 (16, (.aload_n 0, 1)) (List.mem_of_getElem? (i := 8) rfl)
theorem dX11_force_17 : decode cX11_force 17 = .ok (.bipush (-2), 2) := dgX11_force_0 (17, (.bipush (-2), 2)) (List.mem_of_getElem? (i := 9) rfl)
theorem dX11_force_19 : decode cX11_force 19 = .ok (.invokevirtual 104, 3) := dgX11_force_0 (19, (.invokevirtual 104, 3)) (List.mem_of_getElem? (i := 10) rfl)
theorem dX11_force_22 : decode cX11_force 22 = .ok (.ireturn, 1) := dgX11_force_0 (22, (.ireturn, 1)) (List.mem_of_getElem? (i := 11) rfl)
theorem dX11_force_23 : decode cX11_force 23 = .ok (.aload_n 0, 1) := dgX11_force_0 (23, (.aload_n 0, 1)) (List.mem_of_getElem? (i := 12) rfl)
theorem dX11_force_24 : decode cX11_force 24 = .ok (.getfield 12, 3) := dgX11_force_0 (24, (.getfield 12, 3)) (List.mem_of_getElem? (i := 13) rfl)
theorem dX11_force_27 : decode cX11_force 27 = .ok (.getfield 204, 3) := dgX11_force_0 (27, (.getfield 204, 3)) (List.mem_of_getElem? (i := 14) rfl)
theorem dX11_force_30 : decode cX11_force 30 = .ok (.istore_n 2, 1) := dgX11_force_0 (30, (.istore_n 2, 1)) (List.mem_of_getElem? (i := 15) rfl)
theorem dX11_force_31 : decode cX11_force 31 = .ok (.aload_n 0, 1) := dgX11_force_0 (31, (.aload_n 0, 1)) (List.mem_of_getElem? (i := 16) rfl)
theorem dX11_force_32 : decode cX11_force 32 = .ok (.getfield 12, 3) := dgX11_force_0 (32, (.getfield 12, 3)) (List.mem_of_getElem? (i := 17) rfl)
theorem dX11_force_35 : decode cX11_force 35 = .ok (.iload_n 1, 1) := dgX11_force_0 (35, (.iload_n 1, 1)) (List.mem_of_getElem? (i := 18) rfl)
theorem dX11_force_36 : decode cX11_force 36 = .ok (.putfield 204, 3) := dgX11_force_0 (36, (.putfield 204, 3)) (List.mem_of_getElem? (i := 19) rfl)
theorem dX11_force_39 : decode cX11_force 39 = .ok (.aload_n 0, 1) := dgX11_force_0 (39, (.aload_n 0, 1)) (List.mem_of_getElem? (i := 20) rfl)
theorem dX11_force_40 : decode cX11_force 40 = .ok (.iload_n 2, 1) := dgX11_force_0 (40, (.iload_n 2, 1)) (List.mem_of_getElem? (i := 21) rfl)
theorem dX11_force_41 : decode cX11_force 41 = .ok (.invokevirtual 121, 3) := dgX11_force_0 (41, (.invokevirtual 121, 3)) (List.mem_of_getElem? (i := 22) rfl)
theorem dX11_force_44 : decode cX11_force 44 = .ok (.ireturn, 1) := dgX11_force_0 (44, (.ireturn, 1)) (List.mem_of_getElem? (i := 23) rfl)
theorem fl_X11_192 : Cond.fieldLink RX11 192 "LateGlass$House" "lawCount" "I" ∈ tblG := tg 167 (by decide +kernel) (by decide +kernel)
theorem fl_X11_204 : Cond.fieldLink RX11 204 "LateGlass$House" "forced" "I" ∈ tblG := tg 165 (by decide +kernel) (by decide +kernel)
