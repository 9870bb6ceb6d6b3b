theorem dgX12_start_0 : ∀ r ∈ ([(0, (.aload_n 0, 1)), (1, (.iconst 0, 1)), (2, (.putfield 107, 3)), (5, (.iload_n 1, 1)), (6, (.i2l, 1)), (7, (.ldc2_w 178, 3)), (10, (.ldc2_w 128, 3)), (13, (.invokestatic 121, 3)), (16, (.ifCond .ne 9, 3)), (19, (.aload_n 0, 1)), (20, (.iconst (-1), 1)), (21, (.invokevirtual 125, 3)), (24, (.ireturn, 1)), (25, (.iload_n 1, 1)), (26, (.iconst (-1), 1)), (27, (.if_icmp .eq 29, 3)), (30, (.aload_n 0, 1)), (31, (.iload_n 1, 1)), (32, (.iconst (-1), 1)), (33, (.if_icmp .ne 7, 3)), (36, (.iconst 0, 1)), (37, (.goto 4, 3)), (40, (.iload_n 1, 1)), (41, (.invokevirtual 160, 3)), (44, (.ifCond .eq 12, 3)), (47, (.aload_n 0, 1)), (48, (.bipush (-3), 2)), (50, (.invokevirtual 125, 3)), (53, (.goto 10, 3)), (56, (.aload_n 0, 1)), (57, (.bipush 6, 2)), (59, (.iload_n 1, 1)), (60, (.invokevirtual 151, 3)), (63, (.ireturn, 1))] : List (Nat × (Instr × Nat))), decode cX12_start r.1 = .ok r.2 := by decide +kernel
theorem dX12_start_0 : decode cX12_start 0 = .ok (.aload_n 0, 1) := dgX12_start_0 (0, (.aload_n 0, 1)) (List.mem_of_getElem? (i := 0) rfl)
theorem dX12_start_1 : decode cX12_start 1 = .ok (.iconst 0, 1) := dgX12_start_0 (1, (.iconst 0, 1)) (List.mem_of_getElem? (i := 1) rfl)
theorem dX12_start_2 : decode cX12_start 2 = .ok (.putfield 107, 3) := dgX12_start_0 (2, (.putfield 107, 3)) (List.mem_of_getElem? (i := 2) rfl)
theorem dX12_start_5 : decode cX12_start 5 = .ok (.iload_n 1, 1) := dgX12_start_0 (5, (.iload_n 1, 1)) (List.mem_of_getElem? (i := 3) rfl)
theorem dX12_start_6 : decode cX12_start 6 = .ok (.i2l, 1) := dgX12_start_0 (6, (.i2l, 1)) (List.mem_of_getElem? (i := 4) rfl)
theorem dX12_start_7 : decode cX12_start 7 = .ok (.ldc2_w 178, 3) := dgX12_start_0 (7, (.ldc2_w 178, 3)) (List.mem_of_getElem? (i := 5) rfl)
theorem dX12_start_10 : decode cX12_start 10 = .ok (.ldc2_w 128, 3) := dgX12_start_0 (10, (.ldc2_w 128, 3)) (List.mem_of_getElem? (i := 6) rfl)
theorem dX12_start_13 : decode cX12_start 13 = .ok (.invokestatic 121, 3) := dgX12_start_0 (13, (.invokestatic 121, 3)) (List.mem_of_getElem? (i := 7) rfl)
theorem dX12_start_16 : decode cX12_start 16 = .ok (.ifCond .ne 9, 3) := dgX12_start_0 (16, (.ifCond .ne 9, 3)) (List.mem_of_getElem? (i := 8) rfl)
theorem dX12_start_19 : decode cX12_start 19 = .ok (.aload_n 0, 1) := dgX12_start_0 (19, (.aload_n 0, 1)) (List.mem_of_getElem? (i := 9) rfl)
theorem dX12_start_20 : decode cX12_start 20 = .ok (.iconst (-1), 1) := dgX12_start_0 (20, (.iconst (-1), 1)) (List.mem_of_getElem? (i := 10) rfl)
theorem dX12_start_21 : decode cX12_start 21 = .ok (.invokevirtual 125, 3) := dgX12_start_0 (21, (.invokevirtual 125, 3)) (List.mem_of_getElem? (i := 11) rfl)
theorem dX12_start_24 : decode cX12_start 24 = .ok (.ireturn, 1) := dgX12_start_0 (24, (.ireturn, 1)) (List.mem_of_getElem? (i := 12) rfl)
theorem dX12_start_25 : decode cX12_start 25 = .ok (.iload_n 1, 1) := dgX12_start_0 (25, (.iload_n 1, 1)) (List.mem_of_getElem? (i := 13) rfl)
theorem dX12_start_26 : decode cX12_start 26 = .ok (.iconst (-1), 1) := dgX12_start_0 (26, (.iconst (-1), 1)) (List.mem_of_getElem? (i := 14) rfl)
theorem dX12_start_27 : decode cX12_start 27 = .ok (.if_icmp .eq 29, 3) := dgX12_start_0 (27, (.if_icmp .eq 29, 3)) (List.mem_of_getElem? (i := 15) rfl)
theorem dX12_start_30 : decode cX12_start 30 = .ok (.aload_n 0, 1) := dgX12_start_0 (30, (.aload_n 0, 1)) (List.mem_of_getElem? (i := 16) rfl)
theorem dX12_start_31 : decode cX12_start 31 = .ok (.iload_n 1, 1) := dgX12_start_0 (31, (.iload_n 1, 1)) (List.mem_of_getElem? (i := 17) rfl)
theorem dX12_start_32 : decode cX12_start 32 = .ok (.iconst (-1), 1) := dgX12_start_0 (32, (.iconst (-1), 1)) (List.mem_of_getElem? (i := 18) rfl)
theorem dX12_start_33 : decode cX12_start 33 = .ok (.if_icmp .ne 7, 3) := dgX12_start_0 (33, (.if_icmp .ne 7, 3)) (List.mem_of_getElem? (i := 19) rfl)
theorem dX12_start_40 : decode cX12_start 40 = .ok (.iload_n 1, 1) := dgX12_start_0 (40, (.iload_n 1, 1)) (List.mem_of_getElem? (i := 22) rfl)
theorem dX12_start_41 : decode cX12_start 41 = .ok (.invokevirtual 160, 3) := dgX12_start_0 (41, (.invokevirtual 160, 3)) (List.mem_of_getElem? (i := 23) rfl)
theorem dX12_start_44 : decode cX12_start 44 = .ok (.ifCond .eq 12, 3) := dgX12_start_0 (44, (.ifCond .eq 12, 3)) (List.mem_of_getElem? (i := 24) rfl)
theorem dX12_start_47 : decode cX12_start 47 = .ok (.aload_n 0, 1) := dgX12_start_0 (47, (.aload_n 0, 1)) (List.mem_of_getElem? (i := 25) rfl)
theorem dX12_start_48 : decode cX12_start 48 = .ok (.bipush (-3), 2) := dgX12_start_0 (48, (.bipush (-3), 2)) (List.mem_of_getElem? (i := 26) rfl)
theorem dX12_start_50 : decode cX12_start 50 = .ok (.invokevirtual 125, 3) := dgX12_start_0 (50, (.invokevirtual 125, 3)) (List.mem_of_getElem? (i := 27) rfl)
theorem dX12_start_53 : decode cX12_start 53 = .ok (.goto 10, 3) := dgX12_start_0 (53, (.goto 10, 3)) (List.mem_of_getElem? (i := 28) rfl)
theorem dX12_start_56 : decode cX12_start 56 = .ok (.aload_n 0, 1) := dgX12_start_0 (56, (.aload_n 0, 1)) (List.mem_of_getElem? (i := 29) rfl)
theorem dX12_start_57 : decode cX12_start 57 = .ok (.bipush 6, 2) := dgX12_start_0 (57, (.bipush 6, 2)) (List.mem_of_getElem? (i := 30) rfl)
theorem dX12_start_59 : decode cX12_start 59 = .ok (.iload_n 1, 1) := dgX12_start_0 (59, (.iload_n 1, 1)) (List.mem_of_getElem? (i := 31) rfl)
theorem dX12_start_60 : decode cX12_start 60 = .ok (.invokevirtual 151, 3) := dgX12_start_0 (60, (.invokevirtual 151, 3)) (List.mem_of_getElem? (i := 32) rfl)
theorem dX12_start_63 : decode cX12_start 63 = .ok (.ireturn, 1) := dgX12_start_0 (63, (.ireturn, 1)) (List.mem_of_getElem? (i := 33) rfl)
theorem dgX12_count_0 : ∀ r ∈ ([(0, (.aload_n 0, 1)), (1, (.iconst 0, 1)), (2, (.putfield 107, 3)), (5, (.iconst 0, 1)), (6, (.istore_n 2, 1)), (7, (.iconst 0, 1)), (8, (.istore_n 3, 1)), (9, (.iload_n 3, 1)), (10, (.bipush 64, 2)), (12, (.if_icmp .ge 21, 3)), (15, (.iload_n 2, 1)), (16, (.aload_n 0, 1)), (17, (.getfield 13, 3)), (20, (.bipush 10, 2)), (22, (.iload_n 3, 1)), (23, (.iadd, 1)), (24, (.iaload, 1)), (25, (.iadd, 1)), (26, (.istore_n 2, 1)), (27, (.iinc 3 1, 3)), (30, (.goto (-21), 3)), (33, (.iload_n 1, 1)), (34, (.tableswitch 164 0 13 #[70, 77, 84, 91, 98, 106, 114, 116, 121, 128, 135, 142, 149, 157], 70)), (104, (.aload_n 0, 1)), (105, (.getfield 13, 3)), (108, (.iconst 0, 1)), (109, (.iaload, 1)), (110, (.ireturn, 1)), (111, (.aload_n 0, 1)), (112, (.getfield 13, 3)), (115, (.iconst 1, 1)), (116, (.iaload, 1)), (117, (.ireturn, 1)), (118, (.aload_n 0, 1)), (119, (.getfield 13, 3)), (122, (.iconst 2, 1)), (123, (.iaload, 1)), (124, (.ireturn, 1)), (125, (.aload_n 0, 1)), (126, (.getfield 13, 3))] : List (Nat × (Instr × Nat))), decode cX12_count r.1 = .ok r.2 := by decide +kernel
theorem dX12_count_0 : decode cX12_count 0 = .ok (.aload_n 0, 1) := dgX12_count_0 (0, (.aload_n 0, 1)) (List.mem_of_getElem? (i := 0) rfl)
theorem dX12_count_1 : decode cX12_count 1 = .ok (.iconst 0, 1) := dgX12_count_0 (1, (.iconst 0, 1)) (List.mem_of_getElem? (i := 1) rfl)
theorem dX12_count_2 : decode cX12_count 2 = .ok (.putfield 107, 3) := dgX12_count_0 (2, (.putfield 107, 3)) (List.mem_of_getElem? (i := 2) rfl)
theorem dX12_count_5 : decode cX12_count 5 = .ok (.iconst 0, 1) := dgX12_count_0 (5, (.iconst 0, 1)) (List.mem_of_getElem? (i := 3) rfl)
theorem dX12_count_6 : decode cX12_count 6 = .ok (.istore_n 2, 1) := dgX12_count_0 (6, (.istore_n 2, 1)) (List.mem_of_getElem? (i := 4) rfl)
theorem dX12_count_7 : decode cX12_count 7 = .ok (.iconst 0, 1) := dgX12_count_0 (7, (.iconst 0, 1)) (List.mem_of_getElem? (i := 5) rfl)
theorem dX12_count_8 : decode cX12_count 8 = .ok (.istore_n 3, 1) := dgX12_count_0 (8, (.istore_n 3, 1)) (List.mem_of_getElem? (i := 6) rfl)
theorem dX12_count_9 : decode cX12_count 9 = .ok (.iload_n 3, 1) := dgX12_count_0 (9, (.iload_n 3, 1)) (List.mem_of_getElem? (i := 7) rfl)
theorem dX12_count_10 : decode cX12_count 10 = .ok (.bipush 64, 2) := dgX12_count_0 (10, (.bipush 64, 2)) (List.mem_of_getElem? (i := 8) rfl)
theorem dX12_count_12 : decode cX12_count 12 = .ok (.if_icmp .ge 21, 3) := dgX12_count_0 (12, (.if_icmp .ge 21, 3)) (List.mem_of_getElem? (i := 9) rfl)
theorem dX12_count_15 : decode cX12_count 15 = .ok (.iload_n 2, 1) := dgX12_count_0 (15, (.iload_n 2, 1)) (List.mem_of_getElem? (i := 10) rfl)
theorem dX12_count_16 : decode cX12_count 16 = .ok (.aload_n 0, 1) := dgX12_count_0 (16, (.aload_n 0, 1)) (List.mem_of_getElem? (i := 11) rfl)
theorem dX12_count_17 : decode cX12_count 17 = .ok (.getfield 13, 3) := dgX12_count_0 (17, (.getfield 13, 3)) (List.mem_of_getElem? (i := 12) rfl)
theorem dX12_count_20 : decode cX12_count 20 = .ok (.bipush 10, 2) := dgX12_count_0 (20, (.bipush 10, 2)) (List.mem_of_getElem? (i := 13) rfl)
theorem dX12_count_22 : decode cX12_count 22 = .ok (.iload_n 3, 1) := dgX12_count_0 (22, (.iload_n 3, 1)) (List.mem_of_getElem? (i := 14) rfl)
theorem dX12_count_23 : decode cX12_count 23 = .ok (.iadd, 1) := dgX12_count_0 (23, (.iadd, 1)) (List.mem_of_getElem? (i := 15) rfl)
theorem dX12_count_24 : decode cX12_count 24 = .ok (.iaload, 1) := dgX12_count_0 (24, (.iaload, 1)) (List.mem_of_getElem? (i := 16) rfl)
theorem dX12_count_25 : decode cX12_count 25 = .ok (.iadd, 1) := dgX12_count_0 (25, (.iadd, 1)) (List.mem_of_getElem? (i := 17) rfl)
theorem dX12_count_26 : decode cX12_count 26 = .ok (.istore_n 2, 1) := dgX12_count_0 (26, (.istore_n 2, 1)) (List.mem_of_getElem? (i := 18) rfl)
theorem dX12_count_27 : decode cX12_count 27 = .ok (.iinc 3 1, 3) := dgX12_count_0 (27, (.iinc 3 1, 3)) (List.mem_of_getElem? (i := 19) rfl)
theorem dX12_count_30 : decode cX12_count 30 = .ok (.goto (-21), 3) := dgX12_count_0 (30, (.goto (-21), 3)) (List.mem_of_getElem? (i := 20) rfl)
theorem dX12_count_33 : decode cX12_count 33 = .ok (.iload_n 1, 1) := dgX12_count_0 (33, (.iload_n 1, 1)) (List.mem_of_getElem? (i := 21) rfl)
theorem dX12_count_34 : decode cX12_count 34 = .ok (.tableswitch 164 0 13 #[70, 77, 84, 91, 98, 106, 114, 116, 121, 128, 135, 142, 149, 157], 70) := dgX12_count_0 (34, (.tableswitch 164 0 13 #[70, 77, 84, 91, 98, 106, 114, 116, 121, 128, 135, 142, 149, 157], 70)) (List.mem_of_getElem? (i := 22) rfl)
theorem dX12_count_104 : decode cX12_count 104 = .ok (.aload_n 0, 1) := dgX12_count_0 (104, (.aload_n 0, 1)) (List.mem_of_getElem? (i := 23) rfl)
theorem dX12_count_105 : decode cX12_count 105 = .ok (.getfield 13, 3) := dgX12_count_0 (105, (.getfield 13, 3)) (List.mem_of_getElem? (i := 24) rfl)
theorem dX12_count_108 : decode cX12_count 108 = .ok (.iconst 0, 1) := dgX12_count_0 (108, (.iconst 0, 1)) (List.mem_of_getElem? (i := 25) rfl)
theorem dX12_count_109 : decode cX12_count 109 = .ok (.iaload, 1) := dgX12_count_0 (109, (.iaload, 1)) (List.mem_of_getElem? (i := 26) rfl)
theorem dX12_count_110 : decode cX12_count 110 = .ok (.ireturn, 1) := dgX12_count_0 (110, (.ireturn, 1)) (List.mem_of_getElem? (i := 27) rfl)
theorem dX12_count_111 : decode cX12_count 111 = .ok (.aload_n 0, 1) := dgX12_count_0 (111, (.aload_n 0, 1)) (List.mem_of_getElem? (i := 28) rfl)
theorem dX12_count_112 : decode cX12_count 112 = .ok (.getfield 13, 3) := dgX12_count_0 (112, (.getfield 13, 3)) (List.mem_of_getElem? (i := 29) rfl)
theorem dX12_count_115 : decode cX12_count 115 = .ok (.iconst 1, 1) := dgX12_count_0 (115, (.iconst 1, 1)) (List.mem_of_getElem? (i := 30) rfl)
theorem dX12_count_116 : decode cX12_count 116 = .ok (.iaload, 1) := dgX12_count_0 (116, (.iaload, 1)) (List.mem_of_getElem? (i := 31) rfl)
theorem dX12_count_117 : decode cX12_count 117 = .ok (.ireturn, 1) := dgX12_count_0 (117, (.ireturn, 1)) (List.mem_of_getElem? (i := 32) rfl)
theorem dX12_count_118 : decode cX12_count 118 = .ok (.aload_n 0, 1) := dgX12_count_0 (118, (.aload_n 0, 1)) (List.mem_of_getElem? (i := 33) rfl)
theorem dX12_count_119 : decode cX12_count 119 = .ok (.getfield 13, 3) := dgX12_count_0 (119, (.getfield 13, 3)) (List.mem_of_getElem? (i := 34) rfl)
theorem dX12_count_122 : decode cX12_count 122 = .ok (.iconst 2, 1) := dgX12_count_0 (122, (.iconst 2, 1)) (List.mem_of_getElem? (i := 35) rfl)
theorem dX12_count_123 : decode cX12_count 123 = .ok (.iaload, 1) := dgX12_count_0 (123, (.iaload, 1)) (List.mem_of_getElem? (i := 36) rfl)
theorem dX12_count_124 : decode cX12_count 124 = .ok (.ireturn, 1) := dgX12_count_0 (124, (.ireturn, 1)) (List.mem_of_getElem? (i := 37) rfl)
theorem dX12_count_125 : decode cX12_count 125 = .ok (.aload_n 0, 1) := dgX12_count_0 (125, (.aload_n 0, 1)) (List.mem_of_getElem? (i := 38) rfl)
theorem dX12_count_126 : decode cX12_count 126 = .ok (.getfield 13, 3) := dgX12_count_0 (126, (.getfield 13, 3)) (List.mem_of_getElem? (i := 39) rfl)
theorem dgX12_count_1 : ∀ r ∈ ([(129, (.iconst 5, 1)), (130, (.iaload, 1)), (131, (.ireturn, 1)), (132, (.aload_n 0, 1)), (133, (.getfield 13, 3)), (136, (.bipush 7, 2)), (138, (.iaload, 1)), (139, (.ireturn, 1)), (140, (.aload_n 0, 1)), (141, (.getfield 13, 3)), (144, (.bipush 8, 2)), (146, (.iaload, 1)), (147, (.ireturn, 1)), (148, (.iload_n 2, 1)), (149, (.ireturn, 1)), (150, (.aload_n 0, 1)), (151, (.getfield 192, 3)), (154, (.ireturn, 1)), (155, (.aload_n 0, 1)), (156, (.getfield 7, 3)), (159, (.iconst 1, 1)), (160, (.iaload, 1)), (161, (.ireturn, 1)), (162, (.aload_n 0, 1)), (163, (.getfield 7, 3)), (166, (.iconst 2, 1)), (167, (.iaload, 1)), (168, (.ireturn, 1)), (169, (.aload_n 0, 1)), (170, (.getfield 7, 3)), (173, (.iconst 3, 1)), (174, (.iaload, 1)), (175, (.ireturn, 1)), (176, (.aload_n 0, 1)), (177, (.getfield 7, 3)), (180, (.iconst 5, 1)), (181, (.iaload, 1)), (182, (.ireturn, 1)), (183, (.aload_n 0, 1)), (184, (.getfield 7, 3))] : List (Nat × (Instr × Nat))), decode cX12_count r.1 = .ok r.2 := by decide +kernel
theorem dX12_count_129 : decode cX12_count 129 = .ok (.iconst 5, 1) := dgX12_count_1 (129, (.iconst 5, 1)) (List.mem_of_getElem? (i := 0) rfl)
theorem dX12_count_130 : decode cX12_count 130 = .ok (.iaload, 1) := dgX12_count_1 (130, (.iaload, 1)) (List.mem_of_getElem? (i := 1) rfl)
theorem dX12_count_131 : decode cX12_count 131 = .ok (.ireturn, 1) := dgX12_count_1 (131, (.ireturn, 1)) (List.mem_of_getElem? (i := 2) rfl)
theorem dX12_count_132 : decode cX12_count 132 = .ok (.aload_n 0, 1) := dgX12_count_1 (132, (.aload_n 0, 1)) (List.mem_of_getElem? (i := 3) rfl)
theorem dX12_count_133 : decode cX12_count 133 = .ok (.getfield 13, 3) := dgX12_count_1 (133, (.getfield 13, 3)) (List.mem_of_getElem? (i := 4) rfl)
theorem dX12_count_136 : decode cX12_count 136 = .ok (.bipush 7, 2) := dgX12_count_1 (136, (.bipush 7, 2)) (List.mem_of_getElem? (i := 5) rfl)
theorem dX12_count_138 : decode cX12_count 138 = .ok (.iaload, 1) := dgX12_count_1 (138, (.iaload, 1)) (List.mem_of_getElem? (i := 6) rfl)
theorem dX12_count_139 : decode cX12_count 139 = .ok (.ireturn, 1) := dgX12_count_1 (139, (.ireturn, 1)) (List.mem_of_getElem? (i := 7) rfl)
theorem dX12_count_140 : decode cX12_count 140 = .ok (.aload_n 0, 1) := dgX12_count_1 (140, (.aload_n 0, 1)) (List.mem_of_getElem? (i := 8) rfl)
theorem dX12_count_141 : decode cX12_count 141 = .ok (.getfield 13, 3) := dgX12_count_1 (141, (.getfield 13, 3)) (List.mem_of_getElem? (i := 9) rfl)
theorem dX12_count_144 : decode cX12_count 144 = .ok (.bipush 8, 2) := dgX12_count_1 (144, (.bipush 8, 2)) (List.mem_of_getElem? (i := 10) rfl)
theorem dX12_count_146 : decode cX12_count 146 = .ok (.iaload, 1) := dgX12_count_1 (146, (.iaload, 1)) (List.mem_of_getElem? (i := 11) rfl)
theorem dX12_count_147 : decode cX12_count 147 = .ok (.ireturn, 1) := dgX12_count_1 (147, (.ireturn, 1)) (List.mem_of_getElem? (i := 12) rfl)
theorem dX12_count_148 : decode cX12_count 148 = .ok (.iload_n 2, 1) := dgX12_count_1 (148, (.iload_n 2, 1)) (List.mem_of_getElem? (i := 13) rfl)
theorem dX12_count_149 : decode cX12_count 149 = .ok (.ireturn, 1) := dgX12_count_1 (149, (.ireturn, 1)) (List.mem_of_getElem? (i := 14) rfl)
theorem dX12_count_150 : decode cX12_count 150 = .ok (.aload_n 0, 1) := dgX12_count_1 (150, (.aload_n 0, 1)) (List.mem_of_getElem? (i := 15) rfl)
theorem dX12_count_151 : decode cX12_count 151 = .ok (.getfield 192, 3) := dgX12_count_1 (151, (.getfield 192, 3)) (List.mem_of_getElem? (i := 16) rfl)
theorem dX12_count_154 : decode cX12_count 154 = .ok (.ireturn, 1) := dgX12_count_1 (154, (.ireturn, 1)) (List.mem_of_getElem? (i := 17) rfl)
theorem dX12_count_155 : decode cX12_count 155 = .ok (.aload_n 0, 1) := dgX12_count_1 (155, (.aload_n 0, 1)) (List.mem_of_getElem? (i := 18) rfl)
theorem dX12_count_156 : decode cX12_count 156 = .ok (.getfield 7, 3) := dgX12_count_1 (156, (.getfield 7, 3)) (List.mem_of_getElem? (i := 19) rfl)
theorem dX12_count_159 : decode cX12_count 159 = .ok (.iconst 1, 1) := dgX12_count_1 (159, (.iconst 1, 1)) (List.mem_of_getElem? (i := 20) rfl)
theorem dX12_count_160 : decode cX12_count 160 = .ok (.iaload, 1) := dgX12_count_1 (160, (.iaload, 1)) (List.mem_of_getElem? (i := 21) rfl)
theorem dX12_count_161 : decode cX12_count 161 = .ok (.ireturn, 1) := dgX12_count_1 (161, (.ireturn, 1)) (List.mem_of_getElem? (i := 22) rfl)
theorem dX12_count_162 : decode cX12_count 162 = .ok (.aload_n 0, 1) := dgX12_count_1 (162, (.aload_n 0, 1)) (List.mem_of_getElem? (i := 23) rfl)
theorem dX12_count_163 : decode cX12_count 163 = .ok (.getfield 7, 3) := dgX12_count_1 (163, (.getfield 7, 3)) (List.mem_of_getElem? (i := 24) rfl)
theorem dX12_count_166 : decode cX12_count 166 = .ok (.iconst 2, 1) := dgX12_count_1 (166, (.iconst 2, 1)) (List.mem_of_getElem? (i := 25) rfl)
theorem dX12_count_167 : decode cX12_count 167 = .ok (.iaload, 1) := dgX12_count_1 (167, (.iaload, 1)) (List.mem_of_getElem? (i := 26) rfl)
theorem dX12_count_168 : decode cX12_count 168 = .ok (.ireturn, 1) := dgX12_count_1 (168, (.ireturn, 1)) (List.mem_of_getElem? (i := 27) rfl)
theorem dX12_count_169 : decode cX12_count 169 = .ok (.aload_n 0, 1) := dgX12_count_1 (169, (.aload_n 0, 1)) (List.mem_of_getElem? (i := 28) rfl)
theorem dX12_count_170 : decode cX12_count 170 = .ok (.getfield 7, 3) := dgX12_count_1 (170, (.getfield 7, 3)) (List.mem_of_getElem? (i := 29) rfl)
theorem dX12_count_173 : decode cX12_count 173 = .ok (.iconst 3, 1) := dgX12_count_1 (173, (.iconst 3, 1)) (List.mem_of_getElem? (i := 30) rfl)
theorem dX12_count_174 : decode cX12_count 174 = .ok (.iaload, 1) := dgX12_count_1 (174, (.iaload, 1)) (List.mem_of_getElem? (i := 31) rfl)
theorem dX12_count_175 : decode cX12_count 175 = .ok (.ireturn, 1) := dgX12_count_1 (175, (.ireturn, 1)) (List.mem_of_getElem? (i := 32) rfl)
theorem dX12_count_176 : decode cX12_count 176 = .ok (.aload_n 0, 1) := dgX12_count_1 (176, (.aload_n 0, 1)) (List.mem_of_getElem? (i := 33) rfl)
theorem dX12_count_177 : decode cX12_count 177 = .ok (.getfield 7, 3) := dgX12_count_1 (177, (.getfield 7, 3)) (List.mem_of_getElem? (i := 34) rfl)
theorem dX12_count_180 : decode cX12_count 180 = .ok (.iconst 5, 1) := dgX12_count_1 (180, (.iconst 5, 1)) (List.mem_of_getElem? (i := 35) rfl)
theorem dX12_count_181 : decode cX12_count 181 = .ok (.iaload, 1) := dgX12_count_1 (181, (.iaload, 1)) (List.mem_of_getElem? (i := 36) rfl)
theorem dX12_count_182 : decode cX12_count 182 = .ok (.ireturn, 1) := dgX12_count_1 (182, (.ireturn, 1)) (List.mem_of_getElem? (i := 37) rfl)
theorem dX12_count_183 : decode cX12_count 183 = .ok (.aload_n 0, 1) := dgX12_count_1 (183, (.aload_n 0, 1)) (List.mem_of_getElem? (i := 38) rfl)
theorem dX12_count_184 : decode cX12_count 184 = .ok (.getfield 7, 3) := dgX12_count_1 (184, (.getfield 7, 3)) (List.mem_of_getElem? (i := 39) rfl)
theorem dgX12_count_2 : ∀ r ∈ ([(187, (.bipush 6, 2)), (189, (.iaload, 1)), (190, (.ireturn, 1)), (191, (.aload_n 0, 1)), (192, (.getfield 13, 3)), (195, (.iconst 3, 1)), (196, (.iaload, 1)), (197, (.ireturn, 1)), (198, (.iconst (-1), 1)), (199, (.ireturn, 1))] : List (Nat × (Instr × Nat))), decode cX12_count r.1 = .ok r.2 := by decide +kernel
theorem dX12_count_187 : decode cX12_count 187 = .ok (.bipush 6, 2) := dgX12_count_2 (187, (.bipush 6, 2)) (List.mem_of_getElem? (i := 0) rfl)
theorem dX12_count_189 : decode cX12_count 189 = .ok (.iaload, 1) := dgX12_count_2 (189, (.iaload, 1)) (List.mem_of_getElem? (i := 1) rfl)
theorem dX12_count_190 : decode cX12_count 190 = .ok (.ireturn, 1) := dgX12_count_2 (190, (.ireturn, 1)) (List.mem_of_getElem? (i := 2) rfl)
theorem dX12_count_191 : decode cX12_count 191 = .ok (.aload_n 0, 1) := dgX12_count_2 (191, (.aload_n 0, 1)) (List.mem_of_getElem? (i := 3) rfl)
theorem dX12_count_192 : decode cX12_count 192 = .ok (.getfield 13, 3) := dgX12_count_2 (192, (.getfield 13, 3)) (List.mem_of_getElem? (i := 4) rfl)
theorem dX12_count_195 : decode cX12_count 195 = .ok (.iconst 3, 1) := dgX12_count_2 (195, (.iconst 3, 1)) (List.mem_of_getElem? (i := 5) rfl)
theorem dX12_count_196 : decode cX12_count 196 = .ok (.iaload, 1) := dgX12_count_2 (196, (.iaload, 1)) (List.mem_of_getElem? (i := 6) rfl)
theorem dX12_count_197 : decode cX12_count 197 = .ok (.ireturn, 1) := dgX12_count_2 (197, (.ireturn, 1)) (List.mem_of_getElem? (i := 7) rfl)
theorem dX12_count_198 : decode cX12_count 198 = .ok (.iconst (-1), 1) := dgX12_count_2 (198, (.iconst (-1), 1)) (List.mem_of_getElem? (i := 8) rfl)
theorem dX12_count_199 : decode cX12_count 199 = .ok (.ireturn, 1) := dgX12_count_2 (199, (.ireturn, 1)) (List.mem_of_getElem? (i := 9) rfl)
set_option maxHeartbeats 4000000 in
set_option maxRecDepth 100000 in
theorem n_count (l : Launch) (G : g5_G) (b_o b_rf b_ro b_im b_ke b_tp b_nl b_op b_ar b_pi b_pa b_ws b_hw b_se b_re b_pt b_ip b_ah b_be b_me b_tr b_ld b_wn : Nat) (sz : Nat) (u_th : Int32) (u_sa : Int32) (u_fd : Int32) (u_td : Int32) (u_fr : Int32) (u_to : Int32) (u_so : Int32) (u_fa : Int32) (u_bd : Int32) (u_nc : Int32) (u_co : Int32) (u_le : Int32) (u_pd : Int32) (u_od : Int32) (u_la : Int32) (u_bk : Int32) (u_ce : Int32) (u_ho : Int32) (u_wy : Int32) (u_bt : Int32) (u_ps : Int32) (u_tg : Int32) (u_sn : Int32) (u_ic : Int32) (u_wd : Int32) (u_id : Int32) (p_1 : Int32) (u_wo : Int64) (u_va : Int64) (u_su : Int64) (u_st : Int64) (v_rf : Nat → Int32) (v_ro : Nat → Int32) (h_u_td : 0 ≤ u_td.toInt ∧ u_td.toInt ≤ 400) (h_u_fr : 0 ≤ u_fr.toInt ∧ u_fr.toInt ≤ 400) (h_u_to : 0 ≤ u_to.toInt ∧ u_to.toInt ≤ 400) (h_u_bd : 0 ≤ u_bd.toInt ∧ u_bd.toInt ≤ 1) (h_u_nc : 0 ≤ u_nc.toInt ∧ u_nc.toInt ≤ 12) (h_u_co : 0 ≤ u_co.toInt ∧ u_co.toInt ≤ 400) (h_u_pd : 0 ≤ u_pd.toInt ∧ u_pd.toInt ≤ 400) (h_u_la : 0 ≤ u_la.toInt ∧ u_la.toInt ≤ 4840) (h_u_bk : 0 ≤ u_bk.toInt ∧ u_bk.toInt ≤ 1) (h_u_ce : 0 ≤ u_ce.toInt ∧ u_ce.toInt ≤ 63) (h_u_ho : 0 ≤ u_ho.toInt ∧ u_ho.toInt ≤ 23) (h_u_wy : 0 ≤ u_wy.toInt ∧ u_wy.toInt ≤ 3) (h_u_bt : 0 ≤ u_bt.toInt ∧ u_bt.toInt ≤ 1000000) (h_u_ps : 0 ≤ u_ps.toInt ∧ u_ps.toInt ≤ 200) (h_u_ic : 0 ≤ u_ic.toInt ∧ u_ic.toInt ≤ 1) (h_u_id : 0 ≤ u_id.toInt ∧ u_id.toInt ≤ 1) (r_ro : MI v_ro) : Met l yX12_count (wsG yX12_count cX12_count 4 (some .int)) ({ frames := 0, cells := 0, slots := 0, locals := 0 }) (va_Pc [.ref b_o, .int p_1] (g5_P G [(b_o, (oc12 u_th u_sa b_rf b_ro b_im b_ke u_fd b_tp u_td u_fr u_to u_so u_wo u_fa u_bd u_nc b_nl u_co b_op b_ar u_le b_pi b_pa u_pd u_od b_ws b_hw u_la b_se b_re u_bk u_va u_su u_ce u_ho u_wy u_bt u_ps b_pt u_tg u_sn b_ip u_ic b_ah b_be b_me u_wd b_tr b_ld u_st b_wn u_id)), (b_rf, (arI G 7 v_rf)), (b_ro, (arI G 5740 v_ro))] sz)) (va_Qi (fun (r : Int32) (u : va_W) => (∃ (o_r : Int32) (o_th : Int32), (r = o_r) ∧ (u = [(b_o, (oc12 o_th u_sa b_rf b_ro b_im b_ke u_fd b_tp u_td u_fr u_to u_so u_wo u_fa u_bd u_nc b_nl u_co b_op b_ar u_le b_pi b_pa u_pd u_od b_ws b_hw u_la b_se b_re u_bk u_va u_su u_ce u_ho u_wy u_bt u_ps b_pt u_tg u_sn b_ip u_ic b_ah b_be b_me u_wd b_tr b_ld u_st b_wn u_id)), (b_rf, (arI G 7 v_rf)), (b_ro, (arI G 5740 v_ro))]))) (g5_B G (va_A [(b_o, (oc12 u_th u_sa b_rf b_ro b_im b_ke u_fd b_tp u_td u_fr u_to u_so u_wo u_fa u_bd u_nc b_nl u_co b_op b_ar u_le b_pi b_pa u_pd u_od b_ws b_hw u_la b_se b_re u_bk u_va u_su u_ce u_ho u_wy u_bt u_ps b_pt u_tg u_sn b_ip u_ic b_ah b_be b_me u_wd b_tr b_ld u_st b_wn u_id)), (b_rf, (arI G 7 v_rf)), (b_ro, (arI G 5740 v_ro))] sz)) (va_A [(b_o, (oc12 u_th u_sa b_rf b_ro b_im b_ke u_fd b_tp u_td u_fr u_to u_so u_wo u_fa u_bd u_nc b_nl u_co b_op b_ar u_le b_pi b_pa u_pd u_od b_ws b_hw u_la b_se b_re u_bk u_va u_su u_ce u_ho u_wy u_bt u_ps b_pt u_tg u_sn b_ip u_ic b_ah b_be b_me u_wd b_tr b_ld u_st b_wn u_id)), (b_rf, (arI G 7 v_rf)), (b_ro, (arI G 5740 v_ro))] sz)) 0 0 (va_A [(b_o, (oc12 u_th u_sa b_rf b_ro b_im b_ke u_fd b_tp u_td u_fr u_to u_so u_wo u_fa u_bd u_nc b_nl u_co b_op b_ar u_le b_pi b_pa u_pd u_od b_ws b_hw u_la b_se b_re u_bk u_va u_su u_ce u_ho u_wy u_bt u_ps b_pt u_tg u_sn b_ip u_ic b_ah b_be b_me u_wd b_tr b_ld u_st b_wn u_id)), (b_rf, (arI G 7 v_rf)), (b_ro, (arI G 5740 v_ro))] sz) := by
  refine Met.ofW (cc := cX12_count) (maxL := 4) (ret := (some .int)) (by decide +kernel) rfl ?_
  intro p e s m args below meth c s₁ B hml hv
  obtain ⟨rfl, hsz, hP, hK, hD0, hN, hT⟩ := hv
  have hx := B.exec
  have hb := B.bytes
  have hr := B.returns
  have hts : ∀ w ∈ tblG, w.before _ s = true := fun w h => atoms_spec (ws := (wsG yX12_count cX12_count 4 (some .int))) B.pre w (List.mem_cons_of_mem _ h)
  have hown : s.vm.findClass RX12 = some m.cls := findClass_of_methodNamed B.named
  have hlocks := B.notSynchronized
  subst hsz
  have hD := hD0.self (sz := s.heap.size)
  generalize hAe : va_A [(b_o, (oc12 u_th u_sa b_rf b_ro b_im b_ke u_fd b_tp u_td u_fr u_to u_so u_wo u_fa u_bd u_nc b_nl u_co b_op b_ar u_le b_pi b_pa u_pd u_od b_ws b_hw u_la b_se b_re u_bk u_va u_su u_ce u_ho u_wy u_bt u_ps b_pt u_tg u_sn b_ip u_ic b_ah b_be b_me u_wd b_tr b_ld u_st b_wn u_id)), (b_rf, (arI G 7 v_rf)), (b_ro, (arI G 5740 v_ro))] s.heap.size = A at hD hT ⊢
  have hA : ∀ q : Nat, s.heap.size ≤ q → A q := fun q h => by rw [← hAe]; exact Or.inr h
  have hS : va_S A s.heap s.heap [] := va_S.rf
  replace hP : va_P G.1 vwCl [(b_o, (oc12 u_th u_sa b_rf b_ro b_im b_ke u_fd b_tp u_td u_fr u_to u_so u_wo u_fa u_bd u_nc b_nl u_co b_op b_ar u_le b_pi b_pa u_pd u_od b_ws b_hw u_la b_se b_re u_bk u_va u_su u_ce u_ho u_wy u_bt u_ps b_pt u_tg u_sn b_ip u_ic b_ah b_be b_me u_wd b_tr b_ld u_st b_wn u_id)), (b_rf, (arI G 7 v_rf)), (b_ro, (arI G 5740 v_ro))] s.heap := hP
  have hl := lv_entry ([.ref b_o, .int p_1]) (n := 4) (Nat.le_of_ble_eq_true rfl)
  rw [lg_entry_eq]
  generalize (lg_sl ([.ref b_o, .int p_1]) ++ List.replicate (4 - (lg_sl ([.ref b_o, .int p_1])).length) Slot.unset).toArray = ls at hl ⊢
  replace hl : lv_has ls 4 [(0, .ref b_o), (1, .int p_1)] := hl
  refine lv_aload_n hx hb dX12_count_0 rfl (lv_at hl 0 rfl) ?_
  refine lv_iconst (v := 0) hx hb dX12_count_1 (by decide +kernel) ?_
  refine va_put (D := G.1) (ci := 12) (v := .int 0) (ty := .int) (C := RX12) (T := TX12) (N := 52) hx hb hts inG_X12 tyX12 tyX12_ok nmX12 hown hK hP hD hS 0 rfl rfl 0 (by decide +kernel) (hts _ fl_X12_107) (fun _ h9 => h9) rfl (by decide +kernel) rfl rfl (Nat.le_of_ble_eq_true rfl) dX12_count_2 ?_
  clear hP hD hS
  intro H locs hP hD hS
  refine g5_rs [(b_o, (oc12 0 u_sa b_rf b_ro b_im b_ke u_fd b_tp u_td u_fr u_to u_so u_wo u_fa u_bd u_nc b_nl u_co b_op b_ar u_le b_pi b_pa u_pd u_od b_ws b_hw u_la b_se b_re u_bk u_va u_su u_ce u_ho u_wy u_bt u_ps b_pt u_tg u_sn b_ip u_ic b_ah b_be b_me u_wd b_tr b_ld u_st b_wn u_id)), (b_rf, (arI G 7 v_rf)), (b_ro, (arI G 5740 v_ro))] hP hD ?_
  clear hP hD
  intro hP hD
  refine lv_iconst (v := 0) hx hb dX12_count_5 (by decide +kernel) ?_
  refine W.eq (g2 := F0 m 6 ls [.int 0]) rfl ?_
  refine lv_istore_n (lv' := [(2, .int 0), (0, .ref b_o), (1, .int p_1)]) hx hb dX12_count_6 rfl hl (by decide +kernel) rfl ?_
  clear hl
  intro ls hl
  refine lv_iconst (v := 0) hx hb dX12_count_7 (by decide +kernel) ?_
  refine lv_istore_n (lv' := [(3, .int 0), (2, .int 0), (0, .ref b_o), (1, .int p_1)]) hx hb dX12_count_8 rfl hl (by decide +kernel) rfl ?_
  clear hl
  intro ls hl
  refine g5_loop (α := (Int32) × (Int32)) (fun (q : (Int32) × (Int32)) (ls : Array Slot) (H : Heap) (locs : List Loc) => match q with | (k9_3, k9_2) => lv_has ls 4 [(2, .int k9_2), (3, .int k9_3), (0, .ref b_o), (1, .int p_1)] ∧ va_P G.1 vwCl [(b_o, (oc12 0 u_sa b_rf b_ro b_im b_ke u_fd b_tp u_td u_fr u_to u_so u_wo u_fa u_bd u_nc b_nl u_co b_op b_ar u_le b_pi b_pa u_pd u_od b_ws b_hw u_la b_se b_re u_bk u_va u_su u_ce u_ho u_wy u_bt u_ps b_pt u_tg u_sn b_ip u_ic b_ah b_be b_me u_wd b_tr b_ld u_st b_wn u_id)), (b_rf, (arI G 7 v_rf)), (b_ro, (arI G 5740 v_ro))] H ∧ va_D A [(b_o, (oc12 0 u_sa b_rf b_ro b_im b_ke u_fd b_tp u_td u_fr u_to u_so u_wo u_fa u_bd u_nc b_nl u_co b_op b_ar u_le b_pi b_pa u_pd u_od b_ws b_hw u_la b_se b_re u_bk u_va u_su u_ce u_ho u_wy u_bt u_ps b_pt u_tg u_sn b_ip u_ic b_ah b_be b_me u_wd b_tr b_ld u_st b_wn u_id)), (b_rf, (arI G 7 v_rf)), (b_ro, (arI G 5740 v_ro))] ∧ va_S A s.heap H locs ∧ (0 ≤ k9_3.toInt ∧ k9_3.toInt ≤ 64)) (fun (q : (Int32) × (Int32)) => match q with | (k9_3, k9_2) => Int.toNat (64 - k9_3.toInt)) (0, 0) ⟨lv_sub hl [1, 0, 2, 3] rfl, hP, hD, hS, ⟨by decide, by decide⟩⟩ ?_
  rintro ⟨k9_3, k9_2⟩ ls H locs ⟨hl, hP, hD, hS, (i_1 : 0 ≤ k9_3.toInt ∧ k9_3.toInt ≤ 64)⟩ ih_9_2
  replace hl : lv_has ls 4 [(2, .int k9_2), (3, .int k9_3), (0, .ref b_o), (1, .int p_1)] := hl
  refine g5_rs [(b_o, (oc12 0 u_sa b_rf b_ro b_im b_ke u_fd b_tp u_td u_fr u_to u_so u_wo u_fa u_bd u_nc b_nl u_co b_op b_ar u_le b_pi b_pa u_pd u_od b_ws b_hw u_la b_se b_re u_bk u_va u_su u_ce u_ho u_wy u_bt u_ps b_pt u_tg u_sn b_ip u_ic b_ah b_be b_me u_wd b_tr b_ld u_st b_wn u_id)), (b_rf, (arI G 7 v_rf)), (b_ro, (arI G 5740 v_ro))] hP hD ?_
  clear hP hD
  intro hP hD
  refine lv_iload_n hx hb dX12_count_9 rfl (lv_at hl 1 rfl) ?_
  refine lv_bipush (v := 64) hx hb dX12_count_10 (by decide +kernel) ?_
  refine lv_icmp_ge (tgt := 33) hx hb dX12_count_12 (by decide +kernel) (fun c_3 => ?_) (fun c_3 => ?_)
  ·
    have i_3 : k9_3.toInt ≥ 64 := g5_ge (a := k9_3.toInt) (b := 64) rfl (by decide +kernel) c_3
    refine lv_iload_n hx hb dX12_count_33 rfl (lv_at hl 3 rfl) ?_
    rcases (show p_1.toInt = 0 ∨ p_1.toInt = 1 ∨ p_1.toInt = 2 ∨ p_1.toInt = 3 ∨ p_1.toInt = 4 ∨ p_1.toInt = 5 ∨ p_1.toInt = 6 ∨ p_1.toInt = 7 ∨ p_1.toInt = 8 ∨ p_1.toInt = 9 ∨ p_1.toInt = 10 ∨ p_1.toInt = 11 ∨ p_1.toInt = 12 ∨ p_1.toInt = 13 ∨ p_1.toInt < 0 ∨ p_1.toInt > 13 by omega) with s_4 | s_4 | s_4 | s_4 | s_4 | s_4 | s_4 | s_4 | s_4 | s_4 | s_4 | s_4 | s_4 | s_4 | s_4 | s_4
    ·
      have i_4 : p_1.toInt = 0 := by omega
      refine lv_tableIn (tgt := 104) hx hb dX12_count_34 (by omega) (by omega) (by rw [s_4]; rfl) (by decide +kernel) ?_
      refine lv_aload_n hx hb dX12_count_104 rfl (lv_at hl 2 rfl) ?_
      refine va_get (D := G.1) (ci := 12) (v := .ref b_ro) (C := RX12) (T := TX12) (N := 52) hx hb hts inG_X12 hown hK hP 0 rfl rfl 3 (by decide +kernel) (hts _ fl_X12_13) (fun _ h9 => h9) rfl dX12_count_105 ?_
      refine lv_iconst (v := 0) hx hb dX12_count_108 (by decide +kernel) ?_
      refine va_iald hx hb hK hP 2 0 rfl rfl (i := 0) (by unfold vp_in; decide) dX12_count_109 ?_
      refine g5_ti (v := (v_ro 0)) rfl ?_
      have hr_5 : 0 ≤ (v_ro 0).toInt ∧ (v_ro 0).toInt ≤ 6 := mi_0 r_ro
      refine W.eq (g2 := F0 m 110 ls [.int (v_ro 0)]) rfl ?_
      exact W.iret (v := (v_ro 0)) hx hb hr (fun t ht hW => ⟨⟨(v_ro 0), [(b_o, (oc12 0 u_sa b_rf b_ro b_im b_ke u_fd b_tp u_td u_fr u_to u_so u_wo u_fa u_bd u_nc b_nl u_co b_op b_ar u_le b_pi b_pa u_pd u_od b_ws b_hw u_la b_se b_re u_bk u_va u_su u_ce u_ho u_wy u_bt u_ps b_pt u_tg u_sn b_ip u_ic b_ah b_be b_me u_wd b_tr b_ld u_st b_wn u_id)), (b_rf, (arI G 7 v_rf)), (b_ro, (arI G 5740 v_ro))], rfl, ⟨(v_ro 0), 0, rfl, rfl⟩, by rw [ht]; exact hP.sub [0, 1, 2] rfl, hD.sub [0, 1, 2] (by decide +kernel) rfl⟩, hS.F ht⟩) hS.2.2 dX12_count_110
    ·
      have i_4 : p_1.toInt = 1 := by omega
      refine lv_tableIn (tgt := 111) hx hb dX12_count_34 (by omega) (by omega) (by rw [s_4]; rfl) (by decide +kernel) ?_
      refine lv_aload_n hx hb dX12_count_111 rfl (lv_at hl 2 rfl) ?_
      refine va_get (D := G.1) (ci := 12) (v := .ref b_ro) (C := RX12) (T := TX12) (N := 52) hx hb hts inG_X12 hown hK hP 0 rfl rfl 3 (by decide +kernel) (hts _ fl_X12_13) (fun _ h9 => h9) rfl dX12_count_112 ?_
      refine lv_iconst (v := 1) hx hb dX12_count_115 (by decide +kernel) ?_
      refine va_iald hx hb hK hP 2 0 rfl rfl (i := 1) (by unfold vp_in; decide) dX12_count_116 ?_
      refine g5_ti (v := (v_ro 1)) rfl ?_
      have hr_6 : 0 ≤ (v_ro 1).toInt ∧ (v_ro 1).toInt ≤ 5 := mi_1 r_ro
      refine W.eq (g2 := F0 m 117 ls [.int (v_ro 1)]) rfl ?_
      exact W.iret (v := (v_ro 1)) hx hb hr (fun t ht hW => ⟨⟨(v_ro 1), [(b_o, (oc12 0 u_sa b_rf b_ro b_im b_ke u_fd b_tp u_td u_fr u_to u_so u_wo u_fa u_bd u_nc b_nl u_co b_op b_ar u_le b_pi b_pa u_pd u_od b_ws b_hw u_la b_se b_re u_bk u_va u_su u_ce u_ho u_wy u_bt u_ps b_pt u_tg u_sn b_ip u_ic b_ah b_be b_me u_wd b_tr b_ld u_st b_wn u_id)), (b_rf, (arI G 7 v_rf)), (b_ro, (arI G 5740 v_ro))], rfl, ⟨(v_ro 1), 0, rfl, rfl⟩, by rw [ht]; exact hP.sub [0, 1, 2] rfl, hD.sub [0, 1, 2] (by decide +kernel) rfl⟩, hS.F ht⟩) hS.2.2 dX12_count_117
    ·
      have i_4 : p_1.toInt = 2 := by omega
      refine lv_tableIn (tgt := 118) hx hb dX12_count_34 (by omega) (by omega) (by rw [s_4]; rfl) (by decide +kernel) ?_
      refine lv_aload_n hx hb dX12_count_118 rfl (lv_at hl 2 rfl) ?_
      refine va_get (D := G.1) (ci := 12) (v := .ref b_ro) (C := RX12) (T := TX12) (N := 52) hx hb hts inG_X12 hown hK hP 0 rfl rfl 3 (by decide +kernel) (hts _ fl_X12_13) (fun _ h9 => h9) rfl dX12_count_119 ?_
      refine lv_iconst (v := 2) hx hb dX12_count_122 (by decide +kernel) ?_
      refine va_iald hx hb hK hP 2 0 rfl rfl (i := 2) (by unfold vp_in; decide) dX12_count_123 ?_
      refine g5_ti (v := (v_ro 2)) rfl ?_
      have hr_7 : 0 ≤ (v_ro 2).toInt ∧ (v_ro 2).toInt ≤ 6 := mi_2 r_ro
      refine W.eq (g2 := F0 m 124 ls [.int (v_ro 2)]) rfl ?_
      exact W.iret (v := (v_ro 2)) hx hb hr (fun t ht hW => ⟨⟨(v_ro 2), [(b_o, (oc12 0 u_sa b_rf b_ro b_im b_ke u_fd b_tp u_td u_fr u_to u_so u_wo u_fa u_bd u_nc b_nl u_co b_op b_ar u_le b_pi b_pa u_pd u_od b_ws b_hw u_la b_se b_re u_bk u_va u_su u_ce u_ho u_wy u_bt u_ps b_pt u_tg u_sn b_ip u_ic b_ah b_be b_me u_wd b_tr b_ld u_st b_wn u_id)), (b_rf, (arI G 7 v_rf)), (b_ro, (arI G 5740 v_ro))], rfl, ⟨(v_ro 2), 0, rfl, rfl⟩, by rw [ht]; exact hP.sub [0, 1, 2] rfl, hD.sub [0, 1, 2] (by decide +kernel) rfl⟩, hS.F ht⟩) hS.2.2 dX12_count_124
    ·
      have i_4 : p_1.toInt = 3 := by omega
      refine lv_tableIn (tgt := 125) hx hb dX12_count_34 (by omega) (by omega) (by rw [s_4]; rfl) (by decide +kernel) ?_
      refine lv_aload_n hx hb dX12_count_125 rfl (lv_at hl 2 rfl) ?_
      refine va_get (D := G.1) (ci := 12) (v := .ref b_ro) (C := RX12) (T := TX12) (N := 52) hx hb hts inG_X12 hown hK hP 0 rfl rfl 3 (by decide +kernel) (hts _ fl_X12_13) (fun _ h9 => h9) rfl dX12_count_126 ?_
      refine lv_iconst (v := 5) hx hb dX12_count_129 (by decide +kernel) ?_
      refine va_iald hx hb hK hP 2 0 rfl rfl (i := 5) (by unfold vp_in; decide) dX12_count_130 ?_
      refine g5_ti (v := (v_ro 5)) rfl ?_
      have hr_8 : 0 ≤ (v_ro 5).toInt ∧ (v_ro 5).toInt ≤ 10 := mi_5 r_ro
      refine W.eq (g2 := F0 m 131 ls [.int (v_ro 5)]) rfl ?_
      exact W.iret (v := (v_ro 5)) hx hb hr (fun t ht hW => ⟨⟨(v_ro 5), [(b_o, (oc12 0 u_sa b_rf b_ro b_im b_ke u_fd b_tp u_td u_fr u_to u_so u_wo u_fa u_bd u_nc b_nl u_co b_op b_ar u_le b_pi b_pa u_pd u_od b_ws b_hw u_la b_se b_re u_bk u_va u_su u_ce u_ho u_wy u_bt u_ps b_pt u_tg u_sn b_ip u_ic b_ah b_be b_me u_wd b_tr b_ld u_st b_wn u_id)), (b_rf, (arI G 7 v_rf)), (b_ro, (arI G 5740 v_ro))], rfl, ⟨(v_ro 5), 0, rfl, rfl⟩, by rw [ht]; exact hP.sub [0, 1, 2] rfl, hD.sub [0, 1, 2] (by decide +kernel) rfl⟩, hS.F ht⟩) hS.2.2 dX12_count_131
    ·
      have i_4 : p_1.toInt = 4 := by omega
      refine lv_tableIn (tgt := 132) hx hb dX12_count_34 (by omega) (by omega) (by rw [s_4]; rfl) (by decide +kernel) ?_
      refine lv_aload_n hx hb dX12_count_132 rfl (lv_at hl 2 rfl) ?_
      refine va_get (D := G.1) (ci := 12) (v := .ref b_ro) (C := RX12) (T := TX12) (N := 52) hx hb hts inG_X12 hown hK hP 0 rfl rfl 3 (by decide +kernel) (hts _ fl_X12_13) (fun _ h9 => h9) rfl dX12_count_133 ?_
      refine lv_bipush (v := 7) hx hb dX12_count_136 (by decide +kernel) ?_
      refine va_iald hx hb hK hP 2 0 rfl rfl (i := 7) (by unfold vp_in; decide) dX12_count_138 ?_
      refine g5_ti (v := (v_ro 7)) rfl ?_
      have hr_9 : 0 ≤ (v_ro 7).toInt ∧ (v_ro 7).toInt ≤ 8 := mi_7 r_ro
      refine W.eq (g2 := F0 m 139 ls [.int (v_ro 7)]) rfl ?_
      exact W.iret (v := (v_ro 7)) hx hb hr (fun t ht hW => ⟨⟨(v_ro 7), [(b_o, (oc12 0 u_sa b_rf b_ro b_im b_ke u_fd b_tp u_td u_fr u_to u_so u_wo u_fa u_bd u_nc b_nl u_co b_op b_ar u_le b_pi b_pa u_pd u_od b_ws b_hw u_la b_se b_re u_bk u_va u_su u_ce u_ho u_wy u_bt u_ps b_pt u_tg u_sn b_ip u_ic b_ah b_be b_me u_wd b_tr b_ld u_st b_wn u_id)), (b_rf, (arI G 7 v_rf)), (b_ro, (arI G 5740 v_ro))], rfl, ⟨(v_ro 7), 0, rfl, rfl⟩, by rw [ht]; exact hP.sub [0, 1, 2] rfl, hD.sub [0, 1, 2] (by decide +kernel) rfl⟩, hS.F ht⟩) hS.2.2 dX12_count_139
    ·
      have i_4 : p_1.toInt = 5 := by omega
      refine lv_tableIn (tgt := 140) hx hb dX12_count_34 (by omega) (by omega) (by rw [s_4]; rfl) (by decide +kernel) ?_
      refine lv_aload_n hx hb dX12_count_140 rfl (lv_at hl 2 rfl) ?_
      refine va_get (D := G.1) (ci := 12) (v := .ref b_ro) (C := RX12) (T := TX12) (N := 52) hx hb hts inG_X12 hown hK hP 0 rfl rfl 3 (by decide +kernel) (hts _ fl_X12_13) (fun _ h9 => h9) rfl dX12_count_141 ?_
      refine lv_bipush (v := 8) hx hb dX12_count_144 (by decide +kernel) ?_
      refine va_iald hx hb hK hP 2 0 rfl rfl (i := 8) (by unfold vp_in; decide) dX12_count_146 ?_
      refine g5_ti (v := (v_ro 8)) rfl ?_
      have hr_10 : 0 ≤ (v_ro 8).toInt ∧ (v_ro 8).toInt ≤ 6 := mi_8 r_ro
      refine W.eq (g2 := F0 m 147 ls [.int (v_ro 8)]) rfl ?_
      exact W.iret (v := (v_ro 8)) hx hb hr (fun t ht hW => ⟨⟨(v_ro 8), [(b_o, (oc12 0 u_sa b_rf b_ro b_im b_ke u_fd b_tp u_td u_fr u_to u_so u_wo u_fa u_bd u_nc b_nl u_co b_op b_ar u_le b_pi b_pa u_pd u_od b_ws b_hw u_la b_se b_re u_bk u_va u_su u_ce u_ho u_wy u_bt u_ps b_pt u_tg u_sn b_ip u_ic b_ah b_be b_me u_wd b_tr b_ld u_st b_wn u_id)), (b_rf, (arI G 7 v_rf)), (b_ro, (arI G 5740 v_ro))], rfl, ⟨(v_ro 8), 0, rfl, rfl⟩, by rw [ht]; exact hP.sub [0, 1, 2] rfl, hD.sub [0, 1, 2] (by decide +kernel) rfl⟩, hS.F ht⟩) hS.2.2 dX12_count_147
    ·
      have i_4 : p_1.toInt = 6 := by omega
      refine lv_tableIn (tgt := 148) hx hb dX12_count_34 (by omega) (by omega) (by rw [s_4]; rfl) (by decide +kernel) ?_
      refine lv_iload_n hx hb dX12_count_148 rfl (lv_at hl 0 rfl) ?_
      exact W.iret (v := k9_2) hx hb hr (fun t ht hW => ⟨⟨k9_2, [(b_o, (oc12 0 u_sa b_rf b_ro b_im b_ke u_fd b_tp u_td u_fr u_to u_so u_wo u_fa u_bd u_nc b_nl u_co b_op b_ar u_le b_pi b_pa u_pd u_od b_ws b_hw u_la b_se b_re u_bk u_va u_su u_ce u_ho u_wy u_bt u_ps b_pt u_tg u_sn b_ip u_ic b_ah b_be b_me u_wd b_tr b_ld u_st b_wn u_id)), (b_rf, (arI G 7 v_rf)), (b_ro, (arI G 5740 v_ro))], rfl, ⟨k9_2, 0, rfl, rfl⟩, by rw [ht]; exact hP.sub [0, 1, 2] rfl, hD.sub [0, 1, 2] (by decide +kernel) rfl⟩, hS.F ht⟩) hS.2.2 dX12_count_149
    ·
      have i_4 : p_1.toInt = 7 := by omega
      refine lv_tableIn (tgt := 150) hx hb dX12_count_34 (by omega) (by omega) (by rw [s_4]; rfl) (by decide +kernel) ?_
      refine lv_aload_n hx hb dX12_count_150 rfl (lv_at hl 2 rfl) ?_
      refine va_get (D := G.1) (ci := 12) (v := .int u_td) (C := RX12) (T := TX12) (N := 52) hx hb hts inG_X12 hown hK hP 0 rfl rfl 8 (by decide +kernel) (hts _ fl_X12_192) (fun _ h9 => h9) rfl dX12_count_151 ?_
      exact W.iret (v := u_td) hx hb hr (fun t ht hW => ⟨⟨u_td, [(b_o, (oc12 0 u_sa b_rf b_ro b_im b_ke u_fd b_tp u_td u_fr u_to u_so u_wo u_fa u_bd u_nc b_nl u_co b_op b_ar u_le b_pi b_pa u_pd u_od b_ws b_hw u_la b_se b_re u_bk u_va u_su u_ce u_ho u_wy u_bt u_ps b_pt u_tg u_sn b_ip u_ic b_ah b_be b_me u_wd b_tr b_ld u_st b_wn u_id)), (b_rf, (arI G 7 v_rf)), (b_ro, (arI G 5740 v_ro))], rfl, ⟨u_td, 0, rfl, rfl⟩, by rw [ht]; exact hP.sub [0, 1, 2] rfl, hD.sub [0, 1, 2] (by decide +kernel) rfl⟩, hS.F ht⟩) hS.2.2 dX12_count_154
    ·
      have i_4 : p_1.toInt = 8 := by omega
      refine lv_tableIn (tgt := 155) hx hb dX12_count_34 (by omega) (by omega) (by rw [s_4]; rfl) (by decide +kernel) ?_
      refine lv_aload_n hx hb dX12_count_155 rfl (lv_at hl 2 rfl) ?_
      refine va_get (D := G.1) (ci := 12) (v := .ref b_rf) (C := RX12) (T := TX12) (N := 52) hx hb hts inG_X12 hown hK hP 0 rfl rfl 2 (by decide +kernel) (hts _ fl_X12_7) (fun _ h9 => h9) rfl dX12_count_156 ?_
      refine lv_iconst (v := 1) hx hb dX12_count_159 (by decide +kernel) ?_
      refine va_iald hx hb hK hP 1 0 rfl rfl (i := 1) (by unfold vp_in; decide) dX12_count_160 ?_
      refine g5_ti (v := (v_rf 1)) rfl ?_
      refine W.eq (g2 := F0 m 161 ls [.int (v_rf 1)]) rfl ?_
      exact W.iret (v := (v_rf 1)) hx hb hr (fun t ht hW => ⟨⟨(v_rf 1), [(b_o, (oc12 0 u_sa b_rf b_ro b_im b_ke u_fd b_tp u_td u_fr u_to u_so u_wo u_fa u_bd u_nc b_nl u_co b_op b_ar u_le b_pi b_pa u_pd u_od b_ws b_hw u_la b_se b_re u_bk u_va u_su u_ce u_ho u_wy u_bt u_ps b_pt u_tg u_sn b_ip u_ic b_ah b_be b_me u_wd b_tr b_ld u_st b_wn u_id)), (b_rf, (arI G 7 v_rf)), (b_ro, (arI G 5740 v_ro))], rfl, ⟨(v_rf 1), 0, rfl, rfl⟩, by rw [ht]; exact hP.sub [0, 1, 2] rfl, hD.sub [0, 1, 2] (by decide +kernel) rfl⟩, hS.F ht⟩) hS.2.2 dX12_count_161
    ·
      have i_4 : p_1.toInt = 9 := by omega
      refine lv_tableIn (tgt := 162) hx hb dX12_count_34 (by omega) (by omega) (by rw [s_4]; rfl) (by decide +kernel) ?_
      refine lv_aload_n hx hb dX12_count_162 rfl (lv_at hl 2 rfl) ?_
      refine va_get (D := G.1) (ci := 12) (v := .ref b_rf) (C := RX12) (T := TX12) (N := 52) hx hb hts inG_X12 hown hK hP 0 rfl rfl 2 (by decide +kernel) (hts _ fl_X12_7) (fun _ h9 => h9) rfl dX12_count_163 ?_
      refine lv_iconst (v := 2) hx hb dX12_count_166 (by decide +kernel) ?_
      refine va_iald hx hb hK hP 1 0 rfl rfl (i := 2) (by unfold vp_in; decide) dX12_count_167 ?_
      refine g5_ti (v := (v_rf 2)) rfl ?_
      refine W.eq (g2 := F0 m 168 ls [.int (v_rf 2)]) rfl ?_
      exact W.iret (v := (v_rf 2)) hx hb hr (fun t ht hW => ⟨⟨(v_rf 2), [(b_o, (oc12 0 u_sa b_rf b_ro b_im b_ke u_fd b_tp u_td u_fr u_to u_so u_wo u_fa u_bd u_nc b_nl u_co b_op b_ar u_le b_pi b_pa u_pd u_od b_ws b_hw u_la b_se b_re u_bk u_va u_su u_ce u_ho u_wy u_bt u_ps b_pt u_tg u_sn b_ip u_ic b_ah b_be b_me u_wd b_tr b_ld u_st b_wn u_id)), (b_rf, (arI G 7 v_rf)), (b_ro, (arI G 5740 v_ro))], rfl, ⟨(v_rf 2), 0, rfl, rfl⟩, by rw [ht]; exact hP.sub [0, 1, 2] rfl, hD.sub [0, 1, 2] (by decide +kernel) rfl⟩, hS.F ht⟩) hS.2.2 dX12_count_168
    ·
      have i_4 : p_1.toInt = 10 := by omega
      refine lv_tableIn (tgt := 169) hx hb dX12_count_34 (by omega) (by omega) (by rw [s_4]; rfl) (by decide +kernel) ?_
      refine lv_aload_n hx hb dX12_count_169 rfl (lv_at hl 2 rfl) ?_
      refine va_get (D := G.1) (ci := 12) (v := .ref b_rf) (C := RX12) (T := TX12) (N := 52) hx hb hts inG_X12 hown hK hP 0 rfl rfl 2 (by decide +kernel) (hts _ fl_X12_7) (fun _ h9 => h9) rfl dX12_count_170 ?_
      refine lv_iconst (v := 3) hx hb dX12_count_173 (by decide +kernel) ?_
      refine va_iald hx hb hK hP 1 0 rfl rfl (i := 3) (by unfold vp_in; decide) dX12_count_174 ?_
      refine g5_ti (v := (v_rf 3)) rfl ?_
      refine W.eq (g2 := F0 m 175 ls [.int (v_rf 3)]) rfl ?_
      exact W.iret (v := (v_rf 3)) hx hb hr (fun t ht hW => ⟨⟨(v_rf 3), [(b_o, (oc12 0 u_sa b_rf b_ro b_im b_ke u_fd b_tp u_td u_fr u_to u_so u_wo u_fa u_bd u_nc b_nl u_co b_op b_ar u_le b_pi b_pa u_pd u_od b_ws b_hw u_la b_se b_re u_bk u_va u_su u_ce u_ho u_wy u_bt u_ps b_pt u_tg u_sn b_ip u_ic b_ah b_be b_me u_wd b_tr b_ld u_st b_wn u_id)), (b_rf, (arI G 7 v_rf)), (b_ro, (arI G 5740 v_ro))], rfl, ⟨(v_rf 3), 0, rfl, rfl⟩, by rw [ht]; exact hP.sub [0, 1, 2] rfl, hD.sub [0, 1, 2] (by decide +kernel) rfl⟩, hS.F ht⟩) hS.2.2 dX12_count_175
    ·
      have i_4 : p_1.toInt = 11 := by omega
      refine lv_tableIn (tgt := 176) hx hb dX12_count_34 (by omega) (by omega) (by rw [s_4]; rfl) (by decide +kernel) ?_
      refine lv_aload_n hx hb dX12_count_176 rfl (lv_at hl 2 rfl) ?_
      refine va_get (D := G.1) (ci := 12) (v := .ref b_rf) (C := RX12) (T := TX12) (N := 52) hx hb hts inG_X12 hown hK hP 0 rfl rfl 2 (by decide +kernel) (hts _ fl_X12_7) (fun _ h9 => h9) rfl dX12_count_177 ?_
      refine lv_iconst (v := 5) hx hb dX12_count_180 (by decide +kernel) ?_
      refine va_iald hx hb hK hP 1 0 rfl rfl (i := 5) (by unfold vp_in; decide) dX12_count_181 ?_
      refine g5_ti (v := (v_rf 5)) rfl ?_
      refine W.eq (g2 := F0 m 182 ls [.int (v_rf 5)]) rfl ?_
      exact W.iret (v := (v_rf 5)) hx hb hr (fun t ht hW => ⟨⟨(v_rf 5), [(b_o, (oc12 0 u_sa b_rf b_ro b_im b_ke u_fd b_tp u_td u_fr u_to u_so u_wo u_fa u_bd u_nc b_nl u_co b_op b_ar u_le b_pi b_pa u_pd u_od b_ws b_hw u_la b_se b_re u_bk u_va u_su u_ce u_ho u_wy u_bt u_ps b_pt u_tg u_sn b_ip u_ic b_ah b_be b_me u_wd b_tr b_ld u_st b_wn u_id)), (b_rf, (arI G 7 v_rf)), (b_ro, (arI G 5740 v_ro))], rfl, ⟨(v_rf 5), 0, rfl, rfl⟩, by rw [ht]; exact hP.sub [0, 1, 2] rfl, hD.sub [0, 1, 2] (by decide +kernel) rfl⟩, hS.F ht⟩) hS.2.2 dX12_count_182
    ·
      have i_4 : p_1.toInt = 12 := by omega
      refine lv_tableIn (tgt := 183) hx hb dX12_count_34 (by omega) (by omega) (by rw [s_4]; rfl) (by decide +kernel) ?_
      refine lv_aload_n hx hb dX12_count_183 rfl (lv_at hl 2 rfl) ?_
      refine va_get (D := G.1) (ci := 12) (v := .ref b_rf) (C := RX12) (T := TX12) (N := 52) hx hb hts inG_X12 hown hK hP 0 rfl rfl 2 (by decide +kernel) (hts _ fl_X12_7) (fun _ h9 => h9) rfl dX12_count_184 ?_
      refine lv_bipush (v := 6) hx hb dX12_count_187 (by decide +kernel) ?_
      refine va_iald hx hb hK hP 1 0 rfl rfl (i := 6) (by unfold vp_in; decide) dX12_count_189 ?_
      refine g5_ti (v := (v_rf 6)) rfl ?_
      refine W.eq (g2 := F0 m 190 ls [.int (v_rf 6)]) rfl ?_
      exact W.iret (v := (v_rf 6)) hx hb hr (fun t ht hW => ⟨⟨(v_rf 6), [(b_o, (oc12 0 u_sa b_rf b_ro b_im b_ke u_fd b_tp u_td u_fr u_to u_so u_wo u_fa u_bd u_nc b_nl u_co b_op b_ar u_le b_pi b_pa u_pd u_od b_ws b_hw u_la b_se b_re u_bk u_va u_su u_ce u_ho u_wy u_bt u_ps b_pt u_tg u_sn b_ip u_ic b_ah b_be b_me u_wd b_tr b_ld u_st b_wn u_id)), (b_rf, (arI G 7 v_rf)), (b_ro, (arI G 5740 v_ro))], rfl, ⟨(v_rf 6), 0, rfl, rfl⟩, by rw [ht]; exact hP.sub [0, 1, 2] rfl, hD.sub [0, 1, 2] (by decide +kernel) rfl⟩, hS.F ht⟩) hS.2.2 dX12_count_190
    ·
      have i_4 : p_1.toInt = 13 := by omega
      refine lv_tableIn (tgt := 191) hx hb dX12_count_34 (by omega) (by omega) (by rw [s_4]; rfl) (by decide +kernel) ?_
      refine lv_aload_n hx hb dX12_count_191 rfl (lv_at hl 2 rfl) ?_
      refine va_get (D := G.1) (ci := 12) (v := .ref b_ro) (C := RX12) (T := TX12) (N := 52) hx hb hts inG_X12 hown hK hP 0 rfl rfl 3 (by decide +kernel) (hts _ fl_X12_13) (fun _ h9 => h9) rfl dX12_count_192 ?_
      refine lv_iconst (v := 3) hx hb dX12_count_195 (by decide +kernel) ?_
      refine va_iald hx hb hK hP 2 0 rfl rfl (i := 3) (by unfold vp_in; decide) dX12_count_196 ?_
      refine g5_ti (v := (v_ro 3)) rfl ?_
      have hr_11 : (-1) ≤ (v_ro 3).toInt ∧ (v_ro 3).toInt ≤ 5 := mi_3 r_ro
      refine W.eq (g2 := F0 m 197 ls [.int (v_ro 3)]) rfl ?_
      exact W.iret (v := (v_ro 3)) hx hb hr (fun t ht hW => ⟨⟨(v_ro 3), [(b_o, (oc12 0 u_sa b_rf b_ro b_im b_ke u_fd b_tp u_td u_fr u_to u_so u_wo u_fa u_bd u_nc b_nl u_co b_op b_ar u_le b_pi b_pa u_pd u_od b_ws b_hw u_la b_se b_re u_bk u_va u_su u_ce u_ho u_wy u_bt u_ps b_pt u_tg u_sn b_ip u_ic b_ah b_be b_me u_wd b_tr b_ld u_st b_wn u_id)), (b_rf, (arI G 7 v_rf)), (b_ro, (arI G 5740 v_ro))], rfl, ⟨(v_ro 3), 0, rfl, rfl⟩, by rw [ht]; exact hP.sub [0, 1, 2] rfl, hD.sub [0, 1, 2] (by decide +kernel) rfl⟩, hS.F ht⟩) hS.2.2 dX12_count_197
    ·
      have i_4 : p_1.toInt < 0 := by omega
      refine lv_tableOut (tgt := 198) hx hb dX12_count_34 (by omega) (by decide +kernel) ?_
      refine lv_iconst (v := (-1)) hx hb dX12_count_198 (by decide +kernel) ?_
      exact W.iret (v := (-1)) hx hb hr (fun t ht hW => ⟨⟨(-1), [(b_o, (oc12 0 u_sa b_rf b_ro b_im b_ke u_fd b_tp u_td u_fr u_to u_so u_wo u_fa u_bd u_nc b_nl u_co b_op b_ar u_le b_pi b_pa u_pd u_od b_ws b_hw u_la b_se b_re u_bk u_va u_su u_ce u_ho u_wy u_bt u_ps b_pt u_tg u_sn b_ip u_ic b_ah b_be b_me u_wd b_tr b_ld u_st b_wn u_id)), (b_rf, (arI G 7 v_rf)), (b_ro, (arI G 5740 v_ro))], rfl, ⟨(-1), 0, rfl, rfl⟩, by rw [ht]; exact hP.sub [0, 1, 2] rfl, hD.sub [0, 1, 2] (by decide +kernel) rfl⟩, hS.F ht⟩) hS.2.2 dX12_count_199
    ·
      have i_4 : p_1.toInt > 13 := by omega
      refine lv_tableOut (tgt := 198) hx hb dX12_count_34 (by omega) (by decide +kernel) ?_
      refine lv_iconst (v := (-1)) hx hb dX12_count_198 (by decide +kernel) ?_
      exact W.iret (v := (-1)) hx hb hr (fun t ht hW => ⟨⟨(-1), [(b_o, (oc12 0 u_sa b_rf b_ro b_im b_ke u_fd b_tp u_td u_fr u_to u_so u_wo u_fa u_bd u_nc b_nl u_co b_op b_ar u_le b_pi b_pa u_pd u_od b_ws b_hw u_la b_se b_re u_bk u_va u_su u_ce u_ho u_wy u_bt u_ps b_pt u_tg u_sn b_ip u_ic b_ah b_be b_me u_wd b_tr b_ld u_st b_wn u_id)), (b_rf, (arI G 7 v_rf)), (b_ro, (arI G 5740 v_ro))], rfl, ⟨(-1), 0, rfl, rfl⟩, by rw [ht]; exact hP.sub [0, 1, 2] rfl, hD.sub [0, 1, 2] (by decide +kernel) rfl⟩, hS.F ht⟩) hS.2.2 dX12_count_199
  ·
    have i_3 : k9_3.toInt < 64 := g5_geN (a := k9_3.toInt) (b := 64) rfl (by decide +kernel) c_3
    refine lv_iload_n hx hb dX12_count_15 rfl (lv_at hl 0 rfl) ?_
    refine lv_aload_n hx hb dX12_count_16 rfl (lv_at hl 2 rfl) ?_
    refine va_get (D := G.1) (ci := 12) (v := .ref b_ro) (C := RX12) (T := TX12) (N := 52) hx hb hts inG_X12 hown hK hP 0 rfl rfl 3 (by decide +kernel) (hts _ fl_X12_13) (fun _ h9 => h9) rfl dX12_count_17 ?_
    refine lv_bipush (v := 10) hx hb dX12_count_20 (by decide +kernel) ?_
    refine W.eq (g2 := F0 m 22 ls [.int 10, .ref b_ro, .int k9_2]) rfl ?_
    refine lv_iload_n hx hb dX12_count_22 rfl (lv_at hl 1 rfl) ?_
    refine lv_iadd hx hb dX12_count_23 ?_
    have t_12 : (10 + k9_3).toInt = 10 + k9_3.toInt := g5_iadd (a := 10) (b := k9_3.toInt) (by decide +kernel) (by rfl) (by omega) (by omega)
    refine va_iald hx hb hK hP 2 0 rfl rfl (i := (10 + k9_3)) (vp_in_iff.mpr ⟨by omega, by omega⟩) dX12_count_24 ?_
    refine lv_iadd hx hb dX12_count_25 ?_
    refine lv_istore_n (lv' := [(2, .int (k9_2 + (v_ro (10 + k9_3).toNatClampNeg))), (3, .int k9_3), (0, .ref b_o), (1, .int p_1)]) hx hb dX12_count_26 rfl hl (by decide +kernel) rfl ?_
    clear hl
    intro ls hl
    refine W.eq (g2 := F0 m 27 ls []) rfl ?_
    refine lv_iinc (v := (k9_3 + 1)) (lv' := [(3, .int (k9_3 + 1)), (2, .int (k9_2 + (v_ro (10 + k9_3).toNatClampNeg))), (0, .ref b_o), (1, .int p_1)]) hx hb dX12_count_27 hl (k := 1) rfl rfl (by decide +kernel) rfl ?_
    clear hl
    intro ls hl
    have t_13 : (k9_3 + 1).toInt = k9_3.toInt + 1 := g5_iadd (a := k9_3.toInt) (b := 1) rfl (by decide +kernel) (by omega) (by omega)
    refine lv_goto (tgt := 9) hx hb dX12_count_30 (by decide +kernel) ?_
    exact ih_9_2 ((k9_3 + 1), (k9_2 + (v_ro (10 + k9_3).toNatClampNeg))) ls H locs (show Int.toNat (64 - (k9_3 + 1).toInt) < Int.toNat (64 - k9_3.toInt) from g_up (show k9_3.toInt < (k9_3 + 1).toInt by omega) (show k9_3.toInt < 64 by omega)) ⟨lv_sub hl [1, 0, 2, 3] rfl, hP, hD, hS, ⟨by omega, by omega⟩⟩
set_option maxHeartbeats 4000000 in
set_option maxRecDepth 100000 in
theorem n_inL (l : Launch) (G : g5_G) (sz : Nat) (p_a : Int64) (p_b : Int64) (p_c : Int64) : Met l yX12_in (wsG yX12_in cX12_in 6 (some .boolean)) ({ frames := 0, cells := 0, slots := 0, locals := 0 }) (va_Pc [.long p_a, .long p_b, .long p_c] (g5_P G [] sz)) (va_Qi (fun (r : Int32) (u : va_W) => (∃ (o_r : Int32), (0 ≤ o_r.toInt ∧ o_r.toInt ≤ 1) ∧ (r = o_r) ∧ (u = []))) (g5_B G (va_A [] sz)) (va_A [] sz)) 0 0 (va_A [] sz) := by
  refine Met.ofW (cc := cX12_in) (maxL := 6) (ret := (some .boolean)) (by decide) rfl ?_
  intro p e s m args below meth c s₁ B hml hv
  obtain ⟨rfl, hsz, hP, hK, hD0, hN, hT⟩ := hv
  have hx := B.exec
  have hb := B.bytes
  have hr := B.returns
  have hts : ∀ w ∈ tblG, w.before _ s = true := fun w h => atoms_spec (ws := (wsG yX12_in cX12_in 6 (some .boolean))) B.pre w (List.mem_cons_of_mem _ h)
  have hown : s.vm.findClass RX12 = some m.cls := findClass_of_methodNamed B.named
  have hlocks := B.notSynchronized
  subst hsz
  have hD := hD0.self (sz := s.heap.size)
  generalize hAe : va_A [] s.heap.size = A at hD hT ⊢
  have hA : ∀ q : Nat, s.heap.size ≤ q → A q := fun q h => by rw [← hAe]; exact Or.inr h
  have hS : va_S A s.heap s.heap [] := va_S.rf
  have hP : va_P G.1 vwCl [] s.heap := hP
  have hl := lv_entry ([.long p_a, .long p_b, .long p_c]) (n := 6) (Nat.le_of_ble_eq_true rfl)
  rw [lg_entry_eq]
  generalize (lg_sl ([.long p_a, .long p_b, .long p_c]) ++ List.replicate (6 - (lg_sl ([.long p_a, .long p_b, .long p_c])).length) Slot.unset).toArray = ls at hl ⊢
  have hl : lv_has ls 6 [(0, .long p_a), (2, .long p_b), (4, .long p_c)] := hl
  refine lv_lload_n hx hb dX12_in_0 rfl (lv_at hl 0 rfl) ?_
  refine lv_lload_n hx hb dX12_in_1 rfl (lv_at hl 1 rfl) ?_
  refine W.lcmp hx hb dX12_in_2 ?_
  refine lv_if_lt (tgt := 17) hx hb dX12_in_3 (by decide) (fun c_1 => ?_) (fun c_1 => ?_)
  ·
    have i_1 : (lg_cmp p_a p_b).toInt < 0 := by have z := g5_lt (a := (lg_cmp p_a p_b).toInt) (b := 0) (by rfl) (by decide) c_1; omega
    refine lv_iconst (v := 0) hx hb dX12_in_17 (by decide) ?_
    exact W.zret (v := 0) hx hb hr rfl (fun t ht hW => ⟨⟨0, [], rfl, ⟨0, ⟨by have zc_o_r : (0 : Int32).toInt = 0 := (by decide); omega, by have zc_o_r : (0 : Int32).toInt = 0 := (by decide); omega⟩, rfl, rfl⟩, by rw [ht]; exact hP.sub [] rfl, hD.sub [] (by decide) rfl⟩, hS.F ht⟩) hS.2.2 dX12_in_18
  ·
    have i_1 : (lg_cmp p_a p_b).toInt ≥ 0 := by have z := g5_ltN (a := (lg_cmp p_a p_b).toInt) (b := 0) (by rfl) (by decide) c_1; omega
    refine lv_lload_n hx hb dX12_in_6 rfl (lv_at hl 0 rfl) ?_
    refine lv_lload hx hb dX12_in_7 (lv_at hl 2 rfl) ?_
    refine W.lcmp hx hb dX12_in_9 ?_
    refine lv_if_gt (tgt := 17) hx hb dX12_in_10 (by decide) (fun c_2 => ?_) (fun c_2 => ?_)
    ·
      have i_2 : (lg_cmp p_a p_c).toInt > 0 := by have z := g5_gt (a := (lg_cmp p_a p_c).toInt) (b := 0) (by rfl) (by decide) c_2; omega
      refine lv_iconst (v := 0) hx hb dX12_in_17 (by decide) ?_
      exact W.zret (v := 0) hx hb hr rfl (fun t ht hW => ⟨⟨0, [], rfl, ⟨0, ⟨by have zc_o_r : (0 : Int32).toInt = 0 := (by decide); omega, by have zc_o_r : (0 : Int32).toInt = 0 := (by decide); omega⟩, rfl, rfl⟩, by rw [ht]; exact hP.sub [] rfl, hD.sub [] (by decide) rfl⟩, hS.F ht⟩) hS.2.2 dX12_in_18
    ·
      have i_2 : (lg_cmp p_a p_c).toInt ≤ 0 := by have z := g5_gtN (a := (lg_cmp p_a p_c).toInt) (b := 0) (by rfl) (by decide) c_2; omega
      refine lv_iconst (v := 1) hx hb dX12_in_13 (by decide) ?_
      refine lv_goto (tgt := 18) hx hb dX12_in_14 (by decide) ?_
      exact W.zret (v := 1) hx hb hr rfl (fun t ht hW => ⟨⟨1, [], rfl, ⟨1, ⟨by have zc_o_r : (1 : Int32).toInt = 1 := (by decide); omega, by have zc_o_r : (1 : Int32).toInt = 1 := (by decide); omega⟩, rfl, rfl⟩, by rw [ht]; exact hP.sub [] rfl, hD.sub [] (by decide) rfl⟩, hS.F ht⟩) hS.2.2 dX12_in_18
theorem dgX12_reckon_0 : ∀ r ∈ ([(0, (.iload_n 1, 1)), (1, (.tableswitch 112 20 25 #[39, 44, 49, 54, 86, 99], 39)), (40, (.lload_n 2, 1)), (41, (.lload 4, 2)), (43, (.ladd, 1)), (44, (.lreturn, 1)), (45, (.lload_n 2, 1)), (46, (.lload 4, 2)), (48, (.lsub, 1)), (49, (.lreturn, 1)), (50, (.lload_n 2, 1)), (51, (.lload 4, 2)), (53, (.lmul, 1)), (54, (.lreturn, 1)), (55, (.aload_n 0, 1)), (56, (.lload 4, 2)), (58, (.lconst 0, 1)), (59, (.lcmp, 1)), (60, (.ifCond .ne 7, 3)), (63, (.iconst 1, 1)), (64, (.goto 4, 3)), (67, (.iconst 0, 1)), (68, (.putfield 326, 3)), (71, (.aload_n 0, 1)), (72, (.getfield 326, 3)), (75, (.ifCond .eq 7, 3)), (78, (.lconst 0, 1)), (79, (.goto 7, 3)), (82, (.lload_n 2, 1)), (83, (.lload 4, 2)), (85, (.ldiv, 1)), (86, (.lreturn, 1)), (87, (.lload_n 2, 1)), (88, (.lload 4, 2)), (90, (.lcmp, 1)), (91, (.ifCond .ge 7, 3)), (94, (.lconst 1, 1)), (95, (.goto 4, 3)), (98, (.lconst 0, 1)), (99, (.lreturn, 1))] : List (Nat × (Instr × Nat))), decode cX12_reckon r.1 = .ok r.2 := by decide +kernel
theorem dX12_reckon_0 : decode cX12_reckon 0 = .ok (.iload_n 1, 1) := dgX12_reckon_0 (0, (.iload_n 1, 1)) (List.mem_of_getElem? (i := 0) rfl)
theorem dX12_reckon_1 : decode cX12_reckon 1 = .ok (.tableswitch 112 20 25 #[39, 44, 49, 54, 86, 99], 39) := dgX12_reckon_0 (1, (.tableswitch 112 20 25 #[39, 44, 49, 54, 86, 99], 39)) (List.mem_of_getElem? (i := 1) rfl)
theorem dX12_reckon_40 : decode cX12_reckon 40 = .ok (.lload_n 2, 1) := dgX12_reckon_0 (40, (.lload_n 2, 1)) (List.mem_of_getElem? (i := 2) rfl)
theorem dX12_reckon_41 : decode cX12_reckon 41 = .ok (.lload 4, 2) := dgX12_reckon_0 (41, (.lload 4, 2)) (List.mem_of_getElem? (i := 3) rfl)
theorem dX12_reckon_43 : decode cX12_reckon 43 = .ok (.ladd, 1) := dgX12_reckon_0 (43, (.ladd, 1)) (List.mem_of_getElem? (i := 4) rfl)
theorem dX12_reckon_44 : decode cX12_reckon 44 = .ok (.lreturn, 1) := dgX12_reckon_0 (44, (.lreturn, 1)) (List.mem_of_getElem? (i := 5) rfl)
theorem dX12_reckon_45 : decode cX12_reckon 45 = .ok (.lload_n 2, 1) := dgX12_reckon_0 (45, (.lload_n 2, 1)) (List.mem_of_getElem? (i := 6) rfl)
theorem dX12_reckon_46 : decode cX12_reckon 46 = .ok (.lload 4, 2) := dgX12_reckon_0 (46, (.lload 4, 2)) (List.mem_of_getElem? (i := 7) rfl)
theorem dX12_reckon_48 : decode cX12_reckon 48 = .ok (.lsub, 1) := dgX12_reckon_0 (48, (.lsub, 1)) (List.mem_of_getElem? (i := 8) rfl)
theorem dX12_reckon_49 : decode cX12_reckon 49 = .ok (.lreturn, 1) := dgX12_reckon_0 (49, (.lreturn, 1)) (List.mem_of_getElem? (i := 9) rfl)
theorem dX12_reckon_50 : decode cX12_reckon 50 = .ok (.lload_n 2, 1) := dgX12_reckon_0 (50, (.lload_n 2, 1)) (List.mem_of_getElem? (i := 10) rfl)
theorem dX12_reckon_51 : decode cX12_reckon 51 = .ok (.lload 4, 2) := dgX12_reckon_0 (51, (.lload 4, 2)) (List.mem_of_getElem? (i := 11) rfl)
theorem dX12_reckon_53 : decode cX12_reckon 53 = .ok (.lmul, 1) := dgX12_reckon_0 (53, (.lmul, 1)) (List.mem_of_getElem? (i := 12) rfl)
theorem dX12_reckon_54 : decode cX12_reckon 54 = .ok (.lreturn, 1) := dgX12_reckon_0 (54, (.lreturn, 1)) (List.mem_of_getElem? (i := 13) rfl)
theorem dX12_reckon_55 : decode cX12_reckon 55 = .ok (.aload_n 0, 1) := dgX12_reckon_0 (55, (.aload_n 0, 1)) (List.mem_of_getElem? (i := 14) rfl)
theorem dX12_reckon_56 : decode cX12_reckon 56 = .ok (.lload 4, 2) := dgX12_reckon_0 (56, (.lload 4, 2)) (List.mem_of_getElem? (i := 15) rfl)
theorem dX12_reckon_58 : decode cX12_reckon 58 = .ok (.lconst 0, 1) := dgX12_reckon_0 (58, (.lconst 0, 1)) (List.mem_of_getElem? (i := 16) rfl)
theorem dX12_reckon_59 : decode cX12_reckon 59 = .ok (.lcmp, 1) := dgX12_reckon_0 (59, (.lcmp, 1)) (List.mem_of_getElem? (i := 17) rfl)
theorem dX12_reckon_60 : decode cX12_reckon 60 = .ok (.ifCond .ne 7, 3) := dgX12_reckon_0 (60, (.ifCond .ne 7, 3)) (List.mem_of_getElem? (i := 18) rfl)
theorem dX12_reckon_63 : decode cX12_reckon 63 = .ok (.iconst 1, 1) := dgX12_reckon_0 (63, (.iconst 1, 1)) (List.mem_of_getElem? (i := 19) rfl)
theorem dX12_reckon_64 : decode cX12_reckon 64 = .ok (.goto 4, 3) := dgX12_reckon_0 (64, (.goto 4, 3)) (List.mem_of_getElem? (i := 20) rfl)
theorem dX12_reckon_67 : decode cX12_reckon 67 = .ok (.iconst 0, 1) := dgX12_reckon_0 (67, (.iconst 0, 1)) (List.mem_of_getElem? (i := 21) rfl)
theorem dX12_reckon_68 : decode cX12_reckon 68 = .ok (.putfield 326, 3) := dgX12_reckon_0 (68, (.putfield 326, 3)) (List.mem_of_getElem? (i := 22) rfl)
theorem dX12_reckon_71 : decode cX12_reckon 71 = .ok (.aload_n 0, 1) := dgX12_reckon_0 (71, (.aload_n 0, 1)) (List.mem_of_getElem? (i := 23) rfl)
theorem dX12_reckon_72 : decode cX12_reckon 72 = .ok (.getfield 326, 3) := dgX12_reckon_0 (72, (.getfield 326, 3)) (List.mem_of_getElem? (i := 24) rfl)
theorem dX12_reckon_75 : decode cX12_reckon 75 = .ok (.ifCond .eq 7, 3) := dgX12_reckon_0 (75, (.ifCond .eq 7, 3)) (List.mem_of_getElem? (i := 25) rfl)
theorem dX12_reckon_78 : decode cX12_reckon 78 = .ok (.lconst 0, 1) := dgX12_reckon_0 (78, (.lconst 0, 1)) (List.mem_of_getElem? (i := 26) rfl)
theorem dX12_reckon_79 : decode cX12_reckon 79 = .ok (.goto 7, 3) := dgX12_reckon_0 (79, (.goto 7, 3)) (List.mem_of_getElem? (i := 27) rfl)
theorem dX12_reckon_82 : decode cX12_reckon 82 = .ok (.lload_n 2, 1) := dgX12_reckon_0 (82, (.lload_n 2, 1)) (List.mem_of_getElem? (i := 28) rfl)
theorem dX12_reckon_83 : decode cX12_reckon 83 = .ok (.lload 4, 2) := dgX12_reckon_0 (83, (.lload 4, 2)) (List.mem_of_getElem? (i := 29) rfl)
theorem dX12_reckon_85 : decode cX12_reckon 85 = .ok (.ldiv, 1) := dgX12_reckon_0 (85, (.ldiv, 1)) (List.mem_of_getElem? (i := 30) rfl)
theorem dX12_reckon_86 : decode cX12_reckon 86 = .ok (.lreturn, 1) := dgX12_reckon_0 (86, (.lreturn, 1)) (List.mem_of_getElem? (i := 31) rfl)
theorem dX12_reckon_87 : decode cX12_reckon 87 = .ok (.lload_n 2, 1) := dgX12_reckon_0 (87, (.lload_n 2, 1)) (List.mem_of_getElem? (i := 32) rfl)
theorem dX12_reckon_88 : decode cX12_reckon 88 = .ok (.lload 4, 2) := dgX12_reckon_0 (88, (.lload 4, 2)) (List.mem_of_getElem? (i := 33) rfl)
theorem dX12_reckon_90 : decode cX12_reckon 90 = .ok (.lcmp, 1) := dgX12_reckon_0 (90, (.lcmp, 1)) (List.mem_of_getElem? (i := 34) rfl)
theorem dX12_reckon_91 : decode cX12_reckon 91 = .ok (.ifCond .ge 7, 3) := dgX12_reckon_0 (91, (.ifCond .ge 7, 3)) (List.mem_of_getElem? (i := 35) rfl)
theorem dX12_reckon_94 : decode cX12_reckon 94 = .ok (.lconst 1, 1) := dgX12_reckon_0 (94, (.lconst 1, 1)) (List.mem_of_getElem? (i := 36) rfl)
theorem dX12_reckon_95 : decode cX12_reckon 95 = .ok (.goto 4, 3) := dgX12_reckon_0 (95, (.goto 4, 3)) (List.mem_of_getElem? (i := 37) rfl)
theorem dX12_reckon_98 : decode cX12_reckon 98 = .ok (.lconst 0, 1) := dgX12_reckon_0 (98, (.lconst 0, 1)) (List.mem_of_getElem? (i := 38) rfl)
theorem dX12_reckon_99 : decode cX12_reckon 99 = .ok (.lreturn, 1) := dgX12_reckon_0 (99, (.lreturn, 1)) (List.mem_of_getElem? (i := 39) rfl)
theorem dgX12_reckon_1 : ∀ r ∈ ([(100, (.lload_n 2, 1)), (101, (.lload 4, 2)), (103, (.lcmp, 1)), (104, (.ifCond .le 7, 3)), (107, (.lconst 1, 1)), (108, (.goto 4, 3)), (111, (.lconst 0, 1)), (112, (.lreturn, 1)), (113, (.lload_n 2, 1)), (114, (.lload 4, 2)), (116, (.lcmp, 1)), (117, (.ifCond .ne 7, 3)), (120, (.lconst 1, 1)), (121, (.goto 4, 3)), (124, (.lconst 0, 1)), (125, (.lreturn, 1))] : List (Nat × (Instr × Nat))), decode cX12_reckon r.1 = .ok r.2 := by decide +kernel
theorem dX12_reckon_100 : decode cX12_reckon 100 = .ok (.lload_n 2, 1) := dgX12_reckon_1 (100, (.lload_n 2, 1)) (List.mem_of_getElem? (i := 0) rfl)
theorem dX12_reckon_101 : decode cX12_reckon 101 = .ok (.lload 4, 2) := dgX12_reckon_1 (101, (.lload 4, 2)) (List.mem_of_getElem? (i := 1) rfl)
theorem dX12_reckon_103 : decode cX12_reckon 103 = .ok (.lcmp, 1) := dgX12_reckon_1 (103, (.lcmp, 1)) (List.mem_of_getElem? (i := 2) rfl)
theorem dX12_reckon_104 : decode cX12_reckon 104 = .ok (.ifCond .le 7, 3) := dgX12_reckon_1 (104, (.ifCond .le 7, 3)) (List.mem_of_getElem? (i := 3) rfl)
theorem dX12_reckon_107 : decode cX12_reckon 107 = .ok (.lconst 1, 1) := dgX12_reckon_1 (107, (.lconst 1, 1)) (List.mem_of_getElem? (i := 4) rfl)
theorem dX12_reckon_108 : decode cX12_reckon 108 = .ok (.goto 4, 3) := dgX12_reckon_1 (108, (.goto 4, 3)) (List.mem_of_getElem? (i := 5) rfl)
theorem dX12_reckon_111 : decode cX12_reckon 111 = .ok (.lconst 0, 1) := dgX12_reckon_1 (111, (.lconst 0, 1)) (List.mem_of_getElem? (i := 6) rfl)
theorem dX12_reckon_112 : decode cX12_reckon 112 = .ok (.lreturn, 1) := dgX12_reckon_1 (112, (.lreturn, 1)) (List.mem_of_getElem? (i := 7) rfl)
theorem dX12_reckon_113 : decode cX12_reckon 113 = .ok (.lload_n 2, 1) := dgX12_reckon_1 (113, (.lload_n 2, 1)) (List.mem_of_getElem? (i := 8) rfl)
theorem dX12_reckon_114 : decode cX12_reckon 114 = .ok (.lload 4, 2) := dgX12_reckon_1 (114, (.lload 4, 2)) (List.mem_of_getElem? (i := 9) rfl)
theorem dX12_reckon_116 : decode cX12_reckon 116 = .ok (.lcmp, 1) := dgX12_reckon_1 (116, (.lcmp, 1)) (List.mem_of_getElem? (i := 10) rfl)
theorem dX12_reckon_117 : decode cX12_reckon 117 = .ok (.ifCond .ne 7, 3) := dgX12_reckon_1 (117, (.ifCond .ne 7, 3)) (List.mem_of_getElem? (i := 11) rfl)
theorem dX12_reckon_120 : decode cX12_reckon 120 = .ok (.lconst 1, 1) := dgX12_reckon_1 (120, (.lconst 1, 1)) (List.mem_of_getElem? (i := 12) rfl)
theorem dX12_reckon_121 : decode cX12_reckon 121 = .ok (.goto 4, 3) := dgX12_reckon_1 (121, (.goto 4, 3)) (List.mem_of_getElem? (i := 13) rfl)
theorem dX12_reckon_124 : decode cX12_reckon 124 = .ok (.lconst 0, 1) := dgX12_reckon_1 (124, (.lconst 0, 1)) (List.mem_of_getElem? (i := 14) rfl)
theorem dX12_reckon_125 : decode cX12_reckon 125 = .ok (.lreturn, 1) := dgX12_reckon_1 (125, (.lreturn, 1)) (List.mem_of_getElem? (i := 15) rfl)
theorem fl_X12_326 : Cond.fieldLink RX12 326 "LateGlassModel" "broken" "Z" ∈ tblG := tg 1233 (by decide +kernel) (by decide +kernel)
set_option maxHeartbeats 4000000 in
set_option maxRecDepth 100000 in
theorem n_reckon (l : Launch) (G : g5_G) (b_o b_rf b_ro b_im b_ke b_tp b_nl b_op b_ar b_pi b_pa b_ws b_hw b_se b_re b_pt b_ip b_ah b_be b_me b_tr b_ld b_wn : Nat) (sz : Nat) (u_th : Int32) (u_sa : Int32) (u_fd : Int32) (u_td : Int32) (u_fr : Int32) (u_to : Int32) (u_so : Int32) (u_fa : Int32) (u_bd : Int32) (u_nc : Int32) (u_co : Int32) (u_le : Int32) (u_pd : Int32) (u_od : Int32) (u_la : Int32) (u_bk : Int32) (u_ce : Int32) (u_ho : Int32) (u_wy : Int32) (u_bt : Int32) (u_ps : Int32) (u_tg : Int32) (u_sn : Int32) (u_ic : Int32) (u_wd : Int32) (u_id : Int32) (p_1 : Int32) (u_wo : Int64) (u_va : Int64) (u_su : Int64) (u_st : Int64) (p_2 : Int64) (p_4 : Int64) (h_u_td : 0 ≤ u_td.toInt ∧ u_td.toInt ≤ 400) (h_u_fr : 0 ≤ u_fr.toInt ∧ u_fr.toInt ≤ 400) (h_u_to : 0 ≤ u_to.toInt ∧ u_to.toInt ≤ 400) (h_u_bd : 0 ≤ u_bd.toInt ∧ u_bd.toInt ≤ 1) (h_u_nc : 0 ≤ u_nc.toInt ∧ u_nc.toInt ≤ 12) (h_u_co : 0 ≤ u_co.toInt ∧ u_co.toInt ≤ 400) (h_u_pd : 0 ≤ u_pd.toInt ∧ u_pd.toInt ≤ 400) (h_u_la : 0 ≤ u_la.toInt ∧ u_la.toInt ≤ 4840) (h_u_bk : 0 ≤ u_bk.toInt ∧ u_bk.toInt ≤ 1) (h_u_ce : 0 ≤ u_ce.toInt ∧ u_ce.toInt ≤ 63) (h_u_ho : 0 ≤ u_ho.toInt ∧ u_ho.toInt ≤ 23) (h_u_wy : 0 ≤ u_wy.toInt ∧ u_wy.toInt ≤ 3) (h_u_bt : 0 ≤ u_bt.toInt ∧ u_bt.toInt ≤ 1000000) (h_u_ps : 0 ≤ u_ps.toInt ∧ u_ps.toInt ≤ 200) (h_u_ic : 0 ≤ u_ic.toInt ∧ u_ic.toInt ≤ 1) (h_u_id : 0 ≤ u_id.toInt ∧ u_id.toInt ≤ 1) (h_p_1 : 0 ≤ p_1.toInt ∧ p_1.toInt ≤ 29) : Met l yX12_reckon (wsG yX12_reckon cX12_reckon 6 (some .long)) ({ frames := 0, cells := 0, slots := 0, locals := 0 }) (va_Pc [.ref b_o, .int p_1, .long p_2, .long p_4] (g5_P G [(b_o, (oc12 u_th u_sa b_rf b_ro b_im b_ke u_fd b_tp u_td u_fr u_to u_so u_wo u_fa u_bd u_nc b_nl u_co b_op b_ar u_le b_pi b_pa u_pd u_od b_ws b_hw u_la b_se b_re u_bk u_va u_su u_ce u_ho u_wy u_bt u_ps b_pt u_tg u_sn b_ip u_ic b_ah b_be b_me u_wd b_tr b_ld u_st b_wn u_id))] sz)) (va_Ql (fun (r : Int64) (u : va_W) => (∃ (o_r : Int64) (o_bk : Int32), (0 ≤ o_bk.toInt ∧ o_bk.toInt ≤ 1) ∧ (r = o_r) ∧ (u = [(b_o, (oc12 u_th u_sa b_rf b_ro b_im b_ke u_fd b_tp u_td u_fr u_to u_so u_wo u_fa u_bd u_nc b_nl u_co b_op b_ar u_le b_pi b_pa u_pd u_od b_ws b_hw u_la b_se b_re o_bk u_va u_su u_ce u_ho u_wy u_bt u_ps b_pt u_tg u_sn b_ip u_ic b_ah b_be b_me u_wd b_tr b_ld u_st b_wn u_id))]))) (g5_B G (va_A [(b_o, (oc12 u_th u_sa b_rf b_ro b_im b_ke u_fd b_tp u_td u_fr u_to u_so u_wo u_fa u_bd u_nc b_nl u_co b_op b_ar u_le b_pi b_pa u_pd u_od b_ws b_hw u_la b_se b_re u_bk u_va u_su u_ce u_ho u_wy u_bt u_ps b_pt u_tg u_sn b_ip u_ic b_ah b_be b_me u_wd b_tr b_ld u_st b_wn u_id))] sz)) (va_A [(b_o, (oc12 u_th u_sa b_rf b_ro b_im b_ke u_fd b_tp u_td u_fr u_to u_so u_wo u_fa u_bd u_nc b_nl u_co b_op b_ar u_le b_pi b_pa u_pd u_od b_ws b_hw u_la b_se b_re u_bk u_va u_su u_ce u_ho u_wy u_bt u_ps b_pt u_tg u_sn b_ip u_ic b_ah b_be b_me u_wd b_tr b_ld u_st b_wn u_id))] sz)) 0 0 (va_A [(b_o, (oc12 u_th u_sa b_rf b_ro b_im b_ke u_fd b_tp u_td u_fr u_to u_so u_wo u_fa u_bd u_nc b_nl u_co b_op b_ar u_le b_pi b_pa u_pd u_od b_ws b_hw u_la b_se b_re u_bk u_va u_su u_ce u_ho u_wy u_bt u_ps b_pt u_tg u_sn b_ip u_ic b_ah b_be b_me u_wd b_tr b_ld u_st b_wn u_id))] sz) := by
  refine Met.ofW (cc := cX12_reckon) (maxL := 6) (ret := (some .long)) (by decide +kernel) rfl ?_
  intro p e s m args below meth c s₁ B hml hv
  obtain ⟨rfl, hsz, hP, hK, hD0, hN, hT⟩ := hv
  have hx := B.exec
  have hb := B.bytes
  have hr := B.returns
  have hts : ∀ w ∈ tblG, w.before _ s = true := fun w h => atoms_spec (ws := (wsG yX12_reckon cX12_reckon 6 (some .long))) B.pre w (List.mem_cons_of_mem _ h)
  have hown : s.vm.findClass RX12 = some m.cls := findClass_of_methodNamed B.named
  have hlocks := B.notSynchronized
  subst hsz
  have hD := hD0.self (sz := s.heap.size)
  generalize hAe : va_A [(b_o, (oc12 u_th u_sa b_rf b_ro b_im b_ke u_fd b_tp u_td u_fr u_to u_so u_wo u_fa u_bd u_nc b_nl u_co b_op b_ar u_le b_pi b_pa u_pd u_od b_ws b_hw u_la b_se b_re u_bk u_va u_su u_ce u_ho u_wy u_bt u_ps b_pt u_tg u_sn b_ip u_ic b_ah b_be b_me u_wd b_tr b_ld u_st b_wn u_id))] s.heap.size = A at hD hT ⊢
  have hA : ∀ q : Nat, s.heap.size ≤ q → A q := fun q h => by rw [← hAe]; exact Or.inr h
  have hS : va_S A s.heap s.heap [] := va_S.rf
  replace hP : va_P G.1 vwCl [(b_o, (oc12 u_th u_sa b_rf b_ro b_im b_ke u_fd b_tp u_td u_fr u_to u_so u_wo u_fa u_bd u_nc b_nl u_co b_op b_ar u_le b_pi b_pa u_pd u_od b_ws b_hw u_la b_se b_re u_bk u_va u_su u_ce u_ho u_wy u_bt u_ps b_pt u_tg u_sn b_ip u_ic b_ah b_be b_me u_wd b_tr b_ld u_st b_wn u_id))] s.heap := hP
  have hl := lv_entry ([.ref b_o, .int p_1, .long p_2, .long p_4]) (n := 6) (Nat.le_of_ble_eq_true rfl)
  rw [lg_entry_eq]
  generalize (lg_sl ([.ref b_o, .int p_1, .long p_2, .long p_4]) ++ List.replicate (6 - (lg_sl ([.ref b_o, .int p_1, .long p_2, .long p_4])).length) Slot.unset).toArray = ls at hl ⊢
  replace hl : lv_has ls 6 [(0, .ref b_o), (1, .int p_1), (2, .long p_2), (4, .long p_4)] := hl
  refine lv_iload_n hx hb dX12_reckon_0 rfl (lv_at hl 1 rfl) ?_
  rcases (show p_1.toInt = 20 ∨ p_1.toInt = 21 ∨ p_1.toInt = 22 ∨ p_1.toInt = 23 ∨ p_1.toInt = 24 ∨ p_1.toInt = 25 ∨ p_1.toInt < 20 ∨ p_1.toInt > 25 by omega) with s_1 | s_1 | s_1 | s_1 | s_1 | s_1 | s_1 | s_1
  ·
    have i_1 : p_1.toInt = 20 := by omega
    refine lv_tableIn (tgt := 40) hx hb dX12_reckon_1 (by omega) (by omega) (by rw [s_1]; rfl) (by decide +kernel) ?_
    refine lv_lload_n hx hb dX12_reckon_40 rfl (lv_at hl 2 rfl) ?_
    refine lv_lload hx hb dX12_reckon_41 (lv_at hl 3 rfl) ?_
    refine lv_ladd hx hb dX12_reckon_43 ?_
    exact W.lret (v := (p_2 + p_4)) hx hb hr (fun t ht hW => ⟨⟨(p_2 + p_4), [(b_o, (oc12 u_th u_sa b_rf b_ro b_im b_ke u_fd b_tp u_td u_fr u_to u_so u_wo u_fa u_bd u_nc b_nl u_co b_op b_ar u_le b_pi b_pa u_pd u_od b_ws b_hw u_la b_se b_re u_bk u_va u_su u_ce u_ho u_wy u_bt u_ps b_pt u_tg u_sn b_ip u_ic b_ah b_be b_me u_wd b_tr b_ld u_st b_wn u_id))], rfl, ⟨(p_2 + p_4), u_bk, h_u_bk, rfl, rfl⟩, by rw [ht]; exact hP.sub [0] rfl, hD.sub [0] (by decide +kernel) rfl⟩, hS.F ht⟩) hS.2.2 dX12_reckon_44
  ·
    have i_1 : p_1.toInt = 21 := by omega
    refine lv_tableIn (tgt := 45) hx hb dX12_reckon_1 (by omega) (by omega) (by rw [s_1]; rfl) (by decide +kernel) ?_
    refine lv_lload_n hx hb dX12_reckon_45 rfl (lv_at hl 2 rfl) ?_
    refine lv_lload hx hb dX12_reckon_46 (lv_at hl 3 rfl) ?_
    refine lv_lsub hx hb dX12_reckon_48 ?_
    exact W.lret (v := (p_2 - p_4)) hx hb hr (fun t ht hW => ⟨⟨(p_2 - p_4), [(b_o, (oc12 u_th u_sa b_rf b_ro b_im b_ke u_fd b_tp u_td u_fr u_to u_so u_wo u_fa u_bd u_nc b_nl u_co b_op b_ar u_le b_pi b_pa u_pd u_od b_ws b_hw u_la b_se b_re u_bk u_va u_su u_ce u_ho u_wy u_bt u_ps b_pt u_tg u_sn b_ip u_ic b_ah b_be b_me u_wd b_tr b_ld u_st b_wn u_id))], rfl, ⟨(p_2 - p_4), u_bk, h_u_bk, rfl, rfl⟩, by rw [ht]; exact hP.sub [0] rfl, hD.sub [0] (by decide +kernel) rfl⟩, hS.F ht⟩) hS.2.2 dX12_reckon_49
  ·
    have i_1 : p_1.toInt = 22 := by omega
    refine lv_tableIn (tgt := 50) hx hb dX12_reckon_1 (by omega) (by omega) (by rw [s_1]; rfl) (by decide +kernel) ?_
    refine lv_lload_n hx hb dX12_reckon_50 rfl (lv_at hl 2 rfl) ?_
    refine lv_lload hx hb dX12_reckon_51 (lv_at hl 3 rfl) ?_
    refine lv_lmul hx hb dX12_reckon_53 ?_
    exact W.lret (v := (p_2 * p_4)) hx hb hr (fun t ht hW => ⟨⟨(p_2 * p_4), [(b_o, (oc12 u_th u_sa b_rf b_ro b_im b_ke u_fd b_tp u_td u_fr u_to u_so u_wo u_fa u_bd u_nc b_nl u_co b_op b_ar u_le b_pi b_pa u_pd u_od b_ws b_hw u_la b_se b_re u_bk u_va u_su u_ce u_ho u_wy u_bt u_ps b_pt u_tg u_sn b_ip u_ic b_ah b_be b_me u_wd b_tr b_ld u_st b_wn u_id))], rfl, ⟨(p_2 * p_4), u_bk, h_u_bk, rfl, rfl⟩, by rw [ht]; exact hP.sub [0] rfl, hD.sub [0] (by decide +kernel) rfl⟩, hS.F ht⟩) hS.2.2 dX12_reckon_54
  ·
    have i_1 : p_1.toInt = 23 := by omega
    refine lv_tableIn (tgt := 55) hx hb dX12_reckon_1 (by omega) (by omega) (by rw [s_1]; rfl) (by decide +kernel) ?_
    refine lv_aload_n hx hb dX12_reckon_55 rfl (lv_at hl 0 rfl) ?_
    refine lv_lload hx hb dX12_reckon_56 (lv_at hl 3 rfl) ?_
    refine lv_lconst (v := 0) hx hb dX12_reckon_58 (by decide +kernel) ?_
    refine W.lcmp hx hb dX12_reckon_59 ?_
    refine W.eq (g2 := F0 m 60 ls [.int (lg_cmp p_4 0), .ref b_o]) rfl ?_
    refine lv_if_ne (tgt := 67) hx hb dX12_reckon_60 (by decide +kernel) (fun c_2 => ?_) (fun c_2 => ?_)
    ·
      have n_2 : gNe ((lg_cmp p_4 0).toInt) (0) := g5_ne (a := (lg_cmp p_4 0).toInt) (b := 0) rfl (by decide +kernel) c_2
      refine lv_iconst (v := 0) hx hb dX12_reckon_67 (by decide +kernel) ?_
      refine va_put (D := G.1) (ci := 12) (v := .int 0) (ty := .boolean) (C := RX12) (T := TX12) (N := 52) hx hb hts inG_X12 tyX12 tyX12_ok nmX12 hown hK hP hD hS 0 rfl rfl 30 (by decide +kernel) (hts _ fl_X12_326) (fun _ h9 => h9) rfl (by decide +kernel) rfl rfl (Nat.le_of_ble_eq_true rfl) dX12_reckon_68 ?_
      clear hP hD hS
      intro H locs hP hD hS
      refine g5_rs [(b_o, (oc12 u_th u_sa b_rf b_ro b_im b_ke u_fd b_tp u_td u_fr u_to u_so u_wo u_fa u_bd u_nc b_nl u_co b_op b_ar u_le b_pi b_pa u_pd u_od b_ws b_hw u_la b_se b_re 0 u_va u_su u_ce u_ho u_wy u_bt u_ps b_pt u_tg u_sn b_ip u_ic b_ah b_be b_me u_wd b_tr b_ld u_st b_wn u_id))] hP hD ?_
      clear hP hD
      intro hP hD
      refine lv_aload_n hx hb dX12_reckon_71 rfl (lv_at hl 0 rfl) ?_
      refine va_get (D := G.1) (ci := 12) (v := .int 0) (C := RX12) (T := TX12) (N := 52) hx hb hts inG_X12 hown hK hP 0 rfl rfl 30 (by decide +kernel) (hts _ fl_X12_326) (fun _ h9 => h9) rfl dX12_reckon_72 ?_
      refine W.eq (g2 := F0 m 75 ls [.int 0]) rfl ?_
      refine lv_if_eq (tgt := 82) hx hb dX12_reckon_75 (by decide +kernel) (fun c_3 => ?_) (fun c_3 => ?_)
      ·
        refine lv_lload_n hx hb dX12_reckon_82 rfl (lv_at hl 2 rfl) ?_
        refine lv_lload hx hb dX12_reckon_83 (lv_at hl 3 rfl) ?_
        refine lv_ldiv hx hb dX12_reckon_85 (g5_cmp1 n_2) ?_
        exact W.lret (v := (p_2 / p_4)) hx hb hr (fun t ht hW => ⟨⟨(p_2 / p_4), [(b_o, (oc12 u_th u_sa b_rf b_ro b_im b_ke u_fd b_tp u_td u_fr u_to u_so u_wo u_fa u_bd u_nc b_nl u_co b_op b_ar u_le b_pi b_pa u_pd u_od b_ws b_hw u_la b_se b_re 0 u_va u_su u_ce u_ho u_wy u_bt u_ps b_pt u_tg u_sn b_ip u_ic b_ah b_be b_me u_wd b_tr b_ld u_st b_wn u_id))], rfl, ⟨(p_2 / p_4), 0, ⟨by have zc_o_bk : (0 : Int32).toInt = 0 := (by decide +kernel); omega, by have zc_o_bk : (0 : Int32).toInt = 0 := (by decide +kernel); omega⟩, rfl, rfl⟩, by rw [ht]; exact hP.sub [0] rfl, hD.sub [0] (by decide +kernel) rfl⟩, hS.F ht⟩) hS.2.2 dX12_reckon_86
      ·
        exact absurd c_3 (by decide +kernel)
    ·
      have i_2 : (lg_cmp p_4 0).toInt = 0 := g5_neN (a := (lg_cmp p_4 0).toInt) (b := 0) rfl (by decide +kernel) c_2
      refine lv_iconst (v := 1) hx hb dX12_reckon_63 (by decide +kernel) ?_
      refine lv_goto (tgt := 68) hx hb dX12_reckon_64 (by decide +kernel) ?_
      refine va_put (D := G.1) (ci := 12) (v := .int 1) (ty := .boolean) (C := RX12) (T := TX12) (N := 52) hx hb hts inG_X12 tyX12 tyX12_ok nmX12 hown hK hP hD hS 0 rfl rfl 30 (by decide +kernel) (hts _ fl_X12_326) (fun _ h9 => h9) rfl (by decide +kernel) rfl rfl (Nat.le_of_ble_eq_true rfl) dX12_reckon_68 ?_
      clear hP hD hS
      intro H locs hP hD hS
      refine g5_rs [(b_o, (oc12 u_th u_sa b_rf b_ro b_im b_ke u_fd b_tp u_td u_fr u_to u_so u_wo u_fa u_bd u_nc b_nl u_co b_op b_ar u_le b_pi b_pa u_pd u_od b_ws b_hw u_la b_se b_re 1 u_va u_su u_ce u_ho u_wy u_bt u_ps b_pt u_tg u_sn b_ip u_ic b_ah b_be b_me u_wd b_tr b_ld u_st b_wn u_id))] hP hD ?_
      clear hP hD
      intro hP hD
      refine lv_aload_n hx hb dX12_reckon_71 rfl (lv_at hl 0 rfl) ?_
      refine W.eq (g2 := F0 m 72 ls [.ref b_o]) rfl ?_
      refine va_get (D := G.1) (ci := 12) (v := .int 1) (C := RX12) (T := TX12) (N := 52) hx hb hts inG_X12 hown hK hP 0 rfl rfl 30 (by decide +kernel) (hts _ fl_X12_326) (fun _ h9 => h9) rfl dX12_reckon_72 ?_
      refine lv_if_eq (tgt := 82) hx hb dX12_reckon_75 (by decide +kernel) (fun c_4 => ?_) (fun c_4 => ?_)
      ·
        exact absurd c_4 (by decide +kernel)
      ·
        refine lv_lconst (v := 0) hx hb dX12_reckon_78 (by decide +kernel) ?_
        refine lv_goto (tgt := 86) hx hb dX12_reckon_79 (by decide +kernel) ?_
        exact W.lret (v := 0) hx hb hr (fun t ht hW => ⟨⟨0, [(b_o, (oc12 u_th u_sa b_rf b_ro b_im b_ke u_fd b_tp u_td u_fr u_to u_so u_wo u_fa u_bd u_nc b_nl u_co b_op b_ar u_le b_pi b_pa u_pd u_od b_ws b_hw u_la b_se b_re 1 u_va u_su u_ce u_ho u_wy u_bt u_ps b_pt u_tg u_sn b_ip u_ic b_ah b_be b_me u_wd b_tr b_ld u_st b_wn u_id))], rfl, ⟨0, 1, ⟨by have zc_o_bk : (1 : Int32).toInt = 1 := (by decide +kernel); omega, by have zc_o_bk : (1 : Int32).toInt = 1 := (by decide +kernel); omega⟩, rfl, rfl⟩, by rw [ht]; exact hP.sub [0] rfl, hD.sub [0] (by decide +kernel) rfl⟩, hS.F ht⟩) hS.2.2 dX12_reckon_86
  ·
    have i_1 : p_1.toInt = 24 := by omega
    refine lv_tableIn (tgt := 87) hx hb dX12_reckon_1 (by omega) (by omega) (by rw [s_1]; rfl) (by decide +kernel) ?_
    refine lv_lload_n hx hb dX12_reckon_87 rfl (lv_at hl 2 rfl) ?_
    refine lv_lload hx hb dX12_reckon_88 (lv_at hl 3 rfl) ?_
    refine W.lcmp hx hb dX12_reckon_90 ?_
    refine lv_if_ge (tgt := 98) hx hb dX12_reckon_91 (by decide +kernel) (fun c_5 => ?_) (fun c_5 => ?_)
    ·
      have i_5 : (lg_cmp p_2 p_4).toInt ≥ 0 := g5_ge (a := (lg_cmp p_2 p_4).toInt) (b := 0) rfl (by decide +kernel) c_5
      refine lv_lconst (v := 0) hx hb dX12_reckon_98 (by decide +kernel) ?_
      exact W.lret (v := 0) hx hb hr (fun t ht hW => ⟨⟨0, [(b_o, (oc12 u_th u_sa b_rf b_ro b_im b_ke u_fd b_tp u_td u_fr u_to u_so u_wo u_fa u_bd u_nc b_nl u_co b_op b_ar u_le b_pi b_pa u_pd u_od b_ws b_hw u_la b_se b_re u_bk u_va u_su u_ce u_ho u_wy u_bt u_ps b_pt u_tg u_sn b_ip u_ic b_ah b_be b_me u_wd b_tr b_ld u_st b_wn u_id))], rfl, ⟨0, u_bk, h_u_bk, rfl, rfl⟩, by rw [ht]; exact hP.sub [0] rfl, hD.sub [0] (by decide +kernel) rfl⟩, hS.F ht⟩) hS.2.2 dX12_reckon_99
    ·
      have i_5 : (lg_cmp p_2 p_4).toInt < 0 := g5_geN (a := (lg_cmp p_2 p_4).toInt) (b := 0) rfl (by decide +kernel) c_5
      refine lv_lconst (v := 1) hx hb dX12_reckon_94 (by decide +kernel) ?_
      refine lv_goto (tgt := 99) hx hb dX12_reckon_95 (by decide +kernel) ?_
      exact W.lret (v := 1) hx hb hr (fun t ht hW => ⟨⟨1, [(b_o, (oc12 u_th u_sa b_rf b_ro b_im b_ke u_fd b_tp u_td u_fr u_to u_so u_wo u_fa u_bd u_nc b_nl u_co b_op b_ar u_le b_pi b_pa u_pd u_od b_ws b_hw u_la b_se b_re u_bk u_va u_su u_ce u_ho u_wy u_bt u_ps b_pt u_tg u_sn b_ip u_ic b_ah b_be b_me u_wd b_tr b_ld u_st b_wn u_id))], rfl, ⟨1, u_bk, h_u_bk, rfl, rfl⟩, by rw [ht]; exact hP.sub [0] rfl, hD.sub [0] (by decide +kernel) rfl⟩, hS.F ht⟩) hS.2.2 dX12_reckon_99
  ·
    have i_1 : p_1.toInt = 25 := by omega
    refine lv_tableIn (tgt := 100) hx hb dX12_reckon_1 (by omega) (by omega) (by rw [s_1]; rfl) (by decide +kernel) ?_
    refine lv_lload_n hx hb dX12_reckon_100 rfl (lv_at hl 2 rfl) ?_
    refine lv_lload hx hb dX12_reckon_101 (lv_at hl 3 rfl) ?_
    refine W.lcmp hx hb dX12_reckon_103 ?_
    refine lv_if_le (tgt := 111) hx hb dX12_reckon_104 (by decide +kernel) (fun c_6 => ?_) (fun c_6 => ?_)
    ·
      have i_6 : (lg_cmp p_2 p_4).toInt ≤ 0 := g5_le (a := (lg_cmp p_2 p_4).toInt) (b := 0) rfl (by decide +kernel) c_6
      refine lv_lconst (v := 0) hx hb dX12_reckon_111 (by decide +kernel) ?_
      exact W.lret (v := 0) hx hb hr (fun t ht hW => ⟨⟨0, [(b_o, (oc12 u_th u_sa b_rf b_ro b_im b_ke u_fd b_tp u_td u_fr u_to u_so u_wo u_fa u_bd u_nc b_nl u_co b_op b_ar u_le b_pi b_pa u_pd u_od b_ws b_hw u_la b_se b_re u_bk u_va u_su u_ce u_ho u_wy u_bt u_ps b_pt u_tg u_sn b_ip u_ic b_ah b_be b_me u_wd b_tr b_ld u_st b_wn u_id))], rfl, ⟨0, u_bk, h_u_bk, rfl, rfl⟩, by rw [ht]; exact hP.sub [0] rfl, hD.sub [0] (by decide +kernel) rfl⟩, hS.F ht⟩) hS.2.2 dX12_reckon_112
    ·
      have i_6 : (lg_cmp p_2 p_4).toInt > 0 := g5_leN (a := (lg_cmp p_2 p_4).toInt) (b := 0) rfl (by decide +kernel) c_6
      refine lv_lconst (v := 1) hx hb dX12_reckon_107 (by decide +kernel) ?_
      refine lv_goto (tgt := 112) hx hb dX12_reckon_108 (by decide +kernel) ?_
      exact W.lret (v := 1) hx hb hr (fun t ht hW => ⟨⟨1, [(b_o, (oc12 u_th u_sa b_rf b_ro b_im b_ke u_fd b_tp u_td u_fr u_to u_so u_wo u_fa u_bd u_nc b_nl u_co b_op b_ar u_le b_pi b_pa u_pd u_od b_ws b_hw u_la b_se b_re u_bk u_va u_su u_ce u_ho u_wy u_bt u_ps b_pt u_tg u_sn b_ip u_ic b_ah b_be b_me u_wd b_tr b_ld u_st b_wn u_id))], rfl, ⟨1, u_bk, h_u_bk, rfl, rfl⟩, by rw [ht]; exact hP.sub [0] rfl, hD.sub [0] (by decide +kernel) rfl⟩, hS.F ht⟩) hS.2.2 dX12_reckon_112
  ·
    have i_1 : p_1.toInt < 20 := by omega
    refine lv_tableOut (tgt := 113) hx hb dX12_reckon_1 (by omega) (by decide +kernel) ?_
    refine lv_lload_n hx hb dX12_reckon_113 rfl (lv_at hl 2 rfl) ?_
    refine lv_lload hx hb dX12_reckon_114 (lv_at hl 3 rfl) ?_
    refine W.lcmp hx hb dX12_reckon_116 ?_
    refine lv_if_ne (tgt := 124) hx hb dX12_reckon_117 (by decide +kernel) (fun c_7 => ?_) (fun c_7 => ?_)
    ·
      have n_7 : gNe ((lg_cmp p_2 p_4).toInt) (0) := g5_ne (a := (lg_cmp p_2 p_4).toInt) (b := 0) rfl (by decide +kernel) c_7
      refine lv_lconst (v := 0) hx hb dX12_reckon_124 (by decide +kernel) ?_
      exact W.lret (v := 0) hx hb hr (fun t ht hW => ⟨⟨0, [(b_o, (oc12 u_th u_sa b_rf b_ro b_im b_ke u_fd b_tp u_td u_fr u_to u_so u_wo u_fa u_bd u_nc b_nl u_co b_op b_ar u_le b_pi b_pa u_pd u_od b_ws b_hw u_la b_se b_re u_bk u_va u_su u_ce u_ho u_wy u_bt u_ps b_pt u_tg u_sn b_ip u_ic b_ah b_be b_me u_wd b_tr b_ld u_st b_wn u_id))], rfl, ⟨0, u_bk, h_u_bk, rfl, rfl⟩, by rw [ht]; exact hP.sub [0] rfl, hD.sub [0] (by decide +kernel) rfl⟩, hS.F ht⟩) hS.2.2 dX12_reckon_125
    ·
      have i_7 : (lg_cmp p_2 p_4).toInt = 0 := g5_neN (a := (lg_cmp p_2 p_4).toInt) (b := 0) rfl (by decide +kernel) c_7
      refine lv_lconst (v := 1) hx hb dX12_reckon_120 (by decide +kernel) ?_
      refine lv_goto (tgt := 125) hx hb dX12_reckon_121 (by decide +kernel) ?_
      exact W.lret (v := 1) hx hb hr (fun t ht hW => ⟨⟨1, [(b_o, (oc12 u_th u_sa b_rf b_ro b_im b_ke u_fd b_tp u_td u_fr u_to u_so u_wo u_fa u_bd u_nc b_nl u_co b_op b_ar u_le b_pi b_pa u_pd u_od b_ws b_hw u_la b_se b_re u_bk u_va u_su u_ce u_ho u_wy u_bt u_ps b_pt u_tg u_sn b_ip u_ic b_ah b_be b_me u_wd b_tr b_ld u_st b_wn u_id))], rfl, ⟨1, u_bk, h_u_bk, rfl, rfl⟩, by rw [ht]; exact hP.sub [0] rfl, hD.sub [0] (by decide +kernel) rfl⟩, hS.F ht⟩) hS.2.2 dX12_reckon_125
  ·
    have i_1 : p_1.toInt > 25 := by omega
    refine lv_tableOut (tgt := 113) hx hb dX12_reckon_1 (by omega) (by decide +kernel) ?_
    refine lv_lload_n hx hb dX12_reckon_113 rfl (lv_at hl 2 rfl) ?_
    refine lv_lload hx hb dX12_reckon_114 (lv_at hl 3 rfl) ?_
    refine W.lcmp hx hb dX12_reckon_116 ?_
    refine lv_if_ne (tgt := 124) hx hb dX12_reckon_117 (by decide +kernel) (fun c_8 => ?_) (fun c_8 => ?_)
    ·
      have n_8 : gNe ((lg_cmp p_2 p_4).toInt) (0) := g5_ne (a := (lg_cmp p_2 p_4).toInt) (b := 0) rfl (by decide +kernel) c_8
      refine lv_lconst (v := 0) hx hb dX12_reckon_124 (by decide +kernel) ?_
      exact W.lret (v := 0) hx hb hr (fun t ht hW => ⟨⟨0, [(b_o, (oc12 u_th u_sa b_rf b_ro b_im b_ke u_fd b_tp u_td u_fr u_to u_so u_wo u_fa u_bd u_nc b_nl u_co b_op b_ar u_le b_pi b_pa u_pd u_od b_ws b_hw u_la b_se b_re u_bk u_va u_su u_ce u_ho u_wy u_bt u_ps b_pt u_tg u_sn b_ip u_ic b_ah b_be b_me u_wd b_tr b_ld u_st b_wn u_id))], rfl, ⟨0, u_bk, h_u_bk, rfl, rfl⟩, by rw [ht]; exact hP.sub [0] rfl, hD.sub [0] (by decide +kernel) rfl⟩, hS.F ht⟩) hS.2.2 dX12_reckon_125
    ·
      have i_8 : (lg_cmp p_2 p_4).toInt = 0 := g5_neN (a := (lg_cmp p_2 p_4).toInt) (b := 0) rfl (by decide +kernel) c_8
      refine lv_lconst (v := 1) hx hb dX12_reckon_120 (by decide +kernel) ?_
      refine lv_goto (tgt := 125) hx hb dX12_reckon_121 (by decide +kernel) ?_
      exact W.lret (v := 1) hx hb hr (fun t ht hW => ⟨⟨1, [(b_o, (oc12 u_th u_sa b_rf b_ro b_im b_ke u_fd b_tp u_td u_fr u_to u_so u_wo u_fa u_bd u_nc b_nl u_co b_op b_ar u_le b_pi b_pa u_pd u_od b_ws b_hw u_la b_se b_re u_bk u_va u_su u_ce u_ho u_wy u_bt u_ps b_pt u_tg u_sn b_ip u_ic b_ah b_be b_me u_wd b_tr b_ld u_st b_wn u_id))], rfl, ⟨1, u_bk, h_u_bk, rfl, rfl⟩, by rw [ht]; exact hP.sub [0] rfl, hD.sub [0] (by decide +kernel) rfl⟩, hS.F ht⟩) hS.2.2 dX12_reckon_125
theorem dgX12_reckonAll_0 : ∀ r ∈ ([(0, (.aload_n 0, 1)), (1, (.iconst 0, 1)), (2, (.putfield 326, 3)), (5, (.iconst 0, 1)), (6, (.istore_n 3, 1)), (7, (.iload_n 1, 1)), (8, (.istore 4, 2)), (10, (.iload 4, 2)), (12, (.iload_n 2, 1)), (13, (.if_icmp .ge 232, 3)), (16, (.aload_n 0, 1)), (17, (.getfield 326, 3)), (20, (.ifCond .ne 225, 3)), (23, (.aload_n 0, 1)), (24, (.getfield 13, 3)), (27, (.aload_n 0, 1)), (28, (.getfield 329, 3)), (31, (.bipush 98, 2)), (33, (.iadd, 1)), (34, (.iconst 2, 1)), (35, (.iload 4, 2)), (37, (.imul, 1)), (38, (.iadd, 1)), (39, (.iaload, 1)), (40, (.istore 5, 2)), (42, (.aload_n 0, 1)), (43, (.getfield 13, 3)), (46, (.aload_n 0, 1)), (47, (.getfield 329, 3)), (50, (.bipush 98, 2)), (52, (.iadd, 1)), (53, (.iconst 2, 1)), (54, (.iload 4, 2)), (56, (.imul, 1)), (57, (.iadd, 1)), (58, (.iconst 1, 1)), (59, (.iadd, 1)), (60, (.iaload, 1)), (61, (.istore 6, 2)), (63, (.iinc 4 1, 3))] : List (Nat × (Instr × Nat))), decode cX12_reckonAll r.1 = .ok r.2 := by decide +kernel
theorem dX12_reckonAll_0 : decode cX12_reckonAll 0 = .ok (.aload_n 0, 1) := dgX12_reckonAll_0 (0, (.aload_n 0, 1)) (List.mem_of_getElem? (i := 0) rfl)
theorem dX12_reckonAll_1 : decode cX12_reckonAll 1 = .ok (.iconst 0, 1) := dgX12_reckonAll_0 (1, (.iconst 0, 1)) (List.mem_of_getElem? (i := 1) rfl)
theorem dX12_reckonAll_2 : decode cX12_reckonAll 2 = .ok (.putfield 326, 3) := dgX12_reckonAll_0 (2, (.putfield 326, 3)) (List.mem_of_getElem? (i := 2) rfl)
theorem dX12_reckonAll_5 : decode cX12_reckonAll 5 = .ok (.iconst 0, 1) := dgX12_reckonAll_0 (5, (.iconst 0, 1)) (List.mem_of_getElem? (i := 3) rfl)
theorem dX12_reckonAll_6 : decode cX12_reckonAll 6 = .ok (.istore_n 3, 1) := dgX12_reckonAll_0 (6, (.istore_n 3, 1)) (List.mem_of_getElem? (i := 4) rfl)
theorem dX12_reckonAll_7 : decode cX12_reckonAll 7 = .ok (.iload_n 1, 1) := dgX12_reckonAll_0 (7, (.iload_n 1, 1)) (List.mem_of_getElem? (i := 5) rfl)
theorem dX12_reckonAll_8 : decode cX12_reckonAll 8 = .ok (.istore 4, 2) := dgX12_reckonAll_0 (8, (.istore 4, 2)) (List.mem_of_getElem? (i := 6) rfl)
theorem dX12_reckonAll_10 : decode cX12_reckonAll 10 = .ok (.iload 4, 2) := dgX12_reckonAll_0 (10, (.iload 4, 2)) (List.mem_of_getElem? (i := 7) rfl)
theorem dX12_reckonAll_12 : decode cX12_reckonAll 12 = .ok (.iload_n 2, 1) := dgX12_reckonAll_0 (12, (.iload_n 2, 1)) (List.mem_of_getElem? (i := 8) rfl)
theorem dX12_reckonAll_13 : decode cX12_reckonAll 13 = .ok (.if_icmp .ge 232, 3) := dgX12_reckonAll_0 (13, (.if_icmp .ge 232, 3)) (List.mem_of_getElem? (i := 9) rfl)
theorem dX12_reckonAll_16 : decode cX12_reckonAll 16 = .ok (.aload_n 0, 1) := dgX12_reckonAll_0 (16, (.aload_n 0, 1)) (List.mem_of_getElem? (i := 10) rfl)
theorem dX12_reckonAll_17 : decode cX12_reckonAll 17 = .ok (.getfield 326, 3) := dgX12_reckonAll_0 (17, (.getfield 326, 3)) (List.mem_of_getElem? (i := 11) rfl)
theorem dX12_reckonAll_20 : decode cX12_reckonAll 20 = .ok (.ifCond .ne 225, 3) := dgX12_reckonAll_0 (20, (.ifCond .ne 225, 3)) (List.mem_of_getElem? (i := 12) rfl)
theorem dX12_reckonAll_23 : decode cX12_reckonAll 23 = .ok (.aload_n 0, 1) := dgX12_reckonAll_0 (23, (.aload_n 0, 1)) (List.mem_of_getElem? (i := 13) rfl)
theorem dX12_reckonAll_24 : decode cX12_reckonAll 24 = .ok (.getfield 13, 3) := dgX12_reckonAll_0 (24, (.getfield 13, 3)) (List.mem_of_getElem? (i := 14) rfl)
theorem dX12_reckonAll_27 : decode cX12_reckonAll 27 = .ok (.aload_n 0, 1) := dgX12_reckonAll_0 (27, (.aload_n 0, 1)) (List.mem_of_getElem? (i := 15) rfl)
theorem dX12_reckonAll_28 : decode cX12_reckonAll 28 = .ok (.getfield 329, 3) := dgX12_reckonAll_0 (28, (.getfield 329, 3)) (List.mem_of_getElem? (i := 16) rfl)
theorem dX12_reckonAll_31 : decode cX12_reckonAll 31 = .ok (.bipush 98, 2) := dgX12_reckonAll_0 (31, (.bipush 98, 2)) (List.mem_of_getElem? (i := 17) rfl)
theorem dX12_reckonAll_33 : decode cX12_reckonAll 33 = .ok (.iadd, 1) := dgX12_reckonAll_0 (33, (.iadd, 1)) (List.mem_of_getElem? (i := 18) rfl)
theorem dX12_reckonAll_34 : decode cX12_reckonAll 34 = .ok (.iconst 2, 1) := dgX12_reckonAll_0 (34, (.iconst 2, 1)) (List.mem_of_getElem? (i := 19) rfl)
theorem dX12_reckonAll_35 : decode cX12_reckonAll 35 = .ok (.iload 4, 2) := dgX12_reckonAll_0 (35, (.iload 4, 2)) (List.mem_of_getElem? (i := 20) rfl)
theorem dX12_reckonAll_37 : decode cX12_reckonAll 37 = .ok (.imul, 1) := dgX12_reckonAll_0 (37, (.imul, 1)) (List.mem_of_getElem? (i := 21) rfl)
theorem dX12_reckonAll_38 : decode cX12_reckonAll 38 = .ok (.iadd, 1) := dgX12_reckonAll_0 (38, (.iadd, 1)) (List.mem_of_getElem? (i := 22) rfl)
theorem dX12_reckonAll_39 : decode cX12_reckonAll 39 = .ok (.iaload, 1) := dgX12_reckonAll_0 (39, (.iaload, 1)) (List.mem_of_getElem? (i := 23) rfl)
theorem dX12_reckonAll_40 : decode cX12_reckonAll 40 = .ok (.istore 5, 2) := dgX12_reckonAll_0 (40, (.istore 5, 2)) (List.mem_of_getElem? (i := 24) rfl)
theorem dX12_reckonAll_42 : decode cX12_reckonAll 42 = .ok (.aload_n 0, 1) := dgX12_reckonAll_0 (42, (.aload_n 0, 1)) (List.mem_of_getElem? (i := 25) rfl)
theorem dX12_reckonAll_43 : decode cX12_reckonAll 43 = .ok (.getfield 13, 3) := dgX12_reckonAll_0 (43, (.getfield 13, 3)) (List.mem_of_getElem? (i := 26) rfl)
theorem dX12_reckonAll_46 : decode cX12_reckonAll 46 = .ok (.aload_n 0, 1) := dgX12_reckonAll_0 (46, (.aload_n 0, 1)) (List.mem_of_getElem? (i := 27) rfl)
theorem dX12_reckonAll_47 : decode cX12_reckonAll 47 = .ok (.getfield 329, 3) := dgX12_reckonAll_0 (47, (.getfield 329, 3)) (List.mem_of_getElem? (i := 28) rfl)
theorem dX12_reckonAll_50 : decode cX12_reckonAll 50 = .ok (.bipush 98, 2) := dgX12_reckonAll_0 (50, (.bipush 98, 2)) (List.mem_of_getElem? (i := 29) rfl)
theorem dX12_reckonAll_52 : decode cX12_reckonAll 52 = .ok (.iadd, 1) := dgX12_reckonAll_0 (52, (.iadd, 1)) (List.mem_of_getElem? (i := 30) rfl)
theorem dX12_reckonAll_53 : decode cX12_reckonAll 53 = .ok (.iconst 2, 1) := dgX12_reckonAll_0 (53, (.iconst 2, 1)) (List.mem_of_getElem? (i := 31) rfl)
theorem dX12_reckonAll_54 : decode cX12_reckonAll 54 = .ok (.iload 4, 2) := dgX12_reckonAll_0 (54, (.iload 4, 2)) (List.mem_of_getElem? (i := 32) rfl)
theorem dX12_reckonAll_56 : decode cX12_reckonAll 56 = .ok (.imul, 1) := dgX12_reckonAll_0 (56, (.imul, 1)) (List.mem_of_getElem? (i := 33) rfl)
theorem dX12_reckonAll_57 : decode cX12_reckonAll 57 = .ok (.iadd, 1) := dgX12_reckonAll_0 (57, (.iadd, 1)) (List.mem_of_getElem? (i := 34) rfl)
theorem dX12_reckonAll_58 : decode cX12_reckonAll 58 = .ok (.iconst 1, 1) := dgX12_reckonAll_0 (58, (.iconst 1, 1)) (List.mem_of_getElem? (i := 35) rfl)
theorem dX12_reckonAll_59 : decode cX12_reckonAll 59 = .ok (.iadd, 1) := dgX12_reckonAll_0 (59, (.iadd, 1)) (List.mem_of_getElem? (i := 36) rfl)
theorem dX12_reckonAll_60 : decode cX12_reckonAll 60 = .ok (.iaload, 1) := dgX12_reckonAll_0 (60, (.iaload, 1)) (List.mem_of_getElem? (i := 37) rfl)
theorem dX12_reckonAll_61 : decode cX12_reckonAll 61 = .ok (.istore 6, 2) := dgX12_reckonAll_0 (61, (.istore 6, 2)) (List.mem_of_getElem? (i := 38) rfl)
theorem dX12_reckonAll_63 : decode cX12_reckonAll 63 = .ok (.iinc 4 1, 3) := dgX12_reckonAll_0 (63, (.iinc 4 1, 3)) (List.mem_of_getElem? (i := 39) rfl)
theorem dgX12_reckonAll_1 : ∀ r ∈ ([(66, (.iload 5, 2)), (68, (.bipush 20, 2)), (70, (.if_icmp .ge 33, 3)), (73, (.aload_n 0, 1)), (74, (.getfield 79, 3)), (77, (.iload_n 3, 1)), (78, (.iload 5, 2)), (80, (.ifCond .ne 9, 3)), (83, (.iload 6, 2)), (85, (.i2l, 1)), (86, (.goto 10, 3)), (89, (.aload_n 0, 1)), (90, (.getfield 76, 3)), (93, (.iload 5, 2)), (95, (.laload, 1)), (96, (.lastore, 1)), (97, (.iinc 3 1, 3)), (100, (.goto 142, 3)), (103, (.iload 5, 2)), (105, (.bipush 27, 2)), (107, (.if_icmp .ge 73, 3)), (110, (.iinc 3 (-1), 3)), (113, (.aload_n 0, 1)), (114, (.getfield 79, 3)), (117, (.iload_n 3, 1)), (118, (.iconst 1, 1)), (119, (.isub, 1)), (120, (.aload_n 0, 1)), (121, (.iload 5, 2)), (123, (.aload_n 0, 1)), (124, (.getfield 79, 3)), (127, (.iload_n 3, 1)), (128, (.iconst 1, 1)), (129, (.isub, 1)), (130, (.laload, 1)), (131, (.aload_n 0, 1)), (132, (.getfield 79, 3)), (135, (.iload_n 3, 1)), (136, (.laload, 1)), (137, (.invokevirtual 332, 3))] : List (Nat × (Instr × Nat))), decode cX12_reckonAll r.1 = .ok r.2 := by decide +kernel
theorem dX12_reckonAll_66 : decode cX12_reckonAll 66 = .ok (.iload 5, 2) := dgX12_reckonAll_1 (66, (.iload 5, 2)) (List.mem_of_getElem? (i := 0) rfl)
theorem dX12_reckonAll_68 : decode cX12_reckonAll 68 = .ok (.bipush 20, 2) := dgX12_reckonAll_1 (68, (.bipush 20, 2)) (List.mem_of_getElem? (i := 1) rfl)
theorem dX12_reckonAll_70 : decode cX12_reckonAll 70 = .ok (.if_icmp .ge 33, 3) := dgX12_reckonAll_1 (70, (.if_icmp .ge 33, 3)) (List.mem_of_getElem? (i := 2) rfl)
theorem dX12_reckonAll_73 : decode cX12_reckonAll 73 = .ok (.aload_n 0, 1) := dgX12_reckonAll_1 (73, (.aload_n 0, 1)) (List.mem_of_getElem? (i := 3) rfl)
theorem dX12_reckonAll_74 : decode cX12_reckonAll 74 = .ok (.getfield 79, 3) := dgX12_reckonAll_1 (74, (.getfield 79, 3)) (List.mem_of_getElem? (i := 4) rfl)
theorem dX12_reckonAll_77 : decode cX12_reckonAll 77 = .ok (.iload_n 3, 1) := dgX12_reckonAll_1 (77, (.iload_n 3, 1)) (List.mem_of_getElem? (i := 5) rfl)
theorem dX12_reckonAll_78 : decode cX12_reckonAll 78 = .ok (.iload 5, 2) := dgX12_reckonAll_1 (78, (.iload 5, 2)) (List.mem_of_getElem? (i := 6) rfl)
theorem dX12_reckonAll_80 : decode cX12_reckonAll 80 = .ok (.ifCond .ne 9, 3) := dgX12_reckonAll_1 (80, (.ifCond .ne 9, 3)) (List.mem_of_getElem? (i := 7) rfl)
theorem dX12_reckonAll_83 : decode cX12_reckonAll 83 = .ok (.iload 6, 2) := dgX12_reckonAll_1 (83, (.iload 6, 2)) (List.mem_of_getElem? (i := 8) rfl)
theorem dX12_reckonAll_85 : decode cX12_reckonAll 85 = .ok (.i2l, 1) := dgX12_reckonAll_1 (85, (.i2l, 1)) (List.mem_of_getElem? (i := 9) rfl)
theorem dX12_reckonAll_86 : decode cX12_reckonAll 86 = .ok (.goto 10, 3) := dgX12_reckonAll_1 (86, (.goto 10, 3)) (List.mem_of_getElem? (i := 10) rfl)
theorem dX12_reckonAll_89 : decode cX12_reckonAll 89 = .ok (.aload_n 0, 1) := dgX12_reckonAll_1 (89, (.aload_n 0, 1)) (List.mem_of_getElem? (i := 11) rfl)
theorem dX12_reckonAll_90 : decode cX12_reckonAll 90 = .ok (.getfield 76, 3) := dgX12_reckonAll_1 (90, (.getfield 76, 3)) (List.mem_of_getElem? (i := 12) rfl)
theorem dX12_reckonAll_93 : decode cX12_reckonAll 93 = .ok (.iload 5, 2) := dgX12_reckonAll_1 (93, (.iload 5, 2)) (List.mem_of_getElem? (i := 13) rfl)
theorem dX12_reckonAll_95 : decode cX12_reckonAll 95 = .ok (.laload, 1) := dgX12_reckonAll_1 (95, (.laload, 1)) (List.mem_of_getElem? (i := 14) rfl)
theorem dX12_reckonAll_96 : decode cX12_reckonAll 96 = .ok (.lastore, 1) := dgX12_reckonAll_1 (96, (.lastore, 1)) (List.mem_of_getElem? (i := 15) rfl)
theorem dX12_reckonAll_97 : decode cX12_reckonAll 97 = .ok (.iinc 3 1, 3) := dgX12_reckonAll_1 (97, (.iinc 3 1, 3)) (List.mem_of_getElem? (i := 16) rfl)
theorem dX12_reckonAll_100 : decode cX12_reckonAll 100 = .ok (.goto 142, 3) := dgX12_reckonAll_1 (100, (.goto 142, 3)) (List.mem_of_getElem? (i := 17) rfl)
theorem dX12_reckonAll_103 : decode cX12_reckonAll 103 = .ok (.iload 5, 2) := dgX12_reckonAll_1 (103, (.iload 5, 2)) (List.mem_of_getElem? (i := 18) rfl)
theorem dX12_reckonAll_105 : decode cX12_reckonAll 105 = .ok (.bipush 27, 2) := dgX12_reckonAll_1 (105, (.bipush 27, 2)) (List.mem_of_getElem? (i := 19) rfl)
theorem dX12_reckonAll_107 : decode cX12_reckonAll 107 = .ok (.if_icmp .ge 73, 3) := dgX12_reckonAll_1 (107, (.if_icmp .ge 73, 3)) (List.mem_of_getElem? (i := 20) rfl)
theorem dX12_reckonAll_110 : decode cX12_reckonAll 110 = .ok (.iinc 3 (-1), 3) := dgX12_reckonAll_1 (110, (.iinc 3 (-1), 3)) (List.mem_of_getElem? (i := 21) rfl)
theorem dX12_reckonAll_113 : decode cX12_reckonAll 113 = .ok (.aload_n 0, 1) := dgX12_reckonAll_1 (113, (.aload_n 0, 1)) (List.mem_of_getElem? (i := 22) rfl)
theorem dX12_reckonAll_114 : decode cX12_reckonAll 114 = .ok (.getfield 79, 3) := dgX12_reckonAll_1 (114, (.getfield 79, 3)) (List.mem_of_getElem? (i := 23) rfl)
theorem dX12_reckonAll_117 : decode cX12_reckonAll 117 = .ok (.iload_n 3, 1) := dgX12_reckonAll_1 (117, (.iload_n 3, 1)) (List.mem_of_getElem? (i := 24) rfl)
theorem dX12_reckonAll_118 : decode cX12_reckonAll 118 = .ok (.iconst 1, 1) := dgX12_reckonAll_1 (118, (.iconst 1, 1)) (List.mem_of_getElem? (i := 25) rfl)
theorem dX12_reckonAll_119 : decode cX12_reckonAll 119 = .ok (.isub, 1) := dgX12_reckonAll_1 (119, (.isub, 1)) (List.mem_of_getElem? (i := 26) rfl)
theorem dX12_reckonAll_120 : decode cX12_reckonAll 120 = .ok (.aload_n 0, 1) := dgX12_reckonAll_1 (120, (.aload_n 0, 1)) (List.mem_of_getElem? (i := 27) rfl)
theorem dX12_reckonAll_121 : decode cX12_reckonAll 121 = .ok (.iload 5, 2) := dgX12_reckonAll_1 (121, (.iload 5, 2)) (List.mem_of_getElem? (i := 28) rfl)
theorem dX12_reckonAll_123 : decode cX12_reckonAll 123 = .ok (.aload_n 0, 1) := dgX12_reckonAll_1 (123, (.aload_n 0, 1)) (List.mem_of_getElem? (i := 29) rfl)
theorem dX12_reckonAll_124 : decode cX12_reckonAll 124 = .ok (.getfield 79, 3) := dgX12_reckonAll_1 (124, (.getfield 79, 3)) (List.mem_of_getElem? (i := 30) rfl)
theorem dX12_reckonAll_127 : decode cX12_reckonAll 127 = .ok (.iload_n 3, 1) := dgX12_reckonAll_1 (127, (.iload_n 3, 1)) (List.mem_of_getElem? (i := 31) rfl)
theorem dX12_reckonAll_128 : decode cX12_reckonAll 128 = .ok (.iconst 1, 1) := dgX12_reckonAll_1 (128, (.iconst 1, 1)) (List.mem_of_getElem? (i := 32) rfl)
theorem dX12_reckonAll_129 : decode cX12_reckonAll 129 = .ok (.isub, 1) := dgX12_reckonAll_1 (129, (.isub, 1)) (List.mem_of_getElem? (i := 33) rfl)
theorem dX12_reckonAll_130 : decode cX12_reckonAll 130 = .ok (.laload, 1) := dgX12_reckonAll_1 (130, (.laload, 1)) (List.mem_of_getElem? (i := 34) rfl)
theorem dX12_reckonAll_131 : decode cX12_reckonAll 131 = .ok (.aload_n 0, 1) := dgX12_reckonAll_1 (131, (.aload_n 0, 1)) (List.mem_of_getElem? (i := 35) rfl)
theorem dX12_reckonAll_132 : decode cX12_reckonAll 132 = .ok (.getfield 79, 3) := dgX12_reckonAll_1 (132, (.getfield 79, 3)) (List.mem_of_getElem? (i := 36) rfl)
theorem dX12_reckonAll_135 : decode cX12_reckonAll 135 = .ok (.iload_n 3, 1) := dgX12_reckonAll_1 (135, (.iload_n 3, 1)) (List.mem_of_getElem? (i := 37) rfl)
theorem dX12_reckonAll_136 : decode cX12_reckonAll 136 = .ok (.laload, 1) := dgX12_reckonAll_1 (136, (.laload, 1)) (List.mem_of_getElem? (i := 38) rfl)
theorem dX12_reckonAll_137 : decode cX12_reckonAll 137 = .ok (.invokevirtual 332, 3) := dgX12_reckonAll_1 (137, (.invokevirtual 332, 3)) (List.mem_of_getElem? (i := 39) rfl)
theorem dgX12_reckonAll_2 : ∀ r ∈ ([(140, (.lastore, 1)), (141, (.aload_n 0, 1)), (142, (.aload_n 0, 1)), (143, (.getfield 326, 3)), (146, (.ifCond .ne 23, 3)), (149, (.aload_n 0, 1)), (150, (.getfield 79, 3)), (153, (.iload_n 3, 1)), (154, (.iconst 1, 1)), (155, (.isub, 1)), (156, (.laload, 1)), (157, (.ldc2_w 336, 3)), (160, (.ldc2_w 338, 3)), (163, (.invokestatic 121, 3)), (166, (.ifCond .ne 7, 3)), (169, (.iconst 1, 1)), (170, (.goto 4, 3)), (173, (.iconst 0, 1)), (174, (.putfield 326, 3)), (177, (.goto 65, 3)), (180, (.iload 5, 2)), (182, (.bipush 27, 2)), (184, (.if_icmp .ne 24, 3)), (187, (.aload_n 0, 1)), (188, (.getfield 79, 3)), (191, (.iload_n 3, 1)), (192, (.iconst 1, 1)), (193, (.isub, 1)), (194, (.lconst 1, 1)), (195, (.aload_n 0, 1)), (196, (.getfield 79, 3)), (199, (.iload_n 3, 1)), (200, (.iconst 1, 1)), (201, (.isub, 1)), (202, (.laload, 1)), (203, (.lsub, 1)), (204, (.lastore, 1)), (205, (.goto 37, 3)), (208, (.aload_n 0, 1)), (209, (.getfield 79, 3))] : List (Nat × (Instr × Nat))), decode cX12_reckonAll r.1 = .ok r.2 := by decide +kernel
theorem dX12_reckonAll_140 : decode cX12_reckonAll 140 = .ok (.lastore, 1) := dgX12_reckonAll_2 (140, (.lastore, 1)) (List.mem_of_getElem? (i := 0) rfl)
theorem dX12_reckonAll_141 : decode cX12_reckonAll 141 = .ok (.aload_n 0, 1) := dgX12_reckonAll_2 (141, (.aload_n 0, 1)) (List.mem_of_getElem? (i := 1) rfl)
theorem dX12_reckonAll_142 : decode cX12_reckonAll 142 = .ok (.aload_n 0, 1) := dgX12_reckonAll_2 (142, (.aload_n 0, 1)) (List.mem_of_getElem? (i := 2) rfl)
theorem dX12_reckonAll_143 : decode cX12_reckonAll 143 = .ok (.getfield 326, 3) := dgX12_reckonAll_2 (143, (.getfield 326, 3)) (List.mem_of_getElem? (i := 3) rfl)
theorem dX12_reckonAll_146 : decode cX12_reckonAll 146 = .ok (.ifCond .ne 23, 3) := dgX12_reckonAll_2 (146, (.ifCond .ne 23, 3)) (List.mem_of_getElem? (i := 4) rfl)
theorem dX12_reckonAll_149 : decode cX12_reckonAll 149 = .ok (.aload_n 0, 1) := dgX12_reckonAll_2 (149, (.aload_n 0, 1)) (List.mem_of_getElem? (i := 5) rfl)
theorem dX12_reckonAll_150 : decode cX12_reckonAll 150 = .ok (.getfield 79, 3) := dgX12_reckonAll_2 (150, (.getfield 79, 3)) (List.mem_of_getElem? (i := 6) rfl)
theorem dX12_reckonAll_153 : decode cX12_reckonAll 153 = .ok (.iload_n 3, 1) := dgX12_reckonAll_2 (153, (.iload_n 3, 1)) (List.mem_of_getElem? (i := 7) rfl)
theorem dX12_reckonAll_154 : decode cX12_reckonAll 154 = .ok (.iconst 1, 1) := dgX12_reckonAll_2 (154, (.iconst 1, 1)) (List.mem_of_getElem? (i := 8) rfl)
theorem dX12_reckonAll_155 : decode cX12_reckonAll 155 = .ok (.isub, 1) := dgX12_reckonAll_2 (155, (.isub, 1)) (List.mem_of_getElem? (i := 9) rfl)
theorem dX12_reckonAll_156 : decode cX12_reckonAll 156 = .ok (.laload, 1) := dgX12_reckonAll_2 (156, (.laload, 1)) (List.mem_of_getElem? (i := 10) rfl)
theorem dX12_reckonAll_157 : decode cX12_reckonAll 157 = .ok (.ldc2_w 336, 3) := dgX12_reckonAll_2 (157, (.ldc2_w 336, 3)) (List.mem_of_getElem? (i := 11) rfl)
theorem dX12_reckonAll_160 : decode cX12_reckonAll 160 = .ok (.ldc2_w 338, 3) := dgX12_reckonAll_2 (160, (.ldc2_w 338, 3)) (List.mem_of_getElem? (i := 12) rfl)
theorem dX12_reckonAll_163 : decode cX12_reckonAll 163 = .ok (.invokestatic 121, 3) := dgX12_reckonAll_2 (163, (.invokestatic 121, 3)) (List.mem_of_getElem? (i := 13) rfl)
theorem dX12_reckonAll_166 : decode cX12_reckonAll 166 = .ok (.ifCond .ne 7, 3) := dgX12_reckonAll_2 (166, (.ifCond .ne 7, 3)) (List.mem_of_getElem? (i := 14) rfl)
theorem dX12_reckonAll_169 : decode cX12_reckonAll 169 = .ok (.iconst 1, 1) := dgX12_reckonAll_2 (169, (.iconst 1, 1)) (List.mem_of_getElem? (i := 15) rfl)
theorem dX12_reckonAll_170 : decode cX12_reckonAll 170 = .ok (.goto 4, 3) := dgX12_reckonAll_2 (170, (.goto 4, 3)) (List.mem_of_getElem? (i := 16) rfl)
theorem dX12_reckonAll_173 : decode cX12_reckonAll 173 = .ok (.iconst 0, 1) := dgX12_reckonAll_2 (173, (.iconst 0, 1)) (List.mem_of_getElem? (i := 17) rfl)
theorem dX12_reckonAll_174 : decode cX12_reckonAll 174 = .ok (.putfield 326, 3) := dgX12_reckonAll_2 (174, (.putfield 326, 3)) (List.mem_of_getElem? (i := 18) rfl)
theorem dX12_reckonAll_177 : decode cX12_reckonAll 177 = .ok (.goto 65, 3) := dgX12_reckonAll_2 (177, (.goto 65, 3)) (List.mem_of_getElem? (i := 19) rfl)
theorem dX12_reckonAll_180 : decode cX12_reckonAll 180 = .ok (.iload 5, 2) := dgX12_reckonAll_2 (180, (.iload 5, 2)) (List.mem_of_getElem? (i := 20) rfl)
theorem dX12_reckonAll_182 : decode cX12_reckonAll 182 = .ok (.bipush 27, 2) := dgX12_reckonAll_2 (182, (.bipush 27, 2)) (List.mem_of_getElem? (i := 21) rfl)
theorem dX12_reckonAll_184 : decode cX12_reckonAll 184 = .ok (.if_icmp .ne 24, 3) := dgX12_reckonAll_2 (184, (.if_icmp .ne 24, 3)) (List.mem_of_getElem? (i := 22) rfl)
theorem dX12_reckonAll_187 : decode cX12_reckonAll 187 = .ok (.aload_n 0, 1) := dgX12_reckonAll_2 (187, (.aload_n 0, 1)) (List.mem_of_getElem? (i := 23) rfl)
theorem dX12_reckonAll_188 : decode cX12_reckonAll 188 = .ok (.getfield 79, 3) := dgX12_reckonAll_2 (188, (.getfield 79, 3)) (List.mem_of_getElem? (i := 24) rfl)
theorem dX12_reckonAll_191 : decode cX12_reckonAll 191 = .ok (.iload_n 3, 1) := dgX12_reckonAll_2 (191, (.iload_n 3, 1)) (List.mem_of_getElem? (i := 25) rfl)
theorem dX12_reckonAll_192 : decode cX12_reckonAll 192 = .ok (.iconst 1, 1) := dgX12_reckonAll_2 (192, (.iconst 1, 1)) (List.mem_of_getElem? (i := 26) rfl)
theorem dX12_reckonAll_193 : decode cX12_reckonAll 193 = .ok (.isub, 1) := dgX12_reckonAll_2 (193, (.isub, 1)) (List.mem_of_getElem? (i := 27) rfl)
theorem dX12_reckonAll_194 : decode cX12_reckonAll 194 = .ok (.lconst 1, 1) := dgX12_reckonAll_2 (194, (.lconst 1, 1)) (List.mem_of_getElem? (i := 28) rfl)
theorem dX12_reckonAll_195 : decode cX12_reckonAll 195 = .ok (.aload_n 0, 1) := dgX12_reckonAll_2 (195, (.aload_n 0, 1)) (List.mem_of_getElem? (i := 29) rfl)
theorem dX12_reckonAll_196 : decode cX12_reckonAll 196 = .ok (.getfield 79, 3) := dgX12_reckonAll_2 (196, (.getfield 79, 3)) (List.mem_of_getElem? (i := 30) rfl)
theorem dX12_reckonAll_199 : decode cX12_reckonAll 199 = .ok (.iload_n 3, 1) := dgX12_reckonAll_2 (199, (.iload_n 3, 1)) (List.mem_of_getElem? (i := 31) rfl)
theorem dX12_reckonAll_200 : decode cX12_reckonAll 200 = .ok (.iconst 1, 1) := dgX12_reckonAll_2 (200, (.iconst 1, 1)) (List.mem_of_getElem? (i := 32) rfl)
theorem dX12_reckonAll_201 : decode cX12_reckonAll 201 = .ok (.isub, 1) := dgX12_reckonAll_2 (201, (.isub, 1)) (List.mem_of_getElem? (i := 33) rfl)
theorem dX12_reckonAll_202 : decode cX12_reckonAll 202 = .ok (.laload, 1) := dgX12_reckonAll_2 (202, (.laload, 1)) (List.mem_of_getElem? (i := 34) rfl)
theorem dX12_reckonAll_203 : decode cX12_reckonAll 203 = .ok (.lsub, 1) := dgX12_reckonAll_2 (203, (.lsub, 1)) (List.mem_of_getElem? (i := 35) rfl)
theorem dX12_reckonAll_204 : decode cX12_reckonAll 204 = .ok (.lastore, 1) := dgX12_reckonAll_2 (204, (.lastore, 1)) (List.mem_of_getElem? (i := 36) rfl)
theorem dX12_reckonAll_205 : decode cX12_reckonAll 205 = .ok (.goto 37, 3) := dgX12_reckonAll_2 (205, (.goto 37, 3)) (List.mem_of_getElem? (i := 37) rfl)
theorem dX12_reckonAll_208 : decode cX12_reckonAll 208 = .ok (.aload_n 0, 1) := dgX12_reckonAll_2 (208, (.aload_n 0, 1)) (List.mem_of_getElem? (i := 38) rfl)
theorem dX12_reckonAll_209 : decode cX12_reckonAll 209 = .ok (.getfield 79, 3) := dgX12_reckonAll_2 (209, (.getfield 79, 3)) (List.mem_of_getElem? (i := 39) rfl)
theorem dgX12_reckonAll_3 : ∀ r ∈ ([(212, (.iload_n 3, 1)), (213, (.iconst 1, 1)), (214, (.isub, 1)), (215, (.laload, 1)), (216, (.iload 5, 2)), (218, (.bipush 28, 2)), (220, (.if_icmp .ne 7, 3)), (223, (.lconst 0, 1)), (224, (.goto 4, 3)), (227, (.lconst 1, 1)), (228, (.lcmp, 1)), (229, (.ifCond .ne 10, 3)), (232, (.iload 6, 2)), (234, (.istore 4, 2)), (236, (.goto 6, 3)), (239, (.iinc 3 (-1), 3)), (242, (.goto (-232), 3)), (245, (.aload_n 0, 1)), (246, (.iload_n 3, 1)), (247, (.ifCond .le 12, 3)), (250, (.aload_n 0, 1)), (251, (.getfield 79, 3)), (254, (.iconst 0, 1)), (255, (.laload, 1)), (256, (.goto 4, 3)), (259, (.lconst 0, 1)), (260, (.putfield 340, 3)), (263, (.return_, 1))] : List (Nat × (Instr × Nat))), decode cX12_reckonAll r.1 = .ok r.2 := by decide +kernel
theorem dX12_reckonAll_212 : decode cX12_reckonAll 212 = .ok (.iload_n 3, 1) := dgX12_reckonAll_3 (212, (.iload_n 3, 1)) (List.mem_of_getElem? (i := 0) rfl)
theorem dX12_reckonAll_213 : decode cX12_reckonAll 213 = .ok (.iconst 1, 1) := dgX12_reckonAll_3 (213, (.iconst 1, 1)) (List.mem_of_getElem? (i := 1) rfl)
theorem dX12_reckonAll_214 : decode cX12_reckonAll 214 = .ok (.isub, 1) := dgX12_reckonAll_3 (214, (.isub, 1)) (List.mem_of_getElem? (i := 2) rfl)
theorem dX12_reckonAll_215 : decode cX12_reckonAll 215 = .ok (.laload, 1) := dgX12_reckonAll_3 (215, (.laload, 1)) (List.mem_of_getElem? (i := 3) rfl)
theorem dX12_reckonAll_216 : decode cX12_reckonAll 216 = .ok (.iload 5, 2) := dgX12_reckonAll_3 (216, (.iload 5, 2)) (List.mem_of_getElem? (i := 4) rfl)
theorem dX12_reckonAll_218 : decode cX12_reckonAll 218 = .ok (.bipush 28, 2) := dgX12_reckonAll_3 (218, (.bipush 28, 2)) (List.mem_of_getElem? (i := 5) rfl)
theorem dX12_reckonAll_220 : decode cX12_reckonAll 220 = .ok (.if_icmp .ne 7, 3) := dgX12_reckonAll_3 (220, (.if_icmp .ne 7, 3)) (List.mem_of_getElem? (i := 6) rfl)
theorem dX12_reckonAll_223 : decode cX12_reckonAll 223 = .ok (.lconst 0, 1) := dgX12_reckonAll_3 (223, (.lconst 0, 1)) (List.mem_of_getElem? (i := 7) rfl)
theorem dX12_reckonAll_224 : decode cX12_reckonAll 224 = .ok (.goto 4, 3) := dgX12_reckonAll_3 (224, (.goto 4, 3)) (List.mem_of_getElem? (i := 8) rfl)
theorem dX12_reckonAll_227 : decode cX12_reckonAll 227 = .ok (.lconst 1, 1) := dgX12_reckonAll_3 (227, (.lconst 1, 1)) (List.mem_of_getElem? (i := 9) rfl)
theorem dX12_reckonAll_228 : decode cX12_reckonAll 228 = .ok (.lcmp, 1) := dgX12_reckonAll_3 (228, (.lcmp, 1)) (List.mem_of_getElem? (i := 10) rfl)
theorem dX12_reckonAll_229 : decode cX12_reckonAll 229 = .ok (.ifCond .ne 10, 3) := dgX12_reckonAll_3 (229, (.ifCond .ne 10, 3)) (List.mem_of_getElem? (i := 11) rfl)
theorem dX12_reckonAll_232 : decode cX12_reckonAll 232 = .ok (.iload 6, 2) := dgX12_reckonAll_3 (232, (.iload 6, 2)) (List.mem_of_getElem? (i := 12) rfl)
theorem dX12_reckonAll_234 : decode cX12_reckonAll 234 = .ok (.istore 4, 2) := dgX12_reckonAll_3 (234, (.istore 4, 2)) (List.mem_of_getElem? (i := 13) rfl)
theorem dX12_reckonAll_236 : decode cX12_reckonAll 236 = .ok (.goto 6, 3) := dgX12_reckonAll_3 (236, (.goto 6, 3)) (List.mem_of_getElem? (i := 14) rfl)
theorem dX12_reckonAll_239 : decode cX12_reckonAll 239 = .ok (.iinc 3 (-1), 3) := dgX12_reckonAll_3 (239, (.iinc 3 (-1), 3)) (List.mem_of_getElem? (i := 15) rfl)
theorem dX12_reckonAll_242 : decode cX12_reckonAll 242 = .ok (.goto (-232), 3) := dgX12_reckonAll_3 (242, (.goto (-232), 3)) (List.mem_of_getElem? (i := 16) rfl)
theorem dX12_reckonAll_245 : decode cX12_reckonAll 245 = .ok (.aload_n 0, 1) := dgX12_reckonAll_3 (245, (.aload_n 0, 1)) (List.mem_of_getElem? (i := 17) rfl)
theorem dX12_reckonAll_246 : decode cX12_reckonAll 246 = .ok (.iload_n 3, 1) := dgX12_reckonAll_3 (246, (.iload_n 3, 1)) (List.mem_of_getElem? (i := 18) rfl)
theorem dX12_reckonAll_247 : decode cX12_reckonAll 247 = .ok (.ifCond .le 12, 3) := dgX12_reckonAll_3 (247, (.ifCond .le 12, 3)) (List.mem_of_getElem? (i := 19) rfl)
theorem dX12_reckonAll_250 : decode cX12_reckonAll 250 = .ok (.aload_n 0, 1) := dgX12_reckonAll_3 (250, (.aload_n 0, 1)) (List.mem_of_getElem? (i := 20) rfl)
theorem dX12_reckonAll_251 : decode cX12_reckonAll 251 = .ok (.getfield 79, 3) := dgX12_reckonAll_3 (251, (.getfield 79, 3)) (List.mem_of_getElem? (i := 21) rfl)
theorem dX12_reckonAll_254 : decode cX12_reckonAll 254 = .ok (.iconst 0, 1) := dgX12_reckonAll_3 (254, (.iconst 0, 1)) (List.mem_of_getElem? (i := 22) rfl)
theorem dX12_reckonAll_255 : decode cX12_reckonAll 255 = .ok (.laload, 1) := dgX12_reckonAll_3 (255, (.laload, 1)) (List.mem_of_getElem? (i := 23) rfl)
theorem dX12_reckonAll_256 : decode cX12_reckonAll 256 = .ok (.goto 4, 3) := dgX12_reckonAll_3 (256, (.goto 4, 3)) (List.mem_of_getElem? (i := 24) rfl)
theorem dX12_reckonAll_259 : decode cX12_reckonAll 259 = .ok (.lconst 0, 1) := dgX12_reckonAll_3 (259, (.lconst 0, 1)) (List.mem_of_getElem? (i := 25) rfl)
theorem dX12_reckonAll_260 : decode cX12_reckonAll 260 = .ok (.putfield 340, 3) := dgX12_reckonAll_3 (260, (.putfield 340, 3)) (List.mem_of_getElem? (i := 26) rfl)
theorem dX12_reckonAll_263 : decode cX12_reckonAll 263 = .ok (.return_, 1) := dgX12_reckonAll_3 (263, (.return_, 1)) (List.mem_of_getElem? (i := 27) rfl)
theorem fl_X12_340 : Cond.fieldLink RX12 340 "LateGlassModel" "value" "J" ∈ tblG := tg 1234 (by decide +kernel) (by decide +kernel)
theorem fl_X12_79 : Cond.fieldLink RX12 79 "LateGlassModel" "rest" "[J" ∈ tblG := tg 1232 (by decide +kernel) (by decide +kernel)
theorem fl_X12_329 : Cond.fieldLink RX12 329 "LateGlassModel" "law" "I" ∈ tblG := tg 1230 (by decide +kernel) (by decide +kernel)
theorem ml_X12_332 : Cond.methodLink RX12 332 yX12_reckon ∈ tblG := tg 1634 (by decide +kernel) (by decide +kernel)
theorem im_X12_reckon : Cond.instanceMethod yX12_reckon ∈ tblG := tg 1636 (by decide +kernel) (by decide +kernel)
theorem se_X12_reckon : Cond.selects RX12 yX12_reckon yX12_reckon ∈ tblG := tg 67 (by decide +kernel) (by decide +kernel)
theorem cd_X12_reckon : Cond.code yX12_reckon cX12_reckon 6 (some .long) ∈ tblG := tg 1637 (by decide +kernel) (by decide +kernel)
theorem gW_X12_reckon : GoodIn tblG (wsG yX12_reckon cX12_reckon 6 (some .long)) := tgi cd_X12_reckon
theorem gV_X12_332 : GoodIn tblG (wsV RX12 332 RX12 yX12_reckon (wsG yX12_reckon cX12_reckon 6 (some .long))) := tgV ml_X12_332 im_X12_reckon se_X12_reckon ini_X12 gW_X12_reckon
theorem hv_X12_reckon : yX12_reckon.cls = RX12 ∧ yX12_reckon.cls ≠ "java/lang/invoke/MethodHandle" ∧ yX12_reckon.cls ≠ "java/lang/invoke/VarHandle" ∧ (parseMethodDescriptor yX12_reckon.desc).map (fun d => d.parameters.length) = some 3 := by decide +kernel
theorem kl_X12_336 : Cond.constantLong RX12 336 (-1000000000) ∈ tblG := tg 1638 (by decide +kernel) (by decide +kernel)
theorem kl_X12_338 : Cond.constantLong RX12 338 1000000000 ∈ tblG := tg 1639 (by decide +kernel) (by decide +kernel)
theorem fl_X12_76 : Cond.fieldLink RX12 76 "LateGlassModel" "set" "[J" ∈ tblG := tg 1231 (by decide +kernel) (by decide +kernel)
set_option maxHeartbeats 4000000 in
set_option maxRecDepth 100000 in
theorem n_reckonAll (l : Launch) (G : g5_G) (b_o b_ro b_se b_re b_rf b_im b_ke b_tp b_nl b_op b_ar b_pi b_pa b_ws b_hw b_pt b_ip b_ah b_be b_me b_tr b_ld b_wn : Nat) (sz : Nat) (u_th : Int32) (u_sa : Int32) (u_fd : Int32) (u_td : Int32) (u_fr : Int32) (u_to : Int32) (u_so : Int32) (u_fa : Int32) (u_bd : Int32) (u_nc : Int32) (u_co : Int32) (u_le : Int32) (u_pd : Int32) (u_od : Int32) (u_la : Int32) (u_bk : Int32) (u_ce : Int32) (u_ho : Int32) (u_wy : Int32) (u_bt : Int32) (u_ps : Int32) (u_tg : Int32) (u_sn : Int32) (u_ic : Int32) (u_wd : Int32) (u_id : Int32) (p_1 : Int32) (p_2 : Int32) (u_wo : Int64) (u_va : Int64) (u_su : Int64) (u_st : Int64) (v_ro : Nat → Int32) (v_se : Nat → Int64) (v_re : Nat → Int64) (h_u_td : 0 ≤ u_td.toInt ∧ u_td.toInt ≤ 400) (h_u_fr : 0 ≤ u_fr.toInt ∧ u_fr.toInt ≤ 400) (h_u_to : 0 ≤ u_to.toInt ∧ u_to.toInt ≤ 400) (h_u_bd : 0 ≤ u_bd.toInt ∧ u_bd.toInt ≤ 1) (h_u_nc : 0 ≤ u_nc.toInt ∧ u_nc.toInt ≤ 12) (h_u_co : 0 ≤ u_co.toInt ∧ u_co.toInt ≤ 400) (h_u_pd : 0 ≤ u_pd.toInt ∧ u_pd.toInt ≤ 400) (h_u_la : 0 ≤ u_la.toInt ∧ u_la.toInt ≤ 4840) (h_u_bk : 0 ≤ u_bk.toInt ∧ u_bk.toInt ≤ 1) (h_u_ce : 0 ≤ u_ce.toInt ∧ u_ce.toInt ≤ 63) (h_u_ho : 0 ≤ u_ho.toInt ∧ u_ho.toInt ≤ 23) (h_u_wy : 0 ≤ u_wy.toInt ∧ u_wy.toInt ≤ 3) (h_u_bt : 0 ≤ u_bt.toInt ∧ u_bt.toInt ≤ 1000000) (h_u_ps : 0 ≤ u_ps.toInt ∧ u_ps.toInt ≤ 200) (h_u_ic : 0 ≤ u_ic.toInt ∧ u_ic.toInt ≤ 1) (h_u_id : 0 ≤ u_id.toInt ∧ u_id.toInt ≤ 1) (h_p_1 : 0 ≤ p_1.toInt ∧ p_1.toInt ≤ 400) (h_p_2 : 0 ≤ p_2.toInt ∧ p_2.toInt ≤ 400) (r_ro : MI v_ro) (e_cd : cdOK v_ro (u_la.toNatClampNeg + 98) p_1.toInt p_2.toInt) : Met l yX12_reckonAll (wsG yX12_reckonAll cX12_reckonAll 7 none) ({ frames := 1, cells := 0, slots := 0, locals := 25 }) (va_Pc [.ref b_o, .int p_1, .int p_2] (g5_P G [(b_o, (oc12 u_th u_sa b_rf b_ro b_im b_ke u_fd b_tp u_td u_fr u_to u_so u_wo u_fa u_bd u_nc b_nl u_co b_op b_ar u_le b_pi b_pa u_pd u_od b_ws b_hw u_la b_se b_re u_bk u_va u_su u_ce u_ho u_wy u_bt u_ps b_pt u_tg u_sn b_ip u_ic b_ah b_be b_me u_wd b_tr b_ld u_st b_wn u_id)), (b_ro, (arI G 5740 v_ro)), (b_se, (arJ G 13 v_se)), (b_re, (arJ G 400 v_re))] sz)) (va_Qv (fun (u : va_W) => (∃ (o_bk : Int32) (o_va : Int64) (o_re : Nat → Int64), (0 ≤ o_bk.toInt ∧ o_bk.toInt ≤ 1) ∧ (u = [(b_o, (oc12 u_th u_sa b_rf b_ro b_im b_ke u_fd b_tp u_td u_fr u_to u_so u_wo u_fa u_bd u_nc b_nl u_co b_op b_ar u_le b_pi b_pa u_pd u_od b_ws b_hw u_la b_se b_re o_bk o_va u_su u_ce u_ho u_wy u_bt u_ps b_pt u_tg u_sn b_ip u_ic b_ah b_be b_me u_wd b_tr b_ld u_st b_wn u_id)), (b_ro, (arI G 5740 v_ro)), (b_se, (arJ G 13 v_se)), (b_re, (arJ G 400 o_re))]))) (g5_B G (va_A [(b_o, (oc12 u_th u_sa b_rf b_ro b_im b_ke u_fd b_tp u_td u_fr u_to u_so u_wo u_fa u_bd u_nc b_nl u_co b_op b_ar u_le b_pi b_pa u_pd u_od b_ws b_hw u_la b_se b_re u_bk u_va u_su u_ce u_ho u_wy u_bt u_ps b_pt u_tg u_sn b_ip u_ic b_ah b_be b_me u_wd b_tr b_ld u_st b_wn u_id)), (b_ro, (arI G 5740 v_ro)), (b_se, (arJ G 13 v_se)), (b_re, (arJ G 400 v_re))] sz)) (va_A [(b_o, (oc12 u_th u_sa b_rf b_ro b_im b_ke u_fd b_tp u_td u_fr u_to u_so u_wo u_fa u_bd u_nc b_nl u_co b_op b_ar u_le b_pi b_pa u_pd u_od b_ws b_hw u_la b_se b_re u_bk u_va u_su u_ce u_ho u_wy u_bt u_ps b_pt u_tg u_sn b_ip u_ic b_ah b_be b_me u_wd b_tr b_ld u_st b_wn u_id)), (b_ro, (arI G 5740 v_ro)), (b_se, (arJ G 13 v_se)), (b_re, (arJ G 400 v_re))] sz)) 0 0 (va_A [(b_o, (oc12 u_th u_sa b_rf b_ro b_im b_ke u_fd b_tp u_td u_fr u_to u_so u_wo u_fa u_bd u_nc b_nl u_co b_op b_ar u_le b_pi b_pa u_pd u_od b_ws b_hw u_la b_se b_re u_bk u_va u_su u_ce u_ho u_wy u_bt u_ps b_pt u_tg u_sn b_ip u_ic b_ah b_be b_me u_wd b_tr b_ld u_st b_wn u_id)), (b_ro, (arI G 5740 v_ro)), (b_se, (arJ G 13 v_se)), (b_re, (arJ G 400 v_re))] sz) := by
  refine Met.ofW (cc := cX12_reckonAll) (maxL := 7) (ret := none) (by decide +kernel) rfl ?_
  intro p e s m args below meth c s₁ B hml hv
  obtain ⟨rfl, hsz, hP, hK, hD0, hN, hT⟩ := hv
  have hx := B.exec
  have hb := B.bytes
  have hr := B.returns
  have hts : ∀ w ∈ tblG, w.before _ s = true := fun w h => atoms_spec (ws := (wsG yX12_reckonAll cX12_reckonAll 7 none)) B.pre w (List.mem_cons_of_mem _ h)
  have hown : s.vm.findClass RX12 = some m.cls := findClass_of_methodNamed B.named
  have hlocks := B.notSynchronized
  subst hsz
  have hD := hD0.self (sz := s.heap.size)
  generalize hAe : va_A [(b_o, (oc12 u_th u_sa b_rf b_ro b_im b_ke u_fd b_tp u_td u_fr u_to u_so u_wo u_fa u_bd u_nc b_nl u_co b_op b_ar u_le b_pi b_pa u_pd u_od b_ws b_hw u_la b_se b_re u_bk u_va u_su u_ce u_ho u_wy u_bt u_ps b_pt u_tg u_sn b_ip u_ic b_ah b_be b_me u_wd b_tr b_ld u_st b_wn u_id)), (b_ro, (arI G 5740 v_ro)), (b_se, (arJ G 13 v_se)), (b_re, (arJ G 400 v_re))] s.heap.size = A at hD hT ⊢
  have hA : ∀ q : Nat, s.heap.size ≤ q → A q := fun q h => by rw [← hAe]; exact Or.inr h
  have hS : va_S A s.heap s.heap [] := va_S.rf
  replace hP : va_P G.1 vwCl [(b_o, (oc12 u_th u_sa b_rf b_ro b_im b_ke u_fd b_tp u_td u_fr u_to u_so u_wo u_fa u_bd u_nc b_nl u_co b_op b_ar u_le b_pi b_pa u_pd u_od b_ws b_hw u_la b_se b_re u_bk u_va u_su u_ce u_ho u_wy u_bt u_ps b_pt u_tg u_sn b_ip u_ic b_ah b_be b_me u_wd b_tr b_ld u_st b_wn u_id)), (b_ro, (arI G 5740 v_ro)), (b_se, (arJ G 13 v_se)), (b_re, (arJ G 400 v_re))] s.heap := hP
  have hl := lv_entry ([.ref b_o, .int p_1, .int p_2]) (n := 7) (Nat.le_of_ble_eq_true rfl)
  rw [lg_entry_eq]
  generalize (lg_sl ([.ref b_o, .int p_1, .int p_2]) ++ List.replicate (7 - (lg_sl ([.ref b_o, .int p_1, .int p_2])).length) Slot.unset).toArray = ls at hl ⊢
  replace hl : lv_has ls 7 [(0, .ref b_o), (1, .int p_1), (2, .int p_2)] := hl
  obtain ⟨hh, hh0, hh1⟩ := id e_cd
  refine lv_aload_n hx hb dX12_reckonAll_0 rfl (lv_at hl 0 rfl) ?_
  refine lv_iconst (v := 0) hx hb dX12_reckonAll_1 (by decide +kernel) ?_
  refine va_put (D := G.1) (ci := 12) (v := .int 0) (ty := .boolean) (C := RX12) (T := TX12) (N := 52) hx hb hts inG_X12 tyX12 tyX12_ok nmX12 hown hK hP hD hS 0 rfl rfl 30 (by decide +kernel) (hts _ fl_X12_326) (fun _ h9 => h9) rfl (by decide +kernel) rfl rfl (Nat.le_of_ble_eq_true rfl) dX12_reckonAll_2 ?_
  clear hP hD hS
  intro H locs hP hD hS
  refine g5_rs [(b_o, (oc12 u_th u_sa b_rf b_ro b_im b_ke u_fd b_tp u_td u_fr u_to u_so u_wo u_fa u_bd u_nc b_nl u_co b_op b_ar u_le b_pi b_pa u_pd u_od b_ws b_hw u_la b_se b_re 0 u_va u_su u_ce u_ho u_wy u_bt u_ps b_pt u_tg u_sn b_ip u_ic b_ah b_be b_me u_wd b_tr b_ld u_st b_wn u_id)), (b_ro, (arI G 5740 v_ro)), (b_se, (arJ G 13 v_se)), (b_re, (arJ G 400 v_re))] hP hD ?_
  clear hP hD
  intro hP hD
  refine lv_iconst (v := 0) hx hb dX12_reckonAll_5 (by decide +kernel) ?_
  refine W.eq (g2 := F0 m 6 ls [.int 0]) rfl ?_
  refine lv_istore_n (lv' := [(3, .int 0), (0, .ref b_o), (1, .int p_1), (2, .int p_2)]) hx hb dX12_reckonAll_6 rfl hl (by decide +kernel) rfl ?_
  clear hl
  intro ls hl
  refine lv_iload_n hx hb dX12_reckonAll_7 rfl (lv_at hl 2 rfl) ?_
  refine lv_istore (lv' := [(4, .int p_1), (3, .int 0), (0, .ref b_o), (1, .int p_1), (2, .int p_2)]) hx hb dX12_reckonAll_8 hl (by decide +kernel) rfl ?_
  clear hl
  intro ls hl
  refine g5_loop (α := (Int32) × (Int32) × (Int32) × (Nat → Int64)) (fun (q : (Int32) × (Int32) × (Int32) × (Nat → Int64)) (ls : Array Slot) (H : Heap) (locs : List Loc) => match q with | (k10_4, k10_3, k10_bk, k10_re) => lv_has ls 7 [(3, .int k10_3), (4, .int k10_4), (0, .ref b_o), (1, .int p_1), (2, .int p_2)] ∧ va_P G.1 vwCl [(b_o, (oc12 u_th u_sa b_rf b_ro b_im b_ke u_fd b_tp u_td u_fr u_to u_so u_wo u_fa u_bd u_nc b_nl u_co b_op b_ar u_le b_pi b_pa u_pd u_od b_ws b_hw u_la b_se b_re k10_bk u_va u_su u_ce u_ho u_wy u_bt u_ps b_pt u_tg u_sn b_ip u_ic b_ah b_be b_me u_wd b_tr b_ld u_st b_wn u_id)), (b_ro, (arI G 5740 v_ro)), (b_se, (arJ G 13 v_se)), (b_re, (arJ G 400 k10_re))] H ∧ va_D A [(b_o, (oc12 u_th u_sa b_rf b_ro b_im b_ke u_fd b_tp u_td u_fr u_to u_so u_wo u_fa u_bd u_nc b_nl u_co b_op b_ar u_le b_pi b_pa u_pd u_od b_ws b_hw u_la b_se b_re k10_bk u_va u_su u_ce u_ho u_wy u_bt u_ps b_pt u_tg u_sn b_ip u_ic b_ah b_be b_me u_wd b_tr b_ld u_st b_wn u_id)), (b_ro, (arI G 5740 v_ro)), (b_se, (arJ G 13 v_se)), (b_re, (arJ G 400 k10_re))] ∧ va_S A s.heap H locs ∧ (0 ≤ k10_4.toInt ∧ k10_4.toInt ≤ 400) ∧ (0 ≤ k10_3.toInt ∧ k10_3.toInt ≤ 400) ∧ (0 ≤ k10_bk.toInt ∧ k10_bk.toInt ≤ 1) ∧ (p_1.toInt ≤ k10_4.toInt) ∧ (k10_4.toInt < p_2.toInt → k10_3.toInt = ((hh k10_4.toInt.toNat : Nat) : Int))) (fun (q : (Int32) × (Int32) × (Int32) × (Nat → Int64)) => match q with | (k10_4, k10_3, k10_bk, k10_re) => Int.toNat (401 - k10_4.toInt)) (p_1, 0, 0, v_re) ⟨lv_sub hl [1, 0, 2, 3, 4] rfl, hP, hD, hS, h_p_1, ⟨by decide, by decide⟩, ⟨by decide, by decide⟩, Int.le_refl _, fun _ => by rw [hh0]; decide⟩ ?_
  rintro ⟨k10_4, k10_3, k10_bk, k10_re⟩ ls H locs ⟨hl, hP, hD, hS, (i_1 : 0 ≤ k10_4.toInt ∧ k10_4.toInt ≤ 400), (i_2 : 0 ≤ k10_3.toInt ∧ k10_3.toInt ≤ 400), (i_3 : 0 ≤ k10_bk.toInt ∧ k10_bk.toInt ≤ 1), (i_4 : p_1.toInt ≤ k10_4.toInt), (i_5 : k10_4.toInt < p_2.toInt → k10_3.toInt = ((hh k10_4.toInt.toNat : Nat) : Int))⟩ ih_10_6
  replace hl : lv_has ls 7 [(3, .int k10_3), (4, .int k10_4), (0, .ref b_o), (1, .int p_1), (2, .int p_2)] := hl
  refine g5_rs [(b_o, (oc12 u_th u_sa b_rf b_ro b_im b_ke u_fd b_tp u_td u_fr u_to u_so u_wo u_fa u_bd u_nc b_nl u_co b_op b_ar u_le b_pi b_pa u_pd u_od b_ws b_hw u_la b_se b_re k10_bk u_va u_su u_ce u_ho u_wy u_bt u_ps b_pt u_tg u_sn b_ip u_ic b_ah b_be b_me u_wd b_tr b_ld u_st b_wn u_id)), (b_ro, (arI G 5740 v_ro)), (b_se, (arJ G 13 v_se)), (b_re, (arJ G 400 k10_re))] hP hD ?_
  clear hP hD
  intro hP hD
  refine lv_iload hx hb dX12_reckonAll_10 (lv_at hl 1 rfl) ?_
  refine lv_iload_n hx hb dX12_reckonAll_12 rfl (lv_at hl 4 rfl) ?_
  refine lv_icmp_ge (tgt := 245) hx hb dX12_reckonAll_13 (by decide +kernel) (fun c_7 => ?_) (fun c_7 => ?_)
  ·
    have i_7 : k10_4.toInt ≥ p_2.toInt := g5_ge (a := k10_4.toInt) (b := p_2.toInt) rfl rfl c_7
    refine lv_aload_n hx hb dX12_reckonAll_245 rfl (lv_at hl 2 rfl) ?_
    refine lv_iload_n hx hb dX12_reckonAll_246 rfl (lv_at hl 0 rfl) ?_
    refine lv_if_le (tgt := 259) hx hb dX12_reckonAll_247 (by decide +kernel) (fun c_8 => ?_) (fun c_8 => ?_)
    ·
      have i_8 : k10_3.toInt ≤ 0 := g5_le (a := k10_3.toInt) (b := 0) rfl (by decide +kernel) c_8
      refine lv_lconst (v := 0) hx hb dX12_reckonAll_259 (by decide +kernel) ?_
      refine va_put (D := G.1) (ci := 12) (v := .long 0) (ty := .long) (C := RX12) (T := TX12) (N := 52) hx hb hts inG_X12 tyX12 tyX12_ok nmX12 hown hK hP hD hS 0 rfl rfl 31 (by decide +kernel) (hts _ fl_X12_340) (fun _ h9 => h9) rfl (by decide +kernel) rfl rfl (Nat.le_of_ble_eq_true rfl) dX12_reckonAll_260 ?_
      clear hP hD hS
      intro H locs hP hD hS
      refine g5_rs [(b_o, (oc12 u_th u_sa b_rf b_ro b_im b_ke u_fd b_tp u_td u_fr u_to u_so u_wo u_fa u_bd u_nc b_nl u_co b_op b_ar u_le b_pi b_pa u_pd u_od b_ws b_hw u_la b_se b_re k10_bk 0 u_su u_ce u_ho u_wy u_bt u_ps b_pt u_tg u_sn b_ip u_ic b_ah b_be b_me u_wd b_tr b_ld u_st b_wn u_id)), (b_ro, (arI G 5740 v_ro)), (b_se, (arJ G 13 v_se)), (b_re, (arJ G 400 k10_re))] hP hD ?_
      clear hP hD
      intro hP hD
      exact W.vret hx hb hr (fun t ht hW => ⟨⟨[(b_o, (oc12 u_th u_sa b_rf b_ro b_im b_ke u_fd b_tp u_td u_fr u_to u_so u_wo u_fa u_bd u_nc b_nl u_co b_op b_ar u_le b_pi b_pa u_pd u_od b_ws b_hw u_la b_se b_re k10_bk 0 u_su u_ce u_ho u_wy u_bt u_ps b_pt u_tg u_sn b_ip u_ic b_ah b_be b_me u_wd b_tr b_ld u_st b_wn u_id)), (b_ro, (arI G 5740 v_ro)), (b_se, (arJ G 13 v_se)), (b_re, (arJ G 400 k10_re))], rfl, ⟨k10_bk, 0, k10_re, i_3, rfl⟩, by rw [ht]; exact hP.sub [0, 1, 2, 3] rfl, hD.sub [0, 1, 2, 3] (by decide +kernel) rfl⟩, hS.F ht⟩) hS.2.2 dX12_reckonAll_263
    ·
      have i_8 : k10_3.toInt > 0 := g5_leN (a := k10_3.toInt) (b := 0) rfl (by decide +kernel) c_8
      refine lv_aload_n hx hb dX12_reckonAll_250 rfl (lv_at hl 2 rfl) ?_
      refine va_get (D := G.1) (ci := 12) (v := .ref b_re) (C := RX12) (T := TX12) (N := 52) hx hb hts inG_X12 hown hK hP 0 rfl rfl 29 (by decide +kernel) (hts _ fl_X12_79) (fun _ h9 => h9) rfl dX12_reckonAll_251 ?_
      refine lv_iconst (v := 0) hx hb dX12_reckonAll_254 (by decide +kernel) ?_
      refine va_lald hx hb hK hP 3 1 rfl rfl (i := 0) (by unfold vp_in; decide) dX12_reckonAll_255 ?_
      refine g5_tl (v := (k10_re 0)) rfl ?_
      refine W.eq (g2 := F0 m 256 ls [.long (k10_re 0), .ref b_o]) rfl ?_
      refine lv_goto (tgt := 260) hx hb dX12_reckonAll_256 (by decide +kernel) ?_
      refine va_put (D := G.1) (ci := 12) (v := .long (k10_re 0)) (ty := .long) (C := RX12) (T := TX12) (N := 52) hx hb hts inG_X12 tyX12 tyX12_ok nmX12 hown hK hP hD hS 0 rfl rfl 31 (by decide +kernel) (hts _ fl_X12_340) (fun _ h9 => h9) rfl (by decide +kernel) rfl rfl (Nat.le_of_ble_eq_true rfl) dX12_reckonAll_260 ?_
      clear hP hD hS
      intro H locs hP hD hS
      refine g5_rs [(b_o, (oc12 u_th u_sa b_rf b_ro b_im b_ke u_fd b_tp u_td u_fr u_to u_so u_wo u_fa u_bd u_nc b_nl u_co b_op b_ar u_le b_pi b_pa u_pd u_od b_ws b_hw u_la b_se b_re k10_bk (k10_re 0) u_su u_ce u_ho u_wy u_bt u_ps b_pt u_tg u_sn b_ip u_ic b_ah b_be b_me u_wd b_tr b_ld u_st b_wn u_id)), (b_ro, (arI G 5740 v_ro)), (b_se, (arJ G 13 v_se)), (b_re, (arJ G 400 k10_re))] hP hD ?_
      clear hP hD
      intro hP hD
      exact W.vret hx hb hr (fun t ht hW => ⟨⟨[(b_o, (oc12 u_th u_sa b_rf b_ro b_im b_ke u_fd b_tp u_td u_fr u_to u_so u_wo u_fa u_bd u_nc b_nl u_co b_op b_ar u_le b_pi b_pa u_pd u_od b_ws b_hw u_la b_se b_re k10_bk (k10_re 0) u_su u_ce u_ho u_wy u_bt u_ps b_pt u_tg u_sn b_ip u_ic b_ah b_be b_me u_wd b_tr b_ld u_st b_wn u_id)), (b_ro, (arI G 5740 v_ro)), (b_se, (arJ G 13 v_se)), (b_re, (arJ G 400 k10_re))], rfl, ⟨k10_bk, (k10_re 0), k10_re, i_3, rfl⟩, by rw [ht]; exact hP.sub [0, 1, 2, 3] rfl, hD.sub [0, 1, 2, 3] (by decide +kernel) rfl⟩, hS.F ht⟩) hS.2.2 dX12_reckonAll_263
  ·
    have i_7 : k10_4.toInt < p_2.toInt := g5_geN (a := k10_4.toInt) (b := p_2.toInt) rfl rfl c_7
    refine lv_aload_n hx hb dX12_reckonAll_16 rfl (lv_at hl 2 rfl) ?_
    refine va_get (D := G.1) (ci := 12) (v := .int k10_bk) (C := RX12) (T := TX12) (N := 52) hx hb hts inG_X12 hown hK hP 0 rfl rfl 30 (by decide +kernel) (hts _ fl_X12_326) (fun _ h9 => h9) rfl dX12_reckonAll_17 ?_
    refine lv_if_ne (tgt := 245) hx hb dX12_reckonAll_20 (by decide +kernel) (fun c_9 => ?_) (fun c_9 => ?_)
    ·
      have n_9 : gNe (k10_bk.toInt) (0) := g5_ne (a := k10_bk.toInt) (b := 0) rfl (by decide +kernel) c_9
      have i_9 : k10_bk.toInt ≥ 1 := by have z := g5_ne (a := k10_bk.toInt) (b := 0) (by rfl) (by decide +kernel) c_9; omega
      refine lv_aload_n hx hb dX12_reckonAll_245 rfl (lv_at hl 2 rfl) ?_
      refine lv_iload_n hx hb dX12_reckonAll_246 rfl (lv_at hl 0 rfl) ?_
      refine lv_if_le (tgt := 259) hx hb dX12_reckonAll_247 (by decide +kernel) (fun c_10 => ?_) (fun c_10 => ?_)
      ·
        have i_10 : k10_3.toInt ≤ 0 := g5_le (a := k10_3.toInt) (b := 0) rfl (by decide +kernel) c_10
        refine lv_lconst (v := 0) hx hb dX12_reckonAll_259 (by decide +kernel) ?_
        refine va_put (D := G.1) (ci := 12) (v := .long 0) (ty := .long) (C := RX12) (T := TX12) (N := 52) hx hb hts inG_X12 tyX12 tyX12_ok nmX12 hown hK hP hD hS 0 rfl rfl 31 (by decide +kernel) (hts _ fl_X12_340) (fun _ h9 => h9) rfl (by decide +kernel) rfl rfl (Nat.le_of_ble_eq_true rfl) dX12_reckonAll_260 ?_
        clear hP hD hS
        intro H locs hP hD hS
        refine g5_rs [(b_o, (oc12 u_th u_sa b_rf b_ro b_im b_ke u_fd b_tp u_td u_fr u_to u_so u_wo u_fa u_bd u_nc b_nl u_co b_op b_ar u_le b_pi b_pa u_pd u_od b_ws b_hw u_la b_se b_re k10_bk 0 u_su u_ce u_ho u_wy u_bt u_ps b_pt u_tg u_sn b_ip u_ic b_ah b_be b_me u_wd b_tr b_ld u_st b_wn u_id)), (b_ro, (arI G 5740 v_ro)), (b_se, (arJ G 13 v_se)), (b_re, (arJ G 400 k10_re))] hP hD ?_
        clear hP hD
        intro hP hD
        exact W.vret hx hb hr (fun t ht hW => ⟨⟨[(b_o, (oc12 u_th u_sa b_rf b_ro b_im b_ke u_fd b_tp u_td u_fr u_to u_so u_wo u_fa u_bd u_nc b_nl u_co b_op b_ar u_le b_pi b_pa u_pd u_od b_ws b_hw u_la b_se b_re k10_bk 0 u_su u_ce u_ho u_wy u_bt u_ps b_pt u_tg u_sn b_ip u_ic b_ah b_be b_me u_wd b_tr b_ld u_st b_wn u_id)), (b_ro, (arI G 5740 v_ro)), (b_se, (arJ G 13 v_se)), (b_re, (arJ G 400 k10_re))], rfl, ⟨k10_bk, 0, k10_re, i_3, rfl⟩, by rw [ht]; exact hP.sub [0, 1, 2, 3] rfl, hD.sub [0, 1, 2, 3] (by decide +kernel) rfl⟩, hS.F ht⟩) hS.2.2 dX12_reckonAll_263
      ·
        have i_10 : k10_3.toInt > 0 := g5_leN (a := k10_3.toInt) (b := 0) rfl (by decide +kernel) c_10
        refine lv_aload_n hx hb dX12_reckonAll_250 rfl (lv_at hl 2 rfl) ?_
        refine va_get (D := G.1) (ci := 12) (v := .ref b_re) (C := RX12) (T := TX12) (N := 52) hx hb hts inG_X12 hown hK hP 0 rfl rfl 29 (by decide +kernel) (hts _ fl_X12_79) (fun _ h9 => h9) rfl dX12_reckonAll_251 ?_
        refine lv_iconst (v := 0) hx hb dX12_reckonAll_254 (by decide +kernel) ?_
        refine va_lald hx hb hK hP 3 1 rfl rfl (i := 0) (by unfold vp_in; decide) dX12_reckonAll_255 ?_
        refine g5_tl (v := (k10_re 0)) rfl ?_
        refine W.eq (g2 := F0 m 256 ls [.long (k10_re 0), .ref b_o]) rfl ?_
        refine lv_goto (tgt := 260) hx hb dX12_reckonAll_256 (by decide +kernel) ?_
        refine va_put (D := G.1) (ci := 12) (v := .long (k10_re 0)) (ty := .long) (C := RX12) (T := TX12) (N := 52) hx hb hts inG_X12 tyX12 tyX12_ok nmX12 hown hK hP hD hS 0 rfl rfl 31 (by decide +kernel) (hts _ fl_X12_340) (fun _ h9 => h9) rfl (by decide +kernel) rfl rfl (Nat.le_of_ble_eq_true rfl) dX12_reckonAll_260 ?_
        clear hP hD hS
        intro H locs hP hD hS
        refine g5_rs [(b_o, (oc12 u_th u_sa b_rf b_ro b_im b_ke u_fd b_tp u_td u_fr u_to u_so u_wo u_fa u_bd u_nc b_nl u_co b_op b_ar u_le b_pi b_pa u_pd u_od b_ws b_hw u_la b_se b_re k10_bk (k10_re 0) u_su u_ce u_ho u_wy u_bt u_ps b_pt u_tg u_sn b_ip u_ic b_ah b_be b_me u_wd b_tr b_ld u_st b_wn u_id)), (b_ro, (arI G 5740 v_ro)), (b_se, (arJ G 13 v_se)), (b_re, (arJ G 400 k10_re))] hP hD ?_
        clear hP hD
        intro hP hD
        exact W.vret hx hb hr (fun t ht hW => ⟨⟨[(b_o, (oc12 u_th u_sa b_rf b_ro b_im b_ke u_fd b_tp u_td u_fr u_to u_so u_wo u_fa u_bd u_nc b_nl u_co b_op b_ar u_le b_pi b_pa u_pd u_od b_ws b_hw u_la b_se b_re k10_bk (k10_re 0) u_su u_ce u_ho u_wy u_bt u_ps b_pt u_tg u_sn b_ip u_ic b_ah b_be b_me u_wd b_tr b_ld u_st b_wn u_id)), (b_ro, (arI G 5740 v_ro)), (b_se, (arJ G 13 v_se)), (b_re, (arJ G 400 k10_re))], rfl, ⟨k10_bk, (k10_re 0), k10_re, i_3, rfl⟩, by rw [ht]; exact hP.sub [0, 1, 2, 3] rfl, hD.sub [0, 1, 2, 3] (by decide +kernel) rfl⟩, hS.F ht⟩) hS.2.2 dX12_reckonAll_263
    ·
      have i_9 : k10_bk.toInt = 0 := g5_neN (a := k10_bk.toInt) (b := 0) rfl (by decide +kernel) c_9
      refine lv_aload_n hx hb dX12_reckonAll_23 rfl (lv_at hl 2 rfl) ?_
      refine va_get (D := G.1) (ci := 12) (v := .ref b_ro) (C := RX12) (T := TX12) (N := 52) hx hb hts inG_X12 hown hK hP 0 rfl rfl 3 (by decide +kernel) (hts _ fl_X12_13) (fun _ h9 => h9) rfl dX12_reckonAll_24 ?_
      refine lv_aload_n hx hb dX12_reckonAll_27 rfl (lv_at hl 2 rfl) ?_
      refine va_get (D := G.1) (ci := 12) (v := .int u_la) (C := RX12) (T := TX12) (N := 52) hx hb hts inG_X12 hown hK hP 0 rfl rfl 27 (by decide +kernel) (hts _ fl_X12_329) (fun _ h9 => h9) rfl dX12_reckonAll_28 ?_
      refine W.eq (g2 := F0 m 31 ls [.int u_la, .ref b_ro]) rfl ?_
      refine lv_bipush (v := 98) hx hb dX12_reckonAll_31 (by decide +kernel) ?_
      refine lv_iadd hx hb dX12_reckonAll_33 ?_
      have t_11 : (u_la + 98).toInt = u_la.toInt + 98 := g5_iadd (a := u_la.toInt) (b := 98) (by rfl) (by decide +kernel) (by omega) (by omega)
      refine lv_iconst (v := 2) hx hb dX12_reckonAll_34 (by decide +kernel) ?_
      refine lv_iload hx hb dX12_reckonAll_35 (lv_at hl 1 rfl) ?_
      refine lv_imul hx hb dX12_reckonAll_37 ?_
      have t_12 : (2 * k10_4).toInt = 2 * k10_4.toInt := g5_imul (a := 2) (b := k10_4.toInt) (by decide +kernel) (by rfl) (by omega) (by omega)
      refine W.eq (g2 := F0 m 38 ls [.int (2 * k10_4), .int (u_la + 98), .ref b_ro]) rfl ?_
      refine lv_iadd hx hb dX12_reckonAll_38 ?_
      have t_13 : ((u_la + 98) + (2 * k10_4)).toInt = (u_la + 98).toInt + (2 * k10_4).toInt := g5_iadd (a := (u_la + 98).toInt) (b := (2 * k10_4).toInt) (by rfl) (by rfl) (by omega) (by omega)
      refine va_iald hx hb hK hP 1 0 rfl rfl (i := ((u_la + 98) + (2 * k10_4))) (vp_in_iff.mpr ⟨by omega, by omega⟩) dX12_reckonAll_39 ?_
      have hst := hh1 k10_4.toInt.toNat (by omega) (by omega)
      have he1 : ((u_la + 98) + (2 * k10_4)).toNatClampNeg = u_la.toNatClampNeg + 98 + 2 * k10_4.toInt.toNat := by have z1 := g5_clamp ((u_la + 98) + (2 * k10_4)); have z2 := g5_clamp u_la; omega
      unfold stOK at hst
      rw [← he1] at hst
      refine lv_istore (lv' := [(5, .int (v_ro ((u_la + 98) + (2 * k10_4)).toNatClampNeg)), (3, .int k10_3), (4, .int k10_4), (0, .ref b_o), (1, .int p_1), (2, .int p_2)]) hx hb dX12_reckonAll_40 hl (by decide +kernel) rfl ?_
      clear hl
      intro ls hl
      refine lv_aload_n hx hb dX12_reckonAll_42 rfl (lv_at hl 3 rfl) ?_
      refine va_get (D := G.1) (ci := 12) (v := .ref b_ro) (C := RX12) (T := TX12) (N := 52) hx hb hts inG_X12 hown hK hP 0 rfl rfl 3 (by decide +kernel) (hts _ fl_X12_13) (fun _ h9 => h9) rfl dX12_reckonAll_43 ?_
      refine W.eq (g2 := F0 m 46 ls [.ref b_ro]) rfl ?_
      refine lv_aload_n hx hb dX12_reckonAll_46 rfl (lv_at hl 3 rfl) ?_
      refine va_get (D := G.1) (ci := 12) (v := .int u_la) (C := RX12) (T := TX12) (N := 52) hx hb hts inG_X12 hown hK hP 0 rfl rfl 27 (by decide +kernel) (hts _ fl_X12_329) (fun _ h9 => h9) rfl dX12_reckonAll_47 ?_
      refine lv_bipush (v := 98) hx hb dX12_reckonAll_50 (by decide +kernel) ?_
      refine lv_iadd hx hb dX12_reckonAll_52 ?_
      have t_14 : (u_la + 98).toInt = u_la.toInt + 98 := g5_iadd (a := u_la.toInt) (b := 98) (by rfl) (by decide +kernel) (by omega) (by omega)
      refine lv_iconst (v := 2) hx hb dX12_reckonAll_53 (by decide +kernel) ?_
      refine W.eq (g2 := F0 m 54 ls [.int 2, .int (u_la + 98), .ref b_ro]) rfl ?_
      refine lv_iload hx hb dX12_reckonAll_54 (lv_at hl 2 rfl) ?_
      refine lv_imul hx hb dX12_reckonAll_56 ?_
      have t_15 : (2 * k10_4).toInt = 2 * k10_4.toInt := g5_imul (a := 2) (b := k10_4.toInt) (by decide +kernel) (by rfl) (by omega) (by omega)
      refine lv_iadd hx hb dX12_reckonAll_57 ?_
      have t_16 : ((u_la + 98) + (2 * k10_4)).toInt = (u_la + 98).toInt + (2 * k10_4).toInt := g5_iadd (a := (u_la + 98).toInt) (b := (2 * k10_4).toInt) (by rfl) (by rfl) (by omega) (by omega)
      refine lv_iconst (v := 1) hx hb dX12_reckonAll_58 (by decide +kernel) ?_
      refine lv_iadd hx hb dX12_reckonAll_59 ?_
      have t_17 : (((u_la + 98) + (2 * k10_4)) + 1).toInt = ((u_la + 98) + (2 * k10_4)).toInt + 1 := g5_iadd (a := ((u_la + 98) + (2 * k10_4)).toInt) (b := 1) (by rfl) (by decide +kernel) (by omega) (by omega)
      refine W.eq (g2 := F0 m 60 ls [.int (((u_la + 98) + (2 * k10_4)) + 1), .ref b_ro]) rfl ?_
      refine va_iald hx hb hK hP 1 0 rfl rfl (i := (((u_la + 98) + (2 * k10_4)) + 1)) (vp_in_iff.mpr ⟨by omega, by omega⟩) dX12_reckonAll_60 ?_
      have he2 : (((u_la + 98) + (2 * k10_4)) + 1).toNatClampNeg = ((u_la + 98) + (2 * k10_4)).toNatClampNeg + 1 := by have z1 := g5_clamp (((u_la + 98) + (2 * k10_4)) + 1); have z2 := g5_clamp ((u_la + 98) + (2 * k10_4)); omega
      rw [← he2] at hst
      have hn9 : k10_3.toInt = ((hh k10_4.toInt.toNat : Nat) : Int) := i_5 (by omega)
      have hop : 0 ≤ (v_ro ((u_la + 98) + (2 * k10_4)).toNatClampNeg).toInt ∧ (v_ro ((u_la + 98) + (2 * k10_4)).toNatClampNeg).toInt ≤ 29 := by omega
      refine lv_istore (lv' := [(6, .int (v_ro (((u_la + 98) + (2 * k10_4)) + 1).toNatClampNeg)), (5, .int (v_ro ((u_la + 98) + (2 * k10_4)).toNatClampNeg)), (3, .int k10_3), (4, .int k10_4), (0, .ref b_o), (1, .int p_1), (2, .int p_2)]) hx hb dX12_reckonAll_61 hl (by decide +kernel) rfl ?_
      clear hl
      intro ls hl
      refine lv_iinc (v := (k10_4 + 1)) (lv' := [(4, .int (k10_4 + 1)), (6, .int (v_ro (((u_la + 98) + (2 * k10_4)) + 1).toNatClampNeg)), (5, .int (v_ro ((u_la + 98) + (2 * k10_4)).toNatClampNeg)), (3, .int k10_3), (0, .ref b_o), (1, .int p_1), (2, .int p_2)]) hx hb dX12_reckonAll_63 hl (k := 3) rfl rfl (by decide +kernel) rfl ?_
      clear hl
      intro ls hl
      have t_18 : (k10_4 + 1).toInt = k10_4.toInt + 1 := g5_iadd (a := k10_4.toInt) (b := 1) rfl (by decide +kernel) (by omega) (by omega)
      refine lv_iload hx hb dX12_reckonAll_66 (lv_at hl 2 rfl) ?_
      refine lv_bipush (v := 20) hx hb dX12_reckonAll_68 (by decide +kernel) ?_
      refine W.eq (g2 := F0 m 70 ls [.int 20, .int (v_ro ((u_la + 98) + (2 * k10_4)).toNatClampNeg)]) rfl ?_
      refine lv_icmp_ge (tgt := 103) hx hb dX12_reckonAll_70 (by decide +kernel) (fun c_19 => ?_) (fun c_19 => ?_)
      ·
        have i_19 : (v_ro ((u_la + 98) + (2 * k10_4)).toNatClampNeg).toInt ≥ 20 := g5_ge (a := (v_ro ((u_la + 98) + (2 * k10_4)).toNatClampNeg).toInt) (b := 20) rfl (by decide +kernel) c_19
        refine lv_iload hx hb dX12_reckonAll_103 (lv_at hl 2 rfl) ?_
        refine lv_bipush (v := 27) hx hb dX12_reckonAll_105 (by decide +kernel) ?_
        refine lv_icmp_ge (tgt := 180) hx hb dX12_reckonAll_107 (by decide +kernel) (fun c_20 => ?_) (fun c_20 => ?_)
        ·
          have i_20 : (v_ro ((u_la + 98) + (2 * k10_4)).toNatClampNeg).toInt ≥ 27 := g5_ge (a := (v_ro ((u_la + 98) + (2 * k10_4)).toNatClampNeg).toInt) (b := 27) rfl (by decide +kernel) c_20
          refine lv_iload hx hb dX12_reckonAll_180 (lv_at hl 2 rfl) ?_
          refine lv_bipush (v := 27) hx hb dX12_reckonAll_182 (by decide +kernel) ?_
          refine lv_icmp_ne (tgt := 208) hx hb dX12_reckonAll_184 (by decide +kernel) (fun c_21 => ?_) (fun c_21 => ?_)
          ·
            have n_21 : gNe ((v_ro ((u_la + 98) + (2 * k10_4)).toNatClampNeg).toInt) (27) := g5_ne (a := (v_ro ((u_la + 98) + (2 * k10_4)).toNatClampNeg).toInt) (b := 27) rfl (by decide +kernel) c_21
            have i_21 : (v_ro ((u_la + 98) + (2 * k10_4)).toNatClampNeg).toInt ≥ 28 := by have z := g5_ne (a := (v_ro ((u_la + 98) + (2 * k10_4)).toNatClampNeg).toInt) (b := 27) (by rfl) (by decide +kernel) c_21; omega
            refine lv_aload_n hx hb dX12_reckonAll_208 rfl (lv_at hl 4 rfl) ?_
            refine va_get (D := G.1) (ci := 12) (v := .ref b_re) (C := RX12) (T := TX12) (N := 52) hx hb hts inG_X12 hown hK hP 0 rfl rfl 29 (by decide +kernel) (hts _ fl_X12_79) (fun _ h9 => h9) rfl dX12_reckonAll_209 ?_
            refine lv_iload_n hx hb dX12_reckonAll_212 rfl (lv_at hl 3 rfl) ?_
            refine lv_iconst (v := 1) hx hb dX12_reckonAll_213 (by decide +kernel) ?_
            refine W.eq (g2 := F0 m 214 ls [.int 1, .int k10_3, .ref b_re]) rfl ?_
            refine lv_isub hx hb dX12_reckonAll_214 ?_
            have t_22 : (k10_3 - 1).toInt = k10_3.toInt - 1 := g5_isub (a := k10_3.toInt) (b := 1) (by rfl) (by decide +kernel) (by omega) (by omega)
            refine va_lald hx hb hK hP 3 1 rfl rfl (i := (k10_3 - 1)) (vp_in_iff.mpr ⟨by omega, by omega⟩) dX12_reckonAll_215 ?_
            refine lv_iload hx hb dX12_reckonAll_216 (lv_at hl 2 rfl) ?_
            refine lv_bipush (v := 28) hx hb dX12_reckonAll_218 (by decide +kernel) ?_
            refine lv_icmp_ne (tgt := 227) hx hb dX12_reckonAll_220 (by decide +kernel) (fun c_23 => ?_) (fun c_23 => ?_)
            ·
              have n_23 : gNe ((v_ro ((u_la + 98) + (2 * k10_4)).toNatClampNeg).toInt) (28) := g5_ne (a := (v_ro ((u_la + 98) + (2 * k10_4)).toNatClampNeg).toInt) (b := 28) rfl (by decide +kernel) c_23
              have i_23 : (v_ro ((u_la + 98) + (2 * k10_4)).toNatClampNeg).toInt ≥ 29 := by have z := g5_ne (a := (v_ro ((u_la + 98) + (2 * k10_4)).toNatClampNeg).toInt) (b := 28) (by rfl) (by decide +kernel) c_23; omega
              refine lv_lconst (v := 1) hx hb dX12_reckonAll_227 (by decide +kernel) ?_
              refine W.lcmp hx hb dX12_reckonAll_228 ?_
              refine lv_if_ne (tgt := 239) hx hb dX12_reckonAll_229 (by decide +kernel) (fun c_24 => ?_) (fun c_24 => ?_)
              ·
                have n_24 : gNe ((lg_cmp (k10_re (k10_3 - 1).toNatClampNeg) 1).toInt) (0) := g5_ne (a := (lg_cmp (k10_re (k10_3 - 1).toNatClampNeg) 1).toInt) (b := 0) rfl (by decide +kernel) c_24
                obtain ⟨y25, hy_25, t_25⟩ := g_incN k10_3 (-1) (by decide +kernel) (by omega) (by omega)
                have t_25 : y25.toInt = k10_3.toInt + (-1) := t_25
                refine lv_iinc (v := y25) (lv' := [(3, .int y25), (4, .int (k10_4 + 1)), (6, .int (v_ro (((u_la + 98) + (2 * k10_4)) + 1).toNatClampNeg)), (5, .int (v_ro ((u_la + 98) + (2 * k10_4)).toNatClampNeg)), (0, .ref b_o), (1, .int p_1), (2, .int p_2)]) hx hb dX12_reckonAll_239 hl (k := 3) rfl hy_25 (by decide +kernel) rfl ?_
                clear hl
                intro ls hl
                refine lv_goto (tgt := 10) hx hb dX12_reckonAll_242 (by decide +kernel) ?_
                exact ih_10_6 ((k10_4 + 1), y25, k10_bk, k10_re) ls H locs (show Int.toNat (401 - (k10_4 + 1).toInt) < Int.toNat (401 - k10_4.toInt) from g_up (show k10_4.toInt < (k10_4 + 1).toInt by omega) (show k10_4.toInt < 401 by omega)) ⟨lv_sub hl [0, 1, 4, 5, 6] rfl, hP, hD, hS, ⟨by omega, by omega⟩, ⟨by omega, by omega⟩, i_3, by omega, fun _ => by have e9 : (k10_4 + 1).toInt.toNat = k10_4.toInt.toNat + 1 := (by omega); rw [e9]; omega⟩
              ·
                have i_24 : (lg_cmp (k10_re (k10_3 - 1).toNatClampNeg) 1).toInt = 0 := g5_neN (a := (lg_cmp (k10_re (k10_3 - 1).toNatClampNeg) 1).toInt) (b := 0) rfl (by decide +kernel) c_24
                refine lv_iload hx hb dX12_reckonAll_232 (lv_at hl 1 rfl) ?_
                refine lv_istore (lv' := [(4, .int (v_ro (((u_la + 98) + (2 * k10_4)) + 1).toNatClampNeg)), (6, .int (v_ro (((u_la + 98) + (2 * k10_4)) + 1).toNatClampNeg)), (5, .int (v_ro ((u_la + 98) + (2 * k10_4)).toNatClampNeg)), (3, .int k10_3), (0, .ref b_o), (1, .int p_1), (2, .int p_2)]) hx hb dX12_reckonAll_234 hl (by decide +kernel) rfl ?_
                clear hl
                intro ls hl
                refine lv_goto (tgt := 242) hx hb dX12_reckonAll_236 (by decide +kernel) ?_
                refine lv_goto (tgt := 10) hx hb dX12_reckonAll_242 (by decide +kernel) ?_
                exact ih_10_6 ((v_ro (((u_la + 98) + (2 * k10_4)) + 1).toNatClampNeg), k10_3, k10_bk, k10_re) ls H locs (show Int.toNat (401 - (v_ro (((u_la + 98) + (2 * k10_4)) + 1).toNatClampNeg).toInt) < Int.toNat (401 - k10_4.toInt) from g_up (show k10_4.toInt < (v_ro (((u_la + 98) + (2 * k10_4)) + 1).toNatClampNeg).toInt by omega) (show k10_4.toInt < 401 by omega)) ⟨lv_sub hl [3, 0, 4, 5, 6] rfl, hP, hD, hS, ⟨by omega, by omega⟩, i_2, i_3, by omega, fun h9 => by omega⟩
            ·
              have i_23 : (v_ro ((u_la + 98) + (2 * k10_4)).toNatClampNeg).toInt = 28 := g5_neN (a := (v_ro ((u_la + 98) + (2 * k10_4)).toNatClampNeg).toInt) (b := 28) rfl (by decide +kernel) c_23
              refine lv_lconst (v := 0) hx hb dX12_reckonAll_223 (by decide +kernel) ?_
              refine lv_goto (tgt := 228) hx hb dX12_reckonAll_224 (by decide +kernel) ?_
              refine W.lcmp hx hb dX12_reckonAll_228 ?_
              refine lv_if_ne (tgt := 239) hx hb dX12_reckonAll_229 (by decide +kernel) (fun c_26 => ?_) (fun c_26 => ?_)
              ·
                have n_26 : gNe ((lg_cmp (k10_re (k10_3 - 1).toNatClampNeg) 0).toInt) (0) := g5_ne (a := (lg_cmp (k10_re (k10_3 - 1).toNatClampNeg) 0).toInt) (b := 0) rfl (by decide +kernel) c_26
                obtain ⟨y27, hy_27, t_27⟩ := g_incN k10_3 (-1) (by decide +kernel) (by omega) (by omega)
                have t_27 : y27.toInt = k10_3.toInt + (-1) := t_27
                refine lv_iinc (v := y27) (lv' := [(3, .int y27), (4, .int (k10_4 + 1)), (6, .int (v_ro (((u_la + 98) + (2 * k10_4)) + 1).toNatClampNeg)), (5, .int (v_ro ((u_la + 98) + (2 * k10_4)).toNatClampNeg)), (0, .ref b_o), (1, .int p_1), (2, .int p_2)]) hx hb dX12_reckonAll_239 hl (k := 3) rfl hy_27 (by decide +kernel) rfl ?_
                clear hl
                intro ls hl
                refine lv_goto (tgt := 10) hx hb dX12_reckonAll_242 (by decide +kernel) ?_
                exact ih_10_6 ((k10_4 + 1), y27, k10_bk, k10_re) ls H locs (show Int.toNat (401 - (k10_4 + 1).toInt) < Int.toNat (401 - k10_4.toInt) from g_up (show k10_4.toInt < (k10_4 + 1).toInt by omega) (show k10_4.toInt < 401 by omega)) ⟨lv_sub hl [0, 1, 4, 5, 6] rfl, hP, hD, hS, ⟨by omega, by omega⟩, ⟨by omega, by omega⟩, i_3, by omega, fun _ => by have e9 : (k10_4 + 1).toInt.toNat = k10_4.toInt.toNat + 1 := (by omega); rw [e9]; omega⟩
              ·
                have i_26 : (lg_cmp (k10_re (k10_3 - 1).toNatClampNeg) 0).toInt = 0 := g5_neN (a := (lg_cmp (k10_re (k10_3 - 1).toNatClampNeg) 0).toInt) (b := 0) rfl (by decide +kernel) c_26
                refine lv_iload hx hb dX12_reckonAll_232 (lv_at hl 1 rfl) ?_
                refine lv_istore (lv' := [(4, .int (v_ro (((u_la + 98) + (2 * k10_4)) + 1).toNatClampNeg)), (6, .int (v_ro (((u_la + 98) + (2 * k10_4)) + 1).toNatClampNeg)), (5, .int (v_ro ((u_la + 98) + (2 * k10_4)).toNatClampNeg)), (3, .int k10_3), (0, .ref b_o), (1, .int p_1), (2, .int p_2)]) hx hb dX12_reckonAll_234 hl (by decide +kernel) rfl ?_
                clear hl
                intro ls hl
                refine lv_goto (tgt := 242) hx hb dX12_reckonAll_236 (by decide +kernel) ?_
                refine lv_goto (tgt := 10) hx hb dX12_reckonAll_242 (by decide +kernel) ?_
                exact ih_10_6 ((v_ro (((u_la + 98) + (2 * k10_4)) + 1).toNatClampNeg), k10_3, k10_bk, k10_re) ls H locs (show Int.toNat (401 - (v_ro (((u_la + 98) + (2 * k10_4)) + 1).toNatClampNeg).toInt) < Int.toNat (401 - k10_4.toInt) from g_up (show k10_4.toInt < (v_ro (((u_la + 98) + (2 * k10_4)) + 1).toNatClampNeg).toInt by omega) (show k10_4.toInt < 401 by omega)) ⟨lv_sub hl [3, 0, 4, 5, 6] rfl, hP, hD, hS, ⟨by omega, by omega⟩, i_2, i_3, by omega, fun h9 => by omega⟩
          ·
            have i_21 : (v_ro ((u_la + 98) + (2 * k10_4)).toNatClampNeg).toInt = 27 := g5_neN (a := (v_ro ((u_la + 98) + (2 * k10_4)).toNatClampNeg).toInt) (b := 27) rfl (by decide +kernel) c_21
            refine lv_aload_n hx hb dX12_reckonAll_187 rfl (lv_at hl 4 rfl) ?_
            refine va_get (D := G.1) (ci := 12) (v := .ref b_re) (C := RX12) (T := TX12) (N := 52) hx hb hts inG_X12 hown hK hP 0 rfl rfl 29 (by decide +kernel) (hts _ fl_X12_79) (fun _ h9 => h9) rfl dX12_reckonAll_188 ?_
            refine lv_iload_n hx hb dX12_reckonAll_191 rfl (lv_at hl 3 rfl) ?_
            refine lv_iconst (v := 1) hx hb dX12_reckonAll_192 (by decide +kernel) ?_
            refine W.eq (g2 := F0 m 193 ls [.int 1, .int k10_3, .ref b_re]) rfl ?_
            refine lv_isub hx hb dX12_reckonAll_193 ?_
            have t_28 : (k10_3 - 1).toInt = k10_3.toInt - 1 := g5_isub (a := k10_3.toInt) (b := 1) (by rfl) (by decide +kernel) (by omega) (by omega)
            refine lv_lconst (v := 1) hx hb dX12_reckonAll_194 (by decide +kernel) ?_
            refine lv_aload_n hx hb dX12_reckonAll_195 rfl (lv_at hl 4 rfl) ?_
            refine va_get (D := G.1) (ci := 12) (v := .ref b_re) (C := RX12) (T := TX12) (N := 52) hx hb hts inG_X12 hown hK hP 0 rfl rfl 29 (by decide +kernel) (hts _ fl_X12_79) (fun _ h9 => h9) rfl dX12_reckonAll_196 ?_
            refine lv_iload_n hx hb dX12_reckonAll_199 rfl (lv_at hl 3 rfl) ?_
            refine W.eq (g2 := F0 m 200 ls [.int k10_3, .ref b_re, .long 1, .int (k10_3 - 1), .ref b_re]) rfl ?_
            refine lv_iconst (v := 1) hx hb dX12_reckonAll_200 (by decide +kernel) ?_
            refine lv_isub hx hb dX12_reckonAll_201 ?_
            have t_29 : (k10_3 - 1).toInt = k10_3.toInt - 1 := g5_isub (a := k10_3.toInt) (b := 1) (by rfl) (by decide +kernel) (by omega) (by omega)
            refine va_lald hx hb hK hP 3 1 rfl rfl (i := (k10_3 - 1)) (vp_in_iff.mpr ⟨by omega, by omega⟩) dX12_reckonAll_202 ?_
            refine lv_lsub hx hb dX12_reckonAll_203 ?_
            refine va_last hx hb hK hP hD hS 3 1 rfl rfl (i := (k10_3 - 1)) (x := (1 - (k10_re (k10_3 - 1).toNatClampNeg))) (vp_in_iff.mpr ⟨by omega, by omega⟩) dX12_reckonAll_204 ?_
            clear hP hD hS
            intro H locs hP hD hS
            refine g5_rs [(b_o, (oc12 u_th u_sa b_rf b_ro b_im b_ke u_fd b_tp u_td u_fr u_to u_so u_wo u_fa u_bd u_nc b_nl u_co b_op b_ar u_le b_pi b_pa u_pd u_od b_ws b_hw u_la b_se b_re k10_bk u_va u_su u_ce u_ho u_wy u_bt u_ps b_pt u_tg u_sn b_ip u_ic b_ah b_be b_me u_wd b_tr b_ld u_st b_wn u_id)), (b_ro, (arI G 5740 v_ro)), (b_se, (arJ G 13 v_se)), (b_re, (arJ G 400 (vp_updL k10_re (k10_3 - 1).toNatClampNeg (1 - (k10_re (k10_3 - 1).toNatClampNeg)))))] hP hD ?_
            clear hP hD
            intro hP hD
            refine W.eq (g2 := F0 m 205 ls []) rfl ?_
            refine lv_goto (tgt := 242) hx hb dX12_reckonAll_205 (by decide +kernel) ?_
            refine lv_goto (tgt := 10) hx hb dX12_reckonAll_242 (by decide +kernel) ?_
            exact ih_10_6 ((k10_4 + 1), k10_3, k10_bk, (vp_updL k10_re (k10_3 - 1).toNatClampNeg (1 - (k10_re (k10_3 - 1).toNatClampNeg)))) ls H locs (show Int.toNat (401 - (k10_4 + 1).toInt) < Int.toNat (401 - k10_4.toInt) from g_up (show k10_4.toInt < (k10_4 + 1).toInt by omega) (show k10_4.toInt < 401 by omega)) ⟨lv_sub hl [3, 0, 4, 5, 6] rfl, hP, hD, hS, ⟨by omega, by omega⟩, i_2, i_3, by omega, fun _ => by have e9 : (k10_4 + 1).toInt.toNat = k10_4.toInt.toNat + 1 := (by omega); rw [e9]; omega⟩
        ·
          have i_20 : (v_ro ((u_la + 98) + (2 * k10_4)).toNatClampNeg).toInt < 27 := g5_geN (a := (v_ro ((u_la + 98) + (2 * k10_4)).toNatClampNeg).toInt) (b := 27) rfl (by decide +kernel) c_20
          obtain ⟨y30, hy_30, t_30⟩ := g_incN k10_3 (-1) (by decide +kernel) (by omega) (by omega)
          have t_30 : y30.toInt = k10_3.toInt + (-1) := t_30
          refine lv_iinc (v := y30) (lv' := [(3, .int y30), (4, .int (k10_4 + 1)), (6, .int (v_ro (((u_la + 98) + (2 * k10_4)) + 1).toNatClampNeg)), (5, .int (v_ro ((u_la + 98) + (2 * k10_4)).toNatClampNeg)), (0, .ref b_o), (1, .int p_1), (2, .int p_2)]) hx hb dX12_reckonAll_110 hl (k := 3) rfl hy_30 (by decide +kernel) rfl ?_
          clear hl
          intro ls hl
          refine lv_aload_n hx hb dX12_reckonAll_113 rfl (lv_at hl 4 rfl) ?_
          refine va_get (D := G.1) (ci := 12) (v := .ref b_re) (C := RX12) (T := TX12) (N := 52) hx hb hts inG_X12 hown hK hP 0 rfl rfl 29 (by decide +kernel) (hts _ fl_X12_79) (fun _ h9 => h9) rfl dX12_reckonAll_114 ?_
          refine lv_iload_n hx hb dX12_reckonAll_117 rfl (lv_at hl 0 rfl) ?_
          refine W.eq (g2 := F0 m 118 ls [.int y30, .ref b_re]) rfl ?_
          refine lv_iconst (v := 1) hx hb dX12_reckonAll_118 (by decide +kernel) ?_
          refine lv_isub hx hb dX12_reckonAll_119 ?_
          have t_31 : (y30 - 1).toInt = y30.toInt - 1 := g5_isub (a := y30.toInt) (b := 1) (by rfl) (by decide +kernel) (by omega) (by omega)
          refine lv_aload_n hx hb dX12_reckonAll_120 rfl (lv_at hl 4 rfl) ?_
          refine lv_iload hx hb dX12_reckonAll_121 (lv_at hl 3 rfl) ?_
          refine lv_aload_n hx hb dX12_reckonAll_123 rfl (lv_at hl 4 rfl) ?_
          refine W.eq (g2 := F0 m 124 ls [.ref b_o, .int (v_ro ((u_la + 98) + (2 * k10_4)).toNatClampNeg), .ref b_o, .int (y30 - 1), .ref b_re]) rfl ?_
          refine va_get (D := G.1) (ci := 12) (v := .ref b_re) (C := RX12) (T := TX12) (N := 52) hx hb hts inG_X12 hown hK hP 0 rfl rfl 29 (by decide +kernel) (hts _ fl_X12_79) (fun _ h9 => h9) rfl dX12_reckonAll_124 ?_
          refine lv_iload_n hx hb dX12_reckonAll_127 rfl (lv_at hl 0 rfl) ?_
          refine lv_iconst (v := 1) hx hb dX12_reckonAll_128 (by decide +kernel) ?_
          refine lv_isub hx hb dX12_reckonAll_129 ?_
          have t_32 : (y30 - 1).toInt = y30.toInt - 1 := g5_isub (a := y30.toInt) (b := 1) (by rfl) (by decide +kernel) (by omega) (by omega)
          refine va_lald hx hb hK hP 3 1 rfl rfl (i := (y30 - 1)) (vp_in_iff.mpr ⟨by omega, by omega⟩) dX12_reckonAll_130 ?_
          refine W.eq (g2 := F0 m 131 ls [.long (k10_re (y30 - 1).toNatClampNeg), .int (v_ro ((u_la + 98) + (2 * k10_4)).toNatClampNeg), .ref b_o, .int (y30 - 1), .ref b_re]) rfl ?_
          refine lv_aload_n hx hb dX12_reckonAll_131 rfl (lv_at hl 4 rfl) ?_
          refine va_get (D := G.1) (ci := 12) (v := .ref b_re) (C := RX12) (T := TX12) (N := 52) hx hb hts inG_X12 hown hK hP 0 rfl rfl 29 (by decide +kernel) (hts _ fl_X12_79) (fun _ h9 => h9) rfl dX12_reckonAll_132 ?_
          refine lv_iload_n hx hb dX12_reckonAll_135 rfl (lv_at hl 0 rfl) ?_
          refine va_lald hx hb hK hP 3 1 rfl rfl (i := y30) (vp_in_iff.mpr ⟨by omega, by omega⟩) dX12_reckonAll_136 ?_
          obtain ⟨hPc, hDc, hFc⟩ := g5_sub3 (wc := [(b_o, (oc12 u_th u_sa b_rf b_ro b_im b_ke u_fd b_tp u_td u_fr u_to u_so u_wo u_fa u_bd u_nc b_nl u_co b_op b_ar u_le b_pi b_pa u_pd u_od b_ws b_hw u_la b_se b_re k10_bk u_va u_su u_ce u_ho u_wy u_bt u_ps b_pt u_tg u_sn b_ip u_ic b_ah b_be b_me u_wd b_tr b_ld u_st b_wn u_id))]) hP hD hS hA [0] (by decide +kernel) rfl
          refine va_calll (va_runV (As := [.int (v_ro ((u_la + 98) + (2 * k10_4)).toNatClampNeg), .long (k10_re (y30 - 1).toNatClampNeg), .long (k10_re y30.toNatClampNeg)]) (rest := [.int (y30 - 1), .ref b_re]) ⟨hx, hb, hml, hown, hts⟩ (n_reckon l G b_o b_rf b_ro b_im b_ke b_tp b_nl b_op b_ar b_pi b_pa b_ws b_hw b_se b_re b_pt b_ip b_ah b_be b_me b_tr b_ld b_wn H.size u_th u_sa u_fd u_td u_fr u_to u_so u_fa u_bd u_nc u_co u_le u_pd u_od u_la k10_bk u_ce u_ho u_wy u_bt u_ps u_tg u_sn u_ic u_wd u_id (v_ro ((u_la + 98) + (2 * k10_4)).toNatClampNeg) u_wo u_va u_su u_st (k10_re (y30 - 1).toNatClampNeg) (k10_re y30.toNatClampNeg) h_u_td h_u_fr h_u_to h_u_bd h_u_nc h_u_co h_u_pd h_u_la i_3 h_u_ce h_u_ho h_u_wy h_u_bt h_u_ps h_u_ic h_u_id ⟨by omega, by omega⟩) (cwV 3 hts gV_X12_332 rfl rfl rfl hv_X12_reckon ⟨Nat.le_of_ble_eq_true rfl, Nat.le_of_ble_eq_true rfl⟩) (g5_preV hPc hK hDc hN hT hS hFc (ci := 12) (q0 := 0) rfl rfl) rfl rfl hl.1 rfl (lv_room (Nat.le_of_ble_eq_true rfl)) dX12_reckonAll_137 ⟨Nat.le_of_ble_eq_true rfl, Nat.le_of_ble_eq_true rfl⟩) hS (fun q _ h => hFc q h) hFc (fun r u t H locs ht hvm hw hB hz1 hk1 hS => ?_)
          obtain ⟨hP1, hD1⟩ := hB
          have hP1 := g5_ht ht hP1
          obtain ⟨z34, z35, (i_33 : 0 ≤ z35.toInt ∧ z35.toInt ≤ 1), y36, rfl⟩ := hw
          have hJ9 := va_join (wr := [(b_ro, (arI G 5740 v_ro)), (b_se, (arJ G 13 v_se)), (b_re, (arJ G 400 k10_re))]) hP hD [0] [1, 2, 3] rfl rfl (by decide +kernel) (by decide +kernel) hk1 hFc hP1 hD1
          clear hP hD hPc hDc hFc ht hvm hz1 hk1 hP1 hD1
          obtain ⟨hP, hD⟩ := hJ9
          refine g5_rs [(b_ro, (arI G 5740 v_ro)), (b_se, (arJ G 13 v_se)), (b_re, (arJ G 400 k10_re)), (b_o, (oc12 u_th u_sa b_rf b_ro b_im b_ke u_fd b_tp u_td u_fr u_to u_so u_wo u_fa u_bd u_nc b_nl u_co b_op b_ar u_le b_pi b_pa u_pd u_od b_ws b_hw u_la b_se b_re z35 u_va u_su u_ce u_ho u_wy u_bt u_ps b_pt u_tg u_sn b_ip u_ic b_ah b_be b_me u_wd b_tr b_ld u_st b_wn u_id))] hP hD ?_
          clear hP hD
          intro hP hD
          refine g5_tl (v := z34) y36 ?_
          refine W.eq (g2 := F0 m 140 ls [.long z34, .int (y30 - 1), .ref b_re]) rfl ?_
          refine va_last hx hb hK hP hD hS 2 1 rfl rfl (i := (y30 - 1)) (x := z34) (vp_in_iff.mpr ⟨by omega, by omega⟩) dX12_reckonAll_140 ?_
          clear hP hD hS
          intro H locs hP hD hS
          refine g5_rs [(b_ro, (arI G 5740 v_ro)), (b_se, (arJ G 13 v_se)), (b_re, (arJ G 400 (vp_updL k10_re (y30 - 1).toNatClampNeg z34))), (b_o, (oc12 u_th u_sa b_rf b_ro b_im b_ke u_fd b_tp u_td u_fr u_to u_so u_wo u_fa u_bd u_nc b_nl u_co b_op b_ar u_le b_pi b_pa u_pd u_od b_ws b_hw u_la b_se b_re z35 u_va u_su u_ce u_ho u_wy u_bt u_ps b_pt u_tg u_sn b_ip u_ic b_ah b_be b_me u_wd b_tr b_ld u_st b_wn u_id))] hP hD ?_
          clear hP hD
          intro hP hD
          refine lv_aload_n hx hb dX12_reckonAll_141 rfl (lv_at hl 4 rfl) ?_
          refine lv_aload_n hx hb dX12_reckonAll_142 rfl (lv_at hl 4 rfl) ?_
          refine va_get (D := G.1) (ci := 12) (v := .int z35) (C := RX12) (T := TX12) (N := 52) hx hb hts inG_X12 hown hK hP 3 rfl rfl 30 (by decide +kernel) (hts _ fl_X12_326) (fun _ h9 => h9) rfl dX12_reckonAll_143 ?_
          refine lv_if_ne (tgt := 169) hx hb dX12_reckonAll_146 (by decide +kernel) (fun c_37 => ?_) (fun c_37 => ?_)
          ·
            have n_37 : gNe (z35.toInt) (0) := g5_ne (a := z35.toInt) (b := 0) rfl (by decide +kernel) c_37
            have i_37 : z35.toInt ≥ 1 := by have z := g5_ne (a := z35.toInt) (b := 0) (by rfl) (by decide +kernel) c_37; omega
            refine lv_iconst (v := 1) hx hb dX12_reckonAll_169 (by decide +kernel) ?_
            refine lv_goto (tgt := 174) hx hb dX12_reckonAll_170 (by decide +kernel) ?_
            refine va_put (D := G.1) (ci := 12) (v := .int 1) (ty := .boolean) (C := RX12) (T := TX12) (N := 52) hx hb hts inG_X12 tyX12 tyX12_ok nmX12 hown hK hP hD hS 3 rfl rfl 30 (by decide +kernel) (hts _ fl_X12_326) (fun _ h9 => h9) rfl (by decide +kernel) rfl rfl (Nat.le_of_ble_eq_true rfl) dX12_reckonAll_174 ?_
            clear hP hD hS
            intro H locs hP hD hS
            refine g5_rs [(b_ro, (arI G 5740 v_ro)), (b_se, (arJ G 13 v_se)), (b_re, (arJ G 400 (vp_updL k10_re (y30 - 1).toNatClampNeg z34))), (b_o, (oc12 u_th u_sa b_rf b_ro b_im b_ke u_fd b_tp u_td u_fr u_to u_so u_wo u_fa u_bd u_nc b_nl u_co b_op b_ar u_le b_pi b_pa u_pd u_od b_ws b_hw u_la b_se b_re 1 u_va u_su u_ce u_ho u_wy u_bt u_ps b_pt u_tg u_sn b_ip u_ic b_ah b_be b_me u_wd b_tr b_ld u_st b_wn u_id))] hP hD ?_
            clear hP hD
            intro hP hD
            refine lv_goto (tgt := 242) hx hb dX12_reckonAll_177 (by decide +kernel) ?_
            refine W.eq (g2 := F0 m 242 ls []) rfl ?_
            refine lv_goto (tgt := 10) hx hb dX12_reckonAll_242 (by decide +kernel) ?_
            exact ih_10_6 ((k10_4 + 1), y30, 1, (vp_updL k10_re (y30 - 1).toNatClampNeg z34)) ls H locs (show Int.toNat (401 - (k10_4 + 1).toInt) < Int.toNat (401 - k10_4.toInt) from g_up (show k10_4.toInt < (k10_4 + 1).toInt by omega) (show k10_4.toInt < 401 by omega)) ⟨lv_sub hl [0, 1, 4, 5, 6] rfl, hP.sub [3, 0, 1, 2] rfl, hD.sub [3, 0, 1, 2] (by decide +kernel) rfl, hS, ⟨by omega, by omega⟩, ⟨by omega, by omega⟩, ⟨by decide, by decide⟩, by omega, fun _ => by have e9 : (k10_4 + 1).toInt.toNat = k10_4.toInt.toNat + 1 := (by omega); rw [e9]; omega⟩
          ·
            have i_37 : z35.toInt = 0 := g5_neN (a := z35.toInt) (b := 0) rfl (by decide +kernel) c_37
            refine lv_aload_n hx hb dX12_reckonAll_149 rfl (lv_at hl 4 rfl) ?_
            refine va_get (D := G.1) (ci := 12) (v := .ref b_re) (C := RX12) (T := TX12) (N := 52) hx hb hts inG_X12 hown hK hP 3 rfl rfl 29 (by decide +kernel) (hts _ fl_X12_79) (fun _ h9 => h9) rfl dX12_reckonAll_150 ?_
            refine lv_iload_n hx hb dX12_reckonAll_153 rfl (lv_at hl 0 rfl) ?_
            refine lv_iconst (v := 1) hx hb dX12_reckonAll_154 (by decide +kernel) ?_
            refine W.eq (g2 := F0 m 155 ls [.int 1, .int y30, .ref b_re, .ref b_o]) rfl ?_
            refine lv_isub hx hb dX12_reckonAll_155 ?_
            have t_38 : (y30 - 1).toInt = y30.toInt - 1 := g5_isub (a := y30.toInt) (b := 1) (by rfl) (by decide +kernel) (by omega) (by omega)
            refine va_lald hx hb hK hP 2 1 rfl rfl (i := (y30 - 1)) (vp_in_iff.mpr ⟨by omega, by omega⟩) dX12_reckonAll_156 ?_
            refine lv_ldc2 (v := (-1000000000)) hx hb hown (hts _ kl_X12_336) dX12_reckonAll_157 ?_
            refine lv_ldc2 (v := 1000000000) hx hb hown (hts _ kl_X12_338) dX12_reckonAll_160 ?_
            obtain ⟨hPc, hDc, hFc⟩ := g5_sub3 (wc := []) hP hD hS hA [] (by decide +kernel) rfl
            refine va_calli (va_runS (As := [.long ((vp_updL k10_re (y30 - 1).toNatClampNeg z34) (y30 - 1).toNatClampNeg), .long (-1000000000), .long 1000000000]) (rest := [.ref b_o]) ⟨hx, hb, hml, hown, hts⟩ (n_inL l G H.size ((vp_updL k10_re (y30 - 1).toNatClampNeg z34) (y30 - 1).toNatClampNeg) (-1000000000) 1000000000) (va_cwS 3 hts gS_X12_121 rfl rfl rfl hs_X12_in ⟨Nat.le_of_ble_eq_true rfl, Nat.le_of_ble_eq_true rfl⟩) (g5_preS hPc hK hDc hN hT hS hFc) rfl rfl hl.1 rfl (lv_room (Nat.le_of_ble_eq_true rfl)) dX12_reckonAll_163 ⟨Nat.le_of_ble_eq_true rfl, Nat.le_of_ble_eq_true rfl⟩) hS (fun q _ h => hFc q h) hFc (fun r u t H locs ht hvm hw hB hz1 hk1 hS => ?_)
            obtain ⟨hP1, hD1⟩ := hB
            have hP1 := g5_ht ht hP1
            obtain ⟨z40, (i_39 : 0 ≤ z40.toInt ∧ z40.toInt ≤ 1), y41, rfl⟩ := hw
            have hJ9 := g5_same hP hk1
            clear hP hPc hDc hFc ht hvm hz1 hk1 hP1 hD1
            have hP := hJ9
            clear hJ9
            refine g5_ti (v := z40) y41 ?_
            refine W.eq (g2 := F0 m 166 ls [.int z40, .ref b_o]) rfl ?_
            refine lv_if_ne (tgt := 173) hx hb dX12_reckonAll_166 (by decide +kernel) (fun c_42 => ?_) (fun c_42 => ?_)
            ·
              have n_42 : gNe (z40.toInt) (0) := g5_ne (a := z40.toInt) (b := 0) rfl (by decide +kernel) c_42
              have i_42 : z40.toInt ≥ 1 := by have z := g5_ne (a := z40.toInt) (b := 0) (by rfl) (by decide +kernel) c_42; omega
              refine lv_iconst (v := 0) hx hb dX12_reckonAll_173 (by decide +kernel) ?_
              refine va_put (D := G.1) (ci := 12) (v := .int 0) (ty := .boolean) (C := RX12) (T := TX12) (N := 52) hx hb hts inG_X12 tyX12 tyX12_ok nmX12 hown hK hP hD hS 3 rfl rfl 30 (by decide +kernel) (hts _ fl_X12_326) (fun _ h9 => h9) rfl (by decide +kernel) rfl rfl (Nat.le_of_ble_eq_true rfl) dX12_reckonAll_174 ?_
              clear hP hD hS
              intro H locs hP hD hS
              refine g5_rs [(b_ro, (arI G 5740 v_ro)), (b_se, (arJ G 13 v_se)), (b_re, (arJ G 400 (vp_updL k10_re (y30 - 1).toNatClampNeg z34))), (b_o, (oc12 u_th u_sa b_rf b_ro b_im b_ke u_fd b_tp u_td u_fr u_to u_so u_wo u_fa u_bd u_nc b_nl u_co b_op b_ar u_le b_pi b_pa u_pd u_od b_ws b_hw u_la b_se b_re 0 u_va u_su u_ce u_ho u_wy u_bt u_ps b_pt u_tg u_sn b_ip u_ic b_ah b_be b_me u_wd b_tr b_ld u_st b_wn u_id))] hP hD ?_
              clear hP hD
              intro hP hD
              refine lv_goto (tgt := 242) hx hb dX12_reckonAll_177 (by decide +kernel) ?_
              refine lv_goto (tgt := 10) hx hb dX12_reckonAll_242 (by decide +kernel) ?_
              exact ih_10_6 ((k10_4 + 1), y30, 0, (vp_updL k10_re (y30 - 1).toNatClampNeg z34)) ls H locs (show Int.toNat (401 - (k10_4 + 1).toInt) < Int.toNat (401 - k10_4.toInt) from g_up (show k10_4.toInt < (k10_4 + 1).toInt by omega) (show k10_4.toInt < 401 by omega)) ⟨lv_sub hl [0, 1, 4, 5, 6] rfl, hP.sub [3, 0, 1, 2] rfl, hD.sub [3, 0, 1, 2] (by decide +kernel) rfl, hS, ⟨by omega, by omega⟩, ⟨by omega, by omega⟩, ⟨by decide, by decide⟩, by omega, fun _ => by have e9 : (k10_4 + 1).toInt.toNat = k10_4.toInt.toNat + 1 := (by omega); rw [e9]; omega⟩
            ·
              have i_42 : z40.toInt = 0 := g5_neN (a := z40.toInt) (b := 0) rfl (by decide +kernel) c_42
              refine lv_iconst (v := 1) hx hb dX12_reckonAll_169 (by decide +kernel) ?_
              refine lv_goto (tgt := 174) hx hb dX12_reckonAll_170 (by decide +kernel) ?_
              refine va_put (D := G.1) (ci := 12) (v := .int 1) (ty := .boolean) (C := RX12) (T := TX12) (N := 52) hx hb hts inG_X12 tyX12 tyX12_ok nmX12 hown hK hP hD hS 3 rfl rfl 30 (by decide +kernel) (hts _ fl_X12_326) (fun _ h9 => h9) rfl (by decide +kernel) rfl rfl (Nat.le_of_ble_eq_true rfl) dX12_reckonAll_174 ?_
              clear hP hD hS
              intro H locs hP hD hS
              refine g5_rs [(b_ro, (arI G 5740 v_ro)), (b_se, (arJ G 13 v_se)), (b_re, (arJ G 400 (vp_updL k10_re (y30 - 1).toNatClampNeg z34))), (b_o, (oc12 u_th u_sa b_rf b_ro b_im b_ke u_fd b_tp u_td u_fr u_to u_so u_wo u_fa u_bd u_nc b_nl u_co b_op b_ar u_le b_pi b_pa u_pd u_od b_ws b_hw u_la b_se b_re 1 u_va u_su u_ce u_ho u_wy u_bt u_ps b_pt u_tg u_sn b_ip u_ic b_ah b_be b_me u_wd b_tr b_ld u_st b_wn u_id))] hP hD ?_
              clear hP hD
              intro hP hD
              refine lv_goto (tgt := 242) hx hb dX12_reckonAll_177 (by decide +kernel) ?_
              refine W.eq (g2 := F0 m 242 ls []) rfl ?_
              refine lv_goto (tgt := 10) hx hb dX12_reckonAll_242 (by decide +kernel) ?_
              exact ih_10_6 ((k10_4 + 1), y30, 1, (vp_updL k10_re (y30 - 1).toNatClampNeg z34)) ls H locs (show Int.toNat (401 - (k10_4 + 1).toInt) < Int.toNat (401 - k10_4.toInt) from g_up (show k10_4.toInt < (k10_4 + 1).toInt by omega) (show k10_4.toInt < 401 by omega)) ⟨lv_sub hl [0, 1, 4, 5, 6] rfl, hP.sub [3, 0, 1, 2] rfl, hD.sub [3, 0, 1, 2] (by decide +kernel) rfl, hS, ⟨by omega, by omega⟩, ⟨by omega, by omega⟩, ⟨by decide, by decide⟩, by omega, fun _ => by have e9 : (k10_4 + 1).toInt.toNat = k10_4.toInt.toNat + 1 := (by omega); rw [e9]; omega⟩
      ·
        have i_19 : (v_ro ((u_la + 98) + (2 * k10_4)).toNatClampNeg).toInt < 20 := g5_geN (a := (v_ro ((u_la + 98) + (2 * k10_4)).toNatClampNeg).toInt) (b := 20) rfl (by decide +kernel) c_19
        refine lv_aload_n hx hb dX12_reckonAll_73 rfl (lv_at hl 4 rfl) ?_
        refine va_get (D := G.1) (ci := 12) (v := .ref b_re) (C := RX12) (T := TX12) (N := 52) hx hb hts inG_X12 hown hK hP 0 rfl rfl 29 (by decide +kernel) (hts _ fl_X12_79) (fun _ h9 => h9) rfl dX12_reckonAll_74 ?_
        refine lv_iload_n hx hb dX12_reckonAll_77 rfl (lv_at hl 3 rfl) ?_
        refine lv_iload hx hb dX12_reckonAll_78 (lv_at hl 2 rfl) ?_
        refine W.eq (g2 := F0 m 80 ls [.int (v_ro ((u_la + 98) + (2 * k10_4)).toNatClampNeg), .int k10_3, .ref b_re]) rfl ?_
        refine lv_if_ne (tgt := 89) hx hb dX12_reckonAll_80 (by decide +kernel) (fun c_43 => ?_) (fun c_43 => ?_)
        ·
          have n_43 : gNe ((v_ro ((u_la + 98) + (2 * k10_4)).toNatClampNeg).toInt) (0) := g5_ne (a := (v_ro ((u_la + 98) + (2 * k10_4)).toNatClampNeg).toInt) (b := 0) rfl (by decide +kernel) c_43
          have i_43 : (v_ro ((u_la + 98) + (2 * k10_4)).toNatClampNeg).toInt ≥ 1 := by have z := g5_ne (a := (v_ro ((u_la + 98) + (2 * k10_4)).toNatClampNeg).toInt) (b := 0) (by rfl) (by decide +kernel) c_43; omega
          refine lv_aload_n hx hb dX12_reckonAll_89 rfl (lv_at hl 4 rfl) ?_
          refine va_get (D := G.1) (ci := 12) (v := .ref b_se) (C := RX12) (T := TX12) (N := 52) hx hb hts inG_X12 hown hK hP 0 rfl rfl 28 (by decide +kernel) (hts _ fl_X12_76) (fun _ h9 => h9) rfl dX12_reckonAll_90 ?_
          refine lv_iload hx hb dX12_reckonAll_93 (lv_at hl 2 rfl) ?_
          refine va_lald hx hb hK hP 2 1 rfl rfl (i := (v_ro ((u_la + 98) + (2 * k10_4)).toNatClampNeg)) (vp_in_iff.mpr ⟨by omega, by omega⟩) dX12_reckonAll_95 ?_
          refine W.eq (g2 := F0 m 96 ls [.long (v_se (v_ro ((u_la + 98) + (2 * k10_4)).toNatClampNeg).toNatClampNeg), .int k10_3, .ref b_re]) rfl ?_
          refine va_last hx hb hK hP hD hS 3 1 rfl rfl (i := k10_3) (x := (v_se (v_ro ((u_la + 98) + (2 * k10_4)).toNatClampNeg).toNatClampNeg)) (vp_in_iff.mpr ⟨by omega, by omega⟩) dX12_reckonAll_96 ?_
          clear hP hD hS
          intro H locs hP hD hS
          refine g5_rs [(b_o, (oc12 u_th u_sa b_rf b_ro b_im b_ke u_fd b_tp u_td u_fr u_to u_so u_wo u_fa u_bd u_nc b_nl u_co b_op b_ar u_le b_pi b_pa u_pd u_od b_ws b_hw u_la b_se b_re k10_bk u_va u_su u_ce u_ho u_wy u_bt u_ps b_pt u_tg u_sn b_ip u_ic b_ah b_be b_me u_wd b_tr b_ld u_st b_wn u_id)), (b_ro, (arI G 5740 v_ro)), (b_se, (arJ G 13 v_se)), (b_re, (arJ G 400 (vp_updL k10_re k10_3.toNatClampNeg (v_se (v_ro ((u_la + 98) + (2 * k10_4)).toNatClampNeg).toNatClampNeg))))] hP hD ?_
          clear hP hD
          intro hP hD
          refine lv_iinc (v := (k10_3 + 1)) (lv' := [(3, .int (k10_3 + 1)), (4, .int (k10_4 + 1)), (6, .int (v_ro (((u_la + 98) + (2 * k10_4)) + 1).toNatClampNeg)), (5, .int (v_ro ((u_la + 98) + (2 * k10_4)).toNatClampNeg)), (0, .ref b_o), (1, .int p_1), (2, .int p_2)]) hx hb dX12_reckonAll_97 hl (k := 3) rfl rfl (by decide +kernel) rfl ?_
          clear hl
          intro ls hl
          have t_44 : (k10_3 + 1).toInt = k10_3.toInt + 1 := g5_iadd (a := k10_3.toInt) (b := 1) rfl (by decide +kernel) (by omega) (by omega)
          refine lv_goto (tgt := 242) hx hb dX12_reckonAll_100 (by decide +kernel) ?_
          refine lv_goto (tgt := 10) hx hb dX12_reckonAll_242 (by decide +kernel) ?_
          exact ih_10_6 ((k10_4 + 1), (k10_3 + 1), k10_bk, (vp_updL k10_re k10_3.toNatClampNeg (v_se (v_ro ((u_la + 98) + (2 * k10_4)).toNatClampNeg).toNatClampNeg))) ls H locs (show Int.toNat (401 - (k10_4 + 1).toInt) < Int.toNat (401 - k10_4.toInt) from g_up (show k10_4.toInt < (k10_4 + 1).toInt by omega) (show k10_4.toInt < 401 by omega)) ⟨lv_sub hl [0, 1, 4, 5, 6] rfl, hP, hD, hS, ⟨by omega, by omega⟩, ⟨by omega, by omega⟩, i_3, by omega, fun _ => by have e9 : (k10_4 + 1).toInt.toNat = k10_4.toInt.toNat + 1 := (by omega); rw [e9]; omega⟩
        ·
          have i_43 : (v_ro ((u_la + 98) + (2 * k10_4)).toNatClampNeg).toInt = 0 := g5_neN (a := (v_ro ((u_la + 98) + (2 * k10_4)).toNatClampNeg).toInt) (b := 0) rfl (by decide +kernel) c_43
          refine lv_iload hx hb dX12_reckonAll_83 (lv_at hl 1 rfl) ?_
          refine lv_i2l (v := (v_ro (((u_la + 98) + (2 * k10_4)) + 1).toNatClampNeg).toInt64) hx hb dX12_reckonAll_85 rfl ?_
          refine lv_goto (tgt := 96) hx hb dX12_reckonAll_86 (by decide +kernel) ?_
          refine va_last hx hb hK hP hD hS 3 1 rfl rfl (i := k10_3) (x := (v_ro (((u_la + 98) + (2 * k10_4)) + 1).toNatClampNeg).toInt64) (vp_in_iff.mpr ⟨by omega, by omega⟩) dX12_reckonAll_96 ?_
          clear hP hD hS
          intro H locs hP hD hS
          refine g5_rs [(b_o, (oc12 u_th u_sa b_rf b_ro b_im b_ke u_fd b_tp u_td u_fr u_to u_so u_wo u_fa u_bd u_nc b_nl u_co b_op b_ar u_le b_pi b_pa u_pd u_od b_ws b_hw u_la b_se b_re k10_bk u_va u_su u_ce u_ho u_wy u_bt u_ps b_pt u_tg u_sn b_ip u_ic b_ah b_be b_me u_wd b_tr b_ld u_st b_wn u_id)), (b_ro, (arI G 5740 v_ro)), (b_se, (arJ G 13 v_se)), (b_re, (arJ G 400 (vp_updL k10_re k10_3.toNatClampNeg ((v_ro (((u_la + 98) + (2 * k10_4)) + 1).toNatClampNeg).toInt64))))] hP hD ?_
          clear hP hD
          intro hP hD
          refine W.eq (g2 := F0 m 97 ls []) rfl ?_
          refine lv_iinc (v := (k10_3 + 1)) (lv' := [(3, .int (k10_3 + 1)), (4, .int (k10_4 + 1)), (6, .int (v_ro (((u_la + 98) + (2 * k10_4)) + 1).toNatClampNeg)), (5, .int (v_ro ((u_la + 98) + (2 * k10_4)).toNatClampNeg)), (0, .ref b_o), (1, .int p_1), (2, .int p_2)]) hx hb dX12_reckonAll_97 hl (k := 3) rfl rfl (by decide +kernel) rfl ?_
          clear hl
          intro ls hl
          have t_45 : (k10_3 + 1).toInt = k10_3.toInt + 1 := g5_iadd (a := k10_3.toInt) (b := 1) rfl (by decide +kernel) (by omega) (by omega)
          refine lv_goto (tgt := 242) hx hb dX12_reckonAll_100 (by decide +kernel) ?_
          refine lv_goto (tgt := 10) hx hb dX12_reckonAll_242 (by decide +kernel) ?_
          exact ih_10_6 ((k10_4 + 1), (k10_3 + 1), k10_bk, (vp_updL k10_re k10_3.toNatClampNeg ((v_ro (((u_la + 98) + (2 * k10_4)) + 1).toNatClampNeg).toInt64))) ls H locs (show Int.toNat (401 - (k10_4 + 1).toInt) < Int.toNat (401 - k10_4.toInt) from g_up (show k10_4.toInt < (k10_4 + 1).toInt by omega) (show k10_4.toInt < 401 by omega)) ⟨lv_sub hl [0, 1, 4, 5, 6] rfl, hP, hD, hS, ⟨by omega, by omega⟩, ⟨by omega, by omega⟩, i_3, by omega, fun _ => by have e9 : (k10_4 + 1).toInt.toNat = k10_4.toInt.toNat + 1 := (by omega); rw [e9]; omega⟩
theorem dgX12_isSo_0 : ∀ r ∈ ([(0, (.aload_n 0, 1)), (1, (.getfield 13, 3)), (4, (.iload_n 1, 1)), (5, (.iconst 5, 1)), (6, (.iadd, 1)), (7, (.iaload, 1)), (8, (.aload_n 0, 1)), (9, (.getfield 13, 3)), (12, (.iload_n 1, 1)), (13, (.bipush 6, 2)), (15, (.iadd, 1)), (16, (.iaload, 1)), (17, (.if_icmp .ge 42, 3)), (20, (.aload_n 0, 1)), (21, (.aload_n 0, 1)), (22, (.getfield 13, 3)), (25, (.iload_n 1, 1)), (26, (.iconst 5, 1)), (27, (.iadd, 1)), (28, (.iaload, 1)), (29, (.aload_n 0, 1)), (30, (.getfield 13, 3)), (33, (.iload_n 1, 1)), (34, (.bipush 6, 2)), (36, (.iadd, 1)), (37, (.iaload, 1)), (38, (.invokevirtual 343, 3)), (41, (.aload_n 0, 1)), (42, (.getfield 326, 3)), (45, (.ifCond .ne 12, 3)), (48, (.aload_n 0, 1)), (49, (.getfield 340, 3)), (52, (.lconst 0, 1)), (53, (.lcmp, 1)), (54, (.ifCond .ne 5, 3)), (57, (.iconst 0, 1)), (58, (.ireturn, 1)), (59, (.aload_n 0, 1)), (60, (.getfield 13, 3)), (63, (.iload_n 1, 1))] : List (Nat × (Instr × Nat))), decode cX12_isSo r.1 = .ok r.2 := by decide +kernel
theorem dX12_isSo_0 : decode cX12_isSo 0 = .ok (.aload_n 0, 1) := dgX12_isSo_0 (0, (.aload_n 0, 1)) (List.mem_of_getElem? (i := 0) rfl)
theorem dX12_isSo_1 : decode cX12_isSo 1 = .ok (.getfield 13, 3) := dgX12_isSo_0 (1, (.getfield 13, 3)) (List.mem_of_getElem? (i := 1) rfl)
theorem dX12_isSo_4 : decode cX12_isSo 4 = .ok (.iload_n 1, 1) := dgX12_isSo_0 (4, (.iload_n 1, 1)) (List.mem_of_getElem? (i := 2) rfl)
theorem dX12_isSo_5 : decode cX12_isSo 5 = .ok (.iconst 5, 1) := dgX12_isSo_0 (5, (.iconst 5, 1)) (List.mem_of_getElem? (i := 3) rfl)
theorem dX12_isSo_6 : decode cX12_isSo 6 = .ok (.iadd, 1) := dgX12_isSo_0 (6, (.iadd, 1)) (List.mem_of_getElem? (i := 4) rfl)
theorem dX12_isSo_7 : decode cX12_isSo 7 = .ok (.iaload, 1) := dgX12_isSo_0 (7, (.iaload, 1)) (List.mem_of_getElem? (i := 5) rfl)
theorem dX12_isSo_8 : decode cX12_isSo 8 = .ok (.aload_n 0, 1) := dgX12_isSo_0 (8, (.aload_n 0, 1)) (List.mem_of_getElem? (i := 6) rfl)
theorem dX12_isSo_9 : decode cX12_isSo 9 = .ok (.getfield 13, 3) := dgX12_isSo_0 (9, (.getfield 13, 3)) (List.mem_of_getElem? (i := 7) rfl)
theorem dX12_isSo_12 : decode cX12_isSo 12 = .ok (.iload_n 1, 1) := dgX12_isSo_0 (12, (.iload_n 1, 1)) (List.mem_of_getElem? (i := 8) rfl)
theorem dX12_isSo_13 : decode cX12_isSo 13 = .ok (.bipush 6, 2) := dgX12_isSo_0 (13, (.bipush 6, 2)) (List.mem_of_getElem? (i := 9) rfl)
theorem dX12_isSo_15 : decode cX12_isSo 15 = .ok (.iadd, 1) := dgX12_isSo_0 (15, (.iadd, 1)) (List.mem_of_getElem? (i := 10) rfl)
theorem dX12_isSo_16 : decode cX12_isSo 16 = .ok (.iaload, 1) := dgX12_isSo_0 (16, (.iaload, 1)) (List.mem_of_getElem? (i := 11) rfl)
theorem dX12_isSo_17 : decode cX12_isSo 17 = .ok (.if_icmp .ge 42, 3) := dgX12_isSo_0 (17, (.if_icmp .ge 42, 3)) (List.mem_of_getElem? (i := 12) rfl)
theorem dX12_isSo_20 : decode cX12_isSo 20 = .ok (.aload_n 0, 1) := dgX12_isSo_0 (20, (.aload_n 0, 1)) (List.mem_of_getElem? (i := 13) rfl)
theorem dX12_isSo_21 : decode cX12_isSo 21 = .ok (.aload_n 0, 1) := dgX12_isSo_0 (21, (.aload_n 0, 1)) (List.mem_of_getElem? (i := 14) rfl)
theorem dX12_isSo_22 : decode cX12_isSo 22 = .ok (.getfield 13, 3) := dgX12_isSo_0 (22, (.getfield 13, 3)) (List.mem_of_getElem? (i := 15) rfl)
theorem dX12_isSo_25 : decode cX12_isSo 25 = .ok (.iload_n 1, 1) := dgX12_isSo_0 (25, (.iload_n 1, 1)) (List.mem_of_getElem? (i := 16) rfl)
theorem dX12_isSo_26 : decode cX12_isSo 26 = .ok (.iconst 5, 1) := dgX12_isSo_0 (26, (.iconst 5, 1)) (List.mem_of_getElem? (i := 17) rfl)
theorem dX12_isSo_27 : decode cX12_isSo 27 = .ok (.iadd, 1) := dgX12_isSo_0 (27, (.iadd, 1)) (List.mem_of_getElem? (i := 18) rfl)
theorem dX12_isSo_28 : decode cX12_isSo 28 = .ok (.iaload, 1) := dgX12_isSo_0 (28, (.iaload, 1)) (List.mem_of_getElem? (i := 19) rfl)
theorem dX12_isSo_29 : decode cX12_isSo 29 = .ok (.aload_n 0, 1) := dgX12_isSo_0 (29, (.aload_n 0, 1)) (List.mem_of_getElem? (i := 20) rfl)
theorem dX12_isSo_30 : decode cX12_isSo 30 = .ok (.getfield 13, 3) := dgX12_isSo_0 (30, (.getfield 13, 3)) (List.mem_of_getElem? (i := 21) rfl)
theorem dX12_isSo_33 : decode cX12_isSo 33 = .ok (.iload_n 1, 1) := dgX12_isSo_0 (33, (.iload_n 1, 1)) (List.mem_of_getElem? (i := 22) rfl)
theorem dX12_isSo_34 : decode cX12_isSo 34 = .ok (.bipush 6, 2) := dgX12_isSo_0 (34, (.bipush 6, 2)) (List.mem_of_getElem? (i := 23) rfl)
theorem dX12_isSo_36 : decode cX12_isSo 36 = .ok (.iadd, 1) := dgX12_isSo_0 (36, (.iadd, 1)) (List.mem_of_getElem? (i := 24) rfl)
theorem dX12_isSo_37 : decode cX12_isSo 37 = .ok (.iaload, 1) := dgX12_isSo_0 (37, (.iaload, 1)) (List.mem_of_getElem? (i := 25) rfl)
theorem dX12_isSo_38 : decode cX12_isSo 38 = .ok (.invokevirtual 343, 3) := dgX12_isSo_0 (38, (.invokevirtual 343, 3)) (List.mem_of_getElem? (i := 26) rfl)
theorem dX12_isSo_41 : decode cX12_isSo 41 = .ok (.aload_n 0, 1) := dgX12_isSo_0 (41, (.aload_n 0, 1)) (List.mem_of_getElem? (i := 27) rfl)
theorem dX12_isSo_42 : decode cX12_isSo 42 = .ok (.getfield 326, 3) := dgX12_isSo_0 (42, (.getfield 326, 3)) (List.mem_of_getElem? (i := 28) rfl)
theorem dX12_isSo_45 : decode cX12_isSo 45 = .ok (.ifCond .ne 12, 3) := dgX12_isSo_0 (45, (.ifCond .ne 12, 3)) (List.mem_of_getElem? (i := 29) rfl)
theorem dX12_isSo_48 : decode cX12_isSo 48 = .ok (.aload_n 0, 1) := dgX12_isSo_0 (48, (.aload_n 0, 1)) (List.mem_of_getElem? (i := 30) rfl)
theorem dX12_isSo_49 : decode cX12_isSo 49 = .ok (.getfield 340, 3) := dgX12_isSo_0 (49, (.getfield 340, 3)) (List.mem_of_getElem? (i := 31) rfl)
theorem dX12_isSo_52 : decode cX12_isSo 52 = .ok (.lconst 0, 1) := dgX12_isSo_0 (52, (.lconst 0, 1)) (List.mem_of_getElem? (i := 32) rfl)
theorem dX12_isSo_53 : decode cX12_isSo 53 = .ok (.lcmp, 1) := dgX12_isSo_0 (53, (.lcmp, 1)) (List.mem_of_getElem? (i := 33) rfl)
theorem dX12_isSo_54 : decode cX12_isSo 54 = .ok (.ifCond .ne 5, 3) := dgX12_isSo_0 (54, (.ifCond .ne 5, 3)) (List.mem_of_getElem? (i := 34) rfl)
theorem dX12_isSo_57 : decode cX12_isSo 57 = .ok (.iconst 0, 1) := dgX12_isSo_0 (57, (.iconst 0, 1)) (List.mem_of_getElem? (i := 35) rfl)
theorem dX12_isSo_58 : decode cX12_isSo 58 = .ok (.ireturn, 1) := dgX12_isSo_0 (58, (.ireturn, 1)) (List.mem_of_getElem? (i := 36) rfl)
theorem dX12_isSo_59 : decode cX12_isSo 59 = .ok (.aload_n 0, 1) := dgX12_isSo_0 (59, (.aload_n 0, 1)) (List.mem_of_getElem? (i := 37) rfl)
theorem dX12_isSo_60 : decode cX12_isSo 60 = .ok (.getfield 13, 3) := dgX12_isSo_0 (60, (.getfield 13, 3)) (List.mem_of_getElem? (i := 38) rfl)
theorem dX12_isSo_63 : decode cX12_isSo 63 = .ok (.iload_n 1, 1) := dgX12_isSo_0 (63, (.iload_n 1, 1)) (List.mem_of_getElem? (i := 39) rfl)
theorem dgX12_isSo_1 : ∀ r ∈ ([(64, (.iaload, 1)), (65, (.iconst 2, 1)), (66, (.if_icmp .ge 44, 3)), (69, (.aload_n 0, 1)), (70, (.aload_n 0, 1)), (71, (.getfield 13, 3)), (74, (.iload_n 1, 1)), (75, (.iconst 3, 1)), (76, (.iadd, 1)), (77, (.iaload, 1)), (78, (.aload_n 0, 1)), (79, (.getfield 13, 3)), (82, (.iload_n 1, 1)), (83, (.iconst 4, 1)), (84, (.iadd, 1)), (85, (.iaload, 1)), (86, (.invokevirtual 343, 3)), (89, (.aload_n 0, 1)), (90, (.aload_n 0, 1)), (91, (.getfield 340, 3)), (94, (.putfield 346, 3)), (97, (.aload_n 0, 1)), (98, (.getfield 326, 3)), (101, (.ifCond .ne 7, 3)), (104, (.iconst 1, 1)), (105, (.goto 4, 3)), (108, (.iconst 0, 1)), (109, (.ireturn, 1)), (110, (.iconst 1, 1)), (111, (.ireturn, 1))] : List (Nat × (Instr × Nat))), decode cX12_isSo r.1 = .ok r.2 := by decide +kernel
theorem dX12_isSo_64 : decode cX12_isSo 64 = .ok (.iaload, 1) := dgX12_isSo_1 (64, (.iaload, 1)) (List.mem_of_getElem? (i := 0) rfl)
theorem dX12_isSo_65 : decode cX12_isSo 65 = .ok (.iconst 2, 1) := dgX12_isSo_1 (65, (.iconst 2, 1)) (List.mem_of_getElem? (i := 1) rfl)
theorem dX12_isSo_66 : decode cX12_isSo 66 = .ok (.if_icmp .ge 44, 3) := dgX12_isSo_1 (66, (.if_icmp .ge 44, 3)) (List.mem_of_getElem? (i := 2) rfl)
theorem dX12_isSo_69 : decode cX12_isSo 69 = .ok (.aload_n 0, 1) := dgX12_isSo_1 (69, (.aload_n 0, 1)) (List.mem_of_getElem? (i := 3) rfl)
theorem dX12_isSo_70 : decode cX12_isSo 70 = .ok (.aload_n 0, 1) := dgX12_isSo_1 (70, (.aload_n 0, 1)) (List.mem_of_getElem? (i := 4) rfl)
theorem dX12_isSo_71 : decode cX12_isSo 71 = .ok (.getfield 13, 3) := dgX12_isSo_1 (71, (.getfield 13, 3)) (List.mem_of_getElem? (i := 5) rfl)
theorem dX12_isSo_74 : decode cX12_isSo 74 = .ok (.iload_n 1, 1) := dgX12_isSo_1 (74, (.iload_n 1, 1)) (List.mem_of_getElem? (i := 6) rfl)
theorem dX12_isSo_75 : decode cX12_isSo 75 = .ok (.iconst 3, 1) := dgX12_isSo_1 (75, (.iconst 3, 1)) (List.mem_of_getElem? (i := 7) rfl)
theorem dX12_isSo_76 : decode cX12_isSo 76 = .ok (.iadd, 1) := dgX12_isSo_1 (76, (.iadd, 1)) (List.mem_of_getElem? (i := 8) rfl)
theorem dX12_isSo_77 : decode cX12_isSo 77 = .ok (.iaload, 1) := dgX12_isSo_1 (77, (.iaload, 1)) (List.mem_of_getElem? (i := 9) rfl)
theorem dX12_isSo_78 : decode cX12_isSo 78 = .ok (.aload_n 0, 1) := dgX12_isSo_1 (78, (.aload_n 0, 1)) (List.mem_of_getElem? (i := 10) rfl)
theorem dX12_isSo_79 : decode cX12_isSo 79 = .ok (.getfield 13, 3) := dgX12_isSo_1 (79, (.getfield 13, 3)) (List.mem_of_getElem? (i := 11) rfl)
theorem dX12_isSo_82 : decode cX12_isSo 82 = .ok (.iload_n 1, 1) := dgX12_isSo_1 (82, (.iload_n 1, 1)) (List.mem_of_getElem? (i := 12) rfl)
theorem dX12_isSo_83 : decode cX12_isSo 83 = .ok (.iconst 4, 1) := dgX12_isSo_1 (83, (.iconst 4, 1)) (List.mem_of_getElem? (i := 13) rfl)
theorem dX12_isSo_84 : decode cX12_isSo 84 = .ok (.iadd, 1) := dgX12_isSo_1 (84, (.iadd, 1)) (List.mem_of_getElem? (i := 14) rfl)
theorem dX12_isSo_85 : decode cX12_isSo 85 = .ok (.iaload, 1) := dgX12_isSo_1 (85, (.iaload, 1)) (List.mem_of_getElem? (i := 15) rfl)
theorem dX12_isSo_86 : decode cX12_isSo 86 = .ok (.invokevirtual 343, 3) := dgX12_isSo_1 (86, (.invokevirtual 343, 3)) (List.mem_of_getElem? (i := 16) rfl)
theorem dX12_isSo_89 : decode cX12_isSo 89 = .ok (.aload_n 0, 1) := dgX12_isSo_1 (89, (.aload_n 0, 1)) (List.mem_of_getElem? (i := 17) rfl)
theorem dX12_isSo_90 : decode cX12_isSo 90 = .ok (.aload_n 0, 1) := dgX12_isSo_1 (90, (.aload_n 0, 1)) (List.mem_of_getElem? (i := 18) rfl)
theorem dX12_isSo_91 : decode cX12_isSo 91 = .ok (.getfield 340, 3) := dgX12_isSo_1 (91, (.getfield 340, 3)) (List.mem_of_getElem? (i := 19) rfl)
theorem dX12_isSo_94 : decode cX12_isSo 94 = .ok (.putfield 346, 3) := dgX12_isSo_1 (94, (.putfield 346, 3)) (List.mem_of_getElem? (i := 20) rfl)
theorem dX12_isSo_97 : decode cX12_isSo 97 = .ok (.aload_n 0, 1) := dgX12_isSo_1 (97, (.aload_n 0, 1)) (List.mem_of_getElem? (i := 21) rfl)
theorem dX12_isSo_98 : decode cX12_isSo 98 = .ok (.getfield 326, 3) := dgX12_isSo_1 (98, (.getfield 326, 3)) (List.mem_of_getElem? (i := 22) rfl)
theorem dX12_isSo_101 : decode cX12_isSo 101 = .ok (.ifCond .ne 7, 3) := dgX12_isSo_1 (101, (.ifCond .ne 7, 3)) (List.mem_of_getElem? (i := 23) rfl)
theorem dX12_isSo_104 : decode cX12_isSo 104 = .ok (.iconst 1, 1) := dgX12_isSo_1 (104, (.iconst 1, 1)) (List.mem_of_getElem? (i := 24) rfl)
theorem dX12_isSo_105 : decode cX12_isSo 105 = .ok (.goto 4, 3) := dgX12_isSo_1 (105, (.goto 4, 3)) (List.mem_of_getElem? (i := 25) rfl)
theorem dX12_isSo_108 : decode cX12_isSo 108 = .ok (.iconst 0, 1) := dgX12_isSo_1 (108, (.iconst 0, 1)) (List.mem_of_getElem? (i := 26) rfl)
theorem dX12_isSo_109 : decode cX12_isSo 109 = .ok (.ireturn, 1) := dgX12_isSo_1 (109, (.ireturn, 1)) (List.mem_of_getElem? (i := 27) rfl)
theorem dX12_isSo_110 : decode cX12_isSo 110 = .ok (.iconst 1, 1) := dgX12_isSo_1 (110, (.iconst 1, 1)) (List.mem_of_getElem? (i := 28) rfl)
theorem dX12_isSo_111 : decode cX12_isSo 111 = .ok (.ireturn, 1) := dgX12_isSo_1 (111, (.ireturn, 1)) (List.mem_of_getElem? (i := 29) rfl)
theorem ml_X12_343 : Cond.methodLink RX12 343 yX12_reckonAll ∈ tblG := tg 1630 (by decide +kernel) (by decide +kernel)
theorem im_X12_reckonAll : Cond.instanceMethod yX12_reckonAll ∈ tblG := tg 1632 (by decide +kernel) (by decide +kernel)
theorem se_X12_reckonAll : Cond.selects RX12 yX12_reckonAll yX12_reckonAll ∈ tblG := tg 66 (by decide +kernel) (by decide +kernel)
theorem cd_X12_reckonAll : Cond.code yX12_reckonAll cX12_reckonAll 7 none ∈ tblG := tg 1633 (by decide +kernel) (by decide +kernel)
theorem gW_X12_reckonAll : GoodIn tblG (wsG yX12_reckonAll cX12_reckonAll 7 none) := tgi cd_X12_reckonAll
theorem gV_X12_343 : GoodIn tblG (wsV RX12 343 RX12 yX12_reckonAll (wsG yX12_reckonAll cX12_reckonAll 7 none)) := tgV ml_X12_343 im_X12_reckonAll se_X12_reckonAll ini_X12 gW_X12_reckonAll
theorem hv_X12_reckonAll : yX12_reckonAll.cls = RX12 ∧ yX12_reckonAll.cls ≠ "java/lang/invoke/MethodHandle" ∧ yX12_reckonAll.cls ≠ "java/lang/invoke/VarHandle" ∧ (parseMethodDescriptor yX12_reckonAll.desc).map (fun d => d.parameters.length) = some 2 := by decide +kernel
theorem fl_X12_346 : Cond.fieldLink RX12 346 "LateGlassModel" "sum" "J" ∈ tblG := tg 1235 (by decide +kernel) (by decide +kernel)
set_option maxHeartbeats 4000000 in
set_option maxRecDepth 100000 in
theorem n_isSo (l : Launch) (G : g5_G) (b_o b_ro b_se b_re b_rf b_im b_ke b_tp b_nl b_op b_ar b_pi b_pa b_ws b_hw b_pt b_ip b_ah b_be b_me b_tr b_ld b_wn : Nat) (sz : Nat) (u_th : Int32) (u_sa : Int32) (u_fd : Int32) (u_td : Int32) (u_fr : Int32) (u_to : Int32) (u_so : Int32) (u_fa : Int32) (u_bd : Int32) (u_nc : Int32) (u_co : Int32) (u_le : Int32) (u_pd : Int32) (u_od : Int32) (u_la : Int32) (u_bk : Int32) (u_ce : Int32) (u_ho : Int32) (u_wy : Int32) (u_bt : Int32) (u_ps : Int32) (u_tg : Int32) (u_sn : Int32) (u_ic : Int32) (u_wd : Int32) (u_id : Int32) (p_1 : Int32) (u_wo : Int64) (u_va : Int64) (u_su : Int64) (u_st : Int64) (v_ro : Nat → Int32) (v_se : Nat → Int64) (v_re : Nat → Int64) (h_u_td : 0 ≤ u_td.toInt ∧ u_td.toInt ≤ 400) (h_u_fr : 0 ≤ u_fr.toInt ∧ u_fr.toInt ≤ 400) (h_u_to : 0 ≤ u_to.toInt ∧ u_to.toInt ≤ 400) (h_u_bd : 0 ≤ u_bd.toInt ∧ u_bd.toInt ≤ 1) (h_u_nc : 0 ≤ u_nc.toInt ∧ u_nc.toInt ≤ 12) (h_u_co : 0 ≤ u_co.toInt ∧ u_co.toInt ≤ 400) (h_u_pd : 0 ≤ u_pd.toInt ∧ u_pd.toInt ≤ 400) (h_u_la : 0 ≤ u_la.toInt ∧ u_la.toInt ≤ 4840) (h_u_bk : 0 ≤ u_bk.toInt ∧ u_bk.toInt ≤ 1) (h_u_ce : 0 ≤ u_ce.toInt ∧ u_ce.toInt ≤ 63) (h_u_ho : 0 ≤ u_ho.toInt ∧ u_ho.toInt ≤ 23) (h_u_wy : 0 ≤ u_wy.toInt ∧ u_wy.toInt ≤ 3) (h_u_bt : 0 ≤ u_bt.toInt ∧ u_bt.toInt ≤ 1000000) (h_u_ps : 0 ≤ u_ps.toInt ∧ u_ps.toInt ≤ 200) (h_u_ic : 0 ≤ u_ic.toInt ∧ u_ic.toInt ≤ 1) (h_u_id : 0 ≤ u_id.toInt ∧ u_id.toInt ≤ 1) (h_p_1 : 0 ≤ p_1.toInt ∧ p_1.toInt ≤ 5730) (r_ro : MI v_ro) (e_cl : clOK v_ro u_la.toNatClampNeg p_1.toNatClampNeg) : Met l yX12_isSo (wsG yX12_isSo cX12_isSo 2 (some .boolean)) ({ frames := 2, cells := 0, slots := 0, locals := 51 }) (va_Pc [.ref b_o, .int p_1] (g5_P G [(b_o, (oc12 u_th u_sa b_rf b_ro b_im b_ke u_fd b_tp u_td u_fr u_to u_so u_wo u_fa u_bd u_nc b_nl u_co b_op b_ar u_le b_pi b_pa u_pd u_od b_ws b_hw u_la b_se b_re u_bk u_va u_su u_ce u_ho u_wy u_bt u_ps b_pt u_tg u_sn b_ip u_ic b_ah b_be b_me u_wd b_tr b_ld u_st b_wn u_id)), (b_ro, (arI G 5740 v_ro)), (b_se, (arJ G 13 v_se)), (b_re, (arJ G 400 v_re))] sz)) (va_Qi (fun (r : Int32) (u : va_W) => (∃ (o_r : Int32) (o_bk : Int32) (o_va : Int64) (o_su : Int64) (o_re : Nat → Int64), (0 ≤ o_r.toInt ∧ o_r.toInt ≤ 1) ∧ (0 ≤ o_bk.toInt ∧ o_bk.toInt ≤ 1) ∧ (r = o_r) ∧ (u = [(b_o, (oc12 u_th u_sa b_rf b_ro b_im b_ke u_fd b_tp u_td u_fr u_to u_so u_wo u_fa u_bd u_nc b_nl u_co b_op b_ar u_le b_pi b_pa u_pd u_od b_ws b_hw u_la b_se b_re o_bk o_va o_su u_ce u_ho u_wy u_bt u_ps b_pt u_tg u_sn b_ip u_ic b_ah b_be b_me u_wd b_tr b_ld u_st b_wn u_id)), (b_ro, (arI G 5740 v_ro)), (b_se, (arJ G 13 v_se)), (b_re, (arJ G 400 o_re))]))) (g5_B G (va_A [(b_o, (oc12 u_th u_sa b_rf b_ro b_im b_ke u_fd b_tp u_td u_fr u_to u_so u_wo u_fa u_bd u_nc b_nl u_co b_op b_ar u_le b_pi b_pa u_pd u_od b_ws b_hw u_la b_se b_re u_bk u_va u_su u_ce u_ho u_wy u_bt u_ps b_pt u_tg u_sn b_ip u_ic b_ah b_be b_me u_wd b_tr b_ld u_st b_wn u_id)), (b_ro, (arI G 5740 v_ro)), (b_se, (arJ G 13 v_se)), (b_re, (arJ G 400 v_re))] sz)) (va_A [(b_o, (oc12 u_th u_sa b_rf b_ro b_im b_ke u_fd b_tp u_td u_fr u_to u_so u_wo u_fa u_bd u_nc b_nl u_co b_op b_ar u_le b_pi b_pa u_pd u_od b_ws b_hw u_la b_se b_re u_bk u_va u_su u_ce u_ho u_wy u_bt u_ps b_pt u_tg u_sn b_ip u_ic b_ah b_be b_me u_wd b_tr b_ld u_st b_wn u_id)), (b_ro, (arI G 5740 v_ro)), (b_se, (arJ G 13 v_se)), (b_re, (arJ G 400 v_re))] sz)) 0 0 (va_A [(b_o, (oc12 u_th u_sa b_rf b_ro b_im b_ke u_fd b_tp u_td u_fr u_to u_so u_wo u_fa u_bd u_nc b_nl u_co b_op b_ar u_le b_pi b_pa u_pd u_od b_ws b_hw u_la b_se b_re u_bk u_va u_su u_ce u_ho u_wy u_bt u_ps b_pt u_tg u_sn b_ip u_ic b_ah b_be b_me u_wd b_tr b_ld u_st b_wn u_id)), (b_ro, (arI G 5740 v_ro)), (b_se, (arJ G 13 v_se)), (b_re, (arJ G 400 v_re))] sz) := by
  refine Met.ofW (cc := cX12_isSo) (maxL := 2) (ret := (some .boolean)) (by decide +kernel) rfl ?_
  intro p e s m args below meth c s₁ B hml hv
  obtain ⟨rfl, hsz, hP, hK, hD0, hN, hT⟩ := hv
  have hx := B.exec
  have hb := B.bytes
  have hr := B.returns
  have hts : ∀ w ∈ tblG, w.before _ s = true := fun w h => atoms_spec (ws := (wsG yX12_isSo cX12_isSo 2 (some .boolean))) B.pre w (List.mem_cons_of_mem _ h)
  have hown : s.vm.findClass RX12 = some m.cls := findClass_of_methodNamed B.named
  have hlocks := B.notSynchronized
  subst hsz
  have hD := hD0.self (sz := s.heap.size)
  generalize hAe : va_A [(b_o, (oc12 u_th u_sa b_rf b_ro b_im b_ke u_fd b_tp u_td u_fr u_to u_so u_wo u_fa u_bd u_nc b_nl u_co b_op b_ar u_le b_pi b_pa u_pd u_od b_ws b_hw u_la b_se b_re u_bk u_va u_su u_ce u_ho u_wy u_bt u_ps b_pt u_tg u_sn b_ip u_ic b_ah b_be b_me u_wd b_tr b_ld u_st b_wn u_id)), (b_ro, (arI G 5740 v_ro)), (b_se, (arJ G 13 v_se)), (b_re, (arJ G 400 v_re))] s.heap.size = A at hD hT ⊢
  have hA : ∀ q : Nat, s.heap.size ≤ q → A q := fun q h => by rw [← hAe]; exact Or.inr h
  have hS : va_S A s.heap s.heap [] := va_S.rf
  replace hP : va_P G.1 vwCl [(b_o, (oc12 u_th u_sa b_rf b_ro b_im b_ke u_fd b_tp u_td u_fr u_to u_so u_wo u_fa u_bd u_nc b_nl u_co b_op b_ar u_le b_pi b_pa u_pd u_od b_ws b_hw u_la b_se b_re u_bk u_va u_su u_ce u_ho u_wy u_bt u_ps b_pt u_tg u_sn b_ip u_ic b_ah b_be b_me u_wd b_tr b_ld u_st b_wn u_id)), (b_ro, (arI G 5740 v_ro)), (b_se, (arJ G 13 v_se)), (b_re, (arJ G 400 v_re))] s.heap := hP
  have hl := lv_entry ([.ref b_o, .int p_1]) (n := 2) (Nat.le_of_ble_eq_true rfl)
  rw [lg_entry_eq]
  generalize (lg_sl ([.ref b_o, .int p_1]) ++ List.replicate (2 - (lg_sl ([.ref b_o, .int p_1])).length) Slot.unset).toArray = ls at hl ⊢
  replace hl : lv_has ls 2 [(0, .ref b_o), (1, .int p_1)] := hl
  have z3 : (p_1 + 3).toNatClampNeg = p_1.toNatClampNeg + 3 := g_clk (n := 3) (by decide +kernel) (by omega) (by omega) (by decide +kernel)
  have z4 : (p_1 + 4).toNatClampNeg = p_1.toNatClampNeg + 4 := g_clk (n := 4) (by decide +kernel) (by omega) (by omega) (by decide +kernel)
  have z5 : (p_1 + 5).toNatClampNeg = p_1.toNatClampNeg + 5 := g_clk (n := 5) (by decide +kernel) (by omega) (by omega) (by decide +kernel)
  have z6 : (p_1 + 6).toNatClampNeg = p_1.toNatClampNeg + 6 := g_clk (n := 6) (by decide +kernel) (by omega) (by omega) (by decide +kernel)
  obtain ⟨c0, c3, c4, c5, c6, d1, d2⟩ := id e_cl
  rw [← z3] at c3 d2
  rw [← z4] at c4 d2
  rw [← z5] at c5 d1
  rw [← z6] at c6 d1
  refine lv_aload_n hx hb dX12_isSo_0 rfl (lv_at hl 0 rfl) ?_
  refine va_get (D := G.1) (ci := 12) (v := .ref b_ro) (C := RX12) (T := TX12) (N := 52) hx hb hts inG_X12 hown hK hP 0 rfl rfl 3 (by decide +kernel) (hts _ fl_X12_13) (fun _ h9 => h9) rfl dX12_isSo_1 ?_
  refine lv_iload_n hx hb dX12_isSo_4 rfl (lv_at hl 1 rfl) ?_
  refine lv_iconst (v := 5) hx hb dX12_isSo_5 (by decide +kernel) ?_
  refine W.eq (g2 := F0 m 6 ls [.int 5, .int p_1, .ref b_ro]) rfl ?_
  refine lv_iadd hx hb dX12_isSo_6 ?_
  have t_1 : (p_1 + 5).toInt = p_1.toInt + 5 := g5_iadd (a := p_1.toInt) (b := 5) (by rfl) (by decide +kernel) (by omega) (by omega)
  refine va_iald hx hb hK hP 1 0 rfl rfl (i := (p_1 + 5)) (vp_in_iff.mpr ⟨by omega, by omega⟩) dX12_isSo_7 ?_
  refine lv_aload_n hx hb dX12_isSo_8 rfl (lv_at hl 0 rfl) ?_
  refine va_get (D := G.1) (ci := 12) (v := .ref b_ro) (C := RX12) (T := TX12) (N := 52) hx hb hts inG_X12 hown hK hP 0 rfl rfl 3 (by decide +kernel) (hts _ fl_X12_13) (fun _ h9 => h9) rfl dX12_isSo_9 ?_
  refine lv_iload_n hx hb dX12_isSo_12 rfl (lv_at hl 1 rfl) ?_
  refine W.eq (g2 := F0 m 13 ls [.int p_1, .ref b_ro, .int (v_ro (p_1 + 5).toNatClampNeg)]) rfl ?_
  refine lv_bipush (v := 6) hx hb dX12_isSo_13 (by decide +kernel) ?_
  refine lv_iadd hx hb dX12_isSo_15 ?_
  have t_2 : (p_1 + 6).toInt = p_1.toInt + 6 := g5_iadd (a := p_1.toInt) (b := 6) (by rfl) (by decide +kernel) (by omega) (by omega)
  refine va_iald hx hb hK hP 1 0 rfl rfl (i := (p_1 + 6)) (vp_in_iff.mpr ⟨by omega, by omega⟩) dX12_isSo_16 ?_
  refine lv_icmp_ge (tgt := 59) hx hb dX12_isSo_17 (by decide +kernel) (fun c_3 => ?_) (fun c_3 => ?_)
  ·
    have i_3 : (v_ro (p_1 + 5).toNatClampNeg).toInt ≥ (v_ro (p_1 + 6).toNatClampNeg).toInt := g5_ge (a := (v_ro (p_1 + 5).toNatClampNeg).toInt) (b := (v_ro (p_1 + 6).toNatClampNeg).toInt) rfl rfl c_3
    refine lv_aload_n hx hb dX12_isSo_59 rfl (lv_at hl 0 rfl) ?_
    refine va_get (D := G.1) (ci := 12) (v := .ref b_ro) (C := RX12) (T := TX12) (N := 52) hx hb hts inG_X12 hown hK hP 0 rfl rfl 3 (by decide +kernel) (hts _ fl_X12_13) (fun _ h9 => h9) rfl dX12_isSo_60 ?_
    refine lv_iload_n hx hb dX12_isSo_63 rfl (lv_at hl 1 rfl) ?_
    refine va_iald hx hb hK hP 1 0 rfl rfl (i := p_1) (vp_in_iff.mpr ⟨by omega, by omega⟩) dX12_isSo_64 ?_
    refine W.eq (g2 := F0 m 65 ls [.int (v_ro p_1.toNatClampNeg)]) rfl ?_
    refine lv_iconst (v := 2) hx hb dX12_isSo_65 (by decide +kernel) ?_
    refine lv_icmp_ge (tgt := 110) hx hb dX12_isSo_66 (by decide +kernel) (fun c_4 => ?_) (fun c_4 => ?_)
    ·
      have i_4 : (v_ro p_1.toNatClampNeg).toInt ≥ 2 := g5_ge (a := (v_ro p_1.toNatClampNeg).toInt) (b := 2) rfl (by decide +kernel) c_4
      refine lv_iconst (v := 1) hx hb dX12_isSo_110 (by decide +kernel) ?_
      exact W.zret (v := 1) hx hb hr rfl (fun t ht hW => ⟨⟨1, [(b_o, (oc12 u_th u_sa b_rf b_ro b_im b_ke u_fd b_tp u_td u_fr u_to u_so u_wo u_fa u_bd u_nc b_nl u_co b_op b_ar u_le b_pi b_pa u_pd u_od b_ws b_hw u_la b_se b_re u_bk u_va u_su u_ce u_ho u_wy u_bt u_ps b_pt u_tg u_sn b_ip u_ic b_ah b_be b_me u_wd b_tr b_ld u_st b_wn u_id)), (b_ro, (arI G 5740 v_ro)), (b_se, (arJ G 13 v_se)), (b_re, (arJ G 400 v_re))], rfl, ⟨1, u_bk, u_va, u_su, v_re, ⟨by have zc_o_r : (1 : Int32).toInt = 1 := (by decide +kernel); omega, by have zc_o_r : (1 : Int32).toInt = 1 := (by decide +kernel); omega⟩, h_u_bk, rfl, rfl⟩, by rw [ht]; exact hP.sub [0, 1, 2, 3] rfl, hD.sub [0, 1, 2, 3] (by decide +kernel) rfl⟩, hS.F ht⟩) hS.2.2 dX12_isSo_111
    ·
      have i_4 : (v_ro p_1.toNatClampNeg).toInt < 2 := g5_geN (a := (v_ro p_1.toNatClampNeg).toInt) (b := 2) rfl (by decide +kernel) c_4
      refine lv_aload_n hx hb dX12_isSo_69 rfl (lv_at hl 0 rfl) ?_
      refine lv_aload_n hx hb dX12_isSo_70 rfl (lv_at hl 0 rfl) ?_
      refine va_get (D := G.1) (ci := 12) (v := .ref b_ro) (C := RX12) (T := TX12) (N := 52) hx hb hts inG_X12 hown hK hP 0 rfl rfl 3 (by decide +kernel) (hts _ fl_X12_13) (fun _ h9 => h9) rfl dX12_isSo_71 ?_
      refine lv_iload_n hx hb dX12_isSo_74 rfl (lv_at hl 1 rfl) ?_
      refine W.eq (g2 := F0 m 75 ls [.int p_1, .ref b_ro, .ref b_o]) rfl ?_
      refine lv_iconst (v := 3) hx hb dX12_isSo_75 (by decide +kernel) ?_
      refine lv_iadd hx hb dX12_isSo_76 ?_
      have t_5 : (p_1 + 3).toInt = p_1.toInt + 3 := g5_iadd (a := p_1.toInt) (b := 3) (by rfl) (by decide +kernel) (by omega) (by omega)
      refine va_iald hx hb hK hP 1 0 rfl rfl (i := (p_1 + 3)) (vp_in_iff.mpr ⟨by omega, by omega⟩) dX12_isSo_77 ?_
      refine lv_aload_n hx hb dX12_isSo_78 rfl (lv_at hl 0 rfl) ?_
      refine va_get (D := G.1) (ci := 12) (v := .ref b_ro) (C := RX12) (T := TX12) (N := 52) hx hb hts inG_X12 hown hK hP 0 rfl rfl 3 (by decide +kernel) (hts _ fl_X12_13) (fun _ h9 => h9) rfl dX12_isSo_79 ?_
      refine W.eq (g2 := F0 m 82 ls [.ref b_ro, .int (v_ro (p_1 + 3).toNatClampNeg), .ref b_o]) rfl ?_
      refine lv_iload_n hx hb dX12_isSo_82 rfl (lv_at hl 1 rfl) ?_
      refine lv_iconst (v := 4) hx hb dX12_isSo_83 (by decide +kernel) ?_
      refine lv_iadd hx hb dX12_isSo_84 ?_
      have t_6 : (p_1 + 4).toInt = p_1.toInt + 4 := g5_iadd (a := p_1.toInt) (b := 4) (by rfl) (by decide +kernel) (by omega) (by omega)
      refine va_iald hx hb hK hP 1 0 rfl rfl (i := (p_1 + 4)) (vp_in_iff.mpr ⟨by omega, by omega⟩) dX12_isSo_85 ?_
      obtain ⟨hPc, hDc, hFc⟩ := g5_sub3 (wc := [(b_o, (oc12 u_th u_sa b_rf b_ro b_im b_ke u_fd b_tp u_td u_fr u_to u_so u_wo u_fa u_bd u_nc b_nl u_co b_op b_ar u_le b_pi b_pa u_pd u_od b_ws b_hw u_la b_se b_re u_bk u_va u_su u_ce u_ho u_wy u_bt u_ps b_pt u_tg u_sn b_ip u_ic b_ah b_be b_me u_wd b_tr b_ld u_st b_wn u_id)), (b_ro, (arI G 5740 v_ro)), (b_se, (arJ G 13 v_se)), (b_re, (arJ G 400 v_re))]) hP hD hS hA [0, 1, 2, 3] (by decide +kernel) rfl
      refine va_callv (va_runV (As := [.int (v_ro (p_1 + 3).toNatClampNeg), .int (v_ro (p_1 + 4).toNatClampNeg)]) (rest := []) ⟨hx, hb, hml, hown, hts⟩ (n_reckonAll l G b_o b_ro b_se b_re b_rf b_im b_ke b_tp b_nl b_op b_ar b_pi b_pa b_ws b_hw b_pt b_ip b_ah b_be b_me b_tr b_ld b_wn s.heap.size u_th u_sa u_fd u_td u_fr u_to u_so u_fa u_bd u_nc u_co u_le u_pd u_od u_la u_bk u_ce u_ho u_wy u_bt u_ps u_tg u_sn u_ic u_wd u_id (v_ro (p_1 + 3).toNatClampNeg) (v_ro (p_1 + 4).toNatClampNeg) u_wo u_va u_su u_st v_ro v_se v_re h_u_td h_u_fr h_u_to h_u_bd h_u_nc h_u_co h_u_pd h_u_la h_u_bk h_u_ce h_u_ho h_u_wy h_u_bt h_u_ps h_u_ic h_u_id ⟨by omega, by omega⟩ ⟨by omega, by omega⟩ (r_ro) (d2 (by omega))) (cwV 2 hts gV_X12_343 rfl rfl rfl hv_X12_reckonAll ⟨Nat.le_of_ble_eq_true rfl, Nat.le_of_ble_eq_true rfl⟩) (g5_preV hPc hK hDc hN hT hS hFc (ci := 12) (q0 := 0) rfl rfl) rfl rfl hl.1 rfl (lv_room (Nat.le_of_ble_eq_true rfl)) dX12_isSo_86 ⟨Nat.le_of_ble_eq_true rfl, Nat.le_of_ble_eq_true rfl⟩) hS (fun q _ h => hFc q h) hFc (fun u t H locs ht hvm hw hB hz1 hk1 hS => ?_)
      obtain ⟨hP1, hD1⟩ := hB
      have hP1 := g5_ht ht hP1
      obtain ⟨z8, z9, z10, (i_7 : 0 ≤ z8.toInt ∧ z8.toInt ≤ 1), rfl⟩ := hw
      have hJ9 := va_join (wr := []) hP hD [0, 1, 2, 3] [] rfl rfl (by decide +kernel) (by decide +kernel) hk1 hFc hP1 hD1
      clear hP hD hPc hDc hFc ht hvm hz1 hk1 hP1 hD1
      obtain ⟨hP, hD⟩ := hJ9
      refine g5_rs [(b_o, (oc12 u_th u_sa b_rf b_ro b_im b_ke u_fd b_tp u_td u_fr u_to u_so u_wo u_fa u_bd u_nc b_nl u_co b_op b_ar u_le b_pi b_pa u_pd u_od b_ws b_hw u_la b_se b_re z8 z9 u_su u_ce u_ho u_wy u_bt u_ps b_pt u_tg u_sn b_ip u_ic b_ah b_be b_me u_wd b_tr b_ld u_st b_wn u_id)), (b_ro, (arI G 5740 v_ro)), (b_se, (arJ G 13 v_se)), (b_re, (arJ G 400 z10))] hP hD ?_
      clear hP hD
      intro hP hD
      refine W.eq (g2 := F0 m 89 ls []) rfl ?_
      refine lv_aload_n hx hb dX12_isSo_89 rfl (lv_at hl 0 rfl) ?_
      refine lv_aload_n hx hb dX12_isSo_90 rfl (lv_at hl 0 rfl) ?_
      refine va_get (D := G.1) (ci := 12) (v := .long z9) (C := RX12) (T := TX12) (N := 52) hx hb hts inG_X12 hown hK hP 0 rfl rfl 31 (by decide +kernel) (hts _ fl_X12_340) (fun _ h9 => h9) rfl dX12_isSo_91 ?_
      refine va_put (D := G.1) (ci := 12) (v := .long z9) (ty := .long) (C := RX12) (T := TX12) (N := 52) hx hb hts inG_X12 tyX12 tyX12_ok nmX12 hown hK hP hD hS 0 rfl rfl 32 (by decide +kernel) (hts _ fl_X12_346) (fun _ h9 => h9) rfl (by decide +kernel) rfl rfl (Nat.le_of_ble_eq_true rfl) dX12_isSo_94 ?_
      clear hP hD hS
      intro H locs hP hD hS
      refine g5_rs [(b_o, (oc12 u_th u_sa b_rf b_ro b_im b_ke u_fd b_tp u_td u_fr u_to u_so u_wo u_fa u_bd u_nc b_nl u_co b_op b_ar u_le b_pi b_pa u_pd u_od b_ws b_hw u_la b_se b_re z8 z9 z9 u_ce u_ho u_wy u_bt u_ps b_pt u_tg u_sn b_ip u_ic b_ah b_be b_me u_wd b_tr b_ld u_st b_wn u_id)), (b_ro, (arI G 5740 v_ro)), (b_se, (arJ G 13 v_se)), (b_re, (arJ G 400 z10))] hP hD ?_
      clear hP hD
      intro hP hD
      refine lv_aload_n hx hb dX12_isSo_97 rfl (lv_at hl 0 rfl) ?_
      refine W.eq (g2 := F0 m 98 ls [.ref b_o]) rfl ?_
      refine va_get (D := G.1) (ci := 12) (v := .int z8) (C := RX12) (T := TX12) (N := 52) hx hb hts inG_X12 hown hK hP 0 rfl rfl 30 (by decide +kernel) (hts _ fl_X12_326) (fun _ h9 => h9) rfl dX12_isSo_98 ?_
      refine lv_if_ne (tgt := 108) hx hb dX12_isSo_101 (by decide +kernel) (fun c_11 => ?_) (fun c_11 => ?_)
      ·
        have n_11 : gNe (z8.toInt) (0) := g5_ne (a := z8.toInt) (b := 0) rfl (by decide +kernel) c_11
        have i_11 : z8.toInt ≥ 1 := by have z := g5_ne (a := z8.toInt) (b := 0) (by rfl) (by decide +kernel) c_11; omega
        refine lv_iconst (v := 0) hx hb dX12_isSo_108 (by decide +kernel) ?_
        exact W.zret (v := 0) hx hb hr rfl (fun t ht hW => ⟨⟨0, [(b_o, (oc12 u_th u_sa b_rf b_ro b_im b_ke u_fd b_tp u_td u_fr u_to u_so u_wo u_fa u_bd u_nc b_nl u_co b_op b_ar u_le b_pi b_pa u_pd u_od b_ws b_hw u_la b_se b_re z8 z9 z9 u_ce u_ho u_wy u_bt u_ps b_pt u_tg u_sn b_ip u_ic b_ah b_be b_me u_wd b_tr b_ld u_st b_wn u_id)), (b_ro, (arI G 5740 v_ro)), (b_se, (arJ G 13 v_se)), (b_re, (arJ G 400 z10))], rfl, ⟨0, z8, z9, z9, z10, ⟨by have zc_o_r : (0 : Int32).toInt = 0 := (by decide +kernel); omega, by have zc_o_r : (0 : Int32).toInt = 0 := (by decide +kernel); omega⟩, i_7, rfl, rfl⟩, by rw [ht]; exact hP.sub [0, 1, 2, 3] rfl, hD.sub [0, 1, 2, 3] (by decide +kernel) rfl⟩, hS.F ht⟩) hS.2.2 dX12_isSo_109
      ·
        have i_11 : z8.toInt = 0 := g5_neN (a := z8.toInt) (b := 0) rfl (by decide +kernel) c_11
        refine lv_iconst (v := 1) hx hb dX12_isSo_104 (by decide +kernel) ?_
        refine lv_goto (tgt := 109) hx hb dX12_isSo_105 (by decide +kernel) ?_
        exact W.zret (v := 1) hx hb hr rfl (fun t ht hW => ⟨⟨1, [(b_o, (oc12 u_th u_sa b_rf b_ro b_im b_ke u_fd b_tp u_td u_fr u_to u_so u_wo u_fa u_bd u_nc b_nl u_co b_op b_ar u_le b_pi b_pa u_pd u_od b_ws b_hw u_la b_se b_re z8 z9 z9 u_ce u_ho u_wy u_bt u_ps b_pt u_tg u_sn b_ip u_ic b_ah b_be b_me u_wd b_tr b_ld u_st b_wn u_id)), (b_ro, (arI G 5740 v_ro)), (b_se, (arJ G 13 v_se)), (b_re, (arJ G 400 z10))], rfl, ⟨1, z8, z9, z9, z10, ⟨by have zc_o_r : (1 : Int32).toInt = 1 := (by decide +kernel); omega, by have zc_o_r : (1 : Int32).toInt = 1 := (by decide +kernel); omega⟩, i_7, rfl, rfl⟩, by rw [ht]; exact hP.sub [0, 1, 2, 3] rfl, hD.sub [0, 1, 2, 3] (by decide +kernel) rfl⟩, hS.F ht⟩) hS.2.2 dX12_isSo_109
  ·
    have i_3 : (v_ro (p_1 + 5).toNatClampNeg).toInt < (v_ro (p_1 + 6).toNatClampNeg).toInt := g5_geN (a := (v_ro (p_1 + 5).toNatClampNeg).toInt) (b := (v_ro (p_1 + 6).toNatClampNeg).toInt) rfl rfl c_3
    refine lv_aload_n hx hb dX12_isSo_20 rfl (lv_at hl 0 rfl) ?_
    refine lv_aload_n hx hb dX12_isSo_21 rfl (lv_at hl 0 rfl) ?_
    refine va_get (D := G.1) (ci := 12) (v := .ref b_ro) (C := RX12) (T := TX12) (N := 52) hx hb hts inG_X12 hown hK hP 0 rfl rfl 3 (by decide +kernel) (hts _ fl_X12_13) (fun _ h9 => h9) rfl dX12_isSo_22 ?_
    refine lv_iload_n hx hb dX12_isSo_25 rfl (lv_at hl 1 rfl) ?_
    refine W.eq (g2 := F0 m 26 ls [.int p_1, .ref b_ro, .ref b_o]) rfl ?_
    refine lv_iconst (v := 5) hx hb dX12_isSo_26 (by decide +kernel) ?_
    refine lv_iadd hx hb dX12_isSo_27 ?_
    have t_12 : (p_1 + 5).toInt = p_1.toInt + 5 := g5_iadd (a := p_1.toInt) (b := 5) (by rfl) (by decide +kernel) (by omega) (by omega)
    refine va_iald hx hb hK hP 1 0 rfl rfl (i := (p_1 + 5)) (vp_in_iff.mpr ⟨by omega, by omega⟩) dX12_isSo_28 ?_
    refine lv_aload_n hx hb dX12_isSo_29 rfl (lv_at hl 0 rfl) ?_
    refine va_get (D := G.1) (ci := 12) (v := .ref b_ro) (C := RX12) (T := TX12) (N := 52) hx hb hts inG_X12 hown hK hP 0 rfl rfl 3 (by decide +kernel) (hts _ fl_X12_13) (fun _ h9 => h9) rfl dX12_isSo_30 ?_
    refine W.eq (g2 := F0 m 33 ls [.ref b_ro, .int (v_ro (p_1 + 5).toNatClampNeg), .ref b_o]) rfl ?_
    refine lv_iload_n hx hb dX12_isSo_33 rfl (lv_at hl 1 rfl) ?_
    refine lv_bipush (v := 6) hx hb dX12_isSo_34 (by decide +kernel) ?_
    refine lv_iadd hx hb dX12_isSo_36 ?_
    have t_13 : (p_1 + 6).toInt = p_1.toInt + 6 := g5_iadd (a := p_1.toInt) (b := 6) (by rfl) (by decide +kernel) (by omega) (by omega)
    refine va_iald hx hb hK hP 1 0 rfl rfl (i := (p_1 + 6)) (vp_in_iff.mpr ⟨by omega, by omega⟩) dX12_isSo_37 ?_
    obtain ⟨hPc, hDc, hFc⟩ := g5_sub3 (wc := [(b_o, (oc12 u_th u_sa b_rf b_ro b_im b_ke u_fd b_tp u_td u_fr u_to u_so u_wo u_fa u_bd u_nc b_nl u_co b_op b_ar u_le b_pi b_pa u_pd u_od b_ws b_hw u_la b_se b_re u_bk u_va u_su u_ce u_ho u_wy u_bt u_ps b_pt u_tg u_sn b_ip u_ic b_ah b_be b_me u_wd b_tr b_ld u_st b_wn u_id)), (b_ro, (arI G 5740 v_ro)), (b_se, (arJ G 13 v_se)), (b_re, (arJ G 400 v_re))]) hP hD hS hA [0, 1, 2, 3] (by decide +kernel) rfl
    refine va_callv (va_runV (As := [.int (v_ro (p_1 + 5).toNatClampNeg), .int (v_ro (p_1 + 6).toNatClampNeg)]) (rest := []) ⟨hx, hb, hml, hown, hts⟩ (n_reckonAll l G b_o b_ro b_se b_re b_rf b_im b_ke b_tp b_nl b_op b_ar b_pi b_pa b_ws b_hw b_pt b_ip b_ah b_be b_me b_tr b_ld b_wn s.heap.size u_th u_sa u_fd u_td u_fr u_to u_so u_fa u_bd u_nc u_co u_le u_pd u_od u_la u_bk u_ce u_ho u_wy u_bt u_ps u_tg u_sn u_ic u_wd u_id (v_ro (p_1 + 5).toNatClampNeg) (v_ro (p_1 + 6).toNatClampNeg) u_wo u_va u_su u_st v_ro v_se v_re h_u_td h_u_fr h_u_to h_u_bd h_u_nc h_u_co h_u_pd h_u_la h_u_bk h_u_ce h_u_ho h_u_wy h_u_bt h_u_ps h_u_ic h_u_id ⟨by omega, by omega⟩ ⟨by omega, by omega⟩ (r_ro) (d1)) (cwV 2 hts gV_X12_343 rfl rfl rfl hv_X12_reckonAll ⟨Nat.le_of_ble_eq_true rfl, Nat.le_of_ble_eq_true rfl⟩) (g5_preV hPc hK hDc hN hT hS hFc (ci := 12) (q0 := 0) rfl rfl) rfl rfl hl.1 rfl (lv_room (Nat.le_of_ble_eq_true rfl)) dX12_isSo_38 ⟨Nat.le_of_ble_eq_true rfl, Nat.le_of_ble_eq_true rfl⟩) hS (fun q _ h => hFc q h) hFc (fun u t H locs ht hvm hw hB hz1 hk1 hS => ?_)
    obtain ⟨hP1, hD1⟩ := hB
    have hP1 := g5_ht ht hP1
    obtain ⟨z15, z16, z17, (i_14 : 0 ≤ z15.toInt ∧ z15.toInt ≤ 1), rfl⟩ := hw
    have hJ9 := va_join (wr := []) hP hD [0, 1, 2, 3] [] rfl rfl (by decide +kernel) (by decide +kernel) hk1 hFc hP1 hD1
    clear hP hD hPc hDc hFc ht hvm hz1 hk1 hP1 hD1
    obtain ⟨hP, hD⟩ := hJ9
    refine g5_rs [(b_o, (oc12 u_th u_sa b_rf b_ro b_im b_ke u_fd b_tp u_td u_fr u_to u_so u_wo u_fa u_bd u_nc b_nl u_co b_op b_ar u_le b_pi b_pa u_pd u_od b_ws b_hw u_la b_se b_re z15 z16 u_su u_ce u_ho u_wy u_bt u_ps b_pt u_tg u_sn b_ip u_ic b_ah b_be b_me u_wd b_tr b_ld u_st b_wn u_id)), (b_ro, (arI G 5740 v_ro)), (b_se, (arJ G 13 v_se)), (b_re, (arJ G 400 z17))] hP hD ?_
    clear hP hD
    intro hP hD
    refine W.eq (g2 := F0 m 41 ls []) rfl ?_
    refine lv_aload_n hx hb dX12_isSo_41 rfl (lv_at hl 0 rfl) ?_
    refine va_get (D := G.1) (ci := 12) (v := .int z15) (C := RX12) (T := TX12) (N := 52) hx hb hts inG_X12 hown hK hP 0 rfl rfl 30 (by decide +kernel) (hts _ fl_X12_326) (fun _ h9 => h9) rfl dX12_isSo_42 ?_
    refine lv_if_ne (tgt := 57) hx hb dX12_isSo_45 (by decide +kernel) (fun c_18 => ?_) (fun c_18 => ?_)
    ·
      have n_18 : gNe (z15.toInt) (0) := g5_ne (a := z15.toInt) (b := 0) rfl (by decide +kernel) c_18
      have i_18 : z15.toInt ≥ 1 := by have z := g5_ne (a := z15.toInt) (b := 0) (by rfl) (by decide +kernel) c_18; omega
      refine lv_iconst (v := 0) hx hb dX12_isSo_57 (by decide +kernel) ?_
      exact W.zret (v := 0) hx hb hr rfl (fun t ht hW => ⟨⟨0, [(b_o, (oc12 u_th u_sa b_rf b_ro b_im b_ke u_fd b_tp u_td u_fr u_to u_so u_wo u_fa u_bd u_nc b_nl u_co b_op b_ar u_le b_pi b_pa u_pd u_od b_ws b_hw u_la b_se b_re z15 z16 u_su u_ce u_ho u_wy u_bt u_ps b_pt u_tg u_sn b_ip u_ic b_ah b_be b_me u_wd b_tr b_ld u_st b_wn u_id)), (b_ro, (arI G 5740 v_ro)), (b_se, (arJ G 13 v_se)), (b_re, (arJ G 400 z17))], rfl, ⟨0, z15, z16, u_su, z17, ⟨by have zc_o_r : (0 : Int32).toInt = 0 := (by decide +kernel); omega, by have zc_o_r : (0 : Int32).toInt = 0 := (by decide +kernel); omega⟩, i_14, rfl, rfl⟩, by rw [ht]; exact hP.sub [0, 1, 2, 3] rfl, hD.sub [0, 1, 2, 3] (by decide +kernel) rfl⟩, hS.F ht⟩) hS.2.2 dX12_isSo_58
    ·
      have i_18 : z15.toInt = 0 := g5_neN (a := z15.toInt) (b := 0) rfl (by decide +kernel) c_18
      refine lv_aload_n hx hb dX12_isSo_48 rfl (lv_at hl 0 rfl) ?_
      refine va_get (D := G.1) (ci := 12) (v := .long z16) (C := RX12) (T := TX12) (N := 52) hx hb hts inG_X12 hown hK hP 0 rfl rfl 31 (by decide +kernel) (hts _ fl_X12_340) (fun _ h9 => h9) rfl dX12_isSo_49 ?_
      refine lv_lconst (v := 0) hx hb dX12_isSo_52 (by decide +kernel) ?_
      refine W.lcmp hx hb dX12_isSo_53 ?_
      refine W.eq (g2 := F0 m 54 ls [.int (lg_cmp z16 0)]) rfl ?_
      refine lv_if_ne (tgt := 59) hx hb dX12_isSo_54 (by decide +kernel) (fun c_19 => ?_) (fun c_19 => ?_)
      ·
        have n_19 : gNe ((lg_cmp z16 0).toInt) (0) := g5_ne (a := (lg_cmp z16 0).toInt) (b := 0) rfl (by decide +kernel) c_19
        refine lv_aload_n hx hb dX12_isSo_59 rfl (lv_at hl 0 rfl) ?_
        refine va_get (D := G.1) (ci := 12) (v := .ref b_ro) (C := RX12) (T := TX12) (N := 52) hx hb hts inG_X12 hown hK hP 0 rfl rfl 3 (by decide +kernel) (hts _ fl_X12_13) (fun _ h9 => h9) rfl dX12_isSo_60 ?_
        refine lv_iload_n hx hb dX12_isSo_63 rfl (lv_at hl 1 rfl) ?_
        refine va_iald hx hb hK hP 1 0 rfl rfl (i := p_1) (vp_in_iff.mpr ⟨by omega, by omega⟩) dX12_isSo_64 ?_
        refine W.eq (g2 := F0 m 65 ls [.int (v_ro p_1.toNatClampNeg)]) rfl ?_
        refine lv_iconst (v := 2) hx hb dX12_isSo_65 (by decide +kernel) ?_
        refine lv_icmp_ge (tgt := 110) hx hb dX12_isSo_66 (by decide +kernel) (fun c_20 => ?_) (fun c_20 => ?_)
        ·
          have i_20 : (v_ro p_1.toNatClampNeg).toInt ≥ 2 := g5_ge (a := (v_ro p_1.toNatClampNeg).toInt) (b := 2) rfl (by decide +kernel) c_20
          refine lv_iconst (v := 1) hx hb dX12_isSo_110 (by decide +kernel) ?_
          exact W.zret (v := 1) hx hb hr rfl (fun t ht hW => ⟨⟨1, [(b_o, (oc12 u_th u_sa b_rf b_ro b_im b_ke u_fd b_tp u_td u_fr u_to u_so u_wo u_fa u_bd u_nc b_nl u_co b_op b_ar u_le b_pi b_pa u_pd u_od b_ws b_hw u_la b_se b_re z15 z16 u_su u_ce u_ho u_wy u_bt u_ps b_pt u_tg u_sn b_ip u_ic b_ah b_be b_me u_wd b_tr b_ld u_st b_wn u_id)), (b_ro, (arI G 5740 v_ro)), (b_se, (arJ G 13 v_se)), (b_re, (arJ G 400 z17))], rfl, ⟨1, z15, z16, u_su, z17, ⟨by have zc_o_r : (1 : Int32).toInt = 1 := (by decide +kernel); omega, by have zc_o_r : (1 : Int32).toInt = 1 := (by decide +kernel); omega⟩, i_14, rfl, rfl⟩, by rw [ht]; exact hP.sub [0, 1, 2, 3] rfl, hD.sub [0, 1, 2, 3] (by decide +kernel) rfl⟩, hS.F ht⟩) hS.2.2 dX12_isSo_111
        ·
          have i_20 : (v_ro p_1.toNatClampNeg).toInt < 2 := g5_geN (a := (v_ro p_1.toNatClampNeg).toInt) (b := 2) rfl (by decide +kernel) c_20
          refine lv_aload_n hx hb dX12_isSo_69 rfl (lv_at hl 0 rfl) ?_
          refine lv_aload_n hx hb dX12_isSo_70 rfl (lv_at hl 0 rfl) ?_
          refine va_get (D := G.1) (ci := 12) (v := .ref b_ro) (C := RX12) (T := TX12) (N := 52) hx hb hts inG_X12 hown hK hP 0 rfl rfl 3 (by decide +kernel) (hts _ fl_X12_13) (fun _ h9 => h9) rfl dX12_isSo_71 ?_
          refine lv_iload_n hx hb dX12_isSo_74 rfl (lv_at hl 1 rfl) ?_
          refine W.eq (g2 := F0 m 75 ls [.int p_1, .ref b_ro, .ref b_o]) rfl ?_
          refine lv_iconst (v := 3) hx hb dX12_isSo_75 (by decide +kernel) ?_
          refine lv_iadd hx hb dX12_isSo_76 ?_
          have t_21 : (p_1 + 3).toInt = p_1.toInt + 3 := g5_iadd (a := p_1.toInt) (b := 3) (by rfl) (by decide +kernel) (by omega) (by omega)
          refine va_iald hx hb hK hP 1 0 rfl rfl (i := (p_1 + 3)) (vp_in_iff.mpr ⟨by omega, by omega⟩) dX12_isSo_77 ?_
          refine lv_aload_n hx hb dX12_isSo_78 rfl (lv_at hl 0 rfl) ?_
          refine va_get (D := G.1) (ci := 12) (v := .ref b_ro) (C := RX12) (T := TX12) (N := 52) hx hb hts inG_X12 hown hK hP 0 rfl rfl 3 (by decide +kernel) (hts _ fl_X12_13) (fun _ h9 => h9) rfl dX12_isSo_79 ?_
          refine W.eq (g2 := F0 m 82 ls [.ref b_ro, .int (v_ro (p_1 + 3).toNatClampNeg), .ref b_o]) rfl ?_
          refine lv_iload_n hx hb dX12_isSo_82 rfl (lv_at hl 1 rfl) ?_
          refine lv_iconst (v := 4) hx hb dX12_isSo_83 (by decide +kernel) ?_
          refine lv_iadd hx hb dX12_isSo_84 ?_
          have t_22 : (p_1 + 4).toInt = p_1.toInt + 4 := g5_iadd (a := p_1.toInt) (b := 4) (by rfl) (by decide +kernel) (by omega) (by omega)
          refine va_iald hx hb hK hP 1 0 rfl rfl (i := (p_1 + 4)) (vp_in_iff.mpr ⟨by omega, by omega⟩) dX12_isSo_85 ?_
          obtain ⟨hPc, hDc, hFc⟩ := g5_sub3 (wc := [(b_o, (oc12 u_th u_sa b_rf b_ro b_im b_ke u_fd b_tp u_td u_fr u_to u_so u_wo u_fa u_bd u_nc b_nl u_co b_op b_ar u_le b_pi b_pa u_pd u_od b_ws b_hw u_la b_se b_re z15 z16 u_su u_ce u_ho u_wy u_bt u_ps b_pt u_tg u_sn b_ip u_ic b_ah b_be b_me u_wd b_tr b_ld u_st b_wn u_id)), (b_ro, (arI G 5740 v_ro)), (b_se, (arJ G 13 v_se)), (b_re, (arJ G 400 z17))]) hP hD hS hA [0, 1, 2, 3] (by decide +kernel) rfl
          refine va_callv (va_runV (As := [.int (v_ro (p_1 + 3).toNatClampNeg), .int (v_ro (p_1 + 4).toNatClampNeg)]) (rest := []) ⟨hx, hb, hml, hown, hts⟩ (n_reckonAll l G b_o b_ro b_se b_re b_rf b_im b_ke b_tp b_nl b_op b_ar b_pi b_pa b_ws b_hw b_pt b_ip b_ah b_be b_me b_tr b_ld b_wn H.size u_th u_sa u_fd u_td u_fr u_to u_so u_fa u_bd u_nc u_co u_le u_pd u_od u_la z15 u_ce u_ho u_wy u_bt u_ps u_tg u_sn u_ic u_wd u_id (v_ro (p_1 + 3).toNatClampNeg) (v_ro (p_1 + 4).toNatClampNeg) u_wo z16 u_su u_st v_ro v_se z17 h_u_td h_u_fr h_u_to h_u_bd h_u_nc h_u_co h_u_pd h_u_la i_14 h_u_ce h_u_ho h_u_wy h_u_bt h_u_ps h_u_ic h_u_id ⟨by omega, by omega⟩ ⟨by omega, by omega⟩ (r_ro) (d2 (by omega))) (cwV 2 hts gV_X12_343 rfl rfl rfl hv_X12_reckonAll ⟨Nat.le_of_ble_eq_true rfl, Nat.le_of_ble_eq_true rfl⟩) (g5_preV hPc hK hDc hN hT hS hFc (ci := 12) (q0 := 0) rfl rfl) rfl rfl hl.1 rfl (lv_room (Nat.le_of_ble_eq_true rfl)) dX12_isSo_86 ⟨Nat.le_of_ble_eq_true rfl, Nat.le_of_ble_eq_true rfl⟩) hS (fun q _ h => hFc q h) hFc (fun u t H locs ht hvm hw hB hz1 hk1 hS => ?_)
          obtain ⟨hP1, hD1⟩ := hB
          have hP1 := g5_ht ht hP1
          obtain ⟨z24, z25, z26, (i_23 : 0 ≤ z24.toInt ∧ z24.toInt ≤ 1), rfl⟩ := hw
          have hJ9 := va_join (wr := []) hP hD [0, 1, 2, 3] [] rfl rfl (by decide +kernel) (by decide +kernel) hk1 hFc hP1 hD1
          clear hP hD hPc hDc hFc ht hvm hz1 hk1 hP1 hD1
          obtain ⟨hP, hD⟩ := hJ9
          refine g5_rs [(b_o, (oc12 u_th u_sa b_rf b_ro b_im b_ke u_fd b_tp u_td u_fr u_to u_so u_wo u_fa u_bd u_nc b_nl u_co b_op b_ar u_le b_pi b_pa u_pd u_od b_ws b_hw u_la b_se b_re z24 z25 u_su u_ce u_ho u_wy u_bt u_ps b_pt u_tg u_sn b_ip u_ic b_ah b_be b_me u_wd b_tr b_ld u_st b_wn u_id)), (b_ro, (arI G 5740 v_ro)), (b_se, (arJ G 13 v_se)), (b_re, (arJ G 400 z26))] hP hD ?_
          clear hP hD
          intro hP hD
          refine W.eq (g2 := F0 m 89 ls []) rfl ?_
          refine lv_aload_n hx hb dX12_isSo_89 rfl (lv_at hl 0 rfl) ?_
          refine lv_aload_n hx hb dX12_isSo_90 rfl (lv_at hl 0 rfl) ?_
          refine va_get (D := G.1) (ci := 12) (v := .long z25) (C := RX12) (T := TX12) (N := 52) hx hb hts inG_X12 hown hK hP 0 rfl rfl 31 (by decide +kernel) (hts _ fl_X12_340) (fun _ h9 => h9) rfl dX12_isSo_91 ?_
          refine va_put (D := G.1) (ci := 12) (v := .long z25) (ty := .long) (C := RX12) (T := TX12) (N := 52) hx hb hts inG_X12 tyX12 tyX12_ok nmX12 hown hK hP hD hS 0 rfl rfl 32 (by decide +kernel) (hts _ fl_X12_346) (fun _ h9 => h9) rfl (by decide +kernel) rfl rfl (Nat.le_of_ble_eq_true rfl) dX12_isSo_94 ?_
          clear hP hD hS
          intro H locs hP hD hS
          refine g5_rs [(b_o, (oc12 u_th u_sa b_rf b_ro b_im b_ke u_fd b_tp u_td u_fr u_to u_so u_wo u_fa u_bd u_nc b_nl u_co b_op b_ar u_le b_pi b_pa u_pd u_od b_ws b_hw u_la b_se b_re z24 z25 z25 u_ce u_ho u_wy u_bt u_ps b_pt u_tg u_sn b_ip u_ic b_ah b_be b_me u_wd b_tr b_ld u_st b_wn u_id)), (b_ro, (arI G 5740 v_ro)), (b_se, (arJ G 13 v_se)), (b_re, (arJ G 400 z26))] hP hD ?_
          clear hP hD
          intro hP hD
          refine lv_aload_n hx hb dX12_isSo_97 rfl (lv_at hl 0 rfl) ?_
          refine W.eq (g2 := F0 m 98 ls [.ref b_o]) rfl ?_
          refine va_get (D := G.1) (ci := 12) (v := .int z24) (C := RX12) (T := TX12) (N := 52) hx hb hts inG_X12 hown hK hP 0 rfl rfl 30 (by decide +kernel) (hts _ fl_X12_326) (fun _ h9 => h9) rfl dX12_isSo_98 ?_
          refine lv_if_ne (tgt := 108) hx hb dX12_isSo_101 (by decide +kernel) (fun c_27 => ?_) (fun c_27 => ?_)
          ·
            have n_27 : gNe (z24.toInt) (0) := g5_ne (a := z24.toInt) (b := 0) rfl (by decide +kernel) c_27
            have i_27 : z24.toInt ≥ 1 := by have z := g5_ne (a := z24.toInt) (b := 0) (by rfl) (by decide +kernel) c_27; omega
            refine lv_iconst (v := 0) hx hb dX12_isSo_108 (by decide +kernel) ?_
            exact W.zret (v := 0) hx hb hr rfl (fun t ht hW => ⟨⟨0, [(b_o, (oc12 u_th u_sa b_rf b_ro b_im b_ke u_fd b_tp u_td u_fr u_to u_so u_wo u_fa u_bd u_nc b_nl u_co b_op b_ar u_le b_pi b_pa u_pd u_od b_ws b_hw u_la b_se b_re z24 z25 z25 u_ce u_ho u_wy u_bt u_ps b_pt u_tg u_sn b_ip u_ic b_ah b_be b_me u_wd b_tr b_ld u_st b_wn u_id)), (b_ro, (arI G 5740 v_ro)), (b_se, (arJ G 13 v_se)), (b_re, (arJ G 400 z26))], rfl, ⟨0, z24, z25, z25, z26, ⟨by have zc_o_r : (0 : Int32).toInt = 0 := (by decide +kernel); omega, by have zc_o_r : (0 : Int32).toInt = 0 := (by decide +kernel); omega⟩, i_23, rfl, rfl⟩, by rw [ht]; exact hP.sub [0, 1, 2, 3] rfl, hD.sub [0, 1, 2, 3] (by decide +kernel) rfl⟩, hS.F ht⟩) hS.2.2 dX12_isSo_109
          ·
            have i_27 : z24.toInt = 0 := g5_neN (a := z24.toInt) (b := 0) rfl (by decide +kernel) c_27
            refine lv_iconst (v := 1) hx hb dX12_isSo_104 (by decide +kernel) ?_
            refine lv_goto (tgt := 109) hx hb dX12_isSo_105 (by decide +kernel) ?_
            exact W.zret (v := 1) hx hb hr rfl (fun t ht hW => ⟨⟨1, [(b_o, (oc12 u_th u_sa b_rf b_ro b_im b_ke u_fd b_tp u_td u_fr u_to u_so u_wo u_fa u_bd u_nc b_nl u_co b_op b_ar u_le b_pi b_pa u_pd u_od b_ws b_hw u_la b_se b_re z24 z25 z25 u_ce u_ho u_wy u_bt u_ps b_pt u_tg u_sn b_ip u_ic b_ah b_be b_me u_wd b_tr b_ld u_st b_wn u_id)), (b_ro, (arI G 5740 v_ro)), (b_se, (arJ G 13 v_se)), (b_re, (arJ G 400 z26))], rfl, ⟨1, z24, z25, z25, z26, ⟨by have zc_o_r : (1 : Int32).toInt = 1 := (by decide +kernel); omega, by have zc_o_r : (1 : Int32).toInt = 1 := (by decide +kernel); omega⟩, i_23, rfl, rfl⟩, by rw [ht]; exact hP.sub [0, 1, 2, 3] rfl, hD.sub [0, 1, 2, 3] (by decide +kernel) rfl⟩, hS.F ht⟩) hS.2.2 dX12_isSo_109
      ·
        have i_19 : (lg_cmp z16 0).toInt = 0 := g5_neN (a := (lg_cmp z16 0).toInt) (b := 0) rfl (by decide +kernel) c_19
        refine lv_iconst (v := 0) hx hb dX12_isSo_57 (by decide +kernel) ?_
        exact W.zret (v := 0) hx hb hr rfl (fun t ht hW => ⟨⟨0, [(b_o, (oc12 u_th u_sa b_rf b_ro b_im b_ke u_fd b_tp u_td u_fr u_to u_so u_wo u_fa u_bd u_nc b_nl u_co b_op b_ar u_le b_pi b_pa u_pd u_od b_ws b_hw u_la b_se b_re z15 z16 u_su u_ce u_ho u_wy u_bt u_ps b_pt u_tg u_sn b_ip u_ic b_ah b_be b_me u_wd b_tr b_ld u_st b_wn u_id)), (b_ro, (arI G 5740 v_ro)), (b_se, (arJ G 13 v_se)), (b_re, (arJ G 400 z17))], rfl, ⟨0, z15, z16, u_su, z17, ⟨by have zc_o_r : (0 : Int32).toInt = 0 := (by decide +kernel); omega, by have zc_o_r : (0 : Int32).toInt = 0 := (by decide +kernel); omega⟩, i_14, rfl, rfl⟩, by rw [ht]; exact hP.sub [0, 1, 2, 3] rfl, hD.sub [0, 1, 2, 3] (by decide +kernel) rfl⟩, hS.F ht⟩) hS.2.2 dX12_isSo_58
set_option maxHeartbeats 4000000 in
set_option maxRecDepth 100000 in
theorem n_ofGlass0 (l : Launch) (G : g5_G) (b_o b_ro b_rf b_im b_ke b_tp b_nl b_op b_ar b_pi b_pa b_ws b_hw b_se b_re b_pt b_ip b_ah b_be b_me b_tr b_ld b_wn : Nat) (sz : Nat) (u_th : Int32) (u_sa : Int32) (u_fd : Int32) (u_td : Int32) (u_fr : Int32) (u_to : Int32) (u_so : Int32) (u_fa : Int32) (u_bd : Int32) (u_nc : Int32) (u_co : Int32) (u_le : Int32) (u_pd : Int32) (u_od : Int32) (u_la : Int32) (u_bk : Int32) (u_ce : Int32) (u_ho : Int32) (u_wy : Int32) (u_bt : Int32) (u_ps : Int32) (u_tg : Int32) (u_sn : Int32) (u_ic : Int32) (u_wd : Int32) (u_id : Int32) (p_1 : Int32) (u_wo : Int64) (u_va : Int64) (u_su : Int64) (u_st : Int64) (v_ro : Nat → Int32) (h_u_td : 0 ≤ u_td.toInt ∧ u_td.toInt ≤ 400) (h_u_fr : 0 ≤ u_fr.toInt ∧ u_fr.toInt ≤ 400) (h_u_to : 0 ≤ u_to.toInt ∧ u_to.toInt ≤ 400) (h_u_bd : 0 ≤ u_bd.toInt ∧ u_bd.toInt ≤ 1) (h_u_nc : 0 ≤ u_nc.toInt ∧ u_nc.toInt ≤ 12) (h_u_co : 0 ≤ u_co.toInt ∧ u_co.toInt ≤ 400) (h_u_pd : 0 ≤ u_pd.toInt ∧ u_pd.toInt ≤ 400) (h_u_la : 0 ≤ u_la.toInt ∧ u_la.toInt ≤ 4840) (h_u_bk : 0 ≤ u_bk.toInt ∧ u_bk.toInt ≤ 1) (h_u_ce : 0 ≤ u_ce.toInt ∧ u_ce.toInt ≤ 63) (h_u_ho : 0 ≤ u_ho.toInt ∧ u_ho.toInt ≤ 23) (h_u_wy : 0 ≤ u_wy.toInt ∧ u_wy.toInt ≤ 3) (h_u_bt : 0 ≤ u_bt.toInt ∧ u_bt.toInt ≤ 1000000) (h_u_ps : 0 ≤ u_ps.toInt ∧ u_ps.toInt ≤ 200) (h_u_ic : 0 ≤ u_ic.toInt ∧ u_ic.toInt ≤ 1) (h_u_id : 0 ≤ u_id.toInt ∧ u_id.toInt ≤ 1) (h_p_1 : 0 ≤ p_1.toInt ∧ p_1.toInt ≤ 5) (r_ro : MI v_ro) : Met l yX12_ofGlass (wsG yX12_ofGlass cX12_ofGlass 3 (some .int)) ({ frames := 0, cells := 0, slots := 0, locals := 0 }) (va_Pc [.ref b_o, .int p_1, .int 0] (g5_P G [(b_o, (oc12 u_th u_sa b_rf b_ro b_im b_ke u_fd b_tp u_td u_fr u_to u_so u_wo u_fa u_bd u_nc b_nl u_co b_op b_ar u_le b_pi b_pa u_pd u_od b_ws b_hw u_la b_se b_re u_bk u_va u_su u_ce u_ho u_wy u_bt u_ps b_pt u_tg u_sn b_ip u_ic b_ah b_be b_me u_wd b_tr b_ld u_st b_wn u_id)), (b_ro, (arI G 5740 v_ro))] sz)) (va_Qi (fun (r : Int32) (u : va_W) => (∃ (o_r : Int32), (0 ≤ o_r.toInt ∧ o_r.toInt ≤ 63) ∧ (r = o_r) ∧ (u = [(b_o, (oc12 u_th u_sa b_rf b_ro b_im b_ke u_fd b_tp u_td u_fr u_to u_so u_wo u_fa u_bd u_nc b_nl u_co b_op b_ar u_le b_pi b_pa u_pd u_od b_ws b_hw u_la b_se b_re u_bk u_va u_su u_ce u_ho u_wy u_bt u_ps b_pt u_tg u_sn b_ip u_ic b_ah b_be b_me u_wd b_tr b_ld u_st b_wn u_id)), (b_ro, (arI G 5740 v_ro))]))) (g5_B G (va_A [(b_o, (oc12 u_th u_sa b_rf b_ro b_im b_ke u_fd b_tp u_td u_fr u_to u_so u_wo u_fa u_bd u_nc b_nl u_co b_op b_ar u_le b_pi b_pa u_pd u_od b_ws b_hw u_la b_se b_re u_bk u_va u_su u_ce u_ho u_wy u_bt u_ps b_pt u_tg u_sn b_ip u_ic b_ah b_be b_me u_wd b_tr b_ld u_st b_wn u_id)), (b_ro, (arI G 5740 v_ro))] sz)) (va_A [(b_o, (oc12 u_th u_sa b_rf b_ro b_im b_ke u_fd b_tp u_td u_fr u_to u_so u_wo u_fa u_bd u_nc b_nl u_co b_op b_ar u_le b_pi b_pa u_pd u_od b_ws b_hw u_la b_se b_re u_bk u_va u_su u_ce u_ho u_wy u_bt u_ps b_pt u_tg u_sn b_ip u_ic b_ah b_be b_me u_wd b_tr b_ld u_st b_wn u_id)), (b_ro, (arI G 5740 v_ro))] sz)) 0 0 (va_A [(b_o, (oc12 u_th u_sa b_rf b_ro b_im b_ke u_fd b_tp u_td u_fr u_to u_so u_wo u_fa u_bd u_nc b_nl u_co b_op b_ar u_le b_pi b_pa u_pd u_od b_ws b_hw u_la b_se b_re u_bk u_va u_su u_ce u_ho u_wy u_bt u_ps b_pt u_tg u_sn b_ip u_ic b_ah b_be b_me u_wd b_tr b_ld u_st b_wn u_id)), (b_ro, (arI G 5740 v_ro))] sz) := by
  refine Met.ofW (cc := cX12_ofGlass) (maxL := 3) (ret := (some .int)) (by decide) rfl ?_
  intro p e s m args below meth c s₁ B hml hv
  obtain ⟨rfl, hsz, hP, hK, hD0, hN, hT⟩ := hv
  have hx := B.exec
  have hb := B.bytes
  have hr := B.returns
  have hts : ∀ w ∈ tblG, w.before _ s = true := fun w h => atoms_spec (ws := (wsG yX12_ofGlass cX12_ofGlass 3 (some .int))) B.pre w (List.mem_cons_of_mem _ h)
  have hown : s.vm.findClass RX12 = some m.cls := findClass_of_methodNamed B.named
  have hlocks := B.notSynchronized
  subst hsz
  have hD := hD0.self (sz := s.heap.size)
  generalize hAe : va_A [(b_o, (oc12 u_th u_sa b_rf b_ro b_im b_ke u_fd b_tp u_td u_fr u_to u_so u_wo u_fa u_bd u_nc b_nl u_co b_op b_ar u_le b_pi b_pa u_pd u_od b_ws b_hw u_la b_se b_re u_bk u_va u_su u_ce u_ho u_wy u_bt u_ps b_pt u_tg u_sn b_ip u_ic b_ah b_be b_me u_wd b_tr b_ld u_st b_wn u_id)), (b_ro, (arI G 5740 v_ro))] s.heap.size = A at hD hT ⊢
  have hA : ∀ q : Nat, s.heap.size ≤ q → A q := fun q h => by rw [← hAe]; exact Or.inr h
  have hS : va_S A s.heap s.heap [] := va_S.rf
  have hP : va_P G.1 vwCl [(b_o, (oc12 u_th u_sa b_rf b_ro b_im b_ke u_fd b_tp u_td u_fr u_to u_so u_wo u_fa u_bd u_nc b_nl u_co b_op b_ar u_le b_pi b_pa u_pd u_od b_ws b_hw u_la b_se b_re u_bk u_va u_su u_ce u_ho u_wy u_bt u_ps b_pt u_tg u_sn b_ip u_ic b_ah b_be b_me u_wd b_tr b_ld u_st b_wn u_id)), (b_ro, (arI G 5740 v_ro))] s.heap := hP
  have hl := lv_entry ([.ref b_o, .int p_1, .int 0]) (n := 3) (Nat.le_of_ble_eq_true rfl)
  rw [lg_entry_eq]
  generalize (lg_sl ([.ref b_o, .int p_1, .int 0]) ++ List.replicate (3 - (lg_sl ([.ref b_o, .int p_1, .int 0])).length) Slot.unset).toArray = ls at hl ⊢
  have hl : lv_has ls 3 [(0, .ref b_o), (1, .int p_1), (2, .int 0)] := hl
  refine lv_aload_n hx hb dX12_ofGlass_0 rfl (lv_at hl 0 rfl) ?_
  refine va_get (D := G.1) (ci := 12) (v := .ref b_ro) (C := RX12) (T := TX12) (N := 52) hx hb hts inG_X12 hown hK hP 0 rfl rfl 3 (by decide) (hts _ fl_X12_13) (fun _ h9 => h9) rfl dX12_ofGlass_1 ?_
  refine lv_bipush (v := 80) hx hb dX12_ofGlass_4 (by decide) ?_
  refine lv_iconst (v := 5) hx hb dX12_ofGlass_6 (by decide) ?_
  refine W.eq (g2 := F0 m 7 ls [.int 5, .int 80, .ref b_ro]) rfl ?_
  refine lv_iload_n hx hb dX12_ofGlass_7 rfl (lv_at hl 1 rfl) ?_
  refine lv_imul hx hb dX12_ofGlass_8 ?_
  have t_1 : (5 * p_1).toInt = 5 * p_1.toInt := g5_imul (a := 5) (b := p_1.toInt) (by decide) (by rfl) (by omega) (by omega)
  refine lv_iadd hx hb dX12_ofGlass_9 ?_
  have t_2 : (80 + (5 * p_1)).toInt = 80 + (5 * p_1).toInt := g5_iadd (a := 80) (b := (5 * p_1).toInt) (by decide) (by rfl) (by omega) (by omega)
  refine lv_iload_n hx hb dX12_ofGlass_10 rfl (lv_at hl 2 rfl) ?_
  refine lv_iadd hx hb dX12_ofGlass_11 ?_
  refine g5_ti (v := (80 + (5 * p_1))) (by simp) ?_
  refine W.eq (g2 := F0 m 12 ls [.int (80 + (5 * p_1)), .ref b_ro]) rfl ?_
  refine va_iald hx hb hK hP 1 0 rfl rfl (i := (80 + (5 * p_1))) (vp_in_iff.mpr ⟨by omega, by omega⟩) dX12_ofGlass_12 ?_
  have hv9 : 0 ≤ (v_ro (80 + (5 * p_1)).toNatClampNeg).toInt ∧ (v_ro (80 + (5 * p_1)).toNatClampNeg).toInt ≤ 63 := mi_80_0 r_ro (by have zz := g5_clamp (80 + (5 * p_1)); omega) (by have zz := g5_clamp (80 + (5 * p_1)); omega) (by have zz := g5_clamp (80 + (5 * p_1)); omega)
  exact W.iret (v := (v_ro (80 + (5 * p_1)).toNatClampNeg)) hx hb hr (fun t ht hW => ⟨⟨(v_ro (80 + (5 * p_1)).toNatClampNeg), [(b_o, (oc12 u_th u_sa b_rf b_ro b_im b_ke u_fd b_tp u_td u_fr u_to u_so u_wo u_fa u_bd u_nc b_nl u_co b_op b_ar u_le b_pi b_pa u_pd u_od b_ws b_hw u_la b_se b_re u_bk u_va u_su u_ce u_ho u_wy u_bt u_ps b_pt u_tg u_sn b_ip u_ic b_ah b_be b_me u_wd b_tr b_ld u_st b_wn u_id)), (b_ro, (arI G 5740 v_ro))], rfl, ⟨(v_ro (80 + (5 * p_1)).toNatClampNeg), by omega, rfl, rfl⟩, by rw [ht]; exact hP.sub [0, 1] rfl, hD.sub [0, 1] (by decide) rfl⟩, hS.F ht⟩) hS.2.2 dX12_ofGlass_13
set_option maxHeartbeats 4000000 in
set_option maxRecDepth 100000 in
theorem n_ofGlass1 (l : Launch) (G : g5_G) (b_o b_ro b_rf b_im b_ke b_tp b_nl b_op b_ar b_pi b_pa b_ws b_hw b_se b_re b_pt b_ip b_ah b_be b_me b_tr b_ld b_wn : Nat) (sz : Nat) (u_th : Int32) (u_sa : Int32) (u_fd : Int32) (u_td : Int32) (u_fr : Int32) (u_to : Int32) (u_so : Int32) (u_fa : Int32) (u_bd : Int32) (u_nc : Int32) (u_co : Int32) (u_le : Int32) (u_pd : Int32) (u_od : Int32) (u_la : Int32) (u_bk : Int32) (u_ce : Int32) (u_ho : Int32) (u_wy : Int32) (u_bt : Int32) (u_ps : Int32) (u_tg : Int32) (u_sn : Int32) (u_ic : Int32) (u_wd : Int32) (u_id : Int32) (p_1 : Int32) (u_wo : Int64) (u_va : Int64) (u_su : Int64) (u_st : Int64) (v_ro : Nat → Int32) (h_u_td : 0 ≤ u_td.toInt ∧ u_td.toInt ≤ 400) (h_u_fr : 0 ≤ u_fr.toInt ∧ u_fr.toInt ≤ 400) (h_u_to : 0 ≤ u_to.toInt ∧ u_to.toInt ≤ 400) (h_u_bd : 0 ≤ u_bd.toInt ∧ u_bd.toInt ≤ 1) (h_u_nc : 0 ≤ u_nc.toInt ∧ u_nc.toInt ≤ 12) (h_u_co : 0 ≤ u_co.toInt ∧ u_co.toInt ≤ 400) (h_u_pd : 0 ≤ u_pd.toInt ∧ u_pd.toInt ≤ 400) (h_u_la : 0 ≤ u_la.toInt ∧ u_la.toInt ≤ 4840) (h_u_bk : 0 ≤ u_bk.toInt ∧ u_bk.toInt ≤ 1) (h_u_ce : 0 ≤ u_ce.toInt ∧ u_ce.toInt ≤ 63) (h_u_ho : 0 ≤ u_ho.toInt ∧ u_ho.toInt ≤ 23) (h_u_wy : 0 ≤ u_wy.toInt ∧ u_wy.toInt ≤ 3) (h_u_bt : 0 ≤ u_bt.toInt ∧ u_bt.toInt ≤ 1000000) (h_u_ps : 0 ≤ u_ps.toInt ∧ u_ps.toInt ≤ 200) (h_u_ic : 0 ≤ u_ic.toInt ∧ u_ic.toInt ≤ 1) (h_u_id : 0 ≤ u_id.toInt ∧ u_id.toInt ≤ 1) (h_p_1 : 0 ≤ p_1.toInt ∧ p_1.toInt ≤ 5) (r_ro : MI v_ro) : Met l yX12_ofGlass (wsG yX12_ofGlass cX12_ofGlass 3 (some .int)) ({ frames := 0, cells := 0, slots := 0, locals := 0 }) (va_Pc [.ref b_o, .int p_1, .int 1] (g5_P G [(b_o, (oc12 u_th u_sa b_rf b_ro b_im b_ke u_fd b_tp u_td u_fr u_to u_so u_wo u_fa u_bd u_nc b_nl u_co b_op b_ar u_le b_pi b_pa u_pd u_od b_ws b_hw u_la b_se b_re u_bk u_va u_su u_ce u_ho u_wy u_bt u_ps b_pt u_tg u_sn b_ip u_ic b_ah b_be b_me u_wd b_tr b_ld u_st b_wn u_id)), (b_ro, (arI G 5740 v_ro))] sz)) (va_Qi (fun (r : Int32) (u : va_W) => (∃ (o_r : Int32), (0 ≤ o_r.toInt ∧ o_r.toInt ≤ 5) ∧ (r = o_r) ∧ (u = [(b_o, (oc12 u_th u_sa b_rf b_ro b_im b_ke u_fd b_tp u_td u_fr u_to u_so u_wo u_fa u_bd u_nc b_nl u_co b_op b_ar u_le b_pi b_pa u_pd u_od b_ws b_hw u_la b_se b_re u_bk u_va u_su u_ce u_ho u_wy u_bt u_ps b_pt u_tg u_sn b_ip u_ic b_ah b_be b_me u_wd b_tr b_ld u_st b_wn u_id)), (b_ro, (arI G 5740 v_ro))]))) (g5_B G (va_A [(b_o, (oc12 u_th u_sa b_rf b_ro b_im b_ke u_fd b_tp u_td u_fr u_to u_so u_wo u_fa u_bd u_nc b_nl u_co b_op b_ar u_le b_pi b_pa u_pd u_od b_ws b_hw u_la b_se b_re u_bk u_va u_su u_ce u_ho u_wy u_bt u_ps b_pt u_tg u_sn b_ip u_ic b_ah b_be b_me u_wd b_tr b_ld u_st b_wn u_id)), (b_ro, (arI G 5740 v_ro))] sz)) (va_A [(b_o, (oc12 u_th u_sa b_rf b_ro b_im b_ke u_fd b_tp u_td u_fr u_to u_so u_wo u_fa u_bd u_nc b_nl u_co b_op b_ar u_le b_pi b_pa u_pd u_od b_ws b_hw u_la b_se b_re u_bk u_va u_su u_ce u_ho u_wy u_bt u_ps b_pt u_tg u_sn b_ip u_ic b_ah b_be b_me u_wd b_tr b_ld u_st b_wn u_id)), (b_ro, (arI G 5740 v_ro))] sz)) 0 0 (va_A [(b_o, (oc12 u_th u_sa b_rf b_ro b_im b_ke u_fd b_tp u_td u_fr u_to u_so u_wo u_fa u_bd u_nc b_nl u_co b_op b_ar u_le b_pi b_pa u_pd u_od b_ws b_hw u_la b_se b_re u_bk u_va u_su u_ce u_ho u_wy u_bt u_ps b_pt u_tg u_sn b_ip u_ic b_ah b_be b_me u_wd b_tr b_ld u_st b_wn u_id)), (b_ro, (arI G 5740 v_ro))] sz) := by
  refine Met.ofW (cc := cX12_ofGlass) (maxL := 3) (ret := (some .int)) (by decide) rfl ?_
  intro p e s m args below meth c s₁ B hml hv
  obtain ⟨rfl, hsz, hP, hK, hD0, hN, hT⟩ := hv
  have hx := B.exec
  have hb := B.bytes
  have hr := B.returns
  have hts : ∀ w ∈ tblG, w.before _ s = true := fun w h => atoms_spec (ws := (wsG yX12_ofGlass cX12_ofGlass 3 (some .int))) B.pre w (List.mem_cons_of_mem _ h)
  have hown : s.vm.findClass RX12 = some m.cls := findClass_of_methodNamed B.named
  have hlocks := B.notSynchronized
  subst hsz
  have hD := hD0.self (sz := s.heap.size)
  generalize hAe : va_A [(b_o, (oc12 u_th u_sa b_rf b_ro b_im b_ke u_fd b_tp u_td u_fr u_to u_so u_wo u_fa u_bd u_nc b_nl u_co b_op b_ar u_le b_pi b_pa u_pd u_od b_ws b_hw u_la b_se b_re u_bk u_va u_su u_ce u_ho u_wy u_bt u_ps b_pt u_tg u_sn b_ip u_ic b_ah b_be b_me u_wd b_tr b_ld u_st b_wn u_id)), (b_ro, (arI G 5740 v_ro))] s.heap.size = A at hD hT ⊢
  have hA : ∀ q : Nat, s.heap.size ≤ q → A q := fun q h => by rw [← hAe]; exact Or.inr h
  have hS : va_S A s.heap s.heap [] := va_S.rf
  have hP : va_P G.1 vwCl [(b_o, (oc12 u_th u_sa b_rf b_ro b_im b_ke u_fd b_tp u_td u_fr u_to u_so u_wo u_fa u_bd u_nc b_nl u_co b_op b_ar u_le b_pi b_pa u_pd u_od b_ws b_hw u_la b_se b_re u_bk u_va u_su u_ce u_ho u_wy u_bt u_ps b_pt u_tg u_sn b_ip u_ic b_ah b_be b_me u_wd b_tr b_ld u_st b_wn u_id)), (b_ro, (arI G 5740 v_ro))] s.heap := hP
  have hl := lv_entry ([.ref b_o, .int p_1, .int 1]) (n := 3) (Nat.le_of_ble_eq_true rfl)
  rw [lg_entry_eq]
  generalize (lg_sl ([.ref b_o, .int p_1, .int 1]) ++ List.replicate (3 - (lg_sl ([.ref b_o, .int p_1, .int 1])).length) Slot.unset).toArray = ls at hl ⊢
  have hl : lv_has ls 3 [(0, .ref b_o), (1, .int p_1), (2, .int 1)] := hl
  refine lv_aload_n hx hb dX12_ofGlass_0 rfl (lv_at hl 0 rfl) ?_
  refine va_get (D := G.1) (ci := 12) (v := .ref b_ro) (C := RX12) (T := TX12) (N := 52) hx hb hts inG_X12 hown hK hP 0 rfl rfl 3 (by decide) (hts _ fl_X12_13) (fun _ h9 => h9) rfl dX12_ofGlass_1 ?_
  refine lv_bipush (v := 80) hx hb dX12_ofGlass_4 (by decide) ?_
  refine lv_iconst (v := 5) hx hb dX12_ofGlass_6 (by decide) ?_
  refine W.eq (g2 := F0 m 7 ls [.int 5, .int 80, .ref b_ro]) rfl ?_
  refine lv_iload_n hx hb dX12_ofGlass_7 rfl (lv_at hl 1 rfl) ?_
  refine lv_imul hx hb dX12_ofGlass_8 ?_
  have t_1 : (5 * p_1).toInt = 5 * p_1.toInt := g5_imul (a := 5) (b := p_1.toInt) (by decide) (by rfl) (by omega) (by omega)
  refine lv_iadd hx hb dX12_ofGlass_9 ?_
  have t_2 : (80 + (5 * p_1)).toInt = 80 + (5 * p_1).toInt := g5_iadd (a := 80) (b := (5 * p_1).toInt) (by decide) (by rfl) (by omega) (by omega)
  refine lv_iload_n hx hb dX12_ofGlass_10 rfl (lv_at hl 2 rfl) ?_
  refine lv_iadd hx hb dX12_ofGlass_11 ?_
  have t_3 : ((80 + (5 * p_1)) + 1).toInt = (80 + (5 * p_1)).toInt + 1 := g5_iadd (a := (80 + (5 * p_1)).toInt) (b := 1) (by rfl) (by decide) (by omega) (by omega)
  refine W.eq (g2 := F0 m 12 ls [.int ((80 + (5 * p_1)) + 1), .ref b_ro]) rfl ?_
  refine va_iald hx hb hK hP 1 0 rfl rfl (i := ((80 + (5 * p_1)) + 1)) (vp_in_iff.mpr ⟨by omega, by omega⟩) dX12_ofGlass_12 ?_
  have hv9 : 0 ≤ (v_ro ((80 + (5 * p_1)) + 1).toNatClampNeg).toInt ∧ (v_ro ((80 + (5 * p_1)) + 1).toNatClampNeg).toInt ≤ 5 := mi_80_1 r_ro (by have zz := g5_clamp ((80 + (5 * p_1)) + 1); omega) (by have zz := g5_clamp ((80 + (5 * p_1)) + 1); omega) (by have zz := g5_clamp ((80 + (5 * p_1)) + 1); omega)
  exact W.iret (v := (v_ro ((80 + (5 * p_1)) + 1).toNatClampNeg)) hx hb hr (fun t ht hW => ⟨⟨(v_ro ((80 + (5 * p_1)) + 1).toNatClampNeg), [(b_o, (oc12 u_th u_sa b_rf b_ro b_im b_ke u_fd b_tp u_td u_fr u_to u_so u_wo u_fa u_bd u_nc b_nl u_co b_op b_ar u_le b_pi b_pa u_pd u_od b_ws b_hw u_la b_se b_re u_bk u_va u_su u_ce u_ho u_wy u_bt u_ps b_pt u_tg u_sn b_ip u_ic b_ah b_be b_me u_wd b_tr b_ld u_st b_wn u_id)), (b_ro, (arI G 5740 v_ro))], rfl, ⟨(v_ro ((80 + (5 * p_1)) + 1).toNatClampNeg), by omega, rfl, rfl⟩, by rw [ht]; exact hP.sub [0, 1] rfl, hD.sub [0, 1] (by decide) rfl⟩, hS.F ht⟩) hS.2.2 dX12_ofGlass_13
set_option maxHeartbeats 4000000 in
set_option maxRecDepth 100000 in
theorem n_ofGlass2 (l : Launch) (G : g5_G) (b_o b_ro b_rf b_im b_ke b_tp b_nl b_op b_ar b_pi b_pa b_ws b_hw b_se b_re b_pt b_ip b_ah b_be b_me b_tr b_ld b_wn : Nat) (sz : Nat) (u_th : Int32) (u_sa : Int32) (u_fd : Int32) (u_td : Int32) (u_fr : Int32) (u_to : Int32) (u_so : Int32) (u_fa : Int32) (u_bd : Int32) (u_nc : Int32) (u_co : Int32) (u_le : Int32) (u_pd : Int32) (u_od : Int32) (u_la : Int32) (u_bk : Int32) (u_ce : Int32) (u_ho : Int32) (u_wy : Int32) (u_bt : Int32) (u_ps : Int32) (u_tg : Int32) (u_sn : Int32) (u_ic : Int32) (u_wd : Int32) (u_id : Int32) (p_1 : Int32) (u_wo : Int64) (u_va : Int64) (u_su : Int64) (u_st : Int64) (v_ro : Nat → Int32) (h_u_td : 0 ≤ u_td.toInt ∧ u_td.toInt ≤ 400) (h_u_fr : 0 ≤ u_fr.toInt ∧ u_fr.toInt ≤ 400) (h_u_to : 0 ≤ u_to.toInt ∧ u_to.toInt ≤ 400) (h_u_bd : 0 ≤ u_bd.toInt ∧ u_bd.toInt ≤ 1) (h_u_nc : 0 ≤ u_nc.toInt ∧ u_nc.toInt ≤ 12) (h_u_co : 0 ≤ u_co.toInt ∧ u_co.toInt ≤ 400) (h_u_pd : 0 ≤ u_pd.toInt ∧ u_pd.toInt ≤ 400) (h_u_la : 0 ≤ u_la.toInt ∧ u_la.toInt ≤ 4840) (h_u_bk : 0 ≤ u_bk.toInt ∧ u_bk.toInt ≤ 1) (h_u_ce : 0 ≤ u_ce.toInt ∧ u_ce.toInt ≤ 63) (h_u_ho : 0 ≤ u_ho.toInt ∧ u_ho.toInt ≤ 23) (h_u_wy : 0 ≤ u_wy.toInt ∧ u_wy.toInt ≤ 3) (h_u_bt : 0 ≤ u_bt.toInt ∧ u_bt.toInt ≤ 1000000) (h_u_ps : 0 ≤ u_ps.toInt ∧ u_ps.toInt ≤ 200) (h_u_ic : 0 ≤ u_ic.toInt ∧ u_ic.toInt ≤ 1) (h_u_id : 0 ≤ u_id.toInt ∧ u_id.toInt ≤ 1) (h_p_1 : 0 ≤ p_1.toInt ∧ p_1.toInt ≤ 5) (r_ro : MI v_ro) : Met l yX12_ofGlass (wsG yX12_ofGlass cX12_ofGlass 3 (some .int)) ({ frames := 0, cells := 0, slots := 0, locals := 0 }) (va_Pc [.ref b_o, .int p_1, .int 2] (g5_P G [(b_o, (oc12 u_th u_sa b_rf b_ro b_im b_ke u_fd b_tp u_td u_fr u_to u_so u_wo u_fa u_bd u_nc b_nl u_co b_op b_ar u_le b_pi b_pa u_pd u_od b_ws b_hw u_la b_se b_re u_bk u_va u_su u_ce u_ho u_wy u_bt u_ps b_pt u_tg u_sn b_ip u_ic b_ah b_be b_me u_wd b_tr b_ld u_st b_wn u_id)), (b_ro, (arI G 5740 v_ro))] sz)) (va_Qi (fun (r : Int32) (u : va_W) => (∃ (o_r : Int32), (0 ≤ o_r.toInt ∧ o_r.toInt ≤ 23) ∧ (r = o_r) ∧ (u = [(b_o, (oc12 u_th u_sa b_rf b_ro b_im b_ke u_fd b_tp u_td u_fr u_to u_so u_wo u_fa u_bd u_nc b_nl u_co b_op b_ar u_le b_pi b_pa u_pd u_od b_ws b_hw u_la b_se b_re u_bk u_va u_su u_ce u_ho u_wy u_bt u_ps b_pt u_tg u_sn b_ip u_ic b_ah b_be b_me u_wd b_tr b_ld u_st b_wn u_id)), (b_ro, (arI G 5740 v_ro))]))) (g5_B G (va_A [(b_o, (oc12 u_th u_sa b_rf b_ro b_im b_ke u_fd b_tp u_td u_fr u_to u_so u_wo u_fa u_bd u_nc b_nl u_co b_op b_ar u_le b_pi b_pa u_pd u_od b_ws b_hw u_la b_se b_re u_bk u_va u_su u_ce u_ho u_wy u_bt u_ps b_pt u_tg u_sn b_ip u_ic b_ah b_be b_me u_wd b_tr b_ld u_st b_wn u_id)), (b_ro, (arI G 5740 v_ro))] sz)) (va_A [(b_o, (oc12 u_th u_sa b_rf b_ro b_im b_ke u_fd b_tp u_td u_fr u_to u_so u_wo u_fa u_bd u_nc b_nl u_co b_op b_ar u_le b_pi b_pa u_pd u_od b_ws b_hw u_la b_se b_re u_bk u_va u_su u_ce u_ho u_wy u_bt u_ps b_pt u_tg u_sn b_ip u_ic b_ah b_be b_me u_wd b_tr b_ld u_st b_wn u_id)), (b_ro, (arI G 5740 v_ro))] sz)) 0 0 (va_A [(b_o, (oc12 u_th u_sa b_rf b_ro b_im b_ke u_fd b_tp u_td u_fr u_to u_so u_wo u_fa u_bd u_nc b_nl u_co b_op b_ar u_le b_pi b_pa u_pd u_od b_ws b_hw u_la b_se b_re u_bk u_va u_su u_ce u_ho u_wy u_bt u_ps b_pt u_tg u_sn b_ip u_ic b_ah b_be b_me u_wd b_tr b_ld u_st b_wn u_id)), (b_ro, (arI G 5740 v_ro))] sz) := by
  refine Met.ofW (cc := cX12_ofGlass) (maxL := 3) (ret := (some .int)) (by decide) rfl ?_
  intro p e s m args below meth c s₁ B hml hv
  obtain ⟨rfl, hsz, hP, hK, hD0, hN, hT⟩ := hv
  have hx := B.exec
  have hb := B.bytes
  have hr := B.returns
  have hts : ∀ w ∈ tblG, w.before _ s = true := fun w h => atoms_spec (ws := (wsG yX12_ofGlass cX12_ofGlass 3 (some .int))) B.pre w (List.mem_cons_of_mem _ h)
  have hown : s.vm.findClass RX12 = some m.cls := findClass_of_methodNamed B.named
  have hlocks := B.notSynchronized
  subst hsz
  have hD := hD0.self (sz := s.heap.size)
  generalize hAe : va_A [(b_o, (oc12 u_th u_sa b_rf b_ro b_im b_ke u_fd b_tp u_td u_fr u_to u_so u_wo u_fa u_bd u_nc b_nl u_co b_op b_ar u_le b_pi b_pa u_pd u_od b_ws b_hw u_la b_se b_re u_bk u_va u_su u_ce u_ho u_wy u_bt u_ps b_pt u_tg u_sn b_ip u_ic b_ah b_be b_me u_wd b_tr b_ld u_st b_wn u_id)), (b_ro, (arI G 5740 v_ro))] s.heap.size = A at hD hT ⊢
  have hA : ∀ q : Nat, s.heap.size ≤ q → A q := fun q h => by rw [← hAe]; exact Or.inr h
  have hS : va_S A s.heap s.heap [] := va_S.rf
  have hP : va_P G.1 vwCl [(b_o, (oc12 u_th u_sa b_rf b_ro b_im b_ke u_fd b_tp u_td u_fr u_to u_so u_wo u_fa u_bd u_nc b_nl u_co b_op b_ar u_le b_pi b_pa u_pd u_od b_ws b_hw u_la b_se b_re u_bk u_va u_su u_ce u_ho u_wy u_bt u_ps b_pt u_tg u_sn b_ip u_ic b_ah b_be b_me u_wd b_tr b_ld u_st b_wn u_id)), (b_ro, (arI G 5740 v_ro))] s.heap := hP
  have hl := lv_entry ([.ref b_o, .int p_1, .int 2]) (n := 3) (Nat.le_of_ble_eq_true rfl)
  rw [lg_entry_eq]
  generalize (lg_sl ([.ref b_o, .int p_1, .int 2]) ++ List.replicate (3 - (lg_sl ([.ref b_o, .int p_1, .int 2])).length) Slot.unset).toArray = ls at hl ⊢
  have hl : lv_has ls 3 [(0, .ref b_o), (1, .int p_1), (2, .int 2)] := hl
  refine lv_aload_n hx hb dX12_ofGlass_0 rfl (lv_at hl 0 rfl) ?_
  refine va_get (D := G.1) (ci := 12) (v := .ref b_ro) (C := RX12) (T := TX12) (N := 52) hx hb hts inG_X12 hown hK hP 0 rfl rfl 3 (by decide) (hts _ fl_X12_13) (fun _ h9 => h9) rfl dX12_ofGlass_1 ?_
  refine lv_bipush (v := 80) hx hb dX12_ofGlass_4 (by decide) ?_
  refine lv_iconst (v := 5) hx hb dX12_ofGlass_6 (by decide) ?_
  refine W.eq (g2 := F0 m 7 ls [.int 5, .int 80, .ref b_ro]) rfl ?_
  refine lv_iload_n hx hb dX12_ofGlass_7 rfl (lv_at hl 1 rfl) ?_
  refine lv_imul hx hb dX12_ofGlass_8 ?_
  have t_1 : (5 * p_1).toInt = 5 * p_1.toInt := g5_imul (a := 5) (b := p_1.toInt) (by decide) (by rfl) (by omega) (by omega)
  refine lv_iadd hx hb dX12_ofGlass_9 ?_
  have t_2 : (80 + (5 * p_1)).toInt = 80 + (5 * p_1).toInt := g5_iadd (a := 80) (b := (5 * p_1).toInt) (by decide) (by rfl) (by omega) (by omega)
  refine lv_iload_n hx hb dX12_ofGlass_10 rfl (lv_at hl 2 rfl) ?_
  refine lv_iadd hx hb dX12_ofGlass_11 ?_
  have t_3 : ((80 + (5 * p_1)) + 2).toInt = (80 + (5 * p_1)).toInt + 2 := g5_iadd (a := (80 + (5 * p_1)).toInt) (b := 2) (by rfl) (by decide) (by omega) (by omega)
  refine W.eq (g2 := F0 m 12 ls [.int ((80 + (5 * p_1)) + 2), .ref b_ro]) rfl ?_
  refine va_iald hx hb hK hP 1 0 rfl rfl (i := ((80 + (5 * p_1)) + 2)) (vp_in_iff.mpr ⟨by omega, by omega⟩) dX12_ofGlass_12 ?_
  have hv9 : 0 ≤ (v_ro ((80 + (5 * p_1)) + 2).toNatClampNeg).toInt ∧ (v_ro ((80 + (5 * p_1)) + 2).toNatClampNeg).toInt ≤ 23 := mi_80_2 r_ro (by have zz := g5_clamp ((80 + (5 * p_1)) + 2); omega) (by have zz := g5_clamp ((80 + (5 * p_1)) + 2); omega) (by have zz := g5_clamp ((80 + (5 * p_1)) + 2); omega)
  exact W.iret (v := (v_ro ((80 + (5 * p_1)) + 2).toNatClampNeg)) hx hb hr (fun t ht hW => ⟨⟨(v_ro ((80 + (5 * p_1)) + 2).toNatClampNeg), [(b_o, (oc12 u_th u_sa b_rf b_ro b_im b_ke u_fd b_tp u_td u_fr u_to u_so u_wo u_fa u_bd u_nc b_nl u_co b_op b_ar u_le b_pi b_pa u_pd u_od b_ws b_hw u_la b_se b_re u_bk u_va u_su u_ce u_ho u_wy u_bt u_ps b_pt u_tg u_sn b_ip u_ic b_ah b_be b_me u_wd b_tr b_ld u_st b_wn u_id)), (b_ro, (arI G 5740 v_ro))], rfl, ⟨(v_ro ((80 + (5 * p_1)) + 2).toNatClampNeg), by omega, rfl, rfl⟩, by rw [ht]; exact hP.sub [0, 1] rfl, hD.sub [0, 1] (by decide) rfl⟩, hS.F ht⟩) hS.2.2 dX12_ofGlass_13
set_option maxHeartbeats 4000000 in
set_option maxRecDepth 100000 in
theorem n_ofGlass3 (l : Launch) (G : g5_G) (b_o b_ro b_rf b_im b_ke b_tp b_nl b_op b_ar b_pi b_pa b_ws b_hw b_se b_re b_pt b_ip b_ah b_be b_me b_tr b_ld b_wn : Nat) (sz : Nat) (u_th : Int32) (u_sa : Int32) (u_fd : Int32) (u_td : Int32) (u_fr : Int32) (u_to : Int32) (u_so : Int32) (u_fa : Int32) (u_bd : Int32) (u_nc : Int32) (u_co : Int32) (u_le : Int32) (u_pd : Int32) (u_od : Int32) (u_la : Int32) (u_bk : Int32) (u_ce : Int32) (u_ho : Int32) (u_wy : Int32) (u_bt : Int32) (u_ps : Int32) (u_tg : Int32) (u_sn : Int32) (u_ic : Int32) (u_wd : Int32) (u_id : Int32) (p_1 : Int32) (u_wo : Int64) (u_va : Int64) (u_su : Int64) (u_st : Int64) (v_ro : Nat → Int32) (h_u_td : 0 ≤ u_td.toInt ∧ u_td.toInt ≤ 400) (h_u_fr : 0 ≤ u_fr.toInt ∧ u_fr.toInt ≤ 400) (h_u_to : 0 ≤ u_to.toInt ∧ u_to.toInt ≤ 400) (h_u_bd : 0 ≤ u_bd.toInt ∧ u_bd.toInt ≤ 1) (h_u_nc : 0 ≤ u_nc.toInt ∧ u_nc.toInt ≤ 12) (h_u_co : 0 ≤ u_co.toInt ∧ u_co.toInt ≤ 400) (h_u_pd : 0 ≤ u_pd.toInt ∧ u_pd.toInt ≤ 400) (h_u_la : 0 ≤ u_la.toInt ∧ u_la.toInt ≤ 4840) (h_u_bk : 0 ≤ u_bk.toInt ∧ u_bk.toInt ≤ 1) (h_u_ce : 0 ≤ u_ce.toInt ∧ u_ce.toInt ≤ 63) (h_u_ho : 0 ≤ u_ho.toInt ∧ u_ho.toInt ≤ 23) (h_u_wy : 0 ≤ u_wy.toInt ∧ u_wy.toInt ≤ 3) (h_u_bt : 0 ≤ u_bt.toInt ∧ u_bt.toInt ≤ 1000000) (h_u_ps : 0 ≤ u_ps.toInt ∧ u_ps.toInt ≤ 200) (h_u_ic : 0 ≤ u_ic.toInt ∧ u_ic.toInt ≤ 1) (h_u_id : 0 ≤ u_id.toInt ∧ u_id.toInt ≤ 1) (h_p_1 : 0 ≤ p_1.toInt ∧ p_1.toInt ≤ 5) (r_ro : MI v_ro) : Met l yX12_ofGlass (wsG yX12_ofGlass cX12_ofGlass 3 (some .int)) ({ frames := 0, cells := 0, slots := 0, locals := 0 }) (va_Pc [.ref b_o, .int p_1, .int 3] (g5_P G [(b_o, (oc12 u_th u_sa b_rf b_ro b_im b_ke u_fd b_tp u_td u_fr u_to u_so u_wo u_fa u_bd u_nc b_nl u_co b_op b_ar u_le b_pi b_pa u_pd u_od b_ws b_hw u_la b_se b_re u_bk u_va u_su u_ce u_ho u_wy u_bt u_ps b_pt u_tg u_sn b_ip u_ic b_ah b_be b_me u_wd b_tr b_ld u_st b_wn u_id)), (b_ro, (arI G 5740 v_ro))] sz)) (va_Qi (fun (r : Int32) (u : va_W) => (∃ (o_r : Int32), (0 ≤ o_r.toInt ∧ o_r.toInt ≤ 10) ∧ (r = o_r) ∧ (u = [(b_o, (oc12 u_th u_sa b_rf b_ro b_im b_ke u_fd b_tp u_td u_fr u_to u_so u_wo u_fa u_bd u_nc b_nl u_co b_op b_ar u_le b_pi b_pa u_pd u_od b_ws b_hw u_la b_se b_re u_bk u_va u_su u_ce u_ho u_wy u_bt u_ps b_pt u_tg u_sn b_ip u_ic b_ah b_be b_me u_wd b_tr b_ld u_st b_wn u_id)), (b_ro, (arI G 5740 v_ro))]))) (g5_B G (va_A [(b_o, (oc12 u_th u_sa b_rf b_ro b_im b_ke u_fd b_tp u_td u_fr u_to u_so u_wo u_fa u_bd u_nc b_nl u_co b_op b_ar u_le b_pi b_pa u_pd u_od b_ws b_hw u_la b_se b_re u_bk u_va u_su u_ce u_ho u_wy u_bt u_ps b_pt u_tg u_sn b_ip u_ic b_ah b_be b_me u_wd b_tr b_ld u_st b_wn u_id)), (b_ro, (arI G 5740 v_ro))] sz)) (va_A [(b_o, (oc12 u_th u_sa b_rf b_ro b_im b_ke u_fd b_tp u_td u_fr u_to u_so u_wo u_fa u_bd u_nc b_nl u_co b_op b_ar u_le b_pi b_pa u_pd u_od b_ws b_hw u_la b_se b_re u_bk u_va u_su u_ce u_ho u_wy u_bt u_ps b_pt u_tg u_sn b_ip u_ic b_ah b_be b_me u_wd b_tr b_ld u_st b_wn u_id)), (b_ro, (arI G 5740 v_ro))] sz)) 0 0 (va_A [(b_o, (oc12 u_th u_sa b_rf b_ro b_im b_ke u_fd b_tp u_td u_fr u_to u_so u_wo u_fa u_bd u_nc b_nl u_co b_op b_ar u_le b_pi b_pa u_pd u_od b_ws b_hw u_la b_se b_re u_bk u_va u_su u_ce u_ho u_wy u_bt u_ps b_pt u_tg u_sn b_ip u_ic b_ah b_be b_me u_wd b_tr b_ld u_st b_wn u_id)), (b_ro, (arI G 5740 v_ro))] sz) := by
  refine Met.ofW (cc := cX12_ofGlass) (maxL := 3) (ret := (some .int)) (by decide) rfl ?_
  intro p e s m args below meth c s₁ B hml hv
  obtain ⟨rfl, hsz, hP, hK, hD0, hN, hT⟩ := hv
  have hx := B.exec
  have hb := B.bytes
  have hr := B.returns
  have hts : ∀ w ∈ tblG, w.before _ s = true := fun w h => atoms_spec (ws := (wsG yX12_ofGlass cX12_ofGlass 3 (some .int))) B.pre w (List.mem_cons_of_mem _ h)
  have hown : s.vm.findClass RX12 = some m.cls := findClass_of_methodNamed B.named
  have hlocks := B.notSynchronized
  subst hsz
  have hD := hD0.self (sz := s.heap.size)
  generalize hAe : va_A [(b_o, (oc12 u_th u_sa b_rf b_ro b_im b_ke u_fd b_tp u_td u_fr u_to u_so u_wo u_fa u_bd u_nc b_nl u_co b_op b_ar u_le b_pi b_pa u_pd u_od b_ws b_hw u_la b_se b_re u_bk u_va u_su u_ce u_ho u_wy u_bt u_ps b_pt u_tg u_sn b_ip u_ic b_ah b_be b_me u_wd b_tr b_ld u_st b_wn u_id)), (b_ro, (arI G 5740 v_ro))] s.heap.size = A at hD hT ⊢
  have hA : ∀ q : Nat, s.heap.size ≤ q → A q := fun q h => by rw [← hAe]; exact Or.inr h
  have hS : va_S A s.heap s.heap [] := va_S.rf
  have hP : va_P G.1 vwCl [(b_o, (oc12 u_th u_sa b_rf b_ro b_im b_ke u_fd b_tp u_td u_fr u_to u_so u_wo u_fa u_bd u_nc b_nl u_co b_op b_ar u_le b_pi b_pa u_pd u_od b_ws b_hw u_la b_se b_re u_bk u_va u_su u_ce u_ho u_wy u_bt u_ps b_pt u_tg u_sn b_ip u_ic b_ah b_be b_me u_wd b_tr b_ld u_st b_wn u_id)), (b_ro, (arI G 5740 v_ro))] s.heap := hP
  have hl := lv_entry ([.ref b_o, .int p_1, .int 3]) (n := 3) (Nat.le_of_ble_eq_true rfl)
  rw [lg_entry_eq]
  generalize (lg_sl ([.ref b_o, .int p_1, .int 3]) ++ List.replicate (3 - (lg_sl ([.ref b_o, .int p_1, .int 3])).length) Slot.unset).toArray = ls at hl ⊢
  have hl : lv_has ls 3 [(0, .ref b_o), (1, .int p_1), (2, .int 3)] := hl
  refine lv_aload_n hx hb dX12_ofGlass_0 rfl (lv_at hl 0 rfl) ?_
  refine va_get (D := G.1) (ci := 12) (v := .ref b_ro) (C := RX12) (T := TX12) (N := 52) hx hb hts inG_X12 hown hK hP 0 rfl rfl 3 (by decide) (hts _ fl_X12_13) (fun _ h9 => h9) rfl dX12_ofGlass_1 ?_
  refine lv_bipush (v := 80) hx hb dX12_ofGlass_4 (by decide) ?_
  refine lv_iconst (v := 5) hx hb dX12_ofGlass_6 (by decide) ?_
  refine W.eq (g2 := F0 m 7 ls [.int 5, .int 80, .ref b_ro]) rfl ?_
  refine lv_iload_n hx hb dX12_ofGlass_7 rfl (lv_at hl 1 rfl) ?_
  refine lv_imul hx hb dX12_ofGlass_8 ?_
  have t_1 : (5 * p_1).toInt = 5 * p_1.toInt := g5_imul (a := 5) (b := p_1.toInt) (by decide) (by rfl) (by omega) (by omega)
  refine lv_iadd hx hb dX12_ofGlass_9 ?_
  have t_2 : (80 + (5 * p_1)).toInt = 80 + (5 * p_1).toInt := g5_iadd (a := 80) (b := (5 * p_1).toInt) (by decide) (by rfl) (by omega) (by omega)
  refine lv_iload_n hx hb dX12_ofGlass_10 rfl (lv_at hl 2 rfl) ?_
  refine lv_iadd hx hb dX12_ofGlass_11 ?_
  have t_3 : ((80 + (5 * p_1)) + 3).toInt = (80 + (5 * p_1)).toInt + 3 := g5_iadd (a := (80 + (5 * p_1)).toInt) (b := 3) (by rfl) (by decide) (by omega) (by omega)
  refine W.eq (g2 := F0 m 12 ls [.int ((80 + (5 * p_1)) + 3), .ref b_ro]) rfl ?_
  refine va_iald hx hb hK hP 1 0 rfl rfl (i := ((80 + (5 * p_1)) + 3)) (vp_in_iff.mpr ⟨by omega, by omega⟩) dX12_ofGlass_12 ?_
  have hv9 : 0 ≤ (v_ro ((80 + (5 * p_1)) + 3).toNatClampNeg).toInt ∧ (v_ro ((80 + (5 * p_1)) + 3).toNatClampNeg).toInt ≤ 10 := mi_80_3 r_ro (by have zz := g5_clamp ((80 + (5 * p_1)) + 3); omega) (by have zz := g5_clamp ((80 + (5 * p_1)) + 3); omega) (by have zz := g5_clamp ((80 + (5 * p_1)) + 3); omega)
  exact W.iret (v := (v_ro ((80 + (5 * p_1)) + 3).toNatClampNeg)) hx hb hr (fun t ht hW => ⟨⟨(v_ro ((80 + (5 * p_1)) + 3).toNatClampNeg), [(b_o, (oc12 u_th u_sa b_rf b_ro b_im b_ke u_fd b_tp u_td u_fr u_to u_so u_wo u_fa u_bd u_nc b_nl u_co b_op b_ar u_le b_pi b_pa u_pd u_od b_ws b_hw u_la b_se b_re u_bk u_va u_su u_ce u_ho u_wy u_bt u_ps b_pt u_tg u_sn b_ip u_ic b_ah b_be b_me u_wd b_tr b_ld u_st b_wn u_id)), (b_ro, (arI G 5740 v_ro))], rfl, ⟨(v_ro ((80 + (5 * p_1)) + 3).toNatClampNeg), by omega, rfl, rfl⟩, by rw [ht]; exact hP.sub [0, 1] rfl, hD.sub [0, 1] (by decide) rfl⟩, hS.F ht⟩) hS.2.2 dX12_ofGlass_13
theorem dgX12_asks_0 : ∀ r ∈ ([(0, (.aload_n 0, 1)), (1, (.getfield 13, 3)), (4, (.iconst 3, 1)), (5, (.iaload, 1)), (6, (.iconst (-1), 1)), (7, (.if_icmp .ne 6, 3)), (10, (.iload 4, 2)), (12, (.ireturn, 1)), (13, (.aload_n 0, 1)), (14, (.sipush 340, 3)), (17, (.sipush 900, 3)), (20, (.aload_n 0, 1)), (21, (.getfield 13, 3)), (24, (.iconst 3, 1)), (25, (.iaload, 1)), (26, (.imul, 1)), (27, (.iadd, 1)), (28, (.putfield 329, 3)), (31, (.aload_n 0, 1)), (32, (.getfield 76, 3)), (35, (.iconst 1, 1)), (36, (.iload_n 2, 1)), (37, (.i2l, 1)), (38, (.lastore, 1)), (39, (.aload_n 0, 1)), (40, (.getfield 76, 3)), (43, (.iconst 2, 1)), (44, (.aload_n 0, 1)), (45, (.getfield 349, 3)), (48, (.bipush 8, 2)), (50, (.irem, 1)), (51, (.i2l, 1)), (52, (.lastore, 1)), (53, (.aload_n 0, 1)), (54, (.getfield 76, 3)), (57, (.iconst 3, 1)), (58, (.aload_n 0, 1)), (59, (.getfield 349, 3)), (62, (.bipush 8, 2)), (64, (.idiv, 1))] : List (Nat × (Instr × Nat))), decode cX12_asks r.1 = .ok r.2 := by decide +kernel
theorem dX12_asks_0 : decode cX12_asks 0 = .ok (.aload_n 0, 1) := dgX12_asks_0 (0, (.aload_n 0, 1)) (List.mem_of_getElem? (i := 0) rfl)
theorem dX12_asks_1 : decode cX12_asks 1 = .ok (.getfield 13, 3) := dgX12_asks_0 (1, (.getfield 13, 3)) (List.mem_of_getElem? (i := 1) rfl)
theorem dX12_asks_4 : decode cX12_asks 4 = .ok (.iconst 3, 1) := dgX12_asks_0 (4, (.iconst 3, 1)) (List.mem_of_getElem? (i := 2) rfl)
theorem dX12_asks_5 : decode cX12_asks 5 = .ok (.iaload, 1) := dgX12_asks_0 (5, (.iaload, 1)) (List.mem_of_getElem? (i := 3) rfl)
theorem dX12_asks_6 : decode cX12_asks 6 = .ok (.iconst (-1), 1) := dgX12_asks_0 (6, (.iconst (-1), 1)) (List.mem_of_getElem? (i := 4) rfl)
theorem dX12_asks_7 : decode cX12_asks 7 = .ok (.if_icmp .ne 6, 3) := dgX12_asks_0 (7, (.if_icmp .ne 6, 3)) (List.mem_of_getElem? (i := 5) rfl)
theorem dX12_asks_10 : decode cX12_asks 10 = .ok (.iload 4, 2) := dgX12_asks_0 (10, (.iload 4, 2)) (List.mem_of_getElem? (i := 6) rfl)
theorem dX12_asks_12 : decode cX12_asks 12 = .ok (.ireturn, 1) := dgX12_asks_0 (12, (.ireturn, 1)) (List.mem_of_getElem? (i := 7) rfl)
theorem dX12_asks_13 : decode cX12_asks 13 = .ok (.aload_n 0, 1) := dgX12_asks_0 (13, (.aload_n 0, 1)) (List.mem_of_getElem? (i := 8) rfl)
theorem dX12_asks_14 : decode cX12_asks 14 = .ok (.sipush 340, 3) := dgX12_asks_0 (14, (.sipush 340, 3)) (List.mem_of_getElem? (i := 9) rfl)
theorem dX12_asks_17 : decode cX12_asks 17 = .ok (.sipush 900, 3) := dgX12_asks_0 (17, (.sipush 900, 3)) (List.mem_of_getElem? (i := 10) rfl)
theorem dX12_asks_20 : decode cX12_asks 20 = .ok (.aload_n 0, 1) := dgX12_asks_0 (20, (.aload_n 0, 1)) (List.mem_of_getElem? (i := 11) rfl)
theorem dX12_asks_21 : decode cX12_asks 21 = .ok (.getfield 13, 3) := dgX12_asks_0 (21, (.getfield 13, 3)) (List.mem_of_getElem? (i := 12) rfl)
theorem dX12_asks_24 : decode cX12_asks 24 = .ok (.iconst 3, 1) := dgX12_asks_0 (24, (.iconst 3, 1)) (List.mem_of_getElem? (i := 13) rfl)
theorem dX12_asks_25 : decode cX12_asks 25 = .ok (.iaload, 1) := dgX12_asks_0 (25, (.iaload, 1)) (List.mem_of_getElem? (i := 14) rfl)
theorem dX12_asks_26 : decode cX12_asks 26 = .ok (.imul, 1) := dgX12_asks_0 (26, (.imul, 1)) (List.mem_of_getElem? (i := 15) rfl)
theorem dX12_asks_27 : decode cX12_asks 27 = .ok (.iadd, 1) := dgX12_asks_0 (27, (.iadd, 1)) (List.mem_of_getElem? (i := 16) rfl)
theorem dX12_asks_28 : decode cX12_asks 28 = .ok (.putfield 329, 3) := dgX12_asks_0 (28, (.putfield 329, 3)) (List.mem_of_getElem? (i := 17) rfl)
theorem dX12_asks_31 : decode cX12_asks 31 = .ok (.aload_n 0, 1) := dgX12_asks_0 (31, (.aload_n 0, 1)) (List.mem_of_getElem? (i := 18) rfl)
theorem dX12_asks_32 : decode cX12_asks 32 = .ok (.getfield 76, 3) := dgX12_asks_0 (32, (.getfield 76, 3)) (List.mem_of_getElem? (i := 19) rfl)
theorem dX12_asks_35 : decode cX12_asks 35 = .ok (.iconst 1, 1) := dgX12_asks_0 (35, (.iconst 1, 1)) (List.mem_of_getElem? (i := 20) rfl)
theorem dX12_asks_36 : decode cX12_asks 36 = .ok (.iload_n 2, 1) := dgX12_asks_0 (36, (.iload_n 2, 1)) (List.mem_of_getElem? (i := 21) rfl)
theorem dX12_asks_37 : decode cX12_asks 37 = .ok (.i2l, 1) := dgX12_asks_0 (37, (.i2l, 1)) (List.mem_of_getElem? (i := 22) rfl)
theorem dX12_asks_38 : decode cX12_asks 38 = .ok (.lastore, 1) := dgX12_asks_0 (38, (.lastore, 1)) (List.mem_of_getElem? (i := 23) rfl)
theorem dX12_asks_39 : decode cX12_asks 39 = .ok (.aload_n 0, 1) := dgX12_asks_0 (39, (.aload_n 0, 1)) (List.mem_of_getElem? (i := 24) rfl)
theorem dX12_asks_40 : decode cX12_asks 40 = .ok (.getfield 76, 3) := dgX12_asks_0 (40, (.getfield 76, 3)) (List.mem_of_getElem? (i := 25) rfl)
theorem dX12_asks_43 : decode cX12_asks 43 = .ok (.iconst 2, 1) := dgX12_asks_0 (43, (.iconst 2, 1)) (List.mem_of_getElem? (i := 26) rfl)
theorem dX12_asks_44 : decode cX12_asks 44 = .ok (.aload_n 0, 1) := dgX12_asks_0 (44, (.aload_n 0, 1)) (List.mem_of_getElem? (i := 27) rfl)
theorem dX12_asks_45 : decode cX12_asks 45 = .ok (.getfield 349, 3) := dgX12_asks_0 (45, (.getfield 349, 3)) (List.mem_of_getElem? (i := 28) rfl)
theorem dX12_asks_48 : decode cX12_asks 48 = .ok (.bipush 8, 2) := dgX12_asks_0 (48, (.bipush 8, 2)) (List.mem_of_getElem? (i := 29) rfl)
theorem dX12_asks_50 : decode cX12_asks 50 = .ok (.irem, 1) := dgX12_asks_0 (50, (.irem, 1)) (List.mem_of_getElem? (i := 30) rfl)
theorem dX12_asks_51 : decode cX12_asks 51 = .ok (.i2l, 1) := dgX12_asks_0 (51, (.i2l, 1)) (List.mem_of_getElem? (i := 31) rfl)
theorem dX12_asks_52 : decode cX12_asks 52 = .ok (.lastore, 1) := dgX12_asks_0 (52, (.lastore, 1)) (List.mem_of_getElem? (i := 32) rfl)
theorem dX12_asks_53 : decode cX12_asks 53 = .ok (.aload_n 0, 1) := dgX12_asks_0 (53, (.aload_n 0, 1)) (List.mem_of_getElem? (i := 33) rfl)
theorem dX12_asks_54 : decode cX12_asks 54 = .ok (.getfield 76, 3) := dgX12_asks_0 (54, (.getfield 76, 3)) (List.mem_of_getElem? (i := 34) rfl)
theorem dX12_asks_57 : decode cX12_asks 57 = .ok (.iconst 3, 1) := dgX12_asks_0 (57, (.iconst 3, 1)) (List.mem_of_getElem? (i := 35) rfl)
theorem dX12_asks_58 : decode cX12_asks 58 = .ok (.aload_n 0, 1) := dgX12_asks_0 (58, (.aload_n 0, 1)) (List.mem_of_getElem? (i := 36) rfl)
theorem dX12_asks_59 : decode cX12_asks 59 = .ok (.getfield 349, 3) := dgX12_asks_0 (59, (.getfield 349, 3)) (List.mem_of_getElem? (i := 37) rfl)
theorem dX12_asks_62 : decode cX12_asks 62 = .ok (.bipush 8, 2) := dgX12_asks_0 (62, (.bipush 8, 2)) (List.mem_of_getElem? (i := 38) rfl)
theorem dX12_asks_64 : decode cX12_asks 64 = .ok (.idiv, 1) := dgX12_asks_0 (64, (.idiv, 1)) (List.mem_of_getElem? (i := 39) rfl)
theorem dgX12_asks_1 : ∀ r ∈ ([(65, (.i2l, 1)), (66, (.lastore, 1)), (67, (.aload_n 0, 1)), (68, (.getfield 76, 3)), (71, (.iconst 4, 1)), (72, (.aload_n 0, 1)), (73, (.getfield 352, 3)), (76, (.i2l, 1)), (77, (.lastore, 1)), (78, (.aload_n 0, 1)), (79, (.getfield 76, 3)), (82, (.iconst 5, 1)), (83, (.aload_n 0, 1)), (84, (.getfield 355, 3)), (87, (.i2l, 1)), (88, (.lastore, 1)), (89, (.aload_n 0, 1)), (90, (.getfield 76, 3)), (93, (.bipush 6, 2)), (95, (.iload_n 3, 1)), (96, (.i2l, 1)), (97, (.lastore, 1)), (98, (.aload_n 0, 1)), (99, (.getfield 76, 3)), (102, (.bipush 7, 2)), (104, (.aload_n 0, 1)), (105, (.getfield 358, 3)), (108, (.i2l, 1)), (109, (.lastore, 1)), (110, (.aload_n 0, 1)), (111, (.getfield 76, 3)), (114, (.bipush 8, 2)), (116, (.aload_n 0, 1)), (117, (.getfield 361, 3)), (120, (.sipush 1000, 3)), (123, (.idiv, 1)), (124, (.i2l, 1)), (125, (.lastore, 1)), (126, (.iload 4, 2)), (128, (.i2l, 1))] : List (Nat × (Instr × Nat))), decode cX12_asks r.1 = .ok r.2 := by decide +kernel
theorem dX12_asks_65 : decode cX12_asks 65 = .ok (.i2l, 1) := dgX12_asks_1 (65, (.i2l, 1)) (List.mem_of_getElem? (i := 0) rfl)
theorem dX12_asks_66 : decode cX12_asks 66 = .ok (.lastore, 1) := dgX12_asks_1 (66, (.lastore, 1)) (List.mem_of_getElem? (i := 1) rfl)
theorem dX12_asks_67 : decode cX12_asks 67 = .ok (.aload_n 0, 1) := dgX12_asks_1 (67, (.aload_n 0, 1)) (List.mem_of_getElem? (i := 2) rfl)
theorem dX12_asks_68 : decode cX12_asks 68 = .ok (.getfield 76, 3) := dgX12_asks_1 (68, (.getfield 76, 3)) (List.mem_of_getElem? (i := 3) rfl)
theorem dX12_asks_71 : decode cX12_asks 71 = .ok (.iconst 4, 1) := dgX12_asks_1 (71, (.iconst 4, 1)) (List.mem_of_getElem? (i := 4) rfl)
theorem dX12_asks_72 : decode cX12_asks 72 = .ok (.aload_n 0, 1) := dgX12_asks_1 (72, (.aload_n 0, 1)) (List.mem_of_getElem? (i := 5) rfl)
theorem dX12_asks_73 : decode cX12_asks 73 = .ok (.getfield 352, 3) := dgX12_asks_1 (73, (.getfield 352, 3)) (List.mem_of_getElem? (i := 6) rfl)
theorem dX12_asks_76 : decode cX12_asks 76 = .ok (.i2l, 1) := dgX12_asks_1 (76, (.i2l, 1)) (List.mem_of_getElem? (i := 7) rfl)
theorem dX12_asks_77 : decode cX12_asks 77 = .ok (.lastore, 1) := dgX12_asks_1 (77, (.lastore, 1)) (List.mem_of_getElem? (i := 8) rfl)
theorem dX12_asks_78 : decode cX12_asks 78 = .ok (.aload_n 0, 1) := dgX12_asks_1 (78, (.aload_n 0, 1)) (List.mem_of_getElem? (i := 9) rfl)
theorem dX12_asks_79 : decode cX12_asks 79 = .ok (.getfield 76, 3) := dgX12_asks_1 (79, (.getfield 76, 3)) (List.mem_of_getElem? (i := 10) rfl)
theorem dX12_asks_82 : decode cX12_asks 82 = .ok (.iconst 5, 1) := dgX12_asks_1 (82, (.iconst 5, 1)) (List.mem_of_getElem? (i := 11) rfl)
theorem dX12_asks_83 : decode cX12_asks 83 = .ok (.aload_n 0, 1) := dgX12_asks_1 (83, (.aload_n 0, 1)) (List.mem_of_getElem? (i := 12) rfl)
theorem dX12_asks_84 : decode cX12_asks 84 = .ok (.getfield 355, 3) := dgX12_asks_1 (84, (.getfield 355, 3)) (List.mem_of_getElem? (i := 13) rfl)
theorem dX12_asks_87 : decode cX12_asks 87 = .ok (.i2l, 1) := dgX12_asks_1 (87, (.i2l, 1)) (List.mem_of_getElem? (i := 14) rfl)
theorem dX12_asks_88 : decode cX12_asks 88 = .ok (.lastore, 1) := dgX12_asks_1 (88, (.lastore, 1)) (List.mem_of_getElem? (i := 15) rfl)
theorem dX12_asks_89 : decode cX12_asks 89 = .ok (.aload_n 0, 1) := dgX12_asks_1 (89, (.aload_n 0, 1)) (List.mem_of_getElem? (i := 16) rfl)
theorem dX12_asks_90 : decode cX12_asks 90 = .ok (.getfield 76, 3) := dgX12_asks_1 (90, (.getfield 76, 3)) (List.mem_of_getElem? (i := 17) rfl)
theorem dX12_asks_93 : decode cX12_asks 93 = .ok (.bipush 6, 2) := dgX12_asks_1 (93, (.bipush 6, 2)) (List.mem_of_getElem? (i := 18) rfl)
theorem dX12_asks_95 : decode cX12_asks 95 = .ok (.iload_n 3, 1) := dgX12_asks_1 (95, (.iload_n 3, 1)) (List.mem_of_getElem? (i := 19) rfl)
theorem dX12_asks_96 : decode cX12_asks 96 = .ok (.i2l, 1) := dgX12_asks_1 (96, (.i2l, 1)) (List.mem_of_getElem? (i := 20) rfl)
theorem dX12_asks_97 : decode cX12_asks 97 = .ok (.lastore, 1) := dgX12_asks_1 (97, (.lastore, 1)) (List.mem_of_getElem? (i := 21) rfl)
theorem dX12_asks_98 : decode cX12_asks 98 = .ok (.aload_n 0, 1) := dgX12_asks_1 (98, (.aload_n 0, 1)) (List.mem_of_getElem? (i := 22) rfl)
theorem dX12_asks_99 : decode cX12_asks 99 = .ok (.getfield 76, 3) := dgX12_asks_1 (99, (.getfield 76, 3)) (List.mem_of_getElem? (i := 23) rfl)
theorem dX12_asks_102 : decode cX12_asks 102 = .ok (.bipush 7, 2) := dgX12_asks_1 (102, (.bipush 7, 2)) (List.mem_of_getElem? (i := 24) rfl)
theorem dX12_asks_104 : decode cX12_asks 104 = .ok (.aload_n 0, 1) := dgX12_asks_1 (104, (.aload_n 0, 1)) (List.mem_of_getElem? (i := 25) rfl)
theorem dX12_asks_105 : decode cX12_asks 105 = .ok (.getfield 358, 3) := dgX12_asks_1 (105, (.getfield 358, 3)) (List.mem_of_getElem? (i := 26) rfl)
theorem dX12_asks_108 : decode cX12_asks 108 = .ok (.i2l, 1) := dgX12_asks_1 (108, (.i2l, 1)) (List.mem_of_getElem? (i := 27) rfl)
theorem dX12_asks_109 : decode cX12_asks 109 = .ok (.lastore, 1) := dgX12_asks_1 (109, (.lastore, 1)) (List.mem_of_getElem? (i := 28) rfl)
theorem dX12_asks_110 : decode cX12_asks 110 = .ok (.aload_n 0, 1) := dgX12_asks_1 (110, (.aload_n 0, 1)) (List.mem_of_getElem? (i := 29) rfl)
theorem dX12_asks_111 : decode cX12_asks 111 = .ok (.getfield 76, 3) := dgX12_asks_1 (111, (.getfield 76, 3)) (List.mem_of_getElem? (i := 30) rfl)
theorem dX12_asks_114 : decode cX12_asks 114 = .ok (.bipush 8, 2) := dgX12_asks_1 (114, (.bipush 8, 2)) (List.mem_of_getElem? (i := 31) rfl)
theorem dX12_asks_116 : decode cX12_asks 116 = .ok (.aload_n 0, 1) := dgX12_asks_1 (116, (.aload_n 0, 1)) (List.mem_of_getElem? (i := 32) rfl)
theorem dX12_asks_117 : decode cX12_asks 117 = .ok (.getfield 361, 3) := dgX12_asks_1 (117, (.getfield 361, 3)) (List.mem_of_getElem? (i := 33) rfl)
theorem dX12_asks_120 : decode cX12_asks 120 = .ok (.sipush 1000, 3) := dgX12_asks_1 (120, (.sipush 1000, 3)) (List.mem_of_getElem? (i := 34) rfl)
theorem dX12_asks_123 : decode cX12_asks 123 = .ok (.idiv, 1) := dgX12_asks_1 (123, (.idiv, 1)) (List.mem_of_getElem? (i := 35) rfl)
theorem dX12_asks_124 : decode cX12_asks 124 = .ok (.i2l, 1) := dgX12_asks_1 (124, (.i2l, 1)) (List.mem_of_getElem? (i := 36) rfl)
theorem dX12_asks_125 : decode cX12_asks 125 = .ok (.lastore, 1) := dgX12_asks_1 (125, (.lastore, 1)) (List.mem_of_getElem? (i := 37) rfl)
theorem dX12_asks_126 : decode cX12_asks 126 = .ok (.iload 4, 2) := dgX12_asks_1 (126, (.iload 4, 2)) (List.mem_of_getElem? (i := 38) rfl)
theorem dX12_asks_128 : decode cX12_asks 128 = .ok (.i2l, 1) := dgX12_asks_1 (128, (.i2l, 1)) (List.mem_of_getElem? (i := 39) rfl)
theorem dgX12_asks_2 : ∀ r ∈ ([(129, (.lstore 6, 2)), (131, (.iconst 0, 1)), (132, (.istore 8, 2)), (134, (.iload 8, 2)), (136, (.aload_n 0, 1)), (137, (.getfield 13, 3)), (140, (.aload_n 0, 1)), (141, (.getfield 329, 3)), (144, (.iconst 1, 1)), (145, (.iadd, 1)), (146, (.iaload, 1)), (147, (.if_icmp .ge 58, 3)), (150, (.aload_n 0, 1)), (151, (.getfield 329, 3)), (154, (.iconst 2, 1)), (155, (.iadd, 1)), (156, (.bipush 8, 2)), (158, (.iload 8, 2)), (160, (.imul, 1)), (161, (.iadd, 1)), (162, (.istore 9, 2)), (164, (.aload_n 0, 1)), (165, (.getfield 13, 3)), (168, (.iload 9, 2)), (170, (.iaload, 1)), (171, (.iload_n 1, 1)), (172, (.if_icmp .ne 27, 3)), (175, (.aload_n 0, 1)), (176, (.iload 9, 2)), (178, (.invokevirtual 364, 3)), (181, (.ifCond .eq 18, 3)), (184, (.iload_n 1, 1)), (185, (.iconst 2, 1)), (186, (.if_icmp .ge 10, 3)), (189, (.aload_n 0, 1)), (190, (.getfield 346, 3)), (193, (.goto 4, 3)), (196, (.lconst 1, 1)), (197, (.lstore 6, 2)), (199, (.iinc 8 1, 3))] : List (Nat × (Instr × Nat))), decode cX12_asks r.1 = .ok r.2 := by decide +kernel
theorem dX12_asks_129 : decode cX12_asks 129 = .ok (.lstore 6, 2) := dgX12_asks_2 (129, (.lstore 6, 2)) (List.mem_of_getElem? (i := 0) rfl)
theorem dX12_asks_131 : decode cX12_asks 131 = .ok (.iconst 0, 1) := dgX12_asks_2 (131, (.iconst 0, 1)) (List.mem_of_getElem? (i := 1) rfl)
theorem dX12_asks_132 : decode cX12_asks 132 = .ok (.istore 8, 2) := dgX12_asks_2 (132, (.istore 8, 2)) (List.mem_of_getElem? (i := 2) rfl)
theorem dX12_asks_134 : decode cX12_asks 134 = .ok (.iload 8, 2) := dgX12_asks_2 (134, (.iload 8, 2)) (List.mem_of_getElem? (i := 3) rfl)
theorem dX12_asks_136 : decode cX12_asks 136 = .ok (.aload_n 0, 1) := dgX12_asks_2 (136, (.aload_n 0, 1)) (List.mem_of_getElem? (i := 4) rfl)
theorem dX12_asks_137 : decode cX12_asks 137 = .ok (.getfield 13, 3) := dgX12_asks_2 (137, (.getfield 13, 3)) (List.mem_of_getElem? (i := 5) rfl)
theorem dX12_asks_140 : decode cX12_asks 140 = .ok (.aload_n 0, 1) := dgX12_asks_2 (140, (.aload_n 0, 1)) (List.mem_of_getElem? (i := 6) rfl)
theorem dX12_asks_141 : decode cX12_asks 141 = .ok (.getfield 329, 3) := dgX12_asks_2 (141, (.getfield 329, 3)) (List.mem_of_getElem? (i := 7) rfl)
theorem dX12_asks_144 : decode cX12_asks 144 = .ok (.iconst 1, 1) := dgX12_asks_2 (144, (.iconst 1, 1)) (List.mem_of_getElem? (i := 8) rfl)
theorem dX12_asks_145 : decode cX12_asks 145 = .ok (.iadd, 1) := dgX12_asks_2 (145, (.iadd, 1)) (List.mem_of_getElem? (i := 9) rfl)
theorem dX12_asks_146 : decode cX12_asks 146 = .ok (.iaload, 1) := dgX12_asks_2 (146, (.iaload, 1)) (List.mem_of_getElem? (i := 10) rfl)
theorem dX12_asks_147 : decode cX12_asks 147 = .ok (.if_icmp .ge 58, 3) := dgX12_asks_2 (147, (.if_icmp .ge 58, 3)) (List.mem_of_getElem? (i := 11) rfl)
theorem dX12_asks_150 : decode cX12_asks 150 = .ok (.aload_n 0, 1) := dgX12_asks_2 (150, (.aload_n 0, 1)) (List.mem_of_getElem? (i := 12) rfl)
theorem dX12_asks_151 : decode cX12_asks 151 = .ok (.getfield 329, 3) := dgX12_asks_2 (151, (.getfield 329, 3)) (List.mem_of_getElem? (i := 13) rfl)
theorem dX12_asks_154 : decode cX12_asks 154 = .ok (.iconst 2, 1) := dgX12_asks_2 (154, (.iconst 2, 1)) (List.mem_of_getElem? (i := 14) rfl)
theorem dX12_asks_155 : decode cX12_asks 155 = .ok (.iadd, 1) := dgX12_asks_2 (155, (.iadd, 1)) (List.mem_of_getElem? (i := 15) rfl)
theorem dX12_asks_156 : decode cX12_asks 156 = .ok (.bipush 8, 2) := dgX12_asks_2 (156, (.bipush 8, 2)) (List.mem_of_getElem? (i := 16) rfl)
theorem dX12_asks_158 : decode cX12_asks 158 = .ok (.iload 8, 2) := dgX12_asks_2 (158, (.iload 8, 2)) (List.mem_of_getElem? (i := 17) rfl)
theorem dX12_asks_160 : decode cX12_asks 160 = .ok (.imul, 1) := dgX12_asks_2 (160, (.imul, 1)) (List.mem_of_getElem? (i := 18) rfl)
theorem dX12_asks_161 : decode cX12_asks 161 = .ok (.iadd, 1) := dgX12_asks_2 (161, (.iadd, 1)) (List.mem_of_getElem? (i := 19) rfl)
theorem dX12_asks_162 : decode cX12_asks 162 = .ok (.istore 9, 2) := dgX12_asks_2 (162, (.istore 9, 2)) (List.mem_of_getElem? (i := 20) rfl)
theorem dX12_asks_164 : decode cX12_asks 164 = .ok (.aload_n 0, 1) := dgX12_asks_2 (164, (.aload_n 0, 1)) (List.mem_of_getElem? (i := 21) rfl)
theorem dX12_asks_165 : decode cX12_asks 165 = .ok (.getfield 13, 3) := dgX12_asks_2 (165, (.getfield 13, 3)) (List.mem_of_getElem? (i := 22) rfl)
theorem dX12_asks_168 : decode cX12_asks 168 = .ok (.iload 9, 2) := dgX12_asks_2 (168, (.iload 9, 2)) (List.mem_of_getElem? (i := 23) rfl)
theorem dX12_asks_170 : decode cX12_asks 170 = .ok (.iaload, 1) := dgX12_asks_2 (170, (.iaload, 1)) (List.mem_of_getElem? (i := 24) rfl)
theorem dX12_asks_171 : decode cX12_asks 171 = .ok (.iload_n 1, 1) := dgX12_asks_2 (171, (.iload_n 1, 1)) (List.mem_of_getElem? (i := 25) rfl)
theorem dX12_asks_172 : decode cX12_asks 172 = .ok (.if_icmp .ne 27, 3) := dgX12_asks_2 (172, (.if_icmp .ne 27, 3)) (List.mem_of_getElem? (i := 26) rfl)
theorem dX12_asks_175 : decode cX12_asks 175 = .ok (.aload_n 0, 1) := dgX12_asks_2 (175, (.aload_n 0, 1)) (List.mem_of_getElem? (i := 27) rfl)
theorem dX12_asks_176 : decode cX12_asks 176 = .ok (.iload 9, 2) := dgX12_asks_2 (176, (.iload 9, 2)) (List.mem_of_getElem? (i := 28) rfl)
theorem dX12_asks_178 : decode cX12_asks 178 = .ok (.invokevirtual 364, 3) := dgX12_asks_2 (178, (.invokevirtual 364, 3)) (List.mem_of_getElem? (i := 29) rfl)
theorem dX12_asks_181 : decode cX12_asks 181 = .ok (.ifCond .eq 18, 3) := dgX12_asks_2 (181, (.ifCond .eq 18, 3)) (List.mem_of_getElem? (i := 30) rfl)
theorem dX12_asks_184 : decode cX12_asks 184 = .ok (.iload_n 1, 1) := dgX12_asks_2 (184, (.iload_n 1, 1)) (List.mem_of_getElem? (i := 31) rfl)
theorem dX12_asks_185 : decode cX12_asks 185 = .ok (.iconst 2, 1) := dgX12_asks_2 (185, (.iconst 2, 1)) (List.mem_of_getElem? (i := 32) rfl)
theorem dX12_asks_186 : decode cX12_asks 186 = .ok (.if_icmp .ge 10, 3) := dgX12_asks_2 (186, (.if_icmp .ge 10, 3)) (List.mem_of_getElem? (i := 33) rfl)
theorem dX12_asks_189 : decode cX12_asks 189 = .ok (.aload_n 0, 1) := dgX12_asks_2 (189, (.aload_n 0, 1)) (List.mem_of_getElem? (i := 34) rfl)
theorem dX12_asks_190 : decode cX12_asks 190 = .ok (.getfield 346, 3) := dgX12_asks_2 (190, (.getfield 346, 3)) (List.mem_of_getElem? (i := 35) rfl)
theorem dX12_asks_193 : decode cX12_asks 193 = .ok (.goto 4, 3) := dgX12_asks_2 (193, (.goto 4, 3)) (List.mem_of_getElem? (i := 36) rfl)
theorem dX12_asks_196 : decode cX12_asks 196 = .ok (.lconst 1, 1) := dgX12_asks_2 (196, (.lconst 1, 1)) (List.mem_of_getElem? (i := 37) rfl)
theorem dX12_asks_197 : decode cX12_asks 197 = .ok (.lstore 6, 2) := dgX12_asks_2 (197, (.lstore 6, 2)) (List.mem_of_getElem? (i := 38) rfl)
theorem dX12_asks_199 : decode cX12_asks 199 = .ok (.iinc 8 1, 3) := dgX12_asks_2 (199, (.iinc 8 1, 3)) (List.mem_of_getElem? (i := 39) rfl)
theorem dgX12_asks_3 : ∀ r ∈ ([(202, (.goto (-68), 3)), (205, (.lload 6, 2)), (207, (.lconst 0, 1)), (208, (.lcmp, 1)), (209, (.ifCond .ge 7, 3)), (212, (.iconst 0, 1)), (213, (.goto 20, 3)), (216, (.lload 6, 2)), (218, (.iload 5, 2)), (220, (.i2l, 1)), (221, (.lcmp, 1)), (222, (.ifCond .le 8, 3)), (225, (.iload 5, 2)), (227, (.goto 6, 3)), (230, (.lload 6, 2)), (232, (.l2i, 1)), (233, (.ireturn, 1))] : List (Nat × (Instr × Nat))), decode cX12_asks r.1 = .ok r.2 := by decide +kernel
theorem dX12_asks_202 : decode cX12_asks 202 = .ok (.goto (-68), 3) := dgX12_asks_3 (202, (.goto (-68), 3)) (List.mem_of_getElem? (i := 0) rfl)
theorem dX12_asks_205 : decode cX12_asks 205 = .ok (.lload 6, 2) := dgX12_asks_3 (205, (.lload 6, 2)) (List.mem_of_getElem? (i := 1) rfl)
theorem dX12_asks_207 : decode cX12_asks 207 = .ok (.lconst 0, 1) := dgX12_asks_3 (207, (.lconst 0, 1)) (List.mem_of_getElem? (i := 2) rfl)
theorem dX12_asks_208 : decode cX12_asks 208 = .ok (.lcmp, 1) := dgX12_asks_3 (208, (.lcmp, 1)) (List.mem_of_getElem? (i := 3) rfl)
theorem dX12_asks_209 : decode cX12_asks 209 = .ok (.ifCond .ge 7, 3) := dgX12_asks_3 (209, (.ifCond .ge 7, 3)) (List.mem_of_getElem? (i := 4) rfl)
theorem dX12_asks_212 : decode cX12_asks 212 = .ok (.iconst 0, 1) := dgX12_asks_3 (212, (.iconst 0, 1)) (List.mem_of_getElem? (i := 5) rfl)
theorem dX12_asks_213 : decode cX12_asks 213 = .ok (.goto 20, 3) := dgX12_asks_3 (213, (.goto 20, 3)) (List.mem_of_getElem? (i := 6) rfl)
theorem dX12_asks_216 : decode cX12_asks 216 = .ok (.lload 6, 2) := dgX12_asks_3 (216, (.lload 6, 2)) (List.mem_of_getElem? (i := 7) rfl)
theorem dX12_asks_218 : decode cX12_asks 218 = .ok (.iload 5, 2) := dgX12_asks_3 (218, (.iload 5, 2)) (List.mem_of_getElem? (i := 8) rfl)
theorem dX12_asks_220 : decode cX12_asks 220 = .ok (.i2l, 1) := dgX12_asks_3 (220, (.i2l, 1)) (List.mem_of_getElem? (i := 9) rfl)
theorem dX12_asks_221 : decode cX12_asks 221 = .ok (.lcmp, 1) := dgX12_asks_3 (221, (.lcmp, 1)) (List.mem_of_getElem? (i := 10) rfl)
theorem dX12_asks_222 : decode cX12_asks 222 = .ok (.ifCond .le 8, 3) := dgX12_asks_3 (222, (.ifCond .le 8, 3)) (List.mem_of_getElem? (i := 11) rfl)
theorem dX12_asks_225 : decode cX12_asks 225 = .ok (.iload 5, 2) := dgX12_asks_3 (225, (.iload 5, 2)) (List.mem_of_getElem? (i := 12) rfl)
theorem dX12_asks_227 : decode cX12_asks 227 = .ok (.goto 6, 3) := dgX12_asks_3 (227, (.goto 6, 3)) (List.mem_of_getElem? (i := 13) rfl)
theorem dX12_asks_230 : decode cX12_asks 230 = .ok (.lload 6, 2) := dgX12_asks_3 (230, (.lload 6, 2)) (List.mem_of_getElem? (i := 14) rfl)
theorem dX12_asks_232 : decode cX12_asks 232 = .ok (.l2i, 1) := dgX12_asks_3 (232, (.l2i, 1)) (List.mem_of_getElem? (i := 15) rfl)
theorem dX12_asks_233 : decode cX12_asks 233 = .ok (.ireturn, 1) := dgX12_asks_3 (233, (.ireturn, 1)) (List.mem_of_getElem? (i := 16) rfl)
theorem fl_X12_349 : Cond.fieldLink RX12 349 "LateGlassModel" "cell" "I" ∈ tblG := tg 1236 (by decide +kernel) (by decide +kernel)
theorem fl_X12_352 : Cond.fieldLink RX12 352 "LateGlassModel" "hour" "I" ∈ tblG := tg 1237 (by decide +kernel) (by decide +kernel)
theorem fl_X12_355 : Cond.fieldLink RX12 355 "LateGlassModel" "way" "I" ∈ tblG := tg 1238 (by decide +kernel) (by decide +kernel)
theorem fl_X12_358 : Cond.fieldLink RX12 358 "LateGlassModel" "points" "I" ∈ tblG := tg 1240 (by decide +kernel) (by decide +kernel)
theorem fl_X12_361 : Cond.fieldLink RX12 361 "LateGlassModel" "bright" "I" ∈ tblG := tg 1239 (by decide +kernel) (by decide +kernel)
theorem ml_X12_364 : Cond.methodLink RX12 364 yX12_isSo ∈ tblG := tg 1626 (by decide +kernel) (by decide +kernel)
theorem im_X12_isSo : Cond.instanceMethod yX12_isSo ∈ tblG := tg 1628 (by decide +kernel) (by decide +kernel)
theorem se_X12_isSo : Cond.selects RX12 yX12_isSo yX12_isSo ∈ tblG := tg 65 (by decide +kernel) (by decide +kernel)
theorem cd_X12_isSo : Cond.code yX12_isSo cX12_isSo 2 (some .boolean) ∈ tblG := tg 1629 (by decide +kernel) (by decide +kernel)
theorem gW_X12_isSo : GoodIn tblG (wsG yX12_isSo cX12_isSo 2 (some .boolean)) := tgi cd_X12_isSo
theorem gV_X12_364 : GoodIn tblG (wsV RX12 364 RX12 yX12_isSo (wsG yX12_isSo cX12_isSo 2 (some .boolean))) := tgV ml_X12_364 im_X12_isSo se_X12_isSo ini_X12 gW_X12_isSo
theorem hv_X12_isSo : yX12_isSo.cls = RX12 ∧ yX12_isSo.cls ≠ "java/lang/invoke/MethodHandle" ∧ yX12_isSo.cls ≠ "java/lang/invoke/VarHandle" ∧ (parseMethodDescriptor yX12_isSo.desc).map (fun d => d.parameters.length) = some 1 := by decide +kernel
set_option maxHeartbeats 4000000 in
set_option maxRecDepth 100000 in
theorem n_asks (l : Launch) (G : g5_G) (b_o b_ro b_se b_re b_rf b_im b_ke b_tp b_nl b_op b_ar b_pi b_pa b_ws b_hw b_pt b_ip b_ah b_be b_me b_tr b_ld b_wn : Nat) (sz : Nat) (u_th : Int32) (u_sa : Int32) (u_fd : Int32) (u_td : Int32) (u_fr : Int32) (u_to : Int32) (u_so : Int32) (u_fa : Int32) (u_bd : Int32) (u_nc : Int32) (u_co : Int32) (u_le : Int32) (u_pd : Int32) (u_od : Int32) (u_la : Int32) (u_bk : Int32) (u_ce : Int32) (u_ho : Int32) (u_wy : Int32) (u_bt : Int32) (u_ps : Int32) (u_tg : Int32) (u_sn : Int32) (u_ic : Int32) (u_wd : Int32) (u_id : Int32) (p_1 : Int32) (p_2 : Int32) (p_3 : Int32) (p_4 : Int32) (p_5 : Int32) (u_wo : Int64) (u_va : Int64) (u_su : Int64) (u_st : Int64) (v_ro : Nat → Int32) (v_se : Nat → Int64) (v_re : Nat → Int64) (h_u_td : 0 ≤ u_td.toInt ∧ u_td.toInt ≤ 400) (h_u_fr : 0 ≤ u_fr.toInt ∧ u_fr.toInt ≤ 400) (h_u_to : 0 ≤ u_to.toInt ∧ u_to.toInt ≤ 400) (h_u_bd : 0 ≤ u_bd.toInt ∧ u_bd.toInt ≤ 1) (h_u_nc : 0 ≤ u_nc.toInt ∧ u_nc.toInt ≤ 12) (h_u_co : 0 ≤ u_co.toInt ∧ u_co.toInt ≤ 400) (h_u_pd : 0 ≤ u_pd.toInt ∧ u_pd.toInt ≤ 400) (h_u_la : 0 ≤ u_la.toInt ∧ u_la.toInt ≤ 4840) (h_u_bk : 0 ≤ u_bk.toInt ∧ u_bk.toInt ≤ 1) (h_u_ce : 0 ≤ u_ce.toInt ∧ u_ce.toInt ≤ 63) (h_u_ho : 0 ≤ u_ho.toInt ∧ u_ho.toInt ≤ 23) (h_u_wy : 0 ≤ u_wy.toInt ∧ u_wy.toInt ≤ 3) (h_u_bt : 0 ≤ u_bt.toInt ∧ u_bt.toInt ≤ 1000000) (h_u_ps : 0 ≤ u_ps.toInt ∧ u_ps.toInt ≤ 200) (h_u_ic : 0 ≤ u_ic.toInt ∧ u_ic.toInt ≤ 1) (h_u_id : 0 ≤ u_id.toInt ∧ u_id.toInt ≤ 1) (h_p_4 : 0 ≤ p_4.toInt ∧ p_4.toInt ≤ 23) (h_p_5 : 0 ≤ p_5.toInt ∧ p_5.toInt ≤ 23) (r_ro : MI v_ro) (e_wm : p_4.toInt ≤ p_5.toInt) : Met l yX12_asks (wsG yX12_asks cX12_asks 10 (some .int)) ({ frames := 3, cells := 0, slots := 0, locals := 72 }) (va_Pc [.ref b_o, .int p_1, .int p_2, .int p_3, .int p_4, .int p_5] (g5_P G [(b_o, (oc12 u_th u_sa b_rf b_ro b_im b_ke u_fd b_tp u_td u_fr u_to u_so u_wo u_fa u_bd u_nc b_nl u_co b_op b_ar u_le b_pi b_pa u_pd u_od b_ws b_hw u_la b_se b_re u_bk u_va u_su u_ce u_ho u_wy u_bt u_ps b_pt u_tg u_sn b_ip u_ic b_ah b_be b_me u_wd b_tr b_ld u_st b_wn u_id)), (b_ro, (arI G 5740 v_ro)), (b_se, (arJ G 13 v_se)), (b_re, (arJ G 400 v_re))] sz)) (va_Qi (fun (r : Int32) (u : va_W) => (∃ (o_r : Int32) (o_la : Int32) (o_bk : Int32) (o_va : Int64) (o_su : Int64) (o_se : Nat → Int64) (o_re : Nat → Int64), (0 ≤ o_r.toInt ∧ o_r.toInt ≤ 23) ∧ (0 ≤ o_r.toInt ∧ o_r.toInt ≤ p_5.toInt) ∧ (0 ≤ o_la.toInt ∧ o_la.toInt ≤ 4840) ∧ (0 ≤ o_bk.toInt ∧ o_bk.toInt ≤ 1) ∧ (r = o_r) ∧ (u = [(b_o, (oc12 u_th u_sa b_rf b_ro b_im b_ke u_fd b_tp u_td u_fr u_to u_so u_wo u_fa u_bd u_nc b_nl u_co b_op b_ar u_le b_pi b_pa u_pd u_od b_ws b_hw o_la b_se b_re o_bk o_va o_su u_ce u_ho u_wy u_bt u_ps b_pt u_tg u_sn b_ip u_ic b_ah b_be b_me u_wd b_tr b_ld u_st b_wn u_id)), (b_ro, (arI G 5740 v_ro)), (b_se, (arJ G 13 o_se)), (b_re, (arJ G 400 o_re))]))) (g5_B G (va_A [(b_o, (oc12 u_th u_sa b_rf b_ro b_im b_ke u_fd b_tp u_td u_fr u_to u_so u_wo u_fa u_bd u_nc b_nl u_co b_op b_ar u_le b_pi b_pa u_pd u_od b_ws b_hw u_la b_se b_re u_bk u_va u_su u_ce u_ho u_wy u_bt u_ps b_pt u_tg u_sn b_ip u_ic b_ah b_be b_me u_wd b_tr b_ld u_st b_wn u_id)), (b_ro, (arI G 5740 v_ro)), (b_se, (arJ G 13 v_se)), (b_re, (arJ G 400 v_re))] sz)) (va_A [(b_o, (oc12 u_th u_sa b_rf b_ro b_im b_ke u_fd b_tp u_td u_fr u_to u_so u_wo u_fa u_bd u_nc b_nl u_co b_op b_ar u_le b_pi b_pa u_pd u_od b_ws b_hw u_la b_se b_re u_bk u_va u_su u_ce u_ho u_wy u_bt u_ps b_pt u_tg u_sn b_ip u_ic b_ah b_be b_me u_wd b_tr b_ld u_st b_wn u_id)), (b_ro, (arI G 5740 v_ro)), (b_se, (arJ G 13 v_se)), (b_re, (arJ G 400 v_re))] sz)) 0 0 (va_A [(b_o, (oc12 u_th u_sa b_rf b_ro b_im b_ke u_fd b_tp u_td u_fr u_to u_so u_wo u_fa u_bd u_nc b_nl u_co b_op b_ar u_le b_pi b_pa u_pd u_od b_ws b_hw u_la b_se b_re u_bk u_va u_su u_ce u_ho u_wy u_bt u_ps b_pt u_tg u_sn b_ip u_ic b_ah b_be b_me u_wd b_tr b_ld u_st b_wn u_id)), (b_ro, (arI G 5740 v_ro)), (b_se, (arJ G 13 v_se)), (b_re, (arJ G 400 v_re))] sz) := by
  refine Met.ofW (cc := cX12_asks) (maxL := 10) (ret := (some .int)) (by decide +kernel) rfl ?_
  intro p e s m args below meth c s₁ B hml hv
  obtain ⟨rfl, hsz, hP, hK, hD0, hN, hT⟩ := hv
  have hx := B.exec
  have hb := B.bytes
  have hr := B.returns
  have hts : ∀ w ∈ tblG, w.before _ s = true := fun w h => atoms_spec (ws := (wsG yX12_asks cX12_asks 10 (some .int))) B.pre w (List.mem_cons_of_mem _ h)
  have hown : s.vm.findClass RX12 = some m.cls := findClass_of_methodNamed B.named
  have hlocks := B.notSynchronized
  subst hsz
  have hD := hD0.self (sz := s.heap.size)
  generalize hAe : va_A [(b_o, (oc12 u_th u_sa b_rf b_ro b_im b_ke u_fd b_tp u_td u_fr u_to u_so u_wo u_fa u_bd u_nc b_nl u_co b_op b_ar u_le b_pi b_pa u_pd u_od b_ws b_hw u_la b_se b_re u_bk u_va u_su u_ce u_ho u_wy u_bt u_ps b_pt u_tg u_sn b_ip u_ic b_ah b_be b_me u_wd b_tr b_ld u_st b_wn u_id)), (b_ro, (arI G 5740 v_ro)), (b_se, (arJ G 13 v_se)), (b_re, (arJ G 400 v_re))] s.heap.size = A at hD hT ⊢
  have hA : ∀ q : Nat, s.heap.size ≤ q → A q := fun q h => by rw [← hAe]; exact Or.inr h
  have hS : va_S A s.heap s.heap [] := va_S.rf
  replace hP : va_P G.1 vwCl [(b_o, (oc12 u_th u_sa b_rf b_ro b_im b_ke u_fd b_tp u_td u_fr u_to u_so u_wo u_fa u_bd u_nc b_nl u_co b_op b_ar u_le b_pi b_pa u_pd u_od b_ws b_hw u_la b_se b_re u_bk u_va u_su u_ce u_ho u_wy u_bt u_ps b_pt u_tg u_sn b_ip u_ic b_ah b_be b_me u_wd b_tr b_ld u_st b_wn u_id)), (b_ro, (arI G 5740 v_ro)), (b_se, (arJ G 13 v_se)), (b_re, (arJ G 400 v_re))] s.heap := hP
  have hl := lv_entry ([.ref b_o, .int p_1, .int p_2, .int p_3, .int p_4, .int p_5]) (n := 10) (Nat.le_of_ble_eq_true rfl)
  rw [lg_entry_eq]
  generalize (lg_sl ([.ref b_o, .int p_1, .int p_2, .int p_3, .int p_4, .int p_5]) ++ List.replicate (10 - (lg_sl ([.ref b_o, .int p_1, .int p_2, .int p_3, .int p_4, .int p_5])).length) Slot.unset).toArray = ls at hl ⊢
  replace hl : lv_has ls 10 [(0, .ref b_o), (1, .int p_1), (2, .int p_2), (3, .int p_3), (4, .int p_4), (5, .int p_5)] := hl
  refine lv_aload_n hx hb dX12_asks_0 rfl (lv_at hl 0 rfl) ?_
  refine va_get (D := G.1) (ci := 12) (v := .ref b_ro) (C := RX12) (T := TX12) (N := 52) hx hb hts inG_X12 hown hK hP 0 rfl rfl 3 (by decide +kernel) (hts _ fl_X12_13) (fun _ h9 => h9) rfl dX12_asks_1 ?_
  refine lv_iconst (v := 3) hx hb dX12_asks_4 (by decide +kernel) ?_
  refine va_iald hx hb hK hP 1 0 rfl rfl (i := 3) (by unfold vp_in; decide) dX12_asks_5 ?_
  refine g5_ti (v := (v_ro 3)) rfl ?_
  have hr_1 : (-1) ≤ (v_ro 3).toInt ∧ (v_ro 3).toInt ≤ 5 := mi_3 r_ro
  refine W.eq (g2 := F0 m 6 ls [.int (v_ro 3)]) rfl ?_
  refine lv_iconst (v := (-1)) hx hb dX12_asks_6 (by decide +kernel) ?_
  refine lv_icmp_ne (tgt := 13) hx hb dX12_asks_7 (by decide +kernel) (fun c_2 => ?_) (fun c_2 => ?_)
  ·
    have n_2 : gNe ((v_ro 3).toInt) ((-1)) := g5_ne (a := (v_ro 3).toInt) (b := (-1)) rfl (by decide +kernel) c_2
    have i_2 : (v_ro 3).toInt ≥ 0 := by have z := g5_ne (a := (v_ro 3).toInt) (b := (-1)) (by rfl) (by decide +kernel) c_2; omega
    refine lv_aload_n hx hb dX12_asks_13 rfl (lv_at hl 0 rfl) ?_
    refine lv_sipush (v := 340) hx hb dX12_asks_14 (by decide +kernel) ?_
    refine lv_sipush (v := 900) hx hb dX12_asks_17 (by decide +kernel) ?_
    refine lv_aload_n hx hb dX12_asks_20 rfl (lv_at hl 0 rfl) ?_
    refine W.eq (g2 := F0 m 21 ls [.ref b_o, .int 900, .int 340, .ref b_o]) rfl ?_
    refine va_get (D := G.1) (ci := 12) (v := .ref b_ro) (C := RX12) (T := TX12) (N := 52) hx hb hts inG_X12 hown hK hP 0 rfl rfl 3 (by decide +kernel) (hts _ fl_X12_13) (fun _ h9 => h9) rfl dX12_asks_21 ?_
    refine lv_iconst (v := 3) hx hb dX12_asks_24 (by decide +kernel) ?_
    refine va_iald hx hb hK hP 1 0 rfl rfl (i := 3) (by unfold vp_in; decide) dX12_asks_25 ?_
    refine g5_ti (v := (v_ro 3)) rfl ?_
    have hr_3 : (-1) ≤ (v_ro 3).toInt ∧ (v_ro 3).toInt ≤ 5 := mi_3 r_ro
    refine lv_imul hx hb dX12_asks_26 ?_
    have t_4 : (900 * (v_ro 3)).toInt = 900 * (v_ro 3).toInt := g5_imul (a := 900) (b := (v_ro 3).toInt) (by decide +kernel) (by rfl) (by omega) (by omega)
    refine lv_iadd hx hb dX12_asks_27 ?_
    have t_5 : (340 + (900 * (v_ro 3))).toInt = 340 + (900 * (v_ro 3)).toInt := g5_iadd (a := 340) (b := (900 * (v_ro 3)).toInt) (by decide +kernel) (by rfl) (by omega) (by omega)
    refine W.eq (g2 := F0 m 28 ls [.int (340 + (900 * (v_ro 3))), .ref b_o]) rfl ?_
    refine va_put (D := G.1) (ci := 12) (v := .int (340 + (900 * (v_ro 3)))) (ty := .int) (C := RX12) (T := TX12) (N := 52) hx hb hts inG_X12 tyX12 tyX12_ok nmX12 hown hK hP hD hS 0 rfl rfl 27 (by decide +kernel) (hts _ fl_X12_329) (fun _ h9 => h9) rfl (by decide +kernel) rfl rfl (Nat.le_of_ble_eq_true rfl) dX12_asks_28 ?_
    clear hP hD hS
    intro H locs hP hD hS
    refine g5_rs [(b_o, (oc12 u_th u_sa b_rf b_ro b_im b_ke u_fd b_tp u_td u_fr u_to u_so u_wo u_fa u_bd u_nc b_nl u_co b_op b_ar u_le b_pi b_pa u_pd u_od b_ws b_hw (340 + (900 * (v_ro 3))) b_se b_re u_bk u_va u_su u_ce u_ho u_wy u_bt u_ps b_pt u_tg u_sn b_ip u_ic b_ah b_be b_me u_wd b_tr b_ld u_st b_wn u_id)), (b_ro, (arI G 5740 v_ro)), (b_se, (arJ G 13 v_se)), (b_re, (arJ G 400 v_re))] hP hD ?_
    clear hP hD
    intro hP hD
    refine lv_aload_n hx hb dX12_asks_31 rfl (lv_at hl 0 rfl) ?_
    refine va_get (D := G.1) (ci := 12) (v := .ref b_se) (C := RX12) (T := TX12) (N := 52) hx hb hts inG_X12 hown hK hP 0 rfl rfl 28 (by decide +kernel) (hts _ fl_X12_76) (fun _ h9 => h9) rfl dX12_asks_32 ?_
    refine lv_iconst (v := 1) hx hb dX12_asks_35 (by decide +kernel) ?_
    refine lv_iload_n hx hb dX12_asks_36 rfl (lv_at hl 2 rfl) ?_
    refine W.eq (g2 := F0 m 37 ls [.int p_2, .int 1, .ref b_se]) rfl ?_
    refine lv_i2l (v := p_2.toInt64) hx hb dX12_asks_37 rfl ?_
    refine va_last hx hb hK hP hD hS 2 1 rfl rfl (i := 1) (x := p_2.toInt64) (by unfold vp_in; decide) dX12_asks_38 ?_
    clear hP hD hS
    intro H locs hP hD hS
    refine g5_rs [(b_o, (oc12 u_th u_sa b_rf b_ro b_im b_ke u_fd b_tp u_td u_fr u_to u_so u_wo u_fa u_bd u_nc b_nl u_co b_op b_ar u_le b_pi b_pa u_pd u_od b_ws b_hw (340 + (900 * (v_ro 3))) b_se b_re u_bk u_va u_su u_ce u_ho u_wy u_bt u_ps b_pt u_tg u_sn b_ip u_ic b_ah b_be b_me u_wd b_tr b_ld u_st b_wn u_id)), (b_ro, (arI G 5740 v_ro)), (b_se, (arJ G 13 (vp_updL v_se 1 p_2.toInt64))), (b_re, (arJ G 400 v_re))] hP hD ?_
    clear hP hD
    intro hP hD
    refine lv_aload_n hx hb dX12_asks_39 rfl (lv_at hl 0 rfl) ?_
    refine va_get (D := G.1) (ci := 12) (v := .ref b_se) (C := RX12) (T := TX12) (N := 52) hx hb hts inG_X12 hown hK hP 0 rfl rfl 28 (by decide +kernel) (hts _ fl_X12_76) (fun _ h9 => h9) rfl dX12_asks_40 ?_
    refine lv_iconst (v := 2) hx hb dX12_asks_43 (by decide +kernel) ?_
    refine W.eq (g2 := F0 m 44 ls [.int 2, .ref b_se]) rfl ?_
    refine lv_aload_n hx hb dX12_asks_44 rfl (lv_at hl 0 rfl) ?_
    refine va_get (D := G.1) (ci := 12) (v := .int u_ce) (C := RX12) (T := TX12) (N := 52) hx hb hts inG_X12 hown hK hP 0 rfl rfl 33 (by decide +kernel) (hts _ fl_X12_349) (fun _ h9 => h9) rfl dX12_asks_45 ?_
    refine lv_bipush (v := 8) hx hb dX12_asks_48 (by decide +kernel) ?_
    refine lv_irem hx hb dX12_asks_50 (by decide +kernel) ?_
    have t_6 : (u_ce - u_ce / 8 * 8).toInt = u_ce.toInt % 8 := g5_irem (a := u_ce.toInt) (b := 8) rfl (by decide +kernel) (by omega) (by decide +kernel)
    refine lv_i2l (v := (u_ce - u_ce / 8 * 8).toInt64) hx hb dX12_asks_51 rfl ?_
    refine W.eq (g2 := F0 m 52 ls [.long (u_ce - u_ce / 8 * 8).toInt64, .int 2, .ref b_se]) rfl ?_
    refine va_last hx hb hK hP hD hS 2 1 rfl rfl (i := 2) (x := (u_ce - u_ce / 8 * 8).toInt64) (by unfold vp_in; decide) dX12_asks_52 ?_
    clear hP hD hS
    intro H locs hP hD hS
    refine g5_rs [(b_o, (oc12 u_th u_sa b_rf b_ro b_im b_ke u_fd b_tp u_td u_fr u_to u_so u_wo u_fa u_bd u_nc b_nl u_co b_op b_ar u_le b_pi b_pa u_pd u_od b_ws b_hw (340 + (900 * (v_ro 3))) b_se b_re u_bk u_va u_su u_ce u_ho u_wy u_bt u_ps b_pt u_tg u_sn b_ip u_ic b_ah b_be b_me u_wd b_tr b_ld u_st b_wn u_id)), (b_ro, (arI G 5740 v_ro)), (b_se, (arJ G 13 (vp_updL (vp_updL v_se 1 p_2.toInt64) 2 ((u_ce - u_ce / 8 * 8).toInt64)))), (b_re, (arJ G 400 v_re))] hP hD ?_
    clear hP hD
    intro hP hD
    refine lv_aload_n hx hb dX12_asks_53 rfl (lv_at hl 0 rfl) ?_
    refine va_get (D := G.1) (ci := 12) (v := .ref b_se) (C := RX12) (T := TX12) (N := 52) hx hb hts inG_X12 hown hK hP 0 rfl rfl 28 (by decide +kernel) (hts _ fl_X12_76) (fun _ h9 => h9) rfl dX12_asks_54 ?_
    refine lv_iconst (v := 3) hx hb dX12_asks_57 (by decide +kernel) ?_
    refine lv_aload_n hx hb dX12_asks_58 rfl (lv_at hl 0 rfl) ?_
    refine W.eq (g2 := F0 m 59 ls [.ref b_o, .int 3, .ref b_se]) rfl ?_
    refine va_get (D := G.1) (ci := 12) (v := .int u_ce) (C := RX12) (T := TX12) (N := 52) hx hb hts inG_X12 hown hK hP 0 rfl rfl 33 (by decide +kernel) (hts _ fl_X12_349) (fun _ h9 => h9) rfl dX12_asks_59 ?_
    refine lv_bipush (v := 8) hx hb dX12_asks_62 (by decide +kernel) ?_
    refine lv_idiv hx hb dX12_asks_64 (by decide +kernel) ?_
    have t_7 : (u_ce / 8).toInt = u_ce.toInt / 8 := g5_idiv (a := u_ce.toInt) (b := 8) rfl (by decide +kernel) (by omega) (by decide +kernel)
    refine lv_i2l (v := (u_ce / 8).toInt64) hx hb dX12_asks_65 rfl ?_
    refine va_last hx hb hK hP hD hS 2 1 rfl rfl (i := 3) (x := (u_ce / 8).toInt64) (by unfold vp_in; decide) dX12_asks_66 ?_
    clear hP hD hS
    intro H locs hP hD hS
    refine g5_rs [(b_o, (oc12 u_th u_sa b_rf b_ro b_im b_ke u_fd b_tp u_td u_fr u_to u_so u_wo u_fa u_bd u_nc b_nl u_co b_op b_ar u_le b_pi b_pa u_pd u_od b_ws b_hw (340 + (900 * (v_ro 3))) b_se b_re u_bk u_va u_su u_ce u_ho u_wy u_bt u_ps b_pt u_tg u_sn b_ip u_ic b_ah b_be b_me u_wd b_tr b_ld u_st b_wn u_id)), (b_ro, (arI G 5740 v_ro)), (b_se, (arJ G 13 (vp_updL (vp_updL (vp_updL v_se 1 p_2.toInt64) 2 ((u_ce - u_ce / 8 * 8).toInt64)) 3 ((u_ce / 8).toInt64)))), (b_re, (arJ G 400 v_re))] hP hD ?_
    clear hP hD
    intro hP hD
    refine W.eq (g2 := F0 m 67 ls []) rfl ?_
    refine lv_aload_n hx hb dX12_asks_67 rfl (lv_at hl 0 rfl) ?_
    refine va_get (D := G.1) (ci := 12) (v := .ref b_se) (C := RX12) (T := TX12) (N := 52) hx hb hts inG_X12 hown hK hP 0 rfl rfl 28 (by decide +kernel) (hts _ fl_X12_76) (fun _ h9 => h9) rfl dX12_asks_68 ?_
    refine lv_iconst (v := 4) hx hb dX12_asks_71 (by decide +kernel) ?_
    refine lv_aload_n hx hb dX12_asks_72 rfl (lv_at hl 0 rfl) ?_
    refine va_get (D := G.1) (ci := 12) (v := .int u_ho) (C := RX12) (T := TX12) (N := 52) hx hb hts inG_X12 hown hK hP 0 rfl rfl 34 (by decide +kernel) (hts _ fl_X12_352) (fun _ h9 => h9) rfl dX12_asks_73 ?_
    refine W.eq (g2 := F0 m 76 ls [.int u_ho, .int 4, .ref b_se]) rfl ?_
    refine lv_i2l (v := u_ho.toInt64) hx hb dX12_asks_76 rfl ?_
    refine va_last hx hb hK hP hD hS 2 1 rfl rfl (i := 4) (x := u_ho.toInt64) (by unfold vp_in; decide) dX12_asks_77 ?_
    clear hP hD hS
    intro H locs hP hD hS
    refine g5_rs [(b_o, (oc12 u_th u_sa b_rf b_ro b_im b_ke u_fd b_tp u_td u_fr u_to u_so u_wo u_fa u_bd u_nc b_nl u_co b_op b_ar u_le b_pi b_pa u_pd u_od b_ws b_hw (340 + (900 * (v_ro 3))) b_se b_re u_bk u_va u_su u_ce u_ho u_wy u_bt u_ps b_pt u_tg u_sn b_ip u_ic b_ah b_be b_me u_wd b_tr b_ld u_st b_wn u_id)), (b_ro, (arI G 5740 v_ro)), (b_se, (arJ G 13 (vp_updL (vp_updL (vp_updL (vp_updL v_se 1 p_2.toInt64) 2 ((u_ce - u_ce / 8 * 8).toInt64)) 3 ((u_ce / 8).toInt64)) 4 u_ho.toInt64))), (b_re, (arJ G 400 v_re))] hP hD ?_
    clear hP hD
    intro hP hD
    refine lv_aload_n hx hb dX12_asks_78 rfl (lv_at hl 0 rfl) ?_
    refine va_get (D := G.1) (ci := 12) (v := .ref b_se) (C := RX12) (T := TX12) (N := 52) hx hb hts inG_X12 hown hK hP 0 rfl rfl 28 (by decide +kernel) (hts _ fl_X12_76) (fun _ h9 => h9) rfl dX12_asks_79 ?_
    refine lv_iconst (v := 5) hx hb dX12_asks_82 (by decide +kernel) ?_
    refine W.eq (g2 := F0 m 83 ls [.int 5, .ref b_se]) rfl ?_
    refine lv_aload_n hx hb dX12_asks_83 rfl (lv_at hl 0 rfl) ?_
    refine va_get (D := G.1) (ci := 12) (v := .int u_wy) (C := RX12) (T := TX12) (N := 52) hx hb hts inG_X12 hown hK hP 0 rfl rfl 35 (by decide +kernel) (hts _ fl_X12_355) (fun _ h9 => h9) rfl dX12_asks_84 ?_
    refine lv_i2l (v := u_wy.toInt64) hx hb dX12_asks_87 rfl ?_
    refine va_last hx hb hK hP hD hS 2 1 rfl rfl (i := 5) (x := u_wy.toInt64) (by unfold vp_in; decide) dX12_asks_88 ?_
    clear hP hD hS
    intro H locs hP hD hS
    refine g5_rs [(b_o, (oc12 u_th u_sa b_rf b_ro b_im b_ke u_fd b_tp u_td u_fr u_to u_so u_wo u_fa u_bd u_nc b_nl u_co b_op b_ar u_le b_pi b_pa u_pd u_od b_ws b_hw (340 + (900 * (v_ro 3))) b_se b_re u_bk u_va u_su u_ce u_ho u_wy u_bt u_ps b_pt u_tg u_sn b_ip u_ic b_ah b_be b_me u_wd b_tr b_ld u_st b_wn u_id)), (b_ro, (arI G 5740 v_ro)), (b_se, (arJ G 13 (vp_updL (vp_updL (vp_updL (vp_updL (vp_updL v_se 1 p_2.toInt64) 2 ((u_ce - u_ce / 8 * 8).toInt64)) 3 ((u_ce / 8).toInt64)) 4 u_ho.toInt64) 5 u_wy.toInt64))), (b_re, (arJ G 400 v_re))] hP hD ?_
    clear hP hD
    intro hP hD
    refine lv_aload_n hx hb dX12_asks_89 rfl (lv_at hl 0 rfl) ?_
    refine W.eq (g2 := F0 m 90 ls [.ref b_o]) rfl ?_
    refine va_get (D := G.1) (ci := 12) (v := .ref b_se) (C := RX12) (T := TX12) (N := 52) hx hb hts inG_X12 hown hK hP 0 rfl rfl 28 (by decide +kernel) (hts _ fl_X12_76) (fun _ h9 => h9) rfl dX12_asks_90 ?_
    refine lv_bipush (v := 6) hx hb dX12_asks_93 (by decide +kernel) ?_
    refine lv_iload_n hx hb dX12_asks_95 rfl (lv_at hl 3 rfl) ?_
    refine lv_i2l (v := p_3.toInt64) hx hb dX12_asks_96 rfl ?_
    refine va_last hx hb hK hP hD hS 2 1 rfl rfl (i := 6) (x := p_3.toInt64) (by unfold vp_in; decide) dX12_asks_97 ?_
    clear hP hD hS
    intro H locs hP hD hS
    refine g5_rs [(b_o, (oc12 u_th u_sa b_rf b_ro b_im b_ke u_fd b_tp u_td u_fr u_to u_so u_wo u_fa u_bd u_nc b_nl u_co b_op b_ar u_le b_pi b_pa u_pd u_od b_ws b_hw (340 + (900 * (v_ro 3))) b_se b_re u_bk u_va u_su u_ce u_ho u_wy u_bt u_ps b_pt u_tg u_sn b_ip u_ic b_ah b_be b_me u_wd b_tr b_ld u_st b_wn u_id)), (b_ro, (arI G 5740 v_ro)), (b_se, (arJ G 13 (vp_updL (vp_updL (vp_updL (vp_updL (vp_updL (vp_updL v_se 1 p_2.toInt64) 2 ((u_ce - u_ce / 8 * 8).toInt64)) 3 ((u_ce / 8).toInt64)) 4 u_ho.toInt64) 5 u_wy.toInt64) 6 p_3.toInt64))), (b_re, (arJ G 400 v_re))] hP hD ?_
    clear hP hD
    intro hP hD
    refine W.eq (g2 := F0 m 98 ls []) rfl ?_
    refine lv_aload_n hx hb dX12_asks_98 rfl (lv_at hl 0 rfl) ?_
    refine va_get (D := G.1) (ci := 12) (v := .ref b_se) (C := RX12) (T := TX12) (N := 52) hx hb hts inG_X12 hown hK hP 0 rfl rfl 28 (by decide +kernel) (hts _ fl_X12_76) (fun _ h9 => h9) rfl dX12_asks_99 ?_
    refine lv_bipush (v := 7) hx hb dX12_asks_102 (by decide +kernel) ?_
    refine lv_aload_n hx hb dX12_asks_104 rfl (lv_at hl 0 rfl) ?_
    refine va_get (D := G.1) (ci := 12) (v := .int u_ps) (C := RX12) (T := TX12) (N := 52) hx hb hts inG_X12 hown hK hP 0 rfl rfl 37 (by decide +kernel) (hts _ fl_X12_358) (fun _ h9 => h9) rfl dX12_asks_105 ?_
    refine W.eq (g2 := F0 m 108 ls [.int u_ps, .int 7, .ref b_se]) rfl ?_
    refine lv_i2l (v := u_ps.toInt64) hx hb dX12_asks_108 rfl ?_
    refine va_last hx hb hK hP hD hS 2 1 rfl rfl (i := 7) (x := u_ps.toInt64) (by unfold vp_in; decide) dX12_asks_109 ?_
    clear hP hD hS
    intro H locs hP hD hS
    refine g5_rs [(b_o, (oc12 u_th u_sa b_rf b_ro b_im b_ke u_fd b_tp u_td u_fr u_to u_so u_wo u_fa u_bd u_nc b_nl u_co b_op b_ar u_le b_pi b_pa u_pd u_od b_ws b_hw (340 + (900 * (v_ro 3))) b_se b_re u_bk u_va u_su u_ce u_ho u_wy u_bt u_ps b_pt u_tg u_sn b_ip u_ic b_ah b_be b_me u_wd b_tr b_ld u_st b_wn u_id)), (b_ro, (arI G 5740 v_ro)), (b_se, (arJ G 13 (vp_updL (vp_updL (vp_updL (vp_updL (vp_updL (vp_updL (vp_updL v_se 1 p_2.toInt64) 2 ((u_ce - u_ce / 8 * 8).toInt64)) 3 ((u_ce / 8).toInt64)) 4 u_ho.toInt64) 5 u_wy.toInt64) 6 p_3.toInt64) 7 u_ps.toInt64))), (b_re, (arJ G 400 v_re))] hP hD ?_
    clear hP hD
    intro hP hD
    refine lv_aload_n hx hb dX12_asks_110 rfl (lv_at hl 0 rfl) ?_
    refine va_get (D := G.1) (ci := 12) (v := .ref b_se) (C := RX12) (T := TX12) (N := 52) hx hb hts inG_X12 hown hK hP 0 rfl rfl 28 (by decide +kernel) (hts _ fl_X12_76) (fun _ h9 => h9) rfl dX12_asks_111 ?_
    refine lv_bipush (v := 8) hx hb dX12_asks_114 (by decide +kernel) ?_
    refine W.eq (g2 := F0 m 116 ls [.int 8, .ref b_se]) rfl ?_
    refine lv_aload_n hx hb dX12_asks_116 rfl (lv_at hl 0 rfl) ?_
    refine va_get (D := G.1) (ci := 12) (v := .int u_bt) (C := RX12) (T := TX12) (N := 52) hx hb hts inG_X12 hown hK hP 0 rfl rfl 36 (by decide +kernel) (hts _ fl_X12_361) (fun _ h9 => h9) rfl dX12_asks_117 ?_
    refine lv_sipush (v := 1000) hx hb dX12_asks_120 (by decide +kernel) ?_
    refine lv_idiv hx hb dX12_asks_123 (by decide +kernel) ?_
    have t_8 : (u_bt / 1000).toInt = u_bt.toInt / 1000 := g5_idiv (a := u_bt.toInt) (b := 1000) rfl (by decide +kernel) (by omega) (by decide +kernel)
    refine lv_i2l (v := (u_bt / 1000).toInt64) hx hb dX12_asks_124 rfl ?_
    refine W.eq (g2 := F0 m 125 ls [.long (u_bt / 1000).toInt64, .int 8, .ref b_se]) rfl ?_
    refine va_last hx hb hK hP hD hS 2 1 rfl rfl (i := 8) (x := (u_bt / 1000).toInt64) (by unfold vp_in; decide) dX12_asks_125 ?_
    clear hP hD hS
    intro H locs hP hD hS
    refine g5_rs [(b_o, (oc12 u_th u_sa b_rf b_ro b_im b_ke u_fd b_tp u_td u_fr u_to u_so u_wo u_fa u_bd u_nc b_nl u_co b_op b_ar u_le b_pi b_pa u_pd u_od b_ws b_hw (340 + (900 * (v_ro 3))) b_se b_re u_bk u_va u_su u_ce u_ho u_wy u_bt u_ps b_pt u_tg u_sn b_ip u_ic b_ah b_be b_me u_wd b_tr b_ld u_st b_wn u_id)), (b_ro, (arI G 5740 v_ro)), (b_se, (arJ G 13 (vp_updL (vp_updL (vp_updL (vp_updL (vp_updL (vp_updL (vp_updL (vp_updL v_se 1 p_2.toInt64) 2 ((u_ce - u_ce / 8 * 8).toInt64)) 3 ((u_ce / 8).toInt64)) 4 u_ho.toInt64) 5 u_wy.toInt64) 6 p_3.toInt64) 7 u_ps.toInt64) 8 ((u_bt / 1000).toInt64)))), (b_re, (arJ G 400 v_re))] hP hD ?_
    clear hP hD
    intro hP hD
    refine lv_iload hx hb dX12_asks_126 (lv_at hl 4 rfl) ?_
    refine lv_i2l (v := p_4.toInt64) hx hb dX12_asks_128 rfl ?_
    refine lv_lstore (lv' := [(6, .long p_4.toInt64), (0, .ref b_o), (1, .int p_1), (2, .int p_2), (3, .int p_3), (4, .int p_4), (5, .int p_5)]) hx hb dX12_asks_129 hl (by decide +kernel) rfl ?_
    clear hl
    intro ls hl
    have hLW := r_ro.2.2.2 (v_ro 3).toInt.toNat (by have zq := r_ro.2.2.1; omega)
    have hT9 : (340 + (900 * (v_ro 3))).toNatClampNeg = 340 + 900 * (v_ro 3).toInt.toNat := by have zz := g5_clamp (340 + (900 * (v_ro 3))); omega
    rw [← hT9] at hLW
    have hz9 : ((340 + (900 * (v_ro 3))) + 1).toNatClampNeg = (340 + (900 * (v_ro 3))).toNatClampNeg + 1 := g_clk (n := 1) (by decide +kernel) (by omega) (by omega) (by decide +kernel)
    refine lv_iconst (v := 0) hx hb dX12_asks_131 (by decide +kernel) ?_
    refine W.eq (g2 := F0 m 132 ls [.int 0]) rfl ?_
    refine lv_istore (lv' := [(8, .int 0), (6, .long p_4.toInt64), (0, .ref b_o), (1, .int p_1), (2, .int p_2), (3, .int p_3), (4, .int p_4), (5, .int p_5)]) hx hb dX12_asks_132 hl (by decide +kernel) rfl ?_
    clear hl
    intro ls hl
    refine g5_loop (α := (Int32) × (Int64) × (Int32) × (Int64) × (Int64) × (Nat → Int64)) (fun (q : (Int32) × (Int64) × (Int32) × (Int64) × (Int64) × (Nat → Int64)) (ls : Array Slot) (H : Heap) (locs : List Loc) => match q with | (k134_8, k134_6, k134_bk, k134_va, k134_su, k134_re) => lv_has ls 10 [(6, .long k134_6), (8, .int k134_8), (0, .ref b_o), (1, .int p_1), (2, .int p_2), (3, .int p_3), (4, .int p_4), (5, .int p_5)] ∧ va_P G.1 vwCl [(b_o, (oc12 u_th u_sa b_rf b_ro b_im b_ke u_fd b_tp u_td u_fr u_to u_so u_wo u_fa u_bd u_nc b_nl u_co b_op b_ar u_le b_pi b_pa u_pd u_od b_ws b_hw (340 + (900 * (v_ro 3))) b_se b_re k134_bk k134_va k134_su u_ce u_ho u_wy u_bt u_ps b_pt u_tg u_sn b_ip u_ic b_ah b_be b_me u_wd b_tr b_ld u_st b_wn u_id)), (b_ro, (arI G 5740 v_ro)), (b_se, (arJ G 13 (vp_updL (vp_updL (vp_updL (vp_updL (vp_updL (vp_updL (vp_updL (vp_updL v_se 1 p_2.toInt64) 2 ((u_ce - u_ce / 8 * 8).toInt64)) 3 ((u_ce / 8).toInt64)) 4 u_ho.toInt64) 5 u_wy.toInt64) 6 p_3.toInt64) 7 u_ps.toInt64) 8 ((u_bt / 1000).toInt64)))), (b_re, (arJ G 400 k134_re))] H ∧ va_D A [(b_o, (oc12 u_th u_sa b_rf b_ro b_im b_ke u_fd b_tp u_td u_fr u_to u_so u_wo u_fa u_bd u_nc b_nl u_co b_op b_ar u_le b_pi b_pa u_pd u_od b_ws b_hw (340 + (900 * (v_ro 3))) b_se b_re k134_bk k134_va k134_su u_ce u_ho u_wy u_bt u_ps b_pt u_tg u_sn b_ip u_ic b_ah b_be b_me u_wd b_tr b_ld u_st b_wn u_id)), (b_ro, (arI G 5740 v_ro)), (b_se, (arJ G 13 (vp_updL (vp_updL (vp_updL (vp_updL (vp_updL (vp_updL (vp_updL (vp_updL v_se 1 p_2.toInt64) 2 ((u_ce - u_ce / 8 * 8).toInt64)) 3 ((u_ce / 8).toInt64)) 4 u_ho.toInt64) 5 u_wy.toInt64) 6 p_3.toInt64) 7 u_ps.toInt64) 8 ((u_bt / 1000).toInt64)))), (b_re, (arJ G 400 k134_re))] ∧ va_S A s.heap H locs ∧ (0 ≤ k134_8.toInt ∧ k134_8.toInt ≤ 12) ∧ (0 ≤ k134_bk.toInt ∧ k134_bk.toInt ≤ 1)) (fun (q : (Int32) × (Int64) × (Int32) × (Int64) × (Int64) × (Nat → Int64)) => match q with | (k134_8, k134_6, k134_bk, k134_va, k134_su, k134_re) => Int.toNat (12 - k134_8.toInt)) (0, p_4.toInt64, u_bk, u_va, u_su, v_re) ⟨lv_sub hl [1, 0, 2, 3, 4, 5, 6, 7] rfl, hP, hD, hS, ⟨by decide, by decide⟩, h_u_bk⟩ ?_
    rintro ⟨k134_8, k134_6, k134_bk, k134_va, k134_su, k134_re⟩ ls H locs ⟨hl, hP, hD, hS, (i_9 : 0 ≤ k134_8.toInt ∧ k134_8.toInt ≤ 12), (i_10 : 0 ≤ k134_bk.toInt ∧ k134_bk.toInt ≤ 1)⟩ ih_134_11
    replace hl : lv_has ls 10 [(6, .long k134_6), (8, .int k134_8), (0, .ref b_o), (1, .int p_1), (2, .int p_2), (3, .int p_3), (4, .int p_4), (5, .int p_5)] := hl
    refine g5_rs [(b_o, (oc12 u_th u_sa b_rf b_ro b_im b_ke u_fd b_tp u_td u_fr u_to u_so u_wo u_fa u_bd u_nc b_nl u_co b_op b_ar u_le b_pi b_pa u_pd u_od b_ws b_hw (340 + (900 * (v_ro 3))) b_se b_re k134_bk k134_va k134_su u_ce u_ho u_wy u_bt u_ps b_pt u_tg u_sn b_ip u_ic b_ah b_be b_me u_wd b_tr b_ld u_st b_wn u_id)), (b_ro, (arI G 5740 v_ro)), (b_se, (arJ G 13 (vp_updL (vp_updL (vp_updL (vp_updL (vp_updL (vp_updL (vp_updL (vp_updL v_se 1 p_2.toInt64) 2 ((u_ce - u_ce / 8 * 8).toInt64)) 3 ((u_ce / 8).toInt64)) 4 u_ho.toInt64) 5 u_wy.toInt64) 6 p_3.toInt64) 7 u_ps.toInt64) 8 ((u_bt / 1000).toInt64)))), (b_re, (arJ G 400 k134_re))] hP hD ?_
    clear hP hD
    intro hP hD
    refine lv_iload hx hb dX12_asks_134 (lv_at hl 1 rfl) ?_
    refine lv_aload_n hx hb dX12_asks_136 rfl (lv_at hl 2 rfl) ?_
    refine va_get (D := G.1) (ci := 12) (v := .ref b_ro) (C := RX12) (T := TX12) (N := 52) hx hb hts inG_X12 hown hK hP 0 rfl rfl 3 (by decide +kernel) (hts _ fl_X12_13) (fun _ h9 => h9) rfl dX12_asks_137 ?_
    refine lv_aload_n hx hb dX12_asks_140 rfl (lv_at hl 2 rfl) ?_
    refine W.eq (g2 := F0 m 141 ls [.ref b_o, .ref b_ro, .int k134_8]) rfl ?_
    refine va_get (D := G.1) (ci := 12) (v := .int (340 + (900 * (v_ro 3)))) (C := RX12) (T := TX12) (N := 52) hx hb hts inG_X12 hown hK hP 0 rfl rfl 27 (by decide +kernel) (hts _ fl_X12_329) (fun _ h9 => h9) rfl dX12_asks_141 ?_
    refine lv_iconst (v := 1) hx hb dX12_asks_144 (by decide +kernel) ?_
    refine lv_iadd hx hb dX12_asks_145 ?_
    have t_12 : ((340 + (900 * (v_ro 3))) + 1).toInt = (340 + (900 * (v_ro 3))).toInt + 1 := g5_iadd (a := (340 + (900 * (v_ro 3))).toInt) (b := 1) (by rfl) (by decide +kernel) (by omega) (by omega)
    refine va_iald hx hb hK hP 1 0 rfl rfl (i := ((340 + (900 * (v_ro 3))) + 1)) (vp_in_iff.mpr ⟨by omega, by omega⟩) dX12_asks_146 ?_
    have hc9 : 0 ≤ (v_ro ((340 + (900 * (v_ro 3))) + 1).toNatClampNeg).toInt ∧ (v_ro ((340 + (900 * (v_ro 3))) + 1).toNatClampNeg).toInt ≤ 12 := by rw [hz9]; exact hLW.1
    refine lv_icmp_ge (tgt := 205) hx hb dX12_asks_147 (by decide +kernel) (fun c_13 => ?_) (fun c_13 => ?_)
    ·
      have i_13 : k134_8.toInt ≥ (v_ro ((340 + (900 * (v_ro 3))) + 1).toNatClampNeg).toInt := g5_ge (a := k134_8.toInt) (b := (v_ro ((340 + (900 * (v_ro 3))) + 1).toNatClampNeg).toInt) rfl rfl c_13
      refine lv_lload hx hb dX12_asks_205 (lv_at hl 0 rfl) ?_
      refine lv_lconst (v := 0) hx hb dX12_asks_207 (by decide +kernel) ?_
      refine W.lcmp hx hb dX12_asks_208 ?_
      refine lv_if_ge (tgt := 216) hx hb dX12_asks_209 (by decide +kernel) (fun c_14 => ?_) (fun c_14 => ?_)
      ·
        have i_14 : (lg_cmp k134_6 0).toInt ≥ 0 := g5_ge (a := (lg_cmp k134_6 0).toInt) (b := 0) rfl (by decide +kernel) c_14
        refine lv_lload hx hb dX12_asks_216 (lv_at hl 0 rfl) ?_
        refine lv_iload hx hb dX12_asks_218 (lv_at hl 7 rfl) ?_
        refine lv_i2l (v := p_5.toInt64) hx hb dX12_asks_220 rfl ?_
        refine W.lcmp hx hb dX12_asks_221 ?_
        refine W.eq (g2 := F0 m 222 ls [.int (lg_cmp k134_6 p_5.toInt64)]) rfl ?_
        refine lv_if_le (tgt := 230) hx hb dX12_asks_222 (by decide +kernel) (fun c_15 => ?_) (fun c_15 => ?_)
        ·
          have i_15 : (lg_cmp k134_6 p_5.toInt64).toInt ≤ 0 := g5_le (a := (lg_cmp k134_6 p_5.toInt64).toInt) (b := 0) rfl (by decide +kernel) c_15
          refine lv_lload hx hb dX12_asks_230 (lv_at hl 0 rfl) ?_
          refine lv_l2i (v := k134_6.toInt32) hx hb dX12_asks_232 rfl ?_
          exact W.iret (v := k134_6.toInt32) hx hb hr (fun t ht hW => ⟨⟨k134_6.toInt32, [(b_o, (oc12 u_th u_sa b_rf b_ro b_im b_ke u_fd b_tp u_td u_fr u_to u_so u_wo u_fa u_bd u_nc b_nl u_co b_op b_ar u_le b_pi b_pa u_pd u_od b_ws b_hw (340 + (900 * (v_ro 3))) b_se b_re k134_bk k134_va k134_su u_ce u_ho u_wy u_bt u_ps b_pt u_tg u_sn b_ip u_ic b_ah b_be b_me u_wd b_tr b_ld u_st b_wn u_id)), (b_ro, (arI G 5740 v_ro)), (b_se, (arJ G 13 (vp_updL (vp_updL (vp_updL (vp_updL (vp_updL (vp_updL (vp_updL (vp_updL v_se 1 p_2.toInt64) 2 ((u_ce - u_ce / 8 * 8).toInt64)) 3 ((u_ce / 8).toInt64)) 4 u_ho.toInt64) 5 u_wy.toInt64) 6 p_3.toInt64) 7 u_ps.toInt64) 8 ((u_bt / 1000).toInt64)))), (b_re, (arJ G 400 k134_re))], rfl, ⟨k134_6.toInt32, (340 + (900 * (v_ro 3))), k134_bk, k134_va, k134_su, (vp_updL (vp_updL (vp_updL (vp_updL (vp_updL (vp_updL (vp_updL (vp_updL v_se 1 p_2.toInt64) 2 ((u_ce - u_ce / 8 * 8).toInt64)) 3 ((u_ce / 8).toInt64)) 4 u_ho.toInt64) 5 u_wy.toInt64) 6 p_3.toInt64) 7 u_ps.toInt64) 8 ((u_bt / 1000).toInt64)), k134_re, by have z9 : 0 ≤ k134_6.toInt32.toInt ∧ k134_6.toInt32.toInt ≤ p_5.toInt := g_l2i (by omega) (by omega); omega, (g_l2i (m := p_5) (by omega) (by omega)), ⟨by omega, by omega⟩, i_10, rfl, rfl⟩, by rw [ht]; exact hP.sub [0, 1, 2, 3] rfl, hD.sub [0, 1, 2, 3] (by decide +kernel) rfl⟩, hS.F ht⟩) hS.2.2 dX12_asks_233
        ·
          have i_15 : (lg_cmp k134_6 p_5.toInt64).toInt > 0 := g5_leN (a := (lg_cmp k134_6 p_5.toInt64).toInt) (b := 0) rfl (by decide +kernel) c_15
          refine lv_iload hx hb dX12_asks_225 (lv_at hl 7 rfl) ?_
          refine lv_goto (tgt := 233) hx hb dX12_asks_227 (by decide +kernel) ?_
          exact W.iret (v := p_5) hx hb hr (fun t ht hW => ⟨⟨p_5, [(b_o, (oc12 u_th u_sa b_rf b_ro b_im b_ke u_fd b_tp u_td u_fr u_to u_so u_wo u_fa u_bd u_nc b_nl u_co b_op b_ar u_le b_pi b_pa u_pd u_od b_ws b_hw (340 + (900 * (v_ro 3))) b_se b_re k134_bk k134_va k134_su u_ce u_ho u_wy u_bt u_ps b_pt u_tg u_sn b_ip u_ic b_ah b_be b_me u_wd b_tr b_ld u_st b_wn u_id)), (b_ro, (arI G 5740 v_ro)), (b_se, (arJ G 13 (vp_updL (vp_updL (vp_updL (vp_updL (vp_updL (vp_updL (vp_updL (vp_updL v_se 1 p_2.toInt64) 2 ((u_ce - u_ce / 8 * 8).toInt64)) 3 ((u_ce / 8).toInt64)) 4 u_ho.toInt64) 5 u_wy.toInt64) 6 p_3.toInt64) 7 u_ps.toInt64) 8 ((u_bt / 1000).toInt64)))), (b_re, (arJ G 400 k134_re))], rfl, ⟨p_5, (340 + (900 * (v_ro 3))), k134_bk, k134_va, k134_su, (vp_updL (vp_updL (vp_updL (vp_updL (vp_updL (vp_updL (vp_updL (vp_updL v_se 1 p_2.toInt64) 2 ((u_ce - u_ce / 8 * 8).toInt64)) 3 ((u_ce / 8).toInt64)) 4 u_ho.toInt64) 5 u_wy.toInt64) 6 p_3.toInt64) 7 u_ps.toInt64) 8 ((u_bt / 1000).toInt64)), k134_re, h_p_5, ⟨by omega, by omega⟩, ⟨by omega, by omega⟩, i_10, rfl, rfl⟩, by rw [ht]; exact hP.sub [0, 1, 2, 3] rfl, hD.sub [0, 1, 2, 3] (by decide +kernel) rfl⟩, hS.F ht⟩) hS.2.2 dX12_asks_233
      ·
        have i_14 : (lg_cmp k134_6 0).toInt < 0 := g5_geN (a := (lg_cmp k134_6 0).toInt) (b := 0) rfl (by decide +kernel) c_14
        refine lv_iconst (v := 0) hx hb dX12_asks_212 (by decide +kernel) ?_
        refine lv_goto (tgt := 233) hx hb dX12_asks_213 (by decide +kernel) ?_
        exact W.iret (v := 0) hx hb hr (fun t ht hW => ⟨⟨0, [(b_o, (oc12 u_th u_sa b_rf b_ro b_im b_ke u_fd b_tp u_td u_fr u_to u_so u_wo u_fa u_bd u_nc b_nl u_co b_op b_ar u_le b_pi b_pa u_pd u_od b_ws b_hw (340 + (900 * (v_ro 3))) b_se b_re k134_bk k134_va k134_su u_ce u_ho u_wy u_bt u_ps b_pt u_tg u_sn b_ip u_ic b_ah b_be b_me u_wd b_tr b_ld u_st b_wn u_id)), (b_ro, (arI G 5740 v_ro)), (b_se, (arJ G 13 (vp_updL (vp_updL (vp_updL (vp_updL (vp_updL (vp_updL (vp_updL (vp_updL v_se 1 p_2.toInt64) 2 ((u_ce - u_ce / 8 * 8).toInt64)) 3 ((u_ce / 8).toInt64)) 4 u_ho.toInt64) 5 u_wy.toInt64) 6 p_3.toInt64) 7 u_ps.toInt64) 8 ((u_bt / 1000).toInt64)))), (b_re, (arJ G 400 k134_re))], rfl, ⟨0, (340 + (900 * (v_ro 3))), k134_bk, k134_va, k134_su, (vp_updL (vp_updL (vp_updL (vp_updL (vp_updL (vp_updL (vp_updL (vp_updL v_se 1 p_2.toInt64) 2 ((u_ce - u_ce / 8 * 8).toInt64)) 3 ((u_ce / 8).toInt64)) 4 u_ho.toInt64) 5 u_wy.toInt64) 6 p_3.toInt64) 7 u_ps.toInt64) 8 ((u_bt / 1000).toInt64)), k134_re, ⟨by have zc_o_r : (0 : Int32).toInt = 0 := (by decide +kernel); omega, by have zc_o_r : (0 : Int32).toInt = 0 := (by decide +kernel); omega⟩, ⟨by have zc_o_r : (0 : Int32).toInt = 0 := (by decide +kernel); omega, by have zc_o_r : (0 : Int32).toInt = 0 := (by decide +kernel); omega⟩, ⟨by omega, by omega⟩, i_10, rfl, rfl⟩, by rw [ht]; exact hP.sub [0, 1, 2, 3] rfl, hD.sub [0, 1, 2, 3] (by decide +kernel) rfl⟩, hS.F ht⟩) hS.2.2 dX12_asks_233
    ·
      have i_13 : k134_8.toInt < (v_ro ((340 + (900 * (v_ro 3))) + 1).toNatClampNeg).toInt := g5_geN (a := k134_8.toInt) (b := (v_ro ((340 + (900 * (v_ro 3))) + 1).toNatClampNeg).toInt) rfl rfl c_13
      refine lv_aload_n hx hb dX12_asks_150 rfl (lv_at hl 2 rfl) ?_
      refine va_get (D := G.1) (ci := 12) (v := .int (340 + (900 * (v_ro 3)))) (C := RX12) (T := TX12) (N := 52) hx hb hts inG_X12 hown hK hP 0 rfl rfl 27 (by decide +kernel) (hts _ fl_X12_329) (fun _ h9 => h9) rfl dX12_asks_151 ?_
      refine lv_iconst (v := 2) hx hb dX12_asks_154 (by decide +kernel) ?_
      refine lv_iadd hx hb dX12_asks_155 ?_
      have t_16 : ((340 + (900 * (v_ro 3))) + 2).toInt = (340 + (900 * (v_ro 3))).toInt + 2 := g5_iadd (a := (340 + (900 * (v_ro 3))).toInt) (b := 2) (by rfl) (by decide +kernel) (by omega) (by omega)
      refine W.eq (g2 := F0 m 156 ls [.int ((340 + (900 * (v_ro 3))) + 2)]) rfl ?_
      refine lv_bipush (v := 8) hx hb dX12_asks_156 (by decide +kernel) ?_
      refine lv_iload hx hb dX12_asks_158 (lv_at hl 1 rfl) ?_
      refine lv_imul hx hb dX12_asks_160 ?_
      have t_17 : (8 * k134_8).toInt = 8 * k134_8.toInt := g5_imul (a := 8) (b := k134_8.toInt) (by decide +kernel) (by rfl) (by omega) (by omega)
      refine lv_iadd hx hb dX12_asks_161 ?_
      have t_18 : (((340 + (900 * (v_ro 3))) + 2) + (8 * k134_8)).toInt = ((340 + (900 * (v_ro 3))) + 2).toInt + (8 * k134_8).toInt := g5_iadd (a := ((340 + (900 * (v_ro 3))) + 2).toInt) (b := (8 * k134_8).toInt) (by rfl) (by rfl) (by omega) (by omega)
      refine lv_istore (lv' := [(9, .int (((340 + (900 * (v_ro 3))) + 2) + (8 * k134_8))), (6, .long k134_6), (8, .int k134_8), (0, .ref b_o), (1, .int p_1), (2, .int p_2), (3, .int p_3), (4, .int p_4), (5, .int p_5)]) hx hb dX12_asks_162 hl (by decide +kernel) rfl ?_
      clear hl
      intro ls hl
      refine W.eq (g2 := F0 m 164 ls []) rfl ?_
      refine lv_aload_n hx hb dX12_asks_164 rfl (lv_at hl 3 rfl) ?_
      refine va_get (D := G.1) (ci := 12) (v := .ref b_ro) (C := RX12) (T := TX12) (N := 52) hx hb hts inG_X12 hown hK hP 0 rfl rfl 3 (by decide +kernel) (hts _ fl_X12_13) (fun _ h9 => h9) rfl dX12_asks_165 ?_
      refine lv_iload hx hb dX12_asks_168 (lv_at hl 0 rfl) ?_
      refine va_iald hx hb hK hP 1 0 rfl rfl (i := (((340 + (900 * (v_ro 3))) + 2) + (8 * k134_8))) (vp_in_iff.mpr ⟨by omega, by omega⟩) dX12_asks_170 ?_
      refine lv_iload_n hx hb dX12_asks_171 rfl (lv_at hl 4 rfl) ?_
      refine W.eq (g2 := F0 m 172 ls [.int p_1, .int (v_ro (((340 + (900 * (v_ro 3))) + 2) + (8 * k134_8)).toNatClampNeg)]) rfl ?_
      refine lv_icmp_ne (tgt := 199) hx hb dX12_asks_172 (by decide +kernel) (fun c_19 => ?_) (fun c_19 => ?_)
      ·
        have n_19 : gNe ((v_ro (((340 + (900 * (v_ro 3))) + 2) + (8 * k134_8)).toNatClampNeg).toInt) (p_1.toInt) := g5_ne (a := (v_ro (((340 + (900 * (v_ro 3))) + 2) + (8 * k134_8)).toNatClampNeg).toInt) (b := p_1.toInt) rfl rfl c_19
        refine lv_iinc (v := (k134_8 + 1)) (lv' := [(8, .int (k134_8 + 1)), (9, .int (((340 + (900 * (v_ro 3))) + 2) + (8 * k134_8))), (6, .long k134_6), (0, .ref b_o), (1, .int p_1), (2, .int p_2), (3, .int p_3), (4, .int p_4), (5, .int p_5)]) hx hb dX12_asks_199 hl (k := 2) rfl rfl (by decide +kernel) rfl ?_
        clear hl
        intro ls hl
        have t_20 : (k134_8 + 1).toInt = k134_8.toInt + 1 := g5_iadd (a := k134_8.toInt) (b := 1) rfl (by decide +kernel) (by omega) (by omega)
        refine lv_goto (tgt := 134) hx hb dX12_asks_202 (by decide +kernel) ?_
        exact ih_134_11 ((k134_8 + 1), k134_6, k134_bk, k134_va, k134_su, k134_re) ls H locs (show Int.toNat (12 - (k134_8 + 1).toInt) < Int.toNat (12 - k134_8.toInt) from g_up (show k134_8.toInt < (k134_8 + 1).toInt by omega) (show k134_8.toInt < 12 by omega)) ⟨lv_sub hl [2, 0, 3, 4, 5, 6, 7, 8] rfl, hP, hD, hS, ⟨by omega, by omega⟩, i_10⟩
      ·
        have i_19 : (v_ro (((340 + (900 * (v_ro 3))) + 2) + (8 * k134_8)).toNatClampNeg).toInt = p_1.toInt := g5_neN (a := (v_ro (((340 + (900 * (v_ro 3))) + 2) + (8 * k134_8)).toNatClampNeg).toInt) (b := p_1.toInt) rfl rfl c_19
        refine lv_aload_n hx hb dX12_asks_175 rfl (lv_at hl 3 rfl) ?_
        refine lv_iload hx hb dX12_asks_176 (lv_at hl 0 rfl) ?_
        obtain ⟨hPc, hDc, hFc⟩ := g5_sub3 (wc := [(b_o, (oc12 u_th u_sa b_rf b_ro b_im b_ke u_fd b_tp u_td u_fr u_to u_so u_wo u_fa u_bd u_nc b_nl u_co b_op b_ar u_le b_pi b_pa u_pd u_od b_ws b_hw (340 + (900 * (v_ro 3))) b_se b_re k134_bk k134_va k134_su u_ce u_ho u_wy u_bt u_ps b_pt u_tg u_sn b_ip u_ic b_ah b_be b_me u_wd b_tr b_ld u_st b_wn u_id)), (b_ro, (arI G 5740 v_ro)), (b_se, (arJ G 13 (vp_updL (vp_updL (vp_updL (vp_updL (vp_updL (vp_updL (vp_updL (vp_updL v_se 1 p_2.toInt64) 2 ((u_ce - u_ce / 8 * 8).toInt64)) 3 ((u_ce / 8).toInt64)) 4 u_ho.toInt64) 5 u_wy.toInt64) 6 p_3.toInt64) 7 u_ps.toInt64) 8 ((u_bt / 1000).toInt64)))), (b_re, (arJ G 400 k134_re))]) hP hD hS hA [0, 1, 2, 3] (by decide +kernel) rfl
        refine va_calli (va_runV (As := [.int (((340 + (900 * (v_ro 3))) + 2) + (8 * k134_8))]) (rest := []) ⟨hx, hb, hml, hown, hts⟩ (n_isSo l G b_o b_ro b_se b_re b_rf b_im b_ke b_tp b_nl b_op b_ar b_pi b_pa b_ws b_hw b_pt b_ip b_ah b_be b_me b_tr b_ld b_wn H.size u_th u_sa u_fd u_td u_fr u_to u_so u_fa u_bd u_nc u_co u_le u_pd u_od (340 + (900 * (v_ro 3))) k134_bk u_ce u_ho u_wy u_bt u_ps u_tg u_sn u_ic u_wd u_id (((340 + (900 * (v_ro 3))) + 2) + (8 * k134_8)) u_wo k134_va k134_su u_st v_ro (vp_updL (vp_updL (vp_updL (vp_updL (vp_updL (vp_updL (vp_updL (vp_updL v_se 1 p_2.toInt64) 2 ((u_ce - u_ce / 8 * 8).toInt64)) 3 ((u_ce / 8).toInt64)) 4 u_ho.toInt64) 5 u_wy.toInt64) 6 p_3.toInt64) 7 u_ps.toInt64) 8 ((u_bt / 1000).toInt64)) k134_re h_u_td h_u_fr h_u_to h_u_bd h_u_nc h_u_co h_u_pd ⟨by omega, by omega⟩ i_10 h_u_ce h_u_ho h_u_wy h_u_bt h_u_ps h_u_ic h_u_id ⟨by omega, by omega⟩ (r_ro) (by have hk9 : (((340 + (900 * (v_ro 3))) + 2) + (8 * k134_8)).toNatClampNeg = (340 + (900 * (v_ro 3))).toNatClampNeg + 2 + 8 * k134_8.toInt.toNat := (by have z1 := g5_clamp (((340 + (900 * (v_ro 3))) + 2) + (8 * k134_8)); have z2 := g5_clamp (340 + (900 * (v_ro 3))); omega); rw [hk9]; exact hLW.2 k134_8.toInt.toNat (by rw [← hz9]; omega))) (cwV 1 hts gV_X12_364 rfl rfl rfl hv_X12_isSo ⟨Nat.le_of_ble_eq_true rfl, Nat.le_of_ble_eq_true rfl⟩) (g5_preV hPc hK hDc hN hT hS hFc (ci := 12) (q0 := 0) rfl rfl) rfl rfl hl.1 rfl (lv_room (Nat.le_of_ble_eq_true rfl)) dX12_asks_178 ⟨Nat.le_of_ble_eq_true rfl, Nat.le_of_ble_eq_true rfl⟩) hS (fun q _ h => hFc q h) hFc (fun r u t H locs ht hvm hw hB hz1 hk1 hS => ?_)
        obtain ⟨hP1, hD1⟩ := hB
        have hP1 := g5_ht ht hP1
        obtain ⟨z23, z24, z25, z26, z27, (i_21 : 0 ≤ z23.toInt ∧ z23.toInt ≤ 1), (i_22 : 0 ≤ z24.toInt ∧ z24.toInt ≤ 1), y28, rfl⟩ := hw
        have hJ9 := va_join (wr := []) hP hD [0, 1, 2, 3] [] rfl rfl (by decide +kernel) (by decide +kernel) hk1 hFc hP1 hD1
        clear hP hD hPc hDc hFc ht hvm hz1 hk1 hP1 hD1
        obtain ⟨hP, hD⟩ := hJ9
        refine g5_rs [(b_o, (oc12 u_th u_sa b_rf b_ro b_im b_ke u_fd b_tp u_td u_fr u_to u_so u_wo u_fa u_bd u_nc b_nl u_co b_op b_ar u_le b_pi b_pa u_pd u_od b_ws b_hw (340 + (900 * (v_ro 3))) b_se b_re z24 z25 z26 u_ce u_ho u_wy u_bt u_ps b_pt u_tg u_sn b_ip u_ic b_ah b_be b_me u_wd b_tr b_ld u_st b_wn u_id)), (b_ro, (arI G 5740 v_ro)), (b_se, (arJ G 13 (vp_updL (vp_updL (vp_updL (vp_updL (vp_updL (vp_updL (vp_updL (vp_updL v_se 1 p_2.toInt64) 2 ((u_ce - u_ce / 8 * 8).toInt64)) 3 ((u_ce / 8).toInt64)) 4 u_ho.toInt64) 5 u_wy.toInt64) 6 p_3.toInt64) 7 u_ps.toInt64) 8 ((u_bt / 1000).toInt64)))), (b_re, (arJ G 400 z27))] hP hD ?_
        clear hP hD
        intro hP hD
        refine g5_ti (v := z23) y28 ?_
        refine lv_if_eq (tgt := 199) hx hb dX12_asks_181 (by decide +kernel) (fun c_29 => ?_) (fun c_29 => ?_)
        ·
          have i_29 : z23.toInt = 0 := g5_eq (a := z23.toInt) (b := 0) rfl (by decide +kernel) c_29
          refine lv_iinc (v := (k134_8 + 1)) (lv' := [(8, .int (k134_8 + 1)), (9, .int (((340 + (900 * (v_ro 3))) + 2) + (8 * k134_8))), (6, .long k134_6), (0, .ref b_o), (1, .int p_1), (2, .int p_2), (3, .int p_3), (4, .int p_4), (5, .int p_5)]) hx hb dX12_asks_199 hl (k := 2) rfl rfl (by decide +kernel) rfl ?_
          clear hl
          intro ls hl
          have t_30 : (k134_8 + 1).toInt = k134_8.toInt + 1 := g5_iadd (a := k134_8.toInt) (b := 1) rfl (by decide +kernel) (by omega) (by omega)
          refine lv_goto (tgt := 134) hx hb dX12_asks_202 (by decide +kernel) ?_
          exact ih_134_11 ((k134_8 + 1), k134_6, z24, z25, z26, z27) ls H locs (show Int.toNat (12 - (k134_8 + 1).toInt) < Int.toNat (12 - k134_8.toInt) from g_up (show k134_8.toInt < (k134_8 + 1).toInt by omega) (show k134_8.toInt < 12 by omega)) ⟨lv_sub hl [2, 0, 3, 4, 5, 6, 7, 8] rfl, hP, hD, hS, ⟨by omega, by omega⟩, i_22⟩
        ·
          have n_29 : gNe (z23.toInt) (0) := g5_eqN (a := z23.toInt) (b := 0) rfl (by decide +kernel) c_29
          have i_29 : z23.toInt ≥ 1 := by have z := g5_eqN (a := z23.toInt) (b := 0) (by rfl) (by decide +kernel) c_29; omega
          refine lv_iload_n hx hb dX12_asks_184 rfl (lv_at hl 4 rfl) ?_
          refine lv_iconst (v := 2) hx hb dX12_asks_185 (by decide +kernel) ?_
          refine lv_icmp_ge (tgt := 196) hx hb dX12_asks_186 (by decide +kernel) (fun c_31 => ?_) (fun c_31 => ?_)
          ·
            have i_31 : p_1.toInt ≥ 2 := g5_ge (a := p_1.toInt) (b := 2) rfl (by decide +kernel) c_31
            refine lv_lconst (v := 1) hx hb dX12_asks_196 (by decide +kernel) ?_
            refine lv_lstore (lv' := [(6, .long 1), (9, .int (((340 + (900 * (v_ro 3))) + 2) + (8 * k134_8))), (8, .int k134_8), (0, .ref b_o), (1, .int p_1), (2, .int p_2), (3, .int p_3), (4, .int p_4), (5, .int p_5)]) hx hb dX12_asks_197 hl (by decide +kernel) rfl ?_
            clear hl
            intro ls hl
            refine lv_iinc (v := (k134_8 + 1)) (lv' := [(8, .int (k134_8 + 1)), (6, .long 1), (9, .int (((340 + (900 * (v_ro 3))) + 2) + (8 * k134_8))), (0, .ref b_o), (1, .int p_1), (2, .int p_2), (3, .int p_3), (4, .int p_4), (5, .int p_5)]) hx hb dX12_asks_199 hl (k := 2) rfl rfl (by decide +kernel) rfl ?_
            clear hl
            intro ls hl
            have t_32 : (k134_8 + 1).toInt = k134_8.toInt + 1 := g5_iadd (a := k134_8.toInt) (b := 1) rfl (by decide +kernel) (by omega) (by omega)
            refine lv_goto (tgt := 134) hx hb dX12_asks_202 (by decide +kernel) ?_
            exact ih_134_11 ((k134_8 + 1), 1, z24, z25, z26, z27) ls H locs (show Int.toNat (12 - (k134_8 + 1).toInt) < Int.toNat (12 - k134_8.toInt) from g_up (show k134_8.toInt < (k134_8 + 1).toInt by omega) (show k134_8.toInt < 12 by omega)) ⟨lv_sub hl [1, 0, 3, 4, 5, 6, 7, 8] rfl, hP, hD, hS, ⟨by omega, by omega⟩, i_22⟩
          ·
            have i_31 : p_1.toInt < 2 := g5_geN (a := p_1.toInt) (b := 2) rfl (by decide +kernel) c_31
            refine lv_aload_n hx hb dX12_asks_189 rfl (lv_at hl 3 rfl) ?_
            refine va_get (D := G.1) (ci := 12) (v := .long z26) (C := RX12) (T := TX12) (N := 52) hx hb hts inG_X12 hown hK hP 0 rfl rfl 32 (by decide +kernel) (hts _ fl_X12_346) (fun _ h9 => h9) rfl dX12_asks_190 ?_
            refine lv_goto (tgt := 197) hx hb dX12_asks_193 (by decide +kernel) ?_
            refine lv_lstore (lv' := [(6, .long z26), (9, .int (((340 + (900 * (v_ro 3))) + 2) + (8 * k134_8))), (8, .int k134_8), (0, .ref b_o), (1, .int p_1), (2, .int p_2), (3, .int p_3), (4, .int p_4), (5, .int p_5)]) hx hb dX12_asks_197 hl (by decide +kernel) rfl ?_
            clear hl
            intro ls hl
            refine W.eq (g2 := F0 m 199 ls []) rfl ?_
            refine lv_iinc (v := (k134_8 + 1)) (lv' := [(8, .int (k134_8 + 1)), (6, .long z26), (9, .int (((340 + (900 * (v_ro 3))) + 2) + (8 * k134_8))), (0, .ref b_o), (1, .int p_1), (2, .int p_2), (3, .int p_3), (4, .int p_4), (5, .int p_5)]) hx hb dX12_asks_199 hl (k := 2) rfl rfl (by decide +kernel) rfl ?_
            clear hl
            intro ls hl
            have t_33 : (k134_8 + 1).toInt = k134_8.toInt + 1 := g5_iadd (a := k134_8.toInt) (b := 1) rfl (by decide +kernel) (by omega) (by omega)
            refine lv_goto (tgt := 134) hx hb dX12_asks_202 (by decide +kernel) ?_
            exact ih_134_11 ((k134_8 + 1), z26, z24, z25, z26, z27) ls H locs (show Int.toNat (12 - (k134_8 + 1).toInt) < Int.toNat (12 - k134_8.toInt) from g_up (show k134_8.toInt < (k134_8 + 1).toInt by omega) (show k134_8.toInt < 12 by omega)) ⟨lv_sub hl [1, 0, 3, 4, 5, 6, 7, 8] rfl, hP, hD, hS, ⟨by omega, by omega⟩, i_22⟩
  ·
    have i_2 : (v_ro 3).toInt = (-1) := g5_neN (a := (v_ro 3).toInt) (b := (-1)) rfl (by decide +kernel) c_2
    refine lv_iload hx hb dX12_asks_10 (lv_at hl 4 rfl) ?_
    exact W.iret (v := p_4) hx hb hr (fun t ht hW => ⟨⟨p_4, [(b_o, (oc12 u_th u_sa b_rf b_ro b_im b_ke u_fd b_tp u_td u_fr u_to u_so u_wo u_fa u_bd u_nc b_nl u_co b_op b_ar u_le b_pi b_pa u_pd u_od b_ws b_hw u_la b_se b_re u_bk u_va u_su u_ce u_ho u_wy u_bt u_ps b_pt u_tg u_sn b_ip u_ic b_ah b_be b_me u_wd b_tr b_ld u_st b_wn u_id)), (b_ro, (arI G 5740 v_ro)), (b_se, (arJ G 13 v_se)), (b_re, (arJ G 400 v_re))], rfl, ⟨p_4, u_la, u_bk, u_va, u_su, v_se, v_re, h_p_4, ⟨by omega, by omega⟩, h_u_la, h_u_bk, rfl, rfl⟩, by rw [ht]; exact hP.sub [0, 1, 2, 3] rfl, hD.sub [0, 1, 2, 3] (by decide +kernel) rfl⟩, hS.F ht⟩) hS.2.2 dX12_asks_12
theorem dgX12_isFree_0 : ∀ r ∈ ([(0, (.iconst 0, 1)), (1, (.istore_n 1, 1)), (2, (.iload_n 1, 1)), (3, (.aload_n 0, 1)), (4, (.getfield 13, 3)), (7, (.iconst 1, 1)), (8, (.iaload, 1)), (9, (.if_icmp .ge 44, 3)), (12, (.aload_n 0, 1)), (13, (.iload_n 1, 1)), (14, (.aload_n 0, 1)), (15, (.getfield 352, 3)), (18, (.invokevirtual 187, 3)), (21, (.aload_n 0, 1)), (22, (.getfield 349, 3)), (25, (.if_icmp .ne 22, 3)), (28, (.aload_n 0, 1)), (29, (.iconst 3, 1)), (30, (.iconst (-1), 1)), (31, (.iload_n 1, 1)), (32, (.iconst 0, 1)), (33, (.iconst 1, 1)), (34, (.invokevirtual 383, 3)), (37, (.ifCond .ne 10, 3)), (40, (.aload_n 0, 1)), (41, (.iload_n 1, 1)), (42, (.putfield 371, 3)), (45, (.iconst 0, 1)), (46, (.ireturn, 1)), (47, (.iinc 1 1, 3)), (50, (.goto (-48), 3)), (53, (.iconst 1, 1)), (54, (.ireturn, 1))] : List (Nat × (Instr × Nat))), decode cX12_isFree r.1 = .ok r.2 := by decide +kernel
theorem dX12_isFree_0 : decode cX12_isFree 0 = .ok (.iconst 0, 1) := dgX12_isFree_0 (0, (.iconst 0, 1)) (List.mem_of_getElem? (i := 0) rfl)
theorem dX12_isFree_1 : decode cX12_isFree 1 = .ok (.istore_n 1, 1) := dgX12_isFree_0 (1, (.istore_n 1, 1)) (List.mem_of_getElem? (i := 1) rfl)
theorem dX12_isFree_2 : decode cX12_isFree 2 = .ok (.iload_n 1, 1) := dgX12_isFree_0 (2, (.iload_n 1, 1)) (List.mem_of_getElem? (i := 2) rfl)
theorem dX12_isFree_3 : decode cX12_isFree 3 = .ok (.aload_n 0, 1) := dgX12_isFree_0 (3, (.aload_n 0, 1)) (List.mem_of_getElem? (i := 3) rfl)
theorem dX12_isFree_4 : decode cX12_isFree 4 = .ok (.getfield 13, 3) := dgX12_isFree_0 (4, (.getfield 13, 3)) (List.mem_of_getElem? (i := 4) rfl)
theorem dX12_isFree_7 : decode cX12_isFree 7 = .ok (.iconst 1, 1) := dgX12_isFree_0 (7, (.iconst 1, 1)) (List.mem_of_getElem? (i := 5) rfl)
theorem dX12_isFree_8 : decode cX12_isFree 8 = .ok (.iaload, 1) := dgX12_isFree_0 (8, (.iaload, 1)) (List.mem_of_getElem? (i := 6) rfl)
theorem dX12_isFree_9 : decode cX12_isFree 9 = .ok (.if_icmp .ge 44, 3) := dgX12_isFree_0 (9, (.if_icmp .ge 44, 3)) (List.mem_of_getElem? (i := 7) rfl)
theorem dX12_isFree_12 : decode cX12_isFree 12 = .ok (.aload_n 0, 1) := dgX12_isFree_0 (12, (.aload_n 0, 1)) (List.mem_of_getElem? (i := 8) rfl)
theorem dX12_isFree_13 : decode cX12_isFree 13 = .ok (.iload_n 1, 1) := dgX12_isFree_0 (13, (.iload_n 1, 1)) (List.mem_of_getElem? (i := 9) rfl)
theorem dX12_isFree_14 : decode cX12_isFree 14 = .ok (.aload_n 0, 1) := dgX12_isFree_0 (14, (.aload_n 0, 1)) (List.mem_of_getElem? (i := 10) rfl)
theorem dX12_isFree_15 : decode cX12_isFree 15 = .ok (.getfield 352, 3) := dgX12_isFree_0 (15, (.getfield 352, 3)) (List.mem_of_getElem? (i := 11) rfl)
theorem dX12_isFree_18 : decode cX12_isFree 18 = .ok (.invokevirtual 187, 3) := dgX12_isFree_0 (18, (.invokevirtual 187, 3)) (List.mem_of_getElem? (i := 12) rfl)
theorem dX12_isFree_21 : decode cX12_isFree 21 = .ok (.aload_n 0, 1) := dgX12_isFree_0 (21, (.aload_n 0, 1)) (List.mem_of_getElem? (i := 13) rfl)
theorem dX12_isFree_22 : decode cX12_isFree 22 = .ok (.getfield 349, 3) := dgX12_isFree_0 (22, (.getfield 349, 3)) (List.mem_of_getElem? (i := 14) rfl)
theorem dX12_isFree_25 : decode cX12_isFree 25 = .ok (.if_icmp .ne 22, 3) := dgX12_isFree_0 (25, (.if_icmp .ne 22, 3)) (List.mem_of_getElem? (i := 15) rfl)
theorem dX12_isFree_28 : decode cX12_isFree 28 = .ok (.aload_n 0, 1) := dgX12_isFree_0 (28, (.aload_n 0, 1)) (List.mem_of_getElem? (i := 16) rfl)
theorem dX12_isFree_29 : decode cX12_isFree 29 = .ok (.iconst 3, 1) := dgX12_isFree_0 (29, (.iconst 3, 1)) (List.mem_of_getElem? (i := 17) rfl)
theorem dX12_isFree_30 : decode cX12_isFree 30 = .ok (.iconst (-1), 1) := dgX12_isFree_0 (30, (.iconst (-1), 1)) (List.mem_of_getElem? (i := 18) rfl)
theorem dX12_isFree_31 : decode cX12_isFree 31 = .ok (.iload_n 1, 1) := dgX12_isFree_0 (31, (.iload_n 1, 1)) (List.mem_of_getElem? (i := 19) rfl)
theorem dX12_isFree_32 : decode cX12_isFree 32 = .ok (.iconst 0, 1) := dgX12_isFree_0 (32, (.iconst 0, 1)) (List.mem_of_getElem? (i := 20) rfl)
theorem dX12_isFree_33 : decode cX12_isFree 33 = .ok (.iconst 1, 1) := dgX12_isFree_0 (33, (.iconst 1, 1)) (List.mem_of_getElem? (i := 21) rfl)
theorem dX12_isFree_34 : decode cX12_isFree 34 = .ok (.invokevirtual 383, 3) := dgX12_isFree_0 (34, (.invokevirtual 383, 3)) (List.mem_of_getElem? (i := 22) rfl)
theorem dX12_isFree_37 : decode cX12_isFree 37 = .ok (.ifCond .ne 10, 3) := dgX12_isFree_0 (37, (.ifCond .ne 10, 3)) (List.mem_of_getElem? (i := 23) rfl)
theorem dX12_isFree_40 : decode cX12_isFree 40 = .ok (.aload_n 0, 1) := dgX12_isFree_0 (40, (.aload_n 0, 1)) (List.mem_of_getElem? (i := 24) rfl)
theorem dX12_isFree_41 : decode cX12_isFree 41 = .ok (.iload_n 1, 1) := dgX12_isFree_0 (41, (.iload_n 1, 1)) (List.mem_of_getElem? (i := 25) rfl)
theorem dX12_isFree_42 : decode cX12_isFree 42 = .ok (.putfield 371, 3) := dgX12_isFree_0 (42, (.putfield 371, 3)) (List.mem_of_getElem? (i := 26) rfl)
theorem dX12_isFree_45 : decode cX12_isFree 45 = .ok (.iconst 0, 1) := dgX12_isFree_0 (45, (.iconst 0, 1)) (List.mem_of_getElem? (i := 27) rfl)
theorem dX12_isFree_46 : decode cX12_isFree 46 = .ok (.ireturn, 1) := dgX12_isFree_0 (46, (.ireturn, 1)) (List.mem_of_getElem? (i := 28) rfl)
theorem dX12_isFree_47 : decode cX12_isFree 47 = .ok (.iinc 1 1, 3) := dgX12_isFree_0 (47, (.iinc 1 1, 3)) (List.mem_of_getElem? (i := 29) rfl)
theorem dX12_isFree_50 : decode cX12_isFree 50 = .ok (.goto (-48), 3) := dgX12_isFree_0 (50, (.goto (-48), 3)) (List.mem_of_getElem? (i := 30) rfl)
theorem dX12_isFree_53 : decode cX12_isFree 53 = .ok (.iconst 1, 1) := dgX12_isFree_0 (53, (.iconst 1, 1)) (List.mem_of_getElem? (i := 31) rfl)
theorem dX12_isFree_54 : decode cX12_isFree 54 = .ok (.ireturn, 1) := dgX12_isFree_0 (54, (.ireturn, 1)) (List.mem_of_getElem? (i := 32) rfl)
theorem ml_X12_383 : Cond.methodLink RX12 383 yX12_asks ∈ tblG := tg 1622 (by decide +kernel) (by decide +kernel)
theorem im_X12_asks : Cond.instanceMethod yX12_asks ∈ tblG := tg 1624 (by decide +kernel) (by decide +kernel)
theorem se_X12_asks : Cond.selects RX12 yX12_asks yX12_asks ∈ tblG := tg 64 (by decide +kernel) (by decide +kernel)
theorem cd_X12_asks : Cond.code yX12_asks cX12_asks 10 (some .int) ∈ tblG := tg 1625 (by decide +kernel) (by decide +kernel)
theorem gW_X12_asks : GoodIn tblG (wsG yX12_asks cX12_asks 10 (some .int)) := tgi cd_X12_asks
theorem gV_X12_383 : GoodIn tblG (wsV RX12 383 RX12 yX12_asks (wsG yX12_asks cX12_asks 10 (some .int))) := tgV ml_X12_383 im_X12_asks se_X12_asks ini_X12 gW_X12_asks
theorem hv_X12_asks : yX12_asks.cls = RX12 ∧ yX12_asks.cls ≠ "java/lang/invoke/MethodHandle" ∧ yX12_asks.cls ≠ "java/lang/invoke/VarHandle" ∧ (parseMethodDescriptor yX12_asks.desc).map (fun d => d.parameters.length) = some 5 := by decide +kernel
theorem fl_X12_371 : Cond.fieldLink RX12 371 "LateGlassModel" "seen" "I" ∈ tblG := tg 1243 (by decide +kernel) (by decide +kernel)
set_option maxHeartbeats 4000000 in
set_option maxRecDepth 100000 in
theorem n_isFree (l : Launch) (G : g5_G) (b_o b_ro b_se b_re b_rf b_im b_ke b_tp b_nl b_op b_ar b_pi b_pa b_ws b_hw b_pt b_ip b_ah b_be b_me b_tr b_ld b_wn : Nat) (sz : Nat) (u_th : Int32) (u_sa : Int32) (u_fd : Int32) (u_td : Int32) (u_fr : Int32) (u_to : Int32) (u_so : Int32) (u_fa : Int32) (u_bd : Int32) (u_nc : Int32) (u_co : Int32) (u_le : Int32) (u_pd : Int32) (u_od : Int32) (u_la : Int32) (u_bk : Int32) (u_ce : Int32) (u_ho : Int32) (u_wy : Int32) (u_bt : Int32) (u_ps : Int32) (u_tg : Int32) (u_sn : Int32) (u_ic : Int32) (u_wd : Int32) (u_id : Int32) (u_wo : Int64) (u_va : Int64) (u_su : Int64) (u_st : Int64) (v_ro : Nat → Int32) (v_se : Nat → Int64) (v_re : Nat → Int64) (h_u_td : 0 ≤ u_td.toInt ∧ u_td.toInt ≤ 400) (h_u_fr : 0 ≤ u_fr.toInt ∧ u_fr.toInt ≤ 400) (h_u_to : 0 ≤ u_to.toInt ∧ u_to.toInt ≤ 400) (h_u_bd : 0 ≤ u_bd.toInt ∧ u_bd.toInt ≤ 1) (h_u_nc : 0 ≤ u_nc.toInt ∧ u_nc.toInt ≤ 12) (h_u_co : 0 ≤ u_co.toInt ∧ u_co.toInt ≤ 400) (h_u_pd : 0 ≤ u_pd.toInt ∧ u_pd.toInt ≤ 400) (h_u_la : 0 ≤ u_la.toInt ∧ u_la.toInt ≤ 4840) (h_u_bk : 0 ≤ u_bk.toInt ∧ u_bk.toInt ≤ 1) (h_u_ce : 0 ≤ u_ce.toInt ∧ u_ce.toInt ≤ 63) (h_u_ho : 0 ≤ u_ho.toInt ∧ u_ho.toInt ≤ 23) (h_u_wy : 0 ≤ u_wy.toInt ∧ u_wy.toInt ≤ 3) (h_u_bt : 0 ≤ u_bt.toInt ∧ u_bt.toInt ≤ 1000000) (h_u_ps : 0 ≤ u_ps.toInt ∧ u_ps.toInt ≤ 200) (h_u_ic : 0 ≤ u_ic.toInt ∧ u_ic.toInt ≤ 1) (h_u_id : 0 ≤ u_id.toInt ∧ u_id.toInt ≤ 1) (r_ro : MI v_ro) : Met l yX12_isFree (wsG yX12_isFree cX12_isFree 2 (some .boolean)) ({ frames := 4, cells := 0, slots := 0, locals := 101 }) (va_Pc [.ref b_o] (g5_P G [(b_o, (oc12 u_th u_sa b_rf b_ro b_im b_ke u_fd b_tp u_td u_fr u_to u_so u_wo u_fa u_bd u_nc b_nl u_co b_op b_ar u_le b_pi b_pa u_pd u_od b_ws b_hw u_la b_se b_re u_bk u_va u_su u_ce u_ho u_wy u_bt u_ps b_pt u_tg u_sn b_ip u_ic b_ah b_be b_me u_wd b_tr b_ld u_st b_wn u_id)), (b_ro, (arI G 5740 v_ro)), (b_se, (arJ G 13 v_se)), (b_re, (arJ G 400 v_re))] sz)) (va_Qi (fun (r : Int32) (u : va_W) => (∃ (o_r : Int32) (o_la : Int32) (o_bk : Int32) (o_va : Int64) (o_su : Int64) (o_sn : Int32) (o_se : Nat → Int64) (o_re : Nat → Int64), (0 ≤ o_r.toInt ∧ o_r.toInt ≤ 1) ∧ (0 ≤ o_la.toInt ∧ o_la.toInt ≤ 4840) ∧ (0 ≤ o_bk.toInt ∧ o_bk.toInt ≤ 1) ∧ (r = o_r) ∧ (u = [(b_o, (oc12 u_th u_sa b_rf b_ro b_im b_ke u_fd b_tp u_td u_fr u_to u_so u_wo u_fa u_bd u_nc b_nl u_co b_op b_ar u_le b_pi b_pa u_pd u_od b_ws b_hw o_la b_se b_re o_bk o_va o_su u_ce u_ho u_wy u_bt u_ps b_pt u_tg o_sn b_ip u_ic b_ah b_be b_me u_wd b_tr b_ld u_st b_wn u_id)), (b_ro, (arI G 5740 v_ro)), (b_se, (arJ G 13 o_se)), (b_re, (arJ G 400 o_re))]))) (g5_B G (va_A [(b_o, (oc12 u_th u_sa b_rf b_ro b_im b_ke u_fd b_tp u_td u_fr u_to u_so u_wo u_fa u_bd u_nc b_nl u_co b_op b_ar u_le b_pi b_pa u_pd u_od b_ws b_hw u_la b_se b_re u_bk u_va u_su u_ce u_ho u_wy u_bt u_ps b_pt u_tg u_sn b_ip u_ic b_ah b_be b_me u_wd b_tr b_ld u_st b_wn u_id)), (b_ro, (arI G 5740 v_ro)), (b_se, (arJ G 13 v_se)), (b_re, (arJ G 400 v_re))] sz)) (va_A [(b_o, (oc12 u_th u_sa b_rf b_ro b_im b_ke u_fd b_tp u_td u_fr u_to u_so u_wo u_fa u_bd u_nc b_nl u_co b_op b_ar u_le b_pi b_pa u_pd u_od b_ws b_hw u_la b_se b_re u_bk u_va u_su u_ce u_ho u_wy u_bt u_ps b_pt u_tg u_sn b_ip u_ic b_ah b_be b_me u_wd b_tr b_ld u_st b_wn u_id)), (b_ro, (arI G 5740 v_ro)), (b_se, (arJ G 13 v_se)), (b_re, (arJ G 400 v_re))] sz)) 0 0 (va_A [(b_o, (oc12 u_th u_sa b_rf b_ro b_im b_ke u_fd b_tp u_td u_fr u_to u_so u_wo u_fa u_bd u_nc b_nl u_co b_op b_ar u_le b_pi b_pa u_pd u_od b_ws b_hw u_la b_se b_re u_bk u_va u_su u_ce u_ho u_wy u_bt u_ps b_pt u_tg u_sn b_ip u_ic b_ah b_be b_me u_wd b_tr b_ld u_st b_wn u_id)), (b_ro, (arI G 5740 v_ro)), (b_se, (arJ G 13 v_se)), (b_re, (arJ G 400 v_re))] sz) := by
  refine Met.ofW (cc := cX12_isFree) (maxL := 2) (ret := (some .boolean)) (by decide +kernel) rfl ?_
  intro p e s m args below meth c s₁ B hml hv
  obtain ⟨rfl, hsz, hP, hK, hD0, hN, hT⟩ := hv
  have hx := B.exec
  have hb := B.bytes
  have hr := B.returns
  have hts : ∀ w ∈ tblG, w.before _ s = true := fun w h => atoms_spec (ws := (wsG yX12_isFree cX12_isFree 2 (some .boolean))) B.pre w (List.mem_cons_of_mem _ h)
  have hown : s.vm.findClass RX12 = some m.cls := findClass_of_methodNamed B.named
  have hlocks := B.notSynchronized
  subst hsz
  have hD := hD0.self (sz := s.heap.size)
  generalize hAe : va_A [(b_o, (oc12 u_th u_sa b_rf b_ro b_im b_ke u_fd b_tp u_td u_fr u_to u_so u_wo u_fa u_bd u_nc b_nl u_co b_op b_ar u_le b_pi b_pa u_pd u_od b_ws b_hw u_la b_se b_re u_bk u_va u_su u_ce u_ho u_wy u_bt u_ps b_pt u_tg u_sn b_ip u_ic b_ah b_be b_me u_wd b_tr b_ld u_st b_wn u_id)), (b_ro, (arI G 5740 v_ro)), (b_se, (arJ G 13 v_se)), (b_re, (arJ G 400 v_re))] s.heap.size = A at hD hT ⊢
  have hA : ∀ q : Nat, s.heap.size ≤ q → A q := fun q h => by rw [← hAe]; exact Or.inr h
  have hS : va_S A s.heap s.heap [] := va_S.rf
  replace hP : va_P G.1 vwCl [(b_o, (oc12 u_th u_sa b_rf b_ro b_im b_ke u_fd b_tp u_td u_fr u_to u_so u_wo u_fa u_bd u_nc b_nl u_co b_op b_ar u_le b_pi b_pa u_pd u_od b_ws b_hw u_la b_se b_re u_bk u_va u_su u_ce u_ho u_wy u_bt u_ps b_pt u_tg u_sn b_ip u_ic b_ah b_be b_me u_wd b_tr b_ld u_st b_wn u_id)), (b_ro, (arI G 5740 v_ro)), (b_se, (arJ G 13 v_se)), (b_re, (arJ G 400 v_re))] s.heap := hP
  have hl := lv_entry ([.ref b_o]) (n := 2) (Nat.le_of_ble_eq_true rfl)
  rw [lg_entry_eq]
  generalize (lg_sl ([.ref b_o]) ++ List.replicate (2 - (lg_sl ([.ref b_o])).length) Slot.unset).toArray = ls at hl ⊢
  replace hl : lv_has ls 2 [(0, .ref b_o)] := hl
  refine lv_iconst (v := 0) hx hb dX12_isFree_0 (by decide +kernel) ?_
  refine lv_istore_n (lv' := [(1, .int 0), (0, .ref b_o)]) hx hb dX12_isFree_1 rfl hl (by decide +kernel) rfl ?_
  clear hl
  intro ls hl
  refine g5_loop (α := (Int32) × (Int32) × (Int32) × (Int64) × (Int64) × (Int32) × (Nat → Int64) × (Nat → Int64)) (fun (q : (Int32) × (Int32) × (Int32) × (Int64) × (Int64) × (Int32) × (Nat → Int64) × (Nat → Int64)) (ls : Array Slot) (H : Heap) (locs : List Loc) => match q with | (k2_1, k2_la, k2_bk, k2_va, k2_su, k2_sn, k2_se, k2_re) => lv_has ls 2 [(1, .int k2_1), (0, .ref b_o)] ∧ va_P G.1 vwCl [(b_o, (oc12 u_th u_sa b_rf b_ro b_im b_ke u_fd b_tp u_td u_fr u_to u_so u_wo u_fa u_bd u_nc b_nl u_co b_op b_ar u_le b_pi b_pa u_pd u_od b_ws b_hw k2_la b_se b_re k2_bk k2_va k2_su u_ce u_ho u_wy u_bt u_ps b_pt u_tg k2_sn b_ip u_ic b_ah b_be b_me u_wd b_tr b_ld u_st b_wn u_id)), (b_ro, (arI G 5740 v_ro)), (b_se, (arJ G 13 k2_se)), (b_re, (arJ G 400 k2_re))] H ∧ va_D A [(b_o, (oc12 u_th u_sa b_rf b_ro b_im b_ke u_fd b_tp u_td u_fr u_to u_so u_wo u_fa u_bd u_nc b_nl u_co b_op b_ar u_le b_pi b_pa u_pd u_od b_ws b_hw k2_la b_se b_re k2_bk k2_va k2_su u_ce u_ho u_wy u_bt u_ps b_pt u_tg k2_sn b_ip u_ic b_ah b_be b_me u_wd b_tr b_ld u_st b_wn u_id)), (b_ro, (arI G 5740 v_ro)), (b_se, (arJ G 13 k2_se)), (b_re, (arJ G 400 k2_re))] ∧ va_S A s.heap H locs ∧ (0 ≤ k2_1.toInt ∧ k2_1.toInt ≤ 5) ∧ (0 ≤ k2_la.toInt ∧ k2_la.toInt ≤ 4840) ∧ (0 ≤ k2_bk.toInt ∧ k2_bk.toInt ≤ 1)) (fun (q : (Int32) × (Int32) × (Int32) × (Int64) × (Int64) × (Int32) × (Nat → Int64) × (Nat → Int64)) => match q with | (k2_1, k2_la, k2_bk, k2_va, k2_su, k2_sn, k2_se, k2_re) => Int.toNat (5 - k2_1.toInt)) (0, u_la, u_bk, u_va, u_su, u_sn, v_se, v_re) ⟨lv_sub hl [0, 1] rfl, hP, hD, hS, ⟨by decide, by decide⟩, h_u_la, h_u_bk⟩ ?_
  rintro ⟨k2_1, k2_la, k2_bk, k2_va, k2_su, k2_sn, k2_se, k2_re⟩ ls H locs ⟨hl, hP, hD, hS, (i_1 : 0 ≤ k2_1.toInt ∧ k2_1.toInt ≤ 5), (i_2 : 0 ≤ k2_la.toInt ∧ k2_la.toInt ≤ 4840), (i_3 : 0 ≤ k2_bk.toInt ∧ k2_bk.toInt ≤ 1)⟩ ih_2_4
  replace hl : lv_has ls 2 [(1, .int k2_1), (0, .ref b_o)] := hl
  refine g5_rs [(b_o, (oc12 u_th u_sa b_rf b_ro b_im b_ke u_fd b_tp u_td u_fr u_to u_so u_wo u_fa u_bd u_nc b_nl u_co b_op b_ar u_le b_pi b_pa u_pd u_od b_ws b_hw k2_la b_se b_re k2_bk k2_va k2_su u_ce u_ho u_wy u_bt u_ps b_pt u_tg k2_sn b_ip u_ic b_ah b_be b_me u_wd b_tr b_ld u_st b_wn u_id)), (b_ro, (arI G 5740 v_ro)), (b_se, (arJ G 13 k2_se)), (b_re, (arJ G 400 k2_re))] hP hD ?_
  clear hP hD
  intro hP hD
  refine lv_iload_n hx hb dX12_isFree_2 rfl (lv_at hl 0 rfl) ?_
  refine lv_aload_n hx hb dX12_isFree_3 rfl (lv_at hl 1 rfl) ?_
  refine va_get (D := G.1) (ci := 12) (v := .ref b_ro) (C := RX12) (T := TX12) (N := 52) hx hb hts inG_X12 hown hK hP 0 rfl rfl 3 (by decide +kernel) (hts _ fl_X12_13) (fun _ h9 => h9) rfl dX12_isFree_4 ?_
  refine lv_iconst (v := 1) hx hb dX12_isFree_7 (by decide +kernel) ?_
  refine W.eq (g2 := F0 m 8 ls [.int 1, .ref b_ro, .int k2_1]) rfl ?_
  refine va_iald hx hb hK hP 1 0 rfl rfl (i := 1) (by unfold vp_in; decide) dX12_isFree_8 ?_
  refine g5_ti (v := (v_ro 1)) rfl ?_
  have hr_5 : 0 ≤ (v_ro 1).toInt ∧ (v_ro 1).toInt ≤ 5 := mi_1 r_ro
  refine lv_icmp_ge (tgt := 53) hx hb dX12_isFree_9 (by decide +kernel) (fun c_6 => ?_) (fun c_6 => ?_)
  ·
    have i_6 : k2_1.toInt ≥ (v_ro 1).toInt := g5_ge (a := k2_1.toInt) (b := (v_ro 1).toInt) rfl rfl c_6
    refine lv_iconst (v := 1) hx hb dX12_isFree_53 (by decide +kernel) ?_
    exact W.zret (v := 1) hx hb hr rfl (fun t ht hW => ⟨⟨1, [(b_o, (oc12 u_th u_sa b_rf b_ro b_im b_ke u_fd b_tp u_td u_fr u_to u_so u_wo u_fa u_bd u_nc b_nl u_co b_op b_ar u_le b_pi b_pa u_pd u_od b_ws b_hw k2_la b_se b_re k2_bk k2_va k2_su u_ce u_ho u_wy u_bt u_ps b_pt u_tg k2_sn b_ip u_ic b_ah b_be b_me u_wd b_tr b_ld u_st b_wn u_id)), (b_ro, (arI G 5740 v_ro)), (b_se, (arJ G 13 k2_se)), (b_re, (arJ G 400 k2_re))], rfl, ⟨1, k2_la, k2_bk, k2_va, k2_su, k2_sn, k2_se, k2_re, ⟨by have zc_o_r : (1 : Int32).toInt = 1 := (by decide +kernel); omega, by have zc_o_r : (1 : Int32).toInt = 1 := (by decide +kernel); omega⟩, i_2, i_3, rfl, rfl⟩, by rw [ht]; exact hP.sub [0, 1, 2, 3] rfl, hD.sub [0, 1, 2, 3] (by decide +kernel) rfl⟩, hS.F ht⟩) hS.2.2 dX12_isFree_54
  ·
    have i_6 : k2_1.toInt < (v_ro 1).toInt := g5_geN (a := k2_1.toInt) (b := (v_ro 1).toInt) rfl rfl c_6
    refine lv_aload_n hx hb dX12_isFree_12 rfl (lv_at hl 1 rfl) ?_
    refine lv_iload_n hx hb dX12_isFree_13 rfl (lv_at hl 0 rfl) ?_
    refine lv_aload_n hx hb dX12_isFree_14 rfl (lv_at hl 1 rfl) ?_
    refine va_get (D := G.1) (ci := 12) (v := .int u_ho) (C := RX12) (T := TX12) (N := 52) hx hb hts inG_X12 hown hK hP 0 rfl rfl 34 (by decide +kernel) (hts _ fl_X12_352) (fun _ h9 => h9) rfl dX12_isFree_15 ?_
    refine W.eq (g2 := F0 m 18 ls [.int u_ho, .int k2_1, .ref b_o]) rfl ?_
    obtain ⟨hPc, hDc, hFc⟩ := g5_sub3 (wc := [(b_o, (oc12 u_th u_sa b_rf b_ro b_im b_ke u_fd b_tp u_td u_fr u_to u_so u_wo u_fa u_bd u_nc b_nl u_co b_op b_ar u_le b_pi b_pa u_pd u_od b_ws b_hw k2_la b_se b_re k2_bk k2_va k2_su u_ce u_ho u_wy u_bt u_ps b_pt u_tg k2_sn b_ip u_ic b_ah b_be b_me u_wd b_tr b_ld u_st b_wn u_id)), (b_ro, (arI G 5740 v_ro))]) hP hD hS hA [0, 1] (by decide +kernel) rfl
    refine va_calli (va_runV (As := [.int k2_1, .int u_ho]) (rest := []) ⟨hx, hb, hml, hown, hts⟩ (n_whereIs l G b_o b_ro b_rf b_im b_ke b_tp b_nl b_op b_ar b_pi b_pa b_ws b_hw b_se b_re b_pt b_ip b_ah b_be b_me b_tr b_ld b_wn H.size u_th u_sa u_fd u_td u_fr u_to u_so u_fa u_bd u_nc u_co u_le u_pd u_od k2_la k2_bk u_ce u_ho u_wy u_bt u_ps u_tg k2_sn u_ic u_wd u_id k2_1 u_ho u_wo k2_va k2_su u_st v_ro h_u_td h_u_fr h_u_to h_u_bd h_u_nc h_u_co h_u_pd i_2 i_3 h_u_ce h_u_ho h_u_wy h_u_bt h_u_ps h_u_ic h_u_id ⟨by omega, by omega⟩ h_u_ho (r_ro)) (cwV 2 hts gV_X12_187 rfl rfl rfl hv_X12_whereIs ⟨Nat.le_of_ble_eq_true rfl, Nat.le_of_ble_eq_true rfl⟩) (g5_preV hPc hK hDc hN hT hS hFc (ci := 12) (q0 := 0) rfl rfl) rfl rfl hl.1 rfl (lv_room (Nat.le_of_ble_eq_true rfl)) dX12_isFree_18 ⟨Nat.le_of_ble_eq_true rfl, Nat.le_of_ble_eq_true rfl⟩) hS (fun q _ h => hFc q h) hFc (fun r u t H locs ht hvm hw hB hz1 hk1 hS => ?_)
    obtain ⟨hP1, hD1⟩ := hB
    have hP1 := g5_ht ht hP1
    obtain ⟨z7, y8, rfl⟩ := hw
    have hJ9 := va_join (wr := [(b_se, (arJ G 13 k2_se)), (b_re, (arJ G 400 k2_re))]) hP hD [0, 1] [2, 3] rfl rfl (by decide +kernel) (by decide +kernel) hk1 hFc hP1 hD1
    clear hP hD hPc hDc hFc ht hvm hz1 hk1 hP1 hD1
    obtain ⟨hP, hD⟩ := hJ9
    refine g5_rs [(b_se, (arJ G 13 k2_se)), (b_re, (arJ G 400 k2_re)), (b_o, (oc12 u_th u_sa b_rf b_ro b_im b_ke u_fd b_tp u_td u_fr u_to u_so u_wo u_fa u_bd u_nc b_nl u_co b_op b_ar u_le b_pi b_pa u_pd u_od b_ws b_hw k2_la b_se b_re k2_bk k2_va k2_su u_ce u_ho u_wy u_bt u_ps b_pt u_tg k2_sn b_ip u_ic b_ah b_be b_me u_wd b_tr b_ld u_st b_wn u_id)), (b_ro, (arI G 5740 v_ro))] hP hD ?_
    clear hP hD
    intro hP hD
    refine g5_ti (v := z7) y8 ?_
    refine lv_aload_n hx hb dX12_isFree_21 rfl (lv_at hl 1 rfl) ?_
    refine va_get (D := G.1) (ci := 12) (v := .int u_ce) (C := RX12) (T := TX12) (N := 52) hx hb hts inG_X12 hown hK hP 2 rfl rfl 33 (by decide +kernel) (hts _ fl_X12_349) (fun _ h9 => h9) rfl dX12_isFree_22 ?_
    refine lv_icmp_ne (tgt := 47) hx hb dX12_isFree_25 (by decide +kernel) (fun c_9 => ?_) (fun c_9 => ?_)
    ·
      have n_9 : gNe (z7.toInt) (u_ce.toInt) := g5_ne (a := z7.toInt) (b := u_ce.toInt) rfl rfl c_9
      refine lv_iinc (v := (k2_1 + 1)) (lv' := [(1, .int (k2_1 + 1)), (0, .ref b_o)]) hx hb dX12_isFree_47 hl (k := 0) rfl rfl (by decide +kernel) rfl ?_
      clear hl
      intro ls hl
      have t_10 : (k2_1 + 1).toInt = k2_1.toInt + 1 := g5_iadd (a := k2_1.toInt) (b := 1) rfl (by decide +kernel) (by omega) (by omega)
      refine lv_goto (tgt := 2) hx hb dX12_isFree_50 (by decide +kernel) ?_
      exact ih_2_4 ((k2_1 + 1), k2_la, k2_bk, k2_va, k2_su, k2_sn, k2_se, k2_re) ls H locs (show Int.toNat (5 - (k2_1 + 1).toInt) < Int.toNat (5 - k2_1.toInt) from g_up (show k2_1.toInt < (k2_1 + 1).toInt by omega) (show k2_1.toInt < 5 by omega)) ⟨lv_sub hl [0, 1] rfl, hP.sub [2, 3, 0, 1] rfl, hD.sub [2, 3, 0, 1] (by decide +kernel) rfl, hS, ⟨by omega, by omega⟩, i_2, i_3⟩
    ·
      have i_9 : z7.toInt = u_ce.toInt := g5_neN (a := z7.toInt) (b := u_ce.toInt) rfl rfl c_9
      refine lv_aload_n hx hb dX12_isFree_28 rfl (lv_at hl 1 rfl) ?_
      refine lv_iconst (v := 3) hx hb dX12_isFree_29 (by decide +kernel) ?_
      refine lv_iconst (v := (-1)) hx hb dX12_isFree_30 (by decide +kernel) ?_
      refine lv_iload_n hx hb dX12_isFree_31 rfl (lv_at hl 0 rfl) ?_
      refine W.eq (g2 := F0 m 32 ls [.int k2_1, .int (-1), .int 3, .ref b_o]) rfl ?_
      refine lv_iconst (v := 0) hx hb dX12_isFree_32 (by decide +kernel) ?_
      refine lv_iconst (v := 1) hx hb dX12_isFree_33 (by decide +kernel) ?_
      obtain ⟨hPc, hDc, hFc⟩ := g5_sub3 (wc := [(b_o, (oc12 u_th u_sa b_rf b_ro b_im b_ke u_fd b_tp u_td u_fr u_to u_so u_wo u_fa u_bd u_nc b_nl u_co b_op b_ar u_le b_pi b_pa u_pd u_od b_ws b_hw k2_la b_se b_re k2_bk k2_va k2_su u_ce u_ho u_wy u_bt u_ps b_pt u_tg k2_sn b_ip u_ic b_ah b_be b_me u_wd b_tr b_ld u_st b_wn u_id)), (b_ro, (arI G 5740 v_ro)), (b_se, (arJ G 13 k2_se)), (b_re, (arJ G 400 k2_re))]) hP hD hS hA [2, 3, 0, 1] (by decide +kernel) rfl
      refine va_calli (va_runV (As := [.int 3, .int (-1), .int k2_1, .int 0, .int 1]) (rest := []) ⟨hx, hb, hml, hown, hts⟩ (n_asks l G b_o b_ro b_se b_re b_rf b_im b_ke b_tp b_nl b_op b_ar b_pi b_pa b_ws b_hw b_pt b_ip b_ah b_be b_me b_tr b_ld b_wn H.size u_th u_sa u_fd u_td u_fr u_to u_so u_fa u_bd u_nc u_co u_le u_pd u_od k2_la k2_bk u_ce u_ho u_wy u_bt u_ps u_tg k2_sn u_ic u_wd u_id 3 (-1) k2_1 0 1 u_wo k2_va k2_su u_st v_ro k2_se k2_re h_u_td h_u_fr h_u_to h_u_bd h_u_nc h_u_co h_u_pd i_2 i_3 h_u_ce h_u_ho h_u_wy h_u_bt h_u_ps h_u_ic h_u_id ⟨by decide, by decide⟩ ⟨by decide, by decide⟩ (r_ro) (by decide +kernel)) (cwV 5 hts gV_X12_383 rfl rfl rfl hv_X12_asks ⟨Nat.le_of_ble_eq_true rfl, Nat.le_of_ble_eq_true rfl⟩) (g5_preV hPc hK hDc hN hT hS hFc (ci := 12) (q0 := 0) rfl rfl) rfl rfl hl.1 rfl (lv_room (Nat.le_of_ble_eq_true rfl)) dX12_isFree_34 ⟨Nat.le_of_ble_eq_true rfl, Nat.le_of_ble_eq_true rfl⟩) hS (fun q _ h => hFc q h) hFc (fun r u t H locs ht hvm hw hB hz1 hk1 hS => ?_)
      obtain ⟨hP1, hD1⟩ := hB
      have hP1 := g5_ht ht hP1
      obtain ⟨z15, z16, z17, z18, z19, z20, z21, (i_11 : 0 ≤ z15.toInt ∧ z15.toInt ≤ 23), (i_12 : 0 ≤ z15.toInt ∧ z15.toInt ≤ (1 : Int32).toInt), (i_13 : 0 ≤ z16.toInt ∧ z16.toInt ≤ 4840), (i_14 : 0 ≤ z17.toInt ∧ z17.toInt ≤ 1), y22, rfl⟩ := hw
      have hJ9 := va_join (wr := []) hP hD [2, 3, 0, 1] [] rfl rfl (by decide +kernel) (by decide +kernel) hk1 hFc hP1 hD1
      clear hP hD hPc hDc hFc ht hvm hz1 hk1 hP1 hD1
      obtain ⟨hP, hD⟩ := hJ9
      refine g5_rs [(b_o, (oc12 u_th u_sa b_rf b_ro b_im b_ke u_fd b_tp u_td u_fr u_to u_so u_wo u_fa u_bd u_nc b_nl u_co b_op b_ar u_le b_pi b_pa u_pd u_od b_ws b_hw z16 b_se b_re z17 z18 z19 u_ce u_ho u_wy u_bt u_ps b_pt u_tg k2_sn b_ip u_ic b_ah b_be b_me u_wd b_tr b_ld u_st b_wn u_id)), (b_ro, (arI G 5740 v_ro)), (b_se, (arJ G 13 z20)), (b_re, (arJ G 400 z21))] hP hD ?_
      clear hP hD
      intro hP hD
      refine g5_ti (v := z15) y22 ?_
      refine lv_if_ne (tgt := 47) hx hb dX12_isFree_37 (by decide +kernel) (fun c_23 => ?_) (fun c_23 => ?_)
      ·
        have n_23 : gNe (z15.toInt) (0) := g5_ne (a := z15.toInt) (b := 0) rfl (by decide +kernel) c_23
        have i_23 : z15.toInt ≥ 1 := by have z := g5_ne (a := z15.toInt) (b := 0) (by rfl) (by decide +kernel) c_23; omega
        refine lv_iinc (v := (k2_1 + 1)) (lv' := [(1, .int (k2_1 + 1)), (0, .ref b_o)]) hx hb dX12_isFree_47 hl (k := 0) rfl rfl (by decide +kernel) rfl ?_
        clear hl
        intro ls hl
        have t_24 : (k2_1 + 1).toInt = k2_1.toInt + 1 := g5_iadd (a := k2_1.toInt) (b := 1) rfl (by decide +kernel) (by omega) (by omega)
        refine lv_goto (tgt := 2) hx hb dX12_isFree_50 (by decide +kernel) ?_
        exact ih_2_4 ((k2_1 + 1), z16, z17, z18, z19, k2_sn, z20, z21) ls H locs (show Int.toNat (5 - (k2_1 + 1).toInt) < Int.toNat (5 - k2_1.toInt) from g_up (show k2_1.toInt < (k2_1 + 1).toInt by omega) (show k2_1.toInt < 5 by omega)) ⟨lv_sub hl [0, 1] rfl, hP, hD, hS, ⟨by omega, by omega⟩, i_13, i_14⟩
      ·
        have i_23 : z15.toInt = 0 := g5_neN (a := z15.toInt) (b := 0) rfl (by decide +kernel) c_23
        refine lv_aload_n hx hb dX12_isFree_40 rfl (lv_at hl 1 rfl) ?_
        refine lv_iload_n hx hb dX12_isFree_41 rfl (lv_at hl 0 rfl) ?_
        refine va_put (D := G.1) (ci := 12) (v := .int k2_1) (ty := .int) (C := RX12) (T := TX12) (N := 52) hx hb hts inG_X12 tyX12 tyX12_ok nmX12 hown hK hP hD hS 0 rfl rfl 40 (by decide +kernel) (hts _ fl_X12_371) (fun _ h9 => h9) rfl (by decide +kernel) rfl rfl (Nat.le_of_ble_eq_true rfl) dX12_isFree_42 ?_
        clear hP hD hS
        intro H locs hP hD hS
        refine g5_rs [(b_o, (oc12 u_th u_sa b_rf b_ro b_im b_ke u_fd b_tp u_td u_fr u_to u_so u_wo u_fa u_bd u_nc b_nl u_co b_op b_ar u_le b_pi b_pa u_pd u_od b_ws b_hw z16 b_se b_re z17 z18 z19 u_ce u_ho u_wy u_bt u_ps b_pt u_tg k2_1 b_ip u_ic b_ah b_be b_me u_wd b_tr b_ld u_st b_wn u_id)), (b_ro, (arI G 5740 v_ro)), (b_se, (arJ G 13 z20)), (b_re, (arJ G 400 z21))] hP hD ?_
        clear hP hD
        intro hP hD
        refine lv_iconst (v := 0) hx hb dX12_isFree_45 (by decide +kernel) ?_
        refine W.eq (g2 := F0 m 46 ls [.int 0]) rfl ?_
        exact W.zret (v := 0) hx hb hr rfl (fun t ht hW => ⟨⟨0, [(b_o, (oc12 u_th u_sa b_rf b_ro b_im b_ke u_fd b_tp u_td u_fr u_to u_so u_wo u_fa u_bd u_nc b_nl u_co b_op b_ar u_le b_pi b_pa u_pd u_od b_ws b_hw z16 b_se b_re z17 z18 z19 u_ce u_ho u_wy u_bt u_ps b_pt u_tg k2_1 b_ip u_ic b_ah b_be b_me u_wd b_tr b_ld u_st b_wn u_id)), (b_ro, (arI G 5740 v_ro)), (b_se, (arJ G 13 z20)), (b_re, (arJ G 400 z21))], rfl, ⟨0, z16, z17, z18, z19, k2_1, z20, z21, ⟨by have zc_o_r : (0 : Int32).toInt = 0 := (by decide +kernel); omega, by have zc_o_r : (0 : Int32).toInt = 0 := (by decide +kernel); omega⟩, i_13, i_14, rfl, rfl⟩, by rw [ht]; exact hP.sub [0, 1, 2, 3] rfl, hD.sub [0, 1, 2, 3] (by decide +kernel) rfl⟩, hS.F ht⟩) hS.2.2 dX12_isFree_46
theorem dgX12_turns_0 : ∀ r ∈ ([(0, (.iload 5, 2)), (2, (.ifCond .ne 31, 3)), (5, (.aload_n 0, 1)), (6, (.iconst 2, 1)), (7, (.iload_n 1, 1)), (8, (.iconst (-1), 1)), (9, (.iconst 0, 1)), (10, (.iconst 1, 1)), (11, (.invokevirtual 383, 3)), (14, (.iconst 1, 1)), (15, (.if_icmp .eq 18, 3)), (18, (.iload_n 2, 1)), (19, (.iconst 1, 1)), (20, (.if_icmp .le 15, 3)), (23, (.aload_n 0, 1)), (24, (.getfield 355, 3)), (27, (.iload_n 2, 1)), (28, (.iconst 4, 1)), (29, (.irem, 1)), (30, (.if_icmp .eq 5, 3)), (33, (.iconst 0, 1)), (34, (.ireturn, 1)), (35, (.aload_n 0, 1)), (36, (.iconst 0, 1)), (37, (.iload_n 1, 1)), (38, (.iconst (-1), 1)), (39, (.iload_n 3, 1)), (40, (.bipush 23, 2)), (42, (.invokevirtual 383, 3)), (45, (.istore 6, 2)), (47, (.aload_n 0, 1)), (48, (.iconst 1, 1)), (49, (.iload_n 1, 1)), (50, (.iconst (-1), 1)), (51, (.iload 4, 2)), (53, (.bipush 10, 2)), (55, (.invokevirtual 383, 3)), (58, (.istore 7, 2)), (60, (.aload_n 0, 1)), (61, (.getfield 352, 3))] : List (Nat × (Instr × Nat))), decode cX12_turns r.1 = .ok r.2 := by decide +kernel
theorem dX12_turns_0 : decode cX12_turns 0 = .ok (.iload 5, 2) := dgX12_turns_0 (0, (.iload 5, 2)) (List.mem_of_getElem? (i := 0) rfl)
theorem dX12_turns_2 : decode cX12_turns 2 = .ok (.ifCond .ne 31, 3) := dgX12_turns_0 (2, (.ifCond .ne 31, 3)) (List.mem_of_getElem? (i := 1) rfl)
theorem dX12_turns_5 : decode cX12_turns 5 = .ok (.aload_n 0, 1) := dgX12_turns_0 (5, (.aload_n 0, 1)) (List.mem_of_getElem? (i := 2) rfl)
theorem dX12_turns_6 : decode cX12_turns 6 = .ok (.iconst 2, 1) := dgX12_turns_0 (6, (.iconst 2, 1)) (List.mem_of_getElem? (i := 3) rfl)
theorem dX12_turns_7 : decode cX12_turns 7 = .ok (.iload_n 1, 1) := dgX12_turns_0 (7, (.iload_n 1, 1)) (List.mem_of_getElem? (i := 4) rfl)
theorem dX12_turns_8 : decode cX12_turns 8 = .ok (.iconst (-1), 1) := dgX12_turns_0 (8, (.iconst (-1), 1)) (List.mem_of_getElem? (i := 5) rfl)
theorem dX12_turns_9 : decode cX12_turns 9 = .ok (.iconst 0, 1) := dgX12_turns_0 (9, (.iconst 0, 1)) (List.mem_of_getElem? (i := 6) rfl)
theorem dX12_turns_10 : decode cX12_turns 10 = .ok (.iconst 1, 1) := dgX12_turns_0 (10, (.iconst 1, 1)) (List.mem_of_getElem? (i := 7) rfl)
theorem dX12_turns_11 : decode cX12_turns 11 = .ok (.invokevirtual 383, 3) := dgX12_turns_0 (11, (.invokevirtual 383, 3)) (List.mem_of_getElem? (i := 8) rfl)
theorem dX12_turns_14 : decode cX12_turns 14 = .ok (.iconst 1, 1) := dgX12_turns_0 (14, (.iconst 1, 1)) (List.mem_of_getElem? (i := 9) rfl)
theorem dX12_turns_15 : decode cX12_turns 15 = .ok (.if_icmp .eq 18, 3) := dgX12_turns_0 (15, (.if_icmp .eq 18, 3)) (List.mem_of_getElem? (i := 10) rfl)
theorem dX12_turns_18 : decode cX12_turns 18 = .ok (.iload_n 2, 1) := dgX12_turns_0 (18, (.iload_n 2, 1)) (List.mem_of_getElem? (i := 11) rfl)
theorem dX12_turns_19 : decode cX12_turns 19 = .ok (.iconst 1, 1) := dgX12_turns_0 (19, (.iconst 1, 1)) (List.mem_of_getElem? (i := 12) rfl)
theorem dX12_turns_20 : decode cX12_turns 20 = .ok (.if_icmp .le 15, 3) := dgX12_turns_0 (20, (.if_icmp .le 15, 3)) (List.mem_of_getElem? (i := 13) rfl)
theorem dX12_turns_23 : decode cX12_turns 23 = .ok (.aload_n 0, 1) := dgX12_turns_0 (23, (.aload_n 0, 1)) (List.mem_of_getElem? (i := 14) rfl)
theorem dX12_turns_24 : decode cX12_turns 24 = .ok (.getfield 355, 3) := dgX12_turns_0 (24, (.getfield 355, 3)) (List.mem_of_getElem? (i := 15) rfl)
theorem dX12_turns_27 : decode cX12_turns 27 = .ok (.iload_n 2, 1) := dgX12_turns_0 (27, (.iload_n 2, 1)) (List.mem_of_getElem? (i := 16) rfl)
theorem dX12_turns_28 : decode cX12_turns 28 = .ok (.iconst 4, 1) := dgX12_turns_0 (28, (.iconst 4, 1)) (List.mem_of_getElem? (i := 17) rfl)
theorem dX12_turns_29 : decode cX12_turns 29 = .ok (.irem, 1) := dgX12_turns_0 (29, (.irem, 1)) (List.mem_of_getElem? (i := 18) rfl)
theorem dX12_turns_30 : decode cX12_turns 30 = .ok (.if_icmp .eq 5, 3) := dgX12_turns_0 (30, (.if_icmp .eq 5, 3)) (List.mem_of_getElem? (i := 19) rfl)
theorem dX12_turns_33 : decode cX12_turns 33 = .ok (.iconst 0, 1) := dgX12_turns_0 (33, (.iconst 0, 1)) (List.mem_of_getElem? (i := 20) rfl)
theorem dX12_turns_34 : decode cX12_turns 34 = .ok (.ireturn, 1) := dgX12_turns_0 (34, (.ireturn, 1)) (List.mem_of_getElem? (i := 21) rfl)
theorem dX12_turns_35 : decode cX12_turns 35 = .ok (.aload_n 0, 1) := dgX12_turns_0 (35, (.aload_n 0, 1)) (List.mem_of_getElem? (i := 22) rfl)
theorem dX12_turns_36 : decode cX12_turns 36 = .ok (.iconst 0, 1) := dgX12_turns_0 (36, (.iconst 0, 1)) (List.mem_of_getElem? (i := 23) rfl)
theorem dX12_turns_37 : decode cX12_turns 37 = .ok (.iload_n 1, 1) := dgX12_turns_0 (37, (.iload_n 1, 1)) (List.mem_of_getElem? (i := 24) rfl)
theorem dX12_turns_38 : decode cX12_turns 38 = .ok (.iconst (-1), 1) := dgX12_turns_0 (38, (.iconst (-1), 1)) (List.mem_of_getElem? (i := 25) rfl)
theorem dX12_turns_39 : decode cX12_turns 39 = .ok (.iload_n 3, 1) := dgX12_turns_0 (39, (.iload_n 3, 1)) (List.mem_of_getElem? (i := 26) rfl)
theorem dX12_turns_40 : decode cX12_turns 40 = .ok (.bipush 23, 2) := dgX12_turns_0 (40, (.bipush 23, 2)) (List.mem_of_getElem? (i := 27) rfl)
theorem dX12_turns_42 : decode cX12_turns 42 = .ok (.invokevirtual 383, 3) := dgX12_turns_0 (42, (.invokevirtual 383, 3)) (List.mem_of_getElem? (i := 28) rfl)
theorem dX12_turns_45 : decode cX12_turns 45 = .ok (.istore 6, 2) := dgX12_turns_0 (45, (.istore 6, 2)) (List.mem_of_getElem? (i := 29) rfl)
theorem dX12_turns_47 : decode cX12_turns 47 = .ok (.aload_n 0, 1) := dgX12_turns_0 (47, (.aload_n 0, 1)) (List.mem_of_getElem? (i := 30) rfl)
theorem dX12_turns_48 : decode cX12_turns 48 = .ok (.iconst 1, 1) := dgX12_turns_0 (48, (.iconst 1, 1)) (List.mem_of_getElem? (i := 31) rfl)
theorem dX12_turns_49 : decode cX12_turns 49 = .ok (.iload_n 1, 1) := dgX12_turns_0 (49, (.iload_n 1, 1)) (List.mem_of_getElem? (i := 32) rfl)
theorem dX12_turns_50 : decode cX12_turns 50 = .ok (.iconst (-1), 1) := dgX12_turns_0 (50, (.iconst (-1), 1)) (List.mem_of_getElem? (i := 33) rfl)
theorem dX12_turns_51 : decode cX12_turns 51 = .ok (.iload 4, 2) := dgX12_turns_0 (51, (.iload 4, 2)) (List.mem_of_getElem? (i := 34) rfl)
theorem dX12_turns_53 : decode cX12_turns 53 = .ok (.bipush 10, 2) := dgX12_turns_0 (53, (.bipush 10, 2)) (List.mem_of_getElem? (i := 35) rfl)
theorem dX12_turns_55 : decode cX12_turns 55 = .ok (.invokevirtual 383, 3) := dgX12_turns_0 (55, (.invokevirtual 383, 3)) (List.mem_of_getElem? (i := 36) rfl)
theorem dX12_turns_58 : decode cX12_turns 58 = .ok (.istore 7, 2) := dgX12_turns_0 (58, (.istore 7, 2)) (List.mem_of_getElem? (i := 37) rfl)
theorem dX12_turns_60 : decode cX12_turns 60 = .ok (.aload_n 0, 1) := dgX12_turns_0 (60, (.aload_n 0, 1)) (List.mem_of_getElem? (i := 38) rfl)
theorem dX12_turns_61 : decode cX12_turns 61 = .ok (.getfield 352, 3) := dgX12_turns_0 (61, (.getfield 352, 3)) (List.mem_of_getElem? (i := 39) rfl)
theorem dgX12_turns_1 : ∀ r ∈ ([(64, (.iload 6, 2)), (66, (.if_icmp .ge 5, 3)), (69, (.iconst 0, 1)), (70, (.ireturn, 1)), (71, (.aload_n 0, 1)), (72, (.dup, 1)), (73, (.getfield 352, 3)), (76, (.iload 6, 2)), (78, (.isub, 1)), (79, (.putfield 352, 3)), (82, (.aload_n 0, 1)), (83, (.aload_n 0, 1)), (84, (.getfield 361, 3)), (87, (.bipush 10, 2)), (89, (.iload 7, 2)), (91, (.isub, 1)), (92, (.imul, 1)), (93, (.bipush 10, 2)), (95, (.idiv, 1)), (96, (.putfield 361, 3)), (99, (.aload_n 0, 1)), (100, (.getfield 361, 3)), (103, (.aload_n 0, 1)), (104, (.getfield 13, 3)), (107, (.iconst 4, 1)), (108, (.iaload, 1)), (109, (.if_icmp .ge 5, 3)), (112, (.iconst 0, 1)), (113, (.ireturn, 1)), (114, (.aload_n 0, 1)), (115, (.iload_n 2, 1)), (116, (.ifCond .ne 12, 3)), (119, (.aload_n 0, 1)), (120, (.getfield 355, 3)), (123, (.iconst 1, 1)), (124, (.ixor, 1)), (125, (.goto 25, 3)), (128, (.iload_n 2, 1)), (129, (.iconst 1, 1)), (130, (.if_icmp .ne 12, 3))] : List (Nat × (Instr × Nat))), decode cX12_turns r.1 = .ok r.2 := by decide +kernel
theorem dX12_turns_64 : decode cX12_turns 64 = .ok (.iload 6, 2) := dgX12_turns_1 (64, (.iload 6, 2)) (List.mem_of_getElem? (i := 0) rfl)
theorem dX12_turns_66 : decode cX12_turns 66 = .ok (.if_icmp .ge 5, 3) := dgX12_turns_1 (66, (.if_icmp .ge 5, 3)) (List.mem_of_getElem? (i := 1) rfl)
theorem dX12_turns_69 : decode cX12_turns 69 = .ok (.iconst 0, 1) := dgX12_turns_1 (69, (.iconst 0, 1)) (List.mem_of_getElem? (i := 2) rfl)
theorem dX12_turns_70 : decode cX12_turns 70 = .ok (.ireturn, 1) := dgX12_turns_1 (70, (.ireturn, 1)) (List.mem_of_getElem? (i := 3) rfl)
theorem dX12_turns_71 : decode cX12_turns 71 = .ok (.aload_n 0, 1) := dgX12_turns_1 (71, (.aload_n 0, 1)) (List.mem_of_getElem? (i := 4) rfl)
theorem dX12_turns_72 : decode cX12_turns 72 = .ok (.dup, 1) := dgX12_turns_1 (72, (.dup, 1)) (List.mem_of_getElem? (i := 5) rfl)
theorem dX12_turns_73 : decode cX12_turns 73 = .ok (.getfield 352, 3) := dgX12_turns_1 (73, (.getfield 352, 3)) (List.mem_of_getElem? (i := 6) rfl)
theorem dX12_turns_76 : decode cX12_turns 76 = .ok (.iload 6, 2) := dgX12_turns_1 (76, (.iload 6, 2)) (List.mem_of_getElem? (i := 7) rfl)
theorem dX12_turns_78 : decode cX12_turns 78 = .ok (.isub, 1) := dgX12_turns_1 (78, (.isub, 1)) (List.mem_of_getElem? (i := 8) rfl)
theorem dX12_turns_79 : decode cX12_turns 79 = .ok (.putfield 352, 3) := dgX12_turns_1 (79, (.putfield 352, 3)) (List.mem_of_getElem? (i := 9) rfl)
theorem dX12_turns_82 : decode cX12_turns 82 = .ok (.aload_n 0, 1) := dgX12_turns_1 (82, (.aload_n 0, 1)) (List.mem_of_getElem? (i := 10) rfl)
theorem dX12_turns_83 : decode cX12_turns 83 = .ok (.aload_n 0, 1) := dgX12_turns_1 (83, (.aload_n 0, 1)) (List.mem_of_getElem? (i := 11) rfl)
theorem dX12_turns_84 : decode cX12_turns 84 = .ok (.getfield 361, 3) := dgX12_turns_1 (84, (.getfield 361, 3)) (List.mem_of_getElem? (i := 12) rfl)
theorem dX12_turns_87 : decode cX12_turns 87 = .ok (.bipush 10, 2) := dgX12_turns_1 (87, (.bipush 10, 2)) (List.mem_of_getElem? (i := 13) rfl)
theorem dX12_turns_89 : decode cX12_turns 89 = .ok (.iload 7, 2) := dgX12_turns_1 (89, (.iload 7, 2)) (List.mem_of_getElem? (i := 14) rfl)
theorem dX12_turns_91 : decode cX12_turns 91 = .ok (.isub, 1) := dgX12_turns_1 (91, (.isub, 1)) (List.mem_of_getElem? (i := 15) rfl)
theorem dX12_turns_92 : decode cX12_turns 92 = .ok (.imul, 1) := dgX12_turns_1 (92, (.imul, 1)) (List.mem_of_getElem? (i := 16) rfl)
theorem dX12_turns_93 : decode cX12_turns 93 = .ok (.bipush 10, 2) := dgX12_turns_1 (93, (.bipush 10, 2)) (List.mem_of_getElem? (i := 17) rfl)
theorem dX12_turns_95 : decode cX12_turns 95 = .ok (.idiv, 1) := dgX12_turns_1 (95, (.idiv, 1)) (List.mem_of_getElem? (i := 18) rfl)
theorem dX12_turns_96 : decode cX12_turns 96 = .ok (.putfield 361, 3) := dgX12_turns_1 (96, (.putfield 361, 3)) (List.mem_of_getElem? (i := 19) rfl)
theorem dX12_turns_99 : decode cX12_turns 99 = .ok (.aload_n 0, 1) := dgX12_turns_1 (99, (.aload_n 0, 1)) (List.mem_of_getElem? (i := 20) rfl)
theorem dX12_turns_100 : decode cX12_turns 100 = .ok (.getfield 361, 3) := dgX12_turns_1 (100, (.getfield 361, 3)) (List.mem_of_getElem? (i := 21) rfl)
theorem dX12_turns_103 : decode cX12_turns 103 = .ok (.aload_n 0, 1) := dgX12_turns_1 (103, (.aload_n 0, 1)) (List.mem_of_getElem? (i := 22) rfl)
theorem dX12_turns_104 : decode cX12_turns 104 = .ok (.getfield 13, 3) := dgX12_turns_1 (104, (.getfield 13, 3)) (List.mem_of_getElem? (i := 23) rfl)
theorem dX12_turns_107 : decode cX12_turns 107 = .ok (.iconst 4, 1) := dgX12_turns_1 (107, (.iconst 4, 1)) (List.mem_of_getElem? (i := 24) rfl)
theorem dX12_turns_108 : decode cX12_turns 108 = .ok (.iaload, 1) := dgX12_turns_1 (108, (.iaload, 1)) (List.mem_of_getElem? (i := 25) rfl)
theorem dX12_turns_109 : decode cX12_turns 109 = .ok (.if_icmp .ge 5, 3) := dgX12_turns_1 (109, (.if_icmp .ge 5, 3)) (List.mem_of_getElem? (i := 26) rfl)
theorem dX12_turns_112 : decode cX12_turns 112 = .ok (.iconst 0, 1) := dgX12_turns_1 (112, (.iconst 0, 1)) (List.mem_of_getElem? (i := 27) rfl)
theorem dX12_turns_113 : decode cX12_turns 113 = .ok (.ireturn, 1) := dgX12_turns_1 (113, (.ireturn, 1)) (List.mem_of_getElem? (i := 28) rfl)
theorem dX12_turns_114 : decode cX12_turns 114 = .ok (.aload_n 0, 1) := dgX12_turns_1 (114, (.aload_n 0, 1)) (List.mem_of_getElem? (i := 29) rfl)
theorem dX12_turns_115 : decode cX12_turns 115 = .ok (.iload_n 2, 1) := dgX12_turns_1 (115, (.iload_n 2, 1)) (List.mem_of_getElem? (i := 30) rfl)
theorem dX12_turns_116 : decode cX12_turns 116 = .ok (.ifCond .ne 12, 3) := dgX12_turns_1 (116, (.ifCond .ne 12, 3)) (List.mem_of_getElem? (i := 31) rfl)
theorem dX12_turns_119 : decode cX12_turns 119 = .ok (.aload_n 0, 1) := dgX12_turns_1 (119, (.aload_n 0, 1)) (List.mem_of_getElem? (i := 32) rfl)
theorem dX12_turns_120 : decode cX12_turns 120 = .ok (.getfield 355, 3) := dgX12_turns_1 (120, (.getfield 355, 3)) (List.mem_of_getElem? (i := 33) rfl)
theorem dX12_turns_123 : decode cX12_turns 123 = .ok (.iconst 1, 1) := dgX12_turns_1 (123, (.iconst 1, 1)) (List.mem_of_getElem? (i := 34) rfl)
theorem dX12_turns_124 : decode cX12_turns 124 = .ok (.ixor, 1) := dgX12_turns_1 (124, (.ixor, 1)) (List.mem_of_getElem? (i := 35) rfl)
theorem dX12_turns_125 : decode cX12_turns 125 = .ok (.goto 25, 3) := dgX12_turns_1 (125, (.goto 25, 3)) (List.mem_of_getElem? (i := 36) rfl)
theorem dX12_turns_128 : decode cX12_turns 128 = .ok (.iload_n 2, 1) := dgX12_turns_1 (128, (.iload_n 2, 1)) (List.mem_of_getElem? (i := 37) rfl)
theorem dX12_turns_129 : decode cX12_turns 129 = .ok (.iconst 1, 1) := dgX12_turns_1 (129, (.iconst 1, 1)) (List.mem_of_getElem? (i := 38) rfl)
theorem dX12_turns_130 : decode cX12_turns 130 = .ok (.if_icmp .ne 12, 3) := dgX12_turns_1 (130, (.if_icmp .ne 12, 3)) (List.mem_of_getElem? (i := 39) rfl)
theorem dgX12_turns_2 : ∀ r ∈ ([(133, (.iconst 3, 1)), (134, (.aload_n 0, 1)), (135, (.getfield 355, 3)), (138, (.isub, 1)), (139, (.goto 11, 3)), (142, (.aload_n 0, 1)), (143, (.getfield 355, 3)), (146, (.iconst 2, 1)), (147, (.iadd, 1)), (148, (.iconst 4, 1)), (149, (.irem, 1)), (150, (.putfield 355, 3)), (153, (.aload_n 0, 1)), (154, (.dup, 1)), (155, (.getfield 368, 3)), (158, (.iconst 1, 1)), (159, (.iload_n 1, 1)), (160, (.ishl, 1)), (161, (.ior, 1)), (162, (.putfield 368, 3)), (165, (.iconst 1, 1)), (166, (.ireturn, 1))] : List (Nat × (Instr × Nat))), decode cX12_turns r.1 = .ok r.2 := by decide +kernel
theorem dX12_turns_133 : decode cX12_turns 133 = .ok (.iconst 3, 1) := dgX12_turns_2 (133, (.iconst 3, 1)) (List.mem_of_getElem? (i := 0) rfl)
theorem dX12_turns_134 : decode cX12_turns 134 = .ok (.aload_n 0, 1) := dgX12_turns_2 (134, (.aload_n 0, 1)) (List.mem_of_getElem? (i := 1) rfl)
theorem dX12_turns_135 : decode cX12_turns 135 = .ok (.getfield 355, 3) := dgX12_turns_2 (135, (.getfield 355, 3)) (List.mem_of_getElem? (i := 2) rfl)
theorem dX12_turns_138 : decode cX12_turns 138 = .ok (.isub, 1) := dgX12_turns_2 (138, (.isub, 1)) (List.mem_of_getElem? (i := 3) rfl)
theorem dX12_turns_139 : decode cX12_turns 139 = .ok (.goto 11, 3) := dgX12_turns_2 (139, (.goto 11, 3)) (List.mem_of_getElem? (i := 4) rfl)
theorem dX12_turns_142 : decode cX12_turns 142 = .ok (.aload_n 0, 1) := dgX12_turns_2 (142, (.aload_n 0, 1)) (List.mem_of_getElem? (i := 5) rfl)
theorem dX12_turns_143 : decode cX12_turns 143 = .ok (.getfield 355, 3) := dgX12_turns_2 (143, (.getfield 355, 3)) (List.mem_of_getElem? (i := 6) rfl)
theorem dX12_turns_146 : decode cX12_turns 146 = .ok (.iconst 2, 1) := dgX12_turns_2 (146, (.iconst 2, 1)) (List.mem_of_getElem? (i := 7) rfl)
theorem dX12_turns_147 : decode cX12_turns 147 = .ok (.iadd, 1) := dgX12_turns_2 (147, (.iadd, 1)) (List.mem_of_getElem? (i := 8) rfl)
theorem dX12_turns_148 : decode cX12_turns 148 = .ok (.iconst 4, 1) := dgX12_turns_2 (148, (.iconst 4, 1)) (List.mem_of_getElem? (i := 9) rfl)
theorem dX12_turns_149 : decode cX12_turns 149 = .ok (.irem, 1) := dgX12_turns_2 (149, (.irem, 1)) (List.mem_of_getElem? (i := 10) rfl)
theorem dX12_turns_150 : decode cX12_turns 150 = .ok (.putfield 355, 3) := dgX12_turns_2 (150, (.putfield 355, 3)) (List.mem_of_getElem? (i := 11) rfl)
theorem dX12_turns_153 : decode cX12_turns 153 = .ok (.aload_n 0, 1) := dgX12_turns_2 (153, (.aload_n 0, 1)) (List.mem_of_getElem? (i := 12) rfl)
theorem dX12_turns_154 : decode cX12_turns 154 = .ok (.dup, 1) := dgX12_turns_2 (154, (.dup, 1)) (List.mem_of_getElem? (i := 13) rfl)
theorem dX12_turns_155 : decode cX12_turns 155 = .ok (.getfield 368, 3) := dgX12_turns_2 (155, (.getfield 368, 3)) (List.mem_of_getElem? (i := 14) rfl)
theorem dX12_turns_158 : decode cX12_turns 158 = .ok (.iconst 1, 1) := dgX12_turns_2 (158, (.iconst 1, 1)) (List.mem_of_getElem? (i := 15) rfl)
theorem dX12_turns_159 : decode cX12_turns 159 = .ok (.iload_n 1, 1) := dgX12_turns_2 (159, (.iload_n 1, 1)) (List.mem_of_getElem? (i := 16) rfl)
theorem dX12_turns_160 : decode cX12_turns 160 = .ok (.ishl, 1) := dgX12_turns_2 (160, (.ishl, 1)) (List.mem_of_getElem? (i := 17) rfl)
theorem dX12_turns_161 : decode cX12_turns 161 = .ok (.ior, 1) := dgX12_turns_2 (161, (.ior, 1)) (List.mem_of_getElem? (i := 18) rfl)
theorem dX12_turns_162 : decode cX12_turns 162 = .ok (.putfield 368, 3) := dgX12_turns_2 (162, (.putfield 368, 3)) (List.mem_of_getElem? (i := 19) rfl)
theorem dX12_turns_165 : decode cX12_turns 165 = .ok (.iconst 1, 1) := dgX12_turns_2 (165, (.iconst 1, 1)) (List.mem_of_getElem? (i := 20) rfl)
theorem dX12_turns_166 : decode cX12_turns 166 = .ok (.ireturn, 1) := dgX12_turns_2 (166, (.ireturn, 1)) (List.mem_of_getElem? (i := 21) rfl)
theorem fl_X12_368 : Cond.fieldLink RX12 368 "LateGlassModel" "through" "I" ∈ tblG := tg 1242 (by decide +kernel) (by decide +kernel)
set_option maxHeartbeats 4000000 in
set_option maxRecDepth 100000 in
theorem n_turns (l : Launch) (G : g5_G) (b_o b_ro b_se b_re b_rf b_im b_ke b_tp b_nl b_op b_ar b_pi b_pa b_ws b_hw b_pt b_ip b_ah b_be b_me b_tr b_ld b_wn : Nat) (sz : Nat) (u_th : Int32) (u_sa : Int32) (u_fd : Int32) (u_td : Int32) (u_fr : Int32) (u_to : Int32) (u_so : Int32) (u_fa : Int32) (u_bd : Int32) (u_nc : Int32) (u_co : Int32) (u_le : Int32) (u_pd : Int32) (u_od : Int32) (u_la : Int32) (u_bk : Int32) (u_ce : Int32) (u_ho : Int32) (u_wy : Int32) (u_bt : Int32) (u_ps : Int32) (u_tg : Int32) (u_sn : Int32) (u_ic : Int32) (u_wd : Int32) (u_id : Int32) (p_1 : Int32) (p_2 : Int32) (p_3 : Int32) (p_4 : Int32) (p_5 : Int32) (u_wo : Int64) (u_va : Int64) (u_su : Int64) (u_st : Int64) (v_ro : Nat → Int32) (v_se : Nat → Int64) (v_re : Nat → Int64) (h_u_td : 0 ≤ u_td.toInt ∧ u_td.toInt ≤ 400) (h_u_fr : 0 ≤ u_fr.toInt ∧ u_fr.toInt ≤ 400) (h_u_to : 0 ≤ u_to.toInt ∧ u_to.toInt ≤ 400) (h_u_bd : 0 ≤ u_bd.toInt ∧ u_bd.toInt ≤ 1) (h_u_nc : 0 ≤ u_nc.toInt ∧ u_nc.toInt ≤ 12) (h_u_co : 0 ≤ u_co.toInt ∧ u_co.toInt ≤ 400) (h_u_pd : 0 ≤ u_pd.toInt ∧ u_pd.toInt ≤ 400) (h_u_la : 0 ≤ u_la.toInt ∧ u_la.toInt ≤ 4840) (h_u_bk : 0 ≤ u_bk.toInt ∧ u_bk.toInt ≤ 1) (h_u_ce : 0 ≤ u_ce.toInt ∧ u_ce.toInt ≤ 63) (h_u_ho : 0 ≤ u_ho.toInt ∧ u_ho.toInt ≤ 23) (h_u_wy : 0 ≤ u_wy.toInt ∧ u_wy.toInt ≤ 3) (h_u_bt : 0 ≤ u_bt.toInt ∧ u_bt.toInt ≤ 1000000) (h_u_ps : 0 ≤ u_ps.toInt ∧ u_ps.toInt ≤ 200) (h_u_ic : 0 ≤ u_ic.toInt ∧ u_ic.toInt ≤ 1) (h_u_id : 0 ≤ u_id.toInt ∧ u_id.toInt ≤ 1) (h_p_2 : 0 ≤ p_2.toInt ∧ p_2.toInt ≤ 5) (h_p_3 : 0 ≤ p_3.toInt ∧ p_3.toInt ≤ 23) (h_p_4 : 0 ≤ p_4.toInt ∧ p_4.toInt ≤ 10) (h_p_5 : 0 ≤ p_5.toInt ∧ p_5.toInt ≤ 1) (r_ro : MI v_ro) : Met l yX12_turns (wsG yX12_turns cX12_turns 8 (some .boolean)) ({ frames := 4, cells := 0, slots := 0, locals := 101 }) (va_Pc [.ref b_o, .int p_1, .int p_2, .int p_3, .int p_4, .int p_5] (g5_P G [(b_o, (oc12 u_th u_sa b_rf b_ro b_im b_ke u_fd b_tp u_td u_fr u_to u_so u_wo u_fa u_bd u_nc b_nl u_co b_op b_ar u_le b_pi b_pa u_pd u_od b_ws b_hw u_la b_se b_re u_bk u_va u_su u_ce u_ho u_wy u_bt u_ps b_pt u_tg u_sn b_ip u_ic b_ah b_be b_me u_wd b_tr b_ld u_st b_wn u_id)), (b_ro, (arI G 5740 v_ro)), (b_se, (arJ G 13 v_se)), (b_re, (arJ G 400 v_re))] sz)) (va_Qi (fun (r : Int32) (u : va_W) => (∃ (o_r : Int32) (o_la : Int32) (o_bk : Int32) (o_va : Int64) (o_su : Int64) (o_ho : Int32) (o_wy : Int32) (o_bt : Int32) (o_tg : Int32) (o_se : Nat → Int64) (o_re : Nat → Int64), (0 ≤ o_r.toInt ∧ o_r.toInt ≤ 1) ∧ (0 ≤ o_la.toInt ∧ o_la.toInt ≤ 4840) ∧ (0 ≤ o_bk.toInt ∧ o_bk.toInt ≤ 1) ∧ (0 ≤ o_ho.toInt ∧ o_ho.toInt ≤ 23) ∧ (0 ≤ o_wy.toInt ∧ o_wy.toInt ≤ 3) ∧ (0 ≤ o_bt.toInt ∧ o_bt.toInt ≤ 1000000) ∧ (r = o_r) ∧ (u = [(b_o, (oc12 u_th u_sa b_rf b_ro b_im b_ke u_fd b_tp u_td u_fr u_to u_so u_wo u_fa u_bd u_nc b_nl u_co b_op b_ar u_le b_pi b_pa u_pd u_od b_ws b_hw o_la b_se b_re o_bk o_va o_su u_ce o_ho o_wy o_bt u_ps b_pt o_tg u_sn b_ip u_ic b_ah b_be b_me u_wd b_tr b_ld u_st b_wn u_id)), (b_ro, (arI G 5740 v_ro)), (b_se, (arJ G 13 o_se)), (b_re, (arJ G 400 o_re))]))) (g5_B G (va_A [(b_o, (oc12 u_th u_sa b_rf b_ro b_im b_ke u_fd b_tp u_td u_fr u_to u_so u_wo u_fa u_bd u_nc b_nl u_co b_op b_ar u_le b_pi b_pa u_pd u_od b_ws b_hw u_la b_se b_re u_bk u_va u_su u_ce u_ho u_wy u_bt u_ps b_pt u_tg u_sn b_ip u_ic b_ah b_be b_me u_wd b_tr b_ld u_st b_wn u_id)), (b_ro, (arI G 5740 v_ro)), (b_se, (arJ G 13 v_se)), (b_re, (arJ G 400 v_re))] sz)) (va_A [(b_o, (oc12 u_th u_sa b_rf b_ro b_im b_ke u_fd b_tp u_td u_fr u_to u_so u_wo u_fa u_bd u_nc b_nl u_co b_op b_ar u_le b_pi b_pa u_pd u_od b_ws b_hw u_la b_se b_re u_bk u_va u_su u_ce u_ho u_wy u_bt u_ps b_pt u_tg u_sn b_ip u_ic b_ah b_be b_me u_wd b_tr b_ld u_st b_wn u_id)), (b_ro, (arI G 5740 v_ro)), (b_se, (arJ G 13 v_se)), (b_re, (arJ G 400 v_re))] sz)) 0 0 (va_A [(b_o, (oc12 u_th u_sa b_rf b_ro b_im b_ke u_fd b_tp u_td u_fr u_to u_so u_wo u_fa u_bd u_nc b_nl u_co b_op b_ar u_le b_pi b_pa u_pd u_od b_ws b_hw u_la b_se b_re u_bk u_va u_su u_ce u_ho u_wy u_bt u_ps b_pt u_tg u_sn b_ip u_ic b_ah b_be b_me u_wd b_tr b_ld u_st b_wn u_id)), (b_ro, (arI G 5740 v_ro)), (b_se, (arJ G 13 v_se)), (b_re, (arJ G 400 v_re))] sz) := by
  refine Met.ofW (cc := cX12_turns) (maxL := 8) (ret := (some .boolean)) (by decide +kernel) rfl ?_
  intro p e s m args below meth c s₁ B hml hv
  obtain ⟨rfl, hsz, hP, hK, hD0, hN, hT⟩ := hv
  have hx := B.exec
  have hb := B.bytes
  have hr := B.returns
  have hts : ∀ w ∈ tblG, w.before _ s = true := fun w h => atoms_spec (ws := (wsG yX12_turns cX12_turns 8 (some .boolean))) B.pre w (List.mem_cons_of_mem _ h)
  have hown : s.vm.findClass RX12 = some m.cls := findClass_of_methodNamed B.named
  have hlocks := B.notSynchronized
  subst hsz
  have hD := hD0.self (sz := s.heap.size)
  generalize hAe : va_A [(b_o, (oc12 u_th u_sa b_rf b_ro b_im b_ke u_fd b_tp u_td u_fr u_to u_so u_wo u_fa u_bd u_nc b_nl u_co b_op b_ar u_le b_pi b_pa u_pd u_od b_ws b_hw u_la b_se b_re u_bk u_va u_su u_ce u_ho u_wy u_bt u_ps b_pt u_tg u_sn b_ip u_ic b_ah b_be b_me u_wd b_tr b_ld u_st b_wn u_id)), (b_ro, (arI G 5740 v_ro)), (b_se, (arJ G 13 v_se)), (b_re, (arJ G 400 v_re))] s.heap.size = A at hD hT ⊢
  have hA : ∀ q : Nat, s.heap.size ≤ q → A q := fun q h => by rw [← hAe]; exact Or.inr h
  have hS : va_S A s.heap s.heap [] := va_S.rf
  replace hP : va_P G.1 vwCl [(b_o, (oc12 u_th u_sa b_rf b_ro b_im b_ke u_fd b_tp u_td u_fr u_to u_so u_wo u_fa u_bd u_nc b_nl u_co b_op b_ar u_le b_pi b_pa u_pd u_od b_ws b_hw u_la b_se b_re u_bk u_va u_su u_ce u_ho u_wy u_bt u_ps b_pt u_tg u_sn b_ip u_ic b_ah b_be b_me u_wd b_tr b_ld u_st b_wn u_id)), (b_ro, (arI G 5740 v_ro)), (b_se, (arJ G 13 v_se)), (b_re, (arJ G 400 v_re))] s.heap := hP
  have hl := lv_entry ([.ref b_o, .int p_1, .int p_2, .int p_3, .int p_4, .int p_5]) (n := 8) (Nat.le_of_ble_eq_true rfl)
  rw [lg_entry_eq]
  generalize (lg_sl ([.ref b_o, .int p_1, .int p_2, .int p_3, .int p_4, .int p_5]) ++ List.replicate (8 - (lg_sl ([.ref b_o, .int p_1, .int p_2, .int p_3, .int p_4, .int p_5])).length) Slot.unset).toArray = ls at hl ⊢
  replace hl : lv_has ls 8 [(0, .ref b_o), (1, .int p_1), (2, .int p_2), (3, .int p_3), (4, .int p_4), (5, .int p_5)] := hl
  have zk23 : (23 : Int32).toInt = 23 := (by decide +kernel)
  have zk10 : (10 : Int32).toInt = 10 := (by decide +kernel)
  refine lv_iload hx hb dX12_turns_0 (lv_at hl 5 rfl) ?_
  refine lv_if_ne (tgt := 33) hx hb dX12_turns_2 (by decide +kernel) (fun c_1 => ?_) (fun c_1 => ?_)
  ·
    have n_1 : gNe (p_5.toInt) (0) := g5_ne (a := p_5.toInt) (b := 0) rfl (by decide +kernel) c_1
    have i_1 : p_5.toInt ≥ 1 := by have z := g5_ne (a := p_5.toInt) (b := 0) (by rfl) (by decide +kernel) c_1; omega
    refine lv_iconst (v := 0) hx hb dX12_turns_33 (by decide +kernel) ?_
    exact W.zret (v := 0) hx hb hr rfl (fun t ht hW => ⟨⟨0, [(b_o, (oc12 u_th u_sa b_rf b_ro b_im b_ke u_fd b_tp u_td u_fr u_to u_so u_wo u_fa u_bd u_nc b_nl u_co b_op b_ar u_le b_pi b_pa u_pd u_od b_ws b_hw u_la b_se b_re u_bk u_va u_su u_ce u_ho u_wy u_bt u_ps b_pt u_tg u_sn b_ip u_ic b_ah b_be b_me u_wd b_tr b_ld u_st b_wn u_id)), (b_ro, (arI G 5740 v_ro)), (b_se, (arJ G 13 v_se)), (b_re, (arJ G 400 v_re))], rfl, ⟨0, u_la, u_bk, u_va, u_su, u_ho, u_wy, u_bt, u_tg, v_se, v_re, ⟨by have zc_o_r : (0 : Int32).toInt = 0 := (by decide +kernel); omega, by have zc_o_r : (0 : Int32).toInt = 0 := (by decide +kernel); omega⟩, h_u_la, h_u_bk, h_u_ho, h_u_wy, h_u_bt, rfl, rfl⟩, by rw [ht]; exact hP.sub [0, 1, 2, 3] rfl, hD.sub [0, 1, 2, 3] (by decide +kernel) rfl⟩, hS.F ht⟩) hS.2.2 dX12_turns_34
  ·
    have i_1 : p_5.toInt = 0 := g5_neN (a := p_5.toInt) (b := 0) rfl (by decide +kernel) c_1
    refine lv_aload_n hx hb dX12_turns_5 rfl (lv_at hl 0 rfl) ?_
    refine lv_iconst (v := 2) hx hb dX12_turns_6 (by decide +kernel) ?_
    refine lv_iload_n hx hb dX12_turns_7 rfl (lv_at hl 1 rfl) ?_
    refine lv_iconst (v := (-1)) hx hb dX12_turns_8 (by decide +kernel) ?_
    refine W.eq (g2 := F0 m 9 ls [.int (-1), .int p_1, .int 2, .ref b_o]) rfl ?_
    refine lv_iconst (v := 0) hx hb dX12_turns_9 (by decide +kernel) ?_
    refine lv_iconst (v := 1) hx hb dX12_turns_10 (by decide +kernel) ?_
    obtain ⟨hPc, hDc, hFc⟩ := g5_sub3 (wc := [(b_o, (oc12 u_th u_sa b_rf b_ro b_im b_ke u_fd b_tp u_td u_fr u_to u_so u_wo u_fa u_bd u_nc b_nl u_co b_op b_ar u_le b_pi b_pa u_pd u_od b_ws b_hw u_la b_se b_re u_bk u_va u_su u_ce u_ho u_wy u_bt u_ps b_pt u_tg u_sn b_ip u_ic b_ah b_be b_me u_wd b_tr b_ld u_st b_wn u_id)), (b_ro, (arI G 5740 v_ro)), (b_se, (arJ G 13 v_se)), (b_re, (arJ G 400 v_re))]) hP hD hS hA [0, 1, 2, 3] (by decide +kernel) rfl
    refine va_calli (va_runV (As := [.int 2, .int p_1, .int (-1), .int 0, .int 1]) (rest := []) ⟨hx, hb, hml, hown, hts⟩ (n_asks l G b_o b_ro b_se b_re b_rf b_im b_ke b_tp b_nl b_op b_ar b_pi b_pa b_ws b_hw b_pt b_ip b_ah b_be b_me b_tr b_ld b_wn s.heap.size u_th u_sa u_fd u_td u_fr u_to u_so u_fa u_bd u_nc u_co u_le u_pd u_od u_la u_bk u_ce u_ho u_wy u_bt u_ps u_tg u_sn u_ic u_wd u_id 2 p_1 (-1) 0 1 u_wo u_va u_su u_st v_ro v_se v_re h_u_td h_u_fr h_u_to h_u_bd h_u_nc h_u_co h_u_pd h_u_la h_u_bk h_u_ce h_u_ho h_u_wy h_u_bt h_u_ps h_u_ic h_u_id ⟨by decide, by decide⟩ ⟨by decide, by decide⟩ (r_ro) (by decide +kernel)) (cwV 5 hts gV_X12_383 rfl rfl rfl hv_X12_asks ⟨Nat.le_of_ble_eq_true rfl, Nat.le_of_ble_eq_true rfl⟩) (g5_preV hPc hK hDc hN hT hS hFc (ci := 12) (q0 := 0) rfl rfl) rfl rfl hl.1 rfl (lv_room (Nat.le_of_ble_eq_true rfl)) dX12_turns_11 ⟨Nat.le_of_ble_eq_true rfl, Nat.le_of_ble_eq_true rfl⟩) hS (fun q _ h => hFc q h) hFc (fun r u t H locs ht hvm hw hB hz1 hk1 hS => ?_)
    obtain ⟨hP1, hD1⟩ := hB
    have hP1 := g5_ht ht hP1
    obtain ⟨z6, z7, z8, z9, z10, z11, z12, (i_2 : 0 ≤ z6.toInt ∧ z6.toInt ≤ 23), (i_3 : 0 ≤ z6.toInt ∧ z6.toInt ≤ (1 : Int32).toInt), (i_4 : 0 ≤ z7.toInt ∧ z7.toInt ≤ 4840), (i_5 : 0 ≤ z8.toInt ∧ z8.toInt ≤ 1), y13, rfl⟩ := hw
    have hJ9 := va_join (wr := []) hP hD [0, 1, 2, 3] [] rfl rfl (by decide +kernel) (by decide +kernel) hk1 hFc hP1 hD1
    clear hP hD hPc hDc hFc ht hvm hz1 hk1 hP1 hD1
    obtain ⟨hP, hD⟩ := hJ9
    refine g5_rs [(b_o, (oc12 u_th u_sa b_rf b_ro b_im b_ke u_fd b_tp u_td u_fr u_to u_so u_wo u_fa u_bd u_nc b_nl u_co b_op b_ar u_le b_pi b_pa u_pd u_od b_ws b_hw z7 b_se b_re z8 z9 z10 u_ce u_ho u_wy u_bt u_ps b_pt u_tg u_sn b_ip u_ic b_ah b_be b_me u_wd b_tr b_ld u_st b_wn u_id)), (b_ro, (arI G 5740 v_ro)), (b_se, (arJ G 13 z11)), (b_re, (arJ G 400 z12))] hP hD ?_
    clear hP hD
    intro hP hD
    refine g5_ti (v := z6) y13 ?_
    refine lv_iconst (v := 1) hx hb dX12_turns_14 (by decide +kernel) ?_
    refine lv_icmp_eq (tgt := 33) hx hb dX12_turns_15 (by decide +kernel) (fun c_14 => ?_) (fun c_14 => ?_)
    ·
      have i_14 : z6.toInt = 1 := g5_eq (a := z6.toInt) (b := 1) rfl (by decide +kernel) c_14
      refine lv_iconst (v := 0) hx hb dX12_turns_33 (by decide +kernel) ?_
      exact W.zret (v := 0) hx hb hr rfl (fun t ht hW => ⟨⟨0, [(b_o, (oc12 u_th u_sa b_rf b_ro b_im b_ke u_fd b_tp u_td u_fr u_to u_so u_wo u_fa u_bd u_nc b_nl u_co b_op b_ar u_le b_pi b_pa u_pd u_od b_ws b_hw z7 b_se b_re z8 z9 z10 u_ce u_ho u_wy u_bt u_ps b_pt u_tg u_sn b_ip u_ic b_ah b_be b_me u_wd b_tr b_ld u_st b_wn u_id)), (b_ro, (arI G 5740 v_ro)), (b_se, (arJ G 13 z11)), (b_re, (arJ G 400 z12))], rfl, ⟨0, z7, z8, z9, z10, u_ho, u_wy, u_bt, u_tg, z11, z12, ⟨by have zc_o_r : (0 : Int32).toInt = 0 := (by decide +kernel); omega, by have zc_o_r : (0 : Int32).toInt = 0 := (by decide +kernel); omega⟩, i_4, i_5, h_u_ho, h_u_wy, h_u_bt, rfl, rfl⟩, by rw [ht]; exact hP.sub [0, 1, 2, 3] rfl, hD.sub [0, 1, 2, 3] (by decide +kernel) rfl⟩, hS.F ht⟩) hS.2.2 dX12_turns_34
    ·
      have n_14 : gNe (z6.toInt) (1) := g5_eqN (a := z6.toInt) (b := 1) rfl (by decide +kernel) c_14
      refine lv_iload_n hx hb dX12_turns_18 rfl (lv_at hl 2 rfl) ?_
      refine lv_iconst (v := 1) hx hb dX12_turns_19 (by decide +kernel) ?_
      refine lv_icmp_le (tgt := 35) hx hb dX12_turns_20 (by decide +kernel) (fun c_15 => ?_) (fun c_15 => ?_)
      ·
        have i_15 : p_2.toInt ≤ 1 := g5_le (a := p_2.toInt) (b := 1) rfl (by decide +kernel) c_15
        refine lv_aload_n hx hb dX12_turns_35 rfl (lv_at hl 0 rfl) ?_
        refine lv_iconst (v := 0) hx hb dX12_turns_36 (by decide +kernel) ?_
        refine lv_iload_n hx hb dX12_turns_37 rfl (lv_at hl 1 rfl) ?_
        refine lv_iconst (v := (-1)) hx hb dX12_turns_38 (by decide +kernel) ?_
        refine W.eq (g2 := F0 m 39 ls [.int (-1), .int p_1, .int 0, .ref b_o]) rfl ?_
        refine lv_iload_n hx hb dX12_turns_39 rfl (lv_at hl 3 rfl) ?_
        refine lv_bipush (v := 23) hx hb dX12_turns_40 (by decide +kernel) ?_
        obtain ⟨hPc, hDc, hFc⟩ := g5_sub3 (wc := [(b_o, (oc12 u_th u_sa b_rf b_ro b_im b_ke u_fd b_tp u_td u_fr u_to u_so u_wo u_fa u_bd u_nc b_nl u_co b_op b_ar u_le b_pi b_pa u_pd u_od b_ws b_hw z7 b_se b_re z8 z9 z10 u_ce u_ho u_wy u_bt u_ps b_pt u_tg u_sn b_ip u_ic b_ah b_be b_me u_wd b_tr b_ld u_st b_wn u_id)), (b_ro, (arI G 5740 v_ro)), (b_se, (arJ G 13 z11)), (b_re, (arJ G 400 z12))]) hP hD hS hA [0, 1, 2, 3] (by decide +kernel) rfl
        refine va_calli (va_runV (As := [.int 0, .int p_1, .int (-1), .int p_3, .int 23]) (rest := []) ⟨hx, hb, hml, hown, hts⟩ (n_asks l G b_o b_ro b_se b_re b_rf b_im b_ke b_tp b_nl b_op b_ar b_pi b_pa b_ws b_hw b_pt b_ip b_ah b_be b_me b_tr b_ld b_wn H.size u_th u_sa u_fd u_td u_fr u_to u_so u_fa u_bd u_nc u_co u_le u_pd u_od z7 z8 u_ce u_ho u_wy u_bt u_ps u_tg u_sn u_ic u_wd u_id 0 p_1 (-1) p_3 23 u_wo z9 z10 u_st v_ro z11 z12 h_u_td h_u_fr h_u_to h_u_bd h_u_nc h_u_co h_u_pd i_4 i_5 h_u_ce h_u_ho h_u_wy h_u_bt h_u_ps h_u_ic h_u_id h_p_3 ⟨by decide, by decide⟩ (r_ro) (by have zk : (23 : Int32).toInt = 23 := (by decide +kernel); omega)) (cwV 5 hts gV_X12_383 rfl rfl rfl hv_X12_asks ⟨Nat.le_of_ble_eq_true rfl, Nat.le_of_ble_eq_true rfl⟩) (g5_preV hPc hK hDc hN hT hS hFc (ci := 12) (q0 := 0) rfl rfl) rfl rfl hl.1 rfl (lv_room (Nat.le_of_ble_eq_true rfl)) dX12_turns_42 ⟨Nat.le_of_ble_eq_true rfl, Nat.le_of_ble_eq_true rfl⟩) hS (fun q _ h => hFc q h) hFc (fun r u t H locs ht hvm hw hB hz1 hk1 hS => ?_)
        obtain ⟨hP1, hD1⟩ := hB
        have hP1 := g5_ht ht hP1
        obtain ⟨z20, z21, z22, z23, z24, z25, z26, (i_16 : 0 ≤ z20.toInt ∧ z20.toInt ≤ 23), (i_17 : 0 ≤ z20.toInt ∧ z20.toInt ≤ (23 : Int32).toInt), (i_18 : 0 ≤ z21.toInt ∧ z21.toInt ≤ 4840), (i_19 : 0 ≤ z22.toInt ∧ z22.toInt ≤ 1), y27, rfl⟩ := hw
        have hJ9 := va_join (wr := []) hP hD [0, 1, 2, 3] [] rfl rfl (by decide +kernel) (by decide +kernel) hk1 hFc hP1 hD1
        clear hP hD hPc hDc hFc ht hvm hz1 hk1 hP1 hD1
        obtain ⟨hP, hD⟩ := hJ9
        refine g5_rs [(b_o, (oc12 u_th u_sa b_rf b_ro b_im b_ke u_fd b_tp u_td u_fr u_to u_so u_wo u_fa u_bd u_nc b_nl u_co b_op b_ar u_le b_pi b_pa u_pd u_od b_ws b_hw z21 b_se b_re z22 z23 z24 u_ce u_ho u_wy u_bt u_ps b_pt u_tg u_sn b_ip u_ic b_ah b_be b_me u_wd b_tr b_ld u_st b_wn u_id)), (b_ro, (arI G 5740 v_ro)), (b_se, (arJ G 13 z25)), (b_re, (arJ G 400 z26))] hP hD ?_
        clear hP hD
        intro hP hD
        refine g5_ti (v := z20) y27 ?_
        refine lv_istore (lv' := [(6, .int z20), (0, .ref b_o), (1, .int p_1), (2, .int p_2), (3, .int p_3), (4, .int p_4), (5, .int p_5)]) hx hb dX12_turns_45 hl (by decide +kernel) rfl ?_
        clear hl
        intro ls hl
        refine lv_aload_n hx hb dX12_turns_47 rfl (lv_at hl 1 rfl) ?_
        refine W.eq (g2 := F0 m 48 ls [.ref b_o]) rfl ?_
        refine lv_iconst (v := 1) hx hb dX12_turns_48 (by decide +kernel) ?_
        refine lv_iload_n hx hb dX12_turns_49 rfl (lv_at hl 2 rfl) ?_
        refine lv_iconst (v := (-1)) hx hb dX12_turns_50 (by decide +kernel) ?_
        refine lv_iload hx hb dX12_turns_51 (lv_at hl 5 rfl) ?_
        refine lv_bipush (v := 10) hx hb dX12_turns_53 (by decide +kernel) ?_
        refine W.eq (g2 := F0 m 55 ls [.int 10, .int p_4, .int (-1), .int p_1, .int 1, .ref b_o]) rfl ?_
        obtain ⟨hPc, hDc, hFc⟩ := g5_sub3 (wc := [(b_o, (oc12 u_th u_sa b_rf b_ro b_im b_ke u_fd b_tp u_td u_fr u_to u_so u_wo u_fa u_bd u_nc b_nl u_co b_op b_ar u_le b_pi b_pa u_pd u_od b_ws b_hw z21 b_se b_re z22 z23 z24 u_ce u_ho u_wy u_bt u_ps b_pt u_tg u_sn b_ip u_ic b_ah b_be b_me u_wd b_tr b_ld u_st b_wn u_id)), (b_ro, (arI G 5740 v_ro)), (b_se, (arJ G 13 z25)), (b_re, (arJ G 400 z26))]) hP hD hS hA [0, 1, 2, 3] (by decide +kernel) rfl
        refine va_calli (va_runV (As := [.int 1, .int p_1, .int (-1), .int p_4, .int 10]) (rest := []) ⟨hx, hb, hml, hown, hts⟩ (n_asks l G b_o b_ro b_se b_re b_rf b_im b_ke b_tp b_nl b_op b_ar b_pi b_pa b_ws b_hw b_pt b_ip b_ah b_be b_me b_tr b_ld b_wn H.size u_th u_sa u_fd u_td u_fr u_to u_so u_fa u_bd u_nc u_co u_le u_pd u_od z21 z22 u_ce u_ho u_wy u_bt u_ps u_tg u_sn u_ic u_wd u_id 1 p_1 (-1) p_4 10 u_wo z23 z24 u_st v_ro z25 z26 h_u_td h_u_fr h_u_to h_u_bd h_u_nc h_u_co h_u_pd i_18 i_19 h_u_ce h_u_ho h_u_wy h_u_bt h_u_ps h_u_ic h_u_id ⟨by omega, by omega⟩ ⟨by decide, by decide⟩ (r_ro) (by have zk : (10 : Int32).toInt = 10 := (by decide +kernel); omega)) (cwV 5 hts gV_X12_383 rfl rfl rfl hv_X12_asks ⟨Nat.le_of_ble_eq_true rfl, Nat.le_of_ble_eq_true rfl⟩) (g5_preV hPc hK hDc hN hT hS hFc (ci := 12) (q0 := 0) rfl rfl) rfl rfl hl.1 rfl (lv_room (Nat.le_of_ble_eq_true rfl)) dX12_turns_55 ⟨Nat.le_of_ble_eq_true rfl, Nat.le_of_ble_eq_true rfl⟩) hS (fun q _ h => hFc q h) hFc (fun r u t H locs ht hvm hw hB hz1 hk1 hS => ?_)
        obtain ⟨hP1, hD1⟩ := hB
        have hP1 := g5_ht ht hP1
        obtain ⟨z32, z33, z34, z35, z36, z37, z38, (i_28 : 0 ≤ z32.toInt ∧ z32.toInt ≤ 23), (i_29 : 0 ≤ z32.toInt ∧ z32.toInt ≤ (10 : Int32).toInt), (i_30 : 0 ≤ z33.toInt ∧ z33.toInt ≤ 4840), (i_31 : 0 ≤ z34.toInt ∧ z34.toInt ≤ 1), y39, rfl⟩ := hw
        have hJ9 := va_join (wr := []) hP hD [0, 1, 2, 3] [] rfl rfl (by decide +kernel) (by decide +kernel) hk1 hFc hP1 hD1
        clear hP hD hPc hDc hFc ht hvm hz1 hk1 hP1 hD1
        obtain ⟨hP, hD⟩ := hJ9
        refine g5_rs [(b_o, (oc12 u_th u_sa b_rf b_ro b_im b_ke u_fd b_tp u_td u_fr u_to u_so u_wo u_fa u_bd u_nc b_nl u_co b_op b_ar u_le b_pi b_pa u_pd u_od b_ws b_hw z33 b_se b_re z34 z35 z36 u_ce u_ho u_wy u_bt u_ps b_pt u_tg u_sn b_ip u_ic b_ah b_be b_me u_wd b_tr b_ld u_st b_wn u_id)), (b_ro, (arI G 5740 v_ro)), (b_se, (arJ G 13 z37)), (b_re, (arJ G 400 z38))] hP hD ?_
        clear hP hD
        intro hP hD
        refine g5_ti (v := z32) y39 ?_
        refine lv_istore (lv' := [(7, .int z32), (6, .int z20), (0, .ref b_o), (1, .int p_1), (2, .int p_2), (3, .int p_3), (4, .int p_4), (5, .int p_5)]) hx hb dX12_turns_58 hl (by decide +kernel) rfl ?_
        clear hl
        intro ls hl
        refine lv_aload_n hx hb dX12_turns_60 rfl (lv_at hl 2 rfl) ?_
        refine va_get (D := G.1) (ci := 12) (v := .int u_ho) (C := RX12) (T := TX12) (N := 52) hx hb hts inG_X12 hown hK hP 0 rfl rfl 34 (by decide +kernel) (hts _ fl_X12_352) (fun _ h9 => h9) rfl dX12_turns_61 ?_
        refine lv_iload hx hb dX12_turns_64 (lv_at hl 1 rfl) ?_
        refine W.eq (g2 := F0 m 66 ls [.int z20, .int u_ho]) rfl ?_
        refine lv_icmp_ge (tgt := 71) hx hb dX12_turns_66 (by decide +kernel) (fun c_40 => ?_) (fun c_40 => ?_)
        ·
          have i_40 : u_ho.toInt ≥ z20.toInt := g5_ge (a := u_ho.toInt) (b := z20.toInt) rfl rfl c_40
          refine lv_aload_n hx hb dX12_turns_71 rfl (lv_at hl 2 rfl) ?_
          refine lv_dup hx hb dX12_turns_72 rfl ?_
          refine va_get (D := G.1) (ci := 12) (v := .int u_ho) (C := RX12) (T := TX12) (N := 52) hx hb hts inG_X12 hown hK hP 0 rfl rfl 34 (by decide +kernel) (hts _ fl_X12_352) (fun _ h9 => h9) rfl dX12_turns_73 ?_
          refine lv_iload hx hb dX12_turns_76 (lv_at hl 1 rfl) ?_
          refine W.eq (g2 := F0 m 78 ls [.int z20, .int u_ho, .ref b_o]) rfl ?_
          refine lv_isub hx hb dX12_turns_78 ?_
          have t_41 : (u_ho - z20).toInt = u_ho.toInt - z20.toInt := g5_isub (a := u_ho.toInt) (b := z20.toInt) (by rfl) (by rfl) (by omega) (by omega)
          refine va_put (D := G.1) (ci := 12) (v := .int (u_ho - z20)) (ty := .int) (C := RX12) (T := TX12) (N := 52) hx hb hts inG_X12 tyX12 tyX12_ok nmX12 hown hK hP hD hS 0 rfl rfl 34 (by decide +kernel) (hts _ fl_X12_352) (fun _ h9 => h9) rfl (by decide +kernel) rfl rfl (Nat.le_of_ble_eq_true rfl) dX12_turns_79 ?_
          clear hP hD hS
          intro H locs hP hD hS
          refine g5_rs [(b_o, (oc12 u_th u_sa b_rf b_ro b_im b_ke u_fd b_tp u_td u_fr u_to u_so u_wo u_fa u_bd u_nc b_nl u_co b_op b_ar u_le b_pi b_pa u_pd u_od b_ws b_hw z33 b_se b_re z34 z35 z36 u_ce (u_ho - z20) u_wy u_bt u_ps b_pt u_tg u_sn b_ip u_ic b_ah b_be b_me u_wd b_tr b_ld u_st b_wn u_id)), (b_ro, (arI G 5740 v_ro)), (b_se, (arJ G 13 z37)), (b_re, (arJ G 400 z38))] hP hD ?_
          clear hP hD
          intro hP hD
          refine lv_aload_n hx hb dX12_turns_82 rfl (lv_at hl 2 rfl) ?_
          refine lv_aload_n hx hb dX12_turns_83 rfl (lv_at hl 2 rfl) ?_
          refine va_get (D := G.1) (ci := 12) (v := .int u_bt) (C := RX12) (T := TX12) (N := 52) hx hb hts inG_X12 hown hK hP 0 rfl rfl 36 (by decide +kernel) (hts _ fl_X12_361) (fun _ h9 => h9) rfl dX12_turns_84 ?_
          refine W.eq (g2 := F0 m 87 ls [.int u_bt, .ref b_o]) rfl ?_
          refine lv_bipush (v := 10) hx hb dX12_turns_87 (by decide +kernel) ?_
          refine lv_iload hx hb dX12_turns_89 (lv_at hl 0 rfl) ?_
          refine lv_isub hx hb dX12_turns_91 ?_
          have t_42 : (10 - z32).toInt = 10 - z32.toInt := g5_isub (a := 10) (b := z32.toInt) (by decide +kernel) (by rfl) (by omega) (by omega)
          refine lv_imul hx hb dX12_turns_92 ?_
          refine lv_bipush (v := 10) hx hb dX12_turns_93 (by decide +kernel) ?_
          refine W.eq (g2 := F0 m 95 ls [.int 10, .int (u_bt * (10 - z32)), .ref b_o]) rfl ?_
          refine lv_idiv hx hb dX12_turns_95 (by decide +kernel) ?_
          have hb_43 : 0 ≤ ((u_bt * (10 - z32)) / 10).toInt ∧ ((u_bt * (10 - z32)) / 10).toInt ≤ 1000000 := g_dust (by omega) (by omega)
          refine va_put (D := G.1) (ci := 12) (v := .int ((u_bt * (10 - z32)) / 10)) (ty := .int) (C := RX12) (T := TX12) (N := 52) hx hb hts inG_X12 tyX12 tyX12_ok nmX12 hown hK hP hD hS 0 rfl rfl 36 (by decide +kernel) (hts _ fl_X12_361) (fun _ h9 => h9) rfl (by decide +kernel) rfl rfl (Nat.le_of_ble_eq_true rfl) dX12_turns_96 ?_
          clear hP hD hS
          intro H locs hP hD hS
          refine g5_rs [(b_o, (oc12 u_th u_sa b_rf b_ro b_im b_ke u_fd b_tp u_td u_fr u_to u_so u_wo u_fa u_bd u_nc b_nl u_co b_op b_ar u_le b_pi b_pa u_pd u_od b_ws b_hw z33 b_se b_re z34 z35 z36 u_ce (u_ho - z20) u_wy ((u_bt * (10 - z32)) / 10) u_ps b_pt u_tg u_sn b_ip u_ic b_ah b_be b_me u_wd b_tr b_ld u_st b_wn u_id)), (b_ro, (arI G 5740 v_ro)), (b_se, (arJ G 13 z37)), (b_re, (arJ G 400 z38))] hP hD ?_
          clear hP hD
          intro hP hD
          refine lv_aload_n hx hb dX12_turns_99 rfl (lv_at hl 2 rfl) ?_
          refine va_get (D := G.1) (ci := 12) (v := .int ((u_bt * (10 - z32)) / 10)) (C := RX12) (T := TX12) (N := 52) hx hb hts inG_X12 hown hK hP 0 rfl rfl 36 (by decide +kernel) (hts _ fl_X12_361) (fun _ h9 => h9) rfl dX12_turns_100 ?_
          refine lv_aload_n hx hb dX12_turns_103 rfl (lv_at hl 2 rfl) ?_
          refine W.eq (g2 := F0 m 104 ls [.ref b_o, .int ((u_bt * (10 - z32)) / 10)]) rfl ?_
          refine va_get (D := G.1) (ci := 12) (v := .ref b_ro) (C := RX12) (T := TX12) (N := 52) hx hb hts inG_X12 hown hK hP 0 rfl rfl 3 (by decide +kernel) (hts _ fl_X12_13) (fun _ h9 => h9) rfl dX12_turns_104 ?_
          refine lv_iconst (v := 4) hx hb dX12_turns_107 (by decide +kernel) ?_
          refine va_iald hx hb hK hP 1 0 rfl rfl (i := 4) (by unfold vp_in; decide) dX12_turns_108 ?_
          refine g5_ti (v := (v_ro 4)) rfl ?_
          refine lv_icmp_ge (tgt := 114) hx hb dX12_turns_109 (by decide +kernel) (fun c_44 => ?_) (fun c_44 => ?_)
          ·
            have i_44 : ((u_bt * (10 - z32)) / 10).toInt ≥ (v_ro 4).toInt := g5_ge (a := ((u_bt * (10 - z32)) / 10).toInt) (b := (v_ro 4).toInt) rfl rfl c_44
            refine lv_aload_n hx hb dX12_turns_114 rfl (lv_at hl 2 rfl) ?_
            refine lv_iload_n hx hb dX12_turns_115 rfl (lv_at hl 4 rfl) ?_
            refine lv_if_ne (tgt := 128) hx hb dX12_turns_116 (by decide +kernel) (fun c_45 => ?_) (fun c_45 => ?_)
            ·
              have n_45 : gNe (p_2.toInt) (0) := g5_ne (a := p_2.toInt) (b := 0) rfl (by decide +kernel) c_45
              have i_45 : p_2.toInt ≥ 1 := by have z := g5_ne (a := p_2.toInt) (b := 0) (by rfl) (by decide +kernel) c_45; omega
              refine lv_iload_n hx hb dX12_turns_128 rfl (lv_at hl 4 rfl) ?_
              refine lv_iconst (v := 1) hx hb dX12_turns_129 (by decide +kernel) ?_
              refine lv_icmp_ne (tgt := 142) hx hb dX12_turns_130 (by decide +kernel) (fun c_46 => ?_) (fun c_46 => ?_)
              ·
                have i_46 : p_2.toInt ≠ 1 := g5_ne (a := p_2.toInt) (b := 1) rfl (by decide +kernel) c_46
                omega
              ·
                have i_46 : p_2.toInt = 1 := g5_neN (a := p_2.toInt) (b := 1) rfl (by decide +kernel) c_46
                refine lv_iconst (v := 3) hx hb dX12_turns_133 (by decide +kernel) ?_
                refine lv_aload_n hx hb dX12_turns_134 rfl (lv_at hl 2 rfl) ?_
                refine va_get (D := G.1) (ci := 12) (v := .int u_wy) (C := RX12) (T := TX12) (N := 52) hx hb hts inG_X12 hown hK hP 0 rfl rfl 35 (by decide +kernel) (hts _ fl_X12_355) (fun _ h9 => h9) rfl dX12_turns_135 ?_
                refine lv_isub hx hb dX12_turns_138 ?_
                have t_47 : (3 - u_wy).toInt = 3 - u_wy.toInt := g5_isub (a := 3) (b := u_wy.toInt) (by decide +kernel) (by rfl) (by omega) (by omega)
                refine W.eq (g2 := F0 m 139 ls [.int (3 - u_wy), .ref b_o]) rfl ?_
                refine lv_goto (tgt := 150) hx hb dX12_turns_139 (by decide +kernel) ?_
                refine va_put (D := G.1) (ci := 12) (v := .int (3 - u_wy)) (ty := .int) (C := RX12) (T := TX12) (N := 52) hx hb hts inG_X12 tyX12 tyX12_ok nmX12 hown hK hP hD hS 0 rfl rfl 35 (by decide +kernel) (hts _ fl_X12_355) (fun _ h9 => h9) rfl (by decide +kernel) rfl rfl (Nat.le_of_ble_eq_true rfl) dX12_turns_150 ?_
                clear hP hD hS
                intro H locs hP hD hS
                refine g5_rs [(b_o, (oc12 u_th u_sa b_rf b_ro b_im b_ke u_fd b_tp u_td u_fr u_to u_so u_wo u_fa u_bd u_nc b_nl u_co b_op b_ar u_le b_pi b_pa u_pd u_od b_ws b_hw z33 b_se b_re z34 z35 z36 u_ce (u_ho - z20) (3 - u_wy) ((u_bt * (10 - z32)) / 10) u_ps b_pt u_tg u_sn b_ip u_ic b_ah b_be b_me u_wd b_tr b_ld u_st b_wn u_id)), (b_ro, (arI G 5740 v_ro)), (b_se, (arJ G 13 z37)), (b_re, (arJ G 400 z38))] hP hD ?_
                clear hP hD
                intro hP hD
                refine lv_aload_n hx hb dX12_turns_153 rfl (lv_at hl 2 rfl) ?_
                refine lv_dup hx hb dX12_turns_154 rfl ?_
                refine va_get (D := G.1) (ci := 12) (v := .int u_tg) (C := RX12) (T := TX12) (N := 52) hx hb hts inG_X12 hown hK hP 0 rfl rfl 39 (by decide +kernel) (hts _ fl_X12_368) (fun _ h9 => h9) rfl dX12_turns_155 ?_
                refine W.eq (g2 := F0 m 158 ls [.int u_tg, .ref b_o]) rfl ?_
                refine lv_iconst (v := 1) hx hb dX12_turns_158 (by decide +kernel) ?_
                refine lv_iload_n hx hb dX12_turns_159 rfl (lv_at hl 3 rfl) ?_
                refine lv_ishl hx hb dX12_turns_160 ?_
                refine lv_ior hx hb dX12_turns_161 ?_
                refine va_put (D := G.1) (ci := 12) (v := .int (u_tg ||| (1 <<< (p_1 &&& 31)))) (ty := .int) (C := RX12) (T := TX12) (N := 52) hx hb hts inG_X12 tyX12 tyX12_ok nmX12 hown hK hP hD hS 0 rfl rfl 39 (by decide +kernel) (hts _ fl_X12_368) (fun _ h9 => h9) rfl (by decide +kernel) rfl rfl (Nat.le_of_ble_eq_true rfl) dX12_turns_162 ?_
                clear hP hD hS
                intro H locs hP hD hS
                refine g5_rs [(b_o, (oc12 u_th u_sa b_rf b_ro b_im b_ke u_fd b_tp u_td u_fr u_to u_so u_wo u_fa u_bd u_nc b_nl u_co b_op b_ar u_le b_pi b_pa u_pd u_od b_ws b_hw z33 b_se b_re z34 z35 z36 u_ce (u_ho - z20) (3 - u_wy) ((u_bt * (10 - z32)) / 10) u_ps b_pt (u_tg ||| (1 <<< (p_1 &&& 31))) u_sn b_ip u_ic b_ah b_be b_me u_wd b_tr b_ld u_st b_wn u_id)), (b_ro, (arI G 5740 v_ro)), (b_se, (arJ G 13 z37)), (b_re, (arJ G 400 z38))] hP hD ?_
                clear hP hD
                intro hP hD
                refine W.eq (g2 := F0 m 165 ls []) rfl ?_
                refine lv_iconst (v := 1) hx hb dX12_turns_165 (by decide +kernel) ?_
                exact W.zret (v := 1) hx hb hr rfl (fun t ht hW => ⟨⟨1, [(b_o, (oc12 u_th u_sa b_rf b_ro b_im b_ke u_fd b_tp u_td u_fr u_to u_so u_wo u_fa u_bd u_nc b_nl u_co b_op b_ar u_le b_pi b_pa u_pd u_od b_ws b_hw z33 b_se b_re z34 z35 z36 u_ce (u_ho - z20) (3 - u_wy) ((u_bt * (10 - z32)) / 10) u_ps b_pt (u_tg ||| (1 <<< (p_1 &&& 31))) u_sn b_ip u_ic b_ah b_be b_me u_wd b_tr b_ld u_st b_wn u_id)), (b_ro, (arI G 5740 v_ro)), (b_se, (arJ G 13 z37)), (b_re, (arJ G 400 z38))], rfl, ⟨1, z33, z34, z35, z36, (u_ho - z20), (3 - u_wy), ((u_bt * (10 - z32)) / 10), (u_tg ||| (1 <<< (p_1 &&& 31))), z37, z38, ⟨by have zc_o_r : (1 : Int32).toInt = 1 := (by decide +kernel); omega, by have zc_o_r : (1 : Int32).toInt = 1 := (by decide +kernel); omega⟩, i_30, i_31, ⟨by omega, by omega⟩, ⟨by omega, by omega⟩, ⟨by omega, by omega⟩, rfl, rfl⟩, by rw [ht]; exact hP.sub [0, 1, 2, 3] rfl, hD.sub [0, 1, 2, 3] (by decide +kernel) rfl⟩, hS.F ht⟩) hS.2.2 dX12_turns_166
            ·
              have i_45 : p_2.toInt = 0 := g5_neN (a := p_2.toInt) (b := 0) rfl (by decide +kernel) c_45
              refine lv_aload_n hx hb dX12_turns_119 rfl (lv_at hl 2 rfl) ?_
              refine va_get (D := G.1) (ci := 12) (v := .int u_wy) (C := RX12) (T := TX12) (N := 52) hx hb hts inG_X12 hown hK hP 0 rfl rfl 35 (by decide +kernel) (hts _ fl_X12_355) (fun _ h9 => h9) rfl dX12_turns_120 ?_
              refine lv_iconst (v := 1) hx hb dX12_turns_123 (by decide +kernel) ?_
              refine lv_ixor hx hb dX12_turns_124 ?_
              have hx_48 := (g_xor (w := u_wy) (by omega) (by omega)).1
              refine W.eq (g2 := F0 m 125 ls [.int (u_wy ^^^ 1), .ref b_o]) rfl ?_
              refine lv_goto (tgt := 150) hx hb dX12_turns_125 (by decide +kernel) ?_
              refine va_put (D := G.1) (ci := 12) (v := .int (u_wy ^^^ 1)) (ty := .int) (C := RX12) (T := TX12) (N := 52) hx hb hts inG_X12 tyX12 tyX12_ok nmX12 hown hK hP hD hS 0 rfl rfl 35 (by decide +kernel) (hts _ fl_X12_355) (fun _ h9 => h9) rfl (by decide +kernel) rfl rfl (Nat.le_of_ble_eq_true rfl) dX12_turns_150 ?_
              clear hP hD hS
              intro H locs hP hD hS
              refine g5_rs [(b_o, (oc12 u_th u_sa b_rf b_ro b_im b_ke u_fd b_tp u_td u_fr u_to u_so u_wo u_fa u_bd u_nc b_nl u_co b_op b_ar u_le b_pi b_pa u_pd u_od b_ws b_hw z33 b_se b_re z34 z35 z36 u_ce (u_ho - z20) (u_wy ^^^ 1) ((u_bt * (10 - z32)) / 10) u_ps b_pt u_tg u_sn b_ip u_ic b_ah b_be b_me u_wd b_tr b_ld u_st b_wn u_id)), (b_ro, (arI G 5740 v_ro)), (b_se, (arJ G 13 z37)), (b_re, (arJ G 400 z38))] hP hD ?_
              clear hP hD
              intro hP hD
              refine lv_aload_n hx hb dX12_turns_153 rfl (lv_at hl 2 rfl) ?_
              refine lv_dup hx hb dX12_turns_154 rfl ?_
              refine va_get (D := G.1) (ci := 12) (v := .int u_tg) (C := RX12) (T := TX12) (N := 52) hx hb hts inG_X12 hown hK hP 0 rfl rfl 39 (by decide +kernel) (hts _ fl_X12_368) (fun _ h9 => h9) rfl dX12_turns_155 ?_
              refine W.eq (g2 := F0 m 158 ls [.int u_tg, .ref b_o]) rfl ?_
              refine lv_iconst (v := 1) hx hb dX12_turns_158 (by decide +kernel) ?_
              refine lv_iload_n hx hb dX12_turns_159 rfl (lv_at hl 3 rfl) ?_
              refine lv_ishl hx hb dX12_turns_160 ?_
              refine lv_ior hx hb dX12_turns_161 ?_
              refine va_put (D := G.1) (ci := 12) (v := .int (u_tg ||| (1 <<< (p_1 &&& 31)))) (ty := .int) (C := RX12) (T := TX12) (N := 52) hx hb hts inG_X12 tyX12 tyX12_ok nmX12 hown hK hP hD hS 0 rfl rfl 39 (by decide +kernel) (hts _ fl_X12_368) (fun _ h9 => h9) rfl (by decide +kernel) rfl rfl (Nat.le_of_ble_eq_true rfl) dX12_turns_162 ?_
              clear hP hD hS
              intro H locs hP hD hS
              refine g5_rs [(b_o, (oc12 u_th u_sa b_rf b_ro b_im b_ke u_fd b_tp u_td u_fr u_to u_so u_wo u_fa u_bd u_nc b_nl u_co b_op b_ar u_le b_pi b_pa u_pd u_od b_ws b_hw z33 b_se b_re z34 z35 z36 u_ce (u_ho - z20) (u_wy ^^^ 1) ((u_bt * (10 - z32)) / 10) u_ps b_pt (u_tg ||| (1 <<< (p_1 &&& 31))) u_sn b_ip u_ic b_ah b_be b_me u_wd b_tr b_ld u_st b_wn u_id)), (b_ro, (arI G 5740 v_ro)), (b_se, (arJ G 13 z37)), (b_re, (arJ G 400 z38))] hP hD ?_
              clear hP hD
              intro hP hD
              refine W.eq (g2 := F0 m 165 ls []) rfl ?_
              refine lv_iconst (v := 1) hx hb dX12_turns_165 (by decide +kernel) ?_
              exact W.zret (v := 1) hx hb hr rfl (fun t ht hW => ⟨⟨1, [(b_o, (oc12 u_th u_sa b_rf b_ro b_im b_ke u_fd b_tp u_td u_fr u_to u_so u_wo u_fa u_bd u_nc b_nl u_co b_op b_ar u_le b_pi b_pa u_pd u_od b_ws b_hw z33 b_se b_re z34 z35 z36 u_ce (u_ho - z20) (u_wy ^^^ 1) ((u_bt * (10 - z32)) / 10) u_ps b_pt (u_tg ||| (1 <<< (p_1 &&& 31))) u_sn b_ip u_ic b_ah b_be b_me u_wd b_tr b_ld u_st b_wn u_id)), (b_ro, (arI G 5740 v_ro)), (b_se, (arJ G 13 z37)), (b_re, (arJ G 400 z38))], rfl, ⟨1, z33, z34, z35, z36, (u_ho - z20), (u_wy ^^^ 1), ((u_bt * (10 - z32)) / 10), (u_tg ||| (1 <<< (p_1 &&& 31))), z37, z38, ⟨by have zc_o_r : (1 : Int32).toInt = 1 := (by decide +kernel); omega, by have zc_o_r : (1 : Int32).toInt = 1 := (by decide +kernel); omega⟩, i_30, i_31, ⟨by omega, by omega⟩, ⟨by omega, by omega⟩, ⟨by omega, by omega⟩, rfl, rfl⟩, by rw [ht]; exact hP.sub [0, 1, 2, 3] rfl, hD.sub [0, 1, 2, 3] (by decide +kernel) rfl⟩, hS.F ht⟩) hS.2.2 dX12_turns_166
          ·
            have i_44 : ((u_bt * (10 - z32)) / 10).toInt < (v_ro 4).toInt := g5_geN (a := ((u_bt * (10 - z32)) / 10).toInt) (b := (v_ro 4).toInt) rfl rfl c_44
            refine lv_iconst (v := 0) hx hb dX12_turns_112 (by decide +kernel) ?_
            exact W.zret (v := 0) hx hb hr rfl (fun t ht hW => ⟨⟨0, [(b_o, (oc12 u_th u_sa b_rf b_ro b_im b_ke u_fd b_tp u_td u_fr u_to u_so u_wo u_fa u_bd u_nc b_nl u_co b_op b_ar u_le b_pi b_pa u_pd u_od b_ws b_hw z33 b_se b_re z34 z35 z36 u_ce (u_ho - z20) u_wy ((u_bt * (10 - z32)) / 10) u_ps b_pt u_tg u_sn b_ip u_ic b_ah b_be b_me u_wd b_tr b_ld u_st b_wn u_id)), (b_ro, (arI G 5740 v_ro)), (b_se, (arJ G 13 z37)), (b_re, (arJ G 400 z38))], rfl, ⟨0, z33, z34, z35, z36, (u_ho - z20), u_wy, ((u_bt * (10 - z32)) / 10), u_tg, z37, z38, ⟨by have zc_o_r : (0 : Int32).toInt = 0 := (by decide +kernel); omega, by have zc_o_r : (0 : Int32).toInt = 0 := (by decide +kernel); omega⟩, i_30, i_31, ⟨by omega, by omega⟩, h_u_wy, ⟨by omega, by omega⟩, rfl, rfl⟩, by rw [ht]; exact hP.sub [0, 1, 2, 3] rfl, hD.sub [0, 1, 2, 3] (by decide +kernel) rfl⟩, hS.F ht⟩) hS.2.2 dX12_turns_113
        ·
          have i_40 : u_ho.toInt < z20.toInt := g5_geN (a := u_ho.toInt) (b := z20.toInt) rfl rfl c_40
          refine lv_iconst (v := 0) hx hb dX12_turns_69 (by decide +kernel) ?_
          exact W.zret (v := 0) hx hb hr rfl (fun t ht hW => ⟨⟨0, [(b_o, (oc12 u_th u_sa b_rf b_ro b_im b_ke u_fd b_tp u_td u_fr u_to u_so u_wo u_fa u_bd u_nc b_nl u_co b_op b_ar u_le b_pi b_pa u_pd u_od b_ws b_hw z33 b_se b_re z34 z35 z36 u_ce u_ho u_wy u_bt u_ps b_pt u_tg u_sn b_ip u_ic b_ah b_be b_me u_wd b_tr b_ld u_st b_wn u_id)), (b_ro, (arI G 5740 v_ro)), (b_se, (arJ G 13 z37)), (b_re, (arJ G 400 z38))], rfl, ⟨0, z33, z34, z35, z36, u_ho, u_wy, u_bt, u_tg, z37, z38, ⟨by have zc_o_r : (0 : Int32).toInt = 0 := (by decide +kernel); omega, by have zc_o_r : (0 : Int32).toInt = 0 := (by decide +kernel); omega⟩, i_30, i_31, h_u_ho, h_u_wy, h_u_bt, rfl, rfl⟩, by rw [ht]; exact hP.sub [0, 1, 2, 3] rfl, hD.sub [0, 1, 2, 3] (by decide +kernel) rfl⟩, hS.F ht⟩) hS.2.2 dX12_turns_70
      ·
        have i_15 : p_2.toInt > 1 := g5_leN (a := p_2.toInt) (b := 1) rfl (by decide +kernel) c_15
        refine lv_aload_n hx hb dX12_turns_23 rfl (lv_at hl 0 rfl) ?_
        refine va_get (D := G.1) (ci := 12) (v := .int u_wy) (C := RX12) (T := TX12) (N := 52) hx hb hts inG_X12 hown hK hP 0 rfl rfl 35 (by decide +kernel) (hts _ fl_X12_355) (fun _ h9 => h9) rfl dX12_turns_24 ?_
        refine lv_iload_n hx hb dX12_turns_27 rfl (lv_at hl 2 rfl) ?_
        refine lv_iconst (v := 4) hx hb dX12_turns_28 (by decide +kernel) ?_
        refine W.eq (g2 := F0 m 29 ls [.int 4, .int p_2, .int u_wy]) rfl ?_
        refine lv_irem hx hb dX12_turns_29 (by decide +kernel) ?_
        have t_49 : (p_2 - p_2 / 4 * 4).toInt = p_2.toInt % 4 := g5_irem (a := p_2.toInt) (b := 4) rfl (by decide +kernel) (by omega) (by decide +kernel)
        refine lv_icmp_eq (tgt := 35) hx hb dX12_turns_30 (by decide +kernel) (fun c_50 => ?_) (fun c_50 => ?_)
        ·
          have i_50 : u_wy.toInt = (p_2.toInt % 4) := by have z := g5_eq (a := u_wy.toInt) (b := (p_2 - p_2 / 4 * 4).toInt) (by rfl) (by rfl) c_50; omega
          refine lv_aload_n hx hb dX12_turns_35 rfl (lv_at hl 0 rfl) ?_
          refine lv_iconst (v := 0) hx hb dX12_turns_36 (by decide +kernel) ?_
          refine lv_iload_n hx hb dX12_turns_37 rfl (lv_at hl 1 rfl) ?_
          refine lv_iconst (v := (-1)) hx hb dX12_turns_38 (by decide +kernel) ?_
          refine W.eq (g2 := F0 m 39 ls [.int (-1), .int p_1, .int 0, .ref b_o]) rfl ?_
          refine lv_iload_n hx hb dX12_turns_39 rfl (lv_at hl 3 rfl) ?_
          refine lv_bipush (v := 23) hx hb dX12_turns_40 (by decide +kernel) ?_
          obtain ⟨hPc, hDc, hFc⟩ := g5_sub3 (wc := [(b_o, (oc12 u_th u_sa b_rf b_ro b_im b_ke u_fd b_tp u_td u_fr u_to u_so u_wo u_fa u_bd u_nc b_nl u_co b_op b_ar u_le b_pi b_pa u_pd u_od b_ws b_hw z7 b_se b_re z8 z9 z10 u_ce u_ho u_wy u_bt u_ps b_pt u_tg u_sn b_ip u_ic b_ah b_be b_me u_wd b_tr b_ld u_st b_wn u_id)), (b_ro, (arI G 5740 v_ro)), (b_se, (arJ G 13 z11)), (b_re, (arJ G 400 z12))]) hP hD hS hA [0, 1, 2, 3] (by decide +kernel) rfl
          refine va_calli (va_runV (As := [.int 0, .int p_1, .int (-1), .int p_3, .int 23]) (rest := []) ⟨hx, hb, hml, hown, hts⟩ (n_asks l G b_o b_ro b_se b_re b_rf b_im b_ke b_tp b_nl b_op b_ar b_pi b_pa b_ws b_hw b_pt b_ip b_ah b_be b_me b_tr b_ld b_wn H.size u_th u_sa u_fd u_td u_fr u_to u_so u_fa u_bd u_nc u_co u_le u_pd u_od z7 z8 u_ce u_ho u_wy u_bt u_ps u_tg u_sn u_ic u_wd u_id 0 p_1 (-1) p_3 23 u_wo z9 z10 u_st v_ro z11 z12 h_u_td h_u_fr h_u_to h_u_bd h_u_nc h_u_co h_u_pd i_4 i_5 h_u_ce h_u_ho h_u_wy h_u_bt h_u_ps h_u_ic h_u_id h_p_3 ⟨by decide, by decide⟩ (r_ro) (by have zk : (23 : Int32).toInt = 23 := (by decide +kernel); omega)) (cwV 5 hts gV_X12_383 rfl rfl rfl hv_X12_asks ⟨Nat.le_of_ble_eq_true rfl, Nat.le_of_ble_eq_true rfl⟩) (g5_preV hPc hK hDc hN hT hS hFc (ci := 12) (q0 := 0) rfl rfl) rfl rfl hl.1 rfl (lv_room (Nat.le_of_ble_eq_true rfl)) dX12_turns_42 ⟨Nat.le_of_ble_eq_true rfl, Nat.le_of_ble_eq_true rfl⟩) hS (fun q _ h => hFc q h) hFc (fun r u t H locs ht hvm hw hB hz1 hk1 hS => ?_)
          obtain ⟨hP1, hD1⟩ := hB
          have hP1 := g5_ht ht hP1
          obtain ⟨z55, z56, z57, z58, z59, z60, z61, (i_51 : 0 ≤ z55.toInt ∧ z55.toInt ≤ 23), (i_52 : 0 ≤ z55.toInt ∧ z55.toInt ≤ (23 : Int32).toInt), (i_53 : 0 ≤ z56.toInt ∧ z56.toInt ≤ 4840), (i_54 : 0 ≤ z57.toInt ∧ z57.toInt ≤ 1), y62, rfl⟩ := hw
          have hJ9 := va_join (wr := []) hP hD [0, 1, 2, 3] [] rfl rfl (by decide +kernel) (by decide +kernel) hk1 hFc hP1 hD1
          clear hP hD hPc hDc hFc ht hvm hz1 hk1 hP1 hD1
          obtain ⟨hP, hD⟩ := hJ9
          refine g5_rs [(b_o, (oc12 u_th u_sa b_rf b_ro b_im b_ke u_fd b_tp u_td u_fr u_to u_so u_wo u_fa u_bd u_nc b_nl u_co b_op b_ar u_le b_pi b_pa u_pd u_od b_ws b_hw z56 b_se b_re z57 z58 z59 u_ce u_ho u_wy u_bt u_ps b_pt u_tg u_sn b_ip u_ic b_ah b_be b_me u_wd b_tr b_ld u_st b_wn u_id)), (b_ro, (arI G 5740 v_ro)), (b_se, (arJ G 13 z60)), (b_re, (arJ G 400 z61))] hP hD ?_
          clear hP hD
          intro hP hD
          refine g5_ti (v := z55) y62 ?_
          refine lv_istore (lv' := [(6, .int z55), (0, .ref b_o), (1, .int p_1), (2, .int p_2), (3, .int p_3), (4, .int p_4), (5, .int p_5)]) hx hb dX12_turns_45 hl (by decide +kernel) rfl ?_
          clear hl
          intro ls hl
          refine lv_aload_n hx hb dX12_turns_47 rfl (lv_at hl 1 rfl) ?_
          refine W.eq (g2 := F0 m 48 ls [.ref b_o]) rfl ?_
          refine lv_iconst (v := 1) hx hb dX12_turns_48 (by decide +kernel) ?_
          refine lv_iload_n hx hb dX12_turns_49 rfl (lv_at hl 2 rfl) ?_
          refine lv_iconst (v := (-1)) hx hb dX12_turns_50 (by decide +kernel) ?_
          refine lv_iload hx hb dX12_turns_51 (lv_at hl 5 rfl) ?_
          refine lv_bipush (v := 10) hx hb dX12_turns_53 (by decide +kernel) ?_
          refine W.eq (g2 := F0 m 55 ls [.int 10, .int p_4, .int (-1), .int p_1, .int 1, .ref b_o]) rfl ?_
          obtain ⟨hPc, hDc, hFc⟩ := g5_sub3 (wc := [(b_o, (oc12 u_th u_sa b_rf b_ro b_im b_ke u_fd b_tp u_td u_fr u_to u_so u_wo u_fa u_bd u_nc b_nl u_co b_op b_ar u_le b_pi b_pa u_pd u_od b_ws b_hw z56 b_se b_re z57 z58 z59 u_ce u_ho u_wy u_bt u_ps b_pt u_tg u_sn b_ip u_ic b_ah b_be b_me u_wd b_tr b_ld u_st b_wn u_id)), (b_ro, (arI G 5740 v_ro)), (b_se, (arJ G 13 z60)), (b_re, (arJ G 400 z61))]) hP hD hS hA [0, 1, 2, 3] (by decide +kernel) rfl
          refine va_calli (va_runV (As := [.int 1, .int p_1, .int (-1), .int p_4, .int 10]) (rest := []) ⟨hx, hb, hml, hown, hts⟩ (n_asks l G b_o b_ro b_se b_re b_rf b_im b_ke b_tp b_nl b_op b_ar b_pi b_pa b_ws b_hw b_pt b_ip b_ah b_be b_me b_tr b_ld b_wn H.size u_th u_sa u_fd u_td u_fr u_to u_so u_fa u_bd u_nc u_co u_le u_pd u_od z56 z57 u_ce u_ho u_wy u_bt u_ps u_tg u_sn u_ic u_wd u_id 1 p_1 (-1) p_4 10 u_wo z58 z59 u_st v_ro z60 z61 h_u_td h_u_fr h_u_to h_u_bd h_u_nc h_u_co h_u_pd i_53 i_54 h_u_ce h_u_ho h_u_wy h_u_bt h_u_ps h_u_ic h_u_id ⟨by omega, by omega⟩ ⟨by decide, by decide⟩ (r_ro) (by have zk : (10 : Int32).toInt = 10 := (by decide +kernel); omega)) (cwV 5 hts gV_X12_383 rfl rfl rfl hv_X12_asks ⟨Nat.le_of_ble_eq_true rfl, Nat.le_of_ble_eq_true rfl⟩) (g5_preV hPc hK hDc hN hT hS hFc (ci := 12) (q0 := 0) rfl rfl) rfl rfl hl.1 rfl (lv_room (Nat.le_of_ble_eq_true rfl)) dX12_turns_55 ⟨Nat.le_of_ble_eq_true rfl, Nat.le_of_ble_eq_true rfl⟩) hS (fun q _ h => hFc q h) hFc (fun r u t H locs ht hvm hw hB hz1 hk1 hS => ?_)
          obtain ⟨hP1, hD1⟩ := hB
          have hP1 := g5_ht ht hP1
          obtain ⟨z67, z68, z69, z70, z71, z72, z73, (i_63 : 0 ≤ z67.toInt ∧ z67.toInt ≤ 23), (i_64 : 0 ≤ z67.toInt ∧ z67.toInt ≤ (10 : Int32).toInt), (i_65 : 0 ≤ z68.toInt ∧ z68.toInt ≤ 4840), (i_66 : 0 ≤ z69.toInt ∧ z69.toInt ≤ 1), y74, rfl⟩ := hw
          have hJ9 := va_join (wr := []) hP hD [0, 1, 2, 3] [] rfl rfl (by decide +kernel) (by decide +kernel) hk1 hFc hP1 hD1
          clear hP hD hPc hDc hFc ht hvm hz1 hk1 hP1 hD1
          obtain ⟨hP, hD⟩ := hJ9
          refine g5_rs [(b_o, (oc12 u_th u_sa b_rf b_ro b_im b_ke u_fd b_tp u_td u_fr u_to u_so u_wo u_fa u_bd u_nc b_nl u_co b_op b_ar u_le b_pi b_pa u_pd u_od b_ws b_hw z68 b_se b_re z69 z70 z71 u_ce u_ho u_wy u_bt u_ps b_pt u_tg u_sn b_ip u_ic b_ah b_be b_me u_wd b_tr b_ld u_st b_wn u_id)), (b_ro, (arI G 5740 v_ro)), (b_se, (arJ G 13 z72)), (b_re, (arJ G 400 z73))] hP hD ?_
          clear hP hD
          intro hP hD
          refine g5_ti (v := z67) y74 ?_
          refine lv_istore (lv' := [(7, .int z67), (6, .int z55), (0, .ref b_o), (1, .int p_1), (2, .int p_2), (3, .int p_3), (4, .int p_4), (5, .int p_5)]) hx hb dX12_turns_58 hl (by decide +kernel) rfl ?_
          clear hl
          intro ls hl
          refine lv_aload_n hx hb dX12_turns_60 rfl (lv_at hl 2 rfl) ?_
          refine va_get (D := G.1) (ci := 12) (v := .int u_ho) (C := RX12) (T := TX12) (N := 52) hx hb hts inG_X12 hown hK hP 0 rfl rfl 34 (by decide +kernel) (hts _ fl_X12_352) (fun _ h9 => h9) rfl dX12_turns_61 ?_
          refine lv_iload hx hb dX12_turns_64 (lv_at hl 1 rfl) ?_
          refine W.eq (g2 := F0 m 66 ls [.int z55, .int u_ho]) rfl ?_
          refine lv_icmp_ge (tgt := 71) hx hb dX12_turns_66 (by decide +kernel) (fun c_75 => ?_) (fun c_75 => ?_)
          ·
            have i_75 : u_ho.toInt ≥ z55.toInt := g5_ge (a := u_ho.toInt) (b := z55.toInt) rfl rfl c_75
            refine lv_aload_n hx hb dX12_turns_71 rfl (lv_at hl 2 rfl) ?_
            refine lv_dup hx hb dX12_turns_72 rfl ?_
            refine va_get (D := G.1) (ci := 12) (v := .int u_ho) (C := RX12) (T := TX12) (N := 52) hx hb hts inG_X12 hown hK hP 0 rfl rfl 34 (by decide +kernel) (hts _ fl_X12_352) (fun _ h9 => h9) rfl dX12_turns_73 ?_
            refine lv_iload hx hb dX12_turns_76 (lv_at hl 1 rfl) ?_
            refine W.eq (g2 := F0 m 78 ls [.int z55, .int u_ho, .ref b_o]) rfl ?_
            refine lv_isub hx hb dX12_turns_78 ?_
            have t_76 : (u_ho - z55).toInt = u_ho.toInt - z55.toInt := g5_isub (a := u_ho.toInt) (b := z55.toInt) (by rfl) (by rfl) (by omega) (by omega)
            refine va_put (D := G.1) (ci := 12) (v := .int (u_ho - z55)) (ty := .int) (C := RX12) (T := TX12) (N := 52) hx hb hts inG_X12 tyX12 tyX12_ok nmX12 hown hK hP hD hS 0 rfl rfl 34 (by decide +kernel) (hts _ fl_X12_352) (fun _ h9 => h9) rfl (by decide +kernel) rfl rfl (Nat.le_of_ble_eq_true rfl) dX12_turns_79 ?_
            clear hP hD hS
            intro H locs hP hD hS
            refine g5_rs [(b_o, (oc12 u_th u_sa b_rf b_ro b_im b_ke u_fd b_tp u_td u_fr u_to u_so u_wo u_fa u_bd u_nc b_nl u_co b_op b_ar u_le b_pi b_pa u_pd u_od b_ws b_hw z68 b_se b_re z69 z70 z71 u_ce (u_ho - z55) u_wy u_bt u_ps b_pt u_tg u_sn b_ip u_ic b_ah b_be b_me u_wd b_tr b_ld u_st b_wn u_id)), (b_ro, (arI G 5740 v_ro)), (b_se, (arJ G 13 z72)), (b_re, (arJ G 400 z73))] hP hD ?_
            clear hP hD
            intro hP hD
            refine lv_aload_n hx hb dX12_turns_82 rfl (lv_at hl 2 rfl) ?_
            refine lv_aload_n hx hb dX12_turns_83 rfl (lv_at hl 2 rfl) ?_
            refine va_get (D := G.1) (ci := 12) (v := .int u_bt) (C := RX12) (T := TX12) (N := 52) hx hb hts inG_X12 hown hK hP 0 rfl rfl 36 (by decide +kernel) (hts _ fl_X12_361) (fun _ h9 => h9) rfl dX12_turns_84 ?_
            refine W.eq (g2 := F0 m 87 ls [.int u_bt, .ref b_o]) rfl ?_
            refine lv_bipush (v := 10) hx hb dX12_turns_87 (by decide +kernel) ?_
            refine lv_iload hx hb dX12_turns_89 (lv_at hl 0 rfl) ?_
            refine lv_isub hx hb dX12_turns_91 ?_
            have t_77 : (10 - z67).toInt = 10 - z67.toInt := g5_isub (a := 10) (b := z67.toInt) (by decide +kernel) (by rfl) (by omega) (by omega)
            refine lv_imul hx hb dX12_turns_92 ?_
            refine lv_bipush (v := 10) hx hb dX12_turns_93 (by decide +kernel) ?_
            refine W.eq (g2 := F0 m 95 ls [.int 10, .int (u_bt * (10 - z67)), .ref b_o]) rfl ?_
            refine lv_idiv hx hb dX12_turns_95 (by decide +kernel) ?_
            have hb_78 : 0 ≤ ((u_bt * (10 - z67)) / 10).toInt ∧ ((u_bt * (10 - z67)) / 10).toInt ≤ 1000000 := g_dust (by omega) (by omega)
            refine va_put (D := G.1) (ci := 12) (v := .int ((u_bt * (10 - z67)) / 10)) (ty := .int) (C := RX12) (T := TX12) (N := 52) hx hb hts inG_X12 tyX12 tyX12_ok nmX12 hown hK hP hD hS 0 rfl rfl 36 (by decide +kernel) (hts _ fl_X12_361) (fun _ h9 => h9) rfl (by decide +kernel) rfl rfl (Nat.le_of_ble_eq_true rfl) dX12_turns_96 ?_
            clear hP hD hS
            intro H locs hP hD hS
            refine g5_rs [(b_o, (oc12 u_th u_sa b_rf b_ro b_im b_ke u_fd b_tp u_td u_fr u_to u_so u_wo u_fa u_bd u_nc b_nl u_co b_op b_ar u_le b_pi b_pa u_pd u_od b_ws b_hw z68 b_se b_re z69 z70 z71 u_ce (u_ho - z55) u_wy ((u_bt * (10 - z67)) / 10) u_ps b_pt u_tg u_sn b_ip u_ic b_ah b_be b_me u_wd b_tr b_ld u_st b_wn u_id)), (b_ro, (arI G 5740 v_ro)), (b_se, (arJ G 13 z72)), (b_re, (arJ G 400 z73))] hP hD ?_
            clear hP hD
            intro hP hD
            refine lv_aload_n hx hb dX12_turns_99 rfl (lv_at hl 2 rfl) ?_
            refine va_get (D := G.1) (ci := 12) (v := .int ((u_bt * (10 - z67)) / 10)) (C := RX12) (T := TX12) (N := 52) hx hb hts inG_X12 hown hK hP 0 rfl rfl 36 (by decide +kernel) (hts _ fl_X12_361) (fun _ h9 => h9) rfl dX12_turns_100 ?_
            refine lv_aload_n hx hb dX12_turns_103 rfl (lv_at hl 2 rfl) ?_
            refine W.eq (g2 := F0 m 104 ls [.ref b_o, .int ((u_bt * (10 - z67)) / 10)]) rfl ?_
            refine va_get (D := G.1) (ci := 12) (v := .ref b_ro) (C := RX12) (T := TX12) (N := 52) hx hb hts inG_X12 hown hK hP 0 rfl rfl 3 (by decide +kernel) (hts _ fl_X12_13) (fun _ h9 => h9) rfl dX12_turns_104 ?_
            refine lv_iconst (v := 4) hx hb dX12_turns_107 (by decide +kernel) ?_
            refine va_iald hx hb hK hP 1 0 rfl rfl (i := 4) (by unfold vp_in; decide) dX12_turns_108 ?_
            refine g5_ti (v := (v_ro 4)) rfl ?_
            refine lv_icmp_ge (tgt := 114) hx hb dX12_turns_109 (by decide +kernel) (fun c_79 => ?_) (fun c_79 => ?_)
            ·
              have i_79 : ((u_bt * (10 - z67)) / 10).toInt ≥ (v_ro 4).toInt := g5_ge (a := ((u_bt * (10 - z67)) / 10).toInt) (b := (v_ro 4).toInt) rfl rfl c_79
              refine lv_aload_n hx hb dX12_turns_114 rfl (lv_at hl 2 rfl) ?_
              refine lv_iload_n hx hb dX12_turns_115 rfl (lv_at hl 4 rfl) ?_
              refine lv_if_ne (tgt := 128) hx hb dX12_turns_116 (by decide +kernel) (fun c_80 => ?_) (fun c_80 => ?_)
              ·
                have n_80 : gNe (p_2.toInt) (0) := g5_ne (a := p_2.toInt) (b := 0) rfl (by decide +kernel) c_80
                refine lv_iload_n hx hb dX12_turns_128 rfl (lv_at hl 4 rfl) ?_
                refine lv_iconst (v := 1) hx hb dX12_turns_129 (by decide +kernel) ?_
                refine lv_icmp_ne (tgt := 142) hx hb dX12_turns_130 (by decide +kernel) (fun c_81 => ?_) (fun c_81 => ?_)
                ·
                  have n_81 : gNe (p_2.toInt) (1) := g5_ne (a := p_2.toInt) (b := 1) rfl (by decide +kernel) c_81
                  refine lv_aload_n hx hb dX12_turns_142 rfl (lv_at hl 2 rfl) ?_
                  refine va_get (D := G.1) (ci := 12) (v := .int u_wy) (C := RX12) (T := TX12) (N := 52) hx hb hts inG_X12 hown hK hP 0 rfl rfl 35 (by decide +kernel) (hts _ fl_X12_355) (fun _ h9 => h9) rfl dX12_turns_143 ?_
                  refine lv_iconst (v := 2) hx hb dX12_turns_146 (by decide +kernel) ?_
                  refine lv_iadd hx hb dX12_turns_147 ?_
                  have t_82 : (u_wy + 2).toInt = u_wy.toInt + 2 := g5_iadd (a := u_wy.toInt) (b := 2) (by rfl) (by decide +kernel) (by omega) (by omega)
                  refine W.eq (g2 := F0 m 148 ls [.int (u_wy + 2), .ref b_o]) rfl ?_
                  refine lv_iconst (v := 4) hx hb dX12_turns_148 (by decide +kernel) ?_
                  refine lv_irem hx hb dX12_turns_149 (by decide +kernel) ?_
                  have t_83 : ((u_wy + 2) - (u_wy + 2) / 4 * 4).toInt = (u_wy + 2).toInt % 4 := g5_irem (a := (u_wy + 2).toInt) (b := 4) rfl (by decide +kernel) (by omega) (by decide +kernel)
                  refine va_put (D := G.1) (ci := 12) (v := .int ((u_wy + 2) - (u_wy + 2) / 4 * 4)) (ty := .int) (C := RX12) (T := TX12) (N := 52) hx hb hts inG_X12 tyX12 tyX12_ok nmX12 hown hK hP hD hS 0 rfl rfl 35 (by decide +kernel) (hts _ fl_X12_355) (fun _ h9 => h9) rfl (by decide +kernel) rfl rfl (Nat.le_of_ble_eq_true rfl) dX12_turns_150 ?_
                  clear hP hD hS
                  intro H locs hP hD hS
                  refine g5_rs [(b_o, (oc12 u_th u_sa b_rf b_ro b_im b_ke u_fd b_tp u_td u_fr u_to u_so u_wo u_fa u_bd u_nc b_nl u_co b_op b_ar u_le b_pi b_pa u_pd u_od b_ws b_hw z68 b_se b_re z69 z70 z71 u_ce (u_ho - z55) ((u_wy + 2) - (u_wy + 2) / 4 * 4) ((u_bt * (10 - z67)) / 10) u_ps b_pt u_tg u_sn b_ip u_ic b_ah b_be b_me u_wd b_tr b_ld u_st b_wn u_id)), (b_ro, (arI G 5740 v_ro)), (b_se, (arJ G 13 z72)), (b_re, (arJ G 400 z73))] hP hD ?_
                  clear hP hD
                  intro hP hD
                  refine lv_aload_n hx hb dX12_turns_153 rfl (lv_at hl 2 rfl) ?_
                  refine lv_dup hx hb dX12_turns_154 rfl ?_
                  refine W.eq (g2 := F0 m 155 ls [.ref b_o, .ref b_o]) rfl ?_
                  refine va_get (D := G.1) (ci := 12) (v := .int u_tg) (C := RX12) (T := TX12) (N := 52) hx hb hts inG_X12 hown hK hP 0 rfl rfl 39 (by decide +kernel) (hts _ fl_X12_368) (fun _ h9 => h9) rfl dX12_turns_155 ?_
                  refine lv_iconst (v := 1) hx hb dX12_turns_158 (by decide +kernel) ?_
                  refine lv_iload_n hx hb dX12_turns_159 rfl (lv_at hl 3 rfl) ?_
                  refine lv_ishl hx hb dX12_turns_160 ?_
                  refine lv_ior hx hb dX12_turns_161 ?_
                  refine W.eq (g2 := F0 m 162 ls [.int (u_tg ||| (1 <<< (p_1 &&& 31))), .ref b_o]) rfl ?_
                  refine va_put (D := G.1) (ci := 12) (v := .int (u_tg ||| (1 <<< (p_1 &&& 31)))) (ty := .int) (C := RX12) (T := TX12) (N := 52) hx hb hts inG_X12 tyX12 tyX12_ok nmX12 hown hK hP hD hS 0 rfl rfl 39 (by decide +kernel) (hts _ fl_X12_368) (fun _ h9 => h9) rfl (by decide +kernel) rfl rfl (Nat.le_of_ble_eq_true rfl) dX12_turns_162 ?_
                  clear hP hD hS
                  intro H locs hP hD hS
                  refine g5_rs [(b_o, (oc12 u_th u_sa b_rf b_ro b_im b_ke u_fd b_tp u_td u_fr u_to u_so u_wo u_fa u_bd u_nc b_nl u_co b_op b_ar u_le b_pi b_pa u_pd u_od b_ws b_hw z68 b_se b_re z69 z70 z71 u_ce (u_ho - z55) ((u_wy + 2) - (u_wy + 2) / 4 * 4) ((u_bt * (10 - z67)) / 10) u_ps b_pt (u_tg ||| (1 <<< (p_1 &&& 31))) u_sn b_ip u_ic b_ah b_be b_me u_wd b_tr b_ld u_st b_wn u_id)), (b_ro, (arI G 5740 v_ro)), (b_se, (arJ G 13 z72)), (b_re, (arJ G 400 z73))] hP hD ?_
                  clear hP hD
                  intro hP hD
                  refine lv_iconst (v := 1) hx hb dX12_turns_165 (by decide +kernel) ?_
                  exact W.zret (v := 1) hx hb hr rfl (fun t ht hW => ⟨⟨1, [(b_o, (oc12 u_th u_sa b_rf b_ro b_im b_ke u_fd b_tp u_td u_fr u_to u_so u_wo u_fa u_bd u_nc b_nl u_co b_op b_ar u_le b_pi b_pa u_pd u_od b_ws b_hw z68 b_se b_re z69 z70 z71 u_ce (u_ho - z55) ((u_wy + 2) - (u_wy + 2) / 4 * 4) ((u_bt * (10 - z67)) / 10) u_ps b_pt (u_tg ||| (1 <<< (p_1 &&& 31))) u_sn b_ip u_ic b_ah b_be b_me u_wd b_tr b_ld u_st b_wn u_id)), (b_ro, (arI G 5740 v_ro)), (b_se, (arJ G 13 z72)), (b_re, (arJ G 400 z73))], rfl, ⟨1, z68, z69, z70, z71, (u_ho - z55), ((u_wy + 2) - (u_wy + 2) / 4 * 4), ((u_bt * (10 - z67)) / 10), (u_tg ||| (1 <<< (p_1 &&& 31))), z72, z73, ⟨by have zc_o_r : (1 : Int32).toInt = 1 := (by decide +kernel); omega, by have zc_o_r : (1 : Int32).toInt = 1 := (by decide +kernel); omega⟩, i_65, i_66, ⟨by omega, by omega⟩, ⟨by omega, by omega⟩, ⟨by omega, by omega⟩, rfl, rfl⟩, by rw [ht]; exact hP.sub [0, 1, 2, 3] rfl, hD.sub [0, 1, 2, 3] (by decide +kernel) rfl⟩, hS.F ht⟩) hS.2.2 dX12_turns_166
                ·
                  have i_81 : p_2.toInt = 1 := g5_neN (a := p_2.toInt) (b := 1) rfl (by decide +kernel) c_81
                  omega
              ·
                have i_80 : p_2.toInt = 0 := g5_neN (a := p_2.toInt) (b := 0) rfl (by decide +kernel) c_80
                omega
            ·
              have i_79 : ((u_bt * (10 - z67)) / 10).toInt < (v_ro 4).toInt := g5_geN (a := ((u_bt * (10 - z67)) / 10).toInt) (b := (v_ro 4).toInt) rfl rfl c_79
              refine lv_iconst (v := 0) hx hb dX12_turns_112 (by decide +kernel) ?_
              exact W.zret (v := 0) hx hb hr rfl (fun t ht hW => ⟨⟨0, [(b_o, (oc12 u_th u_sa b_rf b_ro b_im b_ke u_fd b_tp u_td u_fr u_to u_so u_wo u_fa u_bd u_nc b_nl u_co b_op b_ar u_le b_pi b_pa u_pd u_od b_ws b_hw z68 b_se b_re z69 z70 z71 u_ce (u_ho - z55) u_wy ((u_bt * (10 - z67)) / 10) u_ps b_pt u_tg u_sn b_ip u_ic b_ah b_be b_me u_wd b_tr b_ld u_st b_wn u_id)), (b_ro, (arI G 5740 v_ro)), (b_se, (arJ G 13 z72)), (b_re, (arJ G 400 z73))], rfl, ⟨0, z68, z69, z70, z71, (u_ho - z55), u_wy, ((u_bt * (10 - z67)) / 10), u_tg, z72, z73, ⟨by have zc_o_r : (0 : Int32).toInt = 0 := (by decide +kernel); omega, by have zc_o_r : (0 : Int32).toInt = 0 := (by decide +kernel); omega⟩, i_65, i_66, ⟨by omega, by omega⟩, h_u_wy, ⟨by omega, by omega⟩, rfl, rfl⟩, by rw [ht]; exact hP.sub [0, 1, 2, 3] rfl, hD.sub [0, 1, 2, 3] (by decide +kernel) rfl⟩, hS.F ht⟩) hS.2.2 dX12_turns_113
          ·
            have i_75 : u_ho.toInt < z55.toInt := g5_geN (a := u_ho.toInt) (b := z55.toInt) rfl rfl c_75
            refine lv_iconst (v := 0) hx hb dX12_turns_69 (by decide +kernel) ?_
            exact W.zret (v := 0) hx hb hr rfl (fun t ht hW => ⟨⟨0, [(b_o, (oc12 u_th u_sa b_rf b_ro b_im b_ke u_fd b_tp u_td u_fr u_to u_so u_wo u_fa u_bd u_nc b_nl u_co b_op b_ar u_le b_pi b_pa u_pd u_od b_ws b_hw z68 b_se b_re z69 z70 z71 u_ce u_ho u_wy u_bt u_ps b_pt u_tg u_sn b_ip u_ic b_ah b_be b_me u_wd b_tr b_ld u_st b_wn u_id)), (b_ro, (arI G 5740 v_ro)), (b_se, (arJ G 13 z72)), (b_re, (arJ G 400 z73))], rfl, ⟨0, z68, z69, z70, z71, u_ho, u_wy, u_bt, u_tg, z72, z73, ⟨by have zc_o_r : (0 : Int32).toInt = 0 := (by decide +kernel); omega, by have zc_o_r : (0 : Int32).toInt = 0 := (by decide +kernel); omega⟩, i_65, i_66, h_u_ho, h_u_wy, h_u_bt, rfl, rfl⟩, by rw [ht]; exact hP.sub [0, 1, 2, 3] rfl, hD.sub [0, 1, 2, 3] (by decide +kernel) rfl⟩, hS.F ht⟩) hS.2.2 dX12_turns_70
        ·
          have n_50 : gNe (u_wy.toInt) ((p_2.toInt % 4)) := by have z := g5_eqN (a := u_wy.toInt) (b := (p_2 - p_2 / 4 * 4).toInt) (by rfl) (by rfl) c_50; unfold gNe; omega
          refine lv_iconst (v := 0) hx hb dX12_turns_33 (by decide +kernel) ?_
          exact W.zret (v := 0) hx hb hr rfl (fun t ht hW => ⟨⟨0, [(b_o, (oc12 u_th u_sa b_rf b_ro b_im b_ke u_fd b_tp u_td u_fr u_to u_so u_wo u_fa u_bd u_nc b_nl u_co b_op b_ar u_le b_pi b_pa u_pd u_od b_ws b_hw z7 b_se b_re z8 z9 z10 u_ce u_ho u_wy u_bt u_ps b_pt u_tg u_sn b_ip u_ic b_ah b_be b_me u_wd b_tr b_ld u_st b_wn u_id)), (b_ro, (arI G 5740 v_ro)), (b_se, (arJ G 13 z11)), (b_re, (arJ G 400 z12))], rfl, ⟨0, z7, z8, z9, z10, u_ho, u_wy, u_bt, u_tg, z11, z12, ⟨by have zc_o_r : (0 : Int32).toInt = 0 := (by decide +kernel); omega, by have zc_o_r : (0 : Int32).toInt = 0 := (by decide +kernel); omega⟩, i_4, i_5, h_u_ho, h_u_wy, h_u_bt, rfl, rfl⟩, by rw [ht]; exact hP.sub [0, 1, 2, 3] rfl, hD.sub [0, 1, 2, 3] (by decide +kernel) rfl⟩, hS.F ht⟩) hS.2.2 dX12_turns_34
theorem dgX12_passes_0 : ∀ r ∈ ([(0, (.iconst 0, 1)), (1, (.istore_n 2, 1)), (2, (.iload_n 2, 1)), (3, (.aload_n 0, 1)), (4, (.getfield 13, 3)), (7, (.iconst 0, 1)), (8, (.iaload, 1)), (9, (.if_icmp .ge 59, 3)), (12, (.aload_n 0, 1)), (13, (.iload_n 2, 1)), (14, (.iconst 0, 1)), (15, (.invokevirtual 134, 3)), (18, (.aload_n 0, 1)), (19, (.getfield 349, 3)), (22, (.if_icmp .ne 40, 3)), (25, (.aload_n 0, 1)), (26, (.iload_n 2, 1)), (27, (.aload_n 0, 1)), (28, (.iload_n 2, 1)), (29, (.iconst 1, 1)), (30, (.invokevirtual 134, 3)), (33, (.aload_n 0, 1)), (34, (.iload_n 2, 1)), (35, (.iconst 2, 1)), (36, (.invokevirtual 134, 3)), (39, (.aload_n 0, 1)), (40, (.iload_n 2, 1)), (41, (.iconst 3, 1)), (42, (.invokevirtual 134, 3)), (45, (.aload_n 0, 1)), (46, (.iload_n 2, 1)), (47, (.iconst 4, 1)), (48, (.invokevirtual 134, 3)), (51, (.aload_n 0, 1)), (52, (.getfield 352, 3)), (55, (.invokestatic 387, 3)), (58, (.invokevirtual 390, 3)), (61, (.ireturn, 1)), (62, (.iinc 2 1, 3)), (65, (.goto (-63), 3))] : List (Nat × (Instr × Nat))), decode cX12_passes r.1 = .ok r.2 := by decide +kernel
theorem dX12_passes_0 : decode cX12_passes 0 = .ok (.iconst 0, 1) := dgX12_passes_0 (0, (.iconst 0, 1)) (List.mem_of_getElem? (i := 0) rfl)
theorem dX12_passes_1 : decode cX12_passes 1 = .ok (.istore_n 2, 1) := dgX12_passes_0 (1, (.istore_n 2, 1)) (List.mem_of_getElem? (i := 1) rfl)
theorem dX12_passes_2 : decode cX12_passes 2 = .ok (.iload_n 2, 1) := dgX12_passes_0 (2, (.iload_n 2, 1)) (List.mem_of_getElem? (i := 2) rfl)
theorem dX12_passes_3 : decode cX12_passes 3 = .ok (.aload_n 0, 1) := dgX12_passes_0 (3, (.aload_n 0, 1)) (List.mem_of_getElem? (i := 3) rfl)
theorem dX12_passes_4 : decode cX12_passes 4 = .ok (.getfield 13, 3) := dgX12_passes_0 (4, (.getfield 13, 3)) (List.mem_of_getElem? (i := 4) rfl)
theorem dX12_passes_7 : decode cX12_passes 7 = .ok (.iconst 0, 1) := dgX12_passes_0 (7, (.iconst 0, 1)) (List.mem_of_getElem? (i := 5) rfl)
theorem dX12_passes_8 : decode cX12_passes 8 = .ok (.iaload, 1) := dgX12_passes_0 (8, (.iaload, 1)) (List.mem_of_getElem? (i := 6) rfl)
theorem dX12_passes_9 : decode cX12_passes 9 = .ok (.if_icmp .ge 59, 3) := dgX12_passes_0 (9, (.if_icmp .ge 59, 3)) (List.mem_of_getElem? (i := 7) rfl)
theorem dX12_passes_12 : decode cX12_passes 12 = .ok (.aload_n 0, 1) := dgX12_passes_0 (12, (.aload_n 0, 1)) (List.mem_of_getElem? (i := 8) rfl)
theorem dX12_passes_13 : decode cX12_passes 13 = .ok (.iload_n 2, 1) := dgX12_passes_0 (13, (.iload_n 2, 1)) (List.mem_of_getElem? (i := 9) rfl)
theorem dX12_passes_14 : decode cX12_passes 14 = .ok (.iconst 0, 1) := dgX12_passes_0 (14, (.iconst 0, 1)) (List.mem_of_getElem? (i := 10) rfl)
theorem dX12_passes_15 : decode cX12_passes 15 = .ok (.invokevirtual 134, 3) := dgX12_passes_0 (15, (.invokevirtual 134, 3)) (List.mem_of_getElem? (i := 11) rfl)
theorem dX12_passes_18 : decode cX12_passes 18 = .ok (.aload_n 0, 1) := dgX12_passes_0 (18, (.aload_n 0, 1)) (List.mem_of_getElem? (i := 12) rfl)
theorem dX12_passes_19 : decode cX12_passes 19 = .ok (.getfield 349, 3) := dgX12_passes_0 (19, (.getfield 349, 3)) (List.mem_of_getElem? (i := 13) rfl)
theorem dX12_passes_22 : decode cX12_passes 22 = .ok (.if_icmp .ne 40, 3) := dgX12_passes_0 (22, (.if_icmp .ne 40, 3)) (List.mem_of_getElem? (i := 14) rfl)
theorem dX12_passes_25 : decode cX12_passes 25 = .ok (.aload_n 0, 1) := dgX12_passes_0 (25, (.aload_n 0, 1)) (List.mem_of_getElem? (i := 15) rfl)
theorem dX12_passes_26 : decode cX12_passes 26 = .ok (.iload_n 2, 1) := dgX12_passes_0 (26, (.iload_n 2, 1)) (List.mem_of_getElem? (i := 16) rfl)
theorem dX12_passes_27 : decode cX12_passes 27 = .ok (.aload_n 0, 1) := dgX12_passes_0 (27, (.aload_n 0, 1)) (List.mem_of_getElem? (i := 17) rfl)
theorem dX12_passes_28 : decode cX12_passes 28 = .ok (.iload_n 2, 1) := dgX12_passes_0 (28, (.iload_n 2, 1)) (List.mem_of_getElem? (i := 18) rfl)
theorem dX12_passes_29 : decode cX12_passes 29 = .ok (.iconst 1, 1) := dgX12_passes_0 (29, (.iconst 1, 1)) (List.mem_of_getElem? (i := 19) rfl)
theorem dX12_passes_30 : decode cX12_passes 30 = .ok (.invokevirtual 134, 3) := dgX12_passes_0 (30, (.invokevirtual 134, 3)) (List.mem_of_getElem? (i := 20) rfl)
theorem dX12_passes_33 : decode cX12_passes 33 = .ok (.aload_n 0, 1) := dgX12_passes_0 (33, (.aload_n 0, 1)) (List.mem_of_getElem? (i := 21) rfl)
theorem dX12_passes_34 : decode cX12_passes 34 = .ok (.iload_n 2, 1) := dgX12_passes_0 (34, (.iload_n 2, 1)) (List.mem_of_getElem? (i := 22) rfl)
theorem dX12_passes_35 : decode cX12_passes 35 = .ok (.iconst 2, 1) := dgX12_passes_0 (35, (.iconst 2, 1)) (List.mem_of_getElem? (i := 23) rfl)
theorem dX12_passes_36 : decode cX12_passes 36 = .ok (.invokevirtual 134, 3) := dgX12_passes_0 (36, (.invokevirtual 134, 3)) (List.mem_of_getElem? (i := 24) rfl)
theorem dX12_passes_39 : decode cX12_passes 39 = .ok (.aload_n 0, 1) := dgX12_passes_0 (39, (.aload_n 0, 1)) (List.mem_of_getElem? (i := 25) rfl)
theorem dX12_passes_40 : decode cX12_passes 40 = .ok (.iload_n 2, 1) := dgX12_passes_0 (40, (.iload_n 2, 1)) (List.mem_of_getElem? (i := 26) rfl)
theorem dX12_passes_41 : decode cX12_passes 41 = .ok (.iconst 3, 1) := dgX12_passes_0 (41, (.iconst 3, 1)) (List.mem_of_getElem? (i := 27) rfl)
theorem dX12_passes_42 : decode cX12_passes 42 = .ok (.invokevirtual 134, 3) := dgX12_passes_0 (42, (.invokevirtual 134, 3)) (List.mem_of_getElem? (i := 28) rfl)
theorem dX12_passes_45 : decode cX12_passes 45 = .ok (.aload_n 0, 1) := dgX12_passes_0 (45, (.aload_n 0, 1)) (List.mem_of_getElem? (i := 29) rfl)
theorem dX12_passes_46 : decode cX12_passes 46 = .ok (.iload_n 2, 1) := dgX12_passes_0 (46, (.iload_n 2, 1)) (List.mem_of_getElem? (i := 30) rfl)
theorem dX12_passes_47 : decode cX12_passes 47 = .ok (.iconst 4, 1) := dgX12_passes_0 (47, (.iconst 4, 1)) (List.mem_of_getElem? (i := 31) rfl)
theorem dX12_passes_48 : decode cX12_passes 48 = .ok (.invokevirtual 134, 3) := dgX12_passes_0 (48, (.invokevirtual 134, 3)) (List.mem_of_getElem? (i := 32) rfl)
theorem dX12_passes_51 : decode cX12_passes 51 = .ok (.aload_n 0, 1) := dgX12_passes_0 (51, (.aload_n 0, 1)) (List.mem_of_getElem? (i := 33) rfl)
theorem dX12_passes_52 : decode cX12_passes 52 = .ok (.getfield 352, 3) := dgX12_passes_0 (52, (.getfield 352, 3)) (List.mem_of_getElem? (i := 34) rfl)
theorem dX12_passes_55 : decode cX12_passes 55 = .ok (.invokestatic 387, 3) := dgX12_passes_0 (55, (.invokestatic 387, 3)) (List.mem_of_getElem? (i := 35) rfl)
theorem dX12_passes_58 : decode cX12_passes 58 = .ok (.invokevirtual 390, 3) := dgX12_passes_0 (58, (.invokevirtual 390, 3)) (List.mem_of_getElem? (i := 36) rfl)
theorem dX12_passes_61 : decode cX12_passes 61 = .ok (.ireturn, 1) := dgX12_passes_0 (61, (.ireturn, 1)) (List.mem_of_getElem? (i := 37) rfl)
theorem dX12_passes_62 : decode cX12_passes 62 = .ok (.iinc 2 1, 3) := dgX12_passes_0 (62, (.iinc 2 1, 3)) (List.mem_of_getElem? (i := 38) rfl)
theorem dX12_passes_65 : decode cX12_passes 65 = .ok (.goto (-63), 3) := dgX12_passes_0 (65, (.goto (-63), 3)) (List.mem_of_getElem? (i := 39) rfl)
theorem dgX12_passes_1 : ∀ r ∈ ([(68, (.iconst 0, 1)), (69, (.istore_n 2, 1)), (70, (.iload_n 2, 1)), (71, (.aload_n 0, 1)), (72, (.getfield 13, 3)), (75, (.bipush 7, 2)), (77, (.iaload, 1)), (78, (.if_icmp .ge 75, 3)), (81, (.iload_n 1, 1)), (82, (.iload_n 2, 1)), (83, (.invokestatic 387, 3)), (86, (.ifCond .eq 61, 3)), (89, (.aload_n 0, 1)), (90, (.getfield 13, 3)), (93, (.sipush 270, 3)), (96, (.iconst 3, 1)), (97, (.iload_n 2, 1)), (98, (.imul, 1)), (99, (.iadd, 1)), (100, (.iaload, 1)), (101, (.aload_n 0, 1)), (102, (.getfield 349, 3)), (105, (.if_icmp .ne 42, 3)), (108, (.aload_n 0, 1)), (109, (.bipush 6, 2)), (111, (.iload_n 2, 1)), (112, (.iadd, 1)), (113, (.aload_n 0, 1)), (114, (.getfield 13, 3)), (117, (.sipush 270, 3)), (120, (.iconst 3, 1)), (121, (.iload_n 2, 1)), (122, (.imul, 1)), (123, (.iadd, 1)), (124, (.iconst 1, 1)), (125, (.iadd, 1)), (126, (.iaload, 1)), (127, (.aload_n 0, 1)), (128, (.getfield 13, 3)), (131, (.sipush 270, 3))] : List (Nat × (Instr × Nat))), decode cX12_passes r.1 = .ok r.2 := by decide +kernel
theorem dX12_passes_68 : decode cX12_passes 68 = .ok (.iconst 0, 1) := dgX12_passes_1 (68, (.iconst 0, 1)) (List.mem_of_getElem? (i := 0) rfl)
theorem dX12_passes_69 : decode cX12_passes 69 = .ok (.istore_n 2, 1) := dgX12_passes_1 (69, (.istore_n 2, 1)) (List.mem_of_getElem? (i := 1) rfl)
theorem dX12_passes_70 : decode cX12_passes 70 = .ok (.iload_n 2, 1) := dgX12_passes_1 (70, (.iload_n 2, 1)) (List.mem_of_getElem? (i := 2) rfl)
theorem dX12_passes_71 : decode cX12_passes 71 = .ok (.aload_n 0, 1) := dgX12_passes_1 (71, (.aload_n 0, 1)) (List.mem_of_getElem? (i := 3) rfl)
theorem dX12_passes_72 : decode cX12_passes 72 = .ok (.getfield 13, 3) := dgX12_passes_1 (72, (.getfield 13, 3)) (List.mem_of_getElem? (i := 4) rfl)
theorem dX12_passes_75 : decode cX12_passes 75 = .ok (.bipush 7, 2) := dgX12_passes_1 (75, (.bipush 7, 2)) (List.mem_of_getElem? (i := 5) rfl)
theorem dX12_passes_77 : decode cX12_passes 77 = .ok (.iaload, 1) := dgX12_passes_1 (77, (.iaload, 1)) (List.mem_of_getElem? (i := 6) rfl)
theorem dX12_passes_78 : decode cX12_passes 78 = .ok (.if_icmp .ge 75, 3) := dgX12_passes_1 (78, (.if_icmp .ge 75, 3)) (List.mem_of_getElem? (i := 7) rfl)
theorem dX12_passes_81 : decode cX12_passes 81 = .ok (.iload_n 1, 1) := dgX12_passes_1 (81, (.iload_n 1, 1)) (List.mem_of_getElem? (i := 8) rfl)
theorem dX12_passes_82 : decode cX12_passes 82 = .ok (.iload_n 2, 1) := dgX12_passes_1 (82, (.iload_n 2, 1)) (List.mem_of_getElem? (i := 9) rfl)
theorem dX12_passes_83 : decode cX12_passes 83 = .ok (.invokestatic 387, 3) := dgX12_passes_1 (83, (.invokestatic 387, 3)) (List.mem_of_getElem? (i := 10) rfl)
theorem dX12_passes_86 : decode cX12_passes 86 = .ok (.ifCond .eq 61, 3) := dgX12_passes_1 (86, (.ifCond .eq 61, 3)) (List.mem_of_getElem? (i := 11) rfl)
theorem dX12_passes_89 : decode cX12_passes 89 = .ok (.aload_n 0, 1) := dgX12_passes_1 (89, (.aload_n 0, 1)) (List.mem_of_getElem? (i := 12) rfl)
theorem dX12_passes_90 : decode cX12_passes 90 = .ok (.getfield 13, 3) := dgX12_passes_1 (90, (.getfield 13, 3)) (List.mem_of_getElem? (i := 13) rfl)
theorem dX12_passes_93 : decode cX12_passes 93 = .ok (.sipush 270, 3) := dgX12_passes_1 (93, (.sipush 270, 3)) (List.mem_of_getElem? (i := 14) rfl)
theorem dX12_passes_96 : decode cX12_passes 96 = .ok (.iconst 3, 1) := dgX12_passes_1 (96, (.iconst 3, 1)) (List.mem_of_getElem? (i := 15) rfl)
theorem dX12_passes_97 : decode cX12_passes 97 = .ok (.iload_n 2, 1) := dgX12_passes_1 (97, (.iload_n 2, 1)) (List.mem_of_getElem? (i := 16) rfl)
theorem dX12_passes_98 : decode cX12_passes 98 = .ok (.imul, 1) := dgX12_passes_1 (98, (.imul, 1)) (List.mem_of_getElem? (i := 17) rfl)
theorem dX12_passes_99 : decode cX12_passes 99 = .ok (.iadd, 1) := dgX12_passes_1 (99, (.iadd, 1)) (List.mem_of_getElem? (i := 18) rfl)
theorem dX12_passes_100 : decode cX12_passes 100 = .ok (.iaload, 1) := dgX12_passes_1 (100, (.iaload, 1)) (List.mem_of_getElem? (i := 19) rfl)
theorem dX12_passes_101 : decode cX12_passes 101 = .ok (.aload_n 0, 1) := dgX12_passes_1 (101, (.aload_n 0, 1)) (List.mem_of_getElem? (i := 20) rfl)
theorem dX12_passes_102 : decode cX12_passes 102 = .ok (.getfield 349, 3) := dgX12_passes_1 (102, (.getfield 349, 3)) (List.mem_of_getElem? (i := 21) rfl)
theorem dX12_passes_105 : decode cX12_passes 105 = .ok (.if_icmp .ne 42, 3) := dgX12_passes_1 (105, (.if_icmp .ne 42, 3)) (List.mem_of_getElem? (i := 22) rfl)
theorem dX12_passes_108 : decode cX12_passes 108 = .ok (.aload_n 0, 1) := dgX12_passes_1 (108, (.aload_n 0, 1)) (List.mem_of_getElem? (i := 23) rfl)
theorem dX12_passes_109 : decode cX12_passes 109 = .ok (.bipush 6, 2) := dgX12_passes_1 (109, (.bipush 6, 2)) (List.mem_of_getElem? (i := 24) rfl)
theorem dX12_passes_111 : decode cX12_passes 111 = .ok (.iload_n 2, 1) := dgX12_passes_1 (111, (.iload_n 2, 1)) (List.mem_of_getElem? (i := 25) rfl)
theorem dX12_passes_112 : decode cX12_passes 112 = .ok (.iadd, 1) := dgX12_passes_1 (112, (.iadd, 1)) (List.mem_of_getElem? (i := 26) rfl)
theorem dX12_passes_113 : decode cX12_passes 113 = .ok (.aload_n 0, 1) := dgX12_passes_1 (113, (.aload_n 0, 1)) (List.mem_of_getElem? (i := 27) rfl)
theorem dX12_passes_114 : decode cX12_passes 114 = .ok (.getfield 13, 3) := dgX12_passes_1 (114, (.getfield 13, 3)) (List.mem_of_getElem? (i := 28) rfl)
theorem dX12_passes_117 : decode cX12_passes 117 = .ok (.sipush 270, 3) := dgX12_passes_1 (117, (.sipush 270, 3)) (List.mem_of_getElem? (i := 29) rfl)
theorem dX12_passes_120 : decode cX12_passes 120 = .ok (.iconst 3, 1) := dgX12_passes_1 (120, (.iconst 3, 1)) (List.mem_of_getElem? (i := 30) rfl)
theorem dX12_passes_121 : decode cX12_passes 121 = .ok (.iload_n 2, 1) := dgX12_passes_1 (121, (.iload_n 2, 1)) (List.mem_of_getElem? (i := 31) rfl)
theorem dX12_passes_122 : decode cX12_passes 122 = .ok (.imul, 1) := dgX12_passes_1 (122, (.imul, 1)) (List.mem_of_getElem? (i := 32) rfl)
theorem dX12_passes_123 : decode cX12_passes 123 = .ok (.iadd, 1) := dgX12_passes_1 (123, (.iadd, 1)) (List.mem_of_getElem? (i := 33) rfl)
theorem dX12_passes_124 : decode cX12_passes 124 = .ok (.iconst 1, 1) := dgX12_passes_1 (124, (.iconst 1, 1)) (List.mem_of_getElem? (i := 34) rfl)
theorem dX12_passes_125 : decode cX12_passes 125 = .ok (.iadd, 1) := dgX12_passes_1 (125, (.iadd, 1)) (List.mem_of_getElem? (i := 35) rfl)
theorem dX12_passes_126 : decode cX12_passes 126 = .ok (.iaload, 1) := dgX12_passes_1 (126, (.iaload, 1)) (List.mem_of_getElem? (i := 36) rfl)
theorem dX12_passes_127 : decode cX12_passes 127 = .ok (.aload_n 0, 1) := dgX12_passes_1 (127, (.aload_n 0, 1)) (List.mem_of_getElem? (i := 37) rfl)
theorem dX12_passes_128 : decode cX12_passes 128 = .ok (.getfield 13, 3) := dgX12_passes_1 (128, (.getfield 13, 3)) (List.mem_of_getElem? (i := 38) rfl)
theorem dX12_passes_131 : decode cX12_passes 131 = .ok (.sipush 270, 3) := dgX12_passes_1 (131, (.sipush 270, 3)) (List.mem_of_getElem? (i := 39) rfl)
