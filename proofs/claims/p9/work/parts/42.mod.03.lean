theorem dgX12_start_0 : ∀ r ∈ ([(0, (.aload_n 0, 1)), (1, (.iconst 0, 1)), (2, (.putfield 107, 3)), (5, (.iload_n 1, 1)), (6, (.i2l, 1)), (7, (.ldc2_w 178, 3)), (10, (.ldc2_w 128, 3)), (13, (.invokestatic 121, 3)), (16, (.ifCond .ne 9, 3)), (19, (.aload_n 0, 1)), (20, (.iconst (-1), 1)), (21, (.invokevirtual 125, 3)), (24, (.ireturn, 1)), (25, (.iload_n 1, 1)), (26, (.iconst (-1), 1)), (27, (.if_icmp .eq 29, 3)), (30, (.aload_n 0, 1)), (31, (.iload_n 1, 1)), (32, (.iconst (-1), 1)), (33, (.if_icmp .ne 7, 3)), (36, (.iconst 0, 1)), (37, (.goto 4, 3)), (40, (.iload_n 1, 1)), (41, (.invokevirtual 160, 3)), (44, (.ifCond .eq 12, 3)), (47, (.aload_n 0, 1)), (48, (.bipush (-3), 2)), (50, (.invokevirtual 125, 3)), (53, (.goto 10, 3)), (56, (.aload_n 0, 1)), (57, (.bipush 6, 2)), (59, (.iload_n 1, 1)), (60, (.invokevirtual 151, 3)), (63, (.ireturn, 1))] : List (Nat × (Instr × Nat))), decode cX12_start r.1 = .ok r.2 := by decide +kernel
theorem dX12_start_0 : decode cX12_start 0 = .ok (.aload_n 0, 1) := dgX12_start_0 (0, (.aload_n 0, 1)) (List.mem_of_getElem? (i := 0) rfl)
theorem dX12_start_1 : decode cX12_start 1 = .ok (.iconst 0, 1) := dgX12_start_0 (1, (.iconst 0, 1)) (List.mem_of_getElem? (i := 1) rfl)
theorem dX12_start_2 : decode cX12_start 2 = .ok (.putfield 107, 3) := dgX12_start_0 (2, (.putfield 107, 3)) (List.mem_of_getElem? (i := 2) rfl)
theorem dX12_start_5 : decode cX12_start 5 = .ok (.iload_n 1, 1) := dgX12_start_0 (5, (.iload_n 1, 1)) (List.mem_of_getElem? (i := 3) rfl)
theorem dX12_start_6 : decode cX12_start 6 = .ok (.i2l, 1) := dgX12_start_0 (6, (.i2l, 1)) (List.mem_of_getElem? (i := 4) rfl)
theorem dX12_start_7 : decode cX12_start 7 = .ok (.ldc2_w 178, 3) := dgX12_start_0 (7, (.ldc2_w 178, 3)) (List.mem_of_getElem? (i := 5) rfl)
theorem dX12_start_10 : decode cX12_start 10 = .ok (.ldc2_w 128, 3) := dgX12_start_0 (10, (.ldc2_w 128, 3)) (List.mem_of_getElem? (i := 6) rfl)
theorem dX12_start_13 : decode cX12_start 13 = .ok (.invokestatic 121, 3) := dgX12_start_0 (13, (.invokestatic 121, 3)) (List.mem_of_getElem? (i := 7) rfl)
theorem dX12_start_16 : decode cX12_start 16 = .ok (.ifCond .ne 9, 3) := dgX12_start_0 (16, (.ifCond .ne 9, 3)) (List.mem_of_getElem? (i := 8) rfl)
theorem dX12_start_19 : decode cX12_start 19 = .ok (.aload_n 0, 1) := dgX12_start_0 (19, (.aload_n 0, 1)) (List.mem_of_getElem? (i := 9) rfl)
theorem dX12_start_20 : decode cX12_start 20 = .ok (.iconst (-1), 1) := dgX12_start_0 (20, (.iconst (-1), 1)) (List.mem_of_getElem? (i := 10) rfl)
theorem dX12_start_21 : decode cX12_start 21 = .ok (.invokevirtual 125, 3) := dgX12_start_0 (21, (.invokevirtual 125, 3)) (List.mem_of_getElem? (i := 11) rfl)
theorem dX12_start_24 : decode cX12_start 24 = .ok (.ireturn, 1) := dgX12_start_0 (24, (.ireturn, 1)) (List.mem_of_getElem? (i := 12) rfl)
theorem dX12_start_25 : decode cX12_start 25 = .ok (.iload_n 1, 1) := dgX12_start_0 (25, (.iload_n 1, 1)) (List.mem_of_getElem? (i := 13) rfl)
theorem dX12_start_26 : decode cX12_start 26 = .ok (.iconst (-1), 1) := dgX12_start_0 (26, (.iconst (-1), 1)) (List.mem_of_getElem? (i := 14) rfl)
theorem dX12_start_27 : decode cX12_start 27 = .ok (.if_icmp .eq 29, 3) := dgX12_start_0 (27, (.if_icmp .eq 29, 3)) (List.mem_of_getElem? (i := 15) rfl)
theorem dX12_start_30 : decode cX12_start 30 = .ok (.aload_n 0, 1) := dgX12_start_0 (30, (.aload_n 0, 1)) (List.mem_of_getElem? (i := 16) rfl)
theorem dX12_start_31 : decode cX12_start 31 = .ok (.iload_n 1, 1) := dgX12_start_0 (31, (.iload_n 1, 1)) (List.mem_of_getElem? (i := 17) rfl)
theorem dX12_start_32 : decode cX12_start 32 = .ok (.iconst (-1), 1) := dgX12_start_0 (32, (.iconst (-1), 1)) (List.mem_of_getElem? (i := 18) rfl)
theorem dX12_start_33 : decode cX12_start 33 = .ok (.if_icmp .ne 7, 3) := dgX12_start_0 (33, (.if_icmp .ne 7, 3)) (List.mem_of_getElem? (i := 19) rfl)
theorem dX12_start_40 : decode cX12_start 40 = .ok (.iload_n 1, 1) := dgX12_start_0 (40, (.iload_n 1, 1)) (List.mem_of_getElem? (i := 22) rfl)
theorem dX12_start_41 : decode cX12_start 41 = .ok (.invokevirtual 160, 3) := dgX12_start_0 (41, (.invokevirtual 160, 3)) (List.mem_of_getElem? (i := 23) rfl)
theorem dX12_start_44 : decode cX12_start 44 = .ok (.ifCond .eq 12, 3) := dgX12_start_0 (44, (.ifCond .eq 12, 3)) (List.mem_of_getElem? (i := 24) rfl)
theorem dX12_start_47 : decode cX12_start 47 = .ok (.aload_n 0, 1) := dgX12_start_0 (47, (.aload_n 0, 1)) (List.mem_of_getElem? (i := 25) rfl)
theorem dX12_start_48 : decode cX12_start 48 = .ok (.bipush (-3), 2) := dgX12_start_0 (48, (.bipush (-3), 2)) (List.mem_of_getElem? (i := 26) rfl)
theorem dX12_start_50 : decode cX12_start 50 = .ok (.invokevirtual 125, 3) := dgX12_start_0 (50, (.invokevirtual 125, 3)) (List.mem_of_getElem? (i := 27) rfl)
theorem dX12_start_53 : decode cX12_start 53 = .ok (.goto 10, 3) := dgX12_start_0 (53, (.goto 10, 3)) (List.mem_of_getElem? (i := 28) rfl)
theorem dX12_start_56 : decode cX12_start 56 = .ok (.aload_n 0, 1) := dgX12_start_0 (56, (.aload_n 0, 1)) (List.mem_of_getElem? (i := 29) rfl)
theorem dX12_start_57 : decode cX12_start 57 = .ok (.bipush 6, 2) := dgX12_start_0 (57, (.bipush 6, 2)) (List.mem_of_getElem? (i := 30) rfl)
theorem dX12_start_59 : decode cX12_start 59 = .ok (.iload_n 1, 1) := dgX12_start_0 (59, (.iload_n 1, 1)) (List.mem_of_getElem? (i := 31) rfl)
theorem dX12_start_60 : decode cX12_start 60 = .ok (.invokevirtual 151, 3) := dgX12_start_0 (60, (.invokevirtual 151, 3)) (List.mem_of_getElem? (i := 32) rfl)
theorem dX12_start_63 : decode cX12_start 63 = .ok (.ireturn, 1) := dgX12_start_0 (63, (.ireturn, 1)) (List.mem_of_getElem? (i := 33) rfl)
theorem dgX12_count_0 : ∀ r ∈ ([(0, (.aload_n 0, 1)), (1, (.iconst 0, 1)), (2, (.putfield 107, 3)), (5, (.iconst 0, 1)), (6, (.istore_n 2, 1)), (7, (.iconst 0, 1)), (8, (.istore_n 3, 1)), (9, (.iload_n 3, 1)), (10, (.bipush 64, 2)), (12, (.if_icmp .ge 21, 3)), (15, (.iload_n 2, 1)), (16, (.aload_n 0, 1)), (17, (.getfield 13, 3)), (20, (.bipush 10, 2)), (22, (.iload_n 3, 1)), (23, (.iadd, 1)), (24, (.iaload, 1)), (25, (.iadd, 1)), (26, (.istore_n 2, 1)), (27, (.iinc 3 1, 3)), (30, (.goto (-21), 3)), (33, (.iload_n 1, 1)), (34, (.tableswitch 164 0 13 #[70, 77, 84, 91, 98, 106, 114, 116, 121, 128, 135, 142, 149, 157], 70)), (104, (.aload_n 0, 1)), (105, (.getfield 13, 3)), (108, (.iconst 0, 1)), (109, (.iaload, 1)), (110, (.ireturn, 1)), (111, (.aload_n 0, 1)), (112, (.getfield 13, 3)), (115, (.iconst 1, 1)), (116, (.iaload, 1)), (117, (.ireturn, 1)), (118, (.aload_n 0, 1)), (119, (.getfield 13, 3)), (122, (.iconst 2, 1)), (123, (.iaload, 1)), (124, (.ireturn, 1)), (125, (.aload_n 0, 1)), (126, (.getfield 13, 3))] : List (Nat × (Instr × Nat))), decode cX12_count r.1 = .ok r.2 := by decide +kernel
theorem dX12_count_0 : decode cX12_count 0 = .ok (.aload_n 0, 1) := dgX12_count_0 (0, (.aload_n 0, 1)) (List.mem_of_getElem? (i := 0) rfl)
theorem dX12_count_1 : decode cX12_count 1 = .ok (.iconst 0, 1) := dgX12_count_0 (1, (.iconst 0, 1)) (List.mem_of_getElem? (i := 1) rfl)
theorem dX12_count_2 : decode cX12_count 2 = .ok (.putfield 107, 3) := dgX12_count_0 (2, (.putfield 107, 3)) (List.mem_of_getElem? (i := 2) rfl)
theorem dX12_count_5 : decode cX12_count 5 = .ok (.iconst 0, 1) := dgX12_count_0 (5, (.iconst 0, 1)) (List.mem_of_getElem? (i := 3) rfl)
theorem dX12_count_6 : decode cX12_count 6 = .ok (.istore_n 2, 1) := dgX12_count_0 (6, (.istore_n 2, 1)) (List.mem_of_getElem? (i := 4) rfl)
theorem dX12_count_7 : decode cX12_count 7 = .ok (.iconst 0, 1) := dgX12_count_0 (7, (.iconst 0, 1)) (List.mem_of_getElem? (i := 5) rfl)
theorem dX12_count_8 : decode cX12_count 8 = .ok (.istore_n 3, 1) := dgX12_count_0 (8, (.istore_n 3, 1)) (List.mem_of_getElem? (i := 6) rfl)
theorem dX12_count_9 : decode cX12_count 9 = .ok (.iload_n 3, 1) := dgX12_count_0 (9, (.iload_n 3, 1)) (List.mem_of_getElem? (i := 7) rfl)
theorem dX12_count_10 : decode cX12_count 10 = .ok (.bipush 64, 2) := dgX12_count_0 (10, (.bipush 64, 2)) (List.mem_of_getElem? (i := 8) rfl)
theorem dX12_count_12 : decode cX12_count 12 = .ok (.if_icmp .ge 21, 3) := dgX12_count_0 (12, (.if_icmp .ge 21, 3)) (List.mem_of_getElem? (i := 9) rfl)
theorem dX12_count_15 : decode cX12_count 15 = .ok (.iload_n 2, 1) := dgX12_count_0 (15, (.iload_n 2, 1)) (List.mem_of_getElem? (i := 10) rfl)
theorem dX12_count_16 : decode cX12_count 16 = .ok (.aload_n 0, 1) := dgX12_count_0 (16, (.aload_n 0, 1)) (List.mem_of_getElem? (i := 11) rfl)
theorem dX12_count_17 : decode cX12_count 17 = .ok (.getfield 13, 3) := dgX12_count_0 (17, (.getfield 13, 3)) (List.mem_of_getElem? (i := 12) rfl)
theorem dX12_count_20 : decode cX12_count 20 = .ok (.bipush 10, 2) := dgX12_count_0 (20, (.bipush 10, 2)) (List.mem_of_getElem? (i := 13) rfl)
theorem dX12_count_22 : decode cX12_count 22 = .ok (.iload_n 3, 1) := dgX12_count_0 (22, (.iload_n 3, 1)) (List.mem_of_getElem? (i := 14) rfl)
theorem dX12_count_23 : decode cX12_count 23 = .ok (.iadd, 1) := dgX12_count_0 (23, (.iadd, 1)) (List.mem_of_getElem? (i := 15) rfl)
theorem dX12_count_24 : decode cX12_count 24 = .ok (.iaload, 1) := dgX12_count_0 (24, (.iaload, 1)) (List.mem_of_getElem? (i := 16) rfl)
theorem dX12_count_25 : decode cX12_count 25 = .ok (.iadd, 1) := dgX12_count_0 (25, (.iadd, 1)) (List.mem_of_getElem? (i := 17) rfl)
theorem dX12_count_26 : decode cX12_count 26 = .ok (.istore_n 2, 1) := dgX12_count_0 (26, (.istore_n 2, 1)) (List.mem_of_getElem? (i := 18) rfl)
theorem dX12_count_27 : decode cX12_count 27 = .ok (.iinc 3 1, 3) := dgX12_count_0 (27, (.iinc 3 1, 3)) (List.mem_of_getElem? (i := 19) rfl)
theorem dX12_count_30 : decode cX12_count 30 = .ok (.goto (-21), 3) := dgX12_count_0 (30, (.goto (-21), 3)) (List.mem_of_getElem? (i := 20) rfl)
theorem dX12_count_33 : decode cX12_count 33 = .ok (.iload_n 1, 1) := dgX12_count_0 (33, (.iload_n 1, 1)) (List.mem_of_getElem? (i := 21) rfl)
theorem dX12_count_34 : decode cX12_count 34 = .ok (.tableswitch 164 0 13 #[70, 77, 84, 91, 98, 106, 114, 116, 121, 128, 135, 142, 149, 157], 70) := dgX12_count_0 (34, (.tableswitch 164 0 13 #[70, 77, 84, 91, 98, 106, 114, 116, 121, 128, 135, 142, 149, 157], 70)) (List.mem_of_getElem? (i := 22) rfl)
theorem dX12_count_104 : decode cX12_count 104 = .ok (.aload_n 0, 1) := dgX12_count_0 (104, (.aload_n 0, 1)) (List.mem_of_getElem? (i := 23) rfl)
theorem dX12_count_105 : decode cX12_count 105 = .ok (.getfield 13, 3) := dgX12_count_0 (105, (.getfield 13, 3)) (List.mem_of_getElem? (i := 24) rfl)
theorem dX12_count_108 : decode cX12_count 108 = .ok (.iconst 0, 1) := dgX12_count_0 (108, (.iconst 0, 1)) (List.mem_of_getElem? (i := 25) rfl)
theorem dX12_count_109 : decode cX12_count 109 = .ok (.iaload, 1) := dgX12_count_0 (109, (.iaload, 1)) (List.mem_of_getElem? (i := 26) rfl)
theorem dX12_count_110 : decode cX12_count 110 = .ok (.ireturn, 1) := dgX12_count_0 (110, (.ireturn, 1)) (List.mem_of_getElem? (i := 27) rfl)
theorem dX12_count_111 : decode cX12_count 111 = .ok (.aload_n 0, 1) := dgX12_count_0 (111, (.aload_n 0, 1)) (List.mem_of_getElem? (i := 28) rfl)
theorem dX12_count_112 : decode cX12_count 112 = .ok (.getfield 13, 3) := dgX12_count_0 (112, (.getfield 13, 3)) (List.mem_of_getElem? (i := 29) rfl)
theorem dX12_count_115 : decode cX12_count 115 = .ok (.iconst 1, 1) := dgX12_count_0 (115, (.iconst 1, 1)) (List.mem_of_getElem? (i := 30) rfl)
theorem dX12_count_116 : decode cX12_count 116 = .ok (.iaload, 1) := dgX12_count_0 (116, (.iaload, 1)) (List.mem_of_getElem? (i := 31) rfl)
theorem dX12_count_117 : decode cX12_count 117 = .ok (.ireturn, 1) := dgX12_count_0 (117, (.ireturn, 1)) (List.mem_of_getElem? (i := 32) rfl)
theorem dX12_count_118 : decode cX12_count 118 = .ok (.aload_n 0, 1) := dgX12_count_0 (118, (.aload_n 0, 1)) (List.mem_of_getElem? (i := 33) rfl)
theorem dX12_count_119 : decode cX12_count 119 = .ok (.getfield 13, 3) := dgX12_count_0 (119, (.getfield 13, 3)) (List.mem_of_getElem? (i := 34) rfl)
theorem dX12_count_122 : decode cX12_count 122 = .ok (.iconst 2, 1) := dgX12_count_0 (122, (.iconst 2, 1)) (List.mem_of_getElem? (i := 35) rfl)
theorem dX12_count_123 : decode cX12_count 123 = .ok (.iaload, 1) := dgX12_count_0 (123, (.iaload, 1)) (List.mem_of_getElem? (i := 36) rfl)
theorem dX12_count_124 : decode cX12_count 124 = .ok (.ireturn, 1) := dgX12_count_0 (124, (.ireturn, 1)) (List.mem_of_getElem? (i := 37) rfl)
theorem dX12_count_125 : decode cX12_count 125 = .ok (.aload_n 0, 1) := dgX12_count_0 (125, (.aload_n 0, 1)) (List.mem_of_getElem? (i := 38) rfl)
theorem dX12_count_126 : decode cX12_count 126 = .ok (.getfield 13, 3) := dgX12_count_0 (126, (.getfield 13, 3)) (List.mem_of_getElem? (i := 39) rfl)
theorem dgX12_count_1 : ∀ r ∈ ([(129, (.iconst 5, 1)), (130, (.iaload, 1)), (131, (.ireturn, 1)), (132, (.aload_n 0, 1)), (133, (.getfield 13, 3)), (136, (.bipush 7, 2)), (138, (.iaload, 1)), (139, (.ireturn, 1)), (140, (.aload_n 0, 1)), (141, (.getfield 13, 3)), (144, (.bipush 8, 2)), (146, (.iaload, 1)), (147, (.ireturn, 1)), (148, (.iload_n 2, 1)), (149, (.ireturn, 1)), (150, (.aload_n 0, 1)), (151, (.getfield 192, 3)), (154, (.ireturn, 1)), (155, (.aload_n 0, 1)), (156, (.getfield 7, 3)), (159, (.iconst 1, 1)), (160, (.iaload, 1)), (161, (.ireturn, 1)), (162, (.aload_n 0, 1)), (163, (.getfield 7, 3)), (166, (.iconst 2, 1)), (167, (.iaload, 1)), (168, (.ireturn, 1)), (169, (.aload_n 0, 1)), (170, (.getfield 7, 3)), (173, (.iconst 3, 1)), (174, (.iaload, 1)), (175, (.ireturn, 1)), (176, (.aload_n 0, 1)), (177, (.getfield 7, 3)), (180, (.iconst 5, 1)), (181, (.iaload, 1)), (182, (.ireturn, 1)), (183, (.aload_n 0, 1)), (184, (.getfield 7, 3))] : List (Nat × (Instr × Nat))), decode cX12_count r.1 = .ok r.2 := by decide +kernel
theorem dX12_count_129 : decode cX12_count 129 = .ok (.iconst 5, 1) := dgX12_count_1 (129, (.iconst 5, 1)) (List.mem_of_getElem? (i := 0) rfl)
theorem dX12_count_130 : decode cX12_count 130 = .ok (.iaload, 1) := dgX12_count_1 (130, (.iaload, 1)) (List.mem_of_getElem? (i := 1) rfl)
theorem dX12_count_131 : decode cX12_count 131 = .ok (.ireturn, 1) := dgX12_count_1 (131, (.ireturn, 1)) (List.mem_of_getElem? (i := 2) rfl)
theorem dX12_count_132 : decode cX12_count 132 = .ok (.aload_n 0, 1) := dgX12_count_1 (132, (.aload_n 0, 1)) (List.mem_of_getElem? (i := 3) rfl)
theorem dX12_count_133 : decode cX12_count 133 = .ok (.getfield 13, 3) := dgX12_count_1 (133, (.getfield 13, 3)) (List.mem_of_getElem? (i := 4) rfl)
theorem dX12_count_136 : decode cX12_count 136 = .ok (.bipush 7, 2) := dgX12_count_1 (136, (.bipush 7, 2)) (List.mem_of_getElem? (i := 5) rfl)
theorem dX12_count_138 : decode cX12_count 138 = .ok (.iaload, 1) := dgX12_count_1 (138, (.iaload, 1)) (List.mem_of_getElem? (i := 6) rfl)
theorem dX12_count_139 : decode cX12_count 139 = .ok (.ireturn, 1) := dgX12_count_1 (139, (.ireturn, 1)) (List.mem_of_getElem? (i := 7) rfl)
theorem dX12_count_140 : decode cX12_count 140 = .ok (.aload_n 0, 1) := dgX12_count_1 (140, (.aload_n 0, 1)) (List.mem_of_getElem? (i := 8) rfl)
theorem dX12_count_141 : decode cX12_count 141 = .ok (.getfield 13, 3) := dgX12_count_1 (141, (.getfield 13, 3)) (List.mem_of_getElem? (i := 9) rfl)
theorem dX12_count_144 : decode cX12_count 144 = .ok (.bipush 8, 2) := dgX12_count_1 (144, (.bipush 8, 2)) (List.mem_of_getElem? (i := 10) rfl)
theorem dX12_count_146 : decode cX12_count 146 = .ok (.iaload, 1) := dgX12_count_1 (146, (.iaload, 1)) (List.mem_of_getElem? (i := 11) rfl)
theorem dX12_count_147 : decode cX12_count 147 = .ok (.ireturn, 1) := dgX12_count_1 (147, (.ireturn, 1)) (List.mem_of_getElem? (i := 12) rfl)
theorem dX12_count_148 : decode cX12_count 148 = .ok (.iload_n 2, 1) := dgX12_count_1 (148, (.iload_n 2, 1)) (List.mem_of_getElem? (i := 13) rfl)
theorem dX12_count_149 : decode cX12_count 149 = .ok (.ireturn, 1) := dgX12_count_1 (149, (.ireturn, 1)) (List.mem_of_getElem? (i := 14) rfl)
theorem dX12_count_150 : decode cX12_count 150 = .ok (.aload_n 0, 1) := dgX12_count_1 (150, (.aload_n 0, 1)) (List.mem_of_getElem? (i := 15) rfl)
theorem dX12_count_151 : decode cX12_count 151 = .ok (.getfield 192, 3) := dgX12_count_1 (151, (.getfield 192, 3)) (List.mem_of_getElem? (i := 16) rfl)
theorem dX12_count_154 : decode cX12_count 154 = .ok (.ireturn, 1) := dgX12_count_1 (154, (.ireturn, 1)) (List.mem_of_getElem? (i := 17) rfl)
theorem dX12_count_155 : decode cX12_count 155 = .ok (.aload_n 0, 1) := dgX12_count_1 (155, (.aload_n 0, 1)) (List.mem_of_getElem? (i := 18) rfl)
theorem dX12_count_156 : decode cX12_count 156 = .ok (.getfield 7, 3) := dgX12_count_1 (156, (.getfield 7, 3)) (List.mem_of_getElem? (i := 19) rfl)
theorem dX12_count_159 : decode cX12_count 159 = .ok (.iconst 1, 1) := dgX12_count_1 (159, (.iconst 1, 1)) (List.mem_of_getElem? (i := 20) rfl)
theorem dX12_count_160 : decode cX12_count 160 = .ok (.iaload, 1) := dgX12_count_1 (160, (.iaload, 1)) (List.mem_of_getElem? (i := 21) rfl)
theorem dX12_count_161 : decode cX12_count 161 = .ok (.ireturn, 1) := dgX12_count_1 (161, (.ireturn, 1)) (List.mem_of_getElem? (i := 22) rfl)
theorem dX12_count_162 : decode cX12_count 162 = .ok (.aload_n 0, 1) := dgX12_count_1 (162, (.aload_n 0, 1)) (List.mem_of_getElem? (i := 23) rfl)
theorem dX12_count_163 : decode cX12_count 163 = .ok (.getfield 7, 3) := dgX12_count_1 (163, (.getfield 7, 3)) (List.mem_of_getElem? (i := 24) rfl)
theorem dX12_count_166 : decode cX12_count 166 = .ok (.iconst 2, 1) := dgX12_count_1 (166, (.iconst 2, 1)) (List.mem_of_getElem? (i := 25) rfl)
theorem dX12_count_167 : decode cX12_count 167 = .ok (.iaload, 1) := dgX12_count_1 (167, (.iaload, 1)) (List.mem_of_getElem? (i := 26) rfl)
theorem dX12_count_168 : decode cX12_count 168 = .ok (.ireturn, 1) := dgX12_count_1 (168, (.ireturn, 1)) (List.mem_of_getElem? (i := 27) rfl)
theorem dX12_count_169 : decode cX12_count 169 = .ok (.aload_n 0, 1) := dgX12_count_1 (169, (.aload_n 0, 1)) (List.mem_of_getElem? (i := 28) rfl)
theorem dX12_count_170 : decode cX12_count 170 = .ok (.getfield 7, 3) := dgX12_count_1 (170, (.getfield 7, 3)) (List.mem_of_getElem? (i := 29) rfl)
theorem dX12_count_173 : decode cX12_count 173 = .ok (.iconst 3, 1) := dgX12_count_1 (173, (.iconst 3, 1)) (List.mem_of_getElem? (i := 30) rfl)
theorem dX12_count_174 : decode cX12_count 174 = .ok (.iaload, 1) := dgX12_count_1 (174, (.iaload, 1)) (List.mem_of_getElem? (i := 31) rfl)
theorem dX12_count_175 : decode cX12_count 175 = .ok (.ireturn, 1) := dgX12_count_1 (175, (.ireturn, 1)) (List.mem_of_getElem? (i := 32) rfl)
theorem dX12_count_176 : decode cX12_count 176 = .ok (.aload_n 0, 1) := dgX12_count_1 (176, (.aload_n 0, 1)) (List.mem_of_getElem? (i := 33) rfl)
theorem dX12_count_177 : decode cX12_count 177 = .ok (.getfield 7, 3) := dgX12_count_1 (177, (.getfield 7, 3)) (List.mem_of_getElem? (i := 34) rfl)
theorem dX12_count_180 : decode cX12_count 180 = .ok (.iconst 5, 1) := dgX12_count_1 (180, (.iconst 5, 1)) (List.mem_of_getElem? (i := 35) rfl)
theorem dX12_count_181 : decode cX12_count 181 = .ok (.iaload, 1) := dgX12_count_1 (181, (.iaload, 1)) (List.mem_of_getElem? (i := 36) rfl)
theorem dX12_count_182 : decode cX12_count 182 = .ok (.ireturn, 1) := dgX12_count_1 (182, (.ireturn, 1)) (List.mem_of_getElem? (i := 37) rfl)
theorem dX12_count_183 : decode cX12_count 183 = .ok (.aload_n 0, 1) := dgX12_count_1 (183, (.aload_n 0, 1)) (List.mem_of_getElem? (i := 38) rfl)
theorem dX12_count_184 : decode cX12_count 184 = .ok (.getfield 7, 3) := dgX12_count_1 (184, (.getfield 7, 3)) (List.mem_of_getElem? (i := 39) rfl)
theorem dgX12_count_2 : ∀ r ∈ ([(187, (.bipush 6, 2)), (189, (.iaload, 1)), (190, (.ireturn, 1)), (191, (.aload_n 0, 1)), (192, (.getfield 13, 3)), (195, (.iconst 3, 1)), (196, (.iaload, 1)), (197, (.ireturn, 1)), (198, (.iconst (-1), 1)), (199, (.ireturn, 1))] : List (Nat × (Instr × Nat))), decode cX12_count r.1 = .ok r.2 := by decide +kernel
theorem dX12_count_187 : decode cX12_count 187 = .ok (.bipush 6, 2) := dgX12_count_2 (187, (.bipush 6, 2)) (List.mem_of_getElem? (i := 0) rfl)
theorem dX12_count_189 : decode cX12_count 189 = .ok (.iaload, 1) := dgX12_count_2 (189, (.iaload, 1)) (List.mem_of_getElem? (i := 1) rfl)
theorem dX12_count_190 : decode cX12_count 190 = .ok (.ireturn, 1) := dgX12_count_2 (190, (.ireturn, 1)) (List.mem_of_getElem? (i := 2) rfl)
theorem dX12_count_191 : decode cX12_count 191 = .ok (.aload_n 0, 1) := dgX12_count_2 (191, (.aload_n 0, 1)) (List.mem_of_getElem? (i := 3) rfl)
theorem dX12_count_192 : decode cX12_count 192 = .ok (.getfield 13, 3) := dgX12_count_2 (192, (.getfield 13, 3)) (List.mem_of_getElem? (i := 4) rfl)
theorem dX12_count_195 : decode cX12_count 195 = .ok (.iconst 3, 1) := dgX12_count_2 (195, (.iconst 3, 1)) (List.mem_of_getElem? (i := 5) rfl)
theorem dX12_count_196 : decode cX12_count 196 = .ok (.iaload, 1) := dgX12_count_2 (196, (.iaload, 1)) (List.mem_of_getElem? (i := 6) rfl)
theorem dX12_count_197 : decode cX12_count 197 = .ok (.ireturn, 1) := dgX12_count_2 (197, (.ireturn, 1)) (List.mem_of_getElem? (i := 7) rfl)
theorem dX12_count_198 : decode cX12_count 198 = .ok (.iconst (-1), 1) := dgX12_count_2 (198, (.iconst (-1), 1)) (List.mem_of_getElem? (i := 8) rfl)
theorem dX12_count_199 : decode cX12_count 199 = .ok (.ireturn, 1) := dgX12_count_2 (199, (.ireturn, 1)) (List.mem_of_getElem? (i := 9) rfl)
set_option maxHeartbeats 4000000 in
set_option maxRecDepth 100000 in
theorem n_count (l : Launch) (G : g5_G) (b_o b_rf b_ro b_im b_ke b_tp b_nl b_op b_ar b_pi b_pa b_ws b_hw b_se b_re b_pt b_ip b_ah b_be b_me b_tr b_ld b_wn : Nat) (sz : Nat) (u_th : Int32) (u_sa : Int32) (u_fd : Int32) (u_td : Int32) (u_fr : Int32) (u_to : Int32) (u_so : Int32) (u_fa : Int32) (u_bd : Int32) (u_nc : Int32) (u_co : Int32) (u_le : Int32) (u_pd : Int32) (u_od : Int32) (u_la : Int32) (u_bk : Int32) (u_ce : Int32) (u_ho : Int32) (u_wy : Int32) (u_bt : Int32) (u_ps : Int32) (u_tg : Int32) (u_sn : Int32) (u_ic : Int32) (u_wd : Int32) (u_id : Int32) (p_1 : Int32) (u_wo : Int64) (u_va : Int64) (u_su : Int64) (u_st : Int64) (v_rf : Nat → Int32) (v_ro : Nat → Int32) (h_u_td : 0 ≤ u_td.toInt ∧ u_td.toInt ≤ 400) (h_u_fr : 0 ≤ u_fr.toInt ∧ u_fr.toInt ≤ 400) (h_u_to : 0 ≤ u_to.toInt ∧ u_to.toInt ≤ 400) (h_u_bd : 0 ≤ u_bd.toInt ∧ u_bd.toInt ≤ 1) (h_u_nc : 0 ≤ u_nc.toInt ∧ u_nc.toInt ≤ 12) (h_u_co : 0 ≤ u_co.toInt ∧ u_co.toInt ≤ 400) (h_u_pd : 0 ≤ u_pd.toInt ∧ u_pd.toInt ≤ 400) (h_u_la : 0 ≤ u_la.toInt ∧ u_la.toInt ≤ 4840) (h_u_bk : 0 ≤ u_bk.toInt ∧ u_bk.toInt ≤ 1) (h_u_ce : 0 ≤ u_ce.toInt ∧ u_ce.toInt ≤ 63) (h_u_ho : 0 ≤ u_ho.toInt ∧ u_ho.toInt ≤ 23) (h_u_wy : 0 ≤ u_wy.toInt ∧ u_wy.toInt ≤ 3) (h_u_bt : 0 ≤ u_bt.toInt ∧ u_bt.toInt ≤ 1000000) (h_u_ps : 0 ≤ u_ps.toInt ∧ u_ps.toInt ≤ 200) (h_u_ic : 0 ≤ u_ic.toInt ∧ u_ic.toInt ≤ 1) (h_u_id : 0 ≤ u_id.toInt ∧ u_id.toInt ≤ 1) (r_ro : MI v_ro) : Met l yX12_count (wsG yX12_count cX12_count 4 (some .int)) ({ frames := 0, cells := 0, slots := 0, locals := 0 }) (va_Pc [.ref b_o, .int p_1] (g5_P G [(b_o, (oc12 u_th u_sa b_rf b_ro b_im b_ke u_fd b_tp u_td u_fr u_to u_so u_wo u_fa u_bd u_nc b_nl u_co b_op b_ar u_le b_pi b_pa u_pd u_od b_ws b_hw u_la b_se b_re u_bk u_va u_su u_ce u_ho u_wy u_bt u_ps b_pt u_tg u_sn b_ip u_ic b_ah b_be b_me u_wd b_tr b_ld u_st b_wn u_id)), (b_rf, (arI G 7 v_rf)), (b_ro, (arI G 5740 v_ro))] sz)) (va_Qi (fun (r : Int32) (u : va_W) => (∃ (o_r : Int32) (o_th : Int32), (r = o_r) ∧ (u = [(b_o, (oc12 o_th u_sa b_rf b_ro b_im b_ke u_fd b_tp u_td u_fr u_to u_so u_wo u_fa u_bd u_nc b_nl u_co b_op b_ar u_le b_pi b_pa u_pd u_od b_ws b_hw u_la b_se b_re u_bk u_va u_su u_ce u_ho u_wy u_bt u_ps b_pt u_tg u_sn b_ip u_ic b_ah b_be b_me u_wd b_tr b_ld u_st b_wn u_id)), (b_rf, (arI G 7 v_rf)), (b_ro, (arI G 5740 v_ro))]))) (g5_B G (va_A [(b_o, (oc12 u_th u_sa b_rf b_ro b_im b_ke u_fd b_tp u_td u_fr u_to u_so u_wo u_fa u_bd u_nc b_nl u_co b_op b_ar u_le b_pi b_pa u_pd u_od b_ws b_hw u_la b_se b_re u_bk u_va u_su u_ce u_ho u_wy u_bt u_ps b_pt u_tg u_sn b_ip u_ic b_ah b_be b_me u_wd b_tr b_ld u_st b_wn u_id)), (b_rf, (arI G 7 v_rf)), (b_ro, (arI G 5740 v_ro))] sz)) (va_A [(b_o, (oc12 u_th u_sa b_rf b_ro b_im b_ke u_fd b_tp u_td u_fr u_to u_so u_wo u_fa u_bd u_nc b_nl u_co b_op b_ar u_le b_pi b_pa u_pd u_od b_ws b_hw u_la b_se b_re u_bk u_va u_su u_ce u_ho u_wy u_bt u_ps b_pt u_tg u_sn b_ip u_ic b_ah b_be b_me u_wd b_tr b_ld u_st b_wn u_id)), (b_rf, (arI G 7 v_rf)), (b_ro, (arI G 5740 v_ro))] sz)) 0 0 (va_A [(b_o, (oc12 u_th u_sa b_rf b_ro b_im b_ke u_fd b_tp u_td u_fr u_to u_so u_wo u_fa u_bd u_nc b_nl u_co b_op b_ar u_le b_pi b_pa u_pd u_od b_ws b_hw u_la b_se b_re u_bk u_va u_su u_ce u_ho u_wy u_bt u_ps b_pt u_tg u_sn b_ip u_ic b_ah b_be b_me u_wd b_tr b_ld u_st b_wn u_id)), (b_rf, (arI G 7 v_rf)), (b_ro, (arI G 5740 v_ro))] sz) := by
  refine Met.ofW (cc := cX12_count) (maxL := 4) (ret := (some .int)) (by decide) rfl ?_
  intro p e s m args below meth c s₁ B hml hv
  obtain ⟨rfl, hsz, hP, hK, hD0, hN, hT⟩ := hv
  have hx := B.exec
  have hb := B.bytes
  have hr := B.returns
  have hts : ∀ w ∈ tblG, w.before _ s = true := fun w h => atoms_spec (ws := (wsG yX12_count cX12_count 4 (some .int))) B.pre w (List.mem_cons_of_mem _ h)
  have hown : s.vm.findClass RX12 = some m.cls := findClass_of_methodNamed B.named
  have hlocks := B.notSynchronized
  subst hsz
  have hD := hD0.self (sz := s.heap.size)
  generalize hAe : va_A [(b_o, (oc12 u_th u_sa b_rf b_ro b_im b_ke u_fd b_tp u_td u_fr u_to u_so u_wo u_fa u_bd u_nc b_nl u_co b_op b_ar u_le b_pi b_pa u_pd u_od b_ws b_hw u_la b_se b_re u_bk u_va u_su u_ce u_ho u_wy u_bt u_ps b_pt u_tg u_sn b_ip u_ic b_ah b_be b_me u_wd b_tr b_ld u_st b_wn u_id)), (b_rf, (arI G 7 v_rf)), (b_ro, (arI G 5740 v_ro))] s.heap.size = A at hD hT ⊢
  have hA : ∀ q : Nat, s.heap.size ≤ q → A q := fun q h => by rw [← hAe]; exact Or.inr h
  have hS : va_S A s.heap s.heap [] := va_S.rf
  have hP : va_P G.1 vwCl [(b_o, (oc12 u_th u_sa b_rf b_ro b_im b_ke u_fd b_tp u_td u_fr u_to u_so u_wo u_fa u_bd u_nc b_nl u_co b_op b_ar u_le b_pi b_pa u_pd u_od b_ws b_hw u_la b_se b_re u_bk u_va u_su u_ce u_ho u_wy u_bt u_ps b_pt u_tg u_sn b_ip u_ic b_ah b_be b_me u_wd b_tr b_ld u_st b_wn u_id)), (b_rf, (arI G 7 v_rf)), (b_ro, (arI G 5740 v_ro))] s.heap := hP
  have hl := lv_entry ([.ref b_o, .int p_1]) (n := 4) (Nat.le_of_ble_eq_true rfl)
  rw [lg_entry_eq]
  generalize (lg_sl ([.ref b_o, .int p_1]) ++ List.replicate (4 - (lg_sl ([.ref b_o, .int p_1])).length) Slot.unset).toArray = ls at hl ⊢
  have hl : lv_has ls 4 [(0, .ref b_o), (1, .int p_1)] := hl
  refine lv_aload_n hx hb dX12_count_0 rfl (lv_at hl 0 rfl) ?_
  refine lv_iconst (v := 0) hx hb dX12_count_1 (by decide) ?_
  refine va_put (D := G.1) (ci := 12) (v := .int 0) (ty := .int) (C := RX12) (T := TX12) (N := 52) hx hb hts inG_X12 tyX12 tyX12_ok nmX12 hown hK hP hD hS 0 rfl rfl 0 (by decide) (hts _ fl_X12_107) (fun _ h9 => h9) rfl (by decide +kernel) rfl rfl (Nat.le_of_ble_eq_true rfl) dX12_count_2 (fun H locs hP hD hS => ?_)
  refine g5_rs [(b_o, (oc12 0 u_sa b_rf b_ro b_im b_ke u_fd b_tp u_td u_fr u_to u_so u_wo u_fa u_bd u_nc b_nl u_co b_op b_ar u_le b_pi b_pa u_pd u_od b_ws b_hw u_la b_se b_re u_bk u_va u_su u_ce u_ho u_wy u_bt u_ps b_pt u_tg u_sn b_ip u_ic b_ah b_be b_me u_wd b_tr b_ld u_st b_wn u_id)), (b_rf, (arI G 7 v_rf)), (b_ro, (arI G 5740 v_ro))] hP hD (fun hP hD => ?_)
  refine lv_iconst (v := 0) hx hb dX12_count_5 (by decide) ?_
  refine lv_istore_n (lv' := [(2, .int 0), (0, .ref b_o), (1, .int p_1)]) hx hb dX12_count_6 rfl hl (by decide) rfl (fun ls hl => ?_)
  refine lv_iconst (v := 0) hx hb dX12_count_7 (by decide) ?_
  refine lv_istore_n (lv' := [(3, .int 0), (2, .int 0), (0, .ref b_o), (1, .int p_1)]) hx hb dX12_count_8 rfl hl (by decide) rfl (fun ls hl => ?_)
  refine g5_loop (α := (Int32) × (Int32)) (fun (q : (Int32) × (Int32)) (ls : Array Slot) (H : Heap) (locs : List Loc) => match q with | (k9_3, k9_2) => lv_has ls 4 [(2, .int k9_2), (3, .int k9_3), (0, .ref b_o), (1, .int p_1)] ∧ va_P G.1 vwCl [(b_o, (oc12 0 u_sa b_rf b_ro b_im b_ke u_fd b_tp u_td u_fr u_to u_so u_wo u_fa u_bd u_nc b_nl u_co b_op b_ar u_le b_pi b_pa u_pd u_od b_ws b_hw u_la b_se b_re u_bk u_va u_su u_ce u_ho u_wy u_bt u_ps b_pt u_tg u_sn b_ip u_ic b_ah b_be b_me u_wd b_tr b_ld u_st b_wn u_id)), (b_rf, (arI G 7 v_rf)), (b_ro, (arI G 5740 v_ro))] H ∧ va_D A [(b_o, (oc12 0 u_sa b_rf b_ro b_im b_ke u_fd b_tp u_td u_fr u_to u_so u_wo u_fa u_bd u_nc b_nl u_co b_op b_ar u_le b_pi b_pa u_pd u_od b_ws b_hw u_la b_se b_re u_bk u_va u_su u_ce u_ho u_wy u_bt u_ps b_pt u_tg u_sn b_ip u_ic b_ah b_be b_me u_wd b_tr b_ld u_st b_wn u_id)), (b_rf, (arI G 7 v_rf)), (b_ro, (arI G 5740 v_ro))] ∧ va_S A s.heap H locs ∧ (0 ≤ k9_3.toInt ∧ k9_3.toInt ≤ 64)) (fun (q : (Int32) × (Int32)) => match q with | (k9_3, k9_2) => Int.toNat (64 - k9_3.toInt)) (0, 0) ⟨lv_sub hl [1, 0, 2, 3] rfl, hP, hD, hS, ⟨by decide, by decide⟩⟩ ?_
  rintro ⟨k9_3, k9_2⟩ ls H locs ⟨hl, hP, hD, hS, i_1⟩ ih_9_2
  have hl : lv_has ls 4 [(2, .int k9_2), (3, .int k9_3), (0, .ref b_o), (1, .int p_1)] := hl
  have i_1 : 0 ≤ k9_3.toInt ∧ k9_3.toInt ≤ 64 := i_1
  refine g5_rs [(b_o, (oc12 0 u_sa b_rf b_ro b_im b_ke u_fd b_tp u_td u_fr u_to u_so u_wo u_fa u_bd u_nc b_nl u_co b_op b_ar u_le b_pi b_pa u_pd u_od b_ws b_hw u_la b_se b_re u_bk u_va u_su u_ce u_ho u_wy u_bt u_ps b_pt u_tg u_sn b_ip u_ic b_ah b_be b_me u_wd b_tr b_ld u_st b_wn u_id)), (b_rf, (arI G 7 v_rf)), (b_ro, (arI G 5740 v_ro))] hP hD (fun hP hD => ?_)
  refine lv_iload_n hx hb dX12_count_9 rfl (lv_at hl 1 rfl) ?_
  refine lv_bipush (v := 64) hx hb dX12_count_10 (by decide) ?_
  refine lv_icmp_ge (tgt := 33) hx hb dX12_count_12 (by decide) (fun c_3 => ?_) (fun c_3 => ?_)
  ·
    have i_3 : k9_3.toInt ≥ 64 := by have z := g5_ge (a := k9_3.toInt) (b := 64) (by rfl) (by decide) c_3; omega
    refine lv_iload_n hx hb dX12_count_33 rfl (lv_at hl 3 rfl) ?_
    rcases (show p_1.toInt = 0 ∨ p_1.toInt = 1 ∨ p_1.toInt = 2 ∨ p_1.toInt = 3 ∨ p_1.toInt = 4 ∨ p_1.toInt = 5 ∨ p_1.toInt = 6 ∨ p_1.toInt = 7 ∨ p_1.toInt = 8 ∨ p_1.toInt = 9 ∨ p_1.toInt = 10 ∨ p_1.toInt = 11 ∨ p_1.toInt = 12 ∨ p_1.toInt = 13 ∨ p_1.toInt < 0 ∨ p_1.toInt > 13 by omega) with s_4 | s_4 | s_4 | s_4 | s_4 | s_4 | s_4 | s_4 | s_4 | s_4 | s_4 | s_4 | s_4 | s_4 | s_4 | s_4
    ·
      have i_4 : p_1.toInt = 0 := by omega
      refine lv_tableIn (tgt := 104) hx hb dX12_count_34 (by omega) (by omega) (by rw [s_4]; rfl) (by decide) ?_
      refine lv_aload_n hx hb dX12_count_104 rfl (lv_at hl 2 rfl) ?_
      refine va_get (D := G.1) (ci := 12) (v := .ref b_ro) (C := RX12) (T := TX12) (N := 52) hx hb hts inG_X12 hown hK hP 0 rfl rfl 3 (by decide) (hts _ fl_X12_13) (fun _ h9 => h9) rfl dX12_count_105 ?_
      refine lv_iconst (v := 0) hx hb dX12_count_108 (by decide) ?_
      refine va_iald hx hb hK hP 2 0 rfl rfl (i := 0) (by unfold vp_in; decide) dX12_count_109 ?_
      refine g5_ti (v := (v_ro 0)) rfl ?_
      have hr_5 : 0 ≤ (v_ro 0).toInt ∧ (v_ro 0).toInt ≤ 6 := mi_0 r_ro
      exact W.iret (v := (v_ro 0)) hx hb hr (fun t ht hW => ⟨⟨(v_ro 0), [(b_o, (oc12 0 u_sa b_rf b_ro b_im b_ke u_fd b_tp u_td u_fr u_to u_so u_wo u_fa u_bd u_nc b_nl u_co b_op b_ar u_le b_pi b_pa u_pd u_od b_ws b_hw u_la b_se b_re u_bk u_va u_su u_ce u_ho u_wy u_bt u_ps b_pt u_tg u_sn b_ip u_ic b_ah b_be b_me u_wd b_tr b_ld u_st b_wn u_id)), (b_rf, (arI G 7 v_rf)), (b_ro, (arI G 5740 v_ro))], rfl, ⟨(v_ro 0), 0, rfl, rfl⟩, by rw [ht]; exact hP.sub [0, 1, 2] rfl, hD.sub [0, 1, 2] (by decide) rfl⟩, hS.F ht⟩) hS.2.2 dX12_count_110
    ·
      have i_4 : p_1.toInt = 1 := by omega
      refine lv_tableIn (tgt := 111) hx hb dX12_count_34 (by omega) (by omega) (by rw [s_4]; rfl) (by decide) ?_
      refine lv_aload_n hx hb dX12_count_111 rfl (lv_at hl 2 rfl) ?_
      refine va_get (D := G.1) (ci := 12) (v := .ref b_ro) (C := RX12) (T := TX12) (N := 52) hx hb hts inG_X12 hown hK hP 0 rfl rfl 3 (by decide) (hts _ fl_X12_13) (fun _ h9 => h9) rfl dX12_count_112 ?_
      refine lv_iconst (v := 1) hx hb dX12_count_115 (by decide) ?_
      refine va_iald hx hb hK hP 2 0 rfl rfl (i := 1) (by unfold vp_in; decide) dX12_count_116 ?_
      refine g5_ti (v := (v_ro 1)) rfl ?_
      have hr_6 : 0 ≤ (v_ro 1).toInt ∧ (v_ro 1).toInt ≤ 5 := mi_1 r_ro
      exact W.iret (v := (v_ro 1)) hx hb hr (fun t ht hW => ⟨⟨(v_ro 1), [(b_o, (oc12 0 u_sa b_rf b_ro b_im b_ke u_fd b_tp u_td u_fr u_to u_so u_wo u_fa u_bd u_nc b_nl u_co b_op b_ar u_le b_pi b_pa u_pd u_od b_ws b_hw u_la b_se b_re u_bk u_va u_su u_ce u_ho u_wy u_bt u_ps b_pt u_tg u_sn b_ip u_ic b_ah b_be b_me u_wd b_tr b_ld u_st b_wn u_id)), (b_rf, (arI G 7 v_rf)), (b_ro, (arI G 5740 v_ro))], rfl, ⟨(v_ro 1), 0, rfl, rfl⟩, by rw [ht]; exact hP.sub [0, 1, 2] rfl, hD.sub [0, 1, 2] (by decide) rfl⟩, hS.F ht⟩) hS.2.2 dX12_count_117
    ·
      have i_4 : p_1.toInt = 2 := by omega
      refine lv_tableIn (tgt := 118) hx hb dX12_count_34 (by omega) (by omega) (by rw [s_4]; rfl) (by decide) ?_
      refine lv_aload_n hx hb dX12_count_118 rfl (lv_at hl 2 rfl) ?_
      refine va_get (D := G.1) (ci := 12) (v := .ref b_ro) (C := RX12) (T := TX12) (N := 52) hx hb hts inG_X12 hown hK hP 0 rfl rfl 3 (by decide) (hts _ fl_X12_13) (fun _ h9 => h9) rfl dX12_count_119 ?_
      refine lv_iconst (v := 2) hx hb dX12_count_122 (by decide) ?_
      refine va_iald hx hb hK hP 2 0 rfl rfl (i := 2) (by unfold vp_in; decide) dX12_count_123 ?_
      refine g5_ti (v := (v_ro 2)) rfl ?_
      have hr_7 : 0 ≤ (v_ro 2).toInt ∧ (v_ro 2).toInt ≤ 6 := mi_2 r_ro
      exact W.iret (v := (v_ro 2)) hx hb hr (fun t ht hW => ⟨⟨(v_ro 2), [(b_o, (oc12 0 u_sa b_rf b_ro b_im b_ke u_fd b_tp u_td u_fr u_to u_so u_wo u_fa u_bd u_nc b_nl u_co b_op b_ar u_le b_pi b_pa u_pd u_od b_ws b_hw u_la b_se b_re u_bk u_va u_su u_ce u_ho u_wy u_bt u_ps b_pt u_tg u_sn b_ip u_ic b_ah b_be b_me u_wd b_tr b_ld u_st b_wn u_id)), (b_rf, (arI G 7 v_rf)), (b_ro, (arI G 5740 v_ro))], rfl, ⟨(v_ro 2), 0, rfl, rfl⟩, by rw [ht]; exact hP.sub [0, 1, 2] rfl, hD.sub [0, 1, 2] (by decide) rfl⟩, hS.F ht⟩) hS.2.2 dX12_count_124
    ·
      have i_4 : p_1.toInt = 3 := by omega
      refine lv_tableIn (tgt := 125) hx hb dX12_count_34 (by omega) (by omega) (by rw [s_4]; rfl) (by decide) ?_
      refine lv_aload_n hx hb dX12_count_125 rfl (lv_at hl 2 rfl) ?_
      refine va_get (D := G.1) (ci := 12) (v := .ref b_ro) (C := RX12) (T := TX12) (N := 52) hx hb hts inG_X12 hown hK hP 0 rfl rfl 3 (by decide) (hts _ fl_X12_13) (fun _ h9 => h9) rfl dX12_count_126 ?_
      refine lv_iconst (v := 5) hx hb dX12_count_129 (by decide) ?_
      refine va_iald hx hb hK hP 2 0 rfl rfl (i := 5) (by unfold vp_in; decide) dX12_count_130 ?_
      refine g5_ti (v := (v_ro 5)) rfl ?_
      have hr_8 : 0 ≤ (v_ro 5).toInt ∧ (v_ro 5).toInt ≤ 10 := mi_5 r_ro
      exact W.iret (v := (v_ro 5)) hx hb hr (fun t ht hW => ⟨⟨(v_ro 5), [(b_o, (oc12 0 u_sa b_rf b_ro b_im b_ke u_fd b_tp u_td u_fr u_to u_so u_wo u_fa u_bd u_nc b_nl u_co b_op b_ar u_le b_pi b_pa u_pd u_od b_ws b_hw u_la b_se b_re u_bk u_va u_su u_ce u_ho u_wy u_bt u_ps b_pt u_tg u_sn b_ip u_ic b_ah b_be b_me u_wd b_tr b_ld u_st b_wn u_id)), (b_rf, (arI G 7 v_rf)), (b_ro, (arI G 5740 v_ro))], rfl, ⟨(v_ro 5), 0, rfl, rfl⟩, by rw [ht]; exact hP.sub [0, 1, 2] rfl, hD.sub [0, 1, 2] (by decide) rfl⟩, hS.F ht⟩) hS.2.2 dX12_count_131
    ·
      have i_4 : p_1.toInt = 4 := by omega
      refine lv_tableIn (tgt := 132) hx hb dX12_count_34 (by omega) (by omega) (by rw [s_4]; rfl) (by decide) ?_
      refine lv_aload_n hx hb dX12_count_132 rfl (lv_at hl 2 rfl) ?_
      refine va_get (D := G.1) (ci := 12) (v := .ref b_ro) (C := RX12) (T := TX12) (N := 52) hx hb hts inG_X12 hown hK hP 0 rfl rfl 3 (by decide) (hts _ fl_X12_13) (fun _ h9 => h9) rfl dX12_count_133 ?_
      refine lv_bipush (v := 7) hx hb dX12_count_136 (by decide) ?_
      refine va_iald hx hb hK hP 2 0 rfl rfl (i := 7) (by unfold vp_in; decide) dX12_count_138 ?_
      refine g5_ti (v := (v_ro 7)) rfl ?_
      have hr_9 : 0 ≤ (v_ro 7).toInt ∧ (v_ro 7).toInt ≤ 8 := mi_7 r_ro
      exact W.iret (v := (v_ro 7)) hx hb hr (fun t ht hW => ⟨⟨(v_ro 7), [(b_o, (oc12 0 u_sa b_rf b_ro b_im b_ke u_fd b_tp u_td u_fr u_to u_so u_wo u_fa u_bd u_nc b_nl u_co b_op b_ar u_le b_pi b_pa u_pd u_od b_ws b_hw u_la b_se b_re u_bk u_va u_su u_ce u_ho u_wy u_bt u_ps b_pt u_tg u_sn b_ip u_ic b_ah b_be b_me u_wd b_tr b_ld u_st b_wn u_id)), (b_rf, (arI G 7 v_rf)), (b_ro, (arI G 5740 v_ro))], rfl, ⟨(v_ro 7), 0, rfl, rfl⟩, by rw [ht]; exact hP.sub [0, 1, 2] rfl, hD.sub [0, 1, 2] (by decide) rfl⟩, hS.F ht⟩) hS.2.2 dX12_count_139
    ·
      have i_4 : p_1.toInt = 5 := by omega
      refine lv_tableIn (tgt := 140) hx hb dX12_count_34 (by omega) (by omega) (by rw [s_4]; rfl) (by decide) ?_
      refine lv_aload_n hx hb dX12_count_140 rfl (lv_at hl 2 rfl) ?_
      refine va_get (D := G.1) (ci := 12) (v := .ref b_ro) (C := RX12) (T := TX12) (N := 52) hx hb hts inG_X12 hown hK hP 0 rfl rfl 3 (by decide) (hts _ fl_X12_13) (fun _ h9 => h9) rfl dX12_count_141 ?_
      refine lv_bipush (v := 8) hx hb dX12_count_144 (by decide) ?_
      refine va_iald hx hb hK hP 2 0 rfl rfl (i := 8) (by unfold vp_in; decide) dX12_count_146 ?_
      refine g5_ti (v := (v_ro 8)) rfl ?_
      have hr_10 : 0 ≤ (v_ro 8).toInt ∧ (v_ro 8).toInt ≤ 6 := mi_8 r_ro
      exact W.iret (v := (v_ro 8)) hx hb hr (fun t ht hW => ⟨⟨(v_ro 8), [(b_o, (oc12 0 u_sa b_rf b_ro b_im b_ke u_fd b_tp u_td u_fr u_to u_so u_wo u_fa u_bd u_nc b_nl u_co b_op b_ar u_le b_pi b_pa u_pd u_od b_ws b_hw u_la b_se b_re u_bk u_va u_su u_ce u_ho u_wy u_bt u_ps b_pt u_tg u_sn b_ip u_ic b_ah b_be b_me u_wd b_tr b_ld u_st b_wn u_id)), (b_rf, (arI G 7 v_rf)), (b_ro, (arI G 5740 v_ro))], rfl, ⟨(v_ro 8), 0, rfl, rfl⟩, by rw [ht]; exact hP.sub [0, 1, 2] rfl, hD.sub [0, 1, 2] (by decide) rfl⟩, hS.F ht⟩) hS.2.2 dX12_count_147
    ·
      have i_4 : p_1.toInt = 6 := by omega
      refine lv_tableIn (tgt := 148) hx hb dX12_count_34 (by omega) (by omega) (by rw [s_4]; rfl) (by decide) ?_
      refine lv_iload_n hx hb dX12_count_148 rfl (lv_at hl 0 rfl) ?_
      exact W.iret (v := k9_2) hx hb hr (fun t ht hW => ⟨⟨k9_2, [(b_o, (oc12 0 u_sa b_rf b_ro b_im b_ke u_fd b_tp u_td u_fr u_to u_so u_wo u_fa u_bd u_nc b_nl u_co b_op b_ar u_le b_pi b_pa u_pd u_od b_ws b_hw u_la b_se b_re u_bk u_va u_su u_ce u_ho u_wy u_bt u_ps b_pt u_tg u_sn b_ip u_ic b_ah b_be b_me u_wd b_tr b_ld u_st b_wn u_id)), (b_rf, (arI G 7 v_rf)), (b_ro, (arI G 5740 v_ro))], rfl, ⟨k9_2, 0, rfl, rfl⟩, by rw [ht]; exact hP.sub [0, 1, 2] rfl, hD.sub [0, 1, 2] (by decide) rfl⟩, hS.F ht⟩) hS.2.2 dX12_count_149
    ·
      have i_4 : p_1.toInt = 7 := by omega
      refine lv_tableIn (tgt := 150) hx hb dX12_count_34 (by omega) (by omega) (by rw [s_4]; rfl) (by decide) ?_
      refine lv_aload_n hx hb dX12_count_150 rfl (lv_at hl 2 rfl) ?_
      refine va_get (D := G.1) (ci := 12) (v := .int u_td) (C := RX12) (T := TX12) (N := 52) hx hb hts inG_X12 hown hK hP 0 rfl rfl 8 (by decide) (hts _ fl_X12_192) (fun _ h9 => h9) rfl dX12_count_151 ?_
      exact W.iret (v := u_td) hx hb hr (fun t ht hW => ⟨⟨u_td, [(b_o, (oc12 0 u_sa b_rf b_ro b_im b_ke u_fd b_tp u_td u_fr u_to u_so u_wo u_fa u_bd u_nc b_nl u_co b_op b_ar u_le b_pi b_pa u_pd u_od b_ws b_hw u_la b_se b_re u_bk u_va u_su u_ce u_ho u_wy u_bt u_ps b_pt u_tg u_sn b_ip u_ic b_ah b_be b_me u_wd b_tr b_ld u_st b_wn u_id)), (b_rf, (arI G 7 v_rf)), (b_ro, (arI G 5740 v_ro))], rfl, ⟨u_td, 0, rfl, rfl⟩, by rw [ht]; exact hP.sub [0, 1, 2] rfl, hD.sub [0, 1, 2] (by decide) rfl⟩, hS.F ht⟩) hS.2.2 dX12_count_154
    ·
      have i_4 : p_1.toInt = 8 := by omega
      refine lv_tableIn (tgt := 155) hx hb dX12_count_34 (by omega) (by omega) (by rw [s_4]; rfl) (by decide) ?_
      refine lv_aload_n hx hb dX12_count_155 rfl (lv_at hl 2 rfl) ?_
      refine va_get (D := G.1) (ci := 12) (v := .ref b_rf) (C := RX12) (T := TX12) (N := 52) hx hb hts inG_X12 hown hK hP 0 rfl rfl 2 (by decide) (hts _ fl_X12_7) (fun _ h9 => h9) rfl dX12_count_156 ?_
      refine lv_iconst (v := 1) hx hb dX12_count_159 (by decide) ?_
      refine va_iald hx hb hK hP 1 0 rfl rfl (i := 1) (by unfold vp_in; decide) dX12_count_160 ?_
      refine g5_ti (v := (v_rf 1)) rfl ?_
      exact W.iret (v := (v_rf 1)) hx hb hr (fun t ht hW => ⟨⟨(v_rf 1), [(b_o, (oc12 0 u_sa b_rf b_ro b_im b_ke u_fd b_tp u_td u_fr u_to u_so u_wo u_fa u_bd u_nc b_nl u_co b_op b_ar u_le b_pi b_pa u_pd u_od b_ws b_hw u_la b_se b_re u_bk u_va u_su u_ce u_ho u_wy u_bt u_ps b_pt u_tg u_sn b_ip u_ic b_ah b_be b_me u_wd b_tr b_ld u_st b_wn u_id)), (b_rf, (arI G 7 v_rf)), (b_ro, (arI G 5740 v_ro))], rfl, ⟨(v_rf 1), 0, rfl, rfl⟩, by rw [ht]; exact hP.sub [0, 1, 2] rfl, hD.sub [0, 1, 2] (by decide) rfl⟩, hS.F ht⟩) hS.2.2 dX12_count_161
    ·
      have i_4 : p_1.toInt = 9 := by omega
      refine lv_tableIn (tgt := 162) hx hb dX12_count_34 (by omega) (by omega) (by rw [s_4]; rfl) (by decide) ?_
      refine lv_aload_n hx hb dX12_count_162 rfl (lv_at hl 2 rfl) ?_
      refine va_get (D := G.1) (ci := 12) (v := .ref b_rf) (C := RX12) (T := TX12) (N := 52) hx hb hts inG_X12 hown hK hP 0 rfl rfl 2 (by decide) (hts _ fl_X12_7) (fun _ h9 => h9) rfl dX12_count_163 ?_
      refine lv_iconst (v := 2) hx hb dX12_count_166 (by decide) ?_
      refine va_iald hx hb hK hP 1 0 rfl rfl (i := 2) (by unfold vp_in; decide) dX12_count_167 ?_
      refine g5_ti (v := (v_rf 2)) rfl ?_
      exact W.iret (v := (v_rf 2)) hx hb hr (fun t ht hW => ⟨⟨(v_rf 2), [(b_o, (oc12 0 u_sa b_rf b_ro b_im b_ke u_fd b_tp u_td u_fr u_to u_so u_wo u_fa u_bd u_nc b_nl u_co b_op b_ar u_le b_pi b_pa u_pd u_od b_ws b_hw u_la b_se b_re u_bk u_va u_su u_ce u_ho u_wy u_bt u_ps b_pt u_tg u_sn b_ip u_ic b_ah b_be b_me u_wd b_tr b_ld u_st b_wn u_id)), (b_rf, (arI G 7 v_rf)), (b_ro, (arI G 5740 v_ro))], rfl, ⟨(v_rf 2), 0, rfl, rfl⟩, by rw [ht]; exact hP.sub [0, 1, 2] rfl, hD.sub [0, 1, 2] (by decide) rfl⟩, hS.F ht⟩) hS.2.2 dX12_count_168
    ·
      have i_4 : p_1.toInt = 10 := by omega
      refine lv_tableIn (tgt := 169) hx hb dX12_count_34 (by omega) (by omega) (by rw [s_4]; rfl) (by decide) ?_
      refine lv_aload_n hx hb dX12_count_169 rfl (lv_at hl 2 rfl) ?_
      refine va_get (D := G.1) (ci := 12) (v := .ref b_rf) (C := RX12) (T := TX12) (N := 52) hx hb hts inG_X12 hown hK hP 0 rfl rfl 2 (by decide) (hts _ fl_X12_7) (fun _ h9 => h9) rfl dX12_count_170 ?_
      refine lv_iconst (v := 3) hx hb dX12_count_173 (by decide) ?_
      refine va_iald hx hb hK hP 1 0 rfl rfl (i := 3) (by unfold vp_in; decide) dX12_count_174 ?_
      refine g5_ti (v := (v_rf 3)) rfl ?_
      exact W.iret (v := (v_rf 3)) hx hb hr (fun t ht hW => ⟨⟨(v_rf 3), [(b_o, (oc12 0 u_sa b_rf b_ro b_im b_ke u_fd b_tp u_td u_fr u_to u_so u_wo u_fa u_bd u_nc b_nl u_co b_op b_ar u_le b_pi b_pa u_pd u_od b_ws b_hw u_la b_se b_re u_bk u_va u_su u_ce u_ho u_wy u_bt u_ps b_pt u_tg u_sn b_ip u_ic b_ah b_be b_me u_wd b_tr b_ld u_st b_wn u_id)), (b_rf, (arI G 7 v_rf)), (b_ro, (arI G 5740 v_ro))], rfl, ⟨(v_rf 3), 0, rfl, rfl⟩, by rw [ht]; exact hP.sub [0, 1, 2] rfl, hD.sub [0, 1, 2] (by decide) rfl⟩, hS.F ht⟩) hS.2.2 dX12_count_175
    ·
      have i_4 : p_1.toInt = 11 := by omega
      refine lv_tableIn (tgt := 176) hx hb dX12_count_34 (by omega) (by omega) (by rw [s_4]; rfl) (by decide) ?_
      refine lv_aload_n hx hb dX12_count_176 rfl (lv_at hl 2 rfl) ?_
      refine va_get (D := G.1) (ci := 12) (v := .ref b_rf) (C := RX12) (T := TX12) (N := 52) hx hb hts inG_X12 hown hK hP 0 rfl rfl 2 (by decide) (hts _ fl_X12_7) (fun _ h9 => h9) rfl dX12_count_177 ?_
      refine lv_iconst (v := 5) hx hb dX12_count_180 (by decide) ?_
      refine va_iald hx hb hK hP 1 0 rfl rfl (i := 5) (by unfold vp_in; decide) dX12_count_181 ?_
      refine g5_ti (v := (v_rf 5)) rfl ?_
      exact W.iret (v := (v_rf 5)) hx hb hr (fun t ht hW => ⟨⟨(v_rf 5), [(b_o, (oc12 0 u_sa b_rf b_ro b_im b_ke u_fd b_tp u_td u_fr u_to u_so u_wo u_fa u_bd u_nc b_nl u_co b_op b_ar u_le b_pi b_pa u_pd u_od b_ws b_hw u_la b_se b_re u_bk u_va u_su u_ce u_ho u_wy u_bt u_ps b_pt u_tg u_sn b_ip u_ic b_ah b_be b_me u_wd b_tr b_ld u_st b_wn u_id)), (b_rf, (arI G 7 v_rf)), (b_ro, (arI G 5740 v_ro))], rfl, ⟨(v_rf 5), 0, rfl, rfl⟩, by rw [ht]; exact hP.sub [0, 1, 2] rfl, hD.sub [0, 1, 2] (by decide) rfl⟩, hS.F ht⟩) hS.2.2 dX12_count_182
    ·
      have i_4 : p_1.toInt = 12 := by omega
      refine lv_tableIn (tgt := 183) hx hb dX12_count_34 (by omega) (by omega) (by rw [s_4]; rfl) (by decide) ?_
      refine lv_aload_n hx hb dX12_count_183 rfl (lv_at hl 2 rfl) ?_
      refine va_get (D := G.1) (ci := 12) (v := .ref b_rf) (C := RX12) (T := TX12) (N := 52) hx hb hts inG_X12 hown hK hP 0 rfl rfl 2 (by decide) (hts _ fl_X12_7) (fun _ h9 => h9) rfl dX12_count_184 ?_
      refine lv_bipush (v := 6) hx hb dX12_count_187 (by decide) ?_
      refine va_iald hx hb hK hP 1 0 rfl rfl (i := 6) (by unfold vp_in; decide) dX12_count_189 ?_
      refine g5_ti (v := (v_rf 6)) rfl ?_
      exact W.iret (v := (v_rf 6)) hx hb hr (fun t ht hW => ⟨⟨(v_rf 6), [(b_o, (oc12 0 u_sa b_rf b_ro b_im b_ke u_fd b_tp u_td u_fr u_to u_so u_wo u_fa u_bd u_nc b_nl u_co b_op b_ar u_le b_pi b_pa u_pd u_od b_ws b_hw u_la b_se b_re u_bk u_va u_su u_ce u_ho u_wy u_bt u_ps b_pt u_tg u_sn b_ip u_ic b_ah b_be b_me u_wd b_tr b_ld u_st b_wn u_id)), (b_rf, (arI G 7 v_rf)), (b_ro, (arI G 5740 v_ro))], rfl, ⟨(v_rf 6), 0, rfl, rfl⟩, by rw [ht]; exact hP.sub [0, 1, 2] rfl, hD.sub [0, 1, 2] (by decide) rfl⟩, hS.F ht⟩) hS.2.2 dX12_count_190
    ·
      have i_4 : p_1.toInt = 13 := by omega
      refine lv_tableIn (tgt := 191) hx hb dX12_count_34 (by omega) (by omega) (by rw [s_4]; rfl) (by decide) ?_
      refine lv_aload_n hx hb dX12_count_191 rfl (lv_at hl 2 rfl) ?_
      refine va_get (D := G.1) (ci := 12) (v := .ref b_ro) (C := RX12) (T := TX12) (N := 52) hx hb hts inG_X12 hown hK hP 0 rfl rfl 3 (by decide) (hts _ fl_X12_13) (fun _ h9 => h9) rfl dX12_count_192 ?_
      refine lv_iconst (v := 3) hx hb dX12_count_195 (by decide) ?_
      refine va_iald hx hb hK hP 2 0 rfl rfl (i := 3) (by unfold vp_in; decide) dX12_count_196 ?_
      refine g5_ti (v := (v_ro 3)) rfl ?_
      have hr_11 : (-1) ≤ (v_ro 3).toInt ∧ (v_ro 3).toInt ≤ 5 := mi_3 r_ro
      exact W.iret (v := (v_ro 3)) hx hb hr (fun t ht hW => ⟨⟨(v_ro 3), [(b_o, (oc12 0 u_sa b_rf b_ro b_im b_ke u_fd b_tp u_td u_fr u_to u_so u_wo u_fa u_bd u_nc b_nl u_co b_op b_ar u_le b_pi b_pa u_pd u_od b_ws b_hw u_la b_se b_re u_bk u_va u_su u_ce u_ho u_wy u_bt u_ps b_pt u_tg u_sn b_ip u_ic b_ah b_be b_me u_wd b_tr b_ld u_st b_wn u_id)), (b_rf, (arI G 7 v_rf)), (b_ro, (arI G 5740 v_ro))], rfl, ⟨(v_ro 3), 0, rfl, rfl⟩, by rw [ht]; exact hP.sub [0, 1, 2] rfl, hD.sub [0, 1, 2] (by decide) rfl⟩, hS.F ht⟩) hS.2.2 dX12_count_197
    ·
      have i_4 : p_1.toInt < 0 := by omega
      refine lv_tableOut (tgt := 198) hx hb dX12_count_34 (by omega) (by decide) ?_
      refine lv_iconst (v := (-1)) hx hb dX12_count_198 (by decide) ?_
      exact W.iret (v := (-1)) hx hb hr (fun t ht hW => ⟨⟨(-1), [(b_o, (oc12 0 u_sa b_rf b_ro b_im b_ke u_fd b_tp u_td u_fr u_to u_so u_wo u_fa u_bd u_nc b_nl u_co b_op b_ar u_le b_pi b_pa u_pd u_od b_ws b_hw u_la b_se b_re u_bk u_va u_su u_ce u_ho u_wy u_bt u_ps b_pt u_tg u_sn b_ip u_ic b_ah b_be b_me u_wd b_tr b_ld u_st b_wn u_id)), (b_rf, (arI G 7 v_rf)), (b_ro, (arI G 5740 v_ro))], rfl, ⟨(-1), 0, rfl, rfl⟩, by rw [ht]; exact hP.sub [0, 1, 2] rfl, hD.sub [0, 1, 2] (by decide) rfl⟩, hS.F ht⟩) hS.2.2 dX12_count_199
    ·
      have i_4 : p_1.toInt > 13 := by omega
      refine lv_tableOut (tgt := 198) hx hb dX12_count_34 (by omega) (by decide) ?_
      refine lv_iconst (v := (-1)) hx hb dX12_count_198 (by decide) ?_
      exact W.iret (v := (-1)) hx hb hr (fun t ht hW => ⟨⟨(-1), [(b_o, (oc12 0 u_sa b_rf b_ro b_im b_ke u_fd b_tp u_td u_fr u_to u_so u_wo u_fa u_bd u_nc b_nl u_co b_op b_ar u_le b_pi b_pa u_pd u_od b_ws b_hw u_la b_se b_re u_bk u_va u_su u_ce u_ho u_wy u_bt u_ps b_pt u_tg u_sn b_ip u_ic b_ah b_be b_me u_wd b_tr b_ld u_st b_wn u_id)), (b_rf, (arI G 7 v_rf)), (b_ro, (arI G 5740 v_ro))], rfl, ⟨(-1), 0, rfl, rfl⟩, by rw [ht]; exact hP.sub [0, 1, 2] rfl, hD.sub [0, 1, 2] (by decide) rfl⟩, hS.F ht⟩) hS.2.2 dX12_count_199
  ·
    have i_3 : k9_3.toInt < 64 := by have z := g5_geN (a := k9_3.toInt) (b := 64) (by rfl) (by decide) c_3; omega
    refine lv_iload_n hx hb dX12_count_15 rfl (lv_at hl 0 rfl) ?_
    refine lv_aload_n hx hb dX12_count_16 rfl (lv_at hl 2 rfl) ?_
    refine va_get (D := G.1) (ci := 12) (v := .ref b_ro) (C := RX12) (T := TX12) (N := 52) hx hb hts inG_X12 hown hK hP 0 rfl rfl 3 (by decide) (hts _ fl_X12_13) (fun _ h9 => h9) rfl dX12_count_17 ?_
    refine lv_bipush (v := 10) hx hb dX12_count_20 (by decide) ?_
    refine lv_iload_n hx hb dX12_count_22 rfl (lv_at hl 1 rfl) ?_
    refine lv_iadd hx hb dX12_count_23 ?_
    have t_12 : (10 + k9_3).toInt = 10 + k9_3.toInt := g5_iadd (a := 10) (b := k9_3.toInt) (by decide) (by rfl) (by omega) (by omega)
    refine va_iald hx hb hK hP 2 0 rfl rfl (i := (10 + k9_3)) (vp_in_iff.mpr ⟨by omega, by omega⟩) dX12_count_24 ?_
    refine lv_iadd hx hb dX12_count_25 ?_
    refine lv_istore_n (lv' := [(2, .int (k9_2 + (v_ro (10 + k9_3).toNatClampNeg))), (3, .int k9_3), (0, .ref b_o), (1, .int p_1)]) hx hb dX12_count_26 rfl hl (by decide) rfl (fun ls hl => ?_)
    refine lv_iinc (v := (k9_3 + 1)) (lv' := [(3, .int (k9_3 + 1)), (2, .int (k9_2 + (v_ro (10 + k9_3).toNatClampNeg))), (0, .ref b_o), (1, .int p_1)]) hx hb dX12_count_27 hl (k := 1) rfl rfl (by decide) rfl (fun ls hl => ?_)
    have t_13 : (k9_3 + 1).toInt = k9_3.toInt + 1 := g5_iadd (a := k9_3.toInt) (b := 1) rfl (by decide) (by omega) (by omega)
    refine lv_goto (tgt := 9) hx hb dX12_count_30 (by decide) ?_
    exact ih_9_2 ((k9_3 + 1), (k9_2 + (v_ro (10 + k9_3).toNatClampNeg))) ls H locs (show Int.toNat (64 - (k9_3 + 1).toInt) < Int.toNat (64 - k9_3.toInt) from g_up (show k9_3.toInt < (k9_3 + 1).toInt by omega) (show k9_3.toInt < 64 by omega)) ⟨lv_sub hl [1, 0, 2, 3] rfl, hP, hD, hS, ⟨by omega, by omega⟩⟩
