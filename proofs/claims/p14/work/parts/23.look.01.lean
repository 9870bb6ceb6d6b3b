theorem dgX5_meetGlass_0 : ∀ r ∈ ([(0, (.aload_n 0, 1)), (1, (.iconst 1, 1)), (2, (.putfield 56, 3)), (5, (.aload_n 0, 1)), (6, (.getfield 22, 3)), (9, (.getfield 128, 3)), (12, (.iconst 0, 1)), (13, (.aload_n 0, 1)), (14, (.getfield 26, 3)), (17, (.invokevirtual 131, 3)), (20, (.istore_n 1, 1)), (21, (.iload_n 1, 1)), (22, (.iconst (-1), 1)), (23, (.if_icmp .ne 13, 3)), (26, (.aload_n 0, 1)), (27, (.getfield 22, 3)), (30, (.getfield 98, 3)), (33, (.goto 10, 3)), (36, (.aload_n 0, 1)), (37, (.getfield 22, 3)), (40, (.getfield 128, 3)), (43, (.astore_n 2, 1)), (44, (.iload_n 1, 1)), (45, (.iconst (-1), 1)), (46, (.if_icmp .ne 21, 3)), (49, (.aload_n 0, 1)), (50, (.getfield 22, 3)), (53, (.getfield 98, 3)), (56, (.iconst 0, 1)), (57, (.aload_n 0, 1)), (58, (.getfield 26, 3)), (61, (.invokevirtual 131, 3)), (64, (.goto 4, 3)), (67, (.iload_n 1, 1)), (68, (.istore_n 3, 1)), (69, (.iload_n 1, 1)), (70, (.iconst (-1), 1)), (71, (.if_icmp .ne 10, 3)), (74, (.bipush 6, 2)), (76, (.iload_n 3, 1))] : List (Nat × (Instr × Nat))), decode cX5_meetGlass r.1 = .ok r.2 := by decide +kernel
theorem dX5_meetGlass_0 : decode cX5_meetGlass 0 = .ok (.aload_n 0, 1) := dgX5_meetGlass_0 (0, (.aload_n 0, 1)) (List.mem_of_getElem? (i := 0) rfl)
theorem dX5_meetGlass_1 : decode cX5_meetGlass 1 = .ok (.iconst 1, 1) := dgX5_meetGlass_0 (1, (.iconst 1, 1)) (List.mem_of_getElem? (i := 1) rfl)
theorem dX5_meetGlass_2 : decode cX5_meetGlass 2 = .ok (.putfield 56, 3) := dgX5_meetGlass_0 (2, (.putfield 56, 3)) (List.mem_of_getElem? (i := 2) rfl)
theorem dX5_meetGlass_5 : decode cX5_meetGlass 5 = .ok (.aload_n 0, 1) := dgX5_meetGlass_0 (5, (.aload_n 0, 1)) (List.mem_of_getElem? (i := 3) rfl)
theorem dX5_meetGlass_6 : decode cX5_meetGlass 6 = .ok (.getfield 22, 3) := dgX5_meetGlass_0 (6, (.getfield 22, 3)) (List.mem_of_getElem? (i := 4) rfl)
theorem dX5_meetGlass_9 : decode cX5_meetGlass 9 = .ok (.getfield 128, 3) := dgX5_meetGlass_0 (9, (.getfield 128, 3)) (List.mem_of_getElem? (i := 5) rfl)
theorem dX5_meetGlass_12 : decode cX5_meetGlass 12 = .ok (.iconst 0, 1) := dgX5_meetGlass_0 (12, (.iconst 0, 1)) (List.mem_of_getElem? (i := 6) rfl)
theorem dX5_meetGlass_13 : decode cX5_meetGlass 13 = .ok (.aload_n 0, 1) := dgX5_meetGlass_0 (13, (.aload_n 0, 1)) (List.mem_of_getElem? (i := 7) rfl)
theorem dX5_meetGlass_14 : decode cX5_meetGlass 14 = .ok (.getfield 26, 3) := dgX5_meetGlass_0 (14, (.getfield 26, 3)) (List.mem_of_getElem? (i := 8) rfl)
theorem dX5_meetGlass_17 : decode cX5_meetGlass 17 = .ok (.invokevirtual 131, 3) := dgX5_meetGlass_0 (17, (.invokevirtual 131, 3)) (List.mem_of_getElem? (i := 9) rfl)
theorem dX5_meetGlass_20 : decode cX5_meetGlass 20 = .ok (.istore_n 1, 1) := dgX5_meetGlass_0 (20, (.istore_n 1, 1)) (List.mem_of_getElem? (i := 10) rfl)
theorem dX5_meetGlass_21 : decode cX5_meetGlass 21 = .ok (.iload_n 1, 1) := dgX5_meetGlass_0 (21, (.iload_n 1, 1)) (List.mem_of_getElem? (i := 11) rfl)
theorem dX5_meetGlass_22 : decode cX5_meetGlass 22 = .ok (.iconst (-1), 1) := dgX5_meetGlass_0 (22, (.iconst (-1), 1)) (List.mem_of_getElem? (i := 12) rfl)
theorem dX5_meetGlass_23 : decode cX5_meetGlass 23 = .ok (.if_icmp .ne 13, 3) := dgX5_meetGlass_0 (23, (.if_icmp .ne 13, 3)) (List.mem_of_getElem? (i := 13) rfl)
theorem dX5_meetGlass_26 : decode cX5_meetGlass 26 = .ok (.aload_n 0, 1) := dgX5_meetGlass_0 (26, (.aload_n 0, 1)) (List.mem_of_getElem? (i := 14) rfl)
theorem dX5_meetGlass_27 : decode cX5_meetGlass 27 = .ok (.getfield 22, 3) := dgX5_meetGlass_0 (27, (.getfield 22, 3)) (List.mem_of_getElem? (i := 15) rfl)
theorem dX5_meetGlass_30 : decode cX5_meetGlass 30 = .ok (.getfield 98, 3) := dgX5_meetGlass_0 (30, (.getfield 98, 3)) (List.mem_of_getElem? (i := 16) rfl)
theorem dX5_meetGlass_33 : decode cX5_meetGlass 33 = .ok (.goto 10, 3) := dgX5_meetGlass_0 (33, (.goto 10, 3)) (List.mem_of_getElem? (i := 17) rfl)
theorem dX5_meetGlass_36 : decode cX5_meetGlass 36 = .ok (.aload_n 0, 1) := dgX5_meetGlass_0 (36, (.aload_n 0, 1)) (List.mem_of_getElem? (i := 18) rfl)
theorem dX5_meetGlass_37 : decode cX5_meetGlass 37 = .ok (.getfield 22, 3) := dgX5_meetGlass_0 (37, (.getfield 22, 3)) (List.mem_of_getElem? (i := 19) rfl)
theorem dX5_meetGlass_40 : decode cX5_meetGlass 40 = .ok (.getfield 128, 3) := dgX5_meetGlass_0 (40, (.getfield 128, 3)) (List.mem_of_getElem? (i := 20) rfl)
theorem dX5_meetGlass_43 : decode cX5_meetGlass 43 = .ok (.astore_n 2, 1) := dgX5_meetGlass_0 (43, (.astore_n 2, 1)) (List.mem_of_getElem? (i := 21) rfl)
theorem dX5_meetGlass_44 : decode cX5_meetGlass 44 = .ok (.iload_n 1, 1) := dgX5_meetGlass_0 (44, (.iload_n 1, 1)) (List.mem_of_getElem? (i := 22) rfl)
theorem dX5_meetGlass_45 : decode cX5_meetGlass 45 = .ok (.iconst (-1), 1) := dgX5_meetGlass_0 (45, (.iconst (-1), 1)) (List.mem_of_getElem? (i := 23) rfl)
theorem dX5_meetGlass_46 : decode cX5_meetGlass 46 = .ok (.if_icmp .ne 21, 3) := dgX5_meetGlass_0 (46, (.if_icmp .ne 21, 3)) (List.mem_of_getElem? (i := 24) rfl)
theorem dX5_meetGlass_49 : decode cX5_meetGlass 49 = .ok (.aload_n 0, 1) := dgX5_meetGlass_0 (49, (.aload_n 0, 1)) (List.mem_of_getElem? (i := 25) rfl)
theorem dX5_meetGlass_50 : decode cX5_meetGlass 50 = .ok (.getfield 22, 3) := dgX5_meetGlass_0 (50, (.getfield 22, 3)) (List.mem_of_getElem? (i := 26) rfl)
theorem dX5_meetGlass_53 : decode cX5_meetGlass 53 = .ok (.getfield 98, 3) := dgX5_meetGlass_0 (53, (.getfield 98, 3)) (List.mem_of_getElem? (i := 27) rfl)
theorem dX5_meetGlass_56 : decode cX5_meetGlass 56 = .ok (.iconst 0, 1) := dgX5_meetGlass_0 (56, (.iconst 0, 1)) (List.mem_of_getElem? (i := 28) rfl)
theorem dX5_meetGlass_57 : decode cX5_meetGlass 57 = .ok (.aload_n 0, 1) := dgX5_meetGlass_0 (57, (.aload_n 0, 1)) (List.mem_of_getElem? (i := 29) rfl)
theorem dX5_meetGlass_58 : decode cX5_meetGlass 58 = .ok (.getfield 26, 3) := dgX5_meetGlass_0 (58, (.getfield 26, 3)) (List.mem_of_getElem? (i := 30) rfl)
theorem dX5_meetGlass_61 : decode cX5_meetGlass 61 = .ok (.invokevirtual 131, 3) := dgX5_meetGlass_0 (61, (.invokevirtual 131, 3)) (List.mem_of_getElem? (i := 31) rfl)
theorem dX5_meetGlass_64 : decode cX5_meetGlass 64 = .ok (.goto 4, 3) := dgX5_meetGlass_0 (64, (.goto 4, 3)) (List.mem_of_getElem? (i := 32) rfl)
theorem dX5_meetGlass_67 : decode cX5_meetGlass 67 = .ok (.iload_n 1, 1) := dgX5_meetGlass_0 (67, (.iload_n 1, 1)) (List.mem_of_getElem? (i := 33) rfl)
theorem dX5_meetGlass_68 : decode cX5_meetGlass 68 = .ok (.istore_n 3, 1) := dgX5_meetGlass_0 (68, (.istore_n 3, 1)) (List.mem_of_getElem? (i := 34) rfl)
theorem dX5_meetGlass_69 : decode cX5_meetGlass 69 = .ok (.iload_n 1, 1) := dgX5_meetGlass_0 (69, (.iload_n 1, 1)) (List.mem_of_getElem? (i := 35) rfl)
theorem dX5_meetGlass_70 : decode cX5_meetGlass 70 = .ok (.iconst (-1), 1) := dgX5_meetGlass_0 (70, (.iconst (-1), 1)) (List.mem_of_getElem? (i := 36) rfl)
theorem dX5_meetGlass_71 : decode cX5_meetGlass 71 = .ok (.if_icmp .ne 10, 3) := dgX5_meetGlass_0 (71, (.if_icmp .ne 10, 3)) (List.mem_of_getElem? (i := 37) rfl)
theorem dX5_meetGlass_74 : decode cX5_meetGlass 74 = .ok (.bipush 6, 2) := dgX5_meetGlass_0 (74, (.bipush 6, 2)) (List.mem_of_getElem? (i := 38) rfl)
theorem dX5_meetGlass_76 : decode cX5_meetGlass 76 = .ok (.iload_n 3, 1) := dgX5_meetGlass_0 (76, (.iload_n 3, 1)) (List.mem_of_getElem? (i := 39) rfl)
theorem dgX5_meetGlass_1 : ∀ r ∈ ([(77, (.iadd, 1)), (78, (.goto 4, 3)), (81, (.iload_n 1, 1)), (82, (.istore 4, 2)), (84, (.aload_n 2, 1)), (85, (.iload_n 3, 1)), (86, (.iconst 1, 1)), (87, (.invokevirtual 107, 3)), (90, (.istore 5, 2)), (92, (.aload_n 0, 1)), (93, (.dup, 1)), (94, (.getfield 95, 3)), (97, (.iconst 1, 1)), (98, (.iload 4, 2)), (100, (.ishl, 1)), (101, (.ior, 1)), (102, (.putfield 95, 3)), (105, (.aload_n 0, 1)), (106, (.getfield 22, 3)), (109, (.invokevirtual 113, 3)), (112, (.astore 6, 2)), (114, (.aload_n 0, 1)), (115, (.iload 4, 2)), (117, (.iconst (-1), 1)), (118, (.invokevirtual 120, 3)), (121, (.aload_n 2, 1)), (122, (.iload_n 3, 1)), (123, (.iconst 4, 1)), (124, (.invokevirtual 107, 3)), (127, (.aload_n 0, 1)), (128, (.getfield 33, 3)), (131, (.ishr, 1)), (132, (.iconst 1, 1)), (133, (.iand, 1)), (134, (.ifCond .ne 35, 3)), (137, (.aload_n 0, 1)), (138, (.getfield 12, 3)), (141, (.aload 6, 2)), (143, (.iconst 2, 1)), (144, (.invokevirtual 124, 3))] : List (Nat × (Instr × Nat))), decode cX5_meetGlass r.1 = .ok r.2 := by decide +kernel
theorem dX5_meetGlass_77 : decode cX5_meetGlass 77 = .ok (.iadd, 1) := dgX5_meetGlass_1 (77, (.iadd, 1)) (List.mem_of_getElem? (i := 0) rfl)
theorem dX5_meetGlass_78 : decode cX5_meetGlass 78 = .ok (.goto 4, 3) := dgX5_meetGlass_1 (78, (.goto 4, 3)) (List.mem_of_getElem? (i := 1) rfl)
theorem dX5_meetGlass_81 : decode cX5_meetGlass 81 = .ok (.iload_n 1, 1) := dgX5_meetGlass_1 (81, (.iload_n 1, 1)) (List.mem_of_getElem? (i := 2) rfl)
theorem dX5_meetGlass_82 : decode cX5_meetGlass 82 = .ok (.istore 4, 2) := dgX5_meetGlass_1 (82, (.istore 4, 2)) (List.mem_of_getElem? (i := 3) rfl)
theorem dX5_meetGlass_84 : decode cX5_meetGlass 84 = .ok (.aload_n 2, 1) := dgX5_meetGlass_1 (84, (.aload_n 2, 1)) (List.mem_of_getElem? (i := 4) rfl)
theorem dX5_meetGlass_85 : decode cX5_meetGlass 85 = .ok (.iload_n 3, 1) := dgX5_meetGlass_1 (85, (.iload_n 3, 1)) (List.mem_of_getElem? (i := 5) rfl)
theorem dX5_meetGlass_86 : decode cX5_meetGlass 86 = .ok (.iconst 1, 1) := dgX5_meetGlass_1 (86, (.iconst 1, 1)) (List.mem_of_getElem? (i := 6) rfl)
theorem dX5_meetGlass_87 : decode cX5_meetGlass 87 = .ok (.invokevirtual 107, 3) := dgX5_meetGlass_1 (87, (.invokevirtual 107, 3)) (List.mem_of_getElem? (i := 7) rfl)
theorem dX5_meetGlass_90 : decode cX5_meetGlass 90 = .ok (.istore 5, 2) := dgX5_meetGlass_1 (90, (.istore 5, 2)) (List.mem_of_getElem? (i := 8) rfl)
theorem dX5_meetGlass_92 : decode cX5_meetGlass 92 = .ok (.aload_n 0, 1) := dgX5_meetGlass_1 (92, (.aload_n 0, 1)) (List.mem_of_getElem? (i := 9) rfl)
theorem dX5_meetGlass_93 : decode cX5_meetGlass 93 = .ok (.dup, 1) := dgX5_meetGlass_1 (93, (.dup, 1)) (List.mem_of_getElem? (i := 10) rfl)
theorem dX5_meetGlass_94 : decode cX5_meetGlass 94 = .ok (.getfield 95, 3) := dgX5_meetGlass_1 (94, (.getfield 95, 3)) (List.mem_of_getElem? (i := 11) rfl)
theorem dX5_meetGlass_97 : decode cX5_meetGlass 97 = .ok (.iconst 1, 1) := dgX5_meetGlass_1 (97, (.iconst 1, 1)) (List.mem_of_getElem? (i := 12) rfl)
theorem dX5_meetGlass_98 : decode cX5_meetGlass 98 = .ok (.iload 4, 2) := dgX5_meetGlass_1 (98, (.iload 4, 2)) (List.mem_of_getElem? (i := 13) rfl)
theorem dX5_meetGlass_100 : decode cX5_meetGlass 100 = .ok (.ishl, 1) := dgX5_meetGlass_1 (100, (.ishl, 1)) (List.mem_of_getElem? (i := 14) rfl)
theorem dX5_meetGlass_101 : decode cX5_meetGlass 101 = .ok (.ior, 1) := dgX5_meetGlass_1 (101, (.ior, 1)) (List.mem_of_getElem? (i := 15) rfl)
theorem dX5_meetGlass_102 : decode cX5_meetGlass 102 = .ok (.putfield 95, 3) := dgX5_meetGlass_1 (102, (.putfield 95, 3)) (List.mem_of_getElem? (i := 16) rfl)
theorem dX5_meetGlass_105 : decode cX5_meetGlass 105 = .ok (.aload_n 0, 1) := dgX5_meetGlass_1 (105, (.aload_n 0, 1)) (List.mem_of_getElem? (i := 17) rfl)
theorem dX5_meetGlass_106 : decode cX5_meetGlass 106 = .ok (.getfield 22, 3) := dgX5_meetGlass_1 (106, (.getfield 22, 3)) (List.mem_of_getElem? (i := 18) rfl)
theorem dX5_meetGlass_109 : decode cX5_meetGlass 109 = .ok (.invokevirtual 113, 3) := dgX5_meetGlass_1 (109, (.invokevirtual 113, 3)) (List.mem_of_getElem? (i := 19) rfl)
theorem dX5_meetGlass_112 : decode cX5_meetGlass 112 = .ok (.astore 6, 2) := dgX5_meetGlass_1 (112, (.astore 6, 2)) (List.mem_of_getElem? (i := 20) rfl)
theorem dX5_meetGlass_114 : decode cX5_meetGlass 114 = .ok (.aload_n 0, 1) := dgX5_meetGlass_1 (114, (.aload_n 0, 1)) (List.mem_of_getElem? (i := 21) rfl)
theorem dX5_meetGlass_115 : decode cX5_meetGlass 115 = .ok (.iload 4, 2) := dgX5_meetGlass_1 (115, (.iload 4, 2)) (List.mem_of_getElem? (i := 22) rfl)
theorem dX5_meetGlass_117 : decode cX5_meetGlass 117 = .ok (.iconst (-1), 1) := dgX5_meetGlass_1 (117, (.iconst (-1), 1)) (List.mem_of_getElem? (i := 23) rfl)
theorem dX5_meetGlass_118 : decode cX5_meetGlass 118 = .ok (.invokevirtual 120, 3) := dgX5_meetGlass_1 (118, (.invokevirtual 120, 3)) (List.mem_of_getElem? (i := 24) rfl)
theorem dX5_meetGlass_121 : decode cX5_meetGlass 121 = .ok (.aload_n 2, 1) := dgX5_meetGlass_1 (121, (.aload_n 2, 1)) (List.mem_of_getElem? (i := 25) rfl)
theorem dX5_meetGlass_122 : decode cX5_meetGlass 122 = .ok (.iload_n 3, 1) := dgX5_meetGlass_1 (122, (.iload_n 3, 1)) (List.mem_of_getElem? (i := 26) rfl)
theorem dX5_meetGlass_123 : decode cX5_meetGlass 123 = .ok (.iconst 4, 1) := dgX5_meetGlass_1 (123, (.iconst 4, 1)) (List.mem_of_getElem? (i := 27) rfl)
theorem dX5_meetGlass_124 : decode cX5_meetGlass 124 = .ok (.invokevirtual 107, 3) := dgX5_meetGlass_1 (124, (.invokevirtual 107, 3)) (List.mem_of_getElem? (i := 28) rfl)
theorem dX5_meetGlass_127 : decode cX5_meetGlass 127 = .ok (.aload_n 0, 1) := dgX5_meetGlass_1 (127, (.aload_n 0, 1)) (List.mem_of_getElem? (i := 29) rfl)
theorem dX5_meetGlass_128 : decode cX5_meetGlass 128 = .ok (.getfield 33, 3) := dgX5_meetGlass_1 (128, (.getfield 33, 3)) (List.mem_of_getElem? (i := 30) rfl)
theorem dX5_meetGlass_131 : decode cX5_meetGlass 131 = .ok (.ishr, 1) := dgX5_meetGlass_1 (131, (.ishr, 1)) (List.mem_of_getElem? (i := 31) rfl)
theorem dX5_meetGlass_132 : decode cX5_meetGlass 132 = .ok (.iconst 1, 1) := dgX5_meetGlass_1 (132, (.iconst 1, 1)) (List.mem_of_getElem? (i := 32) rfl)
theorem dX5_meetGlass_133 : decode cX5_meetGlass 133 = .ok (.iand, 1) := dgX5_meetGlass_1 (133, (.iand, 1)) (List.mem_of_getElem? (i := 33) rfl)
theorem dX5_meetGlass_134 : decode cX5_meetGlass 134 = .ok (.ifCond .ne 35, 3) := dgX5_meetGlass_1 (134, (.ifCond .ne 35, 3)) (List.mem_of_getElem? (i := 34) rfl)
theorem dX5_meetGlass_137 : decode cX5_meetGlass 137 = .ok (.aload_n 0, 1) := dgX5_meetGlass_1 (137, (.aload_n 0, 1)) (List.mem_of_getElem? (i := 35) rfl)
theorem dX5_meetGlass_138 : decode cX5_meetGlass 138 = .ok (.getfield 12, 3) := dgX5_meetGlass_1 (138, (.getfield 12, 3)) (List.mem_of_getElem? (i := 36) rfl)
theorem dX5_meetGlass_141 : decode cX5_meetGlass 141 = .ok (.aload 6, 2) := dgX5_meetGlass_1 (141, (.aload 6, 2)) (List.mem_of_getElem? (i := 37) rfl)
theorem dX5_meetGlass_143 : decode cX5_meetGlass 143 = .ok (.iconst 2, 1) := dgX5_meetGlass_1 (143, (.iconst 2, 1)) (List.mem_of_getElem? (i := 38) rfl)
theorem dX5_meetGlass_144 : decode cX5_meetGlass 144 = .ok (.invokevirtual 124, 3) := dgX5_meetGlass_1 (144, (.invokevirtual 124, 3)) (List.mem_of_getElem? (i := 39) rfl)
theorem dgX5_meetGlass_2 : ∀ r ∈ ([(147, (.ifCond .ne 22, 3)), (150, (.iload 5, 2)), (152, (.iconst 2, 1)), (153, (.if_icmp .lt 17, 3)), (156, (.iload 5, 2)), (158, (.iconst 2, 1)), (159, (.isub, 1)), (160, (.aload_n 0, 1)), (161, (.getfield 30, 3)), (164, (.iconst 2, 1)), (165, (.ixor, 1)), (166, (.if_icmp .eq 4, 3)), (169, (.return_, 1)), (170, (.aload_n 0, 1)), (171, (.getfield 12, 3)), (174, (.aload 6, 2)), (176, (.iconst 0, 1)), (177, (.invokevirtual 124, 3)), (180, (.ifCond .eq 15, 3)), (183, (.aload_n 0, 1)), (184, (.getfield 12, 3)), (187, (.bipush 23, 2)), (189, (.invokevirtual 134, 3)), (192, (.goto 9, 3)), (195, (.aload_n 2, 1)), (196, (.iload_n 3, 1)), (197, (.iconst 2, 1)), (198, (.invokevirtual 107, 3)), (201, (.istore 7, 2)), (203, (.iload 7, 2)), (205, (.aload_n 0, 1)), (206, (.getfield 33, 3)), (209, (.if_icmp .le 4, 3)), (212, (.return_, 1)), (213, (.aload_n 0, 1)), (214, (.getfield 12, 3)), (217, (.aload 6, 2)), (219, (.iconst 1, 1)), (220, (.invokevirtual 124, 3)), (223, (.ifCond .eq 15, 3))] : List (Nat × (Instr × Nat))), decode cX5_meetGlass r.1 = .ok r.2 := by decide +kernel
theorem dX5_meetGlass_147 : decode cX5_meetGlass 147 = .ok (.ifCond .ne 22, 3) := dgX5_meetGlass_2 (147, (.ifCond .ne 22, 3)) (List.mem_of_getElem? (i := 0) rfl)
theorem dX5_meetGlass_150 : decode cX5_meetGlass 150 = .ok (.iload 5, 2) := dgX5_meetGlass_2 (150, (.iload 5, 2)) (List.mem_of_getElem? (i := 1) rfl)
theorem dX5_meetGlass_152 : decode cX5_meetGlass 152 = .ok (.iconst 2, 1) := dgX5_meetGlass_2 (152, (.iconst 2, 1)) (List.mem_of_getElem? (i := 2) rfl)
theorem dX5_meetGlass_153 : decode cX5_meetGlass 153 = .ok (.if_icmp .lt 17, 3) := dgX5_meetGlass_2 (153, (.if_icmp .lt 17, 3)) (List.mem_of_getElem? (i := 3) rfl)
theorem dX5_meetGlass_156 : decode cX5_meetGlass 156 = .ok (.iload 5, 2) := dgX5_meetGlass_2 (156, (.iload 5, 2)) (List.mem_of_getElem? (i := 4) rfl)
theorem dX5_meetGlass_158 : decode cX5_meetGlass 158 = .ok (.iconst 2, 1) := dgX5_meetGlass_2 (158, (.iconst 2, 1)) (List.mem_of_getElem? (i := 5) rfl)
theorem dX5_meetGlass_159 : decode cX5_meetGlass 159 = .ok (.isub, 1) := dgX5_meetGlass_2 (159, (.isub, 1)) (List.mem_of_getElem? (i := 6) rfl)
theorem dX5_meetGlass_160 : decode cX5_meetGlass 160 = .ok (.aload_n 0, 1) := dgX5_meetGlass_2 (160, (.aload_n 0, 1)) (List.mem_of_getElem? (i := 7) rfl)
theorem dX5_meetGlass_161 : decode cX5_meetGlass 161 = .ok (.getfield 30, 3) := dgX5_meetGlass_2 (161, (.getfield 30, 3)) (List.mem_of_getElem? (i := 8) rfl)
theorem dX5_meetGlass_164 : decode cX5_meetGlass 164 = .ok (.iconst 2, 1) := dgX5_meetGlass_2 (164, (.iconst 2, 1)) (List.mem_of_getElem? (i := 9) rfl)
theorem dX5_meetGlass_165 : decode cX5_meetGlass 165 = .ok (.ixor, 1) := dgX5_meetGlass_2 (165, (.ixor, 1)) (List.mem_of_getElem? (i := 10) rfl)
theorem dX5_meetGlass_166 : decode cX5_meetGlass 166 = .ok (.if_icmp .eq 4, 3) := dgX5_meetGlass_2 (166, (.if_icmp .eq 4, 3)) (List.mem_of_getElem? (i := 11) rfl)
theorem dX5_meetGlass_169 : decode cX5_meetGlass 169 = .ok (.return_, 1) := dgX5_meetGlass_2 (169, (.return_, 1)) (List.mem_of_getElem? (i := 12) rfl)
theorem dX5_meetGlass_170 : decode cX5_meetGlass 170 = .ok (.aload_n 0, 1) := dgX5_meetGlass_2 (170, (.aload_n 0, 1)) (List.mem_of_getElem? (i := 13) rfl)
theorem dX5_meetGlass_171 : decode cX5_meetGlass 171 = .ok (.getfield 12, 3) := dgX5_meetGlass_2 (171, (.getfield 12, 3)) (List.mem_of_getElem? (i := 14) rfl)
theorem dX5_meetGlass_174 : decode cX5_meetGlass 174 = .ok (.aload 6, 2) := dgX5_meetGlass_2 (174, (.aload 6, 2)) (List.mem_of_getElem? (i := 15) rfl)
theorem dX5_meetGlass_176 : decode cX5_meetGlass 176 = .ok (.iconst 0, 1) := dgX5_meetGlass_2 (176, (.iconst 0, 1)) (List.mem_of_getElem? (i := 16) rfl)
theorem dX5_meetGlass_177 : decode cX5_meetGlass 177 = .ok (.invokevirtual 124, 3) := dgX5_meetGlass_2 (177, (.invokevirtual 124, 3)) (List.mem_of_getElem? (i := 17) rfl)
theorem dX5_meetGlass_180 : decode cX5_meetGlass 180 = .ok (.ifCond .eq 15, 3) := dgX5_meetGlass_2 (180, (.ifCond .eq 15, 3)) (List.mem_of_getElem? (i := 18) rfl)
theorem dX5_meetGlass_183 : decode cX5_meetGlass 183 = .ok (.aload_n 0, 1) := dgX5_meetGlass_2 (183, (.aload_n 0, 1)) (List.mem_of_getElem? (i := 19) rfl)
theorem dX5_meetGlass_184 : decode cX5_meetGlass 184 = .ok (.getfield 12, 3) := dgX5_meetGlass_2 (184, (.getfield 12, 3)) (List.mem_of_getElem? (i := 20) rfl)
theorem dX5_meetGlass_187 : decode cX5_meetGlass 187 = .ok (.bipush 23, 2) := dgX5_meetGlass_2 (187, (.bipush 23, 2)) (List.mem_of_getElem? (i := 21) rfl)
theorem dX5_meetGlass_189 : decode cX5_meetGlass 189 = .ok (.invokevirtual 134, 3) := dgX5_meetGlass_2 (189, (.invokevirtual 134, 3)) (List.mem_of_getElem? (i := 22) rfl)
theorem dX5_meetGlass_192 : decode cX5_meetGlass 192 = .ok (.goto 9, 3) := dgX5_meetGlass_2 (192, (.goto 9, 3)) (List.mem_of_getElem? (i := 23) rfl)
theorem dX5_meetGlass_195 : decode cX5_meetGlass 195 = .ok (.aload_n 2, 1) := dgX5_meetGlass_2 (195, (.aload_n 2, 1)) (List.mem_of_getElem? (i := 24) rfl)
theorem dX5_meetGlass_196 : decode cX5_meetGlass 196 = .ok (.iload_n 3, 1) := dgX5_meetGlass_2 (196, (.iload_n 3, 1)) (List.mem_of_getElem? (i := 25) rfl)
theorem dX5_meetGlass_197 : decode cX5_meetGlass 197 = .ok (.iconst 2, 1) := dgX5_meetGlass_2 (197, (.iconst 2, 1)) (List.mem_of_getElem? (i := 26) rfl)
theorem dX5_meetGlass_198 : decode cX5_meetGlass 198 = .ok (.invokevirtual 107, 3) := dgX5_meetGlass_2 (198, (.invokevirtual 107, 3)) (List.mem_of_getElem? (i := 27) rfl)
theorem dX5_meetGlass_201 : decode cX5_meetGlass 201 = .ok (.istore 7, 2) := dgX5_meetGlass_2 (201, (.istore 7, 2)) (List.mem_of_getElem? (i := 28) rfl)
theorem dX5_meetGlass_203 : decode cX5_meetGlass 203 = .ok (.iload 7, 2) := dgX5_meetGlass_2 (203, (.iload 7, 2)) (List.mem_of_getElem? (i := 29) rfl)
theorem dX5_meetGlass_205 : decode cX5_meetGlass 205 = .ok (.aload_n 0, 1) := dgX5_meetGlass_2 (205, (.aload_n 0, 1)) (List.mem_of_getElem? (i := 30) rfl)
theorem dX5_meetGlass_206 : decode cX5_meetGlass 206 = .ok (.getfield 33, 3) := dgX5_meetGlass_2 (206, (.getfield 33, 3)) (List.mem_of_getElem? (i := 31) rfl)
theorem dX5_meetGlass_209 : decode cX5_meetGlass 209 = .ok (.if_icmp .le 4, 3) := dgX5_meetGlass_2 (209, (.if_icmp .le 4, 3)) (List.mem_of_getElem? (i := 32) rfl)
theorem dX5_meetGlass_212 : decode cX5_meetGlass 212 = .ok (.return_, 1) := dgX5_meetGlass_2 (212, (.return_, 1)) (List.mem_of_getElem? (i := 33) rfl)
theorem dX5_meetGlass_213 : decode cX5_meetGlass 213 = .ok (.aload_n 0, 1) := dgX5_meetGlass_2 (213, (.aload_n 0, 1)) (List.mem_of_getElem? (i := 34) rfl)
theorem dX5_meetGlass_214 : decode cX5_meetGlass 214 = .ok (.getfield 12, 3) := dgX5_meetGlass_2 (214, (.getfield 12, 3)) (List.mem_of_getElem? (i := 35) rfl)
theorem dX5_meetGlass_217 : decode cX5_meetGlass 217 = .ok (.aload 6, 2) := dgX5_meetGlass_2 (217, (.aload 6, 2)) (List.mem_of_getElem? (i := 36) rfl)
theorem dX5_meetGlass_219 : decode cX5_meetGlass 219 = .ok (.iconst 1, 1) := dgX5_meetGlass_2 (219, (.iconst 1, 1)) (List.mem_of_getElem? (i := 37) rfl)
theorem dX5_meetGlass_220 : decode cX5_meetGlass 220 = .ok (.invokevirtual 124, 3) := dgX5_meetGlass_2 (220, (.invokevirtual 124, 3)) (List.mem_of_getElem? (i := 38) rfl)
theorem dX5_meetGlass_223 : decode cX5_meetGlass 223 = .ok (.ifCond .eq 15, 3) := dgX5_meetGlass_2 (223, (.ifCond .eq 15, 3)) (List.mem_of_getElem? (i := 39) rfl)
theorem dgX5_meetGlass_3 : ∀ r ∈ ([(226, (.aload_n 0, 1)), (227, (.getfield 12, 3)), (230, (.bipush 10, 2)), (232, (.invokevirtual 134, 3)), (235, (.goto 9, 3)), (238, (.aload_n 2, 1)), (239, (.iload_n 3, 1)), (240, (.iconst 3, 1)), (241, (.invokevirtual 107, 3)), (244, (.istore 8, 2)), (246, (.aload_n 0, 1)), (247, (.aload_n 0, 1)), (248, (.getfield 46, 3)), (251, (.bipush 10, 2)), (253, (.iload 8, 2)), (255, (.isub, 1)), (256, (.imul, 1)), (257, (.bipush 10, 2)), (259, (.idiv, 1)), (260, (.putfield 46, 3)), (263, (.aload_n 0, 1)), (264, (.getfield 46, 3)), (267, (.aload_n 0, 1)), (268, (.getfield 22, 3)), (271, (.getfield 138, 3)), (274, (.if_icmp .ge 4, 3)), (277, (.return_, 1)), (278, (.aload_n 0, 1)), (279, (.dup, 1)), (280, (.getfield 33, 3)), (283, (.iload 7, 2)), (285, (.isub, 1)), (286, (.putfield 33, 3)), (289, (.aload_n 0, 1)), (290, (.iload 5, 2)), (292, (.ifCond .ne 12, 3)), (295, (.aload_n 0, 1)), (296, (.getfield 30, 3)), (299, (.iconst 1, 1)), (300, (.ixor, 1))] : List (Nat × (Instr × Nat))), decode cX5_meetGlass r.1 = .ok r.2 := by decide +kernel
theorem dX5_meetGlass_226 : decode cX5_meetGlass 226 = .ok (.aload_n 0, 1) := dgX5_meetGlass_3 (226, (.aload_n 0, 1)) (List.mem_of_getElem? (i := 0) rfl)
theorem dX5_meetGlass_227 : decode cX5_meetGlass 227 = .ok (.getfield 12, 3) := dgX5_meetGlass_3 (227, (.getfield 12, 3)) (List.mem_of_getElem? (i := 1) rfl)
theorem dX5_meetGlass_230 : decode cX5_meetGlass 230 = .ok (.bipush 10, 2) := dgX5_meetGlass_3 (230, (.bipush 10, 2)) (List.mem_of_getElem? (i := 2) rfl)
theorem dX5_meetGlass_232 : decode cX5_meetGlass 232 = .ok (.invokevirtual 134, 3) := dgX5_meetGlass_3 (232, (.invokevirtual 134, 3)) (List.mem_of_getElem? (i := 3) rfl)
theorem dX5_meetGlass_235 : decode cX5_meetGlass 235 = .ok (.goto 9, 3) := dgX5_meetGlass_3 (235, (.goto 9, 3)) (List.mem_of_getElem? (i := 4) rfl)
theorem dX5_meetGlass_238 : decode cX5_meetGlass 238 = .ok (.aload_n 2, 1) := dgX5_meetGlass_3 (238, (.aload_n 2, 1)) (List.mem_of_getElem? (i := 5) rfl)
theorem dX5_meetGlass_239 : decode cX5_meetGlass 239 = .ok (.iload_n 3, 1) := dgX5_meetGlass_3 (239, (.iload_n 3, 1)) (List.mem_of_getElem? (i := 6) rfl)
theorem dX5_meetGlass_240 : decode cX5_meetGlass 240 = .ok (.iconst 3, 1) := dgX5_meetGlass_3 (240, (.iconst 3, 1)) (List.mem_of_getElem? (i := 7) rfl)
theorem dX5_meetGlass_241 : decode cX5_meetGlass 241 = .ok (.invokevirtual 107, 3) := dgX5_meetGlass_3 (241, (.invokevirtual 107, 3)) (List.mem_of_getElem? (i := 8) rfl)
theorem dX5_meetGlass_244 : decode cX5_meetGlass 244 = .ok (.istore 8, 2) := dgX5_meetGlass_3 (244, (.istore 8, 2)) (List.mem_of_getElem? (i := 9) rfl)
theorem dX5_meetGlass_246 : decode cX5_meetGlass 246 = .ok (.aload_n 0, 1) := dgX5_meetGlass_3 (246, (.aload_n 0, 1)) (List.mem_of_getElem? (i := 10) rfl)
theorem dX5_meetGlass_247 : decode cX5_meetGlass 247 = .ok (.aload_n 0, 1) := dgX5_meetGlass_3 (247, (.aload_n 0, 1)) (List.mem_of_getElem? (i := 11) rfl)
theorem dX5_meetGlass_248 : decode cX5_meetGlass 248 = .ok (.getfield 46, 3) := dgX5_meetGlass_3 (248, (.getfield 46, 3)) (List.mem_of_getElem? (i := 12) rfl)
theorem dX5_meetGlass_251 : decode cX5_meetGlass 251 = .ok (.bipush 10, 2) := dgX5_meetGlass_3 (251, (.bipush 10, 2)) (List.mem_of_getElem? (i := 13) rfl)
theorem dX5_meetGlass_253 : decode cX5_meetGlass 253 = .ok (.iload 8, 2) := dgX5_meetGlass_3 (253, (.iload 8, 2)) (List.mem_of_getElem? (i := 14) rfl)
theorem dX5_meetGlass_255 : decode cX5_meetGlass 255 = .ok (.isub, 1) := dgX5_meetGlass_3 (255, (.isub, 1)) (List.mem_of_getElem? (i := 15) rfl)
theorem dX5_meetGlass_256 : decode cX5_meetGlass 256 = .ok (.imul, 1) := dgX5_meetGlass_3 (256, (.imul, 1)) (List.mem_of_getElem? (i := 16) rfl)
theorem dX5_meetGlass_257 : decode cX5_meetGlass 257 = .ok (.bipush 10, 2) := dgX5_meetGlass_3 (257, (.bipush 10, 2)) (List.mem_of_getElem? (i := 17) rfl)
theorem dX5_meetGlass_259 : decode cX5_meetGlass 259 = .ok (.idiv, 1) := dgX5_meetGlass_3 (259, (.idiv, 1)) (List.mem_of_getElem? (i := 18) rfl)
theorem dX5_meetGlass_260 : decode cX5_meetGlass 260 = .ok (.putfield 46, 3) := dgX5_meetGlass_3 (260, (.putfield 46, 3)) (List.mem_of_getElem? (i := 19) rfl)
theorem dX5_meetGlass_263 : decode cX5_meetGlass 263 = .ok (.aload_n 0, 1) := dgX5_meetGlass_3 (263, (.aload_n 0, 1)) (List.mem_of_getElem? (i := 20) rfl)
theorem dX5_meetGlass_264 : decode cX5_meetGlass 264 = .ok (.getfield 46, 3) := dgX5_meetGlass_3 (264, (.getfield 46, 3)) (List.mem_of_getElem? (i := 21) rfl)
theorem dX5_meetGlass_267 : decode cX5_meetGlass 267 = .ok (.aload_n 0, 1) := dgX5_meetGlass_3 (267, (.aload_n 0, 1)) (List.mem_of_getElem? (i := 22) rfl)
theorem dX5_meetGlass_268 : decode cX5_meetGlass 268 = .ok (.getfield 22, 3) := dgX5_meetGlass_3 (268, (.getfield 22, 3)) (List.mem_of_getElem? (i := 23) rfl)
theorem dX5_meetGlass_271 : decode cX5_meetGlass 271 = .ok (.getfield 138, 3) := dgX5_meetGlass_3 (271, (.getfield 138, 3)) (List.mem_of_getElem? (i := 24) rfl)
theorem dX5_meetGlass_274 : decode cX5_meetGlass 274 = .ok (.if_icmp .ge 4, 3) := dgX5_meetGlass_3 (274, (.if_icmp .ge 4, 3)) (List.mem_of_getElem? (i := 25) rfl)
theorem dX5_meetGlass_277 : decode cX5_meetGlass 277 = .ok (.return_, 1) := dgX5_meetGlass_3 (277, (.return_, 1)) (List.mem_of_getElem? (i := 26) rfl)
theorem dX5_meetGlass_278 : decode cX5_meetGlass 278 = .ok (.aload_n 0, 1) := dgX5_meetGlass_3 (278, (.aload_n 0, 1)) (List.mem_of_getElem? (i := 27) rfl)
theorem dX5_meetGlass_279 : decode cX5_meetGlass 279 = .ok (.dup, 1) := dgX5_meetGlass_3 (279, (.dup, 1)) (List.mem_of_getElem? (i := 28) rfl)
theorem dX5_meetGlass_280 : decode cX5_meetGlass 280 = .ok (.getfield 33, 3) := dgX5_meetGlass_3 (280, (.getfield 33, 3)) (List.mem_of_getElem? (i := 29) rfl)
theorem dX5_meetGlass_283 : decode cX5_meetGlass 283 = .ok (.iload 7, 2) := dgX5_meetGlass_3 (283, (.iload 7, 2)) (List.mem_of_getElem? (i := 30) rfl)
theorem dX5_meetGlass_285 : decode cX5_meetGlass 285 = .ok (.isub, 1) := dgX5_meetGlass_3 (285, (.isub, 1)) (List.mem_of_getElem? (i := 31) rfl)
theorem dX5_meetGlass_286 : decode cX5_meetGlass 286 = .ok (.putfield 33, 3) := dgX5_meetGlass_3 (286, (.putfield 33, 3)) (List.mem_of_getElem? (i := 32) rfl)
theorem dX5_meetGlass_289 : decode cX5_meetGlass 289 = .ok (.aload_n 0, 1) := dgX5_meetGlass_3 (289, (.aload_n 0, 1)) (List.mem_of_getElem? (i := 33) rfl)
theorem dX5_meetGlass_290 : decode cX5_meetGlass 290 = .ok (.iload 5, 2) := dgX5_meetGlass_3 (290, (.iload 5, 2)) (List.mem_of_getElem? (i := 34) rfl)
theorem dX5_meetGlass_292 : decode cX5_meetGlass 292 = .ok (.ifCond .ne 12, 3) := dgX5_meetGlass_3 (292, (.ifCond .ne 12, 3)) (List.mem_of_getElem? (i := 35) rfl)
theorem dX5_meetGlass_295 : decode cX5_meetGlass 295 = .ok (.aload_n 0, 1) := dgX5_meetGlass_3 (295, (.aload_n 0, 1)) (List.mem_of_getElem? (i := 36) rfl)
theorem dX5_meetGlass_296 : decode cX5_meetGlass 296 = .ok (.getfield 30, 3) := dgX5_meetGlass_3 (296, (.getfield 30, 3)) (List.mem_of_getElem? (i := 37) rfl)
theorem dX5_meetGlass_299 : decode cX5_meetGlass 299 = .ok (.iconst 1, 1) := dgX5_meetGlass_3 (299, (.iconst 1, 1)) (List.mem_of_getElem? (i := 38) rfl)
theorem dX5_meetGlass_300 : decode cX5_meetGlass 300 = .ok (.ixor, 1) := dgX5_meetGlass_3 (300, (.ixor, 1)) (List.mem_of_getElem? (i := 39) rfl)
theorem dgX5_meetGlass_4 : ∀ r ∈ ([(301, (.goto 24, 3)), (304, (.iload 5, 2)), (306, (.iconst 1, 1)), (307, (.if_icmp .ne 12, 3)), (310, (.iconst 3, 1)), (311, (.aload_n 0, 1)), (312, (.getfield 30, 3)), (315, (.isub, 1)), (316, (.goto 9, 3)), (319, (.aload_n 0, 1)), (320, (.getfield 30, 3)), (323, (.iconst 2, 1)), (324, (.ixor, 1)), (325, (.putfield 30, 3)), (328, (.aload_n 0, 1)), (329, (.dup, 1)), (330, (.getfield 49, 3)), (333, (.iconst 1, 1)), (334, (.iload 4, 2)), (336, (.ishl, 1)), (337, (.ior, 1)), (338, (.putfield 49, 3)), (341, (.aload_n 0, 1)), (342, (.iconst 0, 1)), (343, (.putfield 56, 3)), (346, (.return_, 1))] : List (Nat × (Instr × Nat))), decode cX5_meetGlass r.1 = .ok r.2 := by decide +kernel
theorem dX5_meetGlass_301 : decode cX5_meetGlass 301 = .ok (.goto 24, 3) := dgX5_meetGlass_4 (301, (.goto 24, 3)) (List.mem_of_getElem? (i := 0) rfl)
theorem dX5_meetGlass_304 : decode cX5_meetGlass 304 = .ok (.iload 5, 2) := dgX5_meetGlass_4 (304, (.iload 5, 2)) (List.mem_of_getElem? (i := 1) rfl)
theorem dX5_meetGlass_306 : decode cX5_meetGlass 306 = .ok (.iconst 1, 1) := dgX5_meetGlass_4 (306, (.iconst 1, 1)) (List.mem_of_getElem? (i := 2) rfl)
theorem dX5_meetGlass_307 : decode cX5_meetGlass 307 = .ok (.if_icmp .ne 12, 3) := dgX5_meetGlass_4 (307, (.if_icmp .ne 12, 3)) (List.mem_of_getElem? (i := 3) rfl)
theorem dX5_meetGlass_310 : decode cX5_meetGlass 310 = .ok (.iconst 3, 1) := dgX5_meetGlass_4 (310, (.iconst 3, 1)) (List.mem_of_getElem? (i := 4) rfl)
theorem dX5_meetGlass_311 : decode cX5_meetGlass 311 = .ok (.aload_n 0, 1) := dgX5_meetGlass_4 (311, (.aload_n 0, 1)) (List.mem_of_getElem? (i := 5) rfl)
theorem dX5_meetGlass_312 : decode cX5_meetGlass 312 = .ok (.getfield 30, 3) := dgX5_meetGlass_4 (312, (.getfield 30, 3)) (List.mem_of_getElem? (i := 6) rfl)
theorem dX5_meetGlass_315 : decode cX5_meetGlass 315 = .ok (.isub, 1) := dgX5_meetGlass_4 (315, (.isub, 1)) (List.mem_of_getElem? (i := 7) rfl)
theorem dX5_meetGlass_316 : decode cX5_meetGlass 316 = .ok (.goto 9, 3) := dgX5_meetGlass_4 (316, (.goto 9, 3)) (List.mem_of_getElem? (i := 8) rfl)
theorem dX5_meetGlass_319 : decode cX5_meetGlass 319 = .ok (.aload_n 0, 1) := dgX5_meetGlass_4 (319, (.aload_n 0, 1)) (List.mem_of_getElem? (i := 9) rfl)
theorem dX5_meetGlass_320 : decode cX5_meetGlass 320 = .ok (.getfield 30, 3) := dgX5_meetGlass_4 (320, (.getfield 30, 3)) (List.mem_of_getElem? (i := 10) rfl)
theorem dX5_meetGlass_323 : decode cX5_meetGlass 323 = .ok (.iconst 2, 1) := dgX5_meetGlass_4 (323, (.iconst 2, 1)) (List.mem_of_getElem? (i := 11) rfl)
theorem dX5_meetGlass_324 : decode cX5_meetGlass 324 = .ok (.ixor, 1) := dgX5_meetGlass_4 (324, (.ixor, 1)) (List.mem_of_getElem? (i := 12) rfl)
theorem dX5_meetGlass_325 : decode cX5_meetGlass 325 = .ok (.putfield 30, 3) := dgX5_meetGlass_4 (325, (.putfield 30, 3)) (List.mem_of_getElem? (i := 13) rfl)
theorem dX5_meetGlass_328 : decode cX5_meetGlass 328 = .ok (.aload_n 0, 1) := dgX5_meetGlass_4 (328, (.aload_n 0, 1)) (List.mem_of_getElem? (i := 14) rfl)
theorem dX5_meetGlass_329 : decode cX5_meetGlass 329 = .ok (.dup, 1) := dgX5_meetGlass_4 (329, (.dup, 1)) (List.mem_of_getElem? (i := 15) rfl)
theorem dX5_meetGlass_330 : decode cX5_meetGlass 330 = .ok (.getfield 49, 3) := dgX5_meetGlass_4 (330, (.getfield 49, 3)) (List.mem_of_getElem? (i := 16) rfl)
theorem dX5_meetGlass_333 : decode cX5_meetGlass 333 = .ok (.iconst 1, 1) := dgX5_meetGlass_4 (333, (.iconst 1, 1)) (List.mem_of_getElem? (i := 17) rfl)
theorem dX5_meetGlass_334 : decode cX5_meetGlass 334 = .ok (.iload 4, 2) := dgX5_meetGlass_4 (334, (.iload 4, 2)) (List.mem_of_getElem? (i := 18) rfl)
theorem dX5_meetGlass_336 : decode cX5_meetGlass 336 = .ok (.ishl, 1) := dgX5_meetGlass_4 (336, (.ishl, 1)) (List.mem_of_getElem? (i := 19) rfl)
theorem dX5_meetGlass_337 : decode cX5_meetGlass 337 = .ok (.ior, 1) := dgX5_meetGlass_4 (337, (.ior, 1)) (List.mem_of_getElem? (i := 20) rfl)
theorem dX5_meetGlass_338 : decode cX5_meetGlass 338 = .ok (.putfield 49, 3) := dgX5_meetGlass_4 (338, (.putfield 49, 3)) (List.mem_of_getElem? (i := 21) rfl)
theorem dX5_meetGlass_341 : decode cX5_meetGlass 341 = .ok (.aload_n 0, 1) := dgX5_meetGlass_4 (341, (.aload_n 0, 1)) (List.mem_of_getElem? (i := 22) rfl)
theorem dX5_meetGlass_342 : decode cX5_meetGlass 342 = .ok (.iconst 0, 1) := dgX5_meetGlass_4 (342, (.iconst 0, 1)) (List.mem_of_getElem? (i := 23) rfl)
theorem dX5_meetGlass_343 : decode cX5_meetGlass 343 = .ok (.putfield 56, 3) := dgX5_meetGlass_4 (343, (.putfield 56, 3)) (List.mem_of_getElem? (i := 24) rfl)
theorem dX5_meetGlass_346 : decode cX5_meetGlass 346 = .ok (.return_, 1) := dgX5_meetGlass_4 (346, (.return_, 1)) (List.mem_of_getElem? (i := 25) rfl)
theorem fl_X5_138 : Cond.fieldLink RX5 138 "LateGlass$House" "least" "I" ∈ tblG := tg 160 (by decide +kernel) (by decide +kernel)
theorem fl_X5_49 : Cond.fieldLink RX5 49 "LateGlass$Look" "went" "I" ∈ tblG := tg 259 (by decide +kernel) (by decide +kernel)
set_option maxHeartbeats 4000000 in
set_option maxRecDepth 100000 in
theorem k_mggN4 {p : Program} {l : Launch} {e : Env} {s : State} {m : MethodId} {args : Array Value} {below : List Frame} {meth : Method} {c : Code} {Q : State → Prop} {A : Nat → Prop} {H : Heap} {locs : List Loc} {ls : Array Slot} (G : g5_G) (a_k a_h a_g a_gn a_p a_pn a_j a_as a_sk a_l a_pt a_b a_s a_w a_bb : Nat) (e_ln : Int32) (e_se : Int32) (e_lh : Int32) (e_br : Int32) (e_we : Int32) (e_me : Int32) (e_ce : Int32) (e_wy : Int32) (e_ho : Int32) (e_ov : Int32) (e_le : Int32) (e_st : Int32) (e_fo : Int32) (e_lc : Int32) (e_wa : Int64) (e_gb : Int64) (e_g : Int32) (f_g : Nat → Int32) (e_p : Int32) (f_p : Nat → Int32) (f_as : Nat → Int32) (f_sk : Nat → Int64) (f_l : Nat → Option Nat) (k_r : Int32) (k_n : Int32) (k_s : Int32) (k_l : Int32) (k_d : Int32) (hx : p.tables.exec = Jvm.exec) (hb : c.code = cX5_meetGlass) (hml : c.maxLocals = 9) (hown : s.vm.findClass RX5 = some m.cls) (hts : ∀ w ∈ tblG, w.before args s = true) (hK : va_K G.1 vwCl (T5 G) s) (hN : g5_N s) (hT : g5_S A s s.heap) (hA : ∀ q : Nat, s.heap.size ≤ q → A q) (hP : va_P G.1 vwCl [(a_k, (oc5 a_h a_j a_pt e_ln e_se e_lh e_br e_we e_me e_ce e_wy e_ho e_ov)), (a_h, (oc1 e_wa e_le e_st e_fo e_lc a_l a_g a_b a_s a_p a_w e_gb a_bb)), (a_g, (oc6 6 5 a_gn e_g)), (a_gn, (arI G 30 f_g)), (a_p, (oc6 8 5 a_pn e_p)), (a_pn, (arI G 40 f_p)), (a_j, (oc2 a_as a_sk)), (a_as, (arI G 8 f_as)), (a_sk, (arJ G 50 f_sk)), (a_l, (arW G 6 f_l))] H) (hD : va_D A [(a_k, (oc5 a_h a_j a_pt e_ln e_se e_lh e_br e_we e_me e_ce e_wy e_ho e_ov)), (a_h, (oc1 e_wa e_le e_st e_fo e_lc a_l a_g a_b a_s a_p a_w e_gb a_bb)), (a_g, (oc6 6 5 a_gn e_g)), (a_gn, (arI G 30 f_g)), (a_p, (oc6 8 5 a_pn e_p)), (a_pn, (arI G 40 f_p)), (a_j, (oc2 a_as a_sk)), (a_as, (arI G 8 f_as)), (a_sk, (arJ G 50 f_sk)), (a_l, (arW G 6 f_l))]) (hS : va_S A s.heap H locs) (hl : lv_has ls 9 [(0, .ref a_k), (2, .ref a_g), (3, .int k_r), (4, .int k_n), (5, .int k_s), (7, .int k_l), (8, .int k_d)]) (h_e_br : 0 ≤ e_br.toInt ∧ e_br.toInt ≤ 1000000) (h_e_ce : 0 ≤ e_ce.toInt ∧ e_ce.toInt ≤ 63) (h_e_wy : 0 ≤ e_wy.toInt ∧ e_wy.toInt ≤ 3) (h_e_ho : 0 ≤ e_ho.toInt ∧ e_ho.toInt ≤ 23) (h_e_ov : 0 ≤ e_ov.toInt ∧ e_ov.toInt ≤ 1) (h_e_g : 0 ≤ e_g.toInt ∧ e_g.toInt ≤ 6) (h_e_p : 0 ≤ e_p.toInt ∧ e_p.toInt ≤ 8) (h_k_r : 0 ≤ k_r.toInt ∧ k_r.toInt ≤ 7) (h_k_s : 0 ≤ k_s.toInt ∧ k_s.toInt ≤ 5) (h_k_l : 0 ≤ k_l.toInt ∧ k_l.toInt ≤ 23) (h_k_d : 0 ≤ k_d.toInt ∧ k_d.toInt ≤ 10) (e_lt : k_l.toInt ≤ e_ho.toInt) (kk : ∀ (pc1 : Nat), decode cX5_meetGlass pc1 = .ok (.return_, 1) → ∀ (o_b : Int32) (o_w : Int32) (o_m : Int32) (o_y : Int32) (o_h : Int32) (o_v : Int32) (o_a : Nat → Int32) (o_k : Nat → Int64) (ls : Array Slot) (H : Heap) (locs : List Loc), va_P G.1 vwCl [(a_k, (oc5 a_h a_j a_pt e_ln e_se e_lh o_b o_w o_m e_ce o_y o_h o_v)), (a_h, (oc1 e_wa e_le e_st e_fo e_lc a_l a_g a_b a_s a_p a_w e_gb a_bb)), (a_g, (oc6 6 5 a_gn e_g)), (a_gn, (arI G 30 f_g)), (a_p, (oc6 8 5 a_pn e_p)), (a_pn, (arI G 40 f_p)), (a_j, (oc2 a_as a_sk)), (a_as, (arI G 8 o_a)), (a_sk, (arJ G 50 o_k)), (a_l, (arW G 6 f_l))] H → va_D A [(a_k, (oc5 a_h a_j a_pt e_ln e_se e_lh o_b o_w o_m e_ce o_y o_h o_v)), (a_h, (oc1 e_wa e_le e_st e_fo e_lc a_l a_g a_b a_s a_p a_w e_gb a_bb)), (a_g, (oc6 6 5 a_gn e_g)), (a_gn, (arI G 30 f_g)), (a_p, (oc6 8 5 a_pn e_p)), (a_pn, (arI G 40 f_p)), (a_j, (oc2 a_as a_sk)), (a_as, (arI G 8 o_a)), (a_sk, (arJ G 50 o_k)), (a_l, (arW G 6 f_l))] → va_S A s.heap H locs → (0 ≤ o_b.toInt ∧ o_b.toInt ≤ 1000000) → (0 ≤ o_y.toInt ∧ o_y.toInt ≤ 3) → (0 ≤ o_h.toInt ∧ o_h.toInt ≤ 23) → (0 ≤ o_v.toInt ∧ o_v.toInt ≤ 1) → W p l e ({ frames := 12, cells := 0, slots := 0, locals := 500 } : Room) s m args below meth c H locs 0 0 Q (F0 m pc1 ls [])) : W p l e ({ frames := 12, cells := 0, slots := 0, locals := 500 } : Room) s m args below meth c H locs 0 0 Q (F0 m 246 ls []) := by
  refine lv_aload_n hx hb dX5_meetGlass_246 rfl (lv_at hl 0 rfl) ?_
  refine lv_aload_n hx hb dX5_meetGlass_247 rfl (lv_at hl 0 rfl) ?_
  refine va_get (D := G.1) (ci := 5) (v := .int e_br) (C := RX5) (T := TX5) (N := 13) hx hb hts inG_X5 hown hK hP 0 rfl rfl 6 (by decide) (hts _ fl_X5_46) (fun _ h9 => h9) rfl dX5_meetGlass_248 ?_
  refine lv_bipush (v := 10) hx hb dX5_meetGlass_251 (by decide) ?_
  refine lv_iload hx hb dX5_meetGlass_253 (lv_at hl 6 rfl) ?_
  refine lv_isub hx hb dX5_meetGlass_255 ?_
  have t_1 : (10 - k_d).toInt = 10 - k_d.toInt := g5_isub (a := 10) (b := k_d.toInt) (by decide) (by rfl) (by omega) (by omega)
  refine lv_imul hx hb dX5_meetGlass_256 ?_
  refine lv_bipush (v := 10) hx hb dX5_meetGlass_257 (by decide) ?_
  refine lv_idiv hx hb dX5_meetGlass_259 (by decide) ?_
  have hb_2 : 0 ≤ ((e_br * (10 - k_d)) / 10).toInt ∧ ((e_br * (10 - k_d)) / 10).toInt ≤ 1000000 := g_dust (by omega) (by omega)
  refine va_put (D := G.1) (ci := 5) (v := .int ((e_br * (10 - k_d)) / 10)) (ty := .int) (C := RX5) (T := TX5) (N := 13) hx hb hts inG_X5 tyX5 tyX5_ok nmX5 hown hK hP hD hS 0 rfl rfl 6 (by decide) (hts _ fl_X5_46) (fun _ h9 => h9) rfl (by decide +kernel) rfl rfl (Nat.le_of_ble_eq_true rfl) dX5_meetGlass_260 (fun H locs hP hD hS => ?_)
  refine g5_rs [(a_k, (oc5 a_h a_j a_pt e_ln e_se e_lh ((e_br * (10 - k_d)) / 10) e_we e_me e_ce e_wy e_ho e_ov)), (a_h, (oc1 e_wa e_le e_st e_fo e_lc a_l a_g a_b a_s a_p a_w e_gb a_bb)), (a_g, (oc6 6 5 a_gn e_g)), (a_gn, (arI G 30 f_g)), (a_p, (oc6 8 5 a_pn e_p)), (a_pn, (arI G 40 f_p)), (a_j, (oc2 a_as a_sk)), (a_as, (arI G 8 f_as)), (a_sk, (arJ G 50 f_sk)), (a_l, (arW G 6 f_l))] hP hD (fun hP hD => ?_)
  refine lv_aload_n hx hb dX5_meetGlass_263 rfl (lv_at hl 0 rfl) ?_
  refine va_get (D := G.1) (ci := 5) (v := .int ((e_br * (10 - k_d)) / 10)) (C := RX5) (T := TX5) (N := 13) hx hb hts inG_X5 hown hK hP 0 rfl rfl 6 (by decide) (hts _ fl_X5_46) (fun _ h9 => h9) rfl dX5_meetGlass_264 ?_
  refine lv_aload_n hx hb dX5_meetGlass_267 rfl (lv_at hl 0 rfl) ?_
  refine va_get (D := G.1) (ci := 5) (v := .ref a_h) (C := RX5) (T := TX5) (N := 13) hx hb hts inG_X5 hown hK hP 0 rfl rfl 0 (by decide) (hts _ fl_X5_22) (fun _ h9 => h9) rfl dX5_meetGlass_268 ?_
  refine va_get (D := G.1) (ci := 1) (v := .int e_le) (C := RX1) (T := TX1) (N := 13) hx hb hts inG_X1 hown hK hP 1 rfl rfl 1 (by decide) (hts _ fl_X5_138) (fun _ h9 => h9) rfl dX5_meetGlass_271 ?_
  refine lv_icmp_ge (tgt := 278) hx hb dX5_meetGlass_274 (by decide) (fun c_3 => ?_) (fun c_3 => ?_)
  ·
    have i_3 : ((e_br * (10 - k_d)) / 10).toInt ≥ e_le.toInt := by have z := g5_ge (a := ((e_br * (10 - k_d)) / 10).toInt) (b := e_le.toInt) (by rfl) (by rfl) c_3; omega
    refine lv_aload_n hx hb dX5_meetGlass_278 rfl (lv_at hl 0 rfl) ?_
    refine lv_dup hx hb dX5_meetGlass_279 rfl ?_
    refine va_get (D := G.1) (ci := 5) (v := .int e_ho) (C := RX5) (T := TX5) (N := 13) hx hb hts inG_X5 hown hK hP 0 rfl rfl 11 (by decide) (hts _ fl_X5_33) (fun _ h9 => h9) rfl dX5_meetGlass_280 ?_
    refine lv_iload hx hb dX5_meetGlass_283 (lv_at hl 5 rfl) ?_
    refine lv_isub hx hb dX5_meetGlass_285 ?_
    have t_4 : (e_ho - k_l).toInt = e_ho.toInt - k_l.toInt := g5_isub (a := e_ho.toInt) (b := k_l.toInt) (by rfl) (by rfl) (by omega) (by omega)
    refine va_put (D := G.1) (ci := 5) (v := .int (e_ho - k_l)) (ty := .int) (C := RX5) (T := TX5) (N := 13) hx hb hts inG_X5 tyX5 tyX5_ok nmX5 hown hK hP hD hS 0 rfl rfl 11 (by decide) (hts _ fl_X5_33) (fun _ h9 => h9) rfl (by decide +kernel) rfl rfl (Nat.le_of_ble_eq_true rfl) dX5_meetGlass_286 (fun H locs hP hD hS => ?_)
    refine g5_rs [(a_k, (oc5 a_h a_j a_pt e_ln e_se e_lh ((e_br * (10 - k_d)) / 10) e_we e_me e_ce e_wy (e_ho - k_l) e_ov)), (a_h, (oc1 e_wa e_le e_st e_fo e_lc a_l a_g a_b a_s a_p a_w e_gb a_bb)), (a_g, (oc6 6 5 a_gn e_g)), (a_gn, (arI G 30 f_g)), (a_p, (oc6 8 5 a_pn e_p)), (a_pn, (arI G 40 f_p)), (a_j, (oc2 a_as a_sk)), (a_as, (arI G 8 f_as)), (a_sk, (arJ G 50 f_sk)), (a_l, (arW G 6 f_l))] hP hD (fun hP hD => ?_)
    refine lv_aload_n hx hb dX5_meetGlass_289 rfl (lv_at hl 0 rfl) ?_
    refine lv_iload hx hb dX5_meetGlass_290 (lv_at hl 4 rfl) ?_
    refine lv_if_ne (tgt := 304) hx hb dX5_meetGlass_292 (by decide) (fun c_5 => ?_) (fun c_5 => ?_)
    ·
      have n_5 : gNe (k_s.toInt) (0) := by have z := g5_ne (a := k_s.toInt) (b := 0) (by rfl) (by decide) c_5; unfold gNe; omega
      have i_5 : k_s.toInt ≥ 1 := by have z := g5_ne (a := k_s.toInt) (b := 0) (by rfl) (by decide) c_5; omega
      refine lv_iload hx hb dX5_meetGlass_304 (lv_at hl 4 rfl) ?_
      refine lv_iconst (v := 1) hx hb dX5_meetGlass_306 (by decide) ?_
      refine lv_icmp_ne (tgt := 319) hx hb dX5_meetGlass_307 (by decide) (fun c_6 => ?_) (fun c_6 => ?_)
      ·
        have n_6 : gNe (k_s.toInt) (1) := by have z := g5_ne (a := k_s.toInt) (b := 1) (by rfl) (by decide) c_6; unfold gNe; omega
        have i_6 : k_s.toInt ≥ 2 := by have z := g5_ne (a := k_s.toInt) (b := 1) (by rfl) (by decide) c_6; omega
        refine lv_aload_n hx hb dX5_meetGlass_319 rfl (lv_at hl 0 rfl) ?_
        refine va_get (D := G.1) (ci := 5) (v := .int e_wy) (C := RX5) (T := TX5) (N := 13) hx hb hts inG_X5 hown hK hP 0 rfl rfl 10 (by decide) (hts _ fl_X5_30) (fun _ h9 => h9) rfl dX5_meetGlass_320 ?_
        refine lv_iconst (v := 2) hx hb dX5_meetGlass_323 (by decide) ?_
        refine lv_ixor hx hb dX5_meetGlass_324 ?_
        have hx_7 := (g_xor (w := e_wy) (by omega) (by omega)).2
        refine va_put (D := G.1) (ci := 5) (v := .int (e_wy ^^^ 2)) (ty := .int) (C := RX5) (T := TX5) (N := 13) hx hb hts inG_X5 tyX5 tyX5_ok nmX5 hown hK hP hD hS 0 rfl rfl 10 (by decide) (hts _ fl_X5_30) (fun _ h9 => h9) rfl (by decide +kernel) rfl rfl (Nat.le_of_ble_eq_true rfl) dX5_meetGlass_325 (fun H locs hP hD hS => ?_)
        refine g5_rs [(a_k, (oc5 a_h a_j a_pt e_ln e_se e_lh ((e_br * (10 - k_d)) / 10) e_we e_me e_ce (e_wy ^^^ 2) (e_ho - k_l) e_ov)), (a_h, (oc1 e_wa e_le e_st e_fo e_lc a_l a_g a_b a_s a_p a_w e_gb a_bb)), (a_g, (oc6 6 5 a_gn e_g)), (a_gn, (arI G 30 f_g)), (a_p, (oc6 8 5 a_pn e_p)), (a_pn, (arI G 40 f_p)), (a_j, (oc2 a_as a_sk)), (a_as, (arI G 8 f_as)), (a_sk, (arJ G 50 f_sk)), (a_l, (arW G 6 f_l))] hP hD (fun hP hD => ?_)
        refine lv_aload_n hx hb dX5_meetGlass_328 rfl (lv_at hl 0 rfl) ?_
        refine lv_dup hx hb dX5_meetGlass_329 rfl ?_
        refine va_get (D := G.1) (ci := 5) (v := .int e_we) (C := RX5) (T := TX5) (N := 13) hx hb hts inG_X5 hown hK hP 0 rfl rfl 7 (by decide) (hts _ fl_X5_49) (fun _ h9 => h9) rfl dX5_meetGlass_330 ?_
        refine lv_iconst (v := 1) hx hb dX5_meetGlass_333 (by decide) ?_
        refine lv_iload hx hb dX5_meetGlass_334 (lv_at hl 3 rfl) ?_
        refine lv_ishl hx hb dX5_meetGlass_336 ?_
        refine lv_ior hx hb dX5_meetGlass_337 ?_
        refine va_put (D := G.1) (ci := 5) (v := .int (e_we ||| (1 <<< (k_n &&& 31)))) (ty := .int) (C := RX5) (T := TX5) (N := 13) hx hb hts inG_X5 tyX5 tyX5_ok nmX5 hown hK hP hD hS 0 rfl rfl 7 (by decide) (hts _ fl_X5_49) (fun _ h9 => h9) rfl (by decide +kernel) rfl rfl (Nat.le_of_ble_eq_true rfl) dX5_meetGlass_338 (fun H locs hP hD hS => ?_)
        refine g5_rs [(a_k, (oc5 a_h a_j a_pt e_ln e_se e_lh ((e_br * (10 - k_d)) / 10) (e_we ||| (1 <<< (k_n &&& 31))) e_me e_ce (e_wy ^^^ 2) (e_ho - k_l) e_ov)), (a_h, (oc1 e_wa e_le e_st e_fo e_lc a_l a_g a_b a_s a_p a_w e_gb a_bb)), (a_g, (oc6 6 5 a_gn e_g)), (a_gn, (arI G 30 f_g)), (a_p, (oc6 8 5 a_pn e_p)), (a_pn, (arI G 40 f_p)), (a_j, (oc2 a_as a_sk)), (a_as, (arI G 8 f_as)), (a_sk, (arJ G 50 f_sk)), (a_l, (arW G 6 f_l))] hP hD (fun hP hD => ?_)
        refine lv_aload_n hx hb dX5_meetGlass_341 rfl (lv_at hl 0 rfl) ?_
        refine lv_iconst (v := 0) hx hb dX5_meetGlass_342 (by decide) ?_
        refine va_put (D := G.1) (ci := 5) (v := .int 0) (ty := .boolean) (C := RX5) (T := TX5) (N := 13) hx hb hts inG_X5 tyX5 tyX5_ok nmX5 hown hK hP hD hS 0 rfl rfl 12 (by decide) (hts _ fl_X5_56) (fun _ h9 => h9) rfl (by decide +kernel) rfl rfl (Nat.le_of_ble_eq_true rfl) dX5_meetGlass_343 (fun H locs hP hD hS => ?_)
        refine g5_rs [(a_k, (oc5 a_h a_j a_pt e_ln e_se e_lh ((e_br * (10 - k_d)) / 10) (e_we ||| (1 <<< (k_n &&& 31))) e_me e_ce (e_wy ^^^ 2) (e_ho - k_l) 0)), (a_h, (oc1 e_wa e_le e_st e_fo e_lc a_l a_g a_b a_s a_p a_w e_gb a_bb)), (a_g, (oc6 6 5 a_gn e_g)), (a_gn, (arI G 30 f_g)), (a_p, (oc6 8 5 a_pn e_p)), (a_pn, (arI G 40 f_p)), (a_j, (oc2 a_as a_sk)), (a_as, (arI G 8 f_as)), (a_sk, (arJ G 50 f_sk)), (a_l, (arW G 6 f_l))] hP hD (fun hP hD => ?_)
        exact kk 346 dX5_meetGlass_346 ((e_br * (10 - k_d)) / 10) (e_we ||| (1 <<< (k_n &&& 31))) e_me (e_wy ^^^ 2) (e_ho - k_l) 0 f_as f_sk ls H locs (hP.sub [0, 1, 2, 3, 4, 5, 6, 7, 8, 9] rfl) (hD.sub [0, 1, 2, 3, 4, 5, 6, 7, 8, 9] (by decide) rfl) hS (⟨by omega, by omega⟩) (⟨by omega, by omega⟩) (⟨by omega, by omega⟩) (⟨by have zc_o_v : (0 : Int32).toInt = 0 := (by decide); omega, by have zc_o_v : (0 : Int32).toInt = 0 := (by decide); omega⟩)
      ·
        have i_6 : k_s.toInt = 1 := by have z := g5_neN (a := k_s.toInt) (b := 1) (by rfl) (by decide) c_6; omega
        refine lv_iconst (v := 3) hx hb dX5_meetGlass_310 (by decide) ?_
        refine lv_aload_n hx hb dX5_meetGlass_311 rfl (lv_at hl 0 rfl) ?_
        refine va_get (D := G.1) (ci := 5) (v := .int e_wy) (C := RX5) (T := TX5) (N := 13) hx hb hts inG_X5 hown hK hP 0 rfl rfl 10 (by decide) (hts _ fl_X5_30) (fun _ h9 => h9) rfl dX5_meetGlass_312 ?_
        refine lv_isub hx hb dX5_meetGlass_315 ?_
        have t_8 : (3 - e_wy).toInt = 3 - e_wy.toInt := g5_isub (a := 3) (b := e_wy.toInt) (by decide) (by rfl) (by omega) (by omega)
        refine lv_goto (tgt := 325) hx hb dX5_meetGlass_316 (by decide) ?_
        refine va_put (D := G.1) (ci := 5) (v := .int (3 - e_wy)) (ty := .int) (C := RX5) (T := TX5) (N := 13) hx hb hts inG_X5 tyX5 tyX5_ok nmX5 hown hK hP hD hS 0 rfl rfl 10 (by decide) (hts _ fl_X5_30) (fun _ h9 => h9) rfl (by decide +kernel) rfl rfl (Nat.le_of_ble_eq_true rfl) dX5_meetGlass_325 (fun H locs hP hD hS => ?_)
        refine g5_rs [(a_k, (oc5 a_h a_j a_pt e_ln e_se e_lh ((e_br * (10 - k_d)) / 10) e_we e_me e_ce (3 - e_wy) (e_ho - k_l) e_ov)), (a_h, (oc1 e_wa e_le e_st e_fo e_lc a_l a_g a_b a_s a_p a_w e_gb a_bb)), (a_g, (oc6 6 5 a_gn e_g)), (a_gn, (arI G 30 f_g)), (a_p, (oc6 8 5 a_pn e_p)), (a_pn, (arI G 40 f_p)), (a_j, (oc2 a_as a_sk)), (a_as, (arI G 8 f_as)), (a_sk, (arJ G 50 f_sk)), (a_l, (arW G 6 f_l))] hP hD (fun hP hD => ?_)
        refine lv_aload_n hx hb dX5_meetGlass_328 rfl (lv_at hl 0 rfl) ?_
        refine lv_dup hx hb dX5_meetGlass_329 rfl ?_
        refine va_get (D := G.1) (ci := 5) (v := .int e_we) (C := RX5) (T := TX5) (N := 13) hx hb hts inG_X5 hown hK hP 0 rfl rfl 7 (by decide) (hts _ fl_X5_49) (fun _ h9 => h9) rfl dX5_meetGlass_330 ?_
        refine lv_iconst (v := 1) hx hb dX5_meetGlass_333 (by decide) ?_
        refine lv_iload hx hb dX5_meetGlass_334 (lv_at hl 3 rfl) ?_
        refine lv_ishl hx hb dX5_meetGlass_336 ?_
        refine lv_ior hx hb dX5_meetGlass_337 ?_
        refine va_put (D := G.1) (ci := 5) (v := .int (e_we ||| (1 <<< (k_n &&& 31)))) (ty := .int) (C := RX5) (T := TX5) (N := 13) hx hb hts inG_X5 tyX5 tyX5_ok nmX5 hown hK hP hD hS 0 rfl rfl 7 (by decide) (hts _ fl_X5_49) (fun _ h9 => h9) rfl (by decide +kernel) rfl rfl (Nat.le_of_ble_eq_true rfl) dX5_meetGlass_338 (fun H locs hP hD hS => ?_)
        refine g5_rs [(a_k, (oc5 a_h a_j a_pt e_ln e_se e_lh ((e_br * (10 - k_d)) / 10) (e_we ||| (1 <<< (k_n &&& 31))) e_me e_ce (3 - e_wy) (e_ho - k_l) e_ov)), (a_h, (oc1 e_wa e_le e_st e_fo e_lc a_l a_g a_b a_s a_p a_w e_gb a_bb)), (a_g, (oc6 6 5 a_gn e_g)), (a_gn, (arI G 30 f_g)), (a_p, (oc6 8 5 a_pn e_p)), (a_pn, (arI G 40 f_p)), (a_j, (oc2 a_as a_sk)), (a_as, (arI G 8 f_as)), (a_sk, (arJ G 50 f_sk)), (a_l, (arW G 6 f_l))] hP hD (fun hP hD => ?_)
        refine lv_aload_n hx hb dX5_meetGlass_341 rfl (lv_at hl 0 rfl) ?_
        refine lv_iconst (v := 0) hx hb dX5_meetGlass_342 (by decide) ?_
        refine va_put (D := G.1) (ci := 5) (v := .int 0) (ty := .boolean) (C := RX5) (T := TX5) (N := 13) hx hb hts inG_X5 tyX5 tyX5_ok nmX5 hown hK hP hD hS 0 rfl rfl 12 (by decide) (hts _ fl_X5_56) (fun _ h9 => h9) rfl (by decide +kernel) rfl rfl (Nat.le_of_ble_eq_true rfl) dX5_meetGlass_343 (fun H locs hP hD hS => ?_)
        refine g5_rs [(a_k, (oc5 a_h a_j a_pt e_ln e_se e_lh ((e_br * (10 - k_d)) / 10) (e_we ||| (1 <<< (k_n &&& 31))) e_me e_ce (3 - e_wy) (e_ho - k_l) 0)), (a_h, (oc1 e_wa e_le e_st e_fo e_lc a_l a_g a_b a_s a_p a_w e_gb a_bb)), (a_g, (oc6 6 5 a_gn e_g)), (a_gn, (arI G 30 f_g)), (a_p, (oc6 8 5 a_pn e_p)), (a_pn, (arI G 40 f_p)), (a_j, (oc2 a_as a_sk)), (a_as, (arI G 8 f_as)), (a_sk, (arJ G 50 f_sk)), (a_l, (arW G 6 f_l))] hP hD (fun hP hD => ?_)
        exact kk 346 dX5_meetGlass_346 ((e_br * (10 - k_d)) / 10) (e_we ||| (1 <<< (k_n &&& 31))) e_me (3 - e_wy) (e_ho - k_l) 0 f_as f_sk ls H locs (hP.sub [0, 1, 2, 3, 4, 5, 6, 7, 8, 9] rfl) (hD.sub [0, 1, 2, 3, 4, 5, 6, 7, 8, 9] (by decide) rfl) hS (⟨by omega, by omega⟩) (⟨by omega, by omega⟩) (⟨by omega, by omega⟩) (⟨by have zc_o_v : (0 : Int32).toInt = 0 := (by decide); omega, by have zc_o_v : (0 : Int32).toInt = 0 := (by decide); omega⟩)
    ·
      have i_5 : k_s.toInt = 0 := by have z := g5_neN (a := k_s.toInt) (b := 0) (by rfl) (by decide) c_5; omega
      refine lv_aload_n hx hb dX5_meetGlass_295 rfl (lv_at hl 0 rfl) ?_
      refine va_get (D := G.1) (ci := 5) (v := .int e_wy) (C := RX5) (T := TX5) (N := 13) hx hb hts inG_X5 hown hK hP 0 rfl rfl 10 (by decide) (hts _ fl_X5_30) (fun _ h9 => h9) rfl dX5_meetGlass_296 ?_
      refine lv_iconst (v := 1) hx hb dX5_meetGlass_299 (by decide) ?_
      refine lv_ixor hx hb dX5_meetGlass_300 ?_
      have hx_9 := (g_xor (w := e_wy) (by omega) (by omega)).1
      refine lv_goto (tgt := 325) hx hb dX5_meetGlass_301 (by decide) ?_
      refine va_put (D := G.1) (ci := 5) (v := .int (e_wy ^^^ 1)) (ty := .int) (C := RX5) (T := TX5) (N := 13) hx hb hts inG_X5 tyX5 tyX5_ok nmX5 hown hK hP hD hS 0 rfl rfl 10 (by decide) (hts _ fl_X5_30) (fun _ h9 => h9) rfl (by decide +kernel) rfl rfl (Nat.le_of_ble_eq_true rfl) dX5_meetGlass_325 (fun H locs hP hD hS => ?_)
      refine g5_rs [(a_k, (oc5 a_h a_j a_pt e_ln e_se e_lh ((e_br * (10 - k_d)) / 10) e_we e_me e_ce (e_wy ^^^ 1) (e_ho - k_l) e_ov)), (a_h, (oc1 e_wa e_le e_st e_fo e_lc a_l a_g a_b a_s a_p a_w e_gb a_bb)), (a_g, (oc6 6 5 a_gn e_g)), (a_gn, (arI G 30 f_g)), (a_p, (oc6 8 5 a_pn e_p)), (a_pn, (arI G 40 f_p)), (a_j, (oc2 a_as a_sk)), (a_as, (arI G 8 f_as)), (a_sk, (arJ G 50 f_sk)), (a_l, (arW G 6 f_l))] hP hD (fun hP hD => ?_)
      refine lv_aload_n hx hb dX5_meetGlass_328 rfl (lv_at hl 0 rfl) ?_
      refine lv_dup hx hb dX5_meetGlass_329 rfl ?_
      refine va_get (D := G.1) (ci := 5) (v := .int e_we) (C := RX5) (T := TX5) (N := 13) hx hb hts inG_X5 hown hK hP 0 rfl rfl 7 (by decide) (hts _ fl_X5_49) (fun _ h9 => h9) rfl dX5_meetGlass_330 ?_
      refine lv_iconst (v := 1) hx hb dX5_meetGlass_333 (by decide) ?_
      refine lv_iload hx hb dX5_meetGlass_334 (lv_at hl 3 rfl) ?_
      refine lv_ishl hx hb dX5_meetGlass_336 ?_
      refine lv_ior hx hb dX5_meetGlass_337 ?_
      refine va_put (D := G.1) (ci := 5) (v := .int (e_we ||| (1 <<< (k_n &&& 31)))) (ty := .int) (C := RX5) (T := TX5) (N := 13) hx hb hts inG_X5 tyX5 tyX5_ok nmX5 hown hK hP hD hS 0 rfl rfl 7 (by decide) (hts _ fl_X5_49) (fun _ h9 => h9) rfl (by decide +kernel) rfl rfl (Nat.le_of_ble_eq_true rfl) dX5_meetGlass_338 (fun H locs hP hD hS => ?_)
      refine g5_rs [(a_k, (oc5 a_h a_j a_pt e_ln e_se e_lh ((e_br * (10 - k_d)) / 10) (e_we ||| (1 <<< (k_n &&& 31))) e_me e_ce (e_wy ^^^ 1) (e_ho - k_l) e_ov)), (a_h, (oc1 e_wa e_le e_st e_fo e_lc a_l a_g a_b a_s a_p a_w e_gb a_bb)), (a_g, (oc6 6 5 a_gn e_g)), (a_gn, (arI G 30 f_g)), (a_p, (oc6 8 5 a_pn e_p)), (a_pn, (arI G 40 f_p)), (a_j, (oc2 a_as a_sk)), (a_as, (arI G 8 f_as)), (a_sk, (arJ G 50 f_sk)), (a_l, (arW G 6 f_l))] hP hD (fun hP hD => ?_)
      refine lv_aload_n hx hb dX5_meetGlass_341 rfl (lv_at hl 0 rfl) ?_
      refine lv_iconst (v := 0) hx hb dX5_meetGlass_342 (by decide) ?_
      refine va_put (D := G.1) (ci := 5) (v := .int 0) (ty := .boolean) (C := RX5) (T := TX5) (N := 13) hx hb hts inG_X5 tyX5 tyX5_ok nmX5 hown hK hP hD hS 0 rfl rfl 12 (by decide) (hts _ fl_X5_56) (fun _ h9 => h9) rfl (by decide +kernel) rfl rfl (Nat.le_of_ble_eq_true rfl) dX5_meetGlass_343 (fun H locs hP hD hS => ?_)
      refine g5_rs [(a_k, (oc5 a_h a_j a_pt e_ln e_se e_lh ((e_br * (10 - k_d)) / 10) (e_we ||| (1 <<< (k_n &&& 31))) e_me e_ce (e_wy ^^^ 1) (e_ho - k_l) 0)), (a_h, (oc1 e_wa e_le e_st e_fo e_lc a_l a_g a_b a_s a_p a_w e_gb a_bb)), (a_g, (oc6 6 5 a_gn e_g)), (a_gn, (arI G 30 f_g)), (a_p, (oc6 8 5 a_pn e_p)), (a_pn, (arI G 40 f_p)), (a_j, (oc2 a_as a_sk)), (a_as, (arI G 8 f_as)), (a_sk, (arJ G 50 f_sk)), (a_l, (arW G 6 f_l))] hP hD (fun hP hD => ?_)
      exact kk 346 dX5_meetGlass_346 ((e_br * (10 - k_d)) / 10) (e_we ||| (1 <<< (k_n &&& 31))) e_me (e_wy ^^^ 1) (e_ho - k_l) 0 f_as f_sk ls H locs (hP.sub [0, 1, 2, 3, 4, 5, 6, 7, 8, 9] rfl) (hD.sub [0, 1, 2, 3, 4, 5, 6, 7, 8, 9] (by decide) rfl) hS (⟨by omega, by omega⟩) (⟨by omega, by omega⟩) (⟨by omega, by omega⟩) (⟨by have zc_o_v : (0 : Int32).toInt = 0 := (by decide); omega, by have zc_o_v : (0 : Int32).toInt = 0 := (by decide); omega⟩)
  ·
    have i_3 : ((e_br * (10 - k_d)) / 10).toInt < e_le.toInt := by have z := g5_geN (a := ((e_br * (10 - k_d)) / 10).toInt) (b := e_le.toInt) (by rfl) (by rfl) c_3; omega
    exact kk 277 dX5_meetGlass_277 ((e_br * (10 - k_d)) / 10) e_we e_me e_wy e_ho e_ov f_as f_sk ls H locs (hP.sub [0, 1, 2, 3, 4, 5, 6, 7, 8, 9] rfl) (hD.sub [0, 1, 2, 3, 4, 5, 6, 7, 8, 9] (by decide) rfl) hS (⟨by omega, by omega⟩) (⟨by omega, by omega⟩) (⟨by omega, by omega⟩) (⟨by omega, by omega⟩)
set_option maxHeartbeats 4000000 in
set_option maxRecDepth 100000 in
theorem k_mggN3 {p : Program} {l : Launch} {e : Env} {s : State} {m : MethodId} {args : Array Value} {below : List Frame} {meth : Method} {c : Code} {Q : State → Prop} {A : Nat → Prop} {H : Heap} {locs : List Loc} {ls : Array Slot} (G : g5_G) (a_k a_h a_g a_gn a_p a_pn a_j a_as a_sk a_l a_pt a_b a_s a_w a_bb : Nat) (e_ln : Int32) (e_se : Int32) (e_lh : Int32) (e_br : Int32) (e_we : Int32) (e_me : Int32) (e_ce : Int32) (e_wy : Int32) (e_ho : Int32) (e_ov : Int32) (e_le : Int32) (e_st : Int32) (e_fo : Int32) (e_lc : Int32) (e_wa : Int64) (e_gb : Int64) (e_g : Int32) (f_g : Nat → Int32) (e_p : Int32) (f_p : Nat → Int32) (f_as : Nat → Int32) (f_sk : Nat → Int64) (f_l : Nat → Option Nat) (k_r : Int32) (k_n : Int32) (k_s : Int32) (k_l : Int32) (hx : p.tables.exec = Jvm.exec) (hb : c.code = cX5_meetGlass) (hml : c.maxLocals = 9) (hown : s.vm.findClass RX5 = some m.cls) (hts : ∀ w ∈ tblG, w.before args s = true) (hK : va_K G.1 vwCl (T5 G) s) (hN : g5_N s) (hT : g5_S A s s.heap) (hA : ∀ q : Nat, s.heap.size ≤ q → A q) (hP : va_P G.1 vwCl [(a_k, (oc5 a_h a_j a_pt e_ln e_se e_lh e_br e_we e_me e_ce e_wy e_ho e_ov)), (a_h, (oc1 e_wa e_le e_st e_fo e_lc a_l a_g a_b a_s a_p a_w e_gb a_bb)), (a_g, (oc6 6 5 a_gn e_g)), (a_gn, (arI G 30 f_g)), (a_p, (oc6 8 5 a_pn e_p)), (a_pn, (arI G 40 f_p)), (a_j, (oc2 a_as a_sk)), (a_as, (arI G 8 f_as)), (a_sk, (arJ G 50 f_sk)), (a_l, (arW G 6 f_l))] H) (hD : va_D A [(a_k, (oc5 a_h a_j a_pt e_ln e_se e_lh e_br e_we e_me e_ce e_wy e_ho e_ov)), (a_h, (oc1 e_wa e_le e_st e_fo e_lc a_l a_g a_b a_s a_p a_w e_gb a_bb)), (a_g, (oc6 6 5 a_gn e_g)), (a_gn, (arI G 30 f_g)), (a_p, (oc6 8 5 a_pn e_p)), (a_pn, (arI G 40 f_p)), (a_j, (oc2 a_as a_sk)), (a_as, (arI G 8 f_as)), (a_sk, (arJ G 50 f_sk)), (a_l, (arW G 6 f_l))]) (hS : va_S A s.heap H locs) (hl : lv_has ls 9 [(0, .ref a_k), (2, .ref a_g), (3, .int k_r), (4, .int k_n), (5, .int k_s), (6, .null), (7, .int k_l)]) (h_e_br : 0 ≤ e_br.toInt ∧ e_br.toInt ≤ 1000000) (h_e_ce : 0 ≤ e_ce.toInt ∧ e_ce.toInt ≤ 63) (h_e_wy : 0 ≤ e_wy.toInt ∧ e_wy.toInt ≤ 3) (h_e_ho : 0 ≤ e_ho.toInt ∧ e_ho.toInt ≤ 23) (h_e_ov : 0 ≤ e_ov.toInt ∧ e_ov.toInt ≤ 1) (h_e_g : 0 ≤ e_g.toInt ∧ e_g.toInt ≤ 6) (h_e_p : 0 ≤ e_p.toInt ∧ e_p.toInt ≤ 8) (h_k_r : 0 ≤ k_r.toInt ∧ k_r.toInt ≤ 7) (h_k_s : 0 ≤ k_s.toInt ∧ k_s.toInt ≤ 5) (h_k_l : 0 ≤ k_l.toInt ∧ k_l.toInt ≤ 23) (e_gk : gOK f_g e_g.toInt) (e_pk : gOK f_p e_p.toInt) (e_f : e_fo.toInt < 0 ∨ e_lc.toInt ≤ e_fo.toInt) (e_r : k_r.toInt < e_g.toInt) (kk : ∀ (pc1 : Nat), decode cX5_meetGlass pc1 = .ok (.return_, 1) → ∀ (o_b : Int32) (o_w : Int32) (o_m : Int32) (o_y : Int32) (o_h : Int32) (o_v : Int32) (o_a : Nat → Int32) (o_k : Nat → Int64) (ls : Array Slot) (H : Heap) (locs : List Loc), va_P G.1 vwCl [(a_k, (oc5 a_h a_j a_pt e_ln e_se e_lh o_b o_w o_m e_ce o_y o_h o_v)), (a_h, (oc1 e_wa e_le e_st e_fo e_lc a_l a_g a_b a_s a_p a_w e_gb a_bb)), (a_g, (oc6 6 5 a_gn e_g)), (a_gn, (arI G 30 f_g)), (a_p, (oc6 8 5 a_pn e_p)), (a_pn, (arI G 40 f_p)), (a_j, (oc2 a_as a_sk)), (a_as, (arI G 8 o_a)), (a_sk, (arJ G 50 o_k)), (a_l, (arW G 6 f_l))] H → va_D A [(a_k, (oc5 a_h a_j a_pt e_ln e_se e_lh o_b o_w o_m e_ce o_y o_h o_v)), (a_h, (oc1 e_wa e_le e_st e_fo e_lc a_l a_g a_b a_s a_p a_w e_gb a_bb)), (a_g, (oc6 6 5 a_gn e_g)), (a_gn, (arI G 30 f_g)), (a_p, (oc6 8 5 a_pn e_p)), (a_pn, (arI G 40 f_p)), (a_j, (oc2 a_as a_sk)), (a_as, (arI G 8 o_a)), (a_sk, (arJ G 50 o_k)), (a_l, (arW G 6 f_l))] → va_S A s.heap H locs → (0 ≤ o_b.toInt ∧ o_b.toInt ≤ 1000000) → (0 ≤ o_y.toInt ∧ o_y.toInt ≤ 3) → (0 ≤ o_h.toInt ∧ o_h.toInt ≤ 23) → (0 ≤ o_v.toInt ∧ o_v.toInt ≤ 1) → W p l e ({ frames := 12, cells := 0, slots := 0, locals := 500 } : Room) s m args below meth c H locs 0 0 Q (F0 m pc1 ls [])) : W p l e ({ frames := 12, cells := 0, slots := 0, locals := 500 } : Room) s m args below meth c H locs 0 0 Q (F0 m 203 ls []) := by
  refine lv_iload hx hb dX5_meetGlass_203 (lv_at hl 6 rfl) ?_
  refine lv_aload_n hx hb dX5_meetGlass_205 rfl (lv_at hl 0 rfl) ?_
  refine va_get (D := G.1) (ci := 5) (v := .int e_ho) (C := RX5) (T := TX5) (N := 13) hx hb hts inG_X5 hown hK hP 0 rfl rfl 11 (by decide) (hts _ fl_X5_33) (fun _ h9 => h9) rfl dX5_meetGlass_206 ?_
  refine lv_icmp_le (tgt := 213) hx hb dX5_meetGlass_209 (by decide) (fun c_1 => ?_) (fun c_1 => ?_)
  ·
    have i_1 : k_l.toInt ≤ e_ho.toInt := by have z := g5_le (a := k_l.toInt) (b := e_ho.toInt) (by rfl) (by rfl) c_1; omega
    refine lv_aload_n hx hb dX5_meetGlass_213 rfl (lv_at hl 0 rfl) ?_
    refine va_get (D := G.1) (ci := 5) (v := .ref a_j) (C := RX5) (T := TX5) (N := 13) hx hb hts inG_X5 hown hK hP 0 rfl rfl 1 (by decide) (hts _ fl_X5_12) (fun _ h9 => h9) rfl dX5_meetGlass_214 ?_
    refine lv_aloadN hx hb dX5_meetGlass_217 (lv_at hl 5 rfl) ?_
    refine lv_iconst (v := 1) hx hb dX5_meetGlass_219 (by decide) ?_
    obtain ⟨hPc, hDc, hFc⟩ := g5_sub3 (wc := [(a_j, (oc2 a_as a_sk)), (a_as, (arI G 8 f_as)), (a_sk, (arJ G 50 f_sk))]) hP hD hS hA [6, 7, 8] (by decide) rfl
    refine va_calli (va_runV (As := [.null, .int 1]) (rest := []) ⟨hx, hb, hml, hown, hts⟩ (j_isHeldN l G a_j a_as a_sk H.size 1 f_as f_sk) (cwV 2 hts gV_X5_124 rfl rfl rfl hv_X2_isHeld ⟨Nat.le_of_ble_eq_true rfl, Nat.le_of_ble_eq_true rfl⟩) (g5_preV hPc hK hDc hN hT hS hFc (ci := 2) (q0 := 0) rfl rfl) rfl rfl hl.1 rfl (lv_room (Nat.le_of_ble_eq_true rfl)) dX5_meetGlass_220 ⟨Nat.le_of_ble_eq_true rfl, Nat.le_of_ble_eq_true rfl⟩) hS (fun q _ h => hFc q h) hFc (fun r u t H1 locs ht hvm hw hB hz1 hk1 hS => ?_)
    obtain ⟨hP1, hD1⟩ := hB
    rw [ht] at hP1
    obtain ⟨rfl, rfl⟩ := hw
    obtain ⟨hP, hD⟩ := va_join (wr := [(a_k, (oc5 a_h a_j a_pt e_ln e_se e_lh e_br e_we e_me e_ce e_wy e_ho e_ov)), (a_h, (oc1 e_wa e_le e_st e_fo e_lc a_l a_g a_b a_s a_p a_w e_gb a_bb)), (a_g, (oc6 6 5 a_gn e_g)), (a_gn, (arI G 30 f_g)), (a_p, (oc6 8 5 a_pn e_p)), (a_pn, (arI G 40 f_p)), (a_l, (arW G 6 f_l))]) hP hD [6, 7, 8] [0, 1, 2, 3, 4, 5, 9] rfl rfl (by decide) (by decide) hk1 hFc hP1 hD1
    generalize H1 = H at hP hS ⊢
    refine g5_rs [(a_k, (oc5 a_h a_j a_pt e_ln e_se e_lh e_br e_we e_me e_ce e_wy e_ho e_ov)), (a_h, (oc1 e_wa e_le e_st e_fo e_lc a_l a_g a_b a_s a_p a_w e_gb a_bb)), (a_g, (oc6 6 5 a_gn e_g)), (a_gn, (arI G 30 f_g)), (a_p, (oc6 8 5 a_pn e_p)), (a_pn, (arI G 40 f_p)), (a_l, (arW G 6 f_l)), (a_j, (oc2 a_as a_sk)), (a_as, (arI G 8 f_as)), (a_sk, (arJ G 50 f_sk))] hP hD (fun hP hD => ?_)
    refine lv_if_eq (tgt := 238) hx hb dX5_meetGlass_223 (by decide) (fun c_2 => ?_) (fun c_2 => ?_)
    ·
      refine lv_aload_n hx hb dX5_meetGlass_238 rfl (lv_at hl 1 rfl) ?_
      refine lv_iload_n hx hb dX5_meetGlass_239 rfl (lv_at hl 2 rfl) ?_
      refine lv_iconst (v := 3) hx hb dX5_meetGlass_240 (by decide) ?_
      obtain ⟨hPc, hDc, hFc⟩ := g5_sub3 (wc := [(a_g, (oc6 6 5 a_gn e_g)), (a_gn, (arI G 30 f_g))]) hP hD hS hA [2, 3] (by decide) rfl
      refine va_calli (va_runV (As := [.int k_r, .int 3]) (rest := []) ⟨hx, hb, hml, hown, hts⟩ (t_get_G l G a_g a_gn H.size e_g k_r 3 f_g ⟨by omega, by omega⟩) (cwV 2 hts gV_X5_107 rfl rfl rfl hv_X6_get ⟨Nat.le_of_ble_eq_true rfl, Nat.le_of_ble_eq_true rfl⟩) (g5_preV hPc hK hDc hN hT hS hFc (ci := 6) (q0 := 0) rfl rfl) rfl rfl hl.1 rfl (lv_room (Nat.le_of_ble_eq_true rfl)) dX5_meetGlass_241 ⟨Nat.le_of_ble_eq_true rfl, Nat.le_of_ble_eq_true rfl⟩) hS (fun q _ h => hFc q h) hFc (fun r u t H1 locs ht hvm hw hB hz1 hk1 hS => ?_)
      obtain ⟨hP1, hD1⟩ := hB
      rw [ht] at hP1
      obtain ⟨z4, i_3, y5, rfl⟩ := hw
      have i_3 : z4 = tget f_g e_g.toInt 5 k_r.toInt (3 : Int32).toInt := i_3
      obtain ⟨hP, hD⟩ := va_join (wr := [(a_k, (oc5 a_h a_j a_pt e_ln e_se e_lh e_br e_we e_me e_ce e_wy e_ho e_ov)), (a_h, (oc1 e_wa e_le e_st e_fo e_lc a_l a_g a_b a_s a_p a_w e_gb a_bb)), (a_p, (oc6 8 5 a_pn e_p)), (a_pn, (arI G 40 f_p)), (a_l, (arW G 6 f_l)), (a_j, (oc2 a_as a_sk)), (a_as, (arI G 8 f_as)), (a_sk, (arJ G 50 f_sk))]) hP hD [2, 3] [0, 1, 4, 5, 6, 7, 8, 9] rfl rfl (by decide) (by decide) hk1 hFc hP1 hD1
      generalize H1 = H at hP hS ⊢
      refine g5_rs [(a_k, (oc5 a_h a_j a_pt e_ln e_se e_lh e_br e_we e_me e_ce e_wy e_ho e_ov)), (a_h, (oc1 e_wa e_le e_st e_fo e_lc a_l a_g a_b a_s a_p a_w e_gb a_bb)), (a_p, (oc6 8 5 a_pn e_p)), (a_pn, (arI G 40 f_p)), (a_l, (arW G 6 f_l)), (a_j, (oc2 a_as a_sk)), (a_as, (arI G 8 f_as)), (a_sk, (arJ G 50 f_sk)), (a_g, (oc6 6 5 a_gn e_g)), (a_gn, (arI G 30 f_g))] hP hD (fun hP hD => ?_)
      refine g5_ti (v := z4) y5 ?_
      have hg_6 : 0 ≤ z4.toInt ∧ z4.toInt ≤ 10 := by rw [i_3]; exact (e_gk k_r.toInt (by omega) (by omega)).2.2.2
      refine lv_istore (lv' := [(8, .int z4), (0, .ref a_k), (2, .ref a_g), (3, .int k_r), (4, .int k_n), (5, .int k_s), (6, .null), (7, .int k_l)]) hx hb dX5_meetGlass_244 hl (by decide) rfl (fun ls hl => ?_)
      exact k_mggN4 G a_k a_h a_g a_gn a_p a_pn a_j a_as a_sk a_l a_pt a_b a_s a_w a_bb e_ln e_se e_lh e_br e_we e_me e_ce e_wy e_ho e_ov e_le e_st e_fo e_lc e_wa e_gb e_g f_g e_p f_p f_as f_sk f_l k_r k_n k_s k_l z4 hx hb hml hown hts hK hN hT hA (hP.sub [0, 1, 8, 9, 2, 3, 5, 6, 7, 4] rfl) (hD.sub [0, 1, 8, 9, 2, 3, 5, 6, 7, 4] (by decide) rfl) hS (lv_sub hl [1, 2, 3, 4, 5, 7, 0] rfl) ⟨by omega, by omega⟩ ⟨by omega, by omega⟩ ⟨by omega, by omega⟩ ⟨by omega, by omega⟩ ⟨by omega, by omega⟩ ⟨by omega, by omega⟩ ⟨by omega, by omega⟩ ⟨by omega, by omega⟩ ⟨by omega, by omega⟩ ⟨by omega, by omega⟩ ⟨by omega, by omega⟩ (by omega) kk
    ·
      exact absurd c_2 (by decide)
  ·
    have i_1 : k_l.toInt > e_ho.toInt := by have z := g5_leN (a := k_l.toInt) (b := e_ho.toInt) (by rfl) (by rfl) c_1; omega
    exact kk 212 dX5_meetGlass_212 e_br e_we e_me e_wy e_ho e_ov f_as f_sk ls H locs (hP.sub [0, 1, 2, 3, 4, 5, 6, 7, 8, 9] rfl) (hD.sub [0, 1, 2, 3, 4, 5, 6, 7, 8, 9] (by decide) rfl) hS (⟨by omega, by omega⟩) (⟨by omega, by omega⟩) (⟨by omega, by omega⟩) (⟨by omega, by omega⟩)
set_option maxHeartbeats 4000000 in
set_option maxRecDepth 100000 in
theorem k_mggN2 {p : Program} {l : Launch} {e : Env} {s : State} {m : MethodId} {args : Array Value} {below : List Frame} {meth : Method} {c : Code} {Q : State → Prop} {A : Nat → Prop} {H : Heap} {locs : List Loc} {ls : Array Slot} (G : g5_G) (a_k a_h a_g a_gn a_p a_pn a_j a_as a_sk a_l a_pt a_b a_s a_w a_bb : Nat) (e_ln : Int32) (e_se : Int32) (e_lh : Int32) (e_br : Int32) (e_we : Int32) (e_me : Int32) (e_ce : Int32) (e_wy : Int32) (e_ho : Int32) (e_ov : Int32) (e_le : Int32) (e_st : Int32) (e_fo : Int32) (e_lc : Int32) (e_wa : Int64) (e_gb : Int64) (e_g : Int32) (f_g : Nat → Int32) (e_p : Int32) (f_p : Nat → Int32) (f_as : Nat → Int32) (f_sk : Nat → Int64) (f_l : Nat → Option Nat) (k_r : Int32) (k_n : Int32) (k_s : Int32) (hx : p.tables.exec = Jvm.exec) (hb : c.code = cX5_meetGlass) (hml : c.maxLocals = 9) (hown : s.vm.findClass RX5 = some m.cls) (hts : ∀ w ∈ tblG, w.before args s = true) (hK : va_K G.1 vwCl (T5 G) s) (hN : g5_N s) (hT : g5_S A s s.heap) (hA : ∀ q : Nat, s.heap.size ≤ q → A q) (hP : va_P G.1 vwCl [(a_k, (oc5 a_h a_j a_pt e_ln e_se e_lh e_br e_we e_me e_ce e_wy e_ho e_ov)), (a_h, (oc1 e_wa e_le e_st e_fo e_lc a_l a_g a_b a_s a_p a_w e_gb a_bb)), (a_g, (oc6 6 5 a_gn e_g)), (a_gn, (arI G 30 f_g)), (a_p, (oc6 8 5 a_pn e_p)), (a_pn, (arI G 40 f_p)), (a_j, (oc2 a_as a_sk)), (a_as, (arI G 8 f_as)), (a_sk, (arJ G 50 f_sk)), (a_l, (arW G 6 f_l))] H) (hD : va_D A [(a_k, (oc5 a_h a_j a_pt e_ln e_se e_lh e_br e_we e_me e_ce e_wy e_ho e_ov)), (a_h, (oc1 e_wa e_le e_st e_fo e_lc a_l a_g a_b a_s a_p a_w e_gb a_bb)), (a_g, (oc6 6 5 a_gn e_g)), (a_gn, (arI G 30 f_g)), (a_p, (oc6 8 5 a_pn e_p)), (a_pn, (arI G 40 f_p)), (a_j, (oc2 a_as a_sk)), (a_as, (arI G 8 f_as)), (a_sk, (arJ G 50 f_sk)), (a_l, (arW G 6 f_l))]) (hS : va_S A s.heap H locs) (hl : lv_has ls 9 [(0, .ref a_k), (2, .ref a_g), (3, .int k_r), (4, .int k_n), (5, .int k_s), (6, .null)]) (h_e_br : 0 ≤ e_br.toInt ∧ e_br.toInt ≤ 1000000) (h_e_ce : 0 ≤ e_ce.toInt ∧ e_ce.toInt ≤ 63) (h_e_wy : 0 ≤ e_wy.toInt ∧ e_wy.toInt ≤ 3) (h_e_ho : 0 ≤ e_ho.toInt ∧ e_ho.toInt ≤ 23) (h_e_ov : 0 ≤ e_ov.toInt ∧ e_ov.toInt ≤ 1) (h_e_g : 0 ≤ e_g.toInt ∧ e_g.toInt ≤ 6) (h_e_p : 0 ≤ e_p.toInt ∧ e_p.toInt ≤ 8) (h_k_r : 0 ≤ k_r.toInt ∧ k_r.toInt ≤ 7) (h_k_s : 0 ≤ k_s.toInt ∧ k_s.toInt ≤ 5) (e_gk : gOK f_g e_g.toInt) (e_pk : gOK f_p e_p.toInt) (e_f : e_fo.toInt < 0 ∨ e_lc.toInt ≤ e_fo.toInt) (e_r : k_r.toInt < e_g.toInt) (kk : ∀ (pc1 : Nat), decode cX5_meetGlass pc1 = .ok (.return_, 1) → ∀ (o_b : Int32) (o_w : Int32) (o_m : Int32) (o_y : Int32) (o_h : Int32) (o_v : Int32) (o_a : Nat → Int32) (o_k : Nat → Int64) (ls : Array Slot) (H : Heap) (locs : List Loc), va_P G.1 vwCl [(a_k, (oc5 a_h a_j a_pt e_ln e_se e_lh o_b o_w o_m e_ce o_y o_h o_v)), (a_h, (oc1 e_wa e_le e_st e_fo e_lc a_l a_g a_b a_s a_p a_w e_gb a_bb)), (a_g, (oc6 6 5 a_gn e_g)), (a_gn, (arI G 30 f_g)), (a_p, (oc6 8 5 a_pn e_p)), (a_pn, (arI G 40 f_p)), (a_j, (oc2 a_as a_sk)), (a_as, (arI G 8 o_a)), (a_sk, (arJ G 50 o_k)), (a_l, (arW G 6 f_l))] H → va_D A [(a_k, (oc5 a_h a_j a_pt e_ln e_se e_lh o_b o_w o_m e_ce o_y o_h o_v)), (a_h, (oc1 e_wa e_le e_st e_fo e_lc a_l a_g a_b a_s a_p a_w e_gb a_bb)), (a_g, (oc6 6 5 a_gn e_g)), (a_gn, (arI G 30 f_g)), (a_p, (oc6 8 5 a_pn e_p)), (a_pn, (arI G 40 f_p)), (a_j, (oc2 a_as a_sk)), (a_as, (arI G 8 o_a)), (a_sk, (arJ G 50 o_k)), (a_l, (arW G 6 f_l))] → va_S A s.heap H locs → (0 ≤ o_b.toInt ∧ o_b.toInt ≤ 1000000) → (0 ≤ o_y.toInt ∧ o_y.toInt ≤ 3) → (0 ≤ o_h.toInt ∧ o_h.toInt ≤ 23) → (0 ≤ o_v.toInt ∧ o_v.toInt ≤ 1) → W p l e ({ frames := 12, cells := 0, slots := 0, locals := 500 } : Room) s m args below meth c H locs 0 0 Q (F0 m pc1 ls [])) : W p l e ({ frames := 12, cells := 0, slots := 0, locals := 500 } : Room) s m args below meth c H locs 0 0 Q (F0 m 170 ls []) := by
  refine lv_aload_n hx hb dX5_meetGlass_170 rfl (lv_at hl 0 rfl) ?_
  refine va_get (D := G.1) (ci := 5) (v := .ref a_j) (C := RX5) (T := TX5) (N := 13) hx hb hts inG_X5 hown hK hP 0 rfl rfl 1 (by decide) (hts _ fl_X5_12) (fun _ h9 => h9) rfl dX5_meetGlass_171 ?_
  refine lv_aloadN hx hb dX5_meetGlass_174 (lv_at hl 5 rfl) ?_
  refine lv_iconst (v := 0) hx hb dX5_meetGlass_176 (by decide) ?_
  obtain ⟨hPc, hDc, hFc⟩ := g5_sub3 (wc := [(a_j, (oc2 a_as a_sk)), (a_as, (arI G 8 f_as)), (a_sk, (arJ G 50 f_sk))]) hP hD hS hA [6, 7, 8] (by decide) rfl
  refine va_calli (va_runV (As := [.null, .int 0]) (rest := []) ⟨hx, hb, hml, hown, hts⟩ (j_isHeldN l G a_j a_as a_sk H.size 0 f_as f_sk) (cwV 2 hts gV_X5_124 rfl rfl rfl hv_X2_isHeld ⟨Nat.le_of_ble_eq_true rfl, Nat.le_of_ble_eq_true rfl⟩) (g5_preV hPc hK hDc hN hT hS hFc (ci := 2) (q0 := 0) rfl rfl) rfl rfl hl.1 rfl (lv_room (Nat.le_of_ble_eq_true rfl)) dX5_meetGlass_177 ⟨Nat.le_of_ble_eq_true rfl, Nat.le_of_ble_eq_true rfl⟩) hS (fun q _ h => hFc q h) hFc (fun r u t H1 locs ht hvm hw hB hz1 hk1 hS => ?_)
  obtain ⟨hP1, hD1⟩ := hB
  rw [ht] at hP1
  obtain ⟨rfl, rfl⟩ := hw
  obtain ⟨hP, hD⟩ := va_join (wr := [(a_k, (oc5 a_h a_j a_pt e_ln e_se e_lh e_br e_we e_me e_ce e_wy e_ho e_ov)), (a_h, (oc1 e_wa e_le e_st e_fo e_lc a_l a_g a_b a_s a_p a_w e_gb a_bb)), (a_g, (oc6 6 5 a_gn e_g)), (a_gn, (arI G 30 f_g)), (a_p, (oc6 8 5 a_pn e_p)), (a_pn, (arI G 40 f_p)), (a_l, (arW G 6 f_l))]) hP hD [6, 7, 8] [0, 1, 2, 3, 4, 5, 9] rfl rfl (by decide) (by decide) hk1 hFc hP1 hD1
  generalize H1 = H at hP hS ⊢
  refine g5_rs [(a_k, (oc5 a_h a_j a_pt e_ln e_se e_lh e_br e_we e_me e_ce e_wy e_ho e_ov)), (a_h, (oc1 e_wa e_le e_st e_fo e_lc a_l a_g a_b a_s a_p a_w e_gb a_bb)), (a_g, (oc6 6 5 a_gn e_g)), (a_gn, (arI G 30 f_g)), (a_p, (oc6 8 5 a_pn e_p)), (a_pn, (arI G 40 f_p)), (a_l, (arW G 6 f_l)), (a_j, (oc2 a_as a_sk)), (a_as, (arI G 8 f_as)), (a_sk, (arJ G 50 f_sk))] hP hD (fun hP hD => ?_)
  refine lv_if_eq (tgt := 195) hx hb dX5_meetGlass_180 (by decide) (fun c_1 => ?_) (fun c_1 => ?_)
  ·
    refine lv_aload_n hx hb dX5_meetGlass_195 rfl (lv_at hl 1 rfl) ?_
    refine lv_iload_n hx hb dX5_meetGlass_196 rfl (lv_at hl 2 rfl) ?_
    refine lv_iconst (v := 2) hx hb dX5_meetGlass_197 (by decide) ?_
    obtain ⟨hPc, hDc, hFc⟩ := g5_sub3 (wc := [(a_g, (oc6 6 5 a_gn e_g)), (a_gn, (arI G 30 f_g))]) hP hD hS hA [2, 3] (by decide) rfl
    refine va_calli (va_runV (As := [.int k_r, .int 2]) (rest := []) ⟨hx, hb, hml, hown, hts⟩ (t_get_G l G a_g a_gn H.size e_g k_r 2 f_g ⟨by omega, by omega⟩) (cwV 2 hts gV_X5_107 rfl rfl rfl hv_X6_get ⟨Nat.le_of_ble_eq_true rfl, Nat.le_of_ble_eq_true rfl⟩) (g5_preV hPc hK hDc hN hT hS hFc (ci := 6) (q0 := 0) rfl rfl) rfl rfl hl.1 rfl (lv_room (Nat.le_of_ble_eq_true rfl)) dX5_meetGlass_198 ⟨Nat.le_of_ble_eq_true rfl, Nat.le_of_ble_eq_true rfl⟩) hS (fun q _ h => hFc q h) hFc (fun r u t H1 locs ht hvm hw hB hz1 hk1 hS => ?_)
    obtain ⟨hP1, hD1⟩ := hB
    rw [ht] at hP1
    obtain ⟨z3, i_2, y4, rfl⟩ := hw
    have i_2 : z3 = tget f_g e_g.toInt 5 k_r.toInt (2 : Int32).toInt := i_2
    obtain ⟨hP, hD⟩ := va_join (wr := [(a_k, (oc5 a_h a_j a_pt e_ln e_se e_lh e_br e_we e_me e_ce e_wy e_ho e_ov)), (a_h, (oc1 e_wa e_le e_st e_fo e_lc a_l a_g a_b a_s a_p a_w e_gb a_bb)), (a_p, (oc6 8 5 a_pn e_p)), (a_pn, (arI G 40 f_p)), (a_l, (arW G 6 f_l)), (a_j, (oc2 a_as a_sk)), (a_as, (arI G 8 f_as)), (a_sk, (arJ G 50 f_sk))]) hP hD [2, 3] [0, 1, 4, 5, 6, 7, 8, 9] rfl rfl (by decide) (by decide) hk1 hFc hP1 hD1
    generalize H1 = H at hP hS ⊢
    refine g5_rs [(a_k, (oc5 a_h a_j a_pt e_ln e_se e_lh e_br e_we e_me e_ce e_wy e_ho e_ov)), (a_h, (oc1 e_wa e_le e_st e_fo e_lc a_l a_g a_b a_s a_p a_w e_gb a_bb)), (a_p, (oc6 8 5 a_pn e_p)), (a_pn, (arI G 40 f_p)), (a_l, (arW G 6 f_l)), (a_j, (oc2 a_as a_sk)), (a_as, (arI G 8 f_as)), (a_sk, (arJ G 50 f_sk)), (a_g, (oc6 6 5 a_gn e_g)), (a_gn, (arI G 30 f_g))] hP hD (fun hP hD => ?_)
    refine g5_ti (v := z3) y4 ?_
    have hg_5 : 0 ≤ z3.toInt ∧ z3.toInt ≤ 23 := by rw [i_2]; exact (e_gk k_r.toInt (by omega) (by omega)).2.2.1
    refine lv_istore (lv' := [(7, .int z3), (0, .ref a_k), (2, .ref a_g), (3, .int k_r), (4, .int k_n), (5, .int k_s), (6, .null)]) hx hb dX5_meetGlass_201 hl (by decide) rfl (fun ls hl => ?_)
    exact k_mggN3 G a_k a_h a_g a_gn a_p a_pn a_j a_as a_sk a_l a_pt a_b a_s a_w a_bb e_ln e_se e_lh e_br e_we e_me e_ce e_wy e_ho e_ov e_le e_st e_fo e_lc e_wa e_gb e_g f_g e_p f_p f_as f_sk f_l k_r k_n k_s z3 hx hb hml hown hts hK hN hT hA (hP.sub [0, 1, 8, 9, 2, 3, 5, 6, 7, 4] rfl) (hD.sub [0, 1, 8, 9, 2, 3, 5, 6, 7, 4] (by decide) rfl) hS (lv_sub hl [1, 2, 3, 4, 5, 6, 0] rfl) ⟨by omega, by omega⟩ ⟨by omega, by omega⟩ ⟨by omega, by omega⟩ ⟨by omega, by omega⟩ ⟨by omega, by omega⟩ ⟨by omega, by omega⟩ ⟨by omega, by omega⟩ ⟨by omega, by omega⟩ ⟨by omega, by omega⟩ ⟨by omega, by omega⟩ (e_gk) (e_pk) (e_f) (e_r) kk
  ·
    exact absurd c_1 (by decide)
theorem fl_X5_95 : Cond.fieldLink RX5 95 "LateGlass$Look" "met" "I" ∈ tblG := tg 262 (by decide +kernel) (by decide +kernel)
set_option maxHeartbeats 4000000 in
set_option maxRecDepth 100000 in
theorem k_mggN1 {p : Program} {l : Launch} {e : Env} {s : State} {m : MethodId} {args : Array Value} {below : List Frame} {meth : Method} {c : Code} {Q : State → Prop} {A : Nat → Prop} {H : Heap} {locs : List Loc} {ls : Array Slot} (G : g5_G) (a_k a_h a_g a_gn a_p a_pn a_j a_as a_sk a_l a_pt a_b a_s a_w a_bb : Nat) (e_ln : Int32) (e_se : Int32) (e_lh : Int32) (e_br : Int32) (e_we : Int32) (e_me : Int32) (e_ce : Int32) (e_wy : Int32) (e_ho : Int32) (e_ov : Int32) (e_le : Int32) (e_st : Int32) (e_fo : Int32) (e_lc : Int32) (e_wa : Int64) (e_gb : Int64) (e_g : Int32) (f_g : Nat → Int32) (e_p : Int32) (f_p : Nat → Int32) (f_as : Nat → Int32) (f_sk : Nat → Int64) (f_l : Nat → Option Nat) (k_r : Int32) (k_n : Int32) (hx : p.tables.exec = Jvm.exec) (hb : c.code = cX5_meetGlass) (hml : c.maxLocals = 9) (hown : s.vm.findClass RX5 = some m.cls) (hts : ∀ w ∈ tblG, w.before args s = true) (hK : va_K G.1 vwCl (T5 G) s) (hN : g5_N s) (hT : g5_S A s s.heap) (hA : ∀ q : Nat, s.heap.size ≤ q → A q) (hP : va_P G.1 vwCl [(a_k, (oc5 a_h a_j a_pt e_ln e_se e_lh e_br e_we e_me e_ce e_wy e_ho e_ov)), (a_h, (oc1 e_wa e_le e_st e_fo e_lc a_l a_g a_b a_s a_p a_w e_gb a_bb)), (a_g, (oc6 6 5 a_gn e_g)), (a_gn, (arI G 30 f_g)), (a_p, (oc6 8 5 a_pn e_p)), (a_pn, (arI G 40 f_p)), (a_j, (oc2 a_as a_sk)), (a_as, (arI G 8 f_as)), (a_sk, (arJ G 50 f_sk)), (a_l, (arW G 6 f_l))] H) (hD : va_D A [(a_k, (oc5 a_h a_j a_pt e_ln e_se e_lh e_br e_we e_me e_ce e_wy e_ho e_ov)), (a_h, (oc1 e_wa e_le e_st e_fo e_lc a_l a_g a_b a_s a_p a_w e_gb a_bb)), (a_g, (oc6 6 5 a_gn e_g)), (a_gn, (arI G 30 f_g)), (a_p, (oc6 8 5 a_pn e_p)), (a_pn, (arI G 40 f_p)), (a_j, (oc2 a_as a_sk)), (a_as, (arI G 8 f_as)), (a_sk, (arJ G 50 f_sk)), (a_l, (arW G 6 f_l))]) (hS : va_S A s.heap H locs) (hl : lv_has ls 9 [(0, .ref a_k), (2, .ref a_g), (3, .int k_r), (4, .int k_n)]) (h_e_br : 0 ≤ e_br.toInt ∧ e_br.toInt ≤ 1000000) (h_e_ce : 0 ≤ e_ce.toInt ∧ e_ce.toInt ≤ 63) (h_e_wy : 0 ≤ e_wy.toInt ∧ e_wy.toInt ≤ 3) (h_e_ho : 0 ≤ e_ho.toInt ∧ e_ho.toInt ≤ 23) (h_e_ov : 0 ≤ e_ov.toInt ∧ e_ov.toInt ≤ 1) (h_e_g : 0 ≤ e_g.toInt ∧ e_g.toInt ≤ 6) (h_e_p : 0 ≤ e_p.toInt ∧ e_p.toInt ≤ 8) (h_k_r : 0 ≤ k_r.toInt ∧ k_r.toInt ≤ 7) (e_gk : gOK f_g e_g.toInt) (e_pk : gOK f_p e_p.toInt) (e_f : e_fo.toInt < 0 ∨ e_lc.toInt ≤ e_fo.toInt) (e_r : k_r.toInt < e_g.toInt) (kk : ∀ (pc1 : Nat), decode cX5_meetGlass pc1 = .ok (.return_, 1) → ∀ (o_b : Int32) (o_w : Int32) (o_m : Int32) (o_y : Int32) (o_h : Int32) (o_v : Int32) (o_a : Nat → Int32) (o_k : Nat → Int64) (ls : Array Slot) (H : Heap) (locs : List Loc), va_P G.1 vwCl [(a_k, (oc5 a_h a_j a_pt e_ln e_se e_lh o_b o_w o_m e_ce o_y o_h o_v)), (a_h, (oc1 e_wa e_le e_st e_fo e_lc a_l a_g a_b a_s a_p a_w e_gb a_bb)), (a_g, (oc6 6 5 a_gn e_g)), (a_gn, (arI G 30 f_g)), (a_p, (oc6 8 5 a_pn e_p)), (a_pn, (arI G 40 f_p)), (a_j, (oc2 a_as a_sk)), (a_as, (arI G 8 o_a)), (a_sk, (arJ G 50 o_k)), (a_l, (arW G 6 f_l))] H → va_D A [(a_k, (oc5 a_h a_j a_pt e_ln e_se e_lh o_b o_w o_m e_ce o_y o_h o_v)), (a_h, (oc1 e_wa e_le e_st e_fo e_lc a_l a_g a_b a_s a_p a_w e_gb a_bb)), (a_g, (oc6 6 5 a_gn e_g)), (a_gn, (arI G 30 f_g)), (a_p, (oc6 8 5 a_pn e_p)), (a_pn, (arI G 40 f_p)), (a_j, (oc2 a_as a_sk)), (a_as, (arI G 8 o_a)), (a_sk, (arJ G 50 o_k)), (a_l, (arW G 6 f_l))] → va_S A s.heap H locs → (0 ≤ o_b.toInt ∧ o_b.toInt ≤ 1000000) → (0 ≤ o_y.toInt ∧ o_y.toInt ≤ 3) → (0 ≤ o_h.toInt ∧ o_h.toInt ≤ 23) → (0 ≤ o_v.toInt ∧ o_v.toInt ≤ 1) → W p l e ({ frames := 12, cells := 0, slots := 0, locals := 500 } : Room) s m args below meth c H locs 0 0 Q (F0 m pc1 ls [])) : W p l e ({ frames := 12, cells := 0, slots := 0, locals := 500 } : Room) s m args below meth c H locs 0 0 Q (F0 m 84 ls []) := by
  refine lv_aload_n hx hb dX5_meetGlass_84 rfl (lv_at hl 1 rfl) ?_
  refine lv_iload_n hx hb dX5_meetGlass_85 rfl (lv_at hl 2 rfl) ?_
  refine lv_iconst (v := 1) hx hb dX5_meetGlass_86 (by decide) ?_
  obtain ⟨hPc, hDc, hFc⟩ := g5_sub3 (wc := [(a_g, (oc6 6 5 a_gn e_g)), (a_gn, (arI G 30 f_g))]) hP hD hS hA [2, 3] (by decide) rfl
  refine va_calli (va_runV (As := [.int k_r, .int 1]) (rest := []) ⟨hx, hb, hml, hown, hts⟩ (t_get_G l G a_g a_gn H.size e_g k_r 1 f_g ⟨by omega, by omega⟩) (cwV 2 hts gV_X5_107 rfl rfl rfl hv_X6_get ⟨Nat.le_of_ble_eq_true rfl, Nat.le_of_ble_eq_true rfl⟩) (g5_preV hPc hK hDc hN hT hS hFc (ci := 6) (q0 := 0) rfl rfl) rfl rfl hl.1 rfl (lv_room (Nat.le_of_ble_eq_true rfl)) dX5_meetGlass_87 ⟨Nat.le_of_ble_eq_true rfl, Nat.le_of_ble_eq_true rfl⟩) hS (fun q _ h => hFc q h) hFc (fun r u t H1 locs ht hvm hw hB hz1 hk1 hS => ?_)
  obtain ⟨hP1, hD1⟩ := hB
  rw [ht] at hP1
  obtain ⟨z2, i_1, y3, rfl⟩ := hw
  have i_1 : z2 = tget f_g e_g.toInt 5 k_r.toInt (1 : Int32).toInt := i_1
  obtain ⟨hP, hD⟩ := va_join (wr := [(a_k, (oc5 a_h a_j a_pt e_ln e_se e_lh e_br e_we e_me e_ce e_wy e_ho e_ov)), (a_h, (oc1 e_wa e_le e_st e_fo e_lc a_l a_g a_b a_s a_p a_w e_gb a_bb)), (a_p, (oc6 8 5 a_pn e_p)), (a_pn, (arI G 40 f_p)), (a_j, (oc2 a_as a_sk)), (a_as, (arI G 8 f_as)), (a_sk, (arJ G 50 f_sk)), (a_l, (arW G 6 f_l))]) hP hD [2, 3] [0, 1, 4, 5, 6, 7, 8, 9] rfl rfl (by decide) (by decide) hk1 hFc hP1 hD1
  generalize H1 = H at hP hS ⊢
  refine g5_rs [(a_k, (oc5 a_h a_j a_pt e_ln e_se e_lh e_br e_we e_me e_ce e_wy e_ho e_ov)), (a_h, (oc1 e_wa e_le e_st e_fo e_lc a_l a_g a_b a_s a_p a_w e_gb a_bb)), (a_p, (oc6 8 5 a_pn e_p)), (a_pn, (arI G 40 f_p)), (a_j, (oc2 a_as a_sk)), (a_as, (arI G 8 f_as)), (a_sk, (arJ G 50 f_sk)), (a_l, (arW G 6 f_l)), (a_g, (oc6 6 5 a_gn e_g)), (a_gn, (arI G 30 f_g))] hP hD (fun hP hD => ?_)
  refine g5_ti (v := z2) y3 ?_
  have hg_4 : 0 ≤ z2.toInt ∧ z2.toInt ≤ 5 := by rw [i_1]; exact (e_gk k_r.toInt (by omega) (by omega)).2.1
  refine lv_istore (lv' := [(5, .int z2), (0, .ref a_k), (2, .ref a_g), (3, .int k_r), (4, .int k_n)]) hx hb dX5_meetGlass_90 hl (by decide) rfl (fun ls hl => ?_)
  refine lv_aload_n hx hb dX5_meetGlass_92 rfl (lv_at hl 1 rfl) ?_
  refine lv_dup hx hb dX5_meetGlass_93 rfl ?_
  refine va_get (D := G.1) (ci := 5) (v := .int e_me) (C := RX5) (T := TX5) (N := 13) hx hb hts inG_X5 hown hK hP 0 rfl rfl 8 (by decide) (hts _ fl_X5_95) (fun _ h9 => h9) rfl dX5_meetGlass_94 ?_
  refine lv_iconst (v := 1) hx hb dX5_meetGlass_97 (by decide) ?_
  refine lv_iload hx hb dX5_meetGlass_98 (lv_at hl 4 rfl) ?_
  refine lv_ishl hx hb dX5_meetGlass_100 ?_
  refine lv_ior hx hb dX5_meetGlass_101 ?_
  refine va_put (D := G.1) (ci := 5) (v := .int (e_me ||| (1 <<< (k_n &&& 31)))) (ty := .int) (C := RX5) (T := TX5) (N := 13) hx hb hts inG_X5 tyX5 tyX5_ok nmX5 hown hK hP hD hS 0 rfl rfl 8 (by decide) (hts _ fl_X5_95) (fun _ h9 => h9) rfl (by decide +kernel) rfl rfl (Nat.le_of_ble_eq_true rfl) dX5_meetGlass_102 (fun H locs hP hD hS => ?_)
  refine g5_rs [(a_k, (oc5 a_h a_j a_pt e_ln e_se e_lh e_br e_we (e_me ||| (1 <<< (k_n &&& 31))) e_ce e_wy e_ho e_ov)), (a_h, (oc1 e_wa e_le e_st e_fo e_lc a_l a_g a_b a_s a_p a_w e_gb a_bb)), (a_p, (oc6 8 5 a_pn e_p)), (a_pn, (arI G 40 f_p)), (a_j, (oc2 a_as a_sk)), (a_as, (arI G 8 f_as)), (a_sk, (arJ G 50 f_sk)), (a_l, (arW G 6 f_l)), (a_g, (oc6 6 5 a_gn e_g)), (a_gn, (arI G 30 f_g))] hP hD (fun hP hD => ?_)
  refine lv_aload_n hx hb dX5_meetGlass_105 rfl (lv_at hl 1 rfl) ?_
  refine va_get (D := G.1) (ci := 5) (v := .ref a_h) (C := RX5) (T := TX5) (N := 13) hx hb hts inG_X5 hown hK hP 0 rfl rfl 0 (by decide) (hts _ fl_X5_22) (fun _ h9 => h9) rfl dX5_meetGlass_106 ?_
  obtain ⟨hPc, hDc, hFc⟩ := g5_sub3 (wc := [(a_h, (oc1 e_wa e_le e_st e_fo e_lc a_l a_g a_b a_s a_p a_w e_gb a_bb)), (a_l, (arW G 6 f_l))]) hP hD hS hA [1, 7] (by decide) rfl
  refine va_callq (va_runV (As := []) (rest := []) ⟨hx, hb, hml, hown, hts⟩ (h_lawN l G a_h a_l a_g a_b a_s a_p a_w a_bb H.size e_le e_st e_fo e_lc e_wa e_gb f_l (e_f)) (cwV 0 hts gV_X5_113 rfl rfl rfl hv_X1_lawInForce ⟨Nat.le_of_ble_eq_true rfl, Nat.le_of_ble_eq_true rfl⟩) (g5_preV hPc hK hDc hN hT hS hFc (ci := 1) (q0 := 0) rfl rfl) rfl rfl hl.1 rfl (lv_room (Nat.le_of_ble_eq_true rfl)) dX5_meetGlass_109 ⟨Nat.le_of_ble_eq_true rfl, Nat.le_of_ble_eq_true rfl⟩) hS (fun q _ h => hFc q h) hFc (fun r u t H1 locs ht hvm hw hB hz1 hk1 hS => ?_)
  obtain ⟨hP1, hD1⟩ := hB
  rw [ht] at hP1
  obtain ⟨rfl, rfl⟩ := hw
  obtain ⟨hP, hD⟩ := va_join (wr := [(a_k, (oc5 a_h a_j a_pt e_ln e_se e_lh e_br e_we (e_me ||| (1 <<< (k_n &&& 31))) e_ce e_wy e_ho e_ov)), (a_p, (oc6 8 5 a_pn e_p)), (a_pn, (arI G 40 f_p)), (a_j, (oc2 a_as a_sk)), (a_as, (arI G 8 f_as)), (a_sk, (arJ G 50 f_sk)), (a_g, (oc6 6 5 a_gn e_g)), (a_gn, (arI G 30 f_g))]) hP hD [1, 7] [0, 2, 3, 4, 5, 6, 8, 9] rfl rfl (by decide) (by decide) hk1 hFc hP1 hD1
  generalize H1 = H at hP hS ⊢
  refine g5_rs [(a_k, (oc5 a_h a_j a_pt e_ln e_se e_lh e_br e_we (e_me ||| (1 <<< (k_n &&& 31))) e_ce e_wy e_ho e_ov)), (a_p, (oc6 8 5 a_pn e_p)), (a_pn, (arI G 40 f_p)), (a_j, (oc2 a_as a_sk)), (a_as, (arI G 8 f_as)), (a_sk, (arJ G 50 f_sk)), (a_g, (oc6 6 5 a_gn e_g)), (a_gn, (arI G 30 f_g)), (a_h, (oc1 e_wa e_le e_st e_fo e_lc a_l a_g a_b a_s a_p a_w e_gb a_bb)), (a_l, (arW G 6 f_l))] hP hD (fun hP hD => ?_)
  refine g5_tv (v := .null) rfl ?_
  refine lv_astoreN (lv' := [(6, .null), (5, .int z2), (0, .ref a_k), (2, .ref a_g), (3, .int k_r), (4, .int k_n)]) hx hb dX5_meetGlass_112 hl (by decide) rfl (fun ls hl => ?_)
  refine lv_aload_n hx hb dX5_meetGlass_114 rfl (lv_at hl 2 rfl) ?_
  refine lv_iload hx hb dX5_meetGlass_115 (lv_at hl 5 rfl) ?_
  refine lv_iconst (v := (-1)) hx hb dX5_meetGlass_117 (by decide) ?_
  obtain ⟨hPc, hDc, hFc⟩ := g5_sub3 (wc := [(a_k, (oc5 a_h a_j a_pt e_ln e_se e_lh e_br e_we (e_me ||| (1 <<< (k_n &&& 31))) e_ce e_wy e_ho e_ov)), (a_j, (oc2 a_as a_sk)), (a_as, (arI G 8 f_as))]) hP hD hS hA [0, 3, 4] (by decide) rfl
  refine va_callv (va_runV (As := [.int k_n, .int (-1)]) (rest := []) ⟨hx, hb, hml, hown, hts⟩ (k_ask l G a_k a_j a_as a_h a_pt a_sk H.size e_ln e_se e_lh e_br e_we (e_me ||| (1 <<< (k_n &&& 31))) e_ce e_wy e_ho e_ov k_n (-1) f_as ⟨by omega, by omega⟩ ⟨by omega, by omega⟩ ⟨by omega, by omega⟩ ⟨by omega, by omega⟩ ⟨by omega, by omega⟩) (cwV 2 hts gV_X5_120 rfl rfl rfl hv_X5_ask ⟨Nat.le_of_ble_eq_true rfl, Nat.le_of_ble_eq_true rfl⟩) (g5_preV hPc hK hDc hN hT hS hFc (ci := 5) (q0 := 0) rfl rfl) rfl rfl hl.1 rfl (lv_room (Nat.le_of_ble_eq_true rfl)) dX5_meetGlass_118 ⟨Nat.le_of_ble_eq_true rfl, Nat.le_of_ble_eq_true rfl⟩) hS (fun q _ h => hFc q h) hFc (fun u t H1 locs ht hvm hw hB hz1 hk1 hS => ?_)
  obtain ⟨hP1, hD1⟩ := hB
  rw [ht] at hP1
  obtain ⟨z5, rfl⟩ := hw
  obtain ⟨hP, hD⟩ := va_join (wr := [(a_p, (oc6 8 5 a_pn e_p)), (a_pn, (arI G 40 f_p)), (a_sk, (arJ G 50 f_sk)), (a_g, (oc6 6 5 a_gn e_g)), (a_gn, (arI G 30 f_g)), (a_h, (oc1 e_wa e_le e_st e_fo e_lc a_l a_g a_b a_s a_p a_w e_gb a_bb)), (a_l, (arW G 6 f_l))]) hP hD [0, 3, 4] [1, 2, 5, 6, 7, 8, 9] rfl rfl (by decide) (by decide) hk1 hFc hP1 hD1
  generalize H1 = H at hP hS ⊢
  refine g5_rs [(a_p, (oc6 8 5 a_pn e_p)), (a_pn, (arI G 40 f_p)), (a_sk, (arJ G 50 f_sk)), (a_g, (oc6 6 5 a_gn e_g)), (a_gn, (arI G 30 f_g)), (a_h, (oc1 e_wa e_le e_st e_fo e_lc a_l a_g a_b a_s a_p a_w e_gb a_bb)), (a_l, (arW G 6 f_l)), (a_k, (oc5 a_h a_j a_pt e_ln e_se e_lh e_br e_we (e_me ||| (1 <<< (k_n &&& 31))) e_ce e_wy e_ho e_ov)), (a_j, (oc2 a_as a_sk)), (a_as, (arI G 8 z5))] hP hD (fun hP hD => ?_)
  refine lv_aload_n hx hb dX5_meetGlass_121 rfl (lv_at hl 3 rfl) ?_
  refine lv_iload_n hx hb dX5_meetGlass_122 rfl (lv_at hl 4 rfl) ?_
  refine lv_iconst (v := 4) hx hb dX5_meetGlass_123 (by decide) ?_
  obtain ⟨hPc, hDc, hFc⟩ := g5_sub3 (wc := [(a_g, (oc6 6 5 a_gn e_g)), (a_gn, (arI G 30 f_g))]) hP hD hS hA [3, 4] (by decide) rfl
  refine va_calli (va_runV (As := [.int k_r, .int 4]) (rest := []) ⟨hx, hb, hml, hown, hts⟩ (t_get_G l G a_g a_gn H.size e_g k_r 4 f_g ⟨by omega, by omega⟩) (cwV 2 hts gV_X5_107 rfl rfl rfl hv_X6_get ⟨Nat.le_of_ble_eq_true rfl, Nat.le_of_ble_eq_true rfl⟩) (g5_preV hPc hK hDc hN hT hS hFc (ci := 6) (q0 := 0) rfl rfl) rfl rfl hl.1 rfl (lv_room (Nat.le_of_ble_eq_true rfl)) dX5_meetGlass_124 ⟨Nat.le_of_ble_eq_true rfl, Nat.le_of_ble_eq_true rfl⟩) hS (fun q _ h => hFc q h) hFc (fun r u t H1 locs ht hvm hw hB hz1 hk1 hS => ?_)
  obtain ⟨hP1, hD1⟩ := hB
  rw [ht] at hP1
  obtain ⟨z7, i_6, y8, rfl⟩ := hw
  have i_6 : z7 = tget f_g e_g.toInt 5 k_r.toInt (4 : Int32).toInt := i_6
  obtain ⟨hP, hD⟩ := va_join (wr := [(a_p, (oc6 8 5 a_pn e_p)), (a_pn, (arI G 40 f_p)), (a_sk, (arJ G 50 f_sk)), (a_h, (oc1 e_wa e_le e_st e_fo e_lc a_l a_g a_b a_s a_p a_w e_gb a_bb)), (a_l, (arW G 6 f_l)), (a_k, (oc5 a_h a_j a_pt e_ln e_se e_lh e_br e_we (e_me ||| (1 <<< (k_n &&& 31))) e_ce e_wy e_ho e_ov)), (a_j, (oc2 a_as a_sk)), (a_as, (arI G 8 z5))]) hP hD [3, 4] [0, 1, 2, 5, 6, 7, 8, 9] rfl rfl (by decide) (by decide) hk1 hFc hP1 hD1
  generalize H1 = H at hP hS ⊢
  refine g5_rs [(a_p, (oc6 8 5 a_pn e_p)), (a_pn, (arI G 40 f_p)), (a_sk, (arJ G 50 f_sk)), (a_h, (oc1 e_wa e_le e_st e_fo e_lc a_l a_g a_b a_s a_p a_w e_gb a_bb)), (a_l, (arW G 6 f_l)), (a_k, (oc5 a_h a_j a_pt e_ln e_se e_lh e_br e_we (e_me ||| (1 <<< (k_n &&& 31))) e_ce e_wy e_ho e_ov)), (a_j, (oc2 a_as a_sk)), (a_as, (arI G 8 z5)), (a_g, (oc6 6 5 a_gn e_g)), (a_gn, (arI G 30 f_g))] hP hD (fun hP hD => ?_)
  refine g5_ti (v := z7) y8 ?_
  refine lv_aload_n hx hb dX5_meetGlass_127 rfl (lv_at hl 2 rfl) ?_
  refine va_get (D := G.1) (ci := 5) (v := .int e_ho) (C := RX5) (T := TX5) (N := 13) hx hb hts inG_X5 hown hK hP 5 rfl rfl 11 (by decide) (hts _ fl_X5_33) (fun _ h9 => h9) rfl dX5_meetGlass_128 ?_
  refine lv_ishr hx hb dX5_meetGlass_131 ?_
  refine lv_iconst (v := 1) hx hb dX5_meetGlass_132 (by decide) ?_
  refine lv_iand hx hb dX5_meetGlass_133 ?_
  refine lv_if_ne (tgt := 169) hx hb dX5_meetGlass_134 (by decide) (fun c_9 => ?_) (fun c_9 => ?_)
  ·
    have n_9 : gNe (((z7 >>> (e_ho &&& 31)) &&& 1).toInt) (0) := by have z := g5_ne (a := ((z7 >>> (e_ho &&& 31)) &&& 1).toInt) (b := 0) (by rfl) (by decide) c_9; unfold gNe; omega
    exact kk 169 dX5_meetGlass_169 e_br e_we (e_me ||| (1 <<< (k_n &&& 31))) e_wy e_ho e_ov z5 f_sk ls H locs (hP.sub [5, 3, 8, 9, 0, 1, 6, 7, 2, 4] rfl) (hD.sub [5, 3, 8, 9, 0, 1, 6, 7, 2, 4] (by decide) rfl) hS (⟨by omega, by omega⟩) (⟨by omega, by omega⟩) (⟨by omega, by omega⟩) (⟨by omega, by omega⟩)
  ·
    have i_9 : ((z7 >>> (e_ho &&& 31)) &&& 1).toInt = 0 := by have z := g5_neN (a := ((z7 >>> (e_ho &&& 31)) &&& 1).toInt) (b := 0) (by rfl) (by decide) c_9; omega
    refine lv_aload_n hx hb dX5_meetGlass_137 rfl (lv_at hl 2 rfl) ?_
    refine va_get (D := G.1) (ci := 5) (v := .ref a_j) (C := RX5) (T := TX5) (N := 13) hx hb hts inG_X5 hown hK hP 5 rfl rfl 1 (by decide) (hts _ fl_X5_12) (fun _ h9 => h9) rfl dX5_meetGlass_138 ?_
    refine lv_aloadN hx hb dX5_meetGlass_141 (lv_at hl 0 rfl) ?_
    refine lv_iconst (v := 2) hx hb dX5_meetGlass_143 (by decide) ?_
    obtain ⟨hPc, hDc, hFc⟩ := g5_sub3 (wc := [(a_j, (oc2 a_as a_sk)), (a_as, (arI G 8 z5)), (a_sk, (arJ G 50 f_sk))]) hP hD hS hA [6, 7, 2] (by decide) rfl
    refine va_calli (va_runV (As := [.null, .int 2]) (rest := []) ⟨hx, hb, hml, hown, hts⟩ (j_isHeldN l G a_j a_as a_sk H.size 2 z5 f_sk) (cwV 2 hts gV_X5_124 rfl rfl rfl hv_X2_isHeld ⟨Nat.le_of_ble_eq_true rfl, Nat.le_of_ble_eq_true rfl⟩) (g5_preV hPc hK hDc hN hT hS hFc (ci := 2) (q0 := 0) rfl rfl) rfl rfl hl.1 rfl (lv_room (Nat.le_of_ble_eq_true rfl)) dX5_meetGlass_144 ⟨Nat.le_of_ble_eq_true rfl, Nat.le_of_ble_eq_true rfl⟩) hS (fun q _ h => hFc q h) hFc (fun r u t H1 locs ht hvm hw hB hz1 hk1 hS => ?_)
    obtain ⟨hP1, hD1⟩ := hB
    rw [ht] at hP1
    obtain ⟨rfl, rfl⟩ := hw
    obtain ⟨hP, hD⟩ := va_join (wr := [(a_p, (oc6 8 5 a_pn e_p)), (a_pn, (arI G 40 f_p)), (a_h, (oc1 e_wa e_le e_st e_fo e_lc a_l a_g a_b a_s a_p a_w e_gb a_bb)), (a_l, (arW G 6 f_l)), (a_k, (oc5 a_h a_j a_pt e_ln e_se e_lh e_br e_we (e_me ||| (1 <<< (k_n &&& 31))) e_ce e_wy e_ho e_ov)), (a_g, (oc6 6 5 a_gn e_g)), (a_gn, (arI G 30 f_g))]) hP hD [6, 7, 2] [0, 1, 3, 4, 5, 8, 9] rfl rfl (by decide) (by decide) hk1 hFc hP1 hD1
    generalize H1 = H at hP hS ⊢
    refine g5_rs [(a_p, (oc6 8 5 a_pn e_p)), (a_pn, (arI G 40 f_p)), (a_h, (oc1 e_wa e_le e_st e_fo e_lc a_l a_g a_b a_s a_p a_w e_gb a_bb)), (a_l, (arW G 6 f_l)), (a_k, (oc5 a_h a_j a_pt e_ln e_se e_lh e_br e_we (e_me ||| (1 <<< (k_n &&& 31))) e_ce e_wy e_ho e_ov)), (a_g, (oc6 6 5 a_gn e_g)), (a_gn, (arI G 30 f_g)), (a_j, (oc2 a_as a_sk)), (a_as, (arI G 8 z5)), (a_sk, (arJ G 50 f_sk))] hP hD (fun hP hD => ?_)
    refine lv_if_ne (tgt := 169) hx hb dX5_meetGlass_147 (by decide) (fun c_10 => ?_) (fun c_10 => ?_)
    ·
      exact absurd c_10 (by decide)
    ·
      refine lv_iload hx hb dX5_meetGlass_150 (lv_at hl 1 rfl) ?_
      refine lv_iconst (v := 2) hx hb dX5_meetGlass_152 (by decide) ?_
      refine lv_icmp_lt (tgt := 170) hx hb dX5_meetGlass_153 (by decide) (fun c_11 => ?_) (fun c_11 => ?_)
      ·
        have i_11 : z2.toInt < 2 := by have z := g5_lt (a := z2.toInt) (b := 2) (by rfl) (by decide) c_11; omega
        exact k_mggN2 G a_k a_h a_g a_gn a_p a_pn a_j a_as a_sk a_l a_pt a_b a_s a_w a_bb e_ln e_se e_lh e_br e_we (e_me ||| (1 <<< (k_n &&& 31))) e_ce e_wy e_ho e_ov e_le e_st e_fo e_lc e_wa e_gb e_g f_g e_p f_p z5 f_sk f_l k_r k_n z2 hx hb hml hown hts hK hN hT hA (hP.sub [4, 2, 5, 6, 0, 1, 7, 8, 9, 3] rfl) (hD.sub [4, 2, 5, 6, 0, 1, 7, 8, 9, 3] (by decide) rfl) hS (lv_sub hl [2, 3, 4, 5, 1, 0] rfl) ⟨by omega, by omega⟩ ⟨by omega, by omega⟩ ⟨by omega, by omega⟩ ⟨by omega, by omega⟩ ⟨by omega, by omega⟩ ⟨by omega, by omega⟩ ⟨by omega, by omega⟩ ⟨by omega, by omega⟩ ⟨by omega, by omega⟩ (e_gk) (e_pk) (e_f) (e_r) kk
      ·
        have i_11 : z2.toInt ≥ 2 := by have z := g5_ltN (a := z2.toInt) (b := 2) (by rfl) (by decide) c_11; omega
        refine lv_iload hx hb dX5_meetGlass_156 (lv_at hl 1 rfl) ?_
        refine lv_iconst (v := 2) hx hb dX5_meetGlass_158 (by decide) ?_
        refine lv_isub hx hb dX5_meetGlass_159 ?_
        have t_12 : (z2 - 2).toInt = z2.toInt - 2 := g5_isub (a := z2.toInt) (b := 2) (by rfl) (by decide) (by omega) (by omega)
        refine lv_aload_n hx hb dX5_meetGlass_160 rfl (lv_at hl 2 rfl) ?_
        refine va_get (D := G.1) (ci := 5) (v := .int e_wy) (C := RX5) (T := TX5) (N := 13) hx hb hts inG_X5 hown hK hP 4 rfl rfl 10 (by decide) (hts _ fl_X5_30) (fun _ h9 => h9) rfl dX5_meetGlass_161 ?_
        refine lv_iconst (v := 2) hx hb dX5_meetGlass_164 (by decide) ?_
        refine lv_ixor hx hb dX5_meetGlass_165 ?_
        have hx_13 := (g_xor (w := e_wy) (by omega) (by omega)).2
        refine lv_icmp_eq (tgt := 170) hx hb dX5_meetGlass_166 (by decide) (fun c_14 => ?_) (fun c_14 => ?_)
        ·
          have i_14 : (z2.toInt - 2) = (e_wy ^^^ 2).toInt := by have z := g5_eq (a := (z2 - 2).toInt) (b := (e_wy ^^^ 2).toInt) (by rfl) (by rfl) c_14; omega
          exact k_mggN2 G a_k a_h a_g a_gn a_p a_pn a_j a_as a_sk a_l a_pt a_b a_s a_w a_bb e_ln e_se e_lh e_br e_we (e_me ||| (1 <<< (k_n &&& 31))) e_ce e_wy e_ho e_ov e_le e_st e_fo e_lc e_wa e_gb e_g f_g e_p f_p z5 f_sk f_l k_r k_n z2 hx hb hml hown hts hK hN hT hA (hP.sub [4, 2, 5, 6, 0, 1, 7, 8, 9, 3] rfl) (hD.sub [4, 2, 5, 6, 0, 1, 7, 8, 9, 3] (by decide) rfl) hS (lv_sub hl [2, 3, 4, 5, 1, 0] rfl) ⟨by omega, by omega⟩ ⟨by omega, by omega⟩ ⟨by omega, by omega⟩ ⟨by omega, by omega⟩ ⟨by omega, by omega⟩ ⟨by omega, by omega⟩ ⟨by omega, by omega⟩ ⟨by omega, by omega⟩ ⟨by omega, by omega⟩ (e_gk) (e_pk) (e_f) (e_r) kk
        ·
          have n_14 : gNe ((z2.toInt - 2)) ((e_wy ^^^ 2).toInt) := by have z := g5_eqN (a := (z2 - 2).toInt) (b := (e_wy ^^^ 2).toInt) (by rfl) (by rfl) c_14; unfold gNe; omega
          exact kk 169 dX5_meetGlass_169 e_br e_we (e_me ||| (1 <<< (k_n &&& 31))) e_wy e_ho e_ov z5 f_sk ls H locs (hP.sub [4, 2, 5, 6, 0, 1, 7, 8, 9, 3] rfl) (hD.sub [4, 2, 5, 6, 0, 1, 7, 8, 9, 3] (by decide) rfl) hS (⟨by omega, by omega⟩) (⟨by omega, by omega⟩) (⟨by omega, by omega⟩) (⟨by omega, by omega⟩)
set_option maxHeartbeats 4000000 in
set_option maxRecDepth 100000 in
theorem k_mgpN4 {p : Program} {l : Launch} {e : Env} {s : State} {m : MethodId} {args : Array Value} {below : List Frame} {meth : Method} {c : Code} {Q : State → Prop} {A : Nat → Prop} {H : Heap} {locs : List Loc} {ls : Array Slot} (G : g5_G) (a_k a_h a_g a_gn a_p a_pn a_j a_as a_sk a_l a_pt a_b a_s a_w a_bb : Nat) (e_ln : Int32) (e_se : Int32) (e_lh : Int32) (e_br : Int32) (e_we : Int32) (e_me : Int32) (e_ce : Int32) (e_wy : Int32) (e_ho : Int32) (e_ov : Int32) (e_le : Int32) (e_st : Int32) (e_fo : Int32) (e_lc : Int32) (e_wa : Int64) (e_gb : Int64) (e_g : Int32) (f_g : Nat → Int32) (e_p : Int32) (f_p : Nat → Int32) (f_as : Nat → Int32) (f_sk : Nat → Int64) (f_l : Nat → Option Nat) (k_r : Int32) (k_n : Int32) (k_s : Int32) (k_l : Int32) (k_d : Int32) (hx : p.tables.exec = Jvm.exec) (hb : c.code = cX5_meetGlass) (hml : c.maxLocals = 9) (hown : s.vm.findClass RX5 = some m.cls) (hts : ∀ w ∈ tblG, w.before args s = true) (hK : va_K G.1 vwCl (T5 G) s) (hN : g5_N s) (hT : g5_S A s s.heap) (hA : ∀ q : Nat, s.heap.size ≤ q → A q) (hP : va_P G.1 vwCl [(a_k, (oc5 a_h a_j a_pt e_ln e_se e_lh e_br e_we e_me e_ce e_wy e_ho e_ov)), (a_h, (oc1 e_wa e_le e_st e_fo e_lc a_l a_g a_b a_s a_p a_w e_gb a_bb)), (a_g, (oc6 6 5 a_gn e_g)), (a_gn, (arI G 30 f_g)), (a_p, (oc6 8 5 a_pn e_p)), (a_pn, (arI G 40 f_p)), (a_j, (oc2 a_as a_sk)), (a_as, (arI G 8 f_as)), (a_sk, (arJ G 50 f_sk)), (a_l, (arW G 6 f_l))] H) (hD : va_D A [(a_k, (oc5 a_h a_j a_pt e_ln e_se e_lh e_br e_we e_me e_ce e_wy e_ho e_ov)), (a_h, (oc1 e_wa e_le e_st e_fo e_lc a_l a_g a_b a_s a_p a_w e_gb a_bb)), (a_g, (oc6 6 5 a_gn e_g)), (a_gn, (arI G 30 f_g)), (a_p, (oc6 8 5 a_pn e_p)), (a_pn, (arI G 40 f_p)), (a_j, (oc2 a_as a_sk)), (a_as, (arI G 8 f_as)), (a_sk, (arJ G 50 f_sk)), (a_l, (arW G 6 f_l))]) (hS : va_S A s.heap H locs) (hl : lv_has ls 9 [(0, .ref a_k), (2, .ref a_p), (3, .int k_r), (4, .int k_n), (5, .int k_s), (7, .int k_l), (8, .int k_d)]) (h_e_br : 0 ≤ e_br.toInt ∧ e_br.toInt ≤ 1000000) (h_e_ce : 0 ≤ e_ce.toInt ∧ e_ce.toInt ≤ 63) (h_e_wy : 0 ≤ e_wy.toInt ∧ e_wy.toInt ≤ 3) (h_e_ho : 0 ≤ e_ho.toInt ∧ e_ho.toInt ≤ 23) (h_e_ov : 0 ≤ e_ov.toInt ∧ e_ov.toInt ≤ 1) (h_e_g : 0 ≤ e_g.toInt ∧ e_g.toInt ≤ 6) (h_e_p : 0 ≤ e_p.toInt ∧ e_p.toInt ≤ 8) (h_k_r : 0 ≤ k_r.toInt ∧ k_r.toInt ≤ 7) (h_k_s : 0 ≤ k_s.toInt ∧ k_s.toInt ≤ 5) (h_k_l : 0 ≤ k_l.toInt ∧ k_l.toInt ≤ 23) (h_k_d : 0 ≤ k_d.toInt ∧ k_d.toInt ≤ 10) (e_lt : k_l.toInt ≤ e_ho.toInt) (kk : ∀ (pc1 : Nat), decode cX5_meetGlass pc1 = .ok (.return_, 1) → ∀ (o_b : Int32) (o_w : Int32) (o_m : Int32) (o_y : Int32) (o_h : Int32) (o_v : Int32) (o_a : Nat → Int32) (o_k : Nat → Int64) (ls : Array Slot) (H : Heap) (locs : List Loc), va_P G.1 vwCl [(a_k, (oc5 a_h a_j a_pt e_ln e_se e_lh o_b o_w o_m e_ce o_y o_h o_v)), (a_h, (oc1 e_wa e_le e_st e_fo e_lc a_l a_g a_b a_s a_p a_w e_gb a_bb)), (a_g, (oc6 6 5 a_gn e_g)), (a_gn, (arI G 30 f_g)), (a_p, (oc6 8 5 a_pn e_p)), (a_pn, (arI G 40 f_p)), (a_j, (oc2 a_as a_sk)), (a_as, (arI G 8 o_a)), (a_sk, (arJ G 50 o_k)), (a_l, (arW G 6 f_l))] H → va_D A [(a_k, (oc5 a_h a_j a_pt e_ln e_se e_lh o_b o_w o_m e_ce o_y o_h o_v)), (a_h, (oc1 e_wa e_le e_st e_fo e_lc a_l a_g a_b a_s a_p a_w e_gb a_bb)), (a_g, (oc6 6 5 a_gn e_g)), (a_gn, (arI G 30 f_g)), (a_p, (oc6 8 5 a_pn e_p)), (a_pn, (arI G 40 f_p)), (a_j, (oc2 a_as a_sk)), (a_as, (arI G 8 o_a)), (a_sk, (arJ G 50 o_k)), (a_l, (arW G 6 f_l))] → va_S A s.heap H locs → (0 ≤ o_b.toInt ∧ o_b.toInt ≤ 1000000) → (0 ≤ o_y.toInt ∧ o_y.toInt ≤ 3) → (0 ≤ o_h.toInt ∧ o_h.toInt ≤ 23) → (0 ≤ o_v.toInt ∧ o_v.toInt ≤ 1) → W p l e ({ frames := 12, cells := 0, slots := 0, locals := 500 } : Room) s m args below meth c H locs 0 0 Q (F0 m pc1 ls [])) : W p l e ({ frames := 12, cells := 0, slots := 0, locals := 500 } : Room) s m args below meth c H locs 0 0 Q (F0 m 246 ls []) := by
  refine lv_aload_n hx hb dX5_meetGlass_246 rfl (lv_at hl 0 rfl) ?_
  refine lv_aload_n hx hb dX5_meetGlass_247 rfl (lv_at hl 0 rfl) ?_
  refine va_get (D := G.1) (ci := 5) (v := .int e_br) (C := RX5) (T := TX5) (N := 13) hx hb hts inG_X5 hown hK hP 0 rfl rfl 6 (by decide) (hts _ fl_X5_46) (fun _ h9 => h9) rfl dX5_meetGlass_248 ?_
  refine lv_bipush (v := 10) hx hb dX5_meetGlass_251 (by decide) ?_
  refine lv_iload hx hb dX5_meetGlass_253 (lv_at hl 6 rfl) ?_
  refine lv_isub hx hb dX5_meetGlass_255 ?_
  have t_1 : (10 - k_d).toInt = 10 - k_d.toInt := g5_isub (a := 10) (b := k_d.toInt) (by decide) (by rfl) (by omega) (by omega)
  refine lv_imul hx hb dX5_meetGlass_256 ?_
  refine lv_bipush (v := 10) hx hb dX5_meetGlass_257 (by decide) ?_
  refine lv_idiv hx hb dX5_meetGlass_259 (by decide) ?_
  have hb_2 : 0 ≤ ((e_br * (10 - k_d)) / 10).toInt ∧ ((e_br * (10 - k_d)) / 10).toInt ≤ 1000000 := g_dust (by omega) (by omega)
  refine va_put (D := G.1) (ci := 5) (v := .int ((e_br * (10 - k_d)) / 10)) (ty := .int) (C := RX5) (T := TX5) (N := 13) hx hb hts inG_X5 tyX5 tyX5_ok nmX5 hown hK hP hD hS 0 rfl rfl 6 (by decide) (hts _ fl_X5_46) (fun _ h9 => h9) rfl (by decide +kernel) rfl rfl (Nat.le_of_ble_eq_true rfl) dX5_meetGlass_260 (fun H locs hP hD hS => ?_)
  refine g5_rs [(a_k, (oc5 a_h a_j a_pt e_ln e_se e_lh ((e_br * (10 - k_d)) / 10) e_we e_me e_ce e_wy e_ho e_ov)), (a_h, (oc1 e_wa e_le e_st e_fo e_lc a_l a_g a_b a_s a_p a_w e_gb a_bb)), (a_g, (oc6 6 5 a_gn e_g)), (a_gn, (arI G 30 f_g)), (a_p, (oc6 8 5 a_pn e_p)), (a_pn, (arI G 40 f_p)), (a_j, (oc2 a_as a_sk)), (a_as, (arI G 8 f_as)), (a_sk, (arJ G 50 f_sk)), (a_l, (arW G 6 f_l))] hP hD (fun hP hD => ?_)
  refine lv_aload_n hx hb dX5_meetGlass_263 rfl (lv_at hl 0 rfl) ?_
  refine va_get (D := G.1) (ci := 5) (v := .int ((e_br * (10 - k_d)) / 10)) (C := RX5) (T := TX5) (N := 13) hx hb hts inG_X5 hown hK hP 0 rfl rfl 6 (by decide) (hts _ fl_X5_46) (fun _ h9 => h9) rfl dX5_meetGlass_264 ?_
  refine lv_aload_n hx hb dX5_meetGlass_267 rfl (lv_at hl 0 rfl) ?_
  refine va_get (D := G.1) (ci := 5) (v := .ref a_h) (C := RX5) (T := TX5) (N := 13) hx hb hts inG_X5 hown hK hP 0 rfl rfl 0 (by decide) (hts _ fl_X5_22) (fun _ h9 => h9) rfl dX5_meetGlass_268 ?_
  refine va_get (D := G.1) (ci := 1) (v := .int e_le) (C := RX1) (T := TX1) (N := 13) hx hb hts inG_X1 hown hK hP 1 rfl rfl 1 (by decide) (hts _ fl_X5_138) (fun _ h9 => h9) rfl dX5_meetGlass_271 ?_
  refine lv_icmp_ge (tgt := 278) hx hb dX5_meetGlass_274 (by decide) (fun c_3 => ?_) (fun c_3 => ?_)
  ·
    have i_3 : ((e_br * (10 - k_d)) / 10).toInt ≥ e_le.toInt := by have z := g5_ge (a := ((e_br * (10 - k_d)) / 10).toInt) (b := e_le.toInt) (by rfl) (by rfl) c_3; omega
    refine lv_aload_n hx hb dX5_meetGlass_278 rfl (lv_at hl 0 rfl) ?_
    refine lv_dup hx hb dX5_meetGlass_279 rfl ?_
    refine va_get (D := G.1) (ci := 5) (v := .int e_ho) (C := RX5) (T := TX5) (N := 13) hx hb hts inG_X5 hown hK hP 0 rfl rfl 11 (by decide) (hts _ fl_X5_33) (fun _ h9 => h9) rfl dX5_meetGlass_280 ?_
    refine lv_iload hx hb dX5_meetGlass_283 (lv_at hl 5 rfl) ?_
    refine lv_isub hx hb dX5_meetGlass_285 ?_
    have t_4 : (e_ho - k_l).toInt = e_ho.toInt - k_l.toInt := g5_isub (a := e_ho.toInt) (b := k_l.toInt) (by rfl) (by rfl) (by omega) (by omega)
    refine va_put (D := G.1) (ci := 5) (v := .int (e_ho - k_l)) (ty := .int) (C := RX5) (T := TX5) (N := 13) hx hb hts inG_X5 tyX5 tyX5_ok nmX5 hown hK hP hD hS 0 rfl rfl 11 (by decide) (hts _ fl_X5_33) (fun _ h9 => h9) rfl (by decide +kernel) rfl rfl (Nat.le_of_ble_eq_true rfl) dX5_meetGlass_286 (fun H locs hP hD hS => ?_)
    refine g5_rs [(a_k, (oc5 a_h a_j a_pt e_ln e_se e_lh ((e_br * (10 - k_d)) / 10) e_we e_me e_ce e_wy (e_ho - k_l) e_ov)), (a_h, (oc1 e_wa e_le e_st e_fo e_lc a_l a_g a_b a_s a_p a_w e_gb a_bb)), (a_g, (oc6 6 5 a_gn e_g)), (a_gn, (arI G 30 f_g)), (a_p, (oc6 8 5 a_pn e_p)), (a_pn, (arI G 40 f_p)), (a_j, (oc2 a_as a_sk)), (a_as, (arI G 8 f_as)), (a_sk, (arJ G 50 f_sk)), (a_l, (arW G 6 f_l))] hP hD (fun hP hD => ?_)
    refine lv_aload_n hx hb dX5_meetGlass_289 rfl (lv_at hl 0 rfl) ?_
    refine lv_iload hx hb dX5_meetGlass_290 (lv_at hl 4 rfl) ?_
    refine lv_if_ne (tgt := 304) hx hb dX5_meetGlass_292 (by decide) (fun c_5 => ?_) (fun c_5 => ?_)
    ·
      have n_5 : gNe (k_s.toInt) (0) := by have z := g5_ne (a := k_s.toInt) (b := 0) (by rfl) (by decide) c_5; unfold gNe; omega
      have i_5 : k_s.toInt ≥ 1 := by have z := g5_ne (a := k_s.toInt) (b := 0) (by rfl) (by decide) c_5; omega
      refine lv_iload hx hb dX5_meetGlass_304 (lv_at hl 4 rfl) ?_
      refine lv_iconst (v := 1) hx hb dX5_meetGlass_306 (by decide) ?_
      refine lv_icmp_ne (tgt := 319) hx hb dX5_meetGlass_307 (by decide) (fun c_6 => ?_) (fun c_6 => ?_)
      ·
        have n_6 : gNe (k_s.toInt) (1) := by have z := g5_ne (a := k_s.toInt) (b := 1) (by rfl) (by decide) c_6; unfold gNe; omega
        have i_6 : k_s.toInt ≥ 2 := by have z := g5_ne (a := k_s.toInt) (b := 1) (by rfl) (by decide) c_6; omega
        refine lv_aload_n hx hb dX5_meetGlass_319 rfl (lv_at hl 0 rfl) ?_
        refine va_get (D := G.1) (ci := 5) (v := .int e_wy) (C := RX5) (T := TX5) (N := 13) hx hb hts inG_X5 hown hK hP 0 rfl rfl 10 (by decide) (hts _ fl_X5_30) (fun _ h9 => h9) rfl dX5_meetGlass_320 ?_
        refine lv_iconst (v := 2) hx hb dX5_meetGlass_323 (by decide) ?_
        refine lv_ixor hx hb dX5_meetGlass_324 ?_
        have hx_7 := (g_xor (w := e_wy) (by omega) (by omega)).2
        refine va_put (D := G.1) (ci := 5) (v := .int (e_wy ^^^ 2)) (ty := .int) (C := RX5) (T := TX5) (N := 13) hx hb hts inG_X5 tyX5 tyX5_ok nmX5 hown hK hP hD hS 0 rfl rfl 10 (by decide) (hts _ fl_X5_30) (fun _ h9 => h9) rfl (by decide +kernel) rfl rfl (Nat.le_of_ble_eq_true rfl) dX5_meetGlass_325 (fun H locs hP hD hS => ?_)
        refine g5_rs [(a_k, (oc5 a_h a_j a_pt e_ln e_se e_lh ((e_br * (10 - k_d)) / 10) e_we e_me e_ce (e_wy ^^^ 2) (e_ho - k_l) e_ov)), (a_h, (oc1 e_wa e_le e_st e_fo e_lc a_l a_g a_b a_s a_p a_w e_gb a_bb)), (a_g, (oc6 6 5 a_gn e_g)), (a_gn, (arI G 30 f_g)), (a_p, (oc6 8 5 a_pn e_p)), (a_pn, (arI G 40 f_p)), (a_j, (oc2 a_as a_sk)), (a_as, (arI G 8 f_as)), (a_sk, (arJ G 50 f_sk)), (a_l, (arW G 6 f_l))] hP hD (fun hP hD => ?_)
        refine lv_aload_n hx hb dX5_meetGlass_328 rfl (lv_at hl 0 rfl) ?_
        refine lv_dup hx hb dX5_meetGlass_329 rfl ?_
        refine va_get (D := G.1) (ci := 5) (v := .int e_we) (C := RX5) (T := TX5) (N := 13) hx hb hts inG_X5 hown hK hP 0 rfl rfl 7 (by decide) (hts _ fl_X5_49) (fun _ h9 => h9) rfl dX5_meetGlass_330 ?_
        refine lv_iconst (v := 1) hx hb dX5_meetGlass_333 (by decide) ?_
        refine lv_iload hx hb dX5_meetGlass_334 (lv_at hl 3 rfl) ?_
        refine lv_ishl hx hb dX5_meetGlass_336 ?_
        refine lv_ior hx hb dX5_meetGlass_337 ?_
        refine va_put (D := G.1) (ci := 5) (v := .int (e_we ||| (1 <<< (k_n &&& 31)))) (ty := .int) (C := RX5) (T := TX5) (N := 13) hx hb hts inG_X5 tyX5 tyX5_ok nmX5 hown hK hP hD hS 0 rfl rfl 7 (by decide) (hts _ fl_X5_49) (fun _ h9 => h9) rfl (by decide +kernel) rfl rfl (Nat.le_of_ble_eq_true rfl) dX5_meetGlass_338 (fun H locs hP hD hS => ?_)
        refine g5_rs [(a_k, (oc5 a_h a_j a_pt e_ln e_se e_lh ((e_br * (10 - k_d)) / 10) (e_we ||| (1 <<< (k_n &&& 31))) e_me e_ce (e_wy ^^^ 2) (e_ho - k_l) e_ov)), (a_h, (oc1 e_wa e_le e_st e_fo e_lc a_l a_g a_b a_s a_p a_w e_gb a_bb)), (a_g, (oc6 6 5 a_gn e_g)), (a_gn, (arI G 30 f_g)), (a_p, (oc6 8 5 a_pn e_p)), (a_pn, (arI G 40 f_p)), (a_j, (oc2 a_as a_sk)), (a_as, (arI G 8 f_as)), (a_sk, (arJ G 50 f_sk)), (a_l, (arW G 6 f_l))] hP hD (fun hP hD => ?_)
        refine lv_aload_n hx hb dX5_meetGlass_341 rfl (lv_at hl 0 rfl) ?_
        refine lv_iconst (v := 0) hx hb dX5_meetGlass_342 (by decide) ?_
        refine va_put (D := G.1) (ci := 5) (v := .int 0) (ty := .boolean) (C := RX5) (T := TX5) (N := 13) hx hb hts inG_X5 tyX5 tyX5_ok nmX5 hown hK hP hD hS 0 rfl rfl 12 (by decide) (hts _ fl_X5_56) (fun _ h9 => h9) rfl (by decide +kernel) rfl rfl (Nat.le_of_ble_eq_true rfl) dX5_meetGlass_343 (fun H locs hP hD hS => ?_)
        refine g5_rs [(a_k, (oc5 a_h a_j a_pt e_ln e_se e_lh ((e_br * (10 - k_d)) / 10) (e_we ||| (1 <<< (k_n &&& 31))) e_me e_ce (e_wy ^^^ 2) (e_ho - k_l) 0)), (a_h, (oc1 e_wa e_le e_st e_fo e_lc a_l a_g a_b a_s a_p a_w e_gb a_bb)), (a_g, (oc6 6 5 a_gn e_g)), (a_gn, (arI G 30 f_g)), (a_p, (oc6 8 5 a_pn e_p)), (a_pn, (arI G 40 f_p)), (a_j, (oc2 a_as a_sk)), (a_as, (arI G 8 f_as)), (a_sk, (arJ G 50 f_sk)), (a_l, (arW G 6 f_l))] hP hD (fun hP hD => ?_)
        exact kk 346 dX5_meetGlass_346 ((e_br * (10 - k_d)) / 10) (e_we ||| (1 <<< (k_n &&& 31))) e_me (e_wy ^^^ 2) (e_ho - k_l) 0 f_as f_sk ls H locs (hP.sub [0, 1, 2, 3, 4, 5, 6, 7, 8, 9] rfl) (hD.sub [0, 1, 2, 3, 4, 5, 6, 7, 8, 9] (by decide) rfl) hS (⟨by omega, by omega⟩) (⟨by omega, by omega⟩) (⟨by omega, by omega⟩) (⟨by have zc_o_v : (0 : Int32).toInt = 0 := (by decide); omega, by have zc_o_v : (0 : Int32).toInt = 0 := (by decide); omega⟩)
      ·
        have i_6 : k_s.toInt = 1 := by have z := g5_neN (a := k_s.toInt) (b := 1) (by rfl) (by decide) c_6; omega
        refine lv_iconst (v := 3) hx hb dX5_meetGlass_310 (by decide) ?_
        refine lv_aload_n hx hb dX5_meetGlass_311 rfl (lv_at hl 0 rfl) ?_
        refine va_get (D := G.1) (ci := 5) (v := .int e_wy) (C := RX5) (T := TX5) (N := 13) hx hb hts inG_X5 hown hK hP 0 rfl rfl 10 (by decide) (hts _ fl_X5_30) (fun _ h9 => h9) rfl dX5_meetGlass_312 ?_
        refine lv_isub hx hb dX5_meetGlass_315 ?_
        have t_8 : (3 - e_wy).toInt = 3 - e_wy.toInt := g5_isub (a := 3) (b := e_wy.toInt) (by decide) (by rfl) (by omega) (by omega)
        refine lv_goto (tgt := 325) hx hb dX5_meetGlass_316 (by decide) ?_
        refine va_put (D := G.1) (ci := 5) (v := .int (3 - e_wy)) (ty := .int) (C := RX5) (T := TX5) (N := 13) hx hb hts inG_X5 tyX5 tyX5_ok nmX5 hown hK hP hD hS 0 rfl rfl 10 (by decide) (hts _ fl_X5_30) (fun _ h9 => h9) rfl (by decide +kernel) rfl rfl (Nat.le_of_ble_eq_true rfl) dX5_meetGlass_325 (fun H locs hP hD hS => ?_)
        refine g5_rs [(a_k, (oc5 a_h a_j a_pt e_ln e_se e_lh ((e_br * (10 - k_d)) / 10) e_we e_me e_ce (3 - e_wy) (e_ho - k_l) e_ov)), (a_h, (oc1 e_wa e_le e_st e_fo e_lc a_l a_g a_b a_s a_p a_w e_gb a_bb)), (a_g, (oc6 6 5 a_gn e_g)), (a_gn, (arI G 30 f_g)), (a_p, (oc6 8 5 a_pn e_p)), (a_pn, (arI G 40 f_p)), (a_j, (oc2 a_as a_sk)), (a_as, (arI G 8 f_as)), (a_sk, (arJ G 50 f_sk)), (a_l, (arW G 6 f_l))] hP hD (fun hP hD => ?_)
        refine lv_aload_n hx hb dX5_meetGlass_328 rfl (lv_at hl 0 rfl) ?_
        refine lv_dup hx hb dX5_meetGlass_329 rfl ?_
        refine va_get (D := G.1) (ci := 5) (v := .int e_we) (C := RX5) (T := TX5) (N := 13) hx hb hts inG_X5 hown hK hP 0 rfl rfl 7 (by decide) (hts _ fl_X5_49) (fun _ h9 => h9) rfl dX5_meetGlass_330 ?_
        refine lv_iconst (v := 1) hx hb dX5_meetGlass_333 (by decide) ?_
        refine lv_iload hx hb dX5_meetGlass_334 (lv_at hl 3 rfl) ?_
        refine lv_ishl hx hb dX5_meetGlass_336 ?_
        refine lv_ior hx hb dX5_meetGlass_337 ?_
        refine va_put (D := G.1) (ci := 5) (v := .int (e_we ||| (1 <<< (k_n &&& 31)))) (ty := .int) (C := RX5) (T := TX5) (N := 13) hx hb hts inG_X5 tyX5 tyX5_ok nmX5 hown hK hP hD hS 0 rfl rfl 7 (by decide) (hts _ fl_X5_49) (fun _ h9 => h9) rfl (by decide +kernel) rfl rfl (Nat.le_of_ble_eq_true rfl) dX5_meetGlass_338 (fun H locs hP hD hS => ?_)
        refine g5_rs [(a_k, (oc5 a_h a_j a_pt e_ln e_se e_lh ((e_br * (10 - k_d)) / 10) (e_we ||| (1 <<< (k_n &&& 31))) e_me e_ce (3 - e_wy) (e_ho - k_l) e_ov)), (a_h, (oc1 e_wa e_le e_st e_fo e_lc a_l a_g a_b a_s a_p a_w e_gb a_bb)), (a_g, (oc6 6 5 a_gn e_g)), (a_gn, (arI G 30 f_g)), (a_p, (oc6 8 5 a_pn e_p)), (a_pn, (arI G 40 f_p)), (a_j, (oc2 a_as a_sk)), (a_as, (arI G 8 f_as)), (a_sk, (arJ G 50 f_sk)), (a_l, (arW G 6 f_l))] hP hD (fun hP hD => ?_)
        refine lv_aload_n hx hb dX5_meetGlass_341 rfl (lv_at hl 0 rfl) ?_
        refine lv_iconst (v := 0) hx hb dX5_meetGlass_342 (by decide) ?_
        refine va_put (D := G.1) (ci := 5) (v := .int 0) (ty := .boolean) (C := RX5) (T := TX5) (N := 13) hx hb hts inG_X5 tyX5 tyX5_ok nmX5 hown hK hP hD hS 0 rfl rfl 12 (by decide) (hts _ fl_X5_56) (fun _ h9 => h9) rfl (by decide +kernel) rfl rfl (Nat.le_of_ble_eq_true rfl) dX5_meetGlass_343 (fun H locs hP hD hS => ?_)
        refine g5_rs [(a_k, (oc5 a_h a_j a_pt e_ln e_se e_lh ((e_br * (10 - k_d)) / 10) (e_we ||| (1 <<< (k_n &&& 31))) e_me e_ce (3 - e_wy) (e_ho - k_l) 0)), (a_h, (oc1 e_wa e_le e_st e_fo e_lc a_l a_g a_b a_s a_p a_w e_gb a_bb)), (a_g, (oc6 6 5 a_gn e_g)), (a_gn, (arI G 30 f_g)), (a_p, (oc6 8 5 a_pn e_p)), (a_pn, (arI G 40 f_p)), (a_j, (oc2 a_as a_sk)), (a_as, (arI G 8 f_as)), (a_sk, (arJ G 50 f_sk)), (a_l, (arW G 6 f_l))] hP hD (fun hP hD => ?_)
        exact kk 346 dX5_meetGlass_346 ((e_br * (10 - k_d)) / 10) (e_we ||| (1 <<< (k_n &&& 31))) e_me (3 - e_wy) (e_ho - k_l) 0 f_as f_sk ls H locs (hP.sub [0, 1, 2, 3, 4, 5, 6, 7, 8, 9] rfl) (hD.sub [0, 1, 2, 3, 4, 5, 6, 7, 8, 9] (by decide) rfl) hS (⟨by omega, by omega⟩) (⟨by omega, by omega⟩) (⟨by omega, by omega⟩) (⟨by have zc_o_v : (0 : Int32).toInt = 0 := (by decide); omega, by have zc_o_v : (0 : Int32).toInt = 0 := (by decide); omega⟩)
    ·
      have i_5 : k_s.toInt = 0 := by have z := g5_neN (a := k_s.toInt) (b := 0) (by rfl) (by decide) c_5; omega
      refine lv_aload_n hx hb dX5_meetGlass_295 rfl (lv_at hl 0 rfl) ?_
      refine va_get (D := G.1) (ci := 5) (v := .int e_wy) (C := RX5) (T := TX5) (N := 13) hx hb hts inG_X5 hown hK hP 0 rfl rfl 10 (by decide) (hts _ fl_X5_30) (fun _ h9 => h9) rfl dX5_meetGlass_296 ?_
      refine lv_iconst (v := 1) hx hb dX5_meetGlass_299 (by decide) ?_
      refine lv_ixor hx hb dX5_meetGlass_300 ?_
      have hx_9 := (g_xor (w := e_wy) (by omega) (by omega)).1
      refine lv_goto (tgt := 325) hx hb dX5_meetGlass_301 (by decide) ?_
      refine va_put (D := G.1) (ci := 5) (v := .int (e_wy ^^^ 1)) (ty := .int) (C := RX5) (T := TX5) (N := 13) hx hb hts inG_X5 tyX5 tyX5_ok nmX5 hown hK hP hD hS 0 rfl rfl 10 (by decide) (hts _ fl_X5_30) (fun _ h9 => h9) rfl (by decide +kernel) rfl rfl (Nat.le_of_ble_eq_true rfl) dX5_meetGlass_325 (fun H locs hP hD hS => ?_)
      refine g5_rs [(a_k, (oc5 a_h a_j a_pt e_ln e_se e_lh ((e_br * (10 - k_d)) / 10) e_we e_me e_ce (e_wy ^^^ 1) (e_ho - k_l) e_ov)), (a_h, (oc1 e_wa e_le e_st e_fo e_lc a_l a_g a_b a_s a_p a_w e_gb a_bb)), (a_g, (oc6 6 5 a_gn e_g)), (a_gn, (arI G 30 f_g)), (a_p, (oc6 8 5 a_pn e_p)), (a_pn, (arI G 40 f_p)), (a_j, (oc2 a_as a_sk)), (a_as, (arI G 8 f_as)), (a_sk, (arJ G 50 f_sk)), (a_l, (arW G 6 f_l))] hP hD (fun hP hD => ?_)
      refine lv_aload_n hx hb dX5_meetGlass_328 rfl (lv_at hl 0 rfl) ?_
      refine lv_dup hx hb dX5_meetGlass_329 rfl ?_
      refine va_get (D := G.1) (ci := 5) (v := .int e_we) (C := RX5) (T := TX5) (N := 13) hx hb hts inG_X5 hown hK hP 0 rfl rfl 7 (by decide) (hts _ fl_X5_49) (fun _ h9 => h9) rfl dX5_meetGlass_330 ?_
      refine lv_iconst (v := 1) hx hb dX5_meetGlass_333 (by decide) ?_
      refine lv_iload hx hb dX5_meetGlass_334 (lv_at hl 3 rfl) ?_
      refine lv_ishl hx hb dX5_meetGlass_336 ?_
      refine lv_ior hx hb dX5_meetGlass_337 ?_
      refine va_put (D := G.1) (ci := 5) (v := .int (e_we ||| (1 <<< (k_n &&& 31)))) (ty := .int) (C := RX5) (T := TX5) (N := 13) hx hb hts inG_X5 tyX5 tyX5_ok nmX5 hown hK hP hD hS 0 rfl rfl 7 (by decide) (hts _ fl_X5_49) (fun _ h9 => h9) rfl (by decide +kernel) rfl rfl (Nat.le_of_ble_eq_true rfl) dX5_meetGlass_338 (fun H locs hP hD hS => ?_)
      refine g5_rs [(a_k, (oc5 a_h a_j a_pt e_ln e_se e_lh ((e_br * (10 - k_d)) / 10) (e_we ||| (1 <<< (k_n &&& 31))) e_me e_ce (e_wy ^^^ 1) (e_ho - k_l) e_ov)), (a_h, (oc1 e_wa e_le e_st e_fo e_lc a_l a_g a_b a_s a_p a_w e_gb a_bb)), (a_g, (oc6 6 5 a_gn e_g)), (a_gn, (arI G 30 f_g)), (a_p, (oc6 8 5 a_pn e_p)), (a_pn, (arI G 40 f_p)), (a_j, (oc2 a_as a_sk)), (a_as, (arI G 8 f_as)), (a_sk, (arJ G 50 f_sk)), (a_l, (arW G 6 f_l))] hP hD (fun hP hD => ?_)
      refine lv_aload_n hx hb dX5_meetGlass_341 rfl (lv_at hl 0 rfl) ?_
      refine lv_iconst (v := 0) hx hb dX5_meetGlass_342 (by decide) ?_
      refine va_put (D := G.1) (ci := 5) (v := .int 0) (ty := .boolean) (C := RX5) (T := TX5) (N := 13) hx hb hts inG_X5 tyX5 tyX5_ok nmX5 hown hK hP hD hS 0 rfl rfl 12 (by decide) (hts _ fl_X5_56) (fun _ h9 => h9) rfl (by decide +kernel) rfl rfl (Nat.le_of_ble_eq_true rfl) dX5_meetGlass_343 (fun H locs hP hD hS => ?_)
      refine g5_rs [(a_k, (oc5 a_h a_j a_pt e_ln e_se e_lh ((e_br * (10 - k_d)) / 10) (e_we ||| (1 <<< (k_n &&& 31))) e_me e_ce (e_wy ^^^ 1) (e_ho - k_l) 0)), (a_h, (oc1 e_wa e_le e_st e_fo e_lc a_l a_g a_b a_s a_p a_w e_gb a_bb)), (a_g, (oc6 6 5 a_gn e_g)), (a_gn, (arI G 30 f_g)), (a_p, (oc6 8 5 a_pn e_p)), (a_pn, (arI G 40 f_p)), (a_j, (oc2 a_as a_sk)), (a_as, (arI G 8 f_as)), (a_sk, (arJ G 50 f_sk)), (a_l, (arW G 6 f_l))] hP hD (fun hP hD => ?_)
      exact kk 346 dX5_meetGlass_346 ((e_br * (10 - k_d)) / 10) (e_we ||| (1 <<< (k_n &&& 31))) e_me (e_wy ^^^ 1) (e_ho - k_l) 0 f_as f_sk ls H locs (hP.sub [0, 1, 2, 3, 4, 5, 6, 7, 8, 9] rfl) (hD.sub [0, 1, 2, 3, 4, 5, 6, 7, 8, 9] (by decide) rfl) hS (⟨by omega, by omega⟩) (⟨by omega, by omega⟩) (⟨by omega, by omega⟩) (⟨by have zc_o_v : (0 : Int32).toInt = 0 := (by decide); omega, by have zc_o_v : (0 : Int32).toInt = 0 := (by decide); omega⟩)
  ·
    have i_3 : ((e_br * (10 - k_d)) / 10).toInt < e_le.toInt := by have z := g5_geN (a := ((e_br * (10 - k_d)) / 10).toInt) (b := e_le.toInt) (by rfl) (by rfl) c_3; omega
    exact kk 277 dX5_meetGlass_277 ((e_br * (10 - k_d)) / 10) e_we e_me e_wy e_ho e_ov f_as f_sk ls H locs (hP.sub [0, 1, 2, 3, 4, 5, 6, 7, 8, 9] rfl) (hD.sub [0, 1, 2, 3, 4, 5, 6, 7, 8, 9] (by decide) rfl) hS (⟨by omega, by omega⟩) (⟨by omega, by omega⟩) (⟨by omega, by omega⟩) (⟨by omega, by omega⟩)
set_option maxHeartbeats 4000000 in
set_option maxRecDepth 100000 in
theorem k_mgpN3 {p : Program} {l : Launch} {e : Env} {s : State} {m : MethodId} {args : Array Value} {below : List Frame} {meth : Method} {c : Code} {Q : State → Prop} {A : Nat → Prop} {H : Heap} {locs : List Loc} {ls : Array Slot} (G : g5_G) (a_k a_h a_g a_gn a_p a_pn a_j a_as a_sk a_l a_pt a_b a_s a_w a_bb : Nat) (e_ln : Int32) (e_se : Int32) (e_lh : Int32) (e_br : Int32) (e_we : Int32) (e_me : Int32) (e_ce : Int32) (e_wy : Int32) (e_ho : Int32) (e_ov : Int32) (e_le : Int32) (e_st : Int32) (e_fo : Int32) (e_lc : Int32) (e_wa : Int64) (e_gb : Int64) (e_g : Int32) (f_g : Nat → Int32) (e_p : Int32) (f_p : Nat → Int32) (f_as : Nat → Int32) (f_sk : Nat → Int64) (f_l : Nat → Option Nat) (k_r : Int32) (k_n : Int32) (k_s : Int32) (k_l : Int32) (hx : p.tables.exec = Jvm.exec) (hb : c.code = cX5_meetGlass) (hml : c.maxLocals = 9) (hown : s.vm.findClass RX5 = some m.cls) (hts : ∀ w ∈ tblG, w.before args s = true) (hK : va_K G.1 vwCl (T5 G) s) (hN : g5_N s) (hT : g5_S A s s.heap) (hA : ∀ q : Nat, s.heap.size ≤ q → A q) (hP : va_P G.1 vwCl [(a_k, (oc5 a_h a_j a_pt e_ln e_se e_lh e_br e_we e_me e_ce e_wy e_ho e_ov)), (a_h, (oc1 e_wa e_le e_st e_fo e_lc a_l a_g a_b a_s a_p a_w e_gb a_bb)), (a_g, (oc6 6 5 a_gn e_g)), (a_gn, (arI G 30 f_g)), (a_p, (oc6 8 5 a_pn e_p)), (a_pn, (arI G 40 f_p)), (a_j, (oc2 a_as a_sk)), (a_as, (arI G 8 f_as)), (a_sk, (arJ G 50 f_sk)), (a_l, (arW G 6 f_l))] H) (hD : va_D A [(a_k, (oc5 a_h a_j a_pt e_ln e_se e_lh e_br e_we e_me e_ce e_wy e_ho e_ov)), (a_h, (oc1 e_wa e_le e_st e_fo e_lc a_l a_g a_b a_s a_p a_w e_gb a_bb)), (a_g, (oc6 6 5 a_gn e_g)), (a_gn, (arI G 30 f_g)), (a_p, (oc6 8 5 a_pn e_p)), (a_pn, (arI G 40 f_p)), (a_j, (oc2 a_as a_sk)), (a_as, (arI G 8 f_as)), (a_sk, (arJ G 50 f_sk)), (a_l, (arW G 6 f_l))]) (hS : va_S A s.heap H locs) (hl : lv_has ls 9 [(0, .ref a_k), (2, .ref a_p), (3, .int k_r), (4, .int k_n), (5, .int k_s), (6, .null), (7, .int k_l)]) (h_e_br : 0 ≤ e_br.toInt ∧ e_br.toInt ≤ 1000000) (h_e_ce : 0 ≤ e_ce.toInt ∧ e_ce.toInt ≤ 63) (h_e_wy : 0 ≤ e_wy.toInt ∧ e_wy.toInt ≤ 3) (h_e_ho : 0 ≤ e_ho.toInt ∧ e_ho.toInt ≤ 23) (h_e_ov : 0 ≤ e_ov.toInt ∧ e_ov.toInt ≤ 1) (h_e_g : 0 ≤ e_g.toInt ∧ e_g.toInt ≤ 6) (h_e_p : 0 ≤ e_p.toInt ∧ e_p.toInt ≤ 8) (h_k_r : 0 ≤ k_r.toInt ∧ k_r.toInt ≤ 7) (h_k_s : 0 ≤ k_s.toInt ∧ k_s.toInt ≤ 5) (h_k_l : 0 ≤ k_l.toInt ∧ k_l.toInt ≤ 23) (e_gk : gOK f_g e_g.toInt) (e_pk : gOK f_p e_p.toInt) (e_f : e_fo.toInt < 0 ∨ e_lc.toInt ≤ e_fo.toInt) (e_r : k_r.toInt < e_p.toInt) (kk : ∀ (pc1 : Nat), decode cX5_meetGlass pc1 = .ok (.return_, 1) → ∀ (o_b : Int32) (o_w : Int32) (o_m : Int32) (o_y : Int32) (o_h : Int32) (o_v : Int32) (o_a : Nat → Int32) (o_k : Nat → Int64) (ls : Array Slot) (H : Heap) (locs : List Loc), va_P G.1 vwCl [(a_k, (oc5 a_h a_j a_pt e_ln e_se e_lh o_b o_w o_m e_ce o_y o_h o_v)), (a_h, (oc1 e_wa e_le e_st e_fo e_lc a_l a_g a_b a_s a_p a_w e_gb a_bb)), (a_g, (oc6 6 5 a_gn e_g)), (a_gn, (arI G 30 f_g)), (a_p, (oc6 8 5 a_pn e_p)), (a_pn, (arI G 40 f_p)), (a_j, (oc2 a_as a_sk)), (a_as, (arI G 8 o_a)), (a_sk, (arJ G 50 o_k)), (a_l, (arW G 6 f_l))] H → va_D A [(a_k, (oc5 a_h a_j a_pt e_ln e_se e_lh o_b o_w o_m e_ce o_y o_h o_v)), (a_h, (oc1 e_wa e_le e_st e_fo e_lc a_l a_g a_b a_s a_p a_w e_gb a_bb)), (a_g, (oc6 6 5 a_gn e_g)), (a_gn, (arI G 30 f_g)), (a_p, (oc6 8 5 a_pn e_p)), (a_pn, (arI G 40 f_p)), (a_j, (oc2 a_as a_sk)), (a_as, (arI G 8 o_a)), (a_sk, (arJ G 50 o_k)), (a_l, (arW G 6 f_l))] → va_S A s.heap H locs → (0 ≤ o_b.toInt ∧ o_b.toInt ≤ 1000000) → (0 ≤ o_y.toInt ∧ o_y.toInt ≤ 3) → (0 ≤ o_h.toInt ∧ o_h.toInt ≤ 23) → (0 ≤ o_v.toInt ∧ o_v.toInt ≤ 1) → W p l e ({ frames := 12, cells := 0, slots := 0, locals := 500 } : Room) s m args below meth c H locs 0 0 Q (F0 m pc1 ls [])) : W p l e ({ frames := 12, cells := 0, slots := 0, locals := 500 } : Room) s m args below meth c H locs 0 0 Q (F0 m 203 ls []) := by
  refine lv_iload hx hb dX5_meetGlass_203 (lv_at hl 6 rfl) ?_
  refine lv_aload_n hx hb dX5_meetGlass_205 rfl (lv_at hl 0 rfl) ?_
  refine va_get (D := G.1) (ci := 5) (v := .int e_ho) (C := RX5) (T := TX5) (N := 13) hx hb hts inG_X5 hown hK hP 0 rfl rfl 11 (by decide) (hts _ fl_X5_33) (fun _ h9 => h9) rfl dX5_meetGlass_206 ?_
  refine lv_icmp_le (tgt := 213) hx hb dX5_meetGlass_209 (by decide) (fun c_1 => ?_) (fun c_1 => ?_)
  ·
    have i_1 : k_l.toInt ≤ e_ho.toInt := by have z := g5_le (a := k_l.toInt) (b := e_ho.toInt) (by rfl) (by rfl) c_1; omega
    refine lv_aload_n hx hb dX5_meetGlass_213 rfl (lv_at hl 0 rfl) ?_
    refine va_get (D := G.1) (ci := 5) (v := .ref a_j) (C := RX5) (T := TX5) (N := 13) hx hb hts inG_X5 hown hK hP 0 rfl rfl 1 (by decide) (hts _ fl_X5_12) (fun _ h9 => h9) rfl dX5_meetGlass_214 ?_
    refine lv_aloadN hx hb dX5_meetGlass_217 (lv_at hl 5 rfl) ?_
    refine lv_iconst (v := 1) hx hb dX5_meetGlass_219 (by decide) ?_
    obtain ⟨hPc, hDc, hFc⟩ := g5_sub3 (wc := [(a_j, (oc2 a_as a_sk)), (a_as, (arI G 8 f_as)), (a_sk, (arJ G 50 f_sk))]) hP hD hS hA [6, 7, 8] (by decide) rfl
    refine va_calli (va_runV (As := [.null, .int 1]) (rest := []) ⟨hx, hb, hml, hown, hts⟩ (j_isHeldN l G a_j a_as a_sk H.size 1 f_as f_sk) (cwV 2 hts gV_X5_124 rfl rfl rfl hv_X2_isHeld ⟨Nat.le_of_ble_eq_true rfl, Nat.le_of_ble_eq_true rfl⟩) (g5_preV hPc hK hDc hN hT hS hFc (ci := 2) (q0 := 0) rfl rfl) rfl rfl hl.1 rfl (lv_room (Nat.le_of_ble_eq_true rfl)) dX5_meetGlass_220 ⟨Nat.le_of_ble_eq_true rfl, Nat.le_of_ble_eq_true rfl⟩) hS (fun q _ h => hFc q h) hFc (fun r u t H1 locs ht hvm hw hB hz1 hk1 hS => ?_)
    obtain ⟨hP1, hD1⟩ := hB
    rw [ht] at hP1
    obtain ⟨rfl, rfl⟩ := hw
    obtain ⟨hP, hD⟩ := va_join (wr := [(a_k, (oc5 a_h a_j a_pt e_ln e_se e_lh e_br e_we e_me e_ce e_wy e_ho e_ov)), (a_h, (oc1 e_wa e_le e_st e_fo e_lc a_l a_g a_b a_s a_p a_w e_gb a_bb)), (a_g, (oc6 6 5 a_gn e_g)), (a_gn, (arI G 30 f_g)), (a_p, (oc6 8 5 a_pn e_p)), (a_pn, (arI G 40 f_p)), (a_l, (arW G 6 f_l))]) hP hD [6, 7, 8] [0, 1, 2, 3, 4, 5, 9] rfl rfl (by decide) (by decide) hk1 hFc hP1 hD1
    generalize H1 = H at hP hS ⊢
    refine g5_rs [(a_k, (oc5 a_h a_j a_pt e_ln e_se e_lh e_br e_we e_me e_ce e_wy e_ho e_ov)), (a_h, (oc1 e_wa e_le e_st e_fo e_lc a_l a_g a_b a_s a_p a_w e_gb a_bb)), (a_g, (oc6 6 5 a_gn e_g)), (a_gn, (arI G 30 f_g)), (a_p, (oc6 8 5 a_pn e_p)), (a_pn, (arI G 40 f_p)), (a_l, (arW G 6 f_l)), (a_j, (oc2 a_as a_sk)), (a_as, (arI G 8 f_as)), (a_sk, (arJ G 50 f_sk))] hP hD (fun hP hD => ?_)
    refine lv_if_eq (tgt := 238) hx hb dX5_meetGlass_223 (by decide) (fun c_2 => ?_) (fun c_2 => ?_)
    ·
      refine lv_aload_n hx hb dX5_meetGlass_238 rfl (lv_at hl 1 rfl) ?_
      refine lv_iload_n hx hb dX5_meetGlass_239 rfl (lv_at hl 2 rfl) ?_
      refine lv_iconst (v := 3) hx hb dX5_meetGlass_240 (by decide) ?_
      obtain ⟨hPc, hDc, hFc⟩ := g5_sub3 (wc := [(a_p, (oc6 8 5 a_pn e_p)), (a_pn, (arI G 40 f_p))]) hP hD hS hA [4, 5] (by decide) rfl
      refine va_calli (va_runV (As := [.int k_r, .int 3]) (rest := []) ⟨hx, hb, hml, hown, hts⟩ (t_get_P l G a_p a_pn H.size e_p k_r 3 f_p ⟨by omega, by omega⟩) (cwV 2 hts gV_X5_107 rfl rfl rfl hv_X6_get ⟨Nat.le_of_ble_eq_true rfl, Nat.le_of_ble_eq_true rfl⟩) (g5_preV hPc hK hDc hN hT hS hFc (ci := 6) (q0 := 0) rfl rfl) rfl rfl hl.1 rfl (lv_room (Nat.le_of_ble_eq_true rfl)) dX5_meetGlass_241 ⟨Nat.le_of_ble_eq_true rfl, Nat.le_of_ble_eq_true rfl⟩) hS (fun q _ h => hFc q h) hFc (fun r u t H1 locs ht hvm hw hB hz1 hk1 hS => ?_)
      obtain ⟨hP1, hD1⟩ := hB
      rw [ht] at hP1
      obtain ⟨z4, i_3, y5, rfl⟩ := hw
      have i_3 : z4 = tget f_p e_p.toInt 5 k_r.toInt (3 : Int32).toInt := i_3
      obtain ⟨hP, hD⟩ := va_join (wr := [(a_k, (oc5 a_h a_j a_pt e_ln e_se e_lh e_br e_we e_me e_ce e_wy e_ho e_ov)), (a_h, (oc1 e_wa e_le e_st e_fo e_lc a_l a_g a_b a_s a_p a_w e_gb a_bb)), (a_g, (oc6 6 5 a_gn e_g)), (a_gn, (arI G 30 f_g)), (a_l, (arW G 6 f_l)), (a_j, (oc2 a_as a_sk)), (a_as, (arI G 8 f_as)), (a_sk, (arJ G 50 f_sk))]) hP hD [4, 5] [0, 1, 2, 3, 6, 7, 8, 9] rfl rfl (by decide) (by decide) hk1 hFc hP1 hD1
      generalize H1 = H at hP hS ⊢
      refine g5_rs [(a_k, (oc5 a_h a_j a_pt e_ln e_se e_lh e_br e_we e_me e_ce e_wy e_ho e_ov)), (a_h, (oc1 e_wa e_le e_st e_fo e_lc a_l a_g a_b a_s a_p a_w e_gb a_bb)), (a_g, (oc6 6 5 a_gn e_g)), (a_gn, (arI G 30 f_g)), (a_l, (arW G 6 f_l)), (a_j, (oc2 a_as a_sk)), (a_as, (arI G 8 f_as)), (a_sk, (arJ G 50 f_sk)), (a_p, (oc6 8 5 a_pn e_p)), (a_pn, (arI G 40 f_p))] hP hD (fun hP hD => ?_)
      refine g5_ti (v := z4) y5 ?_
      have hg_6 : 0 ≤ z4.toInt ∧ z4.toInt ≤ 10 := by rw [i_3]; exact (e_pk k_r.toInt (by omega) (by omega)).2.2.2
      refine lv_istore (lv' := [(8, .int z4), (0, .ref a_k), (2, .ref a_p), (3, .int k_r), (4, .int k_n), (5, .int k_s), (6, .null), (7, .int k_l)]) hx hb dX5_meetGlass_244 hl (by decide) rfl (fun ls hl => ?_)
      exact k_mgpN4 G a_k a_h a_g a_gn a_p a_pn a_j a_as a_sk a_l a_pt a_b a_s a_w a_bb e_ln e_se e_lh e_br e_we e_me e_ce e_wy e_ho e_ov e_le e_st e_fo e_lc e_wa e_gb e_g f_g e_p f_p f_as f_sk f_l k_r k_n k_s k_l z4 hx hb hml hown hts hK hN hT hA (hP.sub [0, 1, 2, 3, 8, 9, 5, 6, 7, 4] rfl) (hD.sub [0, 1, 2, 3, 8, 9, 5, 6, 7, 4] (by decide) rfl) hS (lv_sub hl [1, 2, 3, 4, 5, 7, 0] rfl) ⟨by omega, by omega⟩ ⟨by omega, by omega⟩ ⟨by omega, by omega⟩ ⟨by omega, by omega⟩ ⟨by omega, by omega⟩ ⟨by omega, by omega⟩ ⟨by omega, by omega⟩ ⟨by omega, by omega⟩ ⟨by omega, by omega⟩ ⟨by omega, by omega⟩ ⟨by omega, by omega⟩ (by omega) kk
    ·
      exact absurd c_2 (by decide)
  ·
    have i_1 : k_l.toInt > e_ho.toInt := by have z := g5_leN (a := k_l.toInt) (b := e_ho.toInt) (by rfl) (by rfl) c_1; omega
    exact kk 212 dX5_meetGlass_212 e_br e_we e_me e_wy e_ho e_ov f_as f_sk ls H locs (hP.sub [0, 1, 2, 3, 4, 5, 6, 7, 8, 9] rfl) (hD.sub [0, 1, 2, 3, 4, 5, 6, 7, 8, 9] (by decide) rfl) hS (⟨by omega, by omega⟩) (⟨by omega, by omega⟩) (⟨by omega, by omega⟩) (⟨by omega, by omega⟩)
set_option maxHeartbeats 4000000 in
set_option maxRecDepth 100000 in
theorem k_mgpN2 {p : Program} {l : Launch} {e : Env} {s : State} {m : MethodId} {args : Array Value} {below : List Frame} {meth : Method} {c : Code} {Q : State → Prop} {A : Nat → Prop} {H : Heap} {locs : List Loc} {ls : Array Slot} (G : g5_G) (a_k a_h a_g a_gn a_p a_pn a_j a_as a_sk a_l a_pt a_b a_s a_w a_bb : Nat) (e_ln : Int32) (e_se : Int32) (e_lh : Int32) (e_br : Int32) (e_we : Int32) (e_me : Int32) (e_ce : Int32) (e_wy : Int32) (e_ho : Int32) (e_ov : Int32) (e_le : Int32) (e_st : Int32) (e_fo : Int32) (e_lc : Int32) (e_wa : Int64) (e_gb : Int64) (e_g : Int32) (f_g : Nat → Int32) (e_p : Int32) (f_p : Nat → Int32) (f_as : Nat → Int32) (f_sk : Nat → Int64) (f_l : Nat → Option Nat) (k_r : Int32) (k_n : Int32) (k_s : Int32) (hx : p.tables.exec = Jvm.exec) (hb : c.code = cX5_meetGlass) (hml : c.maxLocals = 9) (hown : s.vm.findClass RX5 = some m.cls) (hts : ∀ w ∈ tblG, w.before args s = true) (hK : va_K G.1 vwCl (T5 G) s) (hN : g5_N s) (hT : g5_S A s s.heap) (hA : ∀ q : Nat, s.heap.size ≤ q → A q) (hP : va_P G.1 vwCl [(a_k, (oc5 a_h a_j a_pt e_ln e_se e_lh e_br e_we e_me e_ce e_wy e_ho e_ov)), (a_h, (oc1 e_wa e_le e_st e_fo e_lc a_l a_g a_b a_s a_p a_w e_gb a_bb)), (a_g, (oc6 6 5 a_gn e_g)), (a_gn, (arI G 30 f_g)), (a_p, (oc6 8 5 a_pn e_p)), (a_pn, (arI G 40 f_p)), (a_j, (oc2 a_as a_sk)), (a_as, (arI G 8 f_as)), (a_sk, (arJ G 50 f_sk)), (a_l, (arW G 6 f_l))] H) (hD : va_D A [(a_k, (oc5 a_h a_j a_pt e_ln e_se e_lh e_br e_we e_me e_ce e_wy e_ho e_ov)), (a_h, (oc1 e_wa e_le e_st e_fo e_lc a_l a_g a_b a_s a_p a_w e_gb a_bb)), (a_g, (oc6 6 5 a_gn e_g)), (a_gn, (arI G 30 f_g)), (a_p, (oc6 8 5 a_pn e_p)), (a_pn, (arI G 40 f_p)), (a_j, (oc2 a_as a_sk)), (a_as, (arI G 8 f_as)), (a_sk, (arJ G 50 f_sk)), (a_l, (arW G 6 f_l))]) (hS : va_S A s.heap H locs) (hl : lv_has ls 9 [(0, .ref a_k), (2, .ref a_p), (3, .int k_r), (4, .int k_n), (5, .int k_s), (6, .null)]) (h_e_br : 0 ≤ e_br.toInt ∧ e_br.toInt ≤ 1000000) (h_e_ce : 0 ≤ e_ce.toInt ∧ e_ce.toInt ≤ 63) (h_e_wy : 0 ≤ e_wy.toInt ∧ e_wy.toInt ≤ 3) (h_e_ho : 0 ≤ e_ho.toInt ∧ e_ho.toInt ≤ 23) (h_e_ov : 0 ≤ e_ov.toInt ∧ e_ov.toInt ≤ 1) (h_e_g : 0 ≤ e_g.toInt ∧ e_g.toInt ≤ 6) (h_e_p : 0 ≤ e_p.toInt ∧ e_p.toInt ≤ 8) (h_k_r : 0 ≤ k_r.toInt ∧ k_r.toInt ≤ 7) (h_k_s : 0 ≤ k_s.toInt ∧ k_s.toInt ≤ 5) (e_gk : gOK f_g e_g.toInt) (e_pk : gOK f_p e_p.toInt) (e_f : e_fo.toInt < 0 ∨ e_lc.toInt ≤ e_fo.toInt) (e_r : k_r.toInt < e_p.toInt) (kk : ∀ (pc1 : Nat), decode cX5_meetGlass pc1 = .ok (.return_, 1) → ∀ (o_b : Int32) (o_w : Int32) (o_m : Int32) (o_y : Int32) (o_h : Int32) (o_v : Int32) (o_a : Nat → Int32) (o_k : Nat → Int64) (ls : Array Slot) (H : Heap) (locs : List Loc), va_P G.1 vwCl [(a_k, (oc5 a_h a_j a_pt e_ln e_se e_lh o_b o_w o_m e_ce o_y o_h o_v)), (a_h, (oc1 e_wa e_le e_st e_fo e_lc a_l a_g a_b a_s a_p a_w e_gb a_bb)), (a_g, (oc6 6 5 a_gn e_g)), (a_gn, (arI G 30 f_g)), (a_p, (oc6 8 5 a_pn e_p)), (a_pn, (arI G 40 f_p)), (a_j, (oc2 a_as a_sk)), (a_as, (arI G 8 o_a)), (a_sk, (arJ G 50 o_k)), (a_l, (arW G 6 f_l))] H → va_D A [(a_k, (oc5 a_h a_j a_pt e_ln e_se e_lh o_b o_w o_m e_ce o_y o_h o_v)), (a_h, (oc1 e_wa e_le e_st e_fo e_lc a_l a_g a_b a_s a_p a_w e_gb a_bb)), (a_g, (oc6 6 5 a_gn e_g)), (a_gn, (arI G 30 f_g)), (a_p, (oc6 8 5 a_pn e_p)), (a_pn, (arI G 40 f_p)), (a_j, (oc2 a_as a_sk)), (a_as, (arI G 8 o_a)), (a_sk, (arJ G 50 o_k)), (a_l, (arW G 6 f_l))] → va_S A s.heap H locs → (0 ≤ o_b.toInt ∧ o_b.toInt ≤ 1000000) → (0 ≤ o_y.toInt ∧ o_y.toInt ≤ 3) → (0 ≤ o_h.toInt ∧ o_h.toInt ≤ 23) → (0 ≤ o_v.toInt ∧ o_v.toInt ≤ 1) → W p l e ({ frames := 12, cells := 0, slots := 0, locals := 500 } : Room) s m args below meth c H locs 0 0 Q (F0 m pc1 ls [])) : W p l e ({ frames := 12, cells := 0, slots := 0, locals := 500 } : Room) s m args below meth c H locs 0 0 Q (F0 m 170 ls []) := by
  refine lv_aload_n hx hb dX5_meetGlass_170 rfl (lv_at hl 0 rfl) ?_
  refine va_get (D := G.1) (ci := 5) (v := .ref a_j) (C := RX5) (T := TX5) (N := 13) hx hb hts inG_X5 hown hK hP 0 rfl rfl 1 (by decide) (hts _ fl_X5_12) (fun _ h9 => h9) rfl dX5_meetGlass_171 ?_
  refine lv_aloadN hx hb dX5_meetGlass_174 (lv_at hl 5 rfl) ?_
  refine lv_iconst (v := 0) hx hb dX5_meetGlass_176 (by decide) ?_
  obtain ⟨hPc, hDc, hFc⟩ := g5_sub3 (wc := [(a_j, (oc2 a_as a_sk)), (a_as, (arI G 8 f_as)), (a_sk, (arJ G 50 f_sk))]) hP hD hS hA [6, 7, 8] (by decide) rfl
  refine va_calli (va_runV (As := [.null, .int 0]) (rest := []) ⟨hx, hb, hml, hown, hts⟩ (j_isHeldN l G a_j a_as a_sk H.size 0 f_as f_sk) (cwV 2 hts gV_X5_124 rfl rfl rfl hv_X2_isHeld ⟨Nat.le_of_ble_eq_true rfl, Nat.le_of_ble_eq_true rfl⟩) (g5_preV hPc hK hDc hN hT hS hFc (ci := 2) (q0 := 0) rfl rfl) rfl rfl hl.1 rfl (lv_room (Nat.le_of_ble_eq_true rfl)) dX5_meetGlass_177 ⟨Nat.le_of_ble_eq_true rfl, Nat.le_of_ble_eq_true rfl⟩) hS (fun q _ h => hFc q h) hFc (fun r u t H1 locs ht hvm hw hB hz1 hk1 hS => ?_)
  obtain ⟨hP1, hD1⟩ := hB
  rw [ht] at hP1
  obtain ⟨rfl, rfl⟩ := hw
  obtain ⟨hP, hD⟩ := va_join (wr := [(a_k, (oc5 a_h a_j a_pt e_ln e_se e_lh e_br e_we e_me e_ce e_wy e_ho e_ov)), (a_h, (oc1 e_wa e_le e_st e_fo e_lc a_l a_g a_b a_s a_p a_w e_gb a_bb)), (a_g, (oc6 6 5 a_gn e_g)), (a_gn, (arI G 30 f_g)), (a_p, (oc6 8 5 a_pn e_p)), (a_pn, (arI G 40 f_p)), (a_l, (arW G 6 f_l))]) hP hD [6, 7, 8] [0, 1, 2, 3, 4, 5, 9] rfl rfl (by decide) (by decide) hk1 hFc hP1 hD1
  generalize H1 = H at hP hS ⊢
  refine g5_rs [(a_k, (oc5 a_h a_j a_pt e_ln e_se e_lh e_br e_we e_me e_ce e_wy e_ho e_ov)), (a_h, (oc1 e_wa e_le e_st e_fo e_lc a_l a_g a_b a_s a_p a_w e_gb a_bb)), (a_g, (oc6 6 5 a_gn e_g)), (a_gn, (arI G 30 f_g)), (a_p, (oc6 8 5 a_pn e_p)), (a_pn, (arI G 40 f_p)), (a_l, (arW G 6 f_l)), (a_j, (oc2 a_as a_sk)), (a_as, (arI G 8 f_as)), (a_sk, (arJ G 50 f_sk))] hP hD (fun hP hD => ?_)
  refine lv_if_eq (tgt := 195) hx hb dX5_meetGlass_180 (by decide) (fun c_1 => ?_) (fun c_1 => ?_)
  ·
    refine lv_aload_n hx hb dX5_meetGlass_195 rfl (lv_at hl 1 rfl) ?_
    refine lv_iload_n hx hb dX5_meetGlass_196 rfl (lv_at hl 2 rfl) ?_
    refine lv_iconst (v := 2) hx hb dX5_meetGlass_197 (by decide) ?_
    obtain ⟨hPc, hDc, hFc⟩ := g5_sub3 (wc := [(a_p, (oc6 8 5 a_pn e_p)), (a_pn, (arI G 40 f_p))]) hP hD hS hA [4, 5] (by decide) rfl
    refine va_calli (va_runV (As := [.int k_r, .int 2]) (rest := []) ⟨hx, hb, hml, hown, hts⟩ (t_get_P l G a_p a_pn H.size e_p k_r 2 f_p ⟨by omega, by omega⟩) (cwV 2 hts gV_X5_107 rfl rfl rfl hv_X6_get ⟨Nat.le_of_ble_eq_true rfl, Nat.le_of_ble_eq_true rfl⟩) (g5_preV hPc hK hDc hN hT hS hFc (ci := 6) (q0 := 0) rfl rfl) rfl rfl hl.1 rfl (lv_room (Nat.le_of_ble_eq_true rfl)) dX5_meetGlass_198 ⟨Nat.le_of_ble_eq_true rfl, Nat.le_of_ble_eq_true rfl⟩) hS (fun q _ h => hFc q h) hFc (fun r u t H1 locs ht hvm hw hB hz1 hk1 hS => ?_)
    obtain ⟨hP1, hD1⟩ := hB
    rw [ht] at hP1
    obtain ⟨z3, i_2, y4, rfl⟩ := hw
    have i_2 : z3 = tget f_p e_p.toInt 5 k_r.toInt (2 : Int32).toInt := i_2
    obtain ⟨hP, hD⟩ := va_join (wr := [(a_k, (oc5 a_h a_j a_pt e_ln e_se e_lh e_br e_we e_me e_ce e_wy e_ho e_ov)), (a_h, (oc1 e_wa e_le e_st e_fo e_lc a_l a_g a_b a_s a_p a_w e_gb a_bb)), (a_g, (oc6 6 5 a_gn e_g)), (a_gn, (arI G 30 f_g)), (a_l, (arW G 6 f_l)), (a_j, (oc2 a_as a_sk)), (a_as, (arI G 8 f_as)), (a_sk, (arJ G 50 f_sk))]) hP hD [4, 5] [0, 1, 2, 3, 6, 7, 8, 9] rfl rfl (by decide) (by decide) hk1 hFc hP1 hD1
    generalize H1 = H at hP hS ⊢
    refine g5_rs [(a_k, (oc5 a_h a_j a_pt e_ln e_se e_lh e_br e_we e_me e_ce e_wy e_ho e_ov)), (a_h, (oc1 e_wa e_le e_st e_fo e_lc a_l a_g a_b a_s a_p a_w e_gb a_bb)), (a_g, (oc6 6 5 a_gn e_g)), (a_gn, (arI G 30 f_g)), (a_l, (arW G 6 f_l)), (a_j, (oc2 a_as a_sk)), (a_as, (arI G 8 f_as)), (a_sk, (arJ G 50 f_sk)), (a_p, (oc6 8 5 a_pn e_p)), (a_pn, (arI G 40 f_p))] hP hD (fun hP hD => ?_)
    refine g5_ti (v := z3) y4 ?_
    have hg_5 : 0 ≤ z3.toInt ∧ z3.toInt ≤ 23 := by rw [i_2]; exact (e_pk k_r.toInt (by omega) (by omega)).2.2.1
    refine lv_istore (lv' := [(7, .int z3), (0, .ref a_k), (2, .ref a_p), (3, .int k_r), (4, .int k_n), (5, .int k_s), (6, .null)]) hx hb dX5_meetGlass_201 hl (by decide) rfl (fun ls hl => ?_)
    exact k_mgpN3 G a_k a_h a_g a_gn a_p a_pn a_j a_as a_sk a_l a_pt a_b a_s a_w a_bb e_ln e_se e_lh e_br e_we e_me e_ce e_wy e_ho e_ov e_le e_st e_fo e_lc e_wa e_gb e_g f_g e_p f_p f_as f_sk f_l k_r k_n k_s z3 hx hb hml hown hts hK hN hT hA (hP.sub [0, 1, 2, 3, 8, 9, 5, 6, 7, 4] rfl) (hD.sub [0, 1, 2, 3, 8, 9, 5, 6, 7, 4] (by decide) rfl) hS (lv_sub hl [1, 2, 3, 4, 5, 6, 0] rfl) ⟨by omega, by omega⟩ ⟨by omega, by omega⟩ ⟨by omega, by omega⟩ ⟨by omega, by omega⟩ ⟨by omega, by omega⟩ ⟨by omega, by omega⟩ ⟨by omega, by omega⟩ ⟨by omega, by omega⟩ ⟨by omega, by omega⟩ ⟨by omega, by omega⟩ (e_gk) (e_pk) (e_f) (e_r) kk
  ·
    exact absurd c_1 (by decide)
set_option maxHeartbeats 4000000 in
set_option maxRecDepth 100000 in
theorem k_mgpN1 {p : Program} {l : Launch} {e : Env} {s : State} {m : MethodId} {args : Array Value} {below : List Frame} {meth : Method} {c : Code} {Q : State → Prop} {A : Nat → Prop} {H : Heap} {locs : List Loc} {ls : Array Slot} (G : g5_G) (a_k a_h a_g a_gn a_p a_pn a_j a_as a_sk a_l a_pt a_b a_s a_w a_bb : Nat) (e_ln : Int32) (e_se : Int32) (e_lh : Int32) (e_br : Int32) (e_we : Int32) (e_me : Int32) (e_ce : Int32) (e_wy : Int32) (e_ho : Int32) (e_ov : Int32) (e_le : Int32) (e_st : Int32) (e_fo : Int32) (e_lc : Int32) (e_wa : Int64) (e_gb : Int64) (e_g : Int32) (f_g : Nat → Int32) (e_p : Int32) (f_p : Nat → Int32) (f_as : Nat → Int32) (f_sk : Nat → Int64) (f_l : Nat → Option Nat) (k_r : Int32) (k_n : Int32) (hx : p.tables.exec = Jvm.exec) (hb : c.code = cX5_meetGlass) (hml : c.maxLocals = 9) (hown : s.vm.findClass RX5 = some m.cls) (hts : ∀ w ∈ tblG, w.before args s = true) (hK : va_K G.1 vwCl (T5 G) s) (hN : g5_N s) (hT : g5_S A s s.heap) (hA : ∀ q : Nat, s.heap.size ≤ q → A q) (hP : va_P G.1 vwCl [(a_k, (oc5 a_h a_j a_pt e_ln e_se e_lh e_br e_we e_me e_ce e_wy e_ho e_ov)), (a_h, (oc1 e_wa e_le e_st e_fo e_lc a_l a_g a_b a_s a_p a_w e_gb a_bb)), (a_g, (oc6 6 5 a_gn e_g)), (a_gn, (arI G 30 f_g)), (a_p, (oc6 8 5 a_pn e_p)), (a_pn, (arI G 40 f_p)), (a_j, (oc2 a_as a_sk)), (a_as, (arI G 8 f_as)), (a_sk, (arJ G 50 f_sk)), (a_l, (arW G 6 f_l))] H) (hD : va_D A [(a_k, (oc5 a_h a_j a_pt e_ln e_se e_lh e_br e_we e_me e_ce e_wy e_ho e_ov)), (a_h, (oc1 e_wa e_le e_st e_fo e_lc a_l a_g a_b a_s a_p a_w e_gb a_bb)), (a_g, (oc6 6 5 a_gn e_g)), (a_gn, (arI G 30 f_g)), (a_p, (oc6 8 5 a_pn e_p)), (a_pn, (arI G 40 f_p)), (a_j, (oc2 a_as a_sk)), (a_as, (arI G 8 f_as)), (a_sk, (arJ G 50 f_sk)), (a_l, (arW G 6 f_l))]) (hS : va_S A s.heap H locs) (hl : lv_has ls 9 [(0, .ref a_k), (2, .ref a_p), (3, .int k_r), (4, .int k_n)]) (h_e_br : 0 ≤ e_br.toInt ∧ e_br.toInt ≤ 1000000) (h_e_ce : 0 ≤ e_ce.toInt ∧ e_ce.toInt ≤ 63) (h_e_wy : 0 ≤ e_wy.toInt ∧ e_wy.toInt ≤ 3) (h_e_ho : 0 ≤ e_ho.toInt ∧ e_ho.toInt ≤ 23) (h_e_ov : 0 ≤ e_ov.toInt ∧ e_ov.toInt ≤ 1) (h_e_g : 0 ≤ e_g.toInt ∧ e_g.toInt ≤ 6) (h_e_p : 0 ≤ e_p.toInt ∧ e_p.toInt ≤ 8) (h_k_r : 0 ≤ k_r.toInt ∧ k_r.toInt ≤ 7) (e_gk : gOK f_g e_g.toInt) (e_pk : gOK f_p e_p.toInt) (e_f : e_fo.toInt < 0 ∨ e_lc.toInt ≤ e_fo.toInt) (e_r : k_r.toInt < e_p.toInt) (kk : ∀ (pc1 : Nat), decode cX5_meetGlass pc1 = .ok (.return_, 1) → ∀ (o_b : Int32) (o_w : Int32) (o_m : Int32) (o_y : Int32) (o_h : Int32) (o_v : Int32) (o_a : Nat → Int32) (o_k : Nat → Int64) (ls : Array Slot) (H : Heap) (locs : List Loc), va_P G.1 vwCl [(a_k, (oc5 a_h a_j a_pt e_ln e_se e_lh o_b o_w o_m e_ce o_y o_h o_v)), (a_h, (oc1 e_wa e_le e_st e_fo e_lc a_l a_g a_b a_s a_p a_w e_gb a_bb)), (a_g, (oc6 6 5 a_gn e_g)), (a_gn, (arI G 30 f_g)), (a_p, (oc6 8 5 a_pn e_p)), (a_pn, (arI G 40 f_p)), (a_j, (oc2 a_as a_sk)), (a_as, (arI G 8 o_a)), (a_sk, (arJ G 50 o_k)), (a_l, (arW G 6 f_l))] H → va_D A [(a_k, (oc5 a_h a_j a_pt e_ln e_se e_lh o_b o_w o_m e_ce o_y o_h o_v)), (a_h, (oc1 e_wa e_le e_st e_fo e_lc a_l a_g a_b a_s a_p a_w e_gb a_bb)), (a_g, (oc6 6 5 a_gn e_g)), (a_gn, (arI G 30 f_g)), (a_p, (oc6 8 5 a_pn e_p)), (a_pn, (arI G 40 f_p)), (a_j, (oc2 a_as a_sk)), (a_as, (arI G 8 o_a)), (a_sk, (arJ G 50 o_k)), (a_l, (arW G 6 f_l))] → va_S A s.heap H locs → (0 ≤ o_b.toInt ∧ o_b.toInt ≤ 1000000) → (0 ≤ o_y.toInt ∧ o_y.toInt ≤ 3) → (0 ≤ o_h.toInt ∧ o_h.toInt ≤ 23) → (0 ≤ o_v.toInt ∧ o_v.toInt ≤ 1) → W p l e ({ frames := 12, cells := 0, slots := 0, locals := 500 } : Room) s m args below meth c H locs 0 0 Q (F0 m pc1 ls [])) : W p l e ({ frames := 12, cells := 0, slots := 0, locals := 500 } : Room) s m args below meth c H locs 0 0 Q (F0 m 84 ls []) := by
  refine lv_aload_n hx hb dX5_meetGlass_84 rfl (lv_at hl 1 rfl) ?_
  refine lv_iload_n hx hb dX5_meetGlass_85 rfl (lv_at hl 2 rfl) ?_
  refine lv_iconst (v := 1) hx hb dX5_meetGlass_86 (by decide) ?_
  obtain ⟨hPc, hDc, hFc⟩ := g5_sub3 (wc := [(a_p, (oc6 8 5 a_pn e_p)), (a_pn, (arI G 40 f_p))]) hP hD hS hA [4, 5] (by decide) rfl
  refine va_calli (va_runV (As := [.int k_r, .int 1]) (rest := []) ⟨hx, hb, hml, hown, hts⟩ (t_get_P l G a_p a_pn H.size e_p k_r 1 f_p ⟨by omega, by omega⟩) (cwV 2 hts gV_X5_107 rfl rfl rfl hv_X6_get ⟨Nat.le_of_ble_eq_true rfl, Nat.le_of_ble_eq_true rfl⟩) (g5_preV hPc hK hDc hN hT hS hFc (ci := 6) (q0 := 0) rfl rfl) rfl rfl hl.1 rfl (lv_room (Nat.le_of_ble_eq_true rfl)) dX5_meetGlass_87 ⟨Nat.le_of_ble_eq_true rfl, Nat.le_of_ble_eq_true rfl⟩) hS (fun q _ h => hFc q h) hFc (fun r u t H1 locs ht hvm hw hB hz1 hk1 hS => ?_)
  obtain ⟨hP1, hD1⟩ := hB
  rw [ht] at hP1
  obtain ⟨z2, i_1, y3, rfl⟩ := hw
  have i_1 : z2 = tget f_p e_p.toInt 5 k_r.toInt (1 : Int32).toInt := i_1
  obtain ⟨hP, hD⟩ := va_join (wr := [(a_k, (oc5 a_h a_j a_pt e_ln e_se e_lh e_br e_we e_me e_ce e_wy e_ho e_ov)), (a_h, (oc1 e_wa e_le e_st e_fo e_lc a_l a_g a_b a_s a_p a_w e_gb a_bb)), (a_g, (oc6 6 5 a_gn e_g)), (a_gn, (arI G 30 f_g)), (a_j, (oc2 a_as a_sk)), (a_as, (arI G 8 f_as)), (a_sk, (arJ G 50 f_sk)), (a_l, (arW G 6 f_l))]) hP hD [4, 5] [0, 1, 2, 3, 6, 7, 8, 9] rfl rfl (by decide) (by decide) hk1 hFc hP1 hD1
  generalize H1 = H at hP hS ⊢
  refine g5_rs [(a_k, (oc5 a_h a_j a_pt e_ln e_se e_lh e_br e_we e_me e_ce e_wy e_ho e_ov)), (a_h, (oc1 e_wa e_le e_st e_fo e_lc a_l a_g a_b a_s a_p a_w e_gb a_bb)), (a_g, (oc6 6 5 a_gn e_g)), (a_gn, (arI G 30 f_g)), (a_j, (oc2 a_as a_sk)), (a_as, (arI G 8 f_as)), (a_sk, (arJ G 50 f_sk)), (a_l, (arW G 6 f_l)), (a_p, (oc6 8 5 a_pn e_p)), (a_pn, (arI G 40 f_p))] hP hD (fun hP hD => ?_)
  refine g5_ti (v := z2) y3 ?_
  have hg_4 : 0 ≤ z2.toInt ∧ z2.toInt ≤ 5 := by rw [i_1]; exact (e_pk k_r.toInt (by omega) (by omega)).2.1
  refine lv_istore (lv' := [(5, .int z2), (0, .ref a_k), (2, .ref a_p), (3, .int k_r), (4, .int k_n)]) hx hb dX5_meetGlass_90 hl (by decide) rfl (fun ls hl => ?_)
  refine lv_aload_n hx hb dX5_meetGlass_92 rfl (lv_at hl 1 rfl) ?_
  refine lv_dup hx hb dX5_meetGlass_93 rfl ?_
  refine va_get (D := G.1) (ci := 5) (v := .int e_me) (C := RX5) (T := TX5) (N := 13) hx hb hts inG_X5 hown hK hP 0 rfl rfl 8 (by decide) (hts _ fl_X5_95) (fun _ h9 => h9) rfl dX5_meetGlass_94 ?_
  refine lv_iconst (v := 1) hx hb dX5_meetGlass_97 (by decide) ?_
  refine lv_iload hx hb dX5_meetGlass_98 (lv_at hl 4 rfl) ?_
  refine lv_ishl hx hb dX5_meetGlass_100 ?_
  refine lv_ior hx hb dX5_meetGlass_101 ?_
  refine va_put (D := G.1) (ci := 5) (v := .int (e_me ||| (1 <<< (k_n &&& 31)))) (ty := .int) (C := RX5) (T := TX5) (N := 13) hx hb hts inG_X5 tyX5 tyX5_ok nmX5 hown hK hP hD hS 0 rfl rfl 8 (by decide) (hts _ fl_X5_95) (fun _ h9 => h9) rfl (by decide +kernel) rfl rfl (Nat.le_of_ble_eq_true rfl) dX5_meetGlass_102 (fun H locs hP hD hS => ?_)
  refine g5_rs [(a_k, (oc5 a_h a_j a_pt e_ln e_se e_lh e_br e_we (e_me ||| (1 <<< (k_n &&& 31))) e_ce e_wy e_ho e_ov)), (a_h, (oc1 e_wa e_le e_st e_fo e_lc a_l a_g a_b a_s a_p a_w e_gb a_bb)), (a_g, (oc6 6 5 a_gn e_g)), (a_gn, (arI G 30 f_g)), (a_j, (oc2 a_as a_sk)), (a_as, (arI G 8 f_as)), (a_sk, (arJ G 50 f_sk)), (a_l, (arW G 6 f_l)), (a_p, (oc6 8 5 a_pn e_p)), (a_pn, (arI G 40 f_p))] hP hD (fun hP hD => ?_)
  refine lv_aload_n hx hb dX5_meetGlass_105 rfl (lv_at hl 1 rfl) ?_
  refine va_get (D := G.1) (ci := 5) (v := .ref a_h) (C := RX5) (T := TX5) (N := 13) hx hb hts inG_X5 hown hK hP 0 rfl rfl 0 (by decide) (hts _ fl_X5_22) (fun _ h9 => h9) rfl dX5_meetGlass_106 ?_
  obtain ⟨hPc, hDc, hFc⟩ := g5_sub3 (wc := [(a_h, (oc1 e_wa e_le e_st e_fo e_lc a_l a_g a_b a_s a_p a_w e_gb a_bb)), (a_l, (arW G 6 f_l))]) hP hD hS hA [1, 7] (by decide) rfl
  refine va_callq (va_runV (As := []) (rest := []) ⟨hx, hb, hml, hown, hts⟩ (h_lawN l G a_h a_l a_g a_b a_s a_p a_w a_bb H.size e_le e_st e_fo e_lc e_wa e_gb f_l (e_f)) (cwV 0 hts gV_X5_113 rfl rfl rfl hv_X1_lawInForce ⟨Nat.le_of_ble_eq_true rfl, Nat.le_of_ble_eq_true rfl⟩) (g5_preV hPc hK hDc hN hT hS hFc (ci := 1) (q0 := 0) rfl rfl) rfl rfl hl.1 rfl (lv_room (Nat.le_of_ble_eq_true rfl)) dX5_meetGlass_109 ⟨Nat.le_of_ble_eq_true rfl, Nat.le_of_ble_eq_true rfl⟩) hS (fun q _ h => hFc q h) hFc (fun r u t H1 locs ht hvm hw hB hz1 hk1 hS => ?_)
  obtain ⟨hP1, hD1⟩ := hB
  rw [ht] at hP1
  obtain ⟨rfl, rfl⟩ := hw
  obtain ⟨hP, hD⟩ := va_join (wr := [(a_k, (oc5 a_h a_j a_pt e_ln e_se e_lh e_br e_we (e_me ||| (1 <<< (k_n &&& 31))) e_ce e_wy e_ho e_ov)), (a_g, (oc6 6 5 a_gn e_g)), (a_gn, (arI G 30 f_g)), (a_j, (oc2 a_as a_sk)), (a_as, (arI G 8 f_as)), (a_sk, (arJ G 50 f_sk)), (a_p, (oc6 8 5 a_pn e_p)), (a_pn, (arI G 40 f_p))]) hP hD [1, 7] [0, 2, 3, 4, 5, 6, 8, 9] rfl rfl (by decide) (by decide) hk1 hFc hP1 hD1
  generalize H1 = H at hP hS ⊢
  refine g5_rs [(a_k, (oc5 a_h a_j a_pt e_ln e_se e_lh e_br e_we (e_me ||| (1 <<< (k_n &&& 31))) e_ce e_wy e_ho e_ov)), (a_g, (oc6 6 5 a_gn e_g)), (a_gn, (arI G 30 f_g)), (a_j, (oc2 a_as a_sk)), (a_as, (arI G 8 f_as)), (a_sk, (arJ G 50 f_sk)), (a_p, (oc6 8 5 a_pn e_p)), (a_pn, (arI G 40 f_p)), (a_h, (oc1 e_wa e_le e_st e_fo e_lc a_l a_g a_b a_s a_p a_w e_gb a_bb)), (a_l, (arW G 6 f_l))] hP hD (fun hP hD => ?_)
  refine g5_tv (v := .null) rfl ?_
  refine lv_astoreN (lv' := [(6, .null), (5, .int z2), (0, .ref a_k), (2, .ref a_p), (3, .int k_r), (4, .int k_n)]) hx hb dX5_meetGlass_112 hl (by decide) rfl (fun ls hl => ?_)
  refine lv_aload_n hx hb dX5_meetGlass_114 rfl (lv_at hl 2 rfl) ?_
  refine lv_iload hx hb dX5_meetGlass_115 (lv_at hl 5 rfl) ?_
  refine lv_iconst (v := (-1)) hx hb dX5_meetGlass_117 (by decide) ?_
  obtain ⟨hPc, hDc, hFc⟩ := g5_sub3 (wc := [(a_k, (oc5 a_h a_j a_pt e_ln e_se e_lh e_br e_we (e_me ||| (1 <<< (k_n &&& 31))) e_ce e_wy e_ho e_ov)), (a_j, (oc2 a_as a_sk)), (a_as, (arI G 8 f_as))]) hP hD hS hA [0, 3, 4] (by decide) rfl
  refine va_callv (va_runV (As := [.int k_n, .int (-1)]) (rest := []) ⟨hx, hb, hml, hown, hts⟩ (k_ask l G a_k a_j a_as a_h a_pt a_sk H.size e_ln e_se e_lh e_br e_we (e_me ||| (1 <<< (k_n &&& 31))) e_ce e_wy e_ho e_ov k_n (-1) f_as ⟨by omega, by omega⟩ ⟨by omega, by omega⟩ ⟨by omega, by omega⟩ ⟨by omega, by omega⟩ ⟨by omega, by omega⟩) (cwV 2 hts gV_X5_120 rfl rfl rfl hv_X5_ask ⟨Nat.le_of_ble_eq_true rfl, Nat.le_of_ble_eq_true rfl⟩) (g5_preV hPc hK hDc hN hT hS hFc (ci := 5) (q0 := 0) rfl rfl) rfl rfl hl.1 rfl (lv_room (Nat.le_of_ble_eq_true rfl)) dX5_meetGlass_118 ⟨Nat.le_of_ble_eq_true rfl, Nat.le_of_ble_eq_true rfl⟩) hS (fun q _ h => hFc q h) hFc (fun u t H1 locs ht hvm hw hB hz1 hk1 hS => ?_)
  obtain ⟨hP1, hD1⟩ := hB
  rw [ht] at hP1
  obtain ⟨z5, rfl⟩ := hw
  obtain ⟨hP, hD⟩ := va_join (wr := [(a_g, (oc6 6 5 a_gn e_g)), (a_gn, (arI G 30 f_g)), (a_sk, (arJ G 50 f_sk)), (a_p, (oc6 8 5 a_pn e_p)), (a_pn, (arI G 40 f_p)), (a_h, (oc1 e_wa e_le e_st e_fo e_lc a_l a_g a_b a_s a_p a_w e_gb a_bb)), (a_l, (arW G 6 f_l))]) hP hD [0, 3, 4] [1, 2, 5, 6, 7, 8, 9] rfl rfl (by decide) (by decide) hk1 hFc hP1 hD1
  generalize H1 = H at hP hS ⊢
  refine g5_rs [(a_g, (oc6 6 5 a_gn e_g)), (a_gn, (arI G 30 f_g)), (a_sk, (arJ G 50 f_sk)), (a_p, (oc6 8 5 a_pn e_p)), (a_pn, (arI G 40 f_p)), (a_h, (oc1 e_wa e_le e_st e_fo e_lc a_l a_g a_b a_s a_p a_w e_gb a_bb)), (a_l, (arW G 6 f_l)), (a_k, (oc5 a_h a_j a_pt e_ln e_se e_lh e_br e_we (e_me ||| (1 <<< (k_n &&& 31))) e_ce e_wy e_ho e_ov)), (a_j, (oc2 a_as a_sk)), (a_as, (arI G 8 z5))] hP hD (fun hP hD => ?_)
  refine lv_aload_n hx hb dX5_meetGlass_121 rfl (lv_at hl 3 rfl) ?_
  refine lv_iload_n hx hb dX5_meetGlass_122 rfl (lv_at hl 4 rfl) ?_
  refine lv_iconst (v := 4) hx hb dX5_meetGlass_123 (by decide) ?_
  obtain ⟨hPc, hDc, hFc⟩ := g5_sub3 (wc := [(a_p, (oc6 8 5 a_pn e_p)), (a_pn, (arI G 40 f_p))]) hP hD hS hA [3, 4] (by decide) rfl
  refine va_calli (va_runV (As := [.int k_r, .int 4]) (rest := []) ⟨hx, hb, hml, hown, hts⟩ (t_get_P l G a_p a_pn H.size e_p k_r 4 f_p ⟨by omega, by omega⟩) (cwV 2 hts gV_X5_107 rfl rfl rfl hv_X6_get ⟨Nat.le_of_ble_eq_true rfl, Nat.le_of_ble_eq_true rfl⟩) (g5_preV hPc hK hDc hN hT hS hFc (ci := 6) (q0 := 0) rfl rfl) rfl rfl hl.1 rfl (lv_room (Nat.le_of_ble_eq_true rfl)) dX5_meetGlass_124 ⟨Nat.le_of_ble_eq_true rfl, Nat.le_of_ble_eq_true rfl⟩) hS (fun q _ h => hFc q h) hFc (fun r u t H1 locs ht hvm hw hB hz1 hk1 hS => ?_)
  obtain ⟨hP1, hD1⟩ := hB
  rw [ht] at hP1
  obtain ⟨z7, i_6, y8, rfl⟩ := hw
  have i_6 : z7 = tget f_p e_p.toInt 5 k_r.toInt (4 : Int32).toInt := i_6
  obtain ⟨hP, hD⟩ := va_join (wr := [(a_g, (oc6 6 5 a_gn e_g)), (a_gn, (arI G 30 f_g)), (a_sk, (arJ G 50 f_sk)), (a_h, (oc1 e_wa e_le e_st e_fo e_lc a_l a_g a_b a_s a_p a_w e_gb a_bb)), (a_l, (arW G 6 f_l)), (a_k, (oc5 a_h a_j a_pt e_ln e_se e_lh e_br e_we (e_me ||| (1 <<< (k_n &&& 31))) e_ce e_wy e_ho e_ov)), (a_j, (oc2 a_as a_sk)), (a_as, (arI G 8 z5))]) hP hD [3, 4] [0, 1, 2, 5, 6, 7, 8, 9] rfl rfl (by decide) (by decide) hk1 hFc hP1 hD1
  generalize H1 = H at hP hS ⊢
  refine g5_rs [(a_g, (oc6 6 5 a_gn e_g)), (a_gn, (arI G 30 f_g)), (a_sk, (arJ G 50 f_sk)), (a_h, (oc1 e_wa e_le e_st e_fo e_lc a_l a_g a_b a_s a_p a_w e_gb a_bb)), (a_l, (arW G 6 f_l)), (a_k, (oc5 a_h a_j a_pt e_ln e_se e_lh e_br e_we (e_me ||| (1 <<< (k_n &&& 31))) e_ce e_wy e_ho e_ov)), (a_j, (oc2 a_as a_sk)), (a_as, (arI G 8 z5)), (a_p, (oc6 8 5 a_pn e_p)), (a_pn, (arI G 40 f_p))] hP hD (fun hP hD => ?_)
  refine g5_ti (v := z7) y8 ?_
  refine lv_aload_n hx hb dX5_meetGlass_127 rfl (lv_at hl 2 rfl) ?_
  refine va_get (D := G.1) (ci := 5) (v := .int e_ho) (C := RX5) (T := TX5) (N := 13) hx hb hts inG_X5 hown hK hP 5 rfl rfl 11 (by decide) (hts _ fl_X5_33) (fun _ h9 => h9) rfl dX5_meetGlass_128 ?_
  refine lv_ishr hx hb dX5_meetGlass_131 ?_
  refine lv_iconst (v := 1) hx hb dX5_meetGlass_132 (by decide) ?_
  refine lv_iand hx hb dX5_meetGlass_133 ?_
  refine lv_if_ne (tgt := 169) hx hb dX5_meetGlass_134 (by decide) (fun c_9 => ?_) (fun c_9 => ?_)
  ·
    have n_9 : gNe (((z7 >>> (e_ho &&& 31)) &&& 1).toInt) (0) := by have z := g5_ne (a := ((z7 >>> (e_ho &&& 31)) &&& 1).toInt) (b := 0) (by rfl) (by decide) c_9; unfold gNe; omega
    exact kk 169 dX5_meetGlass_169 e_br e_we (e_me ||| (1 <<< (k_n &&& 31))) e_wy e_ho e_ov z5 f_sk ls H locs (hP.sub [5, 3, 0, 1, 8, 9, 6, 7, 2, 4] rfl) (hD.sub [5, 3, 0, 1, 8, 9, 6, 7, 2, 4] (by decide) rfl) hS (⟨by omega, by omega⟩) (⟨by omega, by omega⟩) (⟨by omega, by omega⟩) (⟨by omega, by omega⟩)
  ·
    have i_9 : ((z7 >>> (e_ho &&& 31)) &&& 1).toInt = 0 := by have z := g5_neN (a := ((z7 >>> (e_ho &&& 31)) &&& 1).toInt) (b := 0) (by rfl) (by decide) c_9; omega
    refine lv_aload_n hx hb dX5_meetGlass_137 rfl (lv_at hl 2 rfl) ?_
    refine va_get (D := G.1) (ci := 5) (v := .ref a_j) (C := RX5) (T := TX5) (N := 13) hx hb hts inG_X5 hown hK hP 5 rfl rfl 1 (by decide) (hts _ fl_X5_12) (fun _ h9 => h9) rfl dX5_meetGlass_138 ?_
    refine lv_aloadN hx hb dX5_meetGlass_141 (lv_at hl 0 rfl) ?_
    refine lv_iconst (v := 2) hx hb dX5_meetGlass_143 (by decide) ?_
    obtain ⟨hPc, hDc, hFc⟩ := g5_sub3 (wc := [(a_j, (oc2 a_as a_sk)), (a_as, (arI G 8 z5)), (a_sk, (arJ G 50 f_sk))]) hP hD hS hA [6, 7, 2] (by decide) rfl
    refine va_calli (va_runV (As := [.null, .int 2]) (rest := []) ⟨hx, hb, hml, hown, hts⟩ (j_isHeldN l G a_j a_as a_sk H.size 2 z5 f_sk) (cwV 2 hts gV_X5_124 rfl rfl rfl hv_X2_isHeld ⟨Nat.le_of_ble_eq_true rfl, Nat.le_of_ble_eq_true rfl⟩) (g5_preV hPc hK hDc hN hT hS hFc (ci := 2) (q0 := 0) rfl rfl) rfl rfl hl.1 rfl (lv_room (Nat.le_of_ble_eq_true rfl)) dX5_meetGlass_144 ⟨Nat.le_of_ble_eq_true rfl, Nat.le_of_ble_eq_true rfl⟩) hS (fun q _ h => hFc q h) hFc (fun r u t H1 locs ht hvm hw hB hz1 hk1 hS => ?_)
    obtain ⟨hP1, hD1⟩ := hB
    rw [ht] at hP1
    obtain ⟨rfl, rfl⟩ := hw
    obtain ⟨hP, hD⟩ := va_join (wr := [(a_g, (oc6 6 5 a_gn e_g)), (a_gn, (arI G 30 f_g)), (a_h, (oc1 e_wa e_le e_st e_fo e_lc a_l a_g a_b a_s a_p a_w e_gb a_bb)), (a_l, (arW G 6 f_l)), (a_k, (oc5 a_h a_j a_pt e_ln e_se e_lh e_br e_we (e_me ||| (1 <<< (k_n &&& 31))) e_ce e_wy e_ho e_ov)), (a_p, (oc6 8 5 a_pn e_p)), (a_pn, (arI G 40 f_p))]) hP hD [6, 7, 2] [0, 1, 3, 4, 5, 8, 9] rfl rfl (by decide) (by decide) hk1 hFc hP1 hD1
    generalize H1 = H at hP hS ⊢
    refine g5_rs [(a_g, (oc6 6 5 a_gn e_g)), (a_gn, (arI G 30 f_g)), (a_h, (oc1 e_wa e_le e_st e_fo e_lc a_l a_g a_b a_s a_p a_w e_gb a_bb)), (a_l, (arW G 6 f_l)), (a_k, (oc5 a_h a_j a_pt e_ln e_se e_lh e_br e_we (e_me ||| (1 <<< (k_n &&& 31))) e_ce e_wy e_ho e_ov)), (a_p, (oc6 8 5 a_pn e_p)), (a_pn, (arI G 40 f_p)), (a_j, (oc2 a_as a_sk)), (a_as, (arI G 8 z5)), (a_sk, (arJ G 50 f_sk))] hP hD (fun hP hD => ?_)
    refine lv_if_ne (tgt := 169) hx hb dX5_meetGlass_147 (by decide) (fun c_10 => ?_) (fun c_10 => ?_)
    ·
      exact absurd c_10 (by decide)
    ·
      refine lv_iload hx hb dX5_meetGlass_150 (lv_at hl 1 rfl) ?_
      refine lv_iconst (v := 2) hx hb dX5_meetGlass_152 (by decide) ?_
      refine lv_icmp_lt (tgt := 170) hx hb dX5_meetGlass_153 (by decide) (fun c_11 => ?_) (fun c_11 => ?_)
      ·
        have i_11 : z2.toInt < 2 := by have z := g5_lt (a := z2.toInt) (b := 2) (by rfl) (by decide) c_11; omega
        exact k_mgpN2 G a_k a_h a_g a_gn a_p a_pn a_j a_as a_sk a_l a_pt a_b a_s a_w a_bb e_ln e_se e_lh e_br e_we (e_me ||| (1 <<< (k_n &&& 31))) e_ce e_wy e_ho e_ov e_le e_st e_fo e_lc e_wa e_gb e_g f_g e_p f_p z5 f_sk f_l k_r k_n z2 hx hb hml hown hts hK hN hT hA (hP.sub [4, 2, 0, 1, 5, 6, 7, 8, 9, 3] rfl) (hD.sub [4, 2, 0, 1, 5, 6, 7, 8, 9, 3] (by decide) rfl) hS (lv_sub hl [2, 3, 4, 5, 1, 0] rfl) ⟨by omega, by omega⟩ ⟨by omega, by omega⟩ ⟨by omega, by omega⟩ ⟨by omega, by omega⟩ ⟨by omega, by omega⟩ ⟨by omega, by omega⟩ ⟨by omega, by omega⟩ ⟨by omega, by omega⟩ ⟨by omega, by omega⟩ (e_gk) (e_pk) (e_f) (e_r) kk
      ·
        have i_11 : z2.toInt ≥ 2 := by have z := g5_ltN (a := z2.toInt) (b := 2) (by rfl) (by decide) c_11; omega
        refine lv_iload hx hb dX5_meetGlass_156 (lv_at hl 1 rfl) ?_
        refine lv_iconst (v := 2) hx hb dX5_meetGlass_158 (by decide) ?_
        refine lv_isub hx hb dX5_meetGlass_159 ?_
        have t_12 : (z2 - 2).toInt = z2.toInt - 2 := g5_isub (a := z2.toInt) (b := 2) (by rfl) (by decide) (by omega) (by omega)
        refine lv_aload_n hx hb dX5_meetGlass_160 rfl (lv_at hl 2 rfl) ?_
        refine va_get (D := G.1) (ci := 5) (v := .int e_wy) (C := RX5) (T := TX5) (N := 13) hx hb hts inG_X5 hown hK hP 4 rfl rfl 10 (by decide) (hts _ fl_X5_30) (fun _ h9 => h9) rfl dX5_meetGlass_161 ?_
        refine lv_iconst (v := 2) hx hb dX5_meetGlass_164 (by decide) ?_
        refine lv_ixor hx hb dX5_meetGlass_165 ?_
        have hx_13 := (g_xor (w := e_wy) (by omega) (by omega)).2
        refine lv_icmp_eq (tgt := 170) hx hb dX5_meetGlass_166 (by decide) (fun c_14 => ?_) (fun c_14 => ?_)
        ·
          have i_14 : (z2.toInt - 2) = (e_wy ^^^ 2).toInt := by have z := g5_eq (a := (z2 - 2).toInt) (b := (e_wy ^^^ 2).toInt) (by rfl) (by rfl) c_14; omega
          exact k_mgpN2 G a_k a_h a_g a_gn a_p a_pn a_j a_as a_sk a_l a_pt a_b a_s a_w a_bb e_ln e_se e_lh e_br e_we (e_me ||| (1 <<< (k_n &&& 31))) e_ce e_wy e_ho e_ov e_le e_st e_fo e_lc e_wa e_gb e_g f_g e_p f_p z5 f_sk f_l k_r k_n z2 hx hb hml hown hts hK hN hT hA (hP.sub [4, 2, 0, 1, 5, 6, 7, 8, 9, 3] rfl) (hD.sub [4, 2, 0, 1, 5, 6, 7, 8, 9, 3] (by decide) rfl) hS (lv_sub hl [2, 3, 4, 5, 1, 0] rfl) ⟨by omega, by omega⟩ ⟨by omega, by omega⟩ ⟨by omega, by omega⟩ ⟨by omega, by omega⟩ ⟨by omega, by omega⟩ ⟨by omega, by omega⟩ ⟨by omega, by omega⟩ ⟨by omega, by omega⟩ ⟨by omega, by omega⟩ (e_gk) (e_pk) (e_f) (e_r) kk
        ·
          have n_14 : gNe ((z2.toInt - 2)) ((e_wy ^^^ 2).toInt) := by have z := g5_eqN (a := (z2 - 2).toInt) (b := (e_wy ^^^ 2).toInt) (by rfl) (by rfl) c_14; unfold gNe; omega
          exact kk 169 dX5_meetGlass_169 e_br e_we (e_me ||| (1 <<< (k_n &&& 31))) e_wy e_ho e_ov z5 f_sk ls H locs (hP.sub [4, 2, 0, 1, 5, 6, 7, 8, 9, 3] rfl) (hD.sub [4, 2, 0, 1, 5, 6, 7, 8, 9, 3] (by decide) rfl) hS (⟨by omega, by omega⟩) (⟨by omega, by omega⟩) (⟨by omega, by omega⟩) (⟨by omega, by omega⟩)
theorem fl_X5_128 : Cond.fieldLink RX5 128 "LateGlass$House" "glasses" "LLateGlass$Table;" ∈ tblG := tg 172 (by decide +kernel) (by decide +kernel)
theorem ml_X5_131 : Cond.methodLink RX5 131 yX6_find ∈ tblG := tg 859 (by decide +kernel) (by decide +kernel)
theorem gV_X5_131 : GoodIn tblG (wsV RX5 131 RX6 yX6_find (wsG yX6_find cX6_find 4 (some .int))) := tgV ml_X5_131 im_X6_find se_X6_find ini_X6 gW_X6_find
set_option maxHeartbeats 4000000 in
set_option maxRecDepth 100000 in
theorem k_meetGlassN (l : Launch) (G : g5_G) (a_k a_h a_g a_gn a_p a_pn a_j a_as a_sk a_l a_pt a_b a_s a_w a_bb : Nat) (sz : Nat) (e_ln : Int32) (e_se : Int32) (e_lh : Int32) (e_br : Int32) (e_we : Int32) (e_me : Int32) (e_ce : Int32) (e_wy : Int32) (e_ho : Int32) (e_ov : Int32) (e_le : Int32) (e_st : Int32) (e_fo : Int32) (e_lc : Int32) (e_g : Int32) (e_p : Int32) (e_wa : Int64) (e_gb : Int64) (f_g : Nat → Int32) (f_p : Nat → Int32) (f_as : Nat → Int32) (f_sk : Nat → Int64) (f_l : Nat → Option Nat) (h_e_br : 0 ≤ e_br.toInt ∧ e_br.toInt ≤ 1000000) (h_e_ce : 0 ≤ e_ce.toInt ∧ e_ce.toInt ≤ 63) (h_e_wy : 0 ≤ e_wy.toInt ∧ e_wy.toInt ≤ 3) (h_e_ho : 0 ≤ e_ho.toInt ∧ e_ho.toInt ≤ 23) (h_e_ov : 0 ≤ e_ov.toInt ∧ e_ov.toInt ≤ 1) (h_e_g : 0 ≤ e_g.toInt ∧ e_g.toInt ≤ 6) (h_e_p : 0 ≤ e_p.toInt ∧ e_p.toInt ≤ 8) (e_gk : gOK f_g e_g.toInt) (e_pk : gOK f_p e_p.toInt) (e_in : inR f_g e_g.toInt e_ce.toInt ∨ inR f_p e_p.toInt e_ce.toInt) (e_f : e_fo.toInt < 0 ∨ e_lc.toInt ≤ e_fo.toInt) : Met l yX5_meetGlass (wsG yX5_meetGlass cX5_meetGlass 9 none) ({ frames := 12, cells := 0, slots := 0, locals := 500 }) (va_Pc [.ref a_k] (g5_P G [(a_k, (oc5 a_h a_j a_pt e_ln e_se e_lh e_br e_we e_me e_ce e_wy e_ho e_ov)), (a_h, (oc1 e_wa e_le e_st e_fo e_lc a_l a_g a_b a_s a_p a_w e_gb a_bb)), (a_g, (oc6 6 5 a_gn e_g)), (a_gn, (arI G 30 f_g)), (a_p, (oc6 8 5 a_pn e_p)), (a_pn, (arI G 40 f_p)), (a_j, (oc2 a_as a_sk)), (a_as, (arI G 8 f_as)), (a_sk, (arJ G 50 f_sk)), (a_l, (arW G 6 f_l))] sz)) (va_Qv (fun (u : va_W) => (∃ (o_b : Int32) (o_w : Int32) (o_m : Int32) (o_y : Int32) (o_h : Int32) (o_v : Int32) (o_a : Nat → Int32) (o_k : Nat → Int64), (0 ≤ o_b.toInt ∧ o_b.toInt ≤ 1000000) ∧ (0 ≤ o_y.toInt ∧ o_y.toInt ≤ 3) ∧ (0 ≤ o_h.toInt ∧ o_h.toInt ≤ 23) ∧ (0 ≤ o_v.toInt ∧ o_v.toInt ≤ 1) ∧ (u = [(a_k, (oc5 a_h a_j a_pt e_ln e_se e_lh o_b o_w o_m e_ce o_y o_h o_v)), (a_h, (oc1 e_wa e_le e_st e_fo e_lc a_l a_g a_b a_s a_p a_w e_gb a_bb)), (a_g, (oc6 6 5 a_gn e_g)), (a_gn, (arI G 30 f_g)), (a_p, (oc6 8 5 a_pn e_p)), (a_pn, (arI G 40 f_p)), (a_j, (oc2 a_as a_sk)), (a_as, (arI G 8 o_a)), (a_sk, (arJ G 50 o_k)), (a_l, (arW G 6 f_l))]))) (g5_B G (va_A [(a_k, (oc5 a_h a_j a_pt e_ln e_se e_lh e_br e_we e_me e_ce e_wy e_ho e_ov)), (a_h, (oc1 e_wa e_le e_st e_fo e_lc a_l a_g a_b a_s a_p a_w e_gb a_bb)), (a_g, (oc6 6 5 a_gn e_g)), (a_gn, (arI G 30 f_g)), (a_p, (oc6 8 5 a_pn e_p)), (a_pn, (arI G 40 f_p)), (a_j, (oc2 a_as a_sk)), (a_as, (arI G 8 f_as)), (a_sk, (arJ G 50 f_sk)), (a_l, (arW G 6 f_l))] sz)) (va_A [(a_k, (oc5 a_h a_j a_pt e_ln e_se e_lh e_br e_we e_me e_ce e_wy e_ho e_ov)), (a_h, (oc1 e_wa e_le e_st e_fo e_lc a_l a_g a_b a_s a_p a_w e_gb a_bb)), (a_g, (oc6 6 5 a_gn e_g)), (a_gn, (arI G 30 f_g)), (a_p, (oc6 8 5 a_pn e_p)), (a_pn, (arI G 40 f_p)), (a_j, (oc2 a_as a_sk)), (a_as, (arI G 8 f_as)), (a_sk, (arJ G 50 f_sk)), (a_l, (arW G 6 f_l))] sz)) 0 0 (va_A [(a_k, (oc5 a_h a_j a_pt e_ln e_se e_lh e_br e_we e_me e_ce e_wy e_ho e_ov)), (a_h, (oc1 e_wa e_le e_st e_fo e_lc a_l a_g a_b a_s a_p a_w e_gb a_bb)), (a_g, (oc6 6 5 a_gn e_g)), (a_gn, (arI G 30 f_g)), (a_p, (oc6 8 5 a_pn e_p)), (a_pn, (arI G 40 f_p)), (a_j, (oc2 a_as a_sk)), (a_as, (arI G 8 f_as)), (a_sk, (arJ G 50 f_sk)), (a_l, (arW G 6 f_l))] sz) := by
  refine Met.ofW (cc := cX5_meetGlass) (maxL := 9) (ret := none) (by decide) rfl ?_
  intro p e s m args below meth c s₁ B hml hv
  obtain ⟨rfl, hsz, hP, hK, hD0, hN, hT⟩ := hv
  have hx := B.exec
  have hb := B.bytes
  have hr := B.returns
  have hts : ∀ w ∈ tblG, w.before _ s = true := fun w h => atoms_spec (ws := (wsG yX5_meetGlass cX5_meetGlass 9 none)) B.pre w (List.mem_cons_of_mem _ h)
  have hown : s.vm.findClass RX5 = some m.cls := findClass_of_methodNamed B.named
  have hlocks := B.notSynchronized
  subst hsz
  have hD := hD0.self (sz := s.heap.size)
  generalize hAe : va_A [(a_k, (oc5 a_h a_j a_pt e_ln e_se e_lh e_br e_we e_me e_ce e_wy e_ho e_ov)), (a_h, (oc1 e_wa e_le e_st e_fo e_lc a_l a_g a_b a_s a_p a_w e_gb a_bb)), (a_g, (oc6 6 5 a_gn e_g)), (a_gn, (arI G 30 f_g)), (a_p, (oc6 8 5 a_pn e_p)), (a_pn, (arI G 40 f_p)), (a_j, (oc2 a_as a_sk)), (a_as, (arI G 8 f_as)), (a_sk, (arJ G 50 f_sk)), (a_l, (arW G 6 f_l))] s.heap.size = A at hD hT ⊢
  have hA : ∀ q : Nat, s.heap.size ≤ q → A q := fun q h => by rw [← hAe]; exact Or.inr h
  have hS : va_S A s.heap s.heap [] := va_S.rf
  have hP : va_P G.1 vwCl [(a_k, (oc5 a_h a_j a_pt e_ln e_se e_lh e_br e_we e_me e_ce e_wy e_ho e_ov)), (a_h, (oc1 e_wa e_le e_st e_fo e_lc a_l a_g a_b a_s a_p a_w e_gb a_bb)), (a_g, (oc6 6 5 a_gn e_g)), (a_gn, (arI G 30 f_g)), (a_p, (oc6 8 5 a_pn e_p)), (a_pn, (arI G 40 f_p)), (a_j, (oc2 a_as a_sk)), (a_as, (arI G 8 f_as)), (a_sk, (arJ G 50 f_sk)), (a_l, (arW G 6 f_l))] s.heap := hP
  have hl := lv_entry ([.ref a_k]) (n := 9) (Nat.le_of_ble_eq_true rfl)
  rw [lg_entry_eq]
  generalize (lg_sl ([.ref a_k]) ++ List.replicate (9 - (lg_sl ([.ref a_k])).length) Slot.unset).toArray = ls at hl ⊢
  have hl : lv_has ls 9 [(0, .ref a_k)] := hl
  refine lv_aload_n hx hb dX5_meetGlass_0 rfl (lv_at hl 0 rfl) ?_
  refine lv_iconst (v := 1) hx hb dX5_meetGlass_1 (by decide) ?_
  refine va_put (D := G.1) (ci := 5) (v := .int 1) (ty := .boolean) (C := RX5) (T := TX5) (N := 13) hx hb hts inG_X5 tyX5 tyX5_ok nmX5 hown hK hP hD hS 0 rfl rfl 12 (by decide) (hts _ fl_X5_56) (fun _ h9 => h9) rfl (by decide +kernel) rfl rfl (Nat.le_of_ble_eq_true rfl) dX5_meetGlass_2 (fun H locs hP hD hS => ?_)
  refine g5_rs [(a_k, (oc5 a_h a_j a_pt e_ln e_se e_lh e_br e_we e_me e_ce e_wy e_ho 1)), (a_h, (oc1 e_wa e_le e_st e_fo e_lc a_l a_g a_b a_s a_p a_w e_gb a_bb)), (a_g, (oc6 6 5 a_gn e_g)), (a_gn, (arI G 30 f_g)), (a_p, (oc6 8 5 a_pn e_p)), (a_pn, (arI G 40 f_p)), (a_j, (oc2 a_as a_sk)), (a_as, (arI G 8 f_as)), (a_sk, (arJ G 50 f_sk)), (a_l, (arW G 6 f_l))] hP hD (fun hP hD => ?_)
  refine lv_aload_n hx hb dX5_meetGlass_5 rfl (lv_at hl 0 rfl) ?_
  refine va_get (D := G.1) (ci := 5) (v := .ref a_h) (C := RX5) (T := TX5) (N := 13) hx hb hts inG_X5 hown hK hP 0 rfl rfl 0 (by decide) (hts _ fl_X5_22) (fun _ h9 => h9) rfl dX5_meetGlass_6 ?_
  refine va_get (D := G.1) (ci := 1) (v := .ref a_g) (C := RX1) (T := TX1) (N := 13) hx hb hts inG_X1 hown hK hP 1 rfl rfl 6 (by decide) (hts _ fl_X5_128) (fun _ h9 => h9) rfl dX5_meetGlass_9 ?_
  refine lv_iconst (v := 0) hx hb dX5_meetGlass_12 (by decide) ?_
  refine lv_aload_n hx hb dX5_meetGlass_13 rfl (lv_at hl 0 rfl) ?_
  refine va_get (D := G.1) (ci := 5) (v := .int e_ce) (C := RX5) (T := TX5) (N := 13) hx hb hts inG_X5 hown hK hP 0 rfl rfl 9 (by decide) (hts _ fl_X5_26) (fun _ h9 => h9) rfl dX5_meetGlass_14 ?_
  obtain ⟨hPc, hDc, hFc⟩ := g5_sub3 (wc := [(a_g, (oc6 6 5 a_gn e_g)), (a_gn, (arI G 30 f_g))]) hP hD hS hA [2, 3] (by decide) rfl
  refine va_calli (va_runV (As := [.int 0, .int e_ce]) (rest := []) ⟨hx, hb, hml, hown, hts⟩ (t_find_G l G a_g a_gn H.size e_g 0 e_ce f_g h_e_g) (cwV 2 hts gV_X5_131 rfl rfl rfl hv_X6_find ⟨Nat.le_of_ble_eq_true rfl, Nat.le_of_ble_eq_true rfl⟩) (g5_preV hPc hK hDc hN hT hS hFc (ci := 6) (q0 := 0) rfl rfl) rfl rfl hl.1 rfl (lv_room (Nat.le_of_ble_eq_true rfl)) dX5_meetGlass_17 ⟨Nat.le_of_ble_eq_true rfl, Nat.le_of_ble_eq_true rfl⟩) hS (fun q _ h => hFc q h) hFc (fun r u t H1 locs ht hvm hw hB hz1 hk1 hS => ?_)
  obtain ⟨hP1, hD1⟩ := hB
  rw [ht] at hP1
  rcases hw with ⟨i_1, rfl, rfl⟩ | ⟨z4, i_2, i_3, y5, rfl⟩
  ·
    have i_1 : ∀ r : Int, 0 ≤ r → r < e_g.toInt → tget f_g e_g.toInt 5 r (0 : Int32).toInt ≠ e_ce := i_1
    obtain ⟨hP, hD⟩ := va_join (wr := [(a_k, (oc5 a_h a_j a_pt e_ln e_se e_lh e_br e_we e_me e_ce e_wy e_ho 1)), (a_h, (oc1 e_wa e_le e_st e_fo e_lc a_l a_g a_b a_s a_p a_w e_gb a_bb)), (a_p, (oc6 8 5 a_pn e_p)), (a_pn, (arI G 40 f_p)), (a_j, (oc2 a_as a_sk)), (a_as, (arI G 8 f_as)), (a_sk, (arJ G 50 f_sk)), (a_l, (arW G 6 f_l))]) hP hD [2, 3] [0, 1, 4, 5, 6, 7, 8, 9] rfl rfl (by decide) (by decide) hk1 hFc hP1 hD1
    generalize H1 = H at hP hS ⊢
    refine g5_rs [(a_k, (oc5 a_h a_j a_pt e_ln e_se e_lh e_br e_we e_me e_ce e_wy e_ho 1)), (a_h, (oc1 e_wa e_le e_st e_fo e_lc a_l a_g a_b a_s a_p a_w e_gb a_bb)), (a_p, (oc6 8 5 a_pn e_p)), (a_pn, (arI G 40 f_p)), (a_j, (oc2 a_as a_sk)), (a_as, (arI G 8 f_as)), (a_sk, (arJ G 50 f_sk)), (a_l, (arW G 6 f_l)), (a_g, (oc6 6 5 a_gn e_g)), (a_gn, (arI G 30 f_g))] hP hD (fun hP hD => ?_)
    refine lv_istore_n (lv' := [(1, .int (-1)), (0, .ref a_k)]) hx hb dX5_meetGlass_20 rfl hl (by decide) rfl (fun ls hl => ?_)
    refine lv_iload_n hx hb dX5_meetGlass_21 rfl (lv_at hl 0 rfl) ?_
    refine lv_iconst (v := (-1)) hx hb dX5_meetGlass_22 (by decide) ?_
    refine lv_icmp_ne (tgt := 36) hx hb dX5_meetGlass_23 (by decide) (fun c_6 => ?_) (fun c_6 => ?_)
    ·
      exact absurd c_6 (by decide)
    ·
      refine lv_aload_n hx hb dX5_meetGlass_26 rfl (lv_at hl 1 rfl) ?_
      refine va_get (D := G.1) (ci := 5) (v := .ref a_h) (C := RX5) (T := TX5) (N := 13) hx hb hts inG_X5 hown hK hP 0 rfl rfl 0 (by decide) (hts _ fl_X5_22) (fun _ h9 => h9) rfl dX5_meetGlass_27 ?_
      refine va_get (D := G.1) (ci := 1) (v := .ref a_p) (C := RX1) (T := TX1) (N := 13) hx hb hts inG_X1 hown hK hP 1 rfl rfl 9 (by decide) (hts _ fl_X5_98) (fun _ h9 => h9) rfl dX5_meetGlass_30 ?_
      refine lv_goto (tgt := 43) hx hb dX5_meetGlass_33 (by decide) ?_
      refine lv_astore_n (lv' := [(2, .ref a_p), (1, .int (-1)), (0, .ref a_k)]) hx hb dX5_meetGlass_43 rfl hl (by decide) rfl (fun ls hl => ?_)
      refine lv_iload_n hx hb dX5_meetGlass_44 rfl (lv_at hl 1 rfl) ?_
      refine lv_iconst (v := (-1)) hx hb dX5_meetGlass_45 (by decide) ?_
      refine lv_icmp_ne (tgt := 67) hx hb dX5_meetGlass_46 (by decide) (fun c_7 => ?_) (fun c_7 => ?_)
      ·
        exact absurd c_7 (by decide)
      ·
        refine lv_aload_n hx hb dX5_meetGlass_49 rfl (lv_at hl 2 rfl) ?_
        refine va_get (D := G.1) (ci := 5) (v := .ref a_h) (C := RX5) (T := TX5) (N := 13) hx hb hts inG_X5 hown hK hP 0 rfl rfl 0 (by decide) (hts _ fl_X5_22) (fun _ h9 => h9) rfl dX5_meetGlass_50 ?_
        refine va_get (D := G.1) (ci := 1) (v := .ref a_p) (C := RX1) (T := TX1) (N := 13) hx hb hts inG_X1 hown hK hP 1 rfl rfl 9 (by decide) (hts _ fl_X5_98) (fun _ h9 => h9) rfl dX5_meetGlass_53 ?_
        refine lv_iconst (v := 0) hx hb dX5_meetGlass_56 (by decide) ?_
        refine lv_aload_n hx hb dX5_meetGlass_57 rfl (lv_at hl 2 rfl) ?_
        refine va_get (D := G.1) (ci := 5) (v := .int e_ce) (C := RX5) (T := TX5) (N := 13) hx hb hts inG_X5 hown hK hP 0 rfl rfl 9 (by decide) (hts _ fl_X5_26) (fun _ h9 => h9) rfl dX5_meetGlass_58 ?_
        obtain ⟨hPc, hDc, hFc⟩ := g5_sub3 (wc := [(a_p, (oc6 8 5 a_pn e_p)), (a_pn, (arI G 40 f_p))]) hP hD hS hA [2, 3] (by decide) rfl
        refine va_calli (va_runV (As := [.int 0, .int e_ce]) (rest := []) ⟨hx, hb, hml, hown, hts⟩ (t_find_P l G a_p a_pn H.size e_p 0 e_ce f_p h_e_p) (cwV 2 hts gV_X5_131 rfl rfl rfl hv_X6_find ⟨Nat.le_of_ble_eq_true rfl, Nat.le_of_ble_eq_true rfl⟩) (g5_preV hPc hK hDc hN hT hS hFc (ci := 6) (q0 := 0) rfl rfl) rfl rfl hl.1 rfl (lv_room (Nat.le_of_ble_eq_true rfl)) dX5_meetGlass_61 ⟨Nat.le_of_ble_eq_true rfl, Nat.le_of_ble_eq_true rfl⟩) hS (fun q _ h => hFc q h) hFc (fun r u t H1 locs ht hvm hw hB hz1 hk1 hS => ?_)
        obtain ⟨hP1, hD1⟩ := hB
        rw [ht] at hP1
        rcases hw with ⟨i_8, rfl, rfl⟩ | ⟨z11, i_9, i_10, y12, rfl⟩
        ·
          have i_8 : ∀ r : Int, 0 ≤ r → r < e_p.toInt → tget f_p e_p.toInt 5 r (0 : Int32).toInt ≠ e_ce := i_8
          obtain ⟨hP, hD⟩ := va_join (wr := [(a_k, (oc5 a_h a_j a_pt e_ln e_se e_lh e_br e_we e_me e_ce e_wy e_ho 1)), (a_h, (oc1 e_wa e_le e_st e_fo e_lc a_l a_g a_b a_s a_p a_w e_gb a_bb)), (a_j, (oc2 a_as a_sk)), (a_as, (arI G 8 f_as)), (a_sk, (arJ G 50 f_sk)), (a_l, (arW G 6 f_l)), (a_g, (oc6 6 5 a_gn e_g)), (a_gn, (arI G 30 f_g))]) hP hD [2, 3] [0, 1, 4, 5, 6, 7, 8, 9] rfl rfl (by decide) (by decide) hk1 hFc hP1 hD1
          generalize H1 = H at hP hS ⊢
          refine g5_rs [(a_k, (oc5 a_h a_j a_pt e_ln e_se e_lh e_br e_we e_me e_ce e_wy e_ho 1)), (a_h, (oc1 e_wa e_le e_st e_fo e_lc a_l a_g a_b a_s a_p a_w e_gb a_bb)), (a_j, (oc2 a_as a_sk)), (a_as, (arI G 8 f_as)), (a_sk, (arJ G 50 f_sk)), (a_l, (arW G 6 f_l)), (a_g, (oc6 6 5 a_gn e_g)), (a_gn, (arI G 30 f_g)), (a_p, (oc6 8 5 a_pn e_p)), (a_pn, (arI G 40 f_p))] hP hD (fun hP hD => ?_)
          refine lv_goto (tgt := 68) hx hb dX5_meetGlass_64 (by decide) ?_
          rcases e_in with e_in | e_in
          · exact absurd e_in (g_notin i_1)
          · exact absurd e_in (g_notin i_8)
        ·
          have i_9 : 0 ≤ z11.toInt ∧ z11.toInt < e_p.toInt := i_9
          have i_10 : tget f_p e_p.toInt 5 z11.toInt (0 : Int32).toInt = e_ce := i_10
          obtain ⟨hP, hD⟩ := va_join (wr := [(a_k, (oc5 a_h a_j a_pt e_ln e_se e_lh e_br e_we e_me e_ce e_wy e_ho 1)), (a_h, (oc1 e_wa e_le e_st e_fo e_lc a_l a_g a_b a_s a_p a_w e_gb a_bb)), (a_j, (oc2 a_as a_sk)), (a_as, (arI G 8 f_as)), (a_sk, (arJ G 50 f_sk)), (a_l, (arW G 6 f_l)), (a_g, (oc6 6 5 a_gn e_g)), (a_gn, (arI G 30 f_g))]) hP hD [2, 3] [0, 1, 4, 5, 6, 7, 8, 9] rfl rfl (by decide) (by decide) hk1 hFc hP1 hD1
          generalize H1 = H at hP hS ⊢
          refine g5_rs [(a_k, (oc5 a_h a_j a_pt e_ln e_se e_lh e_br e_we e_me e_ce e_wy e_ho 1)), (a_h, (oc1 e_wa e_le e_st e_fo e_lc a_l a_g a_b a_s a_p a_w e_gb a_bb)), (a_j, (oc2 a_as a_sk)), (a_as, (arI G 8 f_as)), (a_sk, (arJ G 50 f_sk)), (a_l, (arW G 6 f_l)), (a_g, (oc6 6 5 a_gn e_g)), (a_gn, (arI G 30 f_g)), (a_p, (oc6 8 5 a_pn e_p)), (a_pn, (arI G 40 f_p))] hP hD (fun hP hD => ?_)
          refine g5_ti (v := z11) y12 ?_
          refine lv_goto (tgt := 68) hx hb dX5_meetGlass_64 (by decide) ?_
          refine lv_istore_n (lv' := [(3, .int z11), (2, .ref a_p), (1, .int (-1)), (0, .ref a_k)]) hx hb dX5_meetGlass_68 rfl hl (by decide) rfl (fun ls hl => ?_)
          refine lv_iload_n hx hb dX5_meetGlass_69 rfl (lv_at hl 2 rfl) ?_
          refine lv_iconst (v := (-1)) hx hb dX5_meetGlass_70 (by decide) ?_
          refine lv_icmp_ne (tgt := 81) hx hb dX5_meetGlass_71 (by decide) (fun c_13 => ?_) (fun c_13 => ?_)
          ·
            exact absurd c_13 (by decide)
          ·
            refine lv_bipush (v := 6) hx hb dX5_meetGlass_74 (by decide) ?_
            refine lv_iload_n hx hb dX5_meetGlass_76 rfl (lv_at hl 0 rfl) ?_
            refine lv_iadd hx hb dX5_meetGlass_77 ?_
            have t_14 : (6 + z11).toInt = 6 + z11.toInt := g5_iadd (a := 6) (b := z11.toInt) (by decide) (by rfl) (by omega) (by omega)
            refine lv_goto (tgt := 82) hx hb dX5_meetGlass_78 (by decide) ?_
            refine lv_istore (lv' := [(4, .int (6 + z11)), (3, .int z11), (2, .ref a_p), (1, .int (-1)), (0, .ref a_k)]) hx hb dX5_meetGlass_82 hl (by decide) rfl (fun ls hl => ?_)
            refine k_mgpN1 G a_k a_h a_g a_gn a_p a_pn a_j a_as a_sk a_l a_pt a_b a_s a_w a_bb e_ln e_se e_lh e_br e_we e_me e_ce e_wy e_ho 1 e_le e_st e_fo e_lc e_wa e_gb e_g f_g e_p f_p f_as f_sk f_l z11 (6 + z11) hx hb hml hown hts hK hN hT hA (hP.sub [0, 1, 6, 7, 8, 9, 2, 3, 4, 5] rfl) (hD.sub [0, 1, 6, 7, 8, 9, 2, 3, 4, 5] (by decide) rfl) hS (lv_sub hl [4, 2, 1, 0] rfl) ⟨by omega, by omega⟩ ⟨by omega, by omega⟩ ⟨by omega, by omega⟩ ⟨by omega, by omega⟩ ⟨by decide, by decide⟩ ⟨by omega, by omega⟩ ⟨by omega, by omega⟩ ⟨by omega, by omega⟩ (e_gk) (e_pk) (e_f) (by omega) (fun pc1 hd o_b o_w o_m o_y o_h o_v o_a o_k ls H locs hP hD hS i_b i_y i_h i_v => ?_)
            refine g5_rs [(a_k, (oc5 a_h a_j a_pt e_ln e_se e_lh o_b o_w o_m e_ce o_y o_h o_v)), (a_h, (oc1 e_wa e_le e_st e_fo e_lc a_l a_g a_b a_s a_p a_w e_gb a_bb)), (a_g, (oc6 6 5 a_gn e_g)), (a_gn, (arI G 30 f_g)), (a_p, (oc6 8 5 a_pn e_p)), (a_pn, (arI G 40 f_p)), (a_j, (oc2 a_as a_sk)), (a_as, (arI G 8 o_a)), (a_sk, (arJ G 50 o_k)), (a_l, (arW G 6 f_l))] hP hD (fun hP hD => ?_)
            have i_b : 0 ≤ o_b.toInt ∧ o_b.toInt ≤ 1000000 := i_b
            have i_y : 0 ≤ o_y.toInt ∧ o_y.toInt ≤ 3 := i_y
            have i_h : 0 ≤ o_h.toInt ∧ o_h.toInt ≤ 23 := i_h
            have i_v : 0 ≤ o_v.toInt ∧ o_v.toInt ≤ 1 := i_v
            exact W.vret hx hb hr (fun t ht hW => ⟨⟨[(a_k, (oc5 a_h a_j a_pt e_ln e_se e_lh o_b o_w o_m e_ce o_y o_h o_v)), (a_h, (oc1 e_wa e_le e_st e_fo e_lc a_l a_g a_b a_s a_p a_w e_gb a_bb)), (a_g, (oc6 6 5 a_gn e_g)), (a_gn, (arI G 30 f_g)), (a_p, (oc6 8 5 a_pn e_p)), (a_pn, (arI G 40 f_p)), (a_j, (oc2 a_as a_sk)), (a_as, (arI G 8 o_a)), (a_sk, (arJ G 50 o_k)), (a_l, (arW G 6 f_l))], rfl, ⟨o_b, o_w, o_m, o_y, o_h, o_v, o_a, o_k, ⟨by omega, by omega⟩, ⟨by omega, by omega⟩, ⟨by omega, by omega⟩, ⟨by omega, by omega⟩, rfl⟩, by rw [ht]; exact hP.sub [0, 1, 2, 3, 4, 5, 6, 7, 8, 9] rfl, hD.sub [0, 1, 2, 3, 4, 5, 6, 7, 8, 9] (by decide) rfl⟩, hS.F ht⟩) hS.2.2 hd
  ·
    have i_2 : 0 ≤ z4.toInt ∧ z4.toInt < e_g.toInt := i_2
    have i_3 : tget f_g e_g.toInt 5 z4.toInt (0 : Int32).toInt = e_ce := i_3
    obtain ⟨hP, hD⟩ := va_join (wr := [(a_k, (oc5 a_h a_j a_pt e_ln e_se e_lh e_br e_we e_me e_ce e_wy e_ho 1)), (a_h, (oc1 e_wa e_le e_st e_fo e_lc a_l a_g a_b a_s a_p a_w e_gb a_bb)), (a_p, (oc6 8 5 a_pn e_p)), (a_pn, (arI G 40 f_p)), (a_j, (oc2 a_as a_sk)), (a_as, (arI G 8 f_as)), (a_sk, (arJ G 50 f_sk)), (a_l, (arW G 6 f_l))]) hP hD [2, 3] [0, 1, 4, 5, 6, 7, 8, 9] rfl rfl (by decide) (by decide) hk1 hFc hP1 hD1
    generalize H1 = H at hP hS ⊢
    refine g5_rs [(a_k, (oc5 a_h a_j a_pt e_ln e_se e_lh e_br e_we e_me e_ce e_wy e_ho 1)), (a_h, (oc1 e_wa e_le e_st e_fo e_lc a_l a_g a_b a_s a_p a_w e_gb a_bb)), (a_p, (oc6 8 5 a_pn e_p)), (a_pn, (arI G 40 f_p)), (a_j, (oc2 a_as a_sk)), (a_as, (arI G 8 f_as)), (a_sk, (arJ G 50 f_sk)), (a_l, (arW G 6 f_l)), (a_g, (oc6 6 5 a_gn e_g)), (a_gn, (arI G 30 f_g))] hP hD (fun hP hD => ?_)
    refine g5_ti (v := z4) y5 ?_
    refine lv_istore_n (lv' := [(1, .int z4), (0, .ref a_k)]) hx hb dX5_meetGlass_20 rfl hl (by decide) rfl (fun ls hl => ?_)
    refine lv_iload_n hx hb dX5_meetGlass_21 rfl (lv_at hl 0 rfl) ?_
    refine lv_iconst (v := (-1)) hx hb dX5_meetGlass_22 (by decide) ?_
    refine lv_icmp_ne (tgt := 36) hx hb dX5_meetGlass_23 (by decide) (fun c_15 => ?_) (fun c_15 => ?_)
    ·
      have n_15 : gNe (z4.toInt) ((-1)) := by have z := g5_ne (a := z4.toInt) (b := (-1)) (by rfl) (by decide) c_15; unfold gNe; omega
      refine lv_aload_n hx hb dX5_meetGlass_36 rfl (lv_at hl 1 rfl) ?_
      refine va_get (D := G.1) (ci := 5) (v := .ref a_h) (C := RX5) (T := TX5) (N := 13) hx hb hts inG_X5 hown hK hP 0 rfl rfl 0 (by decide) (hts _ fl_X5_22) (fun _ h9 => h9) rfl dX5_meetGlass_37 ?_
      refine va_get (D := G.1) (ci := 1) (v := .ref a_g) (C := RX1) (T := TX1) (N := 13) hx hb hts inG_X1 hown hK hP 1 rfl rfl 6 (by decide) (hts _ fl_X5_128) (fun _ h9 => h9) rfl dX5_meetGlass_40 ?_
      refine lv_astore_n (lv' := [(2, .ref a_g), (1, .int z4), (0, .ref a_k)]) hx hb dX5_meetGlass_43 rfl hl (by decide) rfl (fun ls hl => ?_)
      refine lv_iload_n hx hb dX5_meetGlass_44 rfl (lv_at hl 1 rfl) ?_
      refine lv_iconst (v := (-1)) hx hb dX5_meetGlass_45 (by decide) ?_
      refine lv_icmp_ne (tgt := 67) hx hb dX5_meetGlass_46 (by decide) (fun c_16 => ?_) (fun c_16 => ?_)
      ·
        have n_16 : gNe (z4.toInt) ((-1)) := by have z := g5_ne (a := z4.toInt) (b := (-1)) (by rfl) (by decide) c_16; unfold gNe; omega
        refine lv_iload_n hx hb dX5_meetGlass_67 rfl (lv_at hl 1 rfl) ?_
        refine lv_istore_n (lv' := [(3, .int z4), (2, .ref a_g), (1, .int z4), (0, .ref a_k)]) hx hb dX5_meetGlass_68 rfl hl (by decide) rfl (fun ls hl => ?_)
        refine lv_iload_n hx hb dX5_meetGlass_69 rfl (lv_at hl 2 rfl) ?_
        refine lv_iconst (v := (-1)) hx hb dX5_meetGlass_70 (by decide) ?_
        refine lv_icmp_ne (tgt := 81) hx hb dX5_meetGlass_71 (by decide) (fun c_17 => ?_) (fun c_17 => ?_)
        ·
          have n_17 : gNe (z4.toInt) ((-1)) := by have z := g5_ne (a := z4.toInt) (b := (-1)) (by rfl) (by decide) c_17; unfold gNe; omega
          refine lv_iload_n hx hb dX5_meetGlass_81 rfl (lv_at hl 2 rfl) ?_
          refine lv_istore (lv' := [(4, .int z4), (3, .int z4), (2, .ref a_g), (1, .int z4), (0, .ref a_k)]) hx hb dX5_meetGlass_82 hl (by decide) rfl (fun ls hl => ?_)
          refine k_mggN1 G a_k a_h a_g a_gn a_p a_pn a_j a_as a_sk a_l a_pt a_b a_s a_w a_bb e_ln e_se e_lh e_br e_we e_me e_ce e_wy e_ho 1 e_le e_st e_fo e_lc e_wa e_gb e_g f_g e_p f_p f_as f_sk f_l z4 z4 hx hb hml hown hts hK hN hT hA (hP.sub [0, 1, 8, 9, 2, 3, 4, 5, 6, 7] rfl) (hD.sub [0, 1, 8, 9, 2, 3, 4, 5, 6, 7] (by decide) rfl) hS (lv_sub hl [4, 2, 1, 0] rfl) ⟨by omega, by omega⟩ ⟨by omega, by omega⟩ ⟨by omega, by omega⟩ ⟨by omega, by omega⟩ ⟨by decide, by decide⟩ ⟨by omega, by omega⟩ ⟨by omega, by omega⟩ ⟨by omega, by omega⟩ (e_gk) (e_pk) (e_f) (by omega) (fun pc1 hd o_b o_w o_m o_y o_h o_v o_a o_k ls H locs hP hD hS i_b i_y i_h i_v => ?_)
          refine g5_rs [(a_k, (oc5 a_h a_j a_pt e_ln e_se e_lh o_b o_w o_m e_ce o_y o_h o_v)), (a_h, (oc1 e_wa e_le e_st e_fo e_lc a_l a_g a_b a_s a_p a_w e_gb a_bb)), (a_g, (oc6 6 5 a_gn e_g)), (a_gn, (arI G 30 f_g)), (a_p, (oc6 8 5 a_pn e_p)), (a_pn, (arI G 40 f_p)), (a_j, (oc2 a_as a_sk)), (a_as, (arI G 8 o_a)), (a_sk, (arJ G 50 o_k)), (a_l, (arW G 6 f_l))] hP hD (fun hP hD => ?_)
          have i_b : 0 ≤ o_b.toInt ∧ o_b.toInt ≤ 1000000 := i_b
          have i_y : 0 ≤ o_y.toInt ∧ o_y.toInt ≤ 3 := i_y
          have i_h : 0 ≤ o_h.toInt ∧ o_h.toInt ≤ 23 := i_h
          have i_v : 0 ≤ o_v.toInt ∧ o_v.toInt ≤ 1 := i_v
          exact W.vret hx hb hr (fun t ht hW => ⟨⟨[(a_k, (oc5 a_h a_j a_pt e_ln e_se e_lh o_b o_w o_m e_ce o_y o_h o_v)), (a_h, (oc1 e_wa e_le e_st e_fo e_lc a_l a_g a_b a_s a_p a_w e_gb a_bb)), (a_g, (oc6 6 5 a_gn e_g)), (a_gn, (arI G 30 f_g)), (a_p, (oc6 8 5 a_pn e_p)), (a_pn, (arI G 40 f_p)), (a_j, (oc2 a_as a_sk)), (a_as, (arI G 8 o_a)), (a_sk, (arJ G 50 o_k)), (a_l, (arW G 6 f_l))], rfl, ⟨o_b, o_w, o_m, o_y, o_h, o_v, o_a, o_k, ⟨by omega, by omega⟩, ⟨by omega, by omega⟩, ⟨by omega, by omega⟩, ⟨by omega, by omega⟩, rfl⟩, by rw [ht]; exact hP.sub [0, 1, 2, 3, 4, 5, 6, 7, 8, 9] rfl, hD.sub [0, 1, 2, 3, 4, 5, 6, 7, 8, 9] (by decide) rfl⟩, hS.F ht⟩) hS.2.2 hd
        ·
          have i_17 : z4.toInt = (-1) := by have z := g5_neN (a := z4.toInt) (b := (-1)) (by rfl) (by decide) c_17; omega
          omega
      ·
        have i_16 : z4.toInt = (-1) := by have z := g5_neN (a := z4.toInt) (b := (-1)) (by rfl) (by decide) c_16; omega
        omega
    ·
      have i_15 : z4.toInt = (-1) := by have z := g5_neN (a := z4.toInt) (b := (-1)) (by rfl) (by decide) c_15; omega
      omega
set_option maxHeartbeats 4000000 in
set_option maxRecDepth 100000 in
theorem k_mggL4 {p : Program} {l : Launch} {e : Env} {s : State} {m : MethodId} {args : Array Value} {below : List Frame} {meth : Method} {c : Code} {Q : State → Prop} {A : Nat → Prop} {H : Heap} {locs : List Loc} {ls : Array Slot} (G : g5_G) (a_k a_h a_g a_gn a_p a_pn a_j a_as a_sk a_l a_lo a_sr a_cd a_hd a_pt a_b a_s a_w a_bb n_sr n_cd n_hd : Nat) (e_ln : Int32) (e_se : Int32) (e_lh : Int32) (e_br : Int32) (e_we : Int32) (e_me : Int32) (e_ce : Int32) (e_wy : Int32) (e_ho : Int32) (e_ov : Int32) (e_le : Int32) (e_st : Int32) (e_fo : Int32) (e_lc : Int32) (e_wa : Int64) (e_gb : Int64) (e_g : Int32) (f_g : Nat → Int32) (e_p : Int32) (f_p : Nat → Int32) (f_as : Nat → Int32) (f_sk : Nat → Int64) (f_l : Nat → Option Nat) (e_cl : Int32) (f_sr : Nat → Int32) (f_cd : Nat → Int32) (f_hd : Nat → Int32) (k_r : Int32) (k_n : Int32) (k_s : Int32) (k_l : Int32) (k_d : Int32) (hx : p.tables.exec = Jvm.exec) (hb : c.code = cX5_meetGlass) (hml : c.maxLocals = 9) (hown : s.vm.findClass RX5 = some m.cls) (hts : ∀ w ∈ tblG, w.before args s = true) (hK : va_K G.1 vwCl (T5 G) s) (hN : g5_N s) (hT : g5_S A s s.heap) (hA : ∀ q : Nat, s.heap.size ≤ q → A q) (hP : va_P G.1 vwCl [(a_k, (oc5 a_h a_j a_pt e_ln e_se e_lh e_br e_we e_me e_ce e_wy e_ho e_ov)), (a_h, (oc1 e_wa e_le e_st e_fo e_lc a_l a_g a_b a_s a_p a_w e_gb a_bb)), (a_g, (oc6 6 5 a_gn e_g)), (a_gn, (arI G 30 f_g)), (a_p, (oc6 8 5 a_pn e_p)), (a_pn, (arI G 40 f_p)), (a_j, (oc2 a_as a_sk)), (a_as, (arI G 8 f_as)), (a_sk, (arJ G 50 f_sk)), (a_l, (arW G 6 f_l)), (a_lo, (oc3 e_cl a_hd a_sr a_cd)), (a_sr, (arI G n_sr f_sr)), (a_cd, (arI G n_cd f_cd)), (a_hd, (arI G n_hd f_hd))] H) (hD : va_D A [(a_k, (oc5 a_h a_j a_pt e_ln e_se e_lh e_br e_we e_me e_ce e_wy e_ho e_ov)), (a_h, (oc1 e_wa e_le e_st e_fo e_lc a_l a_g a_b a_s a_p a_w e_gb a_bb)), (a_g, (oc6 6 5 a_gn e_g)), (a_gn, (arI G 30 f_g)), (a_p, (oc6 8 5 a_pn e_p)), (a_pn, (arI G 40 f_p)), (a_j, (oc2 a_as a_sk)), (a_as, (arI G 8 f_as)), (a_sk, (arJ G 50 f_sk)), (a_l, (arW G 6 f_l)), (a_lo, (oc3 e_cl a_hd a_sr a_cd)), (a_sr, (arI G n_sr f_sr)), (a_cd, (arI G n_cd f_cd)), (a_hd, (arI G n_hd f_hd))]) (hS : va_S A s.heap H locs) (hl : lv_has ls 9 [(0, .ref a_k), (2, .ref a_g), (3, .int k_r), (4, .int k_n), (5, .int k_s), (7, .int k_l), (8, .int k_d)]) (h_e_br : 0 ≤ e_br.toInt ∧ e_br.toInt ≤ 1000000) (h_e_ce : 0 ≤ e_ce.toInt ∧ e_ce.toInt ≤ 63) (h_e_wy : 0 ≤ e_wy.toInt ∧ e_wy.toInt ≤ 3) (h_e_ho : 0 ≤ e_ho.toInt ∧ e_ho.toInt ≤ 23) (h_e_ov : 0 ≤ e_ov.toInt ∧ e_ov.toInt ≤ 1) (h_e_g : 0 ≤ e_g.toInt ∧ e_g.toInt ≤ 6) (h_e_p : 0 ≤ e_p.toInt ∧ e_p.toInt ≤ 8) (h_e_cl : 0 ≤ e_cl.toInt ∧ e_cl.toInt ≤ 12) (h_k_r : 0 ≤ k_r.toInt ∧ k_r.toInt ≤ 7) (h_k_s : 0 ≤ k_s.toInt ∧ k_s.toInt ≤ 5) (h_k_l : 0 ≤ k_l.toInt ∧ k_l.toInt ≤ 23) (h_k_d : 0 ≤ k_d.toInt ∧ k_d.toInt ≤ 10) (e_lt : k_l.toInt ≤ e_ho.toInt) (kk : ∀ (pc1 : Nat), decode cX5_meetGlass pc1 = .ok (.return_, 1) → ∀ (o_b : Int32) (o_w : Int32) (o_m : Int32) (o_y : Int32) (o_h : Int32) (o_v : Int32) (o_a : Nat → Int32) (o_k : Nat → Int64) (ls : Array Slot) (H : Heap) (locs : List Loc), va_P G.1 vwCl [(a_k, (oc5 a_h a_j a_pt e_ln e_se e_lh o_b o_w o_m e_ce o_y o_h o_v)), (a_h, (oc1 e_wa e_le e_st e_fo e_lc a_l a_g a_b a_s a_p a_w e_gb a_bb)), (a_g, (oc6 6 5 a_gn e_g)), (a_gn, (arI G 30 f_g)), (a_p, (oc6 8 5 a_pn e_p)), (a_pn, (arI G 40 f_p)), (a_j, (oc2 a_as a_sk)), (a_as, (arI G 8 o_a)), (a_sk, (arJ G 50 o_k)), (a_l, (arW G 6 f_l)), (a_lo, (oc3 e_cl a_hd a_sr a_cd)), (a_sr, (arI G n_sr f_sr)), (a_cd, (arI G n_cd f_cd)), (a_hd, (arI G n_hd f_hd))] H → va_D A [(a_k, (oc5 a_h a_j a_pt e_ln e_se e_lh o_b o_w o_m e_ce o_y o_h o_v)), (a_h, (oc1 e_wa e_le e_st e_fo e_lc a_l a_g a_b a_s a_p a_w e_gb a_bb)), (a_g, (oc6 6 5 a_gn e_g)), (a_gn, (arI G 30 f_g)), (a_p, (oc6 8 5 a_pn e_p)), (a_pn, (arI G 40 f_p)), (a_j, (oc2 a_as a_sk)), (a_as, (arI G 8 o_a)), (a_sk, (arJ G 50 o_k)), (a_l, (arW G 6 f_l)), (a_lo, (oc3 e_cl a_hd a_sr a_cd)), (a_sr, (arI G n_sr f_sr)), (a_cd, (arI G n_cd f_cd)), (a_hd, (arI G n_hd f_hd))] → va_S A s.heap H locs → (0 ≤ o_b.toInt ∧ o_b.toInt ≤ 1000000) → (0 ≤ o_y.toInt ∧ o_y.toInt ≤ 3) → (0 ≤ o_h.toInt ∧ o_h.toInt ≤ 23) → (0 ≤ o_v.toInt ∧ o_v.toInt ≤ 1) → W p l e ({ frames := 12, cells := 0, slots := 0, locals := 500 } : Room) s m args below meth c H locs 0 0 Q (F0 m pc1 ls [])) : W p l e ({ frames := 12, cells := 0, slots := 0, locals := 500 } : Room) s m args below meth c H locs 0 0 Q (F0 m 246 ls []) := by
  refine lv_aload_n hx hb dX5_meetGlass_246 rfl (lv_at hl 0 rfl) ?_
  refine lv_aload_n hx hb dX5_meetGlass_247 rfl (lv_at hl 0 rfl) ?_
  refine va_get (D := G.1) (ci := 5) (v := .int e_br) (C := RX5) (T := TX5) (N := 13) hx hb hts inG_X5 hown hK hP 0 rfl rfl 6 (by decide) (hts _ fl_X5_46) (fun _ h9 => h9) rfl dX5_meetGlass_248 ?_
  refine lv_bipush (v := 10) hx hb dX5_meetGlass_251 (by decide) ?_
  refine lv_iload hx hb dX5_meetGlass_253 (lv_at hl 6 rfl) ?_
  refine lv_isub hx hb dX5_meetGlass_255 ?_
  have t_1 : (10 - k_d).toInt = 10 - k_d.toInt := g5_isub (a := 10) (b := k_d.toInt) (by decide) (by rfl) (by omega) (by omega)
  refine lv_imul hx hb dX5_meetGlass_256 ?_
  refine lv_bipush (v := 10) hx hb dX5_meetGlass_257 (by decide) ?_
  refine lv_idiv hx hb dX5_meetGlass_259 (by decide) ?_
  have hb_2 : 0 ≤ ((e_br * (10 - k_d)) / 10).toInt ∧ ((e_br * (10 - k_d)) / 10).toInt ≤ 1000000 := g_dust (by omega) (by omega)
  refine va_put (D := G.1) (ci := 5) (v := .int ((e_br * (10 - k_d)) / 10)) (ty := .int) (C := RX5) (T := TX5) (N := 13) hx hb hts inG_X5 tyX5 tyX5_ok nmX5 hown hK hP hD hS 0 rfl rfl 6 (by decide) (hts _ fl_X5_46) (fun _ h9 => h9) rfl (by decide +kernel) rfl rfl (Nat.le_of_ble_eq_true rfl) dX5_meetGlass_260 (fun H locs hP hD hS => ?_)
  refine g5_rs [(a_k, (oc5 a_h a_j a_pt e_ln e_se e_lh ((e_br * (10 - k_d)) / 10) e_we e_me e_ce e_wy e_ho e_ov)), (a_h, (oc1 e_wa e_le e_st e_fo e_lc a_l a_g a_b a_s a_p a_w e_gb a_bb)), (a_g, (oc6 6 5 a_gn e_g)), (a_gn, (arI G 30 f_g)), (a_p, (oc6 8 5 a_pn e_p)), (a_pn, (arI G 40 f_p)), (a_j, (oc2 a_as a_sk)), (a_as, (arI G 8 f_as)), (a_sk, (arJ G 50 f_sk)), (a_l, (arW G 6 f_l)), (a_lo, (oc3 e_cl a_hd a_sr a_cd)), (a_sr, (arI G n_sr f_sr)), (a_cd, (arI G n_cd f_cd)), (a_hd, (arI G n_hd f_hd))] hP hD (fun hP hD => ?_)
  refine lv_aload_n hx hb dX5_meetGlass_263 rfl (lv_at hl 0 rfl) ?_
  refine va_get (D := G.1) (ci := 5) (v := .int ((e_br * (10 - k_d)) / 10)) (C := RX5) (T := TX5) (N := 13) hx hb hts inG_X5 hown hK hP 0 rfl rfl 6 (by decide) (hts _ fl_X5_46) (fun _ h9 => h9) rfl dX5_meetGlass_264 ?_
  refine lv_aload_n hx hb dX5_meetGlass_267 rfl (lv_at hl 0 rfl) ?_
  refine va_get (D := G.1) (ci := 5) (v := .ref a_h) (C := RX5) (T := TX5) (N := 13) hx hb hts inG_X5 hown hK hP 0 rfl rfl 0 (by decide) (hts _ fl_X5_22) (fun _ h9 => h9) rfl dX5_meetGlass_268 ?_
  refine va_get (D := G.1) (ci := 1) (v := .int e_le) (C := RX1) (T := TX1) (N := 13) hx hb hts inG_X1 hown hK hP 1 rfl rfl 1 (by decide) (hts _ fl_X5_138) (fun _ h9 => h9) rfl dX5_meetGlass_271 ?_
  refine lv_icmp_ge (tgt := 278) hx hb dX5_meetGlass_274 (by decide) (fun c_3 => ?_) (fun c_3 => ?_)
  ·
    have i_3 : ((e_br * (10 - k_d)) / 10).toInt ≥ e_le.toInt := by have z := g5_ge (a := ((e_br * (10 - k_d)) / 10).toInt) (b := e_le.toInt) (by rfl) (by rfl) c_3; omega
    refine lv_aload_n hx hb dX5_meetGlass_278 rfl (lv_at hl 0 rfl) ?_
    refine lv_dup hx hb dX5_meetGlass_279 rfl ?_
    refine va_get (D := G.1) (ci := 5) (v := .int e_ho) (C := RX5) (T := TX5) (N := 13) hx hb hts inG_X5 hown hK hP 0 rfl rfl 11 (by decide) (hts _ fl_X5_33) (fun _ h9 => h9) rfl dX5_meetGlass_280 ?_
    refine lv_iload hx hb dX5_meetGlass_283 (lv_at hl 5 rfl) ?_
    refine lv_isub hx hb dX5_meetGlass_285 ?_
    have t_4 : (e_ho - k_l).toInt = e_ho.toInt - k_l.toInt := g5_isub (a := e_ho.toInt) (b := k_l.toInt) (by rfl) (by rfl) (by omega) (by omega)
    refine va_put (D := G.1) (ci := 5) (v := .int (e_ho - k_l)) (ty := .int) (C := RX5) (T := TX5) (N := 13) hx hb hts inG_X5 tyX5 tyX5_ok nmX5 hown hK hP hD hS 0 rfl rfl 11 (by decide) (hts _ fl_X5_33) (fun _ h9 => h9) rfl (by decide +kernel) rfl rfl (Nat.le_of_ble_eq_true rfl) dX5_meetGlass_286 (fun H locs hP hD hS => ?_)
    refine g5_rs [(a_k, (oc5 a_h a_j a_pt e_ln e_se e_lh ((e_br * (10 - k_d)) / 10) e_we e_me e_ce e_wy (e_ho - k_l) e_ov)), (a_h, (oc1 e_wa e_le e_st e_fo e_lc a_l a_g a_b a_s a_p a_w e_gb a_bb)), (a_g, (oc6 6 5 a_gn e_g)), (a_gn, (arI G 30 f_g)), (a_p, (oc6 8 5 a_pn e_p)), (a_pn, (arI G 40 f_p)), (a_j, (oc2 a_as a_sk)), (a_as, (arI G 8 f_as)), (a_sk, (arJ G 50 f_sk)), (a_l, (arW G 6 f_l)), (a_lo, (oc3 e_cl a_hd a_sr a_cd)), (a_sr, (arI G n_sr f_sr)), (a_cd, (arI G n_cd f_cd)), (a_hd, (arI G n_hd f_hd))] hP hD (fun hP hD => ?_)
    refine lv_aload_n hx hb dX5_meetGlass_289 rfl (lv_at hl 0 rfl) ?_
    refine lv_iload hx hb dX5_meetGlass_290 (lv_at hl 4 rfl) ?_
    refine lv_if_ne (tgt := 304) hx hb dX5_meetGlass_292 (by decide) (fun c_5 => ?_) (fun c_5 => ?_)
    ·
      have n_5 : gNe (k_s.toInt) (0) := by have z := g5_ne (a := k_s.toInt) (b := 0) (by rfl) (by decide) c_5; unfold gNe; omega
      have i_5 : k_s.toInt ≥ 1 := by have z := g5_ne (a := k_s.toInt) (b := 0) (by rfl) (by decide) c_5; omega
      refine lv_iload hx hb dX5_meetGlass_304 (lv_at hl 4 rfl) ?_
      refine lv_iconst (v := 1) hx hb dX5_meetGlass_306 (by decide) ?_
      refine lv_icmp_ne (tgt := 319) hx hb dX5_meetGlass_307 (by decide) (fun c_6 => ?_) (fun c_6 => ?_)
      ·
        have n_6 : gNe (k_s.toInt) (1) := by have z := g5_ne (a := k_s.toInt) (b := 1) (by rfl) (by decide) c_6; unfold gNe; omega
        have i_6 : k_s.toInt ≥ 2 := by have z := g5_ne (a := k_s.toInt) (b := 1) (by rfl) (by decide) c_6; omega
        refine lv_aload_n hx hb dX5_meetGlass_319 rfl (lv_at hl 0 rfl) ?_
        refine va_get (D := G.1) (ci := 5) (v := .int e_wy) (C := RX5) (T := TX5) (N := 13) hx hb hts inG_X5 hown hK hP 0 rfl rfl 10 (by decide) (hts _ fl_X5_30) (fun _ h9 => h9) rfl dX5_meetGlass_320 ?_
        refine lv_iconst (v := 2) hx hb dX5_meetGlass_323 (by decide) ?_
        refine lv_ixor hx hb dX5_meetGlass_324 ?_
        have hx_7 := (g_xor (w := e_wy) (by omega) (by omega)).2
        refine va_put (D := G.1) (ci := 5) (v := .int (e_wy ^^^ 2)) (ty := .int) (C := RX5) (T := TX5) (N := 13) hx hb hts inG_X5 tyX5 tyX5_ok nmX5 hown hK hP hD hS 0 rfl rfl 10 (by decide) (hts _ fl_X5_30) (fun _ h9 => h9) rfl (by decide +kernel) rfl rfl (Nat.le_of_ble_eq_true rfl) dX5_meetGlass_325 (fun H locs hP hD hS => ?_)
        refine g5_rs [(a_k, (oc5 a_h a_j a_pt e_ln e_se e_lh ((e_br * (10 - k_d)) / 10) e_we e_me e_ce (e_wy ^^^ 2) (e_ho - k_l) e_ov)), (a_h, (oc1 e_wa e_le e_st e_fo e_lc a_l a_g a_b a_s a_p a_w e_gb a_bb)), (a_g, (oc6 6 5 a_gn e_g)), (a_gn, (arI G 30 f_g)), (a_p, (oc6 8 5 a_pn e_p)), (a_pn, (arI G 40 f_p)), (a_j, (oc2 a_as a_sk)), (a_as, (arI G 8 f_as)), (a_sk, (arJ G 50 f_sk)), (a_l, (arW G 6 f_l)), (a_lo, (oc3 e_cl a_hd a_sr a_cd)), (a_sr, (arI G n_sr f_sr)), (a_cd, (arI G n_cd f_cd)), (a_hd, (arI G n_hd f_hd))] hP hD (fun hP hD => ?_)
        refine lv_aload_n hx hb dX5_meetGlass_328 rfl (lv_at hl 0 rfl) ?_
        refine lv_dup hx hb dX5_meetGlass_329 rfl ?_
        refine va_get (D := G.1) (ci := 5) (v := .int e_we) (C := RX5) (T := TX5) (N := 13) hx hb hts inG_X5 hown hK hP 0 rfl rfl 7 (by decide) (hts _ fl_X5_49) (fun _ h9 => h9) rfl dX5_meetGlass_330 ?_
        refine lv_iconst (v := 1) hx hb dX5_meetGlass_333 (by decide) ?_
        refine lv_iload hx hb dX5_meetGlass_334 (lv_at hl 3 rfl) ?_
        refine lv_ishl hx hb dX5_meetGlass_336 ?_
        refine lv_ior hx hb dX5_meetGlass_337 ?_
        refine va_put (D := G.1) (ci := 5) (v := .int (e_we ||| (1 <<< (k_n &&& 31)))) (ty := .int) (C := RX5) (T := TX5) (N := 13) hx hb hts inG_X5 tyX5 tyX5_ok nmX5 hown hK hP hD hS 0 rfl rfl 7 (by decide) (hts _ fl_X5_49) (fun _ h9 => h9) rfl (by decide +kernel) rfl rfl (Nat.le_of_ble_eq_true rfl) dX5_meetGlass_338 (fun H locs hP hD hS => ?_)
        refine g5_rs [(a_k, (oc5 a_h a_j a_pt e_ln e_se e_lh ((e_br * (10 - k_d)) / 10) (e_we ||| (1 <<< (k_n &&& 31))) e_me e_ce (e_wy ^^^ 2) (e_ho - k_l) e_ov)), (a_h, (oc1 e_wa e_le e_st e_fo e_lc a_l a_g a_b a_s a_p a_w e_gb a_bb)), (a_g, (oc6 6 5 a_gn e_g)), (a_gn, (arI G 30 f_g)), (a_p, (oc6 8 5 a_pn e_p)), (a_pn, (arI G 40 f_p)), (a_j, (oc2 a_as a_sk)), (a_as, (arI G 8 f_as)), (a_sk, (arJ G 50 f_sk)), (a_l, (arW G 6 f_l)), (a_lo, (oc3 e_cl a_hd a_sr a_cd)), (a_sr, (arI G n_sr f_sr)), (a_cd, (arI G n_cd f_cd)), (a_hd, (arI G n_hd f_hd))] hP hD (fun hP hD => ?_)
        refine lv_aload_n hx hb dX5_meetGlass_341 rfl (lv_at hl 0 rfl) ?_
        refine lv_iconst (v := 0) hx hb dX5_meetGlass_342 (by decide) ?_
        refine va_put (D := G.1) (ci := 5) (v := .int 0) (ty := .boolean) (C := RX5) (T := TX5) (N := 13) hx hb hts inG_X5 tyX5 tyX5_ok nmX5 hown hK hP hD hS 0 rfl rfl 12 (by decide) (hts _ fl_X5_56) (fun _ h9 => h9) rfl (by decide +kernel) rfl rfl (Nat.le_of_ble_eq_true rfl) dX5_meetGlass_343 (fun H locs hP hD hS => ?_)
        refine g5_rs [(a_k, (oc5 a_h a_j a_pt e_ln e_se e_lh ((e_br * (10 - k_d)) / 10) (e_we ||| (1 <<< (k_n &&& 31))) e_me e_ce (e_wy ^^^ 2) (e_ho - k_l) 0)), (a_h, (oc1 e_wa e_le e_st e_fo e_lc a_l a_g a_b a_s a_p a_w e_gb a_bb)), (a_g, (oc6 6 5 a_gn e_g)), (a_gn, (arI G 30 f_g)), (a_p, (oc6 8 5 a_pn e_p)), (a_pn, (arI G 40 f_p)), (a_j, (oc2 a_as a_sk)), (a_as, (arI G 8 f_as)), (a_sk, (arJ G 50 f_sk)), (a_l, (arW G 6 f_l)), (a_lo, (oc3 e_cl a_hd a_sr a_cd)), (a_sr, (arI G n_sr f_sr)), (a_cd, (arI G n_cd f_cd)), (a_hd, (arI G n_hd f_hd))] hP hD (fun hP hD => ?_)
        exact kk 346 dX5_meetGlass_346 ((e_br * (10 - k_d)) / 10) (e_we ||| (1 <<< (k_n &&& 31))) e_me (e_wy ^^^ 2) (e_ho - k_l) 0 f_as f_sk ls H locs (hP.sub [0, 1, 2, 3, 4, 5, 6, 7, 8, 9, 10, 11, 12, 13] rfl) (hD.sub [0, 1, 2, 3, 4, 5, 6, 7, 8, 9, 10, 11, 12, 13] (by decide) rfl) hS (⟨by omega, by omega⟩) (⟨by omega, by omega⟩) (⟨by omega, by omega⟩) (⟨by have zc_o_v : (0 : Int32).toInt = 0 := (by decide); omega, by have zc_o_v : (0 : Int32).toInt = 0 := (by decide); omega⟩)
      ·
        have i_6 : k_s.toInt = 1 := by have z := g5_neN (a := k_s.toInt) (b := 1) (by rfl) (by decide) c_6; omega
        refine lv_iconst (v := 3) hx hb dX5_meetGlass_310 (by decide) ?_
        refine lv_aload_n hx hb dX5_meetGlass_311 rfl (lv_at hl 0 rfl) ?_
        refine va_get (D := G.1) (ci := 5) (v := .int e_wy) (C := RX5) (T := TX5) (N := 13) hx hb hts inG_X5 hown hK hP 0 rfl rfl 10 (by decide) (hts _ fl_X5_30) (fun _ h9 => h9) rfl dX5_meetGlass_312 ?_
        refine lv_isub hx hb dX5_meetGlass_315 ?_
        have t_8 : (3 - e_wy).toInt = 3 - e_wy.toInt := g5_isub (a := 3) (b := e_wy.toInt) (by decide) (by rfl) (by omega) (by omega)
        refine lv_goto (tgt := 325) hx hb dX5_meetGlass_316 (by decide) ?_
        refine va_put (D := G.1) (ci := 5) (v := .int (3 - e_wy)) (ty := .int) (C := RX5) (T := TX5) (N := 13) hx hb hts inG_X5 tyX5 tyX5_ok nmX5 hown hK hP hD hS 0 rfl rfl 10 (by decide) (hts _ fl_X5_30) (fun _ h9 => h9) rfl (by decide +kernel) rfl rfl (Nat.le_of_ble_eq_true rfl) dX5_meetGlass_325 (fun H locs hP hD hS => ?_)
        refine g5_rs [(a_k, (oc5 a_h a_j a_pt e_ln e_se e_lh ((e_br * (10 - k_d)) / 10) e_we e_me e_ce (3 - e_wy) (e_ho - k_l) e_ov)), (a_h, (oc1 e_wa e_le e_st e_fo e_lc a_l a_g a_b a_s a_p a_w e_gb a_bb)), (a_g, (oc6 6 5 a_gn e_g)), (a_gn, (arI G 30 f_g)), (a_p, (oc6 8 5 a_pn e_p)), (a_pn, (arI G 40 f_p)), (a_j, (oc2 a_as a_sk)), (a_as, (arI G 8 f_as)), (a_sk, (arJ G 50 f_sk)), (a_l, (arW G 6 f_l)), (a_lo, (oc3 e_cl a_hd a_sr a_cd)), (a_sr, (arI G n_sr f_sr)), (a_cd, (arI G n_cd f_cd)), (a_hd, (arI G n_hd f_hd))] hP hD (fun hP hD => ?_)
        refine lv_aload_n hx hb dX5_meetGlass_328 rfl (lv_at hl 0 rfl) ?_
        refine lv_dup hx hb dX5_meetGlass_329 rfl ?_
        refine va_get (D := G.1) (ci := 5) (v := .int e_we) (C := RX5) (T := TX5) (N := 13) hx hb hts inG_X5 hown hK hP 0 rfl rfl 7 (by decide) (hts _ fl_X5_49) (fun _ h9 => h9) rfl dX5_meetGlass_330 ?_
        refine lv_iconst (v := 1) hx hb dX5_meetGlass_333 (by decide) ?_
        refine lv_iload hx hb dX5_meetGlass_334 (lv_at hl 3 rfl) ?_
        refine lv_ishl hx hb dX5_meetGlass_336 ?_
        refine lv_ior hx hb dX5_meetGlass_337 ?_
        refine va_put (D := G.1) (ci := 5) (v := .int (e_we ||| (1 <<< (k_n &&& 31)))) (ty := .int) (C := RX5) (T := TX5) (N := 13) hx hb hts inG_X5 tyX5 tyX5_ok nmX5 hown hK hP hD hS 0 rfl rfl 7 (by decide) (hts _ fl_X5_49) (fun _ h9 => h9) rfl (by decide +kernel) rfl rfl (Nat.le_of_ble_eq_true rfl) dX5_meetGlass_338 (fun H locs hP hD hS => ?_)
        refine g5_rs [(a_k, (oc5 a_h a_j a_pt e_ln e_se e_lh ((e_br * (10 - k_d)) / 10) (e_we ||| (1 <<< (k_n &&& 31))) e_me e_ce (3 - e_wy) (e_ho - k_l) e_ov)), (a_h, (oc1 e_wa e_le e_st e_fo e_lc a_l a_g a_b a_s a_p a_w e_gb a_bb)), (a_g, (oc6 6 5 a_gn e_g)), (a_gn, (arI G 30 f_g)), (a_p, (oc6 8 5 a_pn e_p)), (a_pn, (arI G 40 f_p)), (a_j, (oc2 a_as a_sk)), (a_as, (arI G 8 f_as)), (a_sk, (arJ G 50 f_sk)), (a_l, (arW G 6 f_l)), (a_lo, (oc3 e_cl a_hd a_sr a_cd)), (a_sr, (arI G n_sr f_sr)), (a_cd, (arI G n_cd f_cd)), (a_hd, (arI G n_hd f_hd))] hP hD (fun hP hD => ?_)
        refine lv_aload_n hx hb dX5_meetGlass_341 rfl (lv_at hl 0 rfl) ?_
        refine lv_iconst (v := 0) hx hb dX5_meetGlass_342 (by decide) ?_
        refine va_put (D := G.1) (ci := 5) (v := .int 0) (ty := .boolean) (C := RX5) (T := TX5) (N := 13) hx hb hts inG_X5 tyX5 tyX5_ok nmX5 hown hK hP hD hS 0 rfl rfl 12 (by decide) (hts _ fl_X5_56) (fun _ h9 => h9) rfl (by decide +kernel) rfl rfl (Nat.le_of_ble_eq_true rfl) dX5_meetGlass_343 (fun H locs hP hD hS => ?_)
        refine g5_rs [(a_k, (oc5 a_h a_j a_pt e_ln e_se e_lh ((e_br * (10 - k_d)) / 10) (e_we ||| (1 <<< (k_n &&& 31))) e_me e_ce (3 - e_wy) (e_ho - k_l) 0)), (a_h, (oc1 e_wa e_le e_st e_fo e_lc a_l a_g a_b a_s a_p a_w e_gb a_bb)), (a_g, (oc6 6 5 a_gn e_g)), (a_gn, (arI G 30 f_g)), (a_p, (oc6 8 5 a_pn e_p)), (a_pn, (arI G 40 f_p)), (a_j, (oc2 a_as a_sk)), (a_as, (arI G 8 f_as)), (a_sk, (arJ G 50 f_sk)), (a_l, (arW G 6 f_l)), (a_lo, (oc3 e_cl a_hd a_sr a_cd)), (a_sr, (arI G n_sr f_sr)), (a_cd, (arI G n_cd f_cd)), (a_hd, (arI G n_hd f_hd))] hP hD (fun hP hD => ?_)
        exact kk 346 dX5_meetGlass_346 ((e_br * (10 - k_d)) / 10) (e_we ||| (1 <<< (k_n &&& 31))) e_me (3 - e_wy) (e_ho - k_l) 0 f_as f_sk ls H locs (hP.sub [0, 1, 2, 3, 4, 5, 6, 7, 8, 9, 10, 11, 12, 13] rfl) (hD.sub [0, 1, 2, 3, 4, 5, 6, 7, 8, 9, 10, 11, 12, 13] (by decide) rfl) hS (⟨by omega, by omega⟩) (⟨by omega, by omega⟩) (⟨by omega, by omega⟩) (⟨by have zc_o_v : (0 : Int32).toInt = 0 := (by decide); omega, by have zc_o_v : (0 : Int32).toInt = 0 := (by decide); omega⟩)
    ·
      have i_5 : k_s.toInt = 0 := by have z := g5_neN (a := k_s.toInt) (b := 0) (by rfl) (by decide) c_5; omega
      refine lv_aload_n hx hb dX5_meetGlass_295 rfl (lv_at hl 0 rfl) ?_
      refine va_get (D := G.1) (ci := 5) (v := .int e_wy) (C := RX5) (T := TX5) (N := 13) hx hb hts inG_X5 hown hK hP 0 rfl rfl 10 (by decide) (hts _ fl_X5_30) (fun _ h9 => h9) rfl dX5_meetGlass_296 ?_
      refine lv_iconst (v := 1) hx hb dX5_meetGlass_299 (by decide) ?_
      refine lv_ixor hx hb dX5_meetGlass_300 ?_
      have hx_9 := (g_xor (w := e_wy) (by omega) (by omega)).1
      refine lv_goto (tgt := 325) hx hb dX5_meetGlass_301 (by decide) ?_
      refine va_put (D := G.1) (ci := 5) (v := .int (e_wy ^^^ 1)) (ty := .int) (C := RX5) (T := TX5) (N := 13) hx hb hts inG_X5 tyX5 tyX5_ok nmX5 hown hK hP hD hS 0 rfl rfl 10 (by decide) (hts _ fl_X5_30) (fun _ h9 => h9) rfl (by decide +kernel) rfl rfl (Nat.le_of_ble_eq_true rfl) dX5_meetGlass_325 (fun H locs hP hD hS => ?_)
      refine g5_rs [(a_k, (oc5 a_h a_j a_pt e_ln e_se e_lh ((e_br * (10 - k_d)) / 10) e_we e_me e_ce (e_wy ^^^ 1) (e_ho - k_l) e_ov)), (a_h, (oc1 e_wa e_le e_st e_fo e_lc a_l a_g a_b a_s a_p a_w e_gb a_bb)), (a_g, (oc6 6 5 a_gn e_g)), (a_gn, (arI G 30 f_g)), (a_p, (oc6 8 5 a_pn e_p)), (a_pn, (arI G 40 f_p)), (a_j, (oc2 a_as a_sk)), (a_as, (arI G 8 f_as)), (a_sk, (arJ G 50 f_sk)), (a_l, (arW G 6 f_l)), (a_lo, (oc3 e_cl a_hd a_sr a_cd)), (a_sr, (arI G n_sr f_sr)), (a_cd, (arI G n_cd f_cd)), (a_hd, (arI G n_hd f_hd))] hP hD (fun hP hD => ?_)
      refine lv_aload_n hx hb dX5_meetGlass_328 rfl (lv_at hl 0 rfl) ?_
      refine lv_dup hx hb dX5_meetGlass_329 rfl ?_
      refine va_get (D := G.1) (ci := 5) (v := .int e_we) (C := RX5) (T := TX5) (N := 13) hx hb hts inG_X5 hown hK hP 0 rfl rfl 7 (by decide) (hts _ fl_X5_49) (fun _ h9 => h9) rfl dX5_meetGlass_330 ?_
      refine lv_iconst (v := 1) hx hb dX5_meetGlass_333 (by decide) ?_
      refine lv_iload hx hb dX5_meetGlass_334 (lv_at hl 3 rfl) ?_
      refine lv_ishl hx hb dX5_meetGlass_336 ?_
      refine lv_ior hx hb dX5_meetGlass_337 ?_
      refine va_put (D := G.1) (ci := 5) (v := .int (e_we ||| (1 <<< (k_n &&& 31)))) (ty := .int) (C := RX5) (T := TX5) (N := 13) hx hb hts inG_X5 tyX5 tyX5_ok nmX5 hown hK hP hD hS 0 rfl rfl 7 (by decide) (hts _ fl_X5_49) (fun _ h9 => h9) rfl (by decide +kernel) rfl rfl (Nat.le_of_ble_eq_true rfl) dX5_meetGlass_338 (fun H locs hP hD hS => ?_)
      refine g5_rs [(a_k, (oc5 a_h a_j a_pt e_ln e_se e_lh ((e_br * (10 - k_d)) / 10) (e_we ||| (1 <<< (k_n &&& 31))) e_me e_ce (e_wy ^^^ 1) (e_ho - k_l) e_ov)), (a_h, (oc1 e_wa e_le e_st e_fo e_lc a_l a_g a_b a_s a_p a_w e_gb a_bb)), (a_g, (oc6 6 5 a_gn e_g)), (a_gn, (arI G 30 f_g)), (a_p, (oc6 8 5 a_pn e_p)), (a_pn, (arI G 40 f_p)), (a_j, (oc2 a_as a_sk)), (a_as, (arI G 8 f_as)), (a_sk, (arJ G 50 f_sk)), (a_l, (arW G 6 f_l)), (a_lo, (oc3 e_cl a_hd a_sr a_cd)), (a_sr, (arI G n_sr f_sr)), (a_cd, (arI G n_cd f_cd)), (a_hd, (arI G n_hd f_hd))] hP hD (fun hP hD => ?_)
      refine lv_aload_n hx hb dX5_meetGlass_341 rfl (lv_at hl 0 rfl) ?_
      refine lv_iconst (v := 0) hx hb dX5_meetGlass_342 (by decide) ?_
      refine va_put (D := G.1) (ci := 5) (v := .int 0) (ty := .boolean) (C := RX5) (T := TX5) (N := 13) hx hb hts inG_X5 tyX5 tyX5_ok nmX5 hown hK hP hD hS 0 rfl rfl 12 (by decide) (hts _ fl_X5_56) (fun _ h9 => h9) rfl (by decide +kernel) rfl rfl (Nat.le_of_ble_eq_true rfl) dX5_meetGlass_343 (fun H locs hP hD hS => ?_)
      refine g5_rs [(a_k, (oc5 a_h a_j a_pt e_ln e_se e_lh ((e_br * (10 - k_d)) / 10) (e_we ||| (1 <<< (k_n &&& 31))) e_me e_ce (e_wy ^^^ 1) (e_ho - k_l) 0)), (a_h, (oc1 e_wa e_le e_st e_fo e_lc a_l a_g a_b a_s a_p a_w e_gb a_bb)), (a_g, (oc6 6 5 a_gn e_g)), (a_gn, (arI G 30 f_g)), (a_p, (oc6 8 5 a_pn e_p)), (a_pn, (arI G 40 f_p)), (a_j, (oc2 a_as a_sk)), (a_as, (arI G 8 f_as)), (a_sk, (arJ G 50 f_sk)), (a_l, (arW G 6 f_l)), (a_lo, (oc3 e_cl a_hd a_sr a_cd)), (a_sr, (arI G n_sr f_sr)), (a_cd, (arI G n_cd f_cd)), (a_hd, (arI G n_hd f_hd))] hP hD (fun hP hD => ?_)
      exact kk 346 dX5_meetGlass_346 ((e_br * (10 - k_d)) / 10) (e_we ||| (1 <<< (k_n &&& 31))) e_me (e_wy ^^^ 1) (e_ho - k_l) 0 f_as f_sk ls H locs (hP.sub [0, 1, 2, 3, 4, 5, 6, 7, 8, 9, 10, 11, 12, 13] rfl) (hD.sub [0, 1, 2, 3, 4, 5, 6, 7, 8, 9, 10, 11, 12, 13] (by decide) rfl) hS (⟨by omega, by omega⟩) (⟨by omega, by omega⟩) (⟨by omega, by omega⟩) (⟨by have zc_o_v : (0 : Int32).toInt = 0 := (by decide); omega, by have zc_o_v : (0 : Int32).toInt = 0 := (by decide); omega⟩)
  ·
    have i_3 : ((e_br * (10 - k_d)) / 10).toInt < e_le.toInt := by have z := g5_geN (a := ((e_br * (10 - k_d)) / 10).toInt) (b := e_le.toInt) (by rfl) (by rfl) c_3; omega
    exact kk 277 dX5_meetGlass_277 ((e_br * (10 - k_d)) / 10) e_we e_me e_wy e_ho e_ov f_as f_sk ls H locs (hP.sub [0, 1, 2, 3, 4, 5, 6, 7, 8, 9, 10, 11, 12, 13] rfl) (hD.sub [0, 1, 2, 3, 4, 5, 6, 7, 8, 9, 10, 11, 12, 13] (by decide) rfl) hS (⟨by omega, by omega⟩) (⟨by omega, by omega⟩) (⟨by omega, by omega⟩) (⟨by omega, by omega⟩)
theorem ml_X5_134 : Cond.methodLink RX5 134 yX2_toldUpTo ∈ tblG := tg 860 (by decide +kernel) (by decide +kernel)
theorem im_X2_toldUpTo : Cond.instanceMethod yX2_toldUpTo ∈ tblG := tg 861 (by decide +kernel) (by decide +kernel)
theorem se_X2_toldUpTo : Cond.selects RX2 yX2_toldUpTo yX2_toldUpTo ∈ tblG := tg 862 (by decide +kernel) (by decide +kernel)
theorem cd_X2_toldUpTo : Cond.code yX2_toldUpTo cX2_toldUpTo 2 (some .int) ∈ tblG := tg 863 (by decide +kernel) (by decide +kernel)
theorem gW_X2_toldUpTo : GoodIn tblG (wsG yX2_toldUpTo cX2_toldUpTo 2 (some .int)) := tgi cd_X2_toldUpTo
theorem gV_X5_134 : GoodIn tblG (wsV RX5 134 RX2 yX2_toldUpTo (wsG yX2_toldUpTo cX2_toldUpTo 2 (some .int))) := tgV ml_X5_134 im_X2_toldUpTo se_X2_toldUpTo ini_X2 gW_X2_toldUpTo
theorem hv_X2_toldUpTo : yX2_toldUpTo.cls = RX2 ∧ yX2_toldUpTo.cls ≠ "java/lang/invoke/MethodHandle" ∧ yX2_toldUpTo.cls ≠ "java/lang/invoke/VarHandle" ∧ (parseMethodDescriptor yX2_toldUpTo.desc).map (fun d => d.parameters.length) = some 1 := by decide +kernel
set_option maxHeartbeats 4000000 in
set_option maxRecDepth 100000 in
theorem k_mggL3 {p : Program} {l : Launch} {e : Env} {s : State} {m : MethodId} {args : Array Value} {below : List Frame} {meth : Method} {c : Code} {Q : State → Prop} {A : Nat → Prop} {H : Heap} {locs : List Loc} {ls : Array Slot} (G : g5_G) (a_k a_h a_g a_gn a_p a_pn a_j a_as a_sk a_l a_lo a_sr a_cd a_hd a_pt a_b a_s a_w a_bb n_sr n_cd n_hd : Nat) (e_ln : Int32) (e_se : Int32) (e_lh : Int32) (e_br : Int32) (e_we : Int32) (e_me : Int32) (e_ce : Int32) (e_wy : Int32) (e_ho : Int32) (e_ov : Int32) (e_le : Int32) (e_st : Int32) (e_fo : Int32) (e_lc : Int32) (e_wa : Int64) (e_gb : Int64) (e_g : Int32) (f_g : Nat → Int32) (e_p : Int32) (f_p : Nat → Int32) (f_as : Nat → Int32) (f_sk : Nat → Int64) (f_l : Nat → Option Nat) (e_cl : Int32) (f_sr : Nat → Int32) (f_cd : Nat → Int32) (f_hd : Nat → Int32) (k_r : Int32) (k_n : Int32) (k_s : Int32) (k_l : Int32) (hx : p.tables.exec = Jvm.exec) (hb : c.code = cX5_meetGlass) (hml : c.maxLocals = 9) (hown : s.vm.findClass RX5 = some m.cls) (hts : ∀ w ∈ tblG, w.before args s = true) (hK : va_K G.1 vwCl (T5 G) s) (hN : g5_N s) (hT : g5_S A s s.heap) (hA : ∀ q : Nat, s.heap.size ≤ q → A q) (hP : va_P G.1 vwCl [(a_k, (oc5 a_h a_j a_pt e_ln e_se e_lh e_br e_we e_me e_ce e_wy e_ho e_ov)), (a_h, (oc1 e_wa e_le e_st e_fo e_lc a_l a_g a_b a_s a_p a_w e_gb a_bb)), (a_g, (oc6 6 5 a_gn e_g)), (a_gn, (arI G 30 f_g)), (a_p, (oc6 8 5 a_pn e_p)), (a_pn, (arI G 40 f_p)), (a_j, (oc2 a_as a_sk)), (a_as, (arI G 8 f_as)), (a_sk, (arJ G 50 f_sk)), (a_l, (arW G 6 f_l)), (a_lo, (oc3 e_cl a_hd a_sr a_cd)), (a_sr, (arI G n_sr f_sr)), (a_cd, (arI G n_cd f_cd)), (a_hd, (arI G n_hd f_hd))] H) (hD : va_D A [(a_k, (oc5 a_h a_j a_pt e_ln e_se e_lh e_br e_we e_me e_ce e_wy e_ho e_ov)), (a_h, (oc1 e_wa e_le e_st e_fo e_lc a_l a_g a_b a_s a_p a_w e_gb a_bb)), (a_g, (oc6 6 5 a_gn e_g)), (a_gn, (arI G 30 f_g)), (a_p, (oc6 8 5 a_pn e_p)), (a_pn, (arI G 40 f_p)), (a_j, (oc2 a_as a_sk)), (a_as, (arI G 8 f_as)), (a_sk, (arJ G 50 f_sk)), (a_l, (arW G 6 f_l)), (a_lo, (oc3 e_cl a_hd a_sr a_cd)), (a_sr, (arI G n_sr f_sr)), (a_cd, (arI G n_cd f_cd)), (a_hd, (arI G n_hd f_hd))]) (hS : va_S A s.heap H locs) (hl : lv_has ls 9 [(0, .ref a_k), (2, .ref a_g), (3, .int k_r), (4, .int k_n), (5, .int k_s), (6, .ref a_lo), (7, .int k_l)]) (h_e_br : 0 ≤ e_br.toInt ∧ e_br.toInt ≤ 1000000) (h_e_ce : 0 ≤ e_ce.toInt ∧ e_ce.toInt ≤ 63) (h_e_wy : 0 ≤ e_wy.toInt ∧ e_wy.toInt ≤ 3) (h_e_ho : 0 ≤ e_ho.toInt ∧ e_ho.toInt ≤ 23) (h_e_ov : 0 ≤ e_ov.toInt ∧ e_ov.toInt ≤ 1) (h_e_g : 0 ≤ e_g.toInt ∧ e_g.toInt ≤ 6) (h_e_p : 0 ≤ e_p.toInt ∧ e_p.toInt ≤ 8) (h_e_cl : 0 ≤ e_cl.toInt ∧ e_cl.toInt ≤ 12) (h_k_r : 0 ≤ k_r.toInt ∧ k_r.toInt ≤ 7) (h_k_s : 0 ≤ k_s.toInt ∧ k_s.toInt ≤ 5) (h_k_l : 0 ≤ k_l.toInt ∧ k_l.toInt ≤ 23) (e_gk : gOK f_g e_g.toInt) (e_pk : gOK f_p e_p.toInt) (e_f : 0 ≤ e_fo.toInt ∧ e_fo.toInt < e_lc.toInt ∧ e_lc.toInt ≤ 6) (e_a : f_l e_fo.toNatClampNeg = some a_lo) (e_hn : n_cd ≤ 400) (e_hs : ∀ j : Nat, j < n_sr → 0 ≤ (f_sr j).toInt ∧ (f_sr j).toInt ≤ (n_cd : Int)) (e_hk : ∀ j : Nat, j < n_cd → (f_cd j >>> (12 &&& 31)).toInt = 1 → (f_cd j &&& 4095).toInt < 8) (e_c : (e_cl.toInt : Int) ≤ (n_hd : Int) ∧ (e_cl.toInt + 1 : Int) ≤ (n_sr : Int)) (e_r : k_r.toInt < e_g.toInt) (kk : ∀ (pc1 : Nat), decode cX5_meetGlass pc1 = .ok (.return_, 1) → ∀ (o_b : Int32) (o_w : Int32) (o_m : Int32) (o_y : Int32) (o_h : Int32) (o_v : Int32) (o_a : Nat → Int32) (o_k : Nat → Int64) (ls : Array Slot) (H : Heap) (locs : List Loc), va_P G.1 vwCl [(a_k, (oc5 a_h a_j a_pt e_ln e_se e_lh o_b o_w o_m e_ce o_y o_h o_v)), (a_h, (oc1 e_wa e_le e_st e_fo e_lc a_l a_g a_b a_s a_p a_w e_gb a_bb)), (a_g, (oc6 6 5 a_gn e_g)), (a_gn, (arI G 30 f_g)), (a_p, (oc6 8 5 a_pn e_p)), (a_pn, (arI G 40 f_p)), (a_j, (oc2 a_as a_sk)), (a_as, (arI G 8 o_a)), (a_sk, (arJ G 50 o_k)), (a_l, (arW G 6 f_l)), (a_lo, (oc3 e_cl a_hd a_sr a_cd)), (a_sr, (arI G n_sr f_sr)), (a_cd, (arI G n_cd f_cd)), (a_hd, (arI G n_hd f_hd))] H → va_D A [(a_k, (oc5 a_h a_j a_pt e_ln e_se e_lh o_b o_w o_m e_ce o_y o_h o_v)), (a_h, (oc1 e_wa e_le e_st e_fo e_lc a_l a_g a_b a_s a_p a_w e_gb a_bb)), (a_g, (oc6 6 5 a_gn e_g)), (a_gn, (arI G 30 f_g)), (a_p, (oc6 8 5 a_pn e_p)), (a_pn, (arI G 40 f_p)), (a_j, (oc2 a_as a_sk)), (a_as, (arI G 8 o_a)), (a_sk, (arJ G 50 o_k)), (a_l, (arW G 6 f_l)), (a_lo, (oc3 e_cl a_hd a_sr a_cd)), (a_sr, (arI G n_sr f_sr)), (a_cd, (arI G n_cd f_cd)), (a_hd, (arI G n_hd f_hd))] → va_S A s.heap H locs → (0 ≤ o_b.toInt ∧ o_b.toInt ≤ 1000000) → (0 ≤ o_y.toInt ∧ o_y.toInt ≤ 3) → (0 ≤ o_h.toInt ∧ o_h.toInt ≤ 23) → (0 ≤ o_v.toInt ∧ o_v.toInt ≤ 1) → W p l e ({ frames := 12, cells := 0, slots := 0, locals := 500 } : Room) s m args below meth c H locs 0 0 Q (F0 m pc1 ls [])) : W p l e ({ frames := 12, cells := 0, slots := 0, locals := 500 } : Room) s m args below meth c H locs 0 0 Q (F0 m 203 ls []) := by
  refine lv_iload hx hb dX5_meetGlass_203 (lv_at hl 6 rfl) ?_
  refine lv_aload_n hx hb dX5_meetGlass_205 rfl (lv_at hl 0 rfl) ?_
  refine va_get (D := G.1) (ci := 5) (v := .int e_ho) (C := RX5) (T := TX5) (N := 13) hx hb hts inG_X5 hown hK hP 0 rfl rfl 11 (by decide) (hts _ fl_X5_33) (fun _ h9 => h9) rfl dX5_meetGlass_206 ?_
  refine lv_icmp_le (tgt := 213) hx hb dX5_meetGlass_209 (by decide) (fun c_1 => ?_) (fun c_1 => ?_)
  ·
    have i_1 : k_l.toInt ≤ e_ho.toInt := by have z := g5_le (a := k_l.toInt) (b := e_ho.toInt) (by rfl) (by rfl) c_1; omega
    refine lv_aload_n hx hb dX5_meetGlass_213 rfl (lv_at hl 0 rfl) ?_
    refine va_get (D := G.1) (ci := 5) (v := .ref a_j) (C := RX5) (T := TX5) (N := 13) hx hb hts inG_X5 hown hK hP 0 rfl rfl 1 (by decide) (hts _ fl_X5_12) (fun _ h9 => h9) rfl dX5_meetGlass_214 ?_
    refine lv_aload hx hb dX5_meetGlass_217 (lv_at hl 5 rfl) ?_
    refine lv_iconst (v := 1) hx hb dX5_meetGlass_219 (by decide) ?_
    obtain ⟨hPc, hDc, hFc⟩ := g5_sub3 (wc := [(a_j, (oc2 a_as a_sk)), (a_as, (arI G 8 f_as)), (a_sk, (arJ G 50 f_sk)), (a_lo, (oc3 e_cl a_hd a_sr a_cd)), (a_sr, (arI G n_sr f_sr)), (a_cd, (arI G n_cd f_cd)), (a_hd, (arI G n_hd f_hd))]) hP hD hS hA [6, 7, 8, 10, 11, 12, 13] (by decide) rfl
    refine va_calli (va_runV (As := [.ref a_lo, .int 1]) (rest := []) ⟨hx, hb, hml, hown, hts⟩ (j_isHeld l G a_j a_as a_sk a_lo a_sr a_cd a_hd H.size 1 e_cl f_as f_sk f_sr f_cd f_hd n_sr n_cd n_hd ⟨by omega, by omega⟩ (e_hn) (e_hs) (e_hk) (e_c)) (cwV 2 hts gV_X5_124 rfl rfl rfl hv_X2_isHeld ⟨Nat.le_of_ble_eq_true rfl, Nat.le_of_ble_eq_true rfl⟩) (g5_preV hPc hK hDc hN hT hS hFc (ci := 2) (q0 := 0) rfl rfl) rfl rfl hl.1 rfl (lv_room (Nat.le_of_ble_eq_true rfl)) dX5_meetGlass_220 ⟨Nat.le_of_ble_eq_true rfl, Nat.le_of_ble_eq_true rfl⟩) hS (fun q _ h => hFc q h) hFc (fun r u t H1 locs ht hvm hw hB hz1 hk1 hS => ?_)
    obtain ⟨hP1, hD1⟩ := hB
    rw [ht] at hP1
    obtain ⟨z3, z4, i_2, y5, rfl⟩ := hw
    have i_2 : 0 ≤ z3.toInt ∧ z3.toInt ≤ 1 := i_2
    obtain ⟨hP, hD⟩ := va_join (wr := [(a_k, (oc5 a_h a_j a_pt e_ln e_se e_lh e_br e_we e_me e_ce e_wy e_ho e_ov)), (a_h, (oc1 e_wa e_le e_st e_fo e_lc a_l a_g a_b a_s a_p a_w e_gb a_bb)), (a_g, (oc6 6 5 a_gn e_g)), (a_gn, (arI G 30 f_g)), (a_p, (oc6 8 5 a_pn e_p)), (a_pn, (arI G 40 f_p)), (a_l, (arW G 6 f_l))]) hP hD [6, 7, 8, 10, 11, 12, 13] [0, 1, 2, 3, 4, 5, 9] rfl rfl (by decide) (by decide) hk1 hFc hP1 hD1
    generalize H1 = H at hP hS ⊢
    refine g5_rs [(a_k, (oc5 a_h a_j a_pt e_ln e_se e_lh e_br e_we e_me e_ce e_wy e_ho e_ov)), (a_h, (oc1 e_wa e_le e_st e_fo e_lc a_l a_g a_b a_s a_p a_w e_gb a_bb)), (a_g, (oc6 6 5 a_gn e_g)), (a_gn, (arI G 30 f_g)), (a_p, (oc6 8 5 a_pn e_p)), (a_pn, (arI G 40 f_p)), (a_l, (arW G 6 f_l)), (a_j, (oc2 a_as a_sk)), (a_as, (arI G 8 f_as)), (a_sk, (arJ G 50 z4)), (a_lo, (oc3 e_cl a_hd a_sr a_cd)), (a_sr, (arI G n_sr f_sr)), (a_cd, (arI G n_cd f_cd)), (a_hd, (arI G n_hd f_hd))] hP hD (fun hP hD => ?_)
    refine g5_ti (v := z3) y5 ?_
    refine lv_if_eq (tgt := 238) hx hb dX5_meetGlass_223 (by decide) (fun c_6 => ?_) (fun c_6 => ?_)
    ·
      have i_6 : z3.toInt = 0 := by have z := g5_eq (a := z3.toInt) (b := 0) (by rfl) (by decide) c_6; omega
      refine lv_aload_n hx hb dX5_meetGlass_238 rfl (lv_at hl 1 rfl) ?_
      refine lv_iload_n hx hb dX5_meetGlass_239 rfl (lv_at hl 2 rfl) ?_
      refine lv_iconst (v := 3) hx hb dX5_meetGlass_240 (by decide) ?_
      obtain ⟨hPc, hDc, hFc⟩ := g5_sub3 (wc := [(a_g, (oc6 6 5 a_gn e_g)), (a_gn, (arI G 30 f_g))]) hP hD hS hA [2, 3] (by decide) rfl
      refine va_calli (va_runV (As := [.int k_r, .int 3]) (rest := []) ⟨hx, hb, hml, hown, hts⟩ (t_get_G l G a_g a_gn H.size e_g k_r 3 f_g ⟨by omega, by omega⟩) (cwV 2 hts gV_X5_107 rfl rfl rfl hv_X6_get ⟨Nat.le_of_ble_eq_true rfl, Nat.le_of_ble_eq_true rfl⟩) (g5_preV hPc hK hDc hN hT hS hFc (ci := 6) (q0 := 0) rfl rfl) rfl rfl hl.1 rfl (lv_room (Nat.le_of_ble_eq_true rfl)) dX5_meetGlass_241 ⟨Nat.le_of_ble_eq_true rfl, Nat.le_of_ble_eq_true rfl⟩) hS (fun q _ h => hFc q h) hFc (fun r u t H1 locs ht hvm hw hB hz1 hk1 hS => ?_)
      obtain ⟨hP1, hD1⟩ := hB
      rw [ht] at hP1
      obtain ⟨z8, i_7, y9, rfl⟩ := hw
      have i_7 : z8 = tget f_g e_g.toInt 5 k_r.toInt (3 : Int32).toInt := i_7
      obtain ⟨hP, hD⟩ := va_join (wr := [(a_k, (oc5 a_h a_j a_pt e_ln e_se e_lh e_br e_we e_me e_ce e_wy e_ho e_ov)), (a_h, (oc1 e_wa e_le e_st e_fo e_lc a_l a_g a_b a_s a_p a_w e_gb a_bb)), (a_p, (oc6 8 5 a_pn e_p)), (a_pn, (arI G 40 f_p)), (a_l, (arW G 6 f_l)), (a_j, (oc2 a_as a_sk)), (a_as, (arI G 8 f_as)), (a_sk, (arJ G 50 z4)), (a_lo, (oc3 e_cl a_hd a_sr a_cd)), (a_sr, (arI G n_sr f_sr)), (a_cd, (arI G n_cd f_cd)), (a_hd, (arI G n_hd f_hd))]) hP hD [2, 3] [0, 1, 4, 5, 6, 7, 8, 9, 10, 11, 12, 13] rfl rfl (by decide) (by decide) hk1 hFc hP1 hD1
      generalize H1 = H at hP hS ⊢
      refine g5_rs [(a_k, (oc5 a_h a_j a_pt e_ln e_se e_lh e_br e_we e_me e_ce e_wy e_ho e_ov)), (a_h, (oc1 e_wa e_le e_st e_fo e_lc a_l a_g a_b a_s a_p a_w e_gb a_bb)), (a_p, (oc6 8 5 a_pn e_p)), (a_pn, (arI G 40 f_p)), (a_l, (arW G 6 f_l)), (a_j, (oc2 a_as a_sk)), (a_as, (arI G 8 f_as)), (a_sk, (arJ G 50 z4)), (a_lo, (oc3 e_cl a_hd a_sr a_cd)), (a_sr, (arI G n_sr f_sr)), (a_cd, (arI G n_cd f_cd)), (a_hd, (arI G n_hd f_hd)), (a_g, (oc6 6 5 a_gn e_g)), (a_gn, (arI G 30 f_g))] hP hD (fun hP hD => ?_)
      refine g5_ti (v := z8) y9 ?_
      have hg_10 : 0 ≤ z8.toInt ∧ z8.toInt ≤ 10 := by rw [i_7]; exact (e_gk k_r.toInt (by omega) (by omega)).2.2.2
      refine lv_istore (lv' := [(8, .int z8), (0, .ref a_k), (2, .ref a_g), (3, .int k_r), (4, .int k_n), (5, .int k_s), (6, .ref a_lo), (7, .int k_l)]) hx hb dX5_meetGlass_244 hl (by decide) rfl (fun ls hl => ?_)
      exact k_mggL4 G a_k a_h a_g a_gn a_p a_pn a_j a_as a_sk a_l a_lo a_sr a_cd a_hd a_pt a_b a_s a_w a_bb n_sr n_cd n_hd e_ln e_se e_lh e_br e_we e_me e_ce e_wy e_ho e_ov e_le e_st e_fo e_lc e_wa e_gb e_g f_g e_p f_p f_as z4 f_l e_cl f_sr f_cd f_hd k_r k_n k_s k_l z8 hx hb hml hown hts hK hN hT hA (hP.sub [0, 1, 12, 13, 2, 3, 5, 6, 7, 4, 8, 9, 10, 11] rfl) (hD.sub [0, 1, 12, 13, 2, 3, 5, 6, 7, 4, 8, 9, 10, 11] (by decide) rfl) hS (lv_sub hl [1, 2, 3, 4, 5, 7, 0] rfl) ⟨by omega, by omega⟩ ⟨by omega, by omega⟩ ⟨by omega, by omega⟩ ⟨by omega, by omega⟩ ⟨by omega, by omega⟩ ⟨by omega, by omega⟩ ⟨by omega, by omega⟩ ⟨by omega, by omega⟩ ⟨by omega, by omega⟩ ⟨by omega, by omega⟩ ⟨by omega, by omega⟩ ⟨by omega, by omega⟩ (by omega) kk
    ·
      have n_6 : gNe (z3.toInt) (0) := by have z := g5_eqN (a := z3.toInt) (b := 0) (by rfl) (by decide) c_6; unfold gNe; omega
      have i_6 : z3.toInt ≥ 1 := by have z := g5_eqN (a := z3.toInt) (b := 0) (by rfl) (by decide) c_6; omega
      refine lv_aload_n hx hb dX5_meetGlass_226 rfl (lv_at hl 0 rfl) ?_
      refine va_get (D := G.1) (ci := 5) (v := .ref a_j) (C := RX5) (T := TX5) (N := 13) hx hb hts inG_X5 hown hK hP 0 rfl rfl 1 (by decide) (hts _ fl_X5_12) (fun _ h9 => h9) rfl dX5_meetGlass_227 ?_
      refine lv_bipush (v := 10) hx hb dX5_meetGlass_230 (by decide) ?_
      obtain ⟨hPc, hDc, hFc⟩ := g5_sub3 (wc := [(a_j, (oc2 a_as a_sk)), (a_sk, (arJ G 50 z4))]) hP hD hS hA [7, 9] (by decide) rfl
      refine va_calli (va_runV (As := [.int 10]) (rest := []) ⟨hx, hb, hml, hown, hts⟩ (j_told l G a_j a_sk a_as H.size 10 z4 ⟨by decide, by decide⟩) (cwV 1 hts gV_X5_134 rfl rfl rfl hv_X2_toldUpTo ⟨Nat.le_of_ble_eq_true rfl, Nat.le_of_ble_eq_true rfl⟩) (g5_preV hPc hK hDc hN hT hS hFc (ci := 2) (q0 := 0) rfl rfl) rfl rfl hl.1 rfl (lv_room (Nat.le_of_ble_eq_true rfl)) dX5_meetGlass_232 ⟨Nat.le_of_ble_eq_true rfl, Nat.le_of_ble_eq_true rfl⟩) hS (fun q _ h => hFc q h) hFc (fun r u t H1 locs ht hvm hw hB hz1 hk1 hS => ?_)
      obtain ⟨hP1, hD1⟩ := hB
      rw [ht] at hP1
      obtain ⟨z12, i_11, y13, rfl⟩ := hw
      have i_11 : 0 ≤ z12.toInt ∧ z12.toInt ≤ (10 : Int32).toInt := i_11
      obtain ⟨hP, hD⟩ := va_join (wr := [(a_k, (oc5 a_h a_j a_pt e_ln e_se e_lh e_br e_we e_me e_ce e_wy e_ho e_ov)), (a_h, (oc1 e_wa e_le e_st e_fo e_lc a_l a_g a_b a_s a_p a_w e_gb a_bb)), (a_g, (oc6 6 5 a_gn e_g)), (a_gn, (arI G 30 f_g)), (a_p, (oc6 8 5 a_pn e_p)), (a_pn, (arI G 40 f_p)), (a_l, (arW G 6 f_l)), (a_as, (arI G 8 f_as)), (a_lo, (oc3 e_cl a_hd a_sr a_cd)), (a_sr, (arI G n_sr f_sr)), (a_cd, (arI G n_cd f_cd)), (a_hd, (arI G n_hd f_hd))]) hP hD [7, 9] [0, 1, 2, 3, 4, 5, 6, 8, 10, 11, 12, 13] rfl rfl (by decide) (by decide) hk1 hFc hP1 hD1
      generalize H1 = H at hP hS ⊢
      refine g5_rs [(a_k, (oc5 a_h a_j a_pt e_ln e_se e_lh e_br e_we e_me e_ce e_wy e_ho e_ov)), (a_h, (oc1 e_wa e_le e_st e_fo e_lc a_l a_g a_b a_s a_p a_w e_gb a_bb)), (a_g, (oc6 6 5 a_gn e_g)), (a_gn, (arI G 30 f_g)), (a_p, (oc6 8 5 a_pn e_p)), (a_pn, (arI G 40 f_p)), (a_l, (arW G 6 f_l)), (a_as, (arI G 8 f_as)), (a_lo, (oc3 e_cl a_hd a_sr a_cd)), (a_sr, (arI G n_sr f_sr)), (a_cd, (arI G n_cd f_cd)), (a_hd, (arI G n_hd f_hd)), (a_j, (oc2 a_as a_sk)), (a_sk, (arJ G 50 z4))] hP hD (fun hP hD => ?_)
      refine g5_ti (v := z12) y13 ?_
      refine lv_goto (tgt := 244) hx hb dX5_meetGlass_235 (by decide) ?_
      have zk_14 : (10 : Int32).toInt = 10 := (by decide)
      refine lv_istore (lv' := [(8, .int z12), (0, .ref a_k), (2, .ref a_g), (3, .int k_r), (4, .int k_n), (5, .int k_s), (6, .ref a_lo), (7, .int k_l)]) hx hb dX5_meetGlass_244 hl (by decide) rfl (fun ls hl => ?_)
      exact k_mggL4 G a_k a_h a_g a_gn a_p a_pn a_j a_as a_sk a_l a_lo a_sr a_cd a_hd a_pt a_b a_s a_w a_bb n_sr n_cd n_hd e_ln e_se e_lh e_br e_we e_me e_ce e_wy e_ho e_ov e_le e_st e_fo e_lc e_wa e_gb e_g f_g e_p f_p f_as z4 f_l e_cl f_sr f_cd f_hd k_r k_n k_s k_l z12 hx hb hml hown hts hK hN hT hA (hP.sub [0, 1, 2, 3, 4, 5, 12, 7, 13, 6, 8, 9, 10, 11] rfl) (hD.sub [0, 1, 2, 3, 4, 5, 12, 7, 13, 6, 8, 9, 10, 11] (by decide) rfl) hS (lv_sub hl [1, 2, 3, 4, 5, 7, 0] rfl) ⟨by omega, by omega⟩ ⟨by omega, by omega⟩ ⟨by omega, by omega⟩ ⟨by omega, by omega⟩ ⟨by omega, by omega⟩ ⟨by omega, by omega⟩ ⟨by omega, by omega⟩ ⟨by omega, by omega⟩ ⟨by omega, by omega⟩ ⟨by omega, by omega⟩ ⟨by omega, by omega⟩ ⟨by omega, by omega⟩ (by omega) kk
  ·
    have i_1 : k_l.toInt > e_ho.toInt := by have z := g5_leN (a := k_l.toInt) (b := e_ho.toInt) (by rfl) (by rfl) c_1; omega
    exact kk 212 dX5_meetGlass_212 e_br e_we e_me e_wy e_ho e_ov f_as f_sk ls H locs (hP.sub [0, 1, 2, 3, 4, 5, 6, 7, 8, 9, 10, 11, 12, 13] rfl) (hD.sub [0, 1, 2, 3, 4, 5, 6, 7, 8, 9, 10, 11, 12, 13] (by decide) rfl) hS (⟨by omega, by omega⟩) (⟨by omega, by omega⟩) (⟨by omega, by omega⟩) (⟨by omega, by omega⟩)
set_option maxHeartbeats 4000000 in
set_option maxRecDepth 100000 in
theorem k_mggL2 {p : Program} {l : Launch} {e : Env} {s : State} {m : MethodId} {args : Array Value} {below : List Frame} {meth : Method} {c : Code} {Q : State → Prop} {A : Nat → Prop} {H : Heap} {locs : List Loc} {ls : Array Slot} (G : g5_G) (a_k a_h a_g a_gn a_p a_pn a_j a_as a_sk a_l a_lo a_sr a_cd a_hd a_pt a_b a_s a_w a_bb n_sr n_cd n_hd : Nat) (e_ln : Int32) (e_se : Int32) (e_lh : Int32) (e_br : Int32) (e_we : Int32) (e_me : Int32) (e_ce : Int32) (e_wy : Int32) (e_ho : Int32) (e_ov : Int32) (e_le : Int32) (e_st : Int32) (e_fo : Int32) (e_lc : Int32) (e_wa : Int64) (e_gb : Int64) (e_g : Int32) (f_g : Nat → Int32) (e_p : Int32) (f_p : Nat → Int32) (f_as : Nat → Int32) (f_sk : Nat → Int64) (f_l : Nat → Option Nat) (e_cl : Int32) (f_sr : Nat → Int32) (f_cd : Nat → Int32) (f_hd : Nat → Int32) (k_r : Int32) (k_n : Int32) (k_s : Int32) (hx : p.tables.exec = Jvm.exec) (hb : c.code = cX5_meetGlass) (hml : c.maxLocals = 9) (hown : s.vm.findClass RX5 = some m.cls) (hts : ∀ w ∈ tblG, w.before args s = true) (hK : va_K G.1 vwCl (T5 G) s) (hN : g5_N s) (hT : g5_S A s s.heap) (hA : ∀ q : Nat, s.heap.size ≤ q → A q) (hP : va_P G.1 vwCl [(a_k, (oc5 a_h a_j a_pt e_ln e_se e_lh e_br e_we e_me e_ce e_wy e_ho e_ov)), (a_h, (oc1 e_wa e_le e_st e_fo e_lc a_l a_g a_b a_s a_p a_w e_gb a_bb)), (a_g, (oc6 6 5 a_gn e_g)), (a_gn, (arI G 30 f_g)), (a_p, (oc6 8 5 a_pn e_p)), (a_pn, (arI G 40 f_p)), (a_j, (oc2 a_as a_sk)), (a_as, (arI G 8 f_as)), (a_sk, (arJ G 50 f_sk)), (a_l, (arW G 6 f_l)), (a_lo, (oc3 e_cl a_hd a_sr a_cd)), (a_sr, (arI G n_sr f_sr)), (a_cd, (arI G n_cd f_cd)), (a_hd, (arI G n_hd f_hd))] H) (hD : va_D A [(a_k, (oc5 a_h a_j a_pt e_ln e_se e_lh e_br e_we e_me e_ce e_wy e_ho e_ov)), (a_h, (oc1 e_wa e_le e_st e_fo e_lc a_l a_g a_b a_s a_p a_w e_gb a_bb)), (a_g, (oc6 6 5 a_gn e_g)), (a_gn, (arI G 30 f_g)), (a_p, (oc6 8 5 a_pn e_p)), (a_pn, (arI G 40 f_p)), (a_j, (oc2 a_as a_sk)), (a_as, (arI G 8 f_as)), (a_sk, (arJ G 50 f_sk)), (a_l, (arW G 6 f_l)), (a_lo, (oc3 e_cl a_hd a_sr a_cd)), (a_sr, (arI G n_sr f_sr)), (a_cd, (arI G n_cd f_cd)), (a_hd, (arI G n_hd f_hd))]) (hS : va_S A s.heap H locs) (hl : lv_has ls 9 [(0, .ref a_k), (2, .ref a_g), (3, .int k_r), (4, .int k_n), (5, .int k_s), (6, .ref a_lo)]) (h_e_br : 0 ≤ e_br.toInt ∧ e_br.toInt ≤ 1000000) (h_e_ce : 0 ≤ e_ce.toInt ∧ e_ce.toInt ≤ 63) (h_e_wy : 0 ≤ e_wy.toInt ∧ e_wy.toInt ≤ 3) (h_e_ho : 0 ≤ e_ho.toInt ∧ e_ho.toInt ≤ 23) (h_e_ov : 0 ≤ e_ov.toInt ∧ e_ov.toInt ≤ 1) (h_e_g : 0 ≤ e_g.toInt ∧ e_g.toInt ≤ 6) (h_e_p : 0 ≤ e_p.toInt ∧ e_p.toInt ≤ 8) (h_e_cl : 0 ≤ e_cl.toInt ∧ e_cl.toInt ≤ 12) (h_k_r : 0 ≤ k_r.toInt ∧ k_r.toInt ≤ 7) (h_k_s : 0 ≤ k_s.toInt ∧ k_s.toInt ≤ 5) (e_gk : gOK f_g e_g.toInt) (e_pk : gOK f_p e_p.toInt) (e_f : 0 ≤ e_fo.toInt ∧ e_fo.toInt < e_lc.toInt ∧ e_lc.toInt ≤ 6) (e_a : f_l e_fo.toNatClampNeg = some a_lo) (e_hn : n_cd ≤ 400) (e_hs : ∀ j : Nat, j < n_sr → 0 ≤ (f_sr j).toInt ∧ (f_sr j).toInt ≤ (n_cd : Int)) (e_hk : ∀ j : Nat, j < n_cd → (f_cd j >>> (12 &&& 31)).toInt = 1 → (f_cd j &&& 4095).toInt < 8) (e_c : (e_cl.toInt : Int) ≤ (n_hd : Int) ∧ (e_cl.toInt + 1 : Int) ≤ (n_sr : Int)) (e_r : k_r.toInt < e_g.toInt) (kk : ∀ (pc1 : Nat), decode cX5_meetGlass pc1 = .ok (.return_, 1) → ∀ (o_b : Int32) (o_w : Int32) (o_m : Int32) (o_y : Int32) (o_h : Int32) (o_v : Int32) (o_a : Nat → Int32) (o_k : Nat → Int64) (ls : Array Slot) (H : Heap) (locs : List Loc), va_P G.1 vwCl [(a_k, (oc5 a_h a_j a_pt e_ln e_se e_lh o_b o_w o_m e_ce o_y o_h o_v)), (a_h, (oc1 e_wa e_le e_st e_fo e_lc a_l a_g a_b a_s a_p a_w e_gb a_bb)), (a_g, (oc6 6 5 a_gn e_g)), (a_gn, (arI G 30 f_g)), (a_p, (oc6 8 5 a_pn e_p)), (a_pn, (arI G 40 f_p)), (a_j, (oc2 a_as a_sk)), (a_as, (arI G 8 o_a)), (a_sk, (arJ G 50 o_k)), (a_l, (arW G 6 f_l)), (a_lo, (oc3 e_cl a_hd a_sr a_cd)), (a_sr, (arI G n_sr f_sr)), (a_cd, (arI G n_cd f_cd)), (a_hd, (arI G n_hd f_hd))] H → va_D A [(a_k, (oc5 a_h a_j a_pt e_ln e_se e_lh o_b o_w o_m e_ce o_y o_h o_v)), (a_h, (oc1 e_wa e_le e_st e_fo e_lc a_l a_g a_b a_s a_p a_w e_gb a_bb)), (a_g, (oc6 6 5 a_gn e_g)), (a_gn, (arI G 30 f_g)), (a_p, (oc6 8 5 a_pn e_p)), (a_pn, (arI G 40 f_p)), (a_j, (oc2 a_as a_sk)), (a_as, (arI G 8 o_a)), (a_sk, (arJ G 50 o_k)), (a_l, (arW G 6 f_l)), (a_lo, (oc3 e_cl a_hd a_sr a_cd)), (a_sr, (arI G n_sr f_sr)), (a_cd, (arI G n_cd f_cd)), (a_hd, (arI G n_hd f_hd))] → va_S A s.heap H locs → (0 ≤ o_b.toInt ∧ o_b.toInt ≤ 1000000) → (0 ≤ o_y.toInt ∧ o_y.toInt ≤ 3) → (0 ≤ o_h.toInt ∧ o_h.toInt ≤ 23) → (0 ≤ o_v.toInt ∧ o_v.toInt ≤ 1) → W p l e ({ frames := 12, cells := 0, slots := 0, locals := 500 } : Room) s m args below meth c H locs 0 0 Q (F0 m pc1 ls [])) : W p l e ({ frames := 12, cells := 0, slots := 0, locals := 500 } : Room) s m args below meth c H locs 0 0 Q (F0 m 170 ls []) := by
  refine lv_aload_n hx hb dX5_meetGlass_170 rfl (lv_at hl 0 rfl) ?_
  refine va_get (D := G.1) (ci := 5) (v := .ref a_j) (C := RX5) (T := TX5) (N := 13) hx hb hts inG_X5 hown hK hP 0 rfl rfl 1 (by decide) (hts _ fl_X5_12) (fun _ h9 => h9) rfl dX5_meetGlass_171 ?_
  refine lv_aload hx hb dX5_meetGlass_174 (lv_at hl 5 rfl) ?_
  refine lv_iconst (v := 0) hx hb dX5_meetGlass_176 (by decide) ?_
  obtain ⟨hPc, hDc, hFc⟩ := g5_sub3 (wc := [(a_j, (oc2 a_as a_sk)), (a_as, (arI G 8 f_as)), (a_sk, (arJ G 50 f_sk)), (a_lo, (oc3 e_cl a_hd a_sr a_cd)), (a_sr, (arI G n_sr f_sr)), (a_cd, (arI G n_cd f_cd)), (a_hd, (arI G n_hd f_hd))]) hP hD hS hA [6, 7, 8, 10, 11, 12, 13] (by decide) rfl
  refine va_calli (va_runV (As := [.ref a_lo, .int 0]) (rest := []) ⟨hx, hb, hml, hown, hts⟩ (j_isHeld l G a_j a_as a_sk a_lo a_sr a_cd a_hd H.size 0 e_cl f_as f_sk f_sr f_cd f_hd n_sr n_cd n_hd ⟨by omega, by omega⟩ (e_hn) (e_hs) (e_hk) (e_c)) (cwV 2 hts gV_X5_124 rfl rfl rfl hv_X2_isHeld ⟨Nat.le_of_ble_eq_true rfl, Nat.le_of_ble_eq_true rfl⟩) (g5_preV hPc hK hDc hN hT hS hFc (ci := 2) (q0 := 0) rfl rfl) rfl rfl hl.1 rfl (lv_room (Nat.le_of_ble_eq_true rfl)) dX5_meetGlass_177 ⟨Nat.le_of_ble_eq_true rfl, Nat.le_of_ble_eq_true rfl⟩) hS (fun q _ h => hFc q h) hFc (fun r u t H1 locs ht hvm hw hB hz1 hk1 hS => ?_)
  obtain ⟨hP1, hD1⟩ := hB
  rw [ht] at hP1
  obtain ⟨z2, z3, i_1, y4, rfl⟩ := hw
  have i_1 : 0 ≤ z2.toInt ∧ z2.toInt ≤ 1 := i_1
  obtain ⟨hP, hD⟩ := va_join (wr := [(a_k, (oc5 a_h a_j a_pt e_ln e_se e_lh e_br e_we e_me e_ce e_wy e_ho e_ov)), (a_h, (oc1 e_wa e_le e_st e_fo e_lc a_l a_g a_b a_s a_p a_w e_gb a_bb)), (a_g, (oc6 6 5 a_gn e_g)), (a_gn, (arI G 30 f_g)), (a_p, (oc6 8 5 a_pn e_p)), (a_pn, (arI G 40 f_p)), (a_l, (arW G 6 f_l))]) hP hD [6, 7, 8, 10, 11, 12, 13] [0, 1, 2, 3, 4, 5, 9] rfl rfl (by decide) (by decide) hk1 hFc hP1 hD1
  generalize H1 = H at hP hS ⊢
  refine g5_rs [(a_k, (oc5 a_h a_j a_pt e_ln e_se e_lh e_br e_we e_me e_ce e_wy e_ho e_ov)), (a_h, (oc1 e_wa e_le e_st e_fo e_lc a_l a_g a_b a_s a_p a_w e_gb a_bb)), (a_g, (oc6 6 5 a_gn e_g)), (a_gn, (arI G 30 f_g)), (a_p, (oc6 8 5 a_pn e_p)), (a_pn, (arI G 40 f_p)), (a_l, (arW G 6 f_l)), (a_j, (oc2 a_as a_sk)), (a_as, (arI G 8 f_as)), (a_sk, (arJ G 50 z3)), (a_lo, (oc3 e_cl a_hd a_sr a_cd)), (a_sr, (arI G n_sr f_sr)), (a_cd, (arI G n_cd f_cd)), (a_hd, (arI G n_hd f_hd))] hP hD (fun hP hD => ?_)
  refine g5_ti (v := z2) y4 ?_
  refine lv_if_eq (tgt := 195) hx hb dX5_meetGlass_180 (by decide) (fun c_5 => ?_) (fun c_5 => ?_)
  ·
    have i_5 : z2.toInt = 0 := by have z := g5_eq (a := z2.toInt) (b := 0) (by rfl) (by decide) c_5; omega
    refine lv_aload_n hx hb dX5_meetGlass_195 rfl (lv_at hl 1 rfl) ?_
    refine lv_iload_n hx hb dX5_meetGlass_196 rfl (lv_at hl 2 rfl) ?_
    refine lv_iconst (v := 2) hx hb dX5_meetGlass_197 (by decide) ?_
    obtain ⟨hPc, hDc, hFc⟩ := g5_sub3 (wc := [(a_g, (oc6 6 5 a_gn e_g)), (a_gn, (arI G 30 f_g))]) hP hD hS hA [2, 3] (by decide) rfl
    refine va_calli (va_runV (As := [.int k_r, .int 2]) (rest := []) ⟨hx, hb, hml, hown, hts⟩ (t_get_G l G a_g a_gn H.size e_g k_r 2 f_g ⟨by omega, by omega⟩) (cwV 2 hts gV_X5_107 rfl rfl rfl hv_X6_get ⟨Nat.le_of_ble_eq_true rfl, Nat.le_of_ble_eq_true rfl⟩) (g5_preV hPc hK hDc hN hT hS hFc (ci := 6) (q0 := 0) rfl rfl) rfl rfl hl.1 rfl (lv_room (Nat.le_of_ble_eq_true rfl)) dX5_meetGlass_198 ⟨Nat.le_of_ble_eq_true rfl, Nat.le_of_ble_eq_true rfl⟩) hS (fun q _ h => hFc q h) hFc (fun r u t H1 locs ht hvm hw hB hz1 hk1 hS => ?_)
    obtain ⟨hP1, hD1⟩ := hB
    rw [ht] at hP1
    obtain ⟨z7, i_6, y8, rfl⟩ := hw
    have i_6 : z7 = tget f_g e_g.toInt 5 k_r.toInt (2 : Int32).toInt := i_6
    obtain ⟨hP, hD⟩ := va_join (wr := [(a_k, (oc5 a_h a_j a_pt e_ln e_se e_lh e_br e_we e_me e_ce e_wy e_ho e_ov)), (a_h, (oc1 e_wa e_le e_st e_fo e_lc a_l a_g a_b a_s a_p a_w e_gb a_bb)), (a_p, (oc6 8 5 a_pn e_p)), (a_pn, (arI G 40 f_p)), (a_l, (arW G 6 f_l)), (a_j, (oc2 a_as a_sk)), (a_as, (arI G 8 f_as)), (a_sk, (arJ G 50 z3)), (a_lo, (oc3 e_cl a_hd a_sr a_cd)), (a_sr, (arI G n_sr f_sr)), (a_cd, (arI G n_cd f_cd)), (a_hd, (arI G n_hd f_hd))]) hP hD [2, 3] [0, 1, 4, 5, 6, 7, 8, 9, 10, 11, 12, 13] rfl rfl (by decide) (by decide) hk1 hFc hP1 hD1
    generalize H1 = H at hP hS ⊢
    refine g5_rs [(a_k, (oc5 a_h a_j a_pt e_ln e_se e_lh e_br e_we e_me e_ce e_wy e_ho e_ov)), (a_h, (oc1 e_wa e_le e_st e_fo e_lc a_l a_g a_b a_s a_p a_w e_gb a_bb)), (a_p, (oc6 8 5 a_pn e_p)), (a_pn, (arI G 40 f_p)), (a_l, (arW G 6 f_l)), (a_j, (oc2 a_as a_sk)), (a_as, (arI G 8 f_as)), (a_sk, (arJ G 50 z3)), (a_lo, (oc3 e_cl a_hd a_sr a_cd)), (a_sr, (arI G n_sr f_sr)), (a_cd, (arI G n_cd f_cd)), (a_hd, (arI G n_hd f_hd)), (a_g, (oc6 6 5 a_gn e_g)), (a_gn, (arI G 30 f_g))] hP hD (fun hP hD => ?_)
    refine g5_ti (v := z7) y8 ?_
    have hg_9 : 0 ≤ z7.toInt ∧ z7.toInt ≤ 23 := by rw [i_6]; exact (e_gk k_r.toInt (by omega) (by omega)).2.2.1
    refine lv_istore (lv' := [(7, .int z7), (0, .ref a_k), (2, .ref a_g), (3, .int k_r), (4, .int k_n), (5, .int k_s), (6, .ref a_lo)]) hx hb dX5_meetGlass_201 hl (by decide) rfl (fun ls hl => ?_)
    exact k_mggL3 G a_k a_h a_g a_gn a_p a_pn a_j a_as a_sk a_l a_lo a_sr a_cd a_hd a_pt a_b a_s a_w a_bb n_sr n_cd n_hd e_ln e_se e_lh e_br e_we e_me e_ce e_wy e_ho e_ov e_le e_st e_fo e_lc e_wa e_gb e_g f_g e_p f_p f_as z3 f_l e_cl f_sr f_cd f_hd k_r k_n k_s z7 hx hb hml hown hts hK hN hT hA (hP.sub [0, 1, 12, 13, 2, 3, 5, 6, 7, 4, 8, 9, 10, 11] rfl) (hD.sub [0, 1, 12, 13, 2, 3, 5, 6, 7, 4, 8, 9, 10, 11] (by decide) rfl) hS (lv_sub hl [1, 2, 3, 4, 5, 6, 0] rfl) ⟨by omega, by omega⟩ ⟨by omega, by omega⟩ ⟨by omega, by omega⟩ ⟨by omega, by omega⟩ ⟨by omega, by omega⟩ ⟨by omega, by omega⟩ ⟨by omega, by omega⟩ ⟨by omega, by omega⟩ ⟨by omega, by omega⟩ ⟨by omega, by omega⟩ ⟨by omega, by omega⟩ (e_gk) (e_pk) (e_f) (e_a) (e_hn) (e_hs) (e_hk) (e_c) (e_r) kk
  ·
    have n_5 : gNe (z2.toInt) (0) := by have z := g5_eqN (a := z2.toInt) (b := 0) (by rfl) (by decide) c_5; unfold gNe; omega
    have i_5 : z2.toInt ≥ 1 := by have z := g5_eqN (a := z2.toInt) (b := 0) (by rfl) (by decide) c_5; omega
    refine lv_aload_n hx hb dX5_meetGlass_183 rfl (lv_at hl 0 rfl) ?_
    refine va_get (D := G.1) (ci := 5) (v := .ref a_j) (C := RX5) (T := TX5) (N := 13) hx hb hts inG_X5 hown hK hP 0 rfl rfl 1 (by decide) (hts _ fl_X5_12) (fun _ h9 => h9) rfl dX5_meetGlass_184 ?_
    refine lv_bipush (v := 23) hx hb dX5_meetGlass_187 (by decide) ?_
    obtain ⟨hPc, hDc, hFc⟩ := g5_sub3 (wc := [(a_j, (oc2 a_as a_sk)), (a_sk, (arJ G 50 z3))]) hP hD hS hA [7, 9] (by decide) rfl
    refine va_calli (va_runV (As := [.int 23]) (rest := []) ⟨hx, hb, hml, hown, hts⟩ (j_told l G a_j a_sk a_as H.size 23 z3 ⟨by decide, by decide⟩) (cwV 1 hts gV_X5_134 rfl rfl rfl hv_X2_toldUpTo ⟨Nat.le_of_ble_eq_true rfl, Nat.le_of_ble_eq_true rfl⟩) (g5_preV hPc hK hDc hN hT hS hFc (ci := 2) (q0 := 0) rfl rfl) rfl rfl hl.1 rfl (lv_room (Nat.le_of_ble_eq_true rfl)) dX5_meetGlass_189 ⟨Nat.le_of_ble_eq_true rfl, Nat.le_of_ble_eq_true rfl⟩) hS (fun q _ h => hFc q h) hFc (fun r u t H1 locs ht hvm hw hB hz1 hk1 hS => ?_)
    obtain ⟨hP1, hD1⟩ := hB
    rw [ht] at hP1
    obtain ⟨z11, i_10, y12, rfl⟩ := hw
    have i_10 : 0 ≤ z11.toInt ∧ z11.toInt ≤ (23 : Int32).toInt := i_10
    obtain ⟨hP, hD⟩ := va_join (wr := [(a_k, (oc5 a_h a_j a_pt e_ln e_se e_lh e_br e_we e_me e_ce e_wy e_ho e_ov)), (a_h, (oc1 e_wa e_le e_st e_fo e_lc a_l a_g a_b a_s a_p a_w e_gb a_bb)), (a_g, (oc6 6 5 a_gn e_g)), (a_gn, (arI G 30 f_g)), (a_p, (oc6 8 5 a_pn e_p)), (a_pn, (arI G 40 f_p)), (a_l, (arW G 6 f_l)), (a_as, (arI G 8 f_as)), (a_lo, (oc3 e_cl a_hd a_sr a_cd)), (a_sr, (arI G n_sr f_sr)), (a_cd, (arI G n_cd f_cd)), (a_hd, (arI G n_hd f_hd))]) hP hD [7, 9] [0, 1, 2, 3, 4, 5, 6, 8, 10, 11, 12, 13] rfl rfl (by decide) (by decide) hk1 hFc hP1 hD1
    generalize H1 = H at hP hS ⊢
    refine g5_rs [(a_k, (oc5 a_h a_j a_pt e_ln e_se e_lh e_br e_we e_me e_ce e_wy e_ho e_ov)), (a_h, (oc1 e_wa e_le e_st e_fo e_lc a_l a_g a_b a_s a_p a_w e_gb a_bb)), (a_g, (oc6 6 5 a_gn e_g)), (a_gn, (arI G 30 f_g)), (a_p, (oc6 8 5 a_pn e_p)), (a_pn, (arI G 40 f_p)), (a_l, (arW G 6 f_l)), (a_as, (arI G 8 f_as)), (a_lo, (oc3 e_cl a_hd a_sr a_cd)), (a_sr, (arI G n_sr f_sr)), (a_cd, (arI G n_cd f_cd)), (a_hd, (arI G n_hd f_hd)), (a_j, (oc2 a_as a_sk)), (a_sk, (arJ G 50 z3))] hP hD (fun hP hD => ?_)
    refine g5_ti (v := z11) y12 ?_
    refine lv_goto (tgt := 201) hx hb dX5_meetGlass_192 (by decide) ?_
    have zk_13 : (23 : Int32).toInt = 23 := (by decide)
    refine lv_istore (lv' := [(7, .int z11), (0, .ref a_k), (2, .ref a_g), (3, .int k_r), (4, .int k_n), (5, .int k_s), (6, .ref a_lo)]) hx hb dX5_meetGlass_201 hl (by decide) rfl (fun ls hl => ?_)
    exact k_mggL3 G a_k a_h a_g a_gn a_p a_pn a_j a_as a_sk a_l a_lo a_sr a_cd a_hd a_pt a_b a_s a_w a_bb n_sr n_cd n_hd e_ln e_se e_lh e_br e_we e_me e_ce e_wy e_ho e_ov e_le e_st e_fo e_lc e_wa e_gb e_g f_g e_p f_p f_as z3 f_l e_cl f_sr f_cd f_hd k_r k_n k_s z11 hx hb hml hown hts hK hN hT hA (hP.sub [0, 1, 2, 3, 4, 5, 12, 7, 13, 6, 8, 9, 10, 11] rfl) (hD.sub [0, 1, 2, 3, 4, 5, 12, 7, 13, 6, 8, 9, 10, 11] (by decide) rfl) hS (lv_sub hl [1, 2, 3, 4, 5, 6, 0] rfl) ⟨by omega, by omega⟩ ⟨by omega, by omega⟩ ⟨by omega, by omega⟩ ⟨by omega, by omega⟩ ⟨by omega, by omega⟩ ⟨by omega, by omega⟩ ⟨by omega, by omega⟩ ⟨by omega, by omega⟩ ⟨by omega, by omega⟩ ⟨by omega, by omega⟩ ⟨by omega, by omega⟩ (e_gk) (e_pk) (e_f) (e_a) (e_hn) (e_hs) (e_hk) (e_c) (e_r) kk
set_option maxHeartbeats 4000000 in
set_option maxRecDepth 100000 in
theorem k_mggL1 {p : Program} {l : Launch} {e : Env} {s : State} {m : MethodId} {args : Array Value} {below : List Frame} {meth : Method} {c : Code} {Q : State → Prop} {A : Nat → Prop} {H : Heap} {locs : List Loc} {ls : Array Slot} (G : g5_G) (a_k a_h a_g a_gn a_p a_pn a_j a_as a_sk a_l a_lo a_sr a_cd a_hd a_pt a_b a_s a_w a_bb n_sr n_cd n_hd : Nat) (e_ln : Int32) (e_se : Int32) (e_lh : Int32) (e_br : Int32) (e_we : Int32) (e_me : Int32) (e_ce : Int32) (e_wy : Int32) (e_ho : Int32) (e_ov : Int32) (e_le : Int32) (e_st : Int32) (e_fo : Int32) (e_lc : Int32) (e_wa : Int64) (e_gb : Int64) (e_g : Int32) (f_g : Nat → Int32) (e_p : Int32) (f_p : Nat → Int32) (f_as : Nat → Int32) (f_sk : Nat → Int64) (f_l : Nat → Option Nat) (e_cl : Int32) (f_sr : Nat → Int32) (f_cd : Nat → Int32) (f_hd : Nat → Int32) (k_r : Int32) (k_n : Int32) (hx : p.tables.exec = Jvm.exec) (hb : c.code = cX5_meetGlass) (hml : c.maxLocals = 9) (hown : s.vm.findClass RX5 = some m.cls) (hts : ∀ w ∈ tblG, w.before args s = true) (hK : va_K G.1 vwCl (T5 G) s) (hN : g5_N s) (hT : g5_S A s s.heap) (hA : ∀ q : Nat, s.heap.size ≤ q → A q) (hP : va_P G.1 vwCl [(a_k, (oc5 a_h a_j a_pt e_ln e_se e_lh e_br e_we e_me e_ce e_wy e_ho e_ov)), (a_h, (oc1 e_wa e_le e_st e_fo e_lc a_l a_g a_b a_s a_p a_w e_gb a_bb)), (a_g, (oc6 6 5 a_gn e_g)), (a_gn, (arI G 30 f_g)), (a_p, (oc6 8 5 a_pn e_p)), (a_pn, (arI G 40 f_p)), (a_j, (oc2 a_as a_sk)), (a_as, (arI G 8 f_as)), (a_sk, (arJ G 50 f_sk)), (a_l, (arW G 6 f_l)), (a_lo, (oc3 e_cl a_hd a_sr a_cd)), (a_sr, (arI G n_sr f_sr)), (a_cd, (arI G n_cd f_cd)), (a_hd, (arI G n_hd f_hd))] H) (hD : va_D A [(a_k, (oc5 a_h a_j a_pt e_ln e_se e_lh e_br e_we e_me e_ce e_wy e_ho e_ov)), (a_h, (oc1 e_wa e_le e_st e_fo e_lc a_l a_g a_b a_s a_p a_w e_gb a_bb)), (a_g, (oc6 6 5 a_gn e_g)), (a_gn, (arI G 30 f_g)), (a_p, (oc6 8 5 a_pn e_p)), (a_pn, (arI G 40 f_p)), (a_j, (oc2 a_as a_sk)), (a_as, (arI G 8 f_as)), (a_sk, (arJ G 50 f_sk)), (a_l, (arW G 6 f_l)), (a_lo, (oc3 e_cl a_hd a_sr a_cd)), (a_sr, (arI G n_sr f_sr)), (a_cd, (arI G n_cd f_cd)), (a_hd, (arI G n_hd f_hd))]) (hS : va_S A s.heap H locs) (hl : lv_has ls 9 [(0, .ref a_k), (2, .ref a_g), (3, .int k_r), (4, .int k_n)]) (h_e_br : 0 ≤ e_br.toInt ∧ e_br.toInt ≤ 1000000) (h_e_ce : 0 ≤ e_ce.toInt ∧ e_ce.toInt ≤ 63) (h_e_wy : 0 ≤ e_wy.toInt ∧ e_wy.toInt ≤ 3) (h_e_ho : 0 ≤ e_ho.toInt ∧ e_ho.toInt ≤ 23) (h_e_ov : 0 ≤ e_ov.toInt ∧ e_ov.toInt ≤ 1) (h_e_g : 0 ≤ e_g.toInt ∧ e_g.toInt ≤ 6) (h_e_p : 0 ≤ e_p.toInt ∧ e_p.toInt ≤ 8) (h_e_cl : 0 ≤ e_cl.toInt ∧ e_cl.toInt ≤ 12) (h_k_r : 0 ≤ k_r.toInt ∧ k_r.toInt ≤ 7) (e_gk : gOK f_g e_g.toInt) (e_pk : gOK f_p e_p.toInt) (e_f : 0 ≤ e_fo.toInt ∧ e_fo.toInt < e_lc.toInt ∧ e_lc.toInt ≤ 6) (e_a : f_l e_fo.toNatClampNeg = some a_lo) (e_hn : n_cd ≤ 400) (e_hs : ∀ j : Nat, j < n_sr → 0 ≤ (f_sr j).toInt ∧ (f_sr j).toInt ≤ (n_cd : Int)) (e_hk : ∀ j : Nat, j < n_cd → (f_cd j >>> (12 &&& 31)).toInt = 1 → (f_cd j &&& 4095).toInt < 8) (e_c : (e_cl.toInt : Int) ≤ (n_hd : Int) ∧ (e_cl.toInt + 1 : Int) ≤ (n_sr : Int)) (e_r : k_r.toInt < e_g.toInt) (kk : ∀ (pc1 : Nat), decode cX5_meetGlass pc1 = .ok (.return_, 1) → ∀ (o_b : Int32) (o_w : Int32) (o_m : Int32) (o_y : Int32) (o_h : Int32) (o_v : Int32) (o_a : Nat → Int32) (o_k : Nat → Int64) (ls : Array Slot) (H : Heap) (locs : List Loc), va_P G.1 vwCl [(a_k, (oc5 a_h a_j a_pt e_ln e_se e_lh o_b o_w o_m e_ce o_y o_h o_v)), (a_h, (oc1 e_wa e_le e_st e_fo e_lc a_l a_g a_b a_s a_p a_w e_gb a_bb)), (a_g, (oc6 6 5 a_gn e_g)), (a_gn, (arI G 30 f_g)), (a_p, (oc6 8 5 a_pn e_p)), (a_pn, (arI G 40 f_p)), (a_j, (oc2 a_as a_sk)), (a_as, (arI G 8 o_a)), (a_sk, (arJ G 50 o_k)), (a_l, (arW G 6 f_l)), (a_lo, (oc3 e_cl a_hd a_sr a_cd)), (a_sr, (arI G n_sr f_sr)), (a_cd, (arI G n_cd f_cd)), (a_hd, (arI G n_hd f_hd))] H → va_D A [(a_k, (oc5 a_h a_j a_pt e_ln e_se e_lh o_b o_w o_m e_ce o_y o_h o_v)), (a_h, (oc1 e_wa e_le e_st e_fo e_lc a_l a_g a_b a_s a_p a_w e_gb a_bb)), (a_g, (oc6 6 5 a_gn e_g)), (a_gn, (arI G 30 f_g)), (a_p, (oc6 8 5 a_pn e_p)), (a_pn, (arI G 40 f_p)), (a_j, (oc2 a_as a_sk)), (a_as, (arI G 8 o_a)), (a_sk, (arJ G 50 o_k)), (a_l, (arW G 6 f_l)), (a_lo, (oc3 e_cl a_hd a_sr a_cd)), (a_sr, (arI G n_sr f_sr)), (a_cd, (arI G n_cd f_cd)), (a_hd, (arI G n_hd f_hd))] → va_S A s.heap H locs → (0 ≤ o_b.toInt ∧ o_b.toInt ≤ 1000000) → (0 ≤ o_y.toInt ∧ o_y.toInt ≤ 3) → (0 ≤ o_h.toInt ∧ o_h.toInt ≤ 23) → (0 ≤ o_v.toInt ∧ o_v.toInt ≤ 1) → W p l e ({ frames := 12, cells := 0, slots := 0, locals := 500 } : Room) s m args below meth c H locs 0 0 Q (F0 m pc1 ls [])) : W p l e ({ frames := 12, cells := 0, slots := 0, locals := 500 } : Room) s m args below meth c H locs 0 0 Q (F0 m 84 ls []) := by
  refine lv_aload_n hx hb dX5_meetGlass_84 rfl (lv_at hl 1 rfl) ?_
  refine lv_iload_n hx hb dX5_meetGlass_85 rfl (lv_at hl 2 rfl) ?_
  refine lv_iconst (v := 1) hx hb dX5_meetGlass_86 (by decide) ?_
  obtain ⟨hPc, hDc, hFc⟩ := g5_sub3 (wc := [(a_g, (oc6 6 5 a_gn e_g)), (a_gn, (arI G 30 f_g))]) hP hD hS hA [2, 3] (by decide) rfl
  refine va_calli (va_runV (As := [.int k_r, .int 1]) (rest := []) ⟨hx, hb, hml, hown, hts⟩ (t_get_G l G a_g a_gn H.size e_g k_r 1 f_g ⟨by omega, by omega⟩) (cwV 2 hts gV_X5_107 rfl rfl rfl hv_X6_get ⟨Nat.le_of_ble_eq_true rfl, Nat.le_of_ble_eq_true rfl⟩) (g5_preV hPc hK hDc hN hT hS hFc (ci := 6) (q0 := 0) rfl rfl) rfl rfl hl.1 rfl (lv_room (Nat.le_of_ble_eq_true rfl)) dX5_meetGlass_87 ⟨Nat.le_of_ble_eq_true rfl, Nat.le_of_ble_eq_true rfl⟩) hS (fun q _ h => hFc q h) hFc (fun r u t H1 locs ht hvm hw hB hz1 hk1 hS => ?_)
  obtain ⟨hP1, hD1⟩ := hB
  rw [ht] at hP1
  obtain ⟨z2, i_1, y3, rfl⟩ := hw
  have i_1 : z2 = tget f_g e_g.toInt 5 k_r.toInt (1 : Int32).toInt := i_1
  obtain ⟨hP, hD⟩ := va_join (wr := [(a_k, (oc5 a_h a_j a_pt e_ln e_se e_lh e_br e_we e_me e_ce e_wy e_ho e_ov)), (a_h, (oc1 e_wa e_le e_st e_fo e_lc a_l a_g a_b a_s a_p a_w e_gb a_bb)), (a_p, (oc6 8 5 a_pn e_p)), (a_pn, (arI G 40 f_p)), (a_j, (oc2 a_as a_sk)), (a_as, (arI G 8 f_as)), (a_sk, (arJ G 50 f_sk)), (a_l, (arW G 6 f_l)), (a_lo, (oc3 e_cl a_hd a_sr a_cd)), (a_sr, (arI G n_sr f_sr)), (a_cd, (arI G n_cd f_cd)), (a_hd, (arI G n_hd f_hd))]) hP hD [2, 3] [0, 1, 4, 5, 6, 7, 8, 9, 10, 11, 12, 13] rfl rfl (by decide) (by decide) hk1 hFc hP1 hD1
  generalize H1 = H at hP hS ⊢
  refine g5_rs [(a_k, (oc5 a_h a_j a_pt e_ln e_se e_lh e_br e_we e_me e_ce e_wy e_ho e_ov)), (a_h, (oc1 e_wa e_le e_st e_fo e_lc a_l a_g a_b a_s a_p a_w e_gb a_bb)), (a_p, (oc6 8 5 a_pn e_p)), (a_pn, (arI G 40 f_p)), (a_j, (oc2 a_as a_sk)), (a_as, (arI G 8 f_as)), (a_sk, (arJ G 50 f_sk)), (a_l, (arW G 6 f_l)), (a_lo, (oc3 e_cl a_hd a_sr a_cd)), (a_sr, (arI G n_sr f_sr)), (a_cd, (arI G n_cd f_cd)), (a_hd, (arI G n_hd f_hd)), (a_g, (oc6 6 5 a_gn e_g)), (a_gn, (arI G 30 f_g))] hP hD (fun hP hD => ?_)
  refine g5_ti (v := z2) y3 ?_
  have hg_4 : 0 ≤ z2.toInt ∧ z2.toInt ≤ 5 := by rw [i_1]; exact (e_gk k_r.toInt (by omega) (by omega)).2.1
  refine lv_istore (lv' := [(5, .int z2), (0, .ref a_k), (2, .ref a_g), (3, .int k_r), (4, .int k_n)]) hx hb dX5_meetGlass_90 hl (by decide) rfl (fun ls hl => ?_)
  refine lv_aload_n hx hb dX5_meetGlass_92 rfl (lv_at hl 1 rfl) ?_
  refine lv_dup hx hb dX5_meetGlass_93 rfl ?_
  refine va_get (D := G.1) (ci := 5) (v := .int e_me) (C := RX5) (T := TX5) (N := 13) hx hb hts inG_X5 hown hK hP 0 rfl rfl 8 (by decide) (hts _ fl_X5_95) (fun _ h9 => h9) rfl dX5_meetGlass_94 ?_
  refine lv_iconst (v := 1) hx hb dX5_meetGlass_97 (by decide) ?_
  refine lv_iload hx hb dX5_meetGlass_98 (lv_at hl 4 rfl) ?_
  refine lv_ishl hx hb dX5_meetGlass_100 ?_
  refine lv_ior hx hb dX5_meetGlass_101 ?_
  refine va_put (D := G.1) (ci := 5) (v := .int (e_me ||| (1 <<< (k_n &&& 31)))) (ty := .int) (C := RX5) (T := TX5) (N := 13) hx hb hts inG_X5 tyX5 tyX5_ok nmX5 hown hK hP hD hS 0 rfl rfl 8 (by decide) (hts _ fl_X5_95) (fun _ h9 => h9) rfl (by decide +kernel) rfl rfl (Nat.le_of_ble_eq_true rfl) dX5_meetGlass_102 (fun H locs hP hD hS => ?_)
  refine g5_rs [(a_k, (oc5 a_h a_j a_pt e_ln e_se e_lh e_br e_we (e_me ||| (1 <<< (k_n &&& 31))) e_ce e_wy e_ho e_ov)), (a_h, (oc1 e_wa e_le e_st e_fo e_lc a_l a_g a_b a_s a_p a_w e_gb a_bb)), (a_p, (oc6 8 5 a_pn e_p)), (a_pn, (arI G 40 f_p)), (a_j, (oc2 a_as a_sk)), (a_as, (arI G 8 f_as)), (a_sk, (arJ G 50 f_sk)), (a_l, (arW G 6 f_l)), (a_lo, (oc3 e_cl a_hd a_sr a_cd)), (a_sr, (arI G n_sr f_sr)), (a_cd, (arI G n_cd f_cd)), (a_hd, (arI G n_hd f_hd)), (a_g, (oc6 6 5 a_gn e_g)), (a_gn, (arI G 30 f_g))] hP hD (fun hP hD => ?_)
  refine lv_aload_n hx hb dX5_meetGlass_105 rfl (lv_at hl 1 rfl) ?_
  refine va_get (D := G.1) (ci := 5) (v := .ref a_h) (C := RX5) (T := TX5) (N := 13) hx hb hts inG_X5 hown hK hP 0 rfl rfl 0 (by decide) (hts _ fl_X5_22) (fun _ h9 => h9) rfl dX5_meetGlass_106 ?_
  obtain ⟨hPc, hDc, hFc⟩ := g5_sub3 (wc := [(a_h, (oc1 e_wa e_le e_st e_fo e_lc a_l a_g a_b a_s a_p a_w e_gb a_bb)), (a_l, (arW G 6 f_l))]) hP hD hS hA [1, 7] (by decide) rfl
  refine va_callq (va_runV (As := []) (rest := []) ⟨hx, hb, hml, hown, hts⟩ (h_lawL l G a_h a_l a_g a_b a_s a_p a_w a_bb a_lo H.size e_le e_st e_fo e_lc e_wa e_gb f_l (e_f) (e_a)) (cwV 0 hts gV_X5_113 rfl rfl rfl hv_X1_lawInForce ⟨Nat.le_of_ble_eq_true rfl, Nat.le_of_ble_eq_true rfl⟩) (g5_preV hPc hK hDc hN hT hS hFc (ci := 1) (q0 := 0) rfl rfl) rfl rfl hl.1 rfl (lv_room (Nat.le_of_ble_eq_true rfl)) dX5_meetGlass_109 ⟨Nat.le_of_ble_eq_true rfl, Nat.le_of_ble_eq_true rfl⟩) hS (fun q _ h => hFc q h) hFc (fun r u t H1 locs ht hvm hw hB hz1 hk1 hS => ?_)
  obtain ⟨hP1, hD1⟩ := hB
  rw [ht] at hP1
  obtain ⟨rfl, rfl⟩ := hw
  obtain ⟨hP, hD⟩ := va_join (wr := [(a_k, (oc5 a_h a_j a_pt e_ln e_se e_lh e_br e_we (e_me ||| (1 <<< (k_n &&& 31))) e_ce e_wy e_ho e_ov)), (a_p, (oc6 8 5 a_pn e_p)), (a_pn, (arI G 40 f_p)), (a_j, (oc2 a_as a_sk)), (a_as, (arI G 8 f_as)), (a_sk, (arJ G 50 f_sk)), (a_lo, (oc3 e_cl a_hd a_sr a_cd)), (a_sr, (arI G n_sr f_sr)), (a_cd, (arI G n_cd f_cd)), (a_hd, (arI G n_hd f_hd)), (a_g, (oc6 6 5 a_gn e_g)), (a_gn, (arI G 30 f_g))]) hP hD [1, 7] [0, 2, 3, 4, 5, 6, 8, 9, 10, 11, 12, 13] rfl rfl (by decide) (by decide) hk1 hFc hP1 hD1
  generalize H1 = H at hP hS ⊢
  refine g5_rs [(a_k, (oc5 a_h a_j a_pt e_ln e_se e_lh e_br e_we (e_me ||| (1 <<< (k_n &&& 31))) e_ce e_wy e_ho e_ov)), (a_p, (oc6 8 5 a_pn e_p)), (a_pn, (arI G 40 f_p)), (a_j, (oc2 a_as a_sk)), (a_as, (arI G 8 f_as)), (a_sk, (arJ G 50 f_sk)), (a_lo, (oc3 e_cl a_hd a_sr a_cd)), (a_sr, (arI G n_sr f_sr)), (a_cd, (arI G n_cd f_cd)), (a_hd, (arI G n_hd f_hd)), (a_g, (oc6 6 5 a_gn e_g)), (a_gn, (arI G 30 f_g)), (a_h, (oc1 e_wa e_le e_st e_fo e_lc a_l a_g a_b a_s a_p a_w e_gb a_bb)), (a_l, (arW G 6 f_l))] hP hD (fun hP hD => ?_)
  refine g5_tv (v := .ref a_lo) rfl ?_
  refine lv_astore (lv' := [(6, .ref a_lo), (5, .int z2), (0, .ref a_k), (2, .ref a_g), (3, .int k_r), (4, .int k_n)]) hx hb dX5_meetGlass_112 hl (by decide) rfl (fun ls hl => ?_)
  refine lv_aload_n hx hb dX5_meetGlass_114 rfl (lv_at hl 2 rfl) ?_
  refine lv_iload hx hb dX5_meetGlass_115 (lv_at hl 5 rfl) ?_
  refine lv_iconst (v := (-1)) hx hb dX5_meetGlass_117 (by decide) ?_
  obtain ⟨hPc, hDc, hFc⟩ := g5_sub3 (wc := [(a_k, (oc5 a_h a_j a_pt e_ln e_se e_lh e_br e_we (e_me ||| (1 <<< (k_n &&& 31))) e_ce e_wy e_ho e_ov)), (a_j, (oc2 a_as a_sk)), (a_as, (arI G 8 f_as))]) hP hD hS hA [0, 3, 4] (by decide) rfl
  refine va_callv (va_runV (As := [.int k_n, .int (-1)]) (rest := []) ⟨hx, hb, hml, hown, hts⟩ (k_ask l G a_k a_j a_as a_h a_pt a_sk H.size e_ln e_se e_lh e_br e_we (e_me ||| (1 <<< (k_n &&& 31))) e_ce e_wy e_ho e_ov k_n (-1) f_as ⟨by omega, by omega⟩ ⟨by omega, by omega⟩ ⟨by omega, by omega⟩ ⟨by omega, by omega⟩ ⟨by omega, by omega⟩) (cwV 2 hts gV_X5_120 rfl rfl rfl hv_X5_ask ⟨Nat.le_of_ble_eq_true rfl, Nat.le_of_ble_eq_true rfl⟩) (g5_preV hPc hK hDc hN hT hS hFc (ci := 5) (q0 := 0) rfl rfl) rfl rfl hl.1 rfl (lv_room (Nat.le_of_ble_eq_true rfl)) dX5_meetGlass_118 ⟨Nat.le_of_ble_eq_true rfl, Nat.le_of_ble_eq_true rfl⟩) hS (fun q _ h => hFc q h) hFc (fun u t H1 locs ht hvm hw hB hz1 hk1 hS => ?_)
  obtain ⟨hP1, hD1⟩ := hB
  rw [ht] at hP1
  obtain ⟨z5, rfl⟩ := hw
  obtain ⟨hP, hD⟩ := va_join (wr := [(a_p, (oc6 8 5 a_pn e_p)), (a_pn, (arI G 40 f_p)), (a_sk, (arJ G 50 f_sk)), (a_lo, (oc3 e_cl a_hd a_sr a_cd)), (a_sr, (arI G n_sr f_sr)), (a_cd, (arI G n_cd f_cd)), (a_hd, (arI G n_hd f_hd)), (a_g, (oc6 6 5 a_gn e_g)), (a_gn, (arI G 30 f_g)), (a_h, (oc1 e_wa e_le e_st e_fo e_lc a_l a_g a_b a_s a_p a_w e_gb a_bb)), (a_l, (arW G 6 f_l))]) hP hD [0, 3, 4] [1, 2, 5, 6, 7, 8, 9, 10, 11, 12, 13] rfl rfl (by decide) (by decide) hk1 hFc hP1 hD1
  generalize H1 = H at hP hS ⊢
  refine g5_rs [(a_p, (oc6 8 5 a_pn e_p)), (a_pn, (arI G 40 f_p)), (a_sk, (arJ G 50 f_sk)), (a_lo, (oc3 e_cl a_hd a_sr a_cd)), (a_sr, (arI G n_sr f_sr)), (a_cd, (arI G n_cd f_cd)), (a_hd, (arI G n_hd f_hd)), (a_g, (oc6 6 5 a_gn e_g)), (a_gn, (arI G 30 f_g)), (a_h, (oc1 e_wa e_le e_st e_fo e_lc a_l a_g a_b a_s a_p a_w e_gb a_bb)), (a_l, (arW G 6 f_l)), (a_k, (oc5 a_h a_j a_pt e_ln e_se e_lh e_br e_we (e_me ||| (1 <<< (k_n &&& 31))) e_ce e_wy e_ho e_ov)), (a_j, (oc2 a_as a_sk)), (a_as, (arI G 8 z5))] hP hD (fun hP hD => ?_)
  refine lv_aload_n hx hb dX5_meetGlass_121 rfl (lv_at hl 3 rfl) ?_
  refine lv_iload_n hx hb dX5_meetGlass_122 rfl (lv_at hl 4 rfl) ?_
  refine lv_iconst (v := 4) hx hb dX5_meetGlass_123 (by decide) ?_
  obtain ⟨hPc, hDc, hFc⟩ := g5_sub3 (wc := [(a_g, (oc6 6 5 a_gn e_g)), (a_gn, (arI G 30 f_g))]) hP hD hS hA [7, 8] (by decide) rfl
  refine va_calli (va_runV (As := [.int k_r, .int 4]) (rest := []) ⟨hx, hb, hml, hown, hts⟩ (t_get_G l G a_g a_gn H.size e_g k_r 4 f_g ⟨by omega, by omega⟩) (cwV 2 hts gV_X5_107 rfl rfl rfl hv_X6_get ⟨Nat.le_of_ble_eq_true rfl, Nat.le_of_ble_eq_true rfl⟩) (g5_preV hPc hK hDc hN hT hS hFc (ci := 6) (q0 := 0) rfl rfl) rfl rfl hl.1 rfl (lv_room (Nat.le_of_ble_eq_true rfl)) dX5_meetGlass_124 ⟨Nat.le_of_ble_eq_true rfl, Nat.le_of_ble_eq_true rfl⟩) hS (fun q _ h => hFc q h) hFc (fun r u t H1 locs ht hvm hw hB hz1 hk1 hS => ?_)
  obtain ⟨hP1, hD1⟩ := hB
  rw [ht] at hP1
  obtain ⟨z7, i_6, y8, rfl⟩ := hw
  have i_6 : z7 = tget f_g e_g.toInt 5 k_r.toInt (4 : Int32).toInt := i_6
  obtain ⟨hP, hD⟩ := va_join (wr := [(a_p, (oc6 8 5 a_pn e_p)), (a_pn, (arI G 40 f_p)), (a_sk, (arJ G 50 f_sk)), (a_lo, (oc3 e_cl a_hd a_sr a_cd)), (a_sr, (arI G n_sr f_sr)), (a_cd, (arI G n_cd f_cd)), (a_hd, (arI G n_hd f_hd)), (a_h, (oc1 e_wa e_le e_st e_fo e_lc a_l a_g a_b a_s a_p a_w e_gb a_bb)), (a_l, (arW G 6 f_l)), (a_k, (oc5 a_h a_j a_pt e_ln e_se e_lh e_br e_we (e_me ||| (1 <<< (k_n &&& 31))) e_ce e_wy e_ho e_ov)), (a_j, (oc2 a_as a_sk)), (a_as, (arI G 8 z5))]) hP hD [7, 8] [0, 1, 2, 3, 4, 5, 6, 9, 10, 11, 12, 13] rfl rfl (by decide) (by decide) hk1 hFc hP1 hD1
  generalize H1 = H at hP hS ⊢
  refine g5_rs [(a_p, (oc6 8 5 a_pn e_p)), (a_pn, (arI G 40 f_p)), (a_sk, (arJ G 50 f_sk)), (a_lo, (oc3 e_cl a_hd a_sr a_cd)), (a_sr, (arI G n_sr f_sr)), (a_cd, (arI G n_cd f_cd)), (a_hd, (arI G n_hd f_hd)), (a_h, (oc1 e_wa e_le e_st e_fo e_lc a_l a_g a_b a_s a_p a_w e_gb a_bb)), (a_l, (arW G 6 f_l)), (a_k, (oc5 a_h a_j a_pt e_ln e_se e_lh e_br e_we (e_me ||| (1 <<< (k_n &&& 31))) e_ce e_wy e_ho e_ov)), (a_j, (oc2 a_as a_sk)), (a_as, (arI G 8 z5)), (a_g, (oc6 6 5 a_gn e_g)), (a_gn, (arI G 30 f_g))] hP hD (fun hP hD => ?_)
  refine g5_ti (v := z7) y8 ?_
  refine lv_aload_n hx hb dX5_meetGlass_127 rfl (lv_at hl 2 rfl) ?_
  refine va_get (D := G.1) (ci := 5) (v := .int e_ho) (C := RX5) (T := TX5) (N := 13) hx hb hts inG_X5 hown hK hP 9 rfl rfl 11 (by decide) (hts _ fl_X5_33) (fun _ h9 => h9) rfl dX5_meetGlass_128 ?_
  refine lv_ishr hx hb dX5_meetGlass_131 ?_
  refine lv_iconst (v := 1) hx hb dX5_meetGlass_132 (by decide) ?_
  refine lv_iand hx hb dX5_meetGlass_133 ?_
  refine lv_if_ne (tgt := 169) hx hb dX5_meetGlass_134 (by decide) (fun c_9 => ?_) (fun c_9 => ?_)
  ·
    have n_9 : gNe (((z7 >>> (e_ho &&& 31)) &&& 1).toInt) (0) := by have z := g5_ne (a := ((z7 >>> (e_ho &&& 31)) &&& 1).toInt) (b := 0) (by rfl) (by decide) c_9; unfold gNe; omega
    exact kk 169 dX5_meetGlass_169 e_br e_we (e_me ||| (1 <<< (k_n &&& 31))) e_wy e_ho e_ov z5 f_sk ls H locs (hP.sub [9, 7, 12, 13, 0, 1, 10, 11, 2, 8, 3, 4, 5, 6] rfl) (hD.sub [9, 7, 12, 13, 0, 1, 10, 11, 2, 8, 3, 4, 5, 6] (by decide) rfl) hS (⟨by omega, by omega⟩) (⟨by omega, by omega⟩) (⟨by omega, by omega⟩) (⟨by omega, by omega⟩)
  ·
    have i_9 : ((z7 >>> (e_ho &&& 31)) &&& 1).toInt = 0 := by have z := g5_neN (a := ((z7 >>> (e_ho &&& 31)) &&& 1).toInt) (b := 0) (by rfl) (by decide) c_9; omega
    refine lv_aload_n hx hb dX5_meetGlass_137 rfl (lv_at hl 2 rfl) ?_
    refine va_get (D := G.1) (ci := 5) (v := .ref a_j) (C := RX5) (T := TX5) (N := 13) hx hb hts inG_X5 hown hK hP 9 rfl rfl 1 (by decide) (hts _ fl_X5_12) (fun _ h9 => h9) rfl dX5_meetGlass_138 ?_
    refine lv_aload hx hb dX5_meetGlass_141 (lv_at hl 0 rfl) ?_
    refine lv_iconst (v := 2) hx hb dX5_meetGlass_143 (by decide) ?_
    obtain ⟨hPc, hDc, hFc⟩ := g5_sub3 (wc := [(a_j, (oc2 a_as a_sk)), (a_as, (arI G 8 z5)), (a_sk, (arJ G 50 f_sk)), (a_lo, (oc3 e_cl a_hd a_sr a_cd)), (a_sr, (arI G n_sr f_sr)), (a_cd, (arI G n_cd f_cd)), (a_hd, (arI G n_hd f_hd))]) hP hD hS hA [10, 11, 2, 3, 4, 5, 6] (by decide) rfl
    refine va_calli (va_runV (As := [.ref a_lo, .int 2]) (rest := []) ⟨hx, hb, hml, hown, hts⟩ (j_isHeld l G a_j a_as a_sk a_lo a_sr a_cd a_hd H.size 2 e_cl z5 f_sk f_sr f_cd f_hd n_sr n_cd n_hd ⟨by omega, by omega⟩ (e_hn) (e_hs) (e_hk) (e_c)) (cwV 2 hts gV_X5_124 rfl rfl rfl hv_X2_isHeld ⟨Nat.le_of_ble_eq_true rfl, Nat.le_of_ble_eq_true rfl⟩) (g5_preV hPc hK hDc hN hT hS hFc (ci := 2) (q0 := 0) rfl rfl) rfl rfl hl.1 rfl (lv_room (Nat.le_of_ble_eq_true rfl)) dX5_meetGlass_144 ⟨Nat.le_of_ble_eq_true rfl, Nat.le_of_ble_eq_true rfl⟩) hS (fun q _ h => hFc q h) hFc (fun r u t H1 locs ht hvm hw hB hz1 hk1 hS => ?_)
    obtain ⟨hP1, hD1⟩ := hB
    rw [ht] at hP1
    obtain ⟨z11, z12, i_10, y13, rfl⟩ := hw
    have i_10 : 0 ≤ z11.toInt ∧ z11.toInt ≤ 1 := i_10
    obtain ⟨hP, hD⟩ := va_join (wr := [(a_p, (oc6 8 5 a_pn e_p)), (a_pn, (arI G 40 f_p)), (a_h, (oc1 e_wa e_le e_st e_fo e_lc a_l a_g a_b a_s a_p a_w e_gb a_bb)), (a_l, (arW G 6 f_l)), (a_k, (oc5 a_h a_j a_pt e_ln e_se e_lh e_br e_we (e_me ||| (1 <<< (k_n &&& 31))) e_ce e_wy e_ho e_ov)), (a_g, (oc6 6 5 a_gn e_g)), (a_gn, (arI G 30 f_g))]) hP hD [10, 11, 2, 3, 4, 5, 6] [0, 1, 7, 8, 9, 12, 13] rfl rfl (by decide) (by decide) hk1 hFc hP1 hD1
    generalize H1 = H at hP hS ⊢
    refine g5_rs [(a_p, (oc6 8 5 a_pn e_p)), (a_pn, (arI G 40 f_p)), (a_h, (oc1 e_wa e_le e_st e_fo e_lc a_l a_g a_b a_s a_p a_w e_gb a_bb)), (a_l, (arW G 6 f_l)), (a_k, (oc5 a_h a_j a_pt e_ln e_se e_lh e_br e_we (e_me ||| (1 <<< (k_n &&& 31))) e_ce e_wy e_ho e_ov)), (a_g, (oc6 6 5 a_gn e_g)), (a_gn, (arI G 30 f_g)), (a_j, (oc2 a_as a_sk)), (a_as, (arI G 8 z5)), (a_sk, (arJ G 50 z12)), (a_lo, (oc3 e_cl a_hd a_sr a_cd)), (a_sr, (arI G n_sr f_sr)), (a_cd, (arI G n_cd f_cd)), (a_hd, (arI G n_hd f_hd))] hP hD (fun hP hD => ?_)
    refine g5_ti (v := z11) y13 ?_
    refine lv_if_ne (tgt := 169) hx hb dX5_meetGlass_147 (by decide) (fun c_14 => ?_) (fun c_14 => ?_)
    ·
      have n_14 : gNe (z11.toInt) (0) := by have z := g5_ne (a := z11.toInt) (b := 0) (by rfl) (by decide) c_14; unfold gNe; omega
      have i_14 : z11.toInt ≥ 1 := by have z := g5_ne (a := z11.toInt) (b := 0) (by rfl) (by decide) c_14; omega
      exact kk 169 dX5_meetGlass_169 e_br e_we (e_me ||| (1 <<< (k_n &&& 31))) e_wy e_ho e_ov z5 z12 ls H locs (hP.sub [4, 2, 5, 6, 0, 1, 7, 8, 9, 3, 10, 11, 12, 13] rfl) (hD.sub [4, 2, 5, 6, 0, 1, 7, 8, 9, 3, 10, 11, 12, 13] (by decide) rfl) hS (⟨by omega, by omega⟩) (⟨by omega, by omega⟩) (⟨by omega, by omega⟩) (⟨by omega, by omega⟩)
    ·
      have i_14 : z11.toInt = 0 := by have z := g5_neN (a := z11.toInt) (b := 0) (by rfl) (by decide) c_14; omega
      refine lv_iload hx hb dX5_meetGlass_150 (lv_at hl 1 rfl) ?_
      refine lv_iconst (v := 2) hx hb dX5_meetGlass_152 (by decide) ?_
      refine lv_icmp_lt (tgt := 170) hx hb dX5_meetGlass_153 (by decide) (fun c_15 => ?_) (fun c_15 => ?_)
      ·
        have i_15 : z2.toInt < 2 := by have z := g5_lt (a := z2.toInt) (b := 2) (by rfl) (by decide) c_15; omega
        exact k_mggL2 G a_k a_h a_g a_gn a_p a_pn a_j a_as a_sk a_l a_lo a_sr a_cd a_hd a_pt a_b a_s a_w a_bb n_sr n_cd n_hd e_ln e_se e_lh e_br e_we (e_me ||| (1 <<< (k_n &&& 31))) e_ce e_wy e_ho e_ov e_le e_st e_fo e_lc e_wa e_gb e_g f_g e_p f_p z5 z12 f_l e_cl f_sr f_cd f_hd k_r k_n z2 hx hb hml hown hts hK hN hT hA (hP.sub [4, 2, 5, 6, 0, 1, 7, 8, 9, 3, 10, 11, 12, 13] rfl) (hD.sub [4, 2, 5, 6, 0, 1, 7, 8, 9, 3, 10, 11, 12, 13] (by decide) rfl) hS (lv_sub hl [2, 3, 4, 5, 1, 0] rfl) ⟨by omega, by omega⟩ ⟨by omega, by omega⟩ ⟨by omega, by omega⟩ ⟨by omega, by omega⟩ ⟨by omega, by omega⟩ ⟨by omega, by omega⟩ ⟨by omega, by omega⟩ ⟨by omega, by omega⟩ ⟨by omega, by omega⟩ ⟨by omega, by omega⟩ (e_gk) (e_pk) (e_f) (e_a) (e_hn) (e_hs) (e_hk) (e_c) (e_r) kk
      ·
        have i_15 : z2.toInt ≥ 2 := by have z := g5_ltN (a := z2.toInt) (b := 2) (by rfl) (by decide) c_15; omega
        refine lv_iload hx hb dX5_meetGlass_156 (lv_at hl 1 rfl) ?_
        refine lv_iconst (v := 2) hx hb dX5_meetGlass_158 (by decide) ?_
        refine lv_isub hx hb dX5_meetGlass_159 ?_
        have t_16 : (z2 - 2).toInt = z2.toInt - 2 := g5_isub (a := z2.toInt) (b := 2) (by rfl) (by decide) (by omega) (by omega)
        refine lv_aload_n hx hb dX5_meetGlass_160 rfl (lv_at hl 2 rfl) ?_
        refine va_get (D := G.1) (ci := 5) (v := .int e_wy) (C := RX5) (T := TX5) (N := 13) hx hb hts inG_X5 hown hK hP 4 rfl rfl 10 (by decide) (hts _ fl_X5_30) (fun _ h9 => h9) rfl dX5_meetGlass_161 ?_
        refine lv_iconst (v := 2) hx hb dX5_meetGlass_164 (by decide) ?_
        refine lv_ixor hx hb dX5_meetGlass_165 ?_
        have hx_17 := (g_xor (w := e_wy) (by omega) (by omega)).2
        refine lv_icmp_eq (tgt := 170) hx hb dX5_meetGlass_166 (by decide) (fun c_18 => ?_) (fun c_18 => ?_)
        ·
          have i_18 : (z2.toInt - 2) = (e_wy ^^^ 2).toInt := by have z := g5_eq (a := (z2 - 2).toInt) (b := (e_wy ^^^ 2).toInt) (by rfl) (by rfl) c_18; omega
          exact k_mggL2 G a_k a_h a_g a_gn a_p a_pn a_j a_as a_sk a_l a_lo a_sr a_cd a_hd a_pt a_b a_s a_w a_bb n_sr n_cd n_hd e_ln e_se e_lh e_br e_we (e_me ||| (1 <<< (k_n &&& 31))) e_ce e_wy e_ho e_ov e_le e_st e_fo e_lc e_wa e_gb e_g f_g e_p f_p z5 z12 f_l e_cl f_sr f_cd f_hd k_r k_n z2 hx hb hml hown hts hK hN hT hA (hP.sub [4, 2, 5, 6, 0, 1, 7, 8, 9, 3, 10, 11, 12, 13] rfl) (hD.sub [4, 2, 5, 6, 0, 1, 7, 8, 9, 3, 10, 11, 12, 13] (by decide) rfl) hS (lv_sub hl [2, 3, 4, 5, 1, 0] rfl) ⟨by omega, by omega⟩ ⟨by omega, by omega⟩ ⟨by omega, by omega⟩ ⟨by omega, by omega⟩ ⟨by omega, by omega⟩ ⟨by omega, by omega⟩ ⟨by omega, by omega⟩ ⟨by omega, by omega⟩ ⟨by omega, by omega⟩ ⟨by omega, by omega⟩ (e_gk) (e_pk) (e_f) (e_a) (e_hn) (e_hs) (e_hk) (e_c) (e_r) kk
        ·
          have n_18 : gNe ((z2.toInt - 2)) ((e_wy ^^^ 2).toInt) := by have z := g5_eqN (a := (z2 - 2).toInt) (b := (e_wy ^^^ 2).toInt) (by rfl) (by rfl) c_18; unfold gNe; omega
          exact kk 169 dX5_meetGlass_169 e_br e_we (e_me ||| (1 <<< (k_n &&& 31))) e_wy e_ho e_ov z5 z12 ls H locs (hP.sub [4, 2, 5, 6, 0, 1, 7, 8, 9, 3, 10, 11, 12, 13] rfl) (hD.sub [4, 2, 5, 6, 0, 1, 7, 8, 9, 3, 10, 11, 12, 13] (by decide) rfl) hS (⟨by omega, by omega⟩) (⟨by omega, by omega⟩) (⟨by omega, by omega⟩) (⟨by omega, by omega⟩)
set_option maxHeartbeats 4000000 in
set_option maxRecDepth 100000 in
theorem k_mgpL4 {p : Program} {l : Launch} {e : Env} {s : State} {m : MethodId} {args : Array Value} {below : List Frame} {meth : Method} {c : Code} {Q : State → Prop} {A : Nat → Prop} {H : Heap} {locs : List Loc} {ls : Array Slot} (G : g5_G) (a_k a_h a_g a_gn a_p a_pn a_j a_as a_sk a_l a_lo a_sr a_cd a_hd a_pt a_b a_s a_w a_bb n_sr n_cd n_hd : Nat) (e_ln : Int32) (e_se : Int32) (e_lh : Int32) (e_br : Int32) (e_we : Int32) (e_me : Int32) (e_ce : Int32) (e_wy : Int32) (e_ho : Int32) (e_ov : Int32) (e_le : Int32) (e_st : Int32) (e_fo : Int32) (e_lc : Int32) (e_wa : Int64) (e_gb : Int64) (e_g : Int32) (f_g : Nat → Int32) (e_p : Int32) (f_p : Nat → Int32) (f_as : Nat → Int32) (f_sk : Nat → Int64) (f_l : Nat → Option Nat) (e_cl : Int32) (f_sr : Nat → Int32) (f_cd : Nat → Int32) (f_hd : Nat → Int32) (k_r : Int32) (k_n : Int32) (k_s : Int32) (k_l : Int32) (k_d : Int32) (hx : p.tables.exec = Jvm.exec) (hb : c.code = cX5_meetGlass) (hml : c.maxLocals = 9) (hown : s.vm.findClass RX5 = some m.cls) (hts : ∀ w ∈ tblG, w.before args s = true) (hK : va_K G.1 vwCl (T5 G) s) (hN : g5_N s) (hT : g5_S A s s.heap) (hA : ∀ q : Nat, s.heap.size ≤ q → A q) (hP : va_P G.1 vwCl [(a_k, (oc5 a_h a_j a_pt e_ln e_se e_lh e_br e_we e_me e_ce e_wy e_ho e_ov)), (a_h, (oc1 e_wa e_le e_st e_fo e_lc a_l a_g a_b a_s a_p a_w e_gb a_bb)), (a_g, (oc6 6 5 a_gn e_g)), (a_gn, (arI G 30 f_g)), (a_p, (oc6 8 5 a_pn e_p)), (a_pn, (arI G 40 f_p)), (a_j, (oc2 a_as a_sk)), (a_as, (arI G 8 f_as)), (a_sk, (arJ G 50 f_sk)), (a_l, (arW G 6 f_l)), (a_lo, (oc3 e_cl a_hd a_sr a_cd)), (a_sr, (arI G n_sr f_sr)), (a_cd, (arI G n_cd f_cd)), (a_hd, (arI G n_hd f_hd))] H) (hD : va_D A [(a_k, (oc5 a_h a_j a_pt e_ln e_se e_lh e_br e_we e_me e_ce e_wy e_ho e_ov)), (a_h, (oc1 e_wa e_le e_st e_fo e_lc a_l a_g a_b a_s a_p a_w e_gb a_bb)), (a_g, (oc6 6 5 a_gn e_g)), (a_gn, (arI G 30 f_g)), (a_p, (oc6 8 5 a_pn e_p)), (a_pn, (arI G 40 f_p)), (a_j, (oc2 a_as a_sk)), (a_as, (arI G 8 f_as)), (a_sk, (arJ G 50 f_sk)), (a_l, (arW G 6 f_l)), (a_lo, (oc3 e_cl a_hd a_sr a_cd)), (a_sr, (arI G n_sr f_sr)), (a_cd, (arI G n_cd f_cd)), (a_hd, (arI G n_hd f_hd))]) (hS : va_S A s.heap H locs) (hl : lv_has ls 9 [(0, .ref a_k), (2, .ref a_p), (3, .int k_r), (4, .int k_n), (5, .int k_s), (7, .int k_l), (8, .int k_d)]) (h_e_br : 0 ≤ e_br.toInt ∧ e_br.toInt ≤ 1000000) (h_e_ce : 0 ≤ e_ce.toInt ∧ e_ce.toInt ≤ 63) (h_e_wy : 0 ≤ e_wy.toInt ∧ e_wy.toInt ≤ 3) (h_e_ho : 0 ≤ e_ho.toInt ∧ e_ho.toInt ≤ 23) (h_e_ov : 0 ≤ e_ov.toInt ∧ e_ov.toInt ≤ 1) (h_e_g : 0 ≤ e_g.toInt ∧ e_g.toInt ≤ 6) (h_e_p : 0 ≤ e_p.toInt ∧ e_p.toInt ≤ 8) (h_e_cl : 0 ≤ e_cl.toInt ∧ e_cl.toInt ≤ 12) (h_k_r : 0 ≤ k_r.toInt ∧ k_r.toInt ≤ 7) (h_k_s : 0 ≤ k_s.toInt ∧ k_s.toInt ≤ 5) (h_k_l : 0 ≤ k_l.toInt ∧ k_l.toInt ≤ 23) (h_k_d : 0 ≤ k_d.toInt ∧ k_d.toInt ≤ 10) (e_lt : k_l.toInt ≤ e_ho.toInt) (kk : ∀ (pc1 : Nat), decode cX5_meetGlass pc1 = .ok (.return_, 1) → ∀ (o_b : Int32) (o_w : Int32) (o_m : Int32) (o_y : Int32) (o_h : Int32) (o_v : Int32) (o_a : Nat → Int32) (o_k : Nat → Int64) (ls : Array Slot) (H : Heap) (locs : List Loc), va_P G.1 vwCl [(a_k, (oc5 a_h a_j a_pt e_ln e_se e_lh o_b o_w o_m e_ce o_y o_h o_v)), (a_h, (oc1 e_wa e_le e_st e_fo e_lc a_l a_g a_b a_s a_p a_w e_gb a_bb)), (a_g, (oc6 6 5 a_gn e_g)), (a_gn, (arI G 30 f_g)), (a_p, (oc6 8 5 a_pn e_p)), (a_pn, (arI G 40 f_p)), (a_j, (oc2 a_as a_sk)), (a_as, (arI G 8 o_a)), (a_sk, (arJ G 50 o_k)), (a_l, (arW G 6 f_l)), (a_lo, (oc3 e_cl a_hd a_sr a_cd)), (a_sr, (arI G n_sr f_sr)), (a_cd, (arI G n_cd f_cd)), (a_hd, (arI G n_hd f_hd))] H → va_D A [(a_k, (oc5 a_h a_j a_pt e_ln e_se e_lh o_b o_w o_m e_ce o_y o_h o_v)), (a_h, (oc1 e_wa e_le e_st e_fo e_lc a_l a_g a_b a_s a_p a_w e_gb a_bb)), (a_g, (oc6 6 5 a_gn e_g)), (a_gn, (arI G 30 f_g)), (a_p, (oc6 8 5 a_pn e_p)), (a_pn, (arI G 40 f_p)), (a_j, (oc2 a_as a_sk)), (a_as, (arI G 8 o_a)), (a_sk, (arJ G 50 o_k)), (a_l, (arW G 6 f_l)), (a_lo, (oc3 e_cl a_hd a_sr a_cd)), (a_sr, (arI G n_sr f_sr)), (a_cd, (arI G n_cd f_cd)), (a_hd, (arI G n_hd f_hd))] → va_S A s.heap H locs → (0 ≤ o_b.toInt ∧ o_b.toInt ≤ 1000000) → (0 ≤ o_y.toInt ∧ o_y.toInt ≤ 3) → (0 ≤ o_h.toInt ∧ o_h.toInt ≤ 23) → (0 ≤ o_v.toInt ∧ o_v.toInt ≤ 1) → W p l e ({ frames := 12, cells := 0, slots := 0, locals := 500 } : Room) s m args below meth c H locs 0 0 Q (F0 m pc1 ls [])) : W p l e ({ frames := 12, cells := 0, slots := 0, locals := 500 } : Room) s m args below meth c H locs 0 0 Q (F0 m 246 ls []) := by
  refine lv_aload_n hx hb dX5_meetGlass_246 rfl (lv_at hl 0 rfl) ?_
  refine lv_aload_n hx hb dX5_meetGlass_247 rfl (lv_at hl 0 rfl) ?_
  refine va_get (D := G.1) (ci := 5) (v := .int e_br) (C := RX5) (T := TX5) (N := 13) hx hb hts inG_X5 hown hK hP 0 rfl rfl 6 (by decide) (hts _ fl_X5_46) (fun _ h9 => h9) rfl dX5_meetGlass_248 ?_
  refine lv_bipush (v := 10) hx hb dX5_meetGlass_251 (by decide) ?_
  refine lv_iload hx hb dX5_meetGlass_253 (lv_at hl 6 rfl) ?_
  refine lv_isub hx hb dX5_meetGlass_255 ?_
  have t_1 : (10 - k_d).toInt = 10 - k_d.toInt := g5_isub (a := 10) (b := k_d.toInt) (by decide) (by rfl) (by omega) (by omega)
  refine lv_imul hx hb dX5_meetGlass_256 ?_
  refine lv_bipush (v := 10) hx hb dX5_meetGlass_257 (by decide) ?_
  refine lv_idiv hx hb dX5_meetGlass_259 (by decide) ?_
  have hb_2 : 0 ≤ ((e_br * (10 - k_d)) / 10).toInt ∧ ((e_br * (10 - k_d)) / 10).toInt ≤ 1000000 := g_dust (by omega) (by omega)
  refine va_put (D := G.1) (ci := 5) (v := .int ((e_br * (10 - k_d)) / 10)) (ty := .int) (C := RX5) (T := TX5) (N := 13) hx hb hts inG_X5 tyX5 tyX5_ok nmX5 hown hK hP hD hS 0 rfl rfl 6 (by decide) (hts _ fl_X5_46) (fun _ h9 => h9) rfl (by decide +kernel) rfl rfl (Nat.le_of_ble_eq_true rfl) dX5_meetGlass_260 (fun H locs hP hD hS => ?_)
  refine g5_rs [(a_k, (oc5 a_h a_j a_pt e_ln e_se e_lh ((e_br * (10 - k_d)) / 10) e_we e_me e_ce e_wy e_ho e_ov)), (a_h, (oc1 e_wa e_le e_st e_fo e_lc a_l a_g a_b a_s a_p a_w e_gb a_bb)), (a_g, (oc6 6 5 a_gn e_g)), (a_gn, (arI G 30 f_g)), (a_p, (oc6 8 5 a_pn e_p)), (a_pn, (arI G 40 f_p)), (a_j, (oc2 a_as a_sk)), (a_as, (arI G 8 f_as)), (a_sk, (arJ G 50 f_sk)), (a_l, (arW G 6 f_l)), (a_lo, (oc3 e_cl a_hd a_sr a_cd)), (a_sr, (arI G n_sr f_sr)), (a_cd, (arI G n_cd f_cd)), (a_hd, (arI G n_hd f_hd))] hP hD (fun hP hD => ?_)
  refine lv_aload_n hx hb dX5_meetGlass_263 rfl (lv_at hl 0 rfl) ?_
  refine va_get (D := G.1) (ci := 5) (v := .int ((e_br * (10 - k_d)) / 10)) (C := RX5) (T := TX5) (N := 13) hx hb hts inG_X5 hown hK hP 0 rfl rfl 6 (by decide) (hts _ fl_X5_46) (fun _ h9 => h9) rfl dX5_meetGlass_264 ?_
  refine lv_aload_n hx hb dX5_meetGlass_267 rfl (lv_at hl 0 rfl) ?_
  refine va_get (D := G.1) (ci := 5) (v := .ref a_h) (C := RX5) (T := TX5) (N := 13) hx hb hts inG_X5 hown hK hP 0 rfl rfl 0 (by decide) (hts _ fl_X5_22) (fun _ h9 => h9) rfl dX5_meetGlass_268 ?_
  refine va_get (D := G.1) (ci := 1) (v := .int e_le) (C := RX1) (T := TX1) (N := 13) hx hb hts inG_X1 hown hK hP 1 rfl rfl 1 (by decide) (hts _ fl_X5_138) (fun _ h9 => h9) rfl dX5_meetGlass_271 ?_
  refine lv_icmp_ge (tgt := 278) hx hb dX5_meetGlass_274 (by decide) (fun c_3 => ?_) (fun c_3 => ?_)
  ·
    have i_3 : ((e_br * (10 - k_d)) / 10).toInt ≥ e_le.toInt := by have z := g5_ge (a := ((e_br * (10 - k_d)) / 10).toInt) (b := e_le.toInt) (by rfl) (by rfl) c_3; omega
    refine lv_aload_n hx hb dX5_meetGlass_278 rfl (lv_at hl 0 rfl) ?_
    refine lv_dup hx hb dX5_meetGlass_279 rfl ?_
    refine va_get (D := G.1) (ci := 5) (v := .int e_ho) (C := RX5) (T := TX5) (N := 13) hx hb hts inG_X5 hown hK hP 0 rfl rfl 11 (by decide) (hts _ fl_X5_33) (fun _ h9 => h9) rfl dX5_meetGlass_280 ?_
    refine lv_iload hx hb dX5_meetGlass_283 (lv_at hl 5 rfl) ?_
    refine lv_isub hx hb dX5_meetGlass_285 ?_
    have t_4 : (e_ho - k_l).toInt = e_ho.toInt - k_l.toInt := g5_isub (a := e_ho.toInt) (b := k_l.toInt) (by rfl) (by rfl) (by omega) (by omega)
    refine va_put (D := G.1) (ci := 5) (v := .int (e_ho - k_l)) (ty := .int) (C := RX5) (T := TX5) (N := 13) hx hb hts inG_X5 tyX5 tyX5_ok nmX5 hown hK hP hD hS 0 rfl rfl 11 (by decide) (hts _ fl_X5_33) (fun _ h9 => h9) rfl (by decide +kernel) rfl rfl (Nat.le_of_ble_eq_true rfl) dX5_meetGlass_286 (fun H locs hP hD hS => ?_)
    refine g5_rs [(a_k, (oc5 a_h a_j a_pt e_ln e_se e_lh ((e_br * (10 - k_d)) / 10) e_we e_me e_ce e_wy (e_ho - k_l) e_ov)), (a_h, (oc1 e_wa e_le e_st e_fo e_lc a_l a_g a_b a_s a_p a_w e_gb a_bb)), (a_g, (oc6 6 5 a_gn e_g)), (a_gn, (arI G 30 f_g)), (a_p, (oc6 8 5 a_pn e_p)), (a_pn, (arI G 40 f_p)), (a_j, (oc2 a_as a_sk)), (a_as, (arI G 8 f_as)), (a_sk, (arJ G 50 f_sk)), (a_l, (arW G 6 f_l)), (a_lo, (oc3 e_cl a_hd a_sr a_cd)), (a_sr, (arI G n_sr f_sr)), (a_cd, (arI G n_cd f_cd)), (a_hd, (arI G n_hd f_hd))] hP hD (fun hP hD => ?_)
    refine lv_aload_n hx hb dX5_meetGlass_289 rfl (lv_at hl 0 rfl) ?_
    refine lv_iload hx hb dX5_meetGlass_290 (lv_at hl 4 rfl) ?_
    refine lv_if_ne (tgt := 304) hx hb dX5_meetGlass_292 (by decide) (fun c_5 => ?_) (fun c_5 => ?_)
    ·
      have n_5 : gNe (k_s.toInt) (0) := by have z := g5_ne (a := k_s.toInt) (b := 0) (by rfl) (by decide) c_5; unfold gNe; omega
      have i_5 : k_s.toInt ≥ 1 := by have z := g5_ne (a := k_s.toInt) (b := 0) (by rfl) (by decide) c_5; omega
      refine lv_iload hx hb dX5_meetGlass_304 (lv_at hl 4 rfl) ?_
      refine lv_iconst (v := 1) hx hb dX5_meetGlass_306 (by decide) ?_
      refine lv_icmp_ne (tgt := 319) hx hb dX5_meetGlass_307 (by decide) (fun c_6 => ?_) (fun c_6 => ?_)
      ·
        have n_6 : gNe (k_s.toInt) (1) := by have z := g5_ne (a := k_s.toInt) (b := 1) (by rfl) (by decide) c_6; unfold gNe; omega
        have i_6 : k_s.toInt ≥ 2 := by have z := g5_ne (a := k_s.toInt) (b := 1) (by rfl) (by decide) c_6; omega
        refine lv_aload_n hx hb dX5_meetGlass_319 rfl (lv_at hl 0 rfl) ?_
        refine va_get (D := G.1) (ci := 5) (v := .int e_wy) (C := RX5) (T := TX5) (N := 13) hx hb hts inG_X5 hown hK hP 0 rfl rfl 10 (by decide) (hts _ fl_X5_30) (fun _ h9 => h9) rfl dX5_meetGlass_320 ?_
        refine lv_iconst (v := 2) hx hb dX5_meetGlass_323 (by decide) ?_
        refine lv_ixor hx hb dX5_meetGlass_324 ?_
        have hx_7 := (g_xor (w := e_wy) (by omega) (by omega)).2
        refine va_put (D := G.1) (ci := 5) (v := .int (e_wy ^^^ 2)) (ty := .int) (C := RX5) (T := TX5) (N := 13) hx hb hts inG_X5 tyX5 tyX5_ok nmX5 hown hK hP hD hS 0 rfl rfl 10 (by decide) (hts _ fl_X5_30) (fun _ h9 => h9) rfl (by decide +kernel) rfl rfl (Nat.le_of_ble_eq_true rfl) dX5_meetGlass_325 (fun H locs hP hD hS => ?_)
        refine g5_rs [(a_k, (oc5 a_h a_j a_pt e_ln e_se e_lh ((e_br * (10 - k_d)) / 10) e_we e_me e_ce (e_wy ^^^ 2) (e_ho - k_l) e_ov)), (a_h, (oc1 e_wa e_le e_st e_fo e_lc a_l a_g a_b a_s a_p a_w e_gb a_bb)), (a_g, (oc6 6 5 a_gn e_g)), (a_gn, (arI G 30 f_g)), (a_p, (oc6 8 5 a_pn e_p)), (a_pn, (arI G 40 f_p)), (a_j, (oc2 a_as a_sk)), (a_as, (arI G 8 f_as)), (a_sk, (arJ G 50 f_sk)), (a_l, (arW G 6 f_l)), (a_lo, (oc3 e_cl a_hd a_sr a_cd)), (a_sr, (arI G n_sr f_sr)), (a_cd, (arI G n_cd f_cd)), (a_hd, (arI G n_hd f_hd))] hP hD (fun hP hD => ?_)
        refine lv_aload_n hx hb dX5_meetGlass_328 rfl (lv_at hl 0 rfl) ?_
        refine lv_dup hx hb dX5_meetGlass_329 rfl ?_
        refine va_get (D := G.1) (ci := 5) (v := .int e_we) (C := RX5) (T := TX5) (N := 13) hx hb hts inG_X5 hown hK hP 0 rfl rfl 7 (by decide) (hts _ fl_X5_49) (fun _ h9 => h9) rfl dX5_meetGlass_330 ?_
        refine lv_iconst (v := 1) hx hb dX5_meetGlass_333 (by decide) ?_
        refine lv_iload hx hb dX5_meetGlass_334 (lv_at hl 3 rfl) ?_
        refine lv_ishl hx hb dX5_meetGlass_336 ?_
        refine lv_ior hx hb dX5_meetGlass_337 ?_
        refine va_put (D := G.1) (ci := 5) (v := .int (e_we ||| (1 <<< (k_n &&& 31)))) (ty := .int) (C := RX5) (T := TX5) (N := 13) hx hb hts inG_X5 tyX5 tyX5_ok nmX5 hown hK hP hD hS 0 rfl rfl 7 (by decide) (hts _ fl_X5_49) (fun _ h9 => h9) rfl (by decide +kernel) rfl rfl (Nat.le_of_ble_eq_true rfl) dX5_meetGlass_338 (fun H locs hP hD hS => ?_)
        refine g5_rs [(a_k, (oc5 a_h a_j a_pt e_ln e_se e_lh ((e_br * (10 - k_d)) / 10) (e_we ||| (1 <<< (k_n &&& 31))) e_me e_ce (e_wy ^^^ 2) (e_ho - k_l) e_ov)), (a_h, (oc1 e_wa e_le e_st e_fo e_lc a_l a_g a_b a_s a_p a_w e_gb a_bb)), (a_g, (oc6 6 5 a_gn e_g)), (a_gn, (arI G 30 f_g)), (a_p, (oc6 8 5 a_pn e_p)), (a_pn, (arI G 40 f_p)), (a_j, (oc2 a_as a_sk)), (a_as, (arI G 8 f_as)), (a_sk, (arJ G 50 f_sk)), (a_l, (arW G 6 f_l)), (a_lo, (oc3 e_cl a_hd a_sr a_cd)), (a_sr, (arI G n_sr f_sr)), (a_cd, (arI G n_cd f_cd)), (a_hd, (arI G n_hd f_hd))] hP hD (fun hP hD => ?_)
        refine lv_aload_n hx hb dX5_meetGlass_341 rfl (lv_at hl 0 rfl) ?_
        refine lv_iconst (v := 0) hx hb dX5_meetGlass_342 (by decide) ?_
        refine va_put (D := G.1) (ci := 5) (v := .int 0) (ty := .boolean) (C := RX5) (T := TX5) (N := 13) hx hb hts inG_X5 tyX5 tyX5_ok nmX5 hown hK hP hD hS 0 rfl rfl 12 (by decide) (hts _ fl_X5_56) (fun _ h9 => h9) rfl (by decide +kernel) rfl rfl (Nat.le_of_ble_eq_true rfl) dX5_meetGlass_343 (fun H locs hP hD hS => ?_)
        refine g5_rs [(a_k, (oc5 a_h a_j a_pt e_ln e_se e_lh ((e_br * (10 - k_d)) / 10) (e_we ||| (1 <<< (k_n &&& 31))) e_me e_ce (e_wy ^^^ 2) (e_ho - k_l) 0)), (a_h, (oc1 e_wa e_le e_st e_fo e_lc a_l a_g a_b a_s a_p a_w e_gb a_bb)), (a_g, (oc6 6 5 a_gn e_g)), (a_gn, (arI G 30 f_g)), (a_p, (oc6 8 5 a_pn e_p)), (a_pn, (arI G 40 f_p)), (a_j, (oc2 a_as a_sk)), (a_as, (arI G 8 f_as)), (a_sk, (arJ G 50 f_sk)), (a_l, (arW G 6 f_l)), (a_lo, (oc3 e_cl a_hd a_sr a_cd)), (a_sr, (arI G n_sr f_sr)), (a_cd, (arI G n_cd f_cd)), (a_hd, (arI G n_hd f_hd))] hP hD (fun hP hD => ?_)
        exact kk 346 dX5_meetGlass_346 ((e_br * (10 - k_d)) / 10) (e_we ||| (1 <<< (k_n &&& 31))) e_me (e_wy ^^^ 2) (e_ho - k_l) 0 f_as f_sk ls H locs (hP.sub [0, 1, 2, 3, 4, 5, 6, 7, 8, 9, 10, 11, 12, 13] rfl) (hD.sub [0, 1, 2, 3, 4, 5, 6, 7, 8, 9, 10, 11, 12, 13] (by decide) rfl) hS (⟨by omega, by omega⟩) (⟨by omega, by omega⟩) (⟨by omega, by omega⟩) (⟨by have zc_o_v : (0 : Int32).toInt = 0 := (by decide); omega, by have zc_o_v : (0 : Int32).toInt = 0 := (by decide); omega⟩)
      ·
        have i_6 : k_s.toInt = 1 := by have z := g5_neN (a := k_s.toInt) (b := 1) (by rfl) (by decide) c_6; omega
        refine lv_iconst (v := 3) hx hb dX5_meetGlass_310 (by decide) ?_
        refine lv_aload_n hx hb dX5_meetGlass_311 rfl (lv_at hl 0 rfl) ?_
        refine va_get (D := G.1) (ci := 5) (v := .int e_wy) (C := RX5) (T := TX5) (N := 13) hx hb hts inG_X5 hown hK hP 0 rfl rfl 10 (by decide) (hts _ fl_X5_30) (fun _ h9 => h9) rfl dX5_meetGlass_312 ?_
        refine lv_isub hx hb dX5_meetGlass_315 ?_
        have t_8 : (3 - e_wy).toInt = 3 - e_wy.toInt := g5_isub (a := 3) (b := e_wy.toInt) (by decide) (by rfl) (by omega) (by omega)
        refine lv_goto (tgt := 325) hx hb dX5_meetGlass_316 (by decide) ?_
        refine va_put (D := G.1) (ci := 5) (v := .int (3 - e_wy)) (ty := .int) (C := RX5) (T := TX5) (N := 13) hx hb hts inG_X5 tyX5 tyX5_ok nmX5 hown hK hP hD hS 0 rfl rfl 10 (by decide) (hts _ fl_X5_30) (fun _ h9 => h9) rfl (by decide +kernel) rfl rfl (Nat.le_of_ble_eq_true rfl) dX5_meetGlass_325 (fun H locs hP hD hS => ?_)
        refine g5_rs [(a_k, (oc5 a_h a_j a_pt e_ln e_se e_lh ((e_br * (10 - k_d)) / 10) e_we e_me e_ce (3 - e_wy) (e_ho - k_l) e_ov)), (a_h, (oc1 e_wa e_le e_st e_fo e_lc a_l a_g a_b a_s a_p a_w e_gb a_bb)), (a_g, (oc6 6 5 a_gn e_g)), (a_gn, (arI G 30 f_g)), (a_p, (oc6 8 5 a_pn e_p)), (a_pn, (arI G 40 f_p)), (a_j, (oc2 a_as a_sk)), (a_as, (arI G 8 f_as)), (a_sk, (arJ G 50 f_sk)), (a_l, (arW G 6 f_l)), (a_lo, (oc3 e_cl a_hd a_sr a_cd)), (a_sr, (arI G n_sr f_sr)), (a_cd, (arI G n_cd f_cd)), (a_hd, (arI G n_hd f_hd))] hP hD (fun hP hD => ?_)
        refine lv_aload_n hx hb dX5_meetGlass_328 rfl (lv_at hl 0 rfl) ?_
        refine lv_dup hx hb dX5_meetGlass_329 rfl ?_
        refine va_get (D := G.1) (ci := 5) (v := .int e_we) (C := RX5) (T := TX5) (N := 13) hx hb hts inG_X5 hown hK hP 0 rfl rfl 7 (by decide) (hts _ fl_X5_49) (fun _ h9 => h9) rfl dX5_meetGlass_330 ?_
        refine lv_iconst (v := 1) hx hb dX5_meetGlass_333 (by decide) ?_
        refine lv_iload hx hb dX5_meetGlass_334 (lv_at hl 3 rfl) ?_
        refine lv_ishl hx hb dX5_meetGlass_336 ?_
        refine lv_ior hx hb dX5_meetGlass_337 ?_
        refine va_put (D := G.1) (ci := 5) (v := .int (e_we ||| (1 <<< (k_n &&& 31)))) (ty := .int) (C := RX5) (T := TX5) (N := 13) hx hb hts inG_X5 tyX5 tyX5_ok nmX5 hown hK hP hD hS 0 rfl rfl 7 (by decide) (hts _ fl_X5_49) (fun _ h9 => h9) rfl (by decide +kernel) rfl rfl (Nat.le_of_ble_eq_true rfl) dX5_meetGlass_338 (fun H locs hP hD hS => ?_)
        refine g5_rs [(a_k, (oc5 a_h a_j a_pt e_ln e_se e_lh ((e_br * (10 - k_d)) / 10) (e_we ||| (1 <<< (k_n &&& 31))) e_me e_ce (3 - e_wy) (e_ho - k_l) e_ov)), (a_h, (oc1 e_wa e_le e_st e_fo e_lc a_l a_g a_b a_s a_p a_w e_gb a_bb)), (a_g, (oc6 6 5 a_gn e_g)), (a_gn, (arI G 30 f_g)), (a_p, (oc6 8 5 a_pn e_p)), (a_pn, (arI G 40 f_p)), (a_j, (oc2 a_as a_sk)), (a_as, (arI G 8 f_as)), (a_sk, (arJ G 50 f_sk)), (a_l, (arW G 6 f_l)), (a_lo, (oc3 e_cl a_hd a_sr a_cd)), (a_sr, (arI G n_sr f_sr)), (a_cd, (arI G n_cd f_cd)), (a_hd, (arI G n_hd f_hd))] hP hD (fun hP hD => ?_)
        refine lv_aload_n hx hb dX5_meetGlass_341 rfl (lv_at hl 0 rfl) ?_
        refine lv_iconst (v := 0) hx hb dX5_meetGlass_342 (by decide) ?_
        refine va_put (D := G.1) (ci := 5) (v := .int 0) (ty := .boolean) (C := RX5) (T := TX5) (N := 13) hx hb hts inG_X5 tyX5 tyX5_ok nmX5 hown hK hP hD hS 0 rfl rfl 12 (by decide) (hts _ fl_X5_56) (fun _ h9 => h9) rfl (by decide +kernel) rfl rfl (Nat.le_of_ble_eq_true rfl) dX5_meetGlass_343 (fun H locs hP hD hS => ?_)
        refine g5_rs [(a_k, (oc5 a_h a_j a_pt e_ln e_se e_lh ((e_br * (10 - k_d)) / 10) (e_we ||| (1 <<< (k_n &&& 31))) e_me e_ce (3 - e_wy) (e_ho - k_l) 0)), (a_h, (oc1 e_wa e_le e_st e_fo e_lc a_l a_g a_b a_s a_p a_w e_gb a_bb)), (a_g, (oc6 6 5 a_gn e_g)), (a_gn, (arI G 30 f_g)), (a_p, (oc6 8 5 a_pn e_p)), (a_pn, (arI G 40 f_p)), (a_j, (oc2 a_as a_sk)), (a_as, (arI G 8 f_as)), (a_sk, (arJ G 50 f_sk)), (a_l, (arW G 6 f_l)), (a_lo, (oc3 e_cl a_hd a_sr a_cd)), (a_sr, (arI G n_sr f_sr)), (a_cd, (arI G n_cd f_cd)), (a_hd, (arI G n_hd f_hd))] hP hD (fun hP hD => ?_)
        exact kk 346 dX5_meetGlass_346 ((e_br * (10 - k_d)) / 10) (e_we ||| (1 <<< (k_n &&& 31))) e_me (3 - e_wy) (e_ho - k_l) 0 f_as f_sk ls H locs (hP.sub [0, 1, 2, 3, 4, 5, 6, 7, 8, 9, 10, 11, 12, 13] rfl) (hD.sub [0, 1, 2, 3, 4, 5, 6, 7, 8, 9, 10, 11, 12, 13] (by decide) rfl) hS (⟨by omega, by omega⟩) (⟨by omega, by omega⟩) (⟨by omega, by omega⟩) (⟨by have zc_o_v : (0 : Int32).toInt = 0 := (by decide); omega, by have zc_o_v : (0 : Int32).toInt = 0 := (by decide); omega⟩)
    ·
      have i_5 : k_s.toInt = 0 := by have z := g5_neN (a := k_s.toInt) (b := 0) (by rfl) (by decide) c_5; omega
      refine lv_aload_n hx hb dX5_meetGlass_295 rfl (lv_at hl 0 rfl) ?_
      refine va_get (D := G.1) (ci := 5) (v := .int e_wy) (C := RX5) (T := TX5) (N := 13) hx hb hts inG_X5 hown hK hP 0 rfl rfl 10 (by decide) (hts _ fl_X5_30) (fun _ h9 => h9) rfl dX5_meetGlass_296 ?_
      refine lv_iconst (v := 1) hx hb dX5_meetGlass_299 (by decide) ?_
      refine lv_ixor hx hb dX5_meetGlass_300 ?_
      have hx_9 := (g_xor (w := e_wy) (by omega) (by omega)).1
      refine lv_goto (tgt := 325) hx hb dX5_meetGlass_301 (by decide) ?_
      refine va_put (D := G.1) (ci := 5) (v := .int (e_wy ^^^ 1)) (ty := .int) (C := RX5) (T := TX5) (N := 13) hx hb hts inG_X5 tyX5 tyX5_ok nmX5 hown hK hP hD hS 0 rfl rfl 10 (by decide) (hts _ fl_X5_30) (fun _ h9 => h9) rfl (by decide +kernel) rfl rfl (Nat.le_of_ble_eq_true rfl) dX5_meetGlass_325 (fun H locs hP hD hS => ?_)
      refine g5_rs [(a_k, (oc5 a_h a_j a_pt e_ln e_se e_lh ((e_br * (10 - k_d)) / 10) e_we e_me e_ce (e_wy ^^^ 1) (e_ho - k_l) e_ov)), (a_h, (oc1 e_wa e_le e_st e_fo e_lc a_l a_g a_b a_s a_p a_w e_gb a_bb)), (a_g, (oc6 6 5 a_gn e_g)), (a_gn, (arI G 30 f_g)), (a_p, (oc6 8 5 a_pn e_p)), (a_pn, (arI G 40 f_p)), (a_j, (oc2 a_as a_sk)), (a_as, (arI G 8 f_as)), (a_sk, (arJ G 50 f_sk)), (a_l, (arW G 6 f_l)), (a_lo, (oc3 e_cl a_hd a_sr a_cd)), (a_sr, (arI G n_sr f_sr)), (a_cd, (arI G n_cd f_cd)), (a_hd, (arI G n_hd f_hd))] hP hD (fun hP hD => ?_)
      refine lv_aload_n hx hb dX5_meetGlass_328 rfl (lv_at hl 0 rfl) ?_
      refine lv_dup hx hb dX5_meetGlass_329 rfl ?_
      refine va_get (D := G.1) (ci := 5) (v := .int e_we) (C := RX5) (T := TX5) (N := 13) hx hb hts inG_X5 hown hK hP 0 rfl rfl 7 (by decide) (hts _ fl_X5_49) (fun _ h9 => h9) rfl dX5_meetGlass_330 ?_
      refine lv_iconst (v := 1) hx hb dX5_meetGlass_333 (by decide) ?_
      refine lv_iload hx hb dX5_meetGlass_334 (lv_at hl 3 rfl) ?_
      refine lv_ishl hx hb dX5_meetGlass_336 ?_
      refine lv_ior hx hb dX5_meetGlass_337 ?_
      refine va_put (D := G.1) (ci := 5) (v := .int (e_we ||| (1 <<< (k_n &&& 31)))) (ty := .int) (C := RX5) (T := TX5) (N := 13) hx hb hts inG_X5 tyX5 tyX5_ok nmX5 hown hK hP hD hS 0 rfl rfl 7 (by decide) (hts _ fl_X5_49) (fun _ h9 => h9) rfl (by decide +kernel) rfl rfl (Nat.le_of_ble_eq_true rfl) dX5_meetGlass_338 (fun H locs hP hD hS => ?_)
      refine g5_rs [(a_k, (oc5 a_h a_j a_pt e_ln e_se e_lh ((e_br * (10 - k_d)) / 10) (e_we ||| (1 <<< (k_n &&& 31))) e_me e_ce (e_wy ^^^ 1) (e_ho - k_l) e_ov)), (a_h, (oc1 e_wa e_le e_st e_fo e_lc a_l a_g a_b a_s a_p a_w e_gb a_bb)), (a_g, (oc6 6 5 a_gn e_g)), (a_gn, (arI G 30 f_g)), (a_p, (oc6 8 5 a_pn e_p)), (a_pn, (arI G 40 f_p)), (a_j, (oc2 a_as a_sk)), (a_as, (arI G 8 f_as)), (a_sk, (arJ G 50 f_sk)), (a_l, (arW G 6 f_l)), (a_lo, (oc3 e_cl a_hd a_sr a_cd)), (a_sr, (arI G n_sr f_sr)), (a_cd, (arI G n_cd f_cd)), (a_hd, (arI G n_hd f_hd))] hP hD (fun hP hD => ?_)
      refine lv_aload_n hx hb dX5_meetGlass_341 rfl (lv_at hl 0 rfl) ?_
      refine lv_iconst (v := 0) hx hb dX5_meetGlass_342 (by decide) ?_
      refine va_put (D := G.1) (ci := 5) (v := .int 0) (ty := .boolean) (C := RX5) (T := TX5) (N := 13) hx hb hts inG_X5 tyX5 tyX5_ok nmX5 hown hK hP hD hS 0 rfl rfl 12 (by decide) (hts _ fl_X5_56) (fun _ h9 => h9) rfl (by decide +kernel) rfl rfl (Nat.le_of_ble_eq_true rfl) dX5_meetGlass_343 (fun H locs hP hD hS => ?_)
      refine g5_rs [(a_k, (oc5 a_h a_j a_pt e_ln e_se e_lh ((e_br * (10 - k_d)) / 10) (e_we ||| (1 <<< (k_n &&& 31))) e_me e_ce (e_wy ^^^ 1) (e_ho - k_l) 0)), (a_h, (oc1 e_wa e_le e_st e_fo e_lc a_l a_g a_b a_s a_p a_w e_gb a_bb)), (a_g, (oc6 6 5 a_gn e_g)), (a_gn, (arI G 30 f_g)), (a_p, (oc6 8 5 a_pn e_p)), (a_pn, (arI G 40 f_p)), (a_j, (oc2 a_as a_sk)), (a_as, (arI G 8 f_as)), (a_sk, (arJ G 50 f_sk)), (a_l, (arW G 6 f_l)), (a_lo, (oc3 e_cl a_hd a_sr a_cd)), (a_sr, (arI G n_sr f_sr)), (a_cd, (arI G n_cd f_cd)), (a_hd, (arI G n_hd f_hd))] hP hD (fun hP hD => ?_)
      exact kk 346 dX5_meetGlass_346 ((e_br * (10 - k_d)) / 10) (e_we ||| (1 <<< (k_n &&& 31))) e_me (e_wy ^^^ 1) (e_ho - k_l) 0 f_as f_sk ls H locs (hP.sub [0, 1, 2, 3, 4, 5, 6, 7, 8, 9, 10, 11, 12, 13] rfl) (hD.sub [0, 1, 2, 3, 4, 5, 6, 7, 8, 9, 10, 11, 12, 13] (by decide) rfl) hS (⟨by omega, by omega⟩) (⟨by omega, by omega⟩) (⟨by omega, by omega⟩) (⟨by have zc_o_v : (0 : Int32).toInt = 0 := (by decide); omega, by have zc_o_v : (0 : Int32).toInt = 0 := (by decide); omega⟩)
  ·
    have i_3 : ((e_br * (10 - k_d)) / 10).toInt < e_le.toInt := by have z := g5_geN (a := ((e_br * (10 - k_d)) / 10).toInt) (b := e_le.toInt) (by rfl) (by rfl) c_3; omega
    exact kk 277 dX5_meetGlass_277 ((e_br * (10 - k_d)) / 10) e_we e_me e_wy e_ho e_ov f_as f_sk ls H locs (hP.sub [0, 1, 2, 3, 4, 5, 6, 7, 8, 9, 10, 11, 12, 13] rfl) (hD.sub [0, 1, 2, 3, 4, 5, 6, 7, 8, 9, 10, 11, 12, 13] (by decide) rfl) hS (⟨by omega, by omega⟩) (⟨by omega, by omega⟩) (⟨by omega, by omega⟩) (⟨by omega, by omega⟩)
set_option maxHeartbeats 4000000 in
set_option maxRecDepth 100000 in
theorem k_mgpL3 {p : Program} {l : Launch} {e : Env} {s : State} {m : MethodId} {args : Array Value} {below : List Frame} {meth : Method} {c : Code} {Q : State → Prop} {A : Nat → Prop} {H : Heap} {locs : List Loc} {ls : Array Slot} (G : g5_G) (a_k a_h a_g a_gn a_p a_pn a_j a_as a_sk a_l a_lo a_sr a_cd a_hd a_pt a_b a_s a_w a_bb n_sr n_cd n_hd : Nat) (e_ln : Int32) (e_se : Int32) (e_lh : Int32) (e_br : Int32) (e_we : Int32) (e_me : Int32) (e_ce : Int32) (e_wy : Int32) (e_ho : Int32) (e_ov : Int32) (e_le : Int32) (e_st : Int32) (e_fo : Int32) (e_lc : Int32) (e_wa : Int64) (e_gb : Int64) (e_g : Int32) (f_g : Nat → Int32) (e_p : Int32) (f_p : Nat → Int32) (f_as : Nat → Int32) (f_sk : Nat → Int64) (f_l : Nat → Option Nat) (e_cl : Int32) (f_sr : Nat → Int32) (f_cd : Nat → Int32) (f_hd : Nat → Int32) (k_r : Int32) (k_n : Int32) (k_s : Int32) (k_l : Int32) (hx : p.tables.exec = Jvm.exec) (hb : c.code = cX5_meetGlass) (hml : c.maxLocals = 9) (hown : s.vm.findClass RX5 = some m.cls) (hts : ∀ w ∈ tblG, w.before args s = true) (hK : va_K G.1 vwCl (T5 G) s) (hN : g5_N s) (hT : g5_S A s s.heap) (hA : ∀ q : Nat, s.heap.size ≤ q → A q) (hP : va_P G.1 vwCl [(a_k, (oc5 a_h a_j a_pt e_ln e_se e_lh e_br e_we e_me e_ce e_wy e_ho e_ov)), (a_h, (oc1 e_wa e_le e_st e_fo e_lc a_l a_g a_b a_s a_p a_w e_gb a_bb)), (a_g, (oc6 6 5 a_gn e_g)), (a_gn, (arI G 30 f_g)), (a_p, (oc6 8 5 a_pn e_p)), (a_pn, (arI G 40 f_p)), (a_j, (oc2 a_as a_sk)), (a_as, (arI G 8 f_as)), (a_sk, (arJ G 50 f_sk)), (a_l, (arW G 6 f_l)), (a_lo, (oc3 e_cl a_hd a_sr a_cd)), (a_sr, (arI G n_sr f_sr)), (a_cd, (arI G n_cd f_cd)), (a_hd, (arI G n_hd f_hd))] H) (hD : va_D A [(a_k, (oc5 a_h a_j a_pt e_ln e_se e_lh e_br e_we e_me e_ce e_wy e_ho e_ov)), (a_h, (oc1 e_wa e_le e_st e_fo e_lc a_l a_g a_b a_s a_p a_w e_gb a_bb)), (a_g, (oc6 6 5 a_gn e_g)), (a_gn, (arI G 30 f_g)), (a_p, (oc6 8 5 a_pn e_p)), (a_pn, (arI G 40 f_p)), (a_j, (oc2 a_as a_sk)), (a_as, (arI G 8 f_as)), (a_sk, (arJ G 50 f_sk)), (a_l, (arW G 6 f_l)), (a_lo, (oc3 e_cl a_hd a_sr a_cd)), (a_sr, (arI G n_sr f_sr)), (a_cd, (arI G n_cd f_cd)), (a_hd, (arI G n_hd f_hd))]) (hS : va_S A s.heap H locs) (hl : lv_has ls 9 [(0, .ref a_k), (2, .ref a_p), (3, .int k_r), (4, .int k_n), (5, .int k_s), (6, .ref a_lo), (7, .int k_l)]) (h_e_br : 0 ≤ e_br.toInt ∧ e_br.toInt ≤ 1000000) (h_e_ce : 0 ≤ e_ce.toInt ∧ e_ce.toInt ≤ 63) (h_e_wy : 0 ≤ e_wy.toInt ∧ e_wy.toInt ≤ 3) (h_e_ho : 0 ≤ e_ho.toInt ∧ e_ho.toInt ≤ 23) (h_e_ov : 0 ≤ e_ov.toInt ∧ e_ov.toInt ≤ 1) (h_e_g : 0 ≤ e_g.toInt ∧ e_g.toInt ≤ 6) (h_e_p : 0 ≤ e_p.toInt ∧ e_p.toInt ≤ 8) (h_e_cl : 0 ≤ e_cl.toInt ∧ e_cl.toInt ≤ 12) (h_k_r : 0 ≤ k_r.toInt ∧ k_r.toInt ≤ 7) (h_k_s : 0 ≤ k_s.toInt ∧ k_s.toInt ≤ 5) (h_k_l : 0 ≤ k_l.toInt ∧ k_l.toInt ≤ 23) (e_gk : gOK f_g e_g.toInt) (e_pk : gOK f_p e_p.toInt) (e_f : 0 ≤ e_fo.toInt ∧ e_fo.toInt < e_lc.toInt ∧ e_lc.toInt ≤ 6) (e_a : f_l e_fo.toNatClampNeg = some a_lo) (e_hn : n_cd ≤ 400) (e_hs : ∀ j : Nat, j < n_sr → 0 ≤ (f_sr j).toInt ∧ (f_sr j).toInt ≤ (n_cd : Int)) (e_hk : ∀ j : Nat, j < n_cd → (f_cd j >>> (12 &&& 31)).toInt = 1 → (f_cd j &&& 4095).toInt < 8) (e_c : (e_cl.toInt : Int) ≤ (n_hd : Int) ∧ (e_cl.toInt + 1 : Int) ≤ (n_sr : Int)) (e_r : k_r.toInt < e_p.toInt) (kk : ∀ (pc1 : Nat), decode cX5_meetGlass pc1 = .ok (.return_, 1) → ∀ (o_b : Int32) (o_w : Int32) (o_m : Int32) (o_y : Int32) (o_h : Int32) (o_v : Int32) (o_a : Nat → Int32) (o_k : Nat → Int64) (ls : Array Slot) (H : Heap) (locs : List Loc), va_P G.1 vwCl [(a_k, (oc5 a_h a_j a_pt e_ln e_se e_lh o_b o_w o_m e_ce o_y o_h o_v)), (a_h, (oc1 e_wa e_le e_st e_fo e_lc a_l a_g a_b a_s a_p a_w e_gb a_bb)), (a_g, (oc6 6 5 a_gn e_g)), (a_gn, (arI G 30 f_g)), (a_p, (oc6 8 5 a_pn e_p)), (a_pn, (arI G 40 f_p)), (a_j, (oc2 a_as a_sk)), (a_as, (arI G 8 o_a)), (a_sk, (arJ G 50 o_k)), (a_l, (arW G 6 f_l)), (a_lo, (oc3 e_cl a_hd a_sr a_cd)), (a_sr, (arI G n_sr f_sr)), (a_cd, (arI G n_cd f_cd)), (a_hd, (arI G n_hd f_hd))] H → va_D A [(a_k, (oc5 a_h a_j a_pt e_ln e_se e_lh o_b o_w o_m e_ce o_y o_h o_v)), (a_h, (oc1 e_wa e_le e_st e_fo e_lc a_l a_g a_b a_s a_p a_w e_gb a_bb)), (a_g, (oc6 6 5 a_gn e_g)), (a_gn, (arI G 30 f_g)), (a_p, (oc6 8 5 a_pn e_p)), (a_pn, (arI G 40 f_p)), (a_j, (oc2 a_as a_sk)), (a_as, (arI G 8 o_a)), (a_sk, (arJ G 50 o_k)), (a_l, (arW G 6 f_l)), (a_lo, (oc3 e_cl a_hd a_sr a_cd)), (a_sr, (arI G n_sr f_sr)), (a_cd, (arI G n_cd f_cd)), (a_hd, (arI G n_hd f_hd))] → va_S A s.heap H locs → (0 ≤ o_b.toInt ∧ o_b.toInt ≤ 1000000) → (0 ≤ o_y.toInt ∧ o_y.toInt ≤ 3) → (0 ≤ o_h.toInt ∧ o_h.toInt ≤ 23) → (0 ≤ o_v.toInt ∧ o_v.toInt ≤ 1) → W p l e ({ frames := 12, cells := 0, slots := 0, locals := 500 } : Room) s m args below meth c H locs 0 0 Q (F0 m pc1 ls [])) : W p l e ({ frames := 12, cells := 0, slots := 0, locals := 500 } : Room) s m args below meth c H locs 0 0 Q (F0 m 203 ls []) := by
  refine lv_iload hx hb dX5_meetGlass_203 (lv_at hl 6 rfl) ?_
  refine lv_aload_n hx hb dX5_meetGlass_205 rfl (lv_at hl 0 rfl) ?_
  refine va_get (D := G.1) (ci := 5) (v := .int e_ho) (C := RX5) (T := TX5) (N := 13) hx hb hts inG_X5 hown hK hP 0 rfl rfl 11 (by decide) (hts _ fl_X5_33) (fun _ h9 => h9) rfl dX5_meetGlass_206 ?_
  refine lv_icmp_le (tgt := 213) hx hb dX5_meetGlass_209 (by decide) (fun c_1 => ?_) (fun c_1 => ?_)
  ·
    have i_1 : k_l.toInt ≤ e_ho.toInt := by have z := g5_le (a := k_l.toInt) (b := e_ho.toInt) (by rfl) (by rfl) c_1; omega
    refine lv_aload_n hx hb dX5_meetGlass_213 rfl (lv_at hl 0 rfl) ?_
    refine va_get (D := G.1) (ci := 5) (v := .ref a_j) (C := RX5) (T := TX5) (N := 13) hx hb hts inG_X5 hown hK hP 0 rfl rfl 1 (by decide) (hts _ fl_X5_12) (fun _ h9 => h9) rfl dX5_meetGlass_214 ?_
    refine lv_aload hx hb dX5_meetGlass_217 (lv_at hl 5 rfl) ?_
    refine lv_iconst (v := 1) hx hb dX5_meetGlass_219 (by decide) ?_
    obtain ⟨hPc, hDc, hFc⟩ := g5_sub3 (wc := [(a_j, (oc2 a_as a_sk)), (a_as, (arI G 8 f_as)), (a_sk, (arJ G 50 f_sk)), (a_lo, (oc3 e_cl a_hd a_sr a_cd)), (a_sr, (arI G n_sr f_sr)), (a_cd, (arI G n_cd f_cd)), (a_hd, (arI G n_hd f_hd))]) hP hD hS hA [6, 7, 8, 10, 11, 12, 13] (by decide) rfl
    refine va_calli (va_runV (As := [.ref a_lo, .int 1]) (rest := []) ⟨hx, hb, hml, hown, hts⟩ (j_isHeld l G a_j a_as a_sk a_lo a_sr a_cd a_hd H.size 1 e_cl f_as f_sk f_sr f_cd f_hd n_sr n_cd n_hd ⟨by omega, by omega⟩ (e_hn) (e_hs) (e_hk) (e_c)) (cwV 2 hts gV_X5_124 rfl rfl rfl hv_X2_isHeld ⟨Nat.le_of_ble_eq_true rfl, Nat.le_of_ble_eq_true rfl⟩) (g5_preV hPc hK hDc hN hT hS hFc (ci := 2) (q0 := 0) rfl rfl) rfl rfl hl.1 rfl (lv_room (Nat.le_of_ble_eq_true rfl)) dX5_meetGlass_220 ⟨Nat.le_of_ble_eq_true rfl, Nat.le_of_ble_eq_true rfl⟩) hS (fun q _ h => hFc q h) hFc (fun r u t H1 locs ht hvm hw hB hz1 hk1 hS => ?_)
    obtain ⟨hP1, hD1⟩ := hB
    rw [ht] at hP1
    obtain ⟨z3, z4, i_2, y5, rfl⟩ := hw
    have i_2 : 0 ≤ z3.toInt ∧ z3.toInt ≤ 1 := i_2
    obtain ⟨hP, hD⟩ := va_join (wr := [(a_k, (oc5 a_h a_j a_pt e_ln e_se e_lh e_br e_we e_me e_ce e_wy e_ho e_ov)), (a_h, (oc1 e_wa e_le e_st e_fo e_lc a_l a_g a_b a_s a_p a_w e_gb a_bb)), (a_g, (oc6 6 5 a_gn e_g)), (a_gn, (arI G 30 f_g)), (a_p, (oc6 8 5 a_pn e_p)), (a_pn, (arI G 40 f_p)), (a_l, (arW G 6 f_l))]) hP hD [6, 7, 8, 10, 11, 12, 13] [0, 1, 2, 3, 4, 5, 9] rfl rfl (by decide) (by decide) hk1 hFc hP1 hD1
    generalize H1 = H at hP hS ⊢
    refine g5_rs [(a_k, (oc5 a_h a_j a_pt e_ln e_se e_lh e_br e_we e_me e_ce e_wy e_ho e_ov)), (a_h, (oc1 e_wa e_le e_st e_fo e_lc a_l a_g a_b a_s a_p a_w e_gb a_bb)), (a_g, (oc6 6 5 a_gn e_g)), (a_gn, (arI G 30 f_g)), (a_p, (oc6 8 5 a_pn e_p)), (a_pn, (arI G 40 f_p)), (a_l, (arW G 6 f_l)), (a_j, (oc2 a_as a_sk)), (a_as, (arI G 8 f_as)), (a_sk, (arJ G 50 z4)), (a_lo, (oc3 e_cl a_hd a_sr a_cd)), (a_sr, (arI G n_sr f_sr)), (a_cd, (arI G n_cd f_cd)), (a_hd, (arI G n_hd f_hd))] hP hD (fun hP hD => ?_)
    refine g5_ti (v := z3) y5 ?_
    refine lv_if_eq (tgt := 238) hx hb dX5_meetGlass_223 (by decide) (fun c_6 => ?_) (fun c_6 => ?_)
    ·
      have i_6 : z3.toInt = 0 := by have z := g5_eq (a := z3.toInt) (b := 0) (by rfl) (by decide) c_6; omega
      refine lv_aload_n hx hb dX5_meetGlass_238 rfl (lv_at hl 1 rfl) ?_
      refine lv_iload_n hx hb dX5_meetGlass_239 rfl (lv_at hl 2 rfl) ?_
      refine lv_iconst (v := 3) hx hb dX5_meetGlass_240 (by decide) ?_
      obtain ⟨hPc, hDc, hFc⟩ := g5_sub3 (wc := [(a_p, (oc6 8 5 a_pn e_p)), (a_pn, (arI G 40 f_p))]) hP hD hS hA [4, 5] (by decide) rfl
      refine va_calli (va_runV (As := [.int k_r, .int 3]) (rest := []) ⟨hx, hb, hml, hown, hts⟩ (t_get_P l G a_p a_pn H.size e_p k_r 3 f_p ⟨by omega, by omega⟩) (cwV 2 hts gV_X5_107 rfl rfl rfl hv_X6_get ⟨Nat.le_of_ble_eq_true rfl, Nat.le_of_ble_eq_true rfl⟩) (g5_preV hPc hK hDc hN hT hS hFc (ci := 6) (q0 := 0) rfl rfl) rfl rfl hl.1 rfl (lv_room (Nat.le_of_ble_eq_true rfl)) dX5_meetGlass_241 ⟨Nat.le_of_ble_eq_true rfl, Nat.le_of_ble_eq_true rfl⟩) hS (fun q _ h => hFc q h) hFc (fun r u t H1 locs ht hvm hw hB hz1 hk1 hS => ?_)
      obtain ⟨hP1, hD1⟩ := hB
      rw [ht] at hP1
      obtain ⟨z8, i_7, y9, rfl⟩ := hw
      have i_7 : z8 = tget f_p e_p.toInt 5 k_r.toInt (3 : Int32).toInt := i_7
      obtain ⟨hP, hD⟩ := va_join (wr := [(a_k, (oc5 a_h a_j a_pt e_ln e_se e_lh e_br e_we e_me e_ce e_wy e_ho e_ov)), (a_h, (oc1 e_wa e_le e_st e_fo e_lc a_l a_g a_b a_s a_p a_w e_gb a_bb)), (a_g, (oc6 6 5 a_gn e_g)), (a_gn, (arI G 30 f_g)), (a_l, (arW G 6 f_l)), (a_j, (oc2 a_as a_sk)), (a_as, (arI G 8 f_as)), (a_sk, (arJ G 50 z4)), (a_lo, (oc3 e_cl a_hd a_sr a_cd)), (a_sr, (arI G n_sr f_sr)), (a_cd, (arI G n_cd f_cd)), (a_hd, (arI G n_hd f_hd))]) hP hD [4, 5] [0, 1, 2, 3, 6, 7, 8, 9, 10, 11, 12, 13] rfl rfl (by decide) (by decide) hk1 hFc hP1 hD1
      generalize H1 = H at hP hS ⊢
      refine g5_rs [(a_k, (oc5 a_h a_j a_pt e_ln e_se e_lh e_br e_we e_me e_ce e_wy e_ho e_ov)), (a_h, (oc1 e_wa e_le e_st e_fo e_lc a_l a_g a_b a_s a_p a_w e_gb a_bb)), (a_g, (oc6 6 5 a_gn e_g)), (a_gn, (arI G 30 f_g)), (a_l, (arW G 6 f_l)), (a_j, (oc2 a_as a_sk)), (a_as, (arI G 8 f_as)), (a_sk, (arJ G 50 z4)), (a_lo, (oc3 e_cl a_hd a_sr a_cd)), (a_sr, (arI G n_sr f_sr)), (a_cd, (arI G n_cd f_cd)), (a_hd, (arI G n_hd f_hd)), (a_p, (oc6 8 5 a_pn e_p)), (a_pn, (arI G 40 f_p))] hP hD (fun hP hD => ?_)
      refine g5_ti (v := z8) y9 ?_
      have hg_10 : 0 ≤ z8.toInt ∧ z8.toInt ≤ 10 := by rw [i_7]; exact (e_pk k_r.toInt (by omega) (by omega)).2.2.2
      refine lv_istore (lv' := [(8, .int z8), (0, .ref a_k), (2, .ref a_p), (3, .int k_r), (4, .int k_n), (5, .int k_s), (6, .ref a_lo), (7, .int k_l)]) hx hb dX5_meetGlass_244 hl (by decide) rfl (fun ls hl => ?_)
      exact k_mgpL4 G a_k a_h a_g a_gn a_p a_pn a_j a_as a_sk a_l a_lo a_sr a_cd a_hd a_pt a_b a_s a_w a_bb n_sr n_cd n_hd e_ln e_se e_lh e_br e_we e_me e_ce e_wy e_ho e_ov e_le e_st e_fo e_lc e_wa e_gb e_g f_g e_p f_p f_as z4 f_l e_cl f_sr f_cd f_hd k_r k_n k_s k_l z8 hx hb hml hown hts hK hN hT hA (hP.sub [0, 1, 2, 3, 12, 13, 5, 6, 7, 4, 8, 9, 10, 11] rfl) (hD.sub [0, 1, 2, 3, 12, 13, 5, 6, 7, 4, 8, 9, 10, 11] (by decide) rfl) hS (lv_sub hl [1, 2, 3, 4, 5, 7, 0] rfl) ⟨by omega, by omega⟩ ⟨by omega, by omega⟩ ⟨by omega, by omega⟩ ⟨by omega, by omega⟩ ⟨by omega, by omega⟩ ⟨by omega, by omega⟩ ⟨by omega, by omega⟩ ⟨by omega, by omega⟩ ⟨by omega, by omega⟩ ⟨by omega, by omega⟩ ⟨by omega, by omega⟩ ⟨by omega, by omega⟩ (by omega) kk
    ·
      have n_6 : gNe (z3.toInt) (0) := by have z := g5_eqN (a := z3.toInt) (b := 0) (by rfl) (by decide) c_6; unfold gNe; omega
      have i_6 : z3.toInt ≥ 1 := by have z := g5_eqN (a := z3.toInt) (b := 0) (by rfl) (by decide) c_6; omega
      refine lv_aload_n hx hb dX5_meetGlass_226 rfl (lv_at hl 0 rfl) ?_
      refine va_get (D := G.1) (ci := 5) (v := .ref a_j) (C := RX5) (T := TX5) (N := 13) hx hb hts inG_X5 hown hK hP 0 rfl rfl 1 (by decide) (hts _ fl_X5_12) (fun _ h9 => h9) rfl dX5_meetGlass_227 ?_
      refine lv_bipush (v := 10) hx hb dX5_meetGlass_230 (by decide) ?_
      obtain ⟨hPc, hDc, hFc⟩ := g5_sub3 (wc := [(a_j, (oc2 a_as a_sk)), (a_sk, (arJ G 50 z4))]) hP hD hS hA [7, 9] (by decide) rfl
      refine va_calli (va_runV (As := [.int 10]) (rest := []) ⟨hx, hb, hml, hown, hts⟩ (j_told l G a_j a_sk a_as H.size 10 z4 ⟨by decide, by decide⟩) (cwV 1 hts gV_X5_134 rfl rfl rfl hv_X2_toldUpTo ⟨Nat.le_of_ble_eq_true rfl, Nat.le_of_ble_eq_true rfl⟩) (g5_preV hPc hK hDc hN hT hS hFc (ci := 2) (q0 := 0) rfl rfl) rfl rfl hl.1 rfl (lv_room (Nat.le_of_ble_eq_true rfl)) dX5_meetGlass_232 ⟨Nat.le_of_ble_eq_true rfl, Nat.le_of_ble_eq_true rfl⟩) hS (fun q _ h => hFc q h) hFc (fun r u t H1 locs ht hvm hw hB hz1 hk1 hS => ?_)
      obtain ⟨hP1, hD1⟩ := hB
      rw [ht] at hP1
      obtain ⟨z12, i_11, y13, rfl⟩ := hw
      have i_11 : 0 ≤ z12.toInt ∧ z12.toInt ≤ (10 : Int32).toInt := i_11
      obtain ⟨hP, hD⟩ := va_join (wr := [(a_k, (oc5 a_h a_j a_pt e_ln e_se e_lh e_br e_we e_me e_ce e_wy e_ho e_ov)), (a_h, (oc1 e_wa e_le e_st e_fo e_lc a_l a_g a_b a_s a_p a_w e_gb a_bb)), (a_g, (oc6 6 5 a_gn e_g)), (a_gn, (arI G 30 f_g)), (a_p, (oc6 8 5 a_pn e_p)), (a_pn, (arI G 40 f_p)), (a_l, (arW G 6 f_l)), (a_as, (arI G 8 f_as)), (a_lo, (oc3 e_cl a_hd a_sr a_cd)), (a_sr, (arI G n_sr f_sr)), (a_cd, (arI G n_cd f_cd)), (a_hd, (arI G n_hd f_hd))]) hP hD [7, 9] [0, 1, 2, 3, 4, 5, 6, 8, 10, 11, 12, 13] rfl rfl (by decide) (by decide) hk1 hFc hP1 hD1
      generalize H1 = H at hP hS ⊢
      refine g5_rs [(a_k, (oc5 a_h a_j a_pt e_ln e_se e_lh e_br e_we e_me e_ce e_wy e_ho e_ov)), (a_h, (oc1 e_wa e_le e_st e_fo e_lc a_l a_g a_b a_s a_p a_w e_gb a_bb)), (a_g, (oc6 6 5 a_gn e_g)), (a_gn, (arI G 30 f_g)), (a_p, (oc6 8 5 a_pn e_p)), (a_pn, (arI G 40 f_p)), (a_l, (arW G 6 f_l)), (a_as, (arI G 8 f_as)), (a_lo, (oc3 e_cl a_hd a_sr a_cd)), (a_sr, (arI G n_sr f_sr)), (a_cd, (arI G n_cd f_cd)), (a_hd, (arI G n_hd f_hd)), (a_j, (oc2 a_as a_sk)), (a_sk, (arJ G 50 z4))] hP hD (fun hP hD => ?_)
      refine g5_ti (v := z12) y13 ?_
      refine lv_goto (tgt := 244) hx hb dX5_meetGlass_235 (by decide) ?_
      have zk_14 : (10 : Int32).toInt = 10 := (by decide)
      refine lv_istore (lv' := [(8, .int z12), (0, .ref a_k), (2, .ref a_p), (3, .int k_r), (4, .int k_n), (5, .int k_s), (6, .ref a_lo), (7, .int k_l)]) hx hb dX5_meetGlass_244 hl (by decide) rfl (fun ls hl => ?_)
      exact k_mgpL4 G a_k a_h a_g a_gn a_p a_pn a_j a_as a_sk a_l a_lo a_sr a_cd a_hd a_pt a_b a_s a_w a_bb n_sr n_cd n_hd e_ln e_se e_lh e_br e_we e_me e_ce e_wy e_ho e_ov e_le e_st e_fo e_lc e_wa e_gb e_g f_g e_p f_p f_as z4 f_l e_cl f_sr f_cd f_hd k_r k_n k_s k_l z12 hx hb hml hown hts hK hN hT hA (hP.sub [0, 1, 2, 3, 4, 5, 12, 7, 13, 6, 8, 9, 10, 11] rfl) (hD.sub [0, 1, 2, 3, 4, 5, 12, 7, 13, 6, 8, 9, 10, 11] (by decide) rfl) hS (lv_sub hl [1, 2, 3, 4, 5, 7, 0] rfl) ⟨by omega, by omega⟩ ⟨by omega, by omega⟩ ⟨by omega, by omega⟩ ⟨by omega, by omega⟩ ⟨by omega, by omega⟩ ⟨by omega, by omega⟩ ⟨by omega, by omega⟩ ⟨by omega, by omega⟩ ⟨by omega, by omega⟩ ⟨by omega, by omega⟩ ⟨by omega, by omega⟩ ⟨by omega, by omega⟩ (by omega) kk
  ·
    have i_1 : k_l.toInt > e_ho.toInt := by have z := g5_leN (a := k_l.toInt) (b := e_ho.toInt) (by rfl) (by rfl) c_1; omega
    exact kk 212 dX5_meetGlass_212 e_br e_we e_me e_wy e_ho e_ov f_as f_sk ls H locs (hP.sub [0, 1, 2, 3, 4, 5, 6, 7, 8, 9, 10, 11, 12, 13] rfl) (hD.sub [0, 1, 2, 3, 4, 5, 6, 7, 8, 9, 10, 11, 12, 13] (by decide) rfl) hS (⟨by omega, by omega⟩) (⟨by omega, by omega⟩) (⟨by omega, by omega⟩) (⟨by omega, by omega⟩)
set_option maxHeartbeats 4000000 in
set_option maxRecDepth 100000 in
theorem k_mgpL2 {p : Program} {l : Launch} {e : Env} {s : State} {m : MethodId} {args : Array Value} {below : List Frame} {meth : Method} {c : Code} {Q : State → Prop} {A : Nat → Prop} {H : Heap} {locs : List Loc} {ls : Array Slot} (G : g5_G) (a_k a_h a_g a_gn a_p a_pn a_j a_as a_sk a_l a_lo a_sr a_cd a_hd a_pt a_b a_s a_w a_bb n_sr n_cd n_hd : Nat) (e_ln : Int32) (e_se : Int32) (e_lh : Int32) (e_br : Int32) (e_we : Int32) (e_me : Int32) (e_ce : Int32) (e_wy : Int32) (e_ho : Int32) (e_ov : Int32) (e_le : Int32) (e_st : Int32) (e_fo : Int32) (e_lc : Int32) (e_wa : Int64) (e_gb : Int64) (e_g : Int32) (f_g : Nat → Int32) (e_p : Int32) (f_p : Nat → Int32) (f_as : Nat → Int32) (f_sk : Nat → Int64) (f_l : Nat → Option Nat) (e_cl : Int32) (f_sr : Nat → Int32) (f_cd : Nat → Int32) (f_hd : Nat → Int32) (k_r : Int32) (k_n : Int32) (k_s : Int32) (hx : p.tables.exec = Jvm.exec) (hb : c.code = cX5_meetGlass) (hml : c.maxLocals = 9) (hown : s.vm.findClass RX5 = some m.cls) (hts : ∀ w ∈ tblG, w.before args s = true) (hK : va_K G.1 vwCl (T5 G) s) (hN : g5_N s) (hT : g5_S A s s.heap) (hA : ∀ q : Nat, s.heap.size ≤ q → A q) (hP : va_P G.1 vwCl [(a_k, (oc5 a_h a_j a_pt e_ln e_se e_lh e_br e_we e_me e_ce e_wy e_ho e_ov)), (a_h, (oc1 e_wa e_le e_st e_fo e_lc a_l a_g a_b a_s a_p a_w e_gb a_bb)), (a_g, (oc6 6 5 a_gn e_g)), (a_gn, (arI G 30 f_g)), (a_p, (oc6 8 5 a_pn e_p)), (a_pn, (arI G 40 f_p)), (a_j, (oc2 a_as a_sk)), (a_as, (arI G 8 f_as)), (a_sk, (arJ G 50 f_sk)), (a_l, (arW G 6 f_l)), (a_lo, (oc3 e_cl a_hd a_sr a_cd)), (a_sr, (arI G n_sr f_sr)), (a_cd, (arI G n_cd f_cd)), (a_hd, (arI G n_hd f_hd))] H) (hD : va_D A [(a_k, (oc5 a_h a_j a_pt e_ln e_se e_lh e_br e_we e_me e_ce e_wy e_ho e_ov)), (a_h, (oc1 e_wa e_le e_st e_fo e_lc a_l a_g a_b a_s a_p a_w e_gb a_bb)), (a_g, (oc6 6 5 a_gn e_g)), (a_gn, (arI G 30 f_g)), (a_p, (oc6 8 5 a_pn e_p)), (a_pn, (arI G 40 f_p)), (a_j, (oc2 a_as a_sk)), (a_as, (arI G 8 f_as)), (a_sk, (arJ G 50 f_sk)), (a_l, (arW G 6 f_l)), (a_lo, (oc3 e_cl a_hd a_sr a_cd)), (a_sr, (arI G n_sr f_sr)), (a_cd, (arI G n_cd f_cd)), (a_hd, (arI G n_hd f_hd))]) (hS : va_S A s.heap H locs) (hl : lv_has ls 9 [(0, .ref a_k), (2, .ref a_p), (3, .int k_r), (4, .int k_n), (5, .int k_s), (6, .ref a_lo)]) (h_e_br : 0 ≤ e_br.toInt ∧ e_br.toInt ≤ 1000000) (h_e_ce : 0 ≤ e_ce.toInt ∧ e_ce.toInt ≤ 63) (h_e_wy : 0 ≤ e_wy.toInt ∧ e_wy.toInt ≤ 3) (h_e_ho : 0 ≤ e_ho.toInt ∧ e_ho.toInt ≤ 23) (h_e_ov : 0 ≤ e_ov.toInt ∧ e_ov.toInt ≤ 1) (h_e_g : 0 ≤ e_g.toInt ∧ e_g.toInt ≤ 6) (h_e_p : 0 ≤ e_p.toInt ∧ e_p.toInt ≤ 8) (h_e_cl : 0 ≤ e_cl.toInt ∧ e_cl.toInt ≤ 12) (h_k_r : 0 ≤ k_r.toInt ∧ k_r.toInt ≤ 7) (h_k_s : 0 ≤ k_s.toInt ∧ k_s.toInt ≤ 5) (e_gk : gOK f_g e_g.toInt) (e_pk : gOK f_p e_p.toInt) (e_f : 0 ≤ e_fo.toInt ∧ e_fo.toInt < e_lc.toInt ∧ e_lc.toInt ≤ 6) (e_a : f_l e_fo.toNatClampNeg = some a_lo) (e_hn : n_cd ≤ 400) (e_hs : ∀ j : Nat, j < n_sr → 0 ≤ (f_sr j).toInt ∧ (f_sr j).toInt ≤ (n_cd : Int)) (e_hk : ∀ j : Nat, j < n_cd → (f_cd j >>> (12 &&& 31)).toInt = 1 → (f_cd j &&& 4095).toInt < 8) (e_c : (e_cl.toInt : Int) ≤ (n_hd : Int) ∧ (e_cl.toInt + 1 : Int) ≤ (n_sr : Int)) (e_r : k_r.toInt < e_p.toInt) (kk : ∀ (pc1 : Nat), decode cX5_meetGlass pc1 = .ok (.return_, 1) → ∀ (o_b : Int32) (o_w : Int32) (o_m : Int32) (o_y : Int32) (o_h : Int32) (o_v : Int32) (o_a : Nat → Int32) (o_k : Nat → Int64) (ls : Array Slot) (H : Heap) (locs : List Loc), va_P G.1 vwCl [(a_k, (oc5 a_h a_j a_pt e_ln e_se e_lh o_b o_w o_m e_ce o_y o_h o_v)), (a_h, (oc1 e_wa e_le e_st e_fo e_lc a_l a_g a_b a_s a_p a_w e_gb a_bb)), (a_g, (oc6 6 5 a_gn e_g)), (a_gn, (arI G 30 f_g)), (a_p, (oc6 8 5 a_pn e_p)), (a_pn, (arI G 40 f_p)), (a_j, (oc2 a_as a_sk)), (a_as, (arI G 8 o_a)), (a_sk, (arJ G 50 o_k)), (a_l, (arW G 6 f_l)), (a_lo, (oc3 e_cl a_hd a_sr a_cd)), (a_sr, (arI G n_sr f_sr)), (a_cd, (arI G n_cd f_cd)), (a_hd, (arI G n_hd f_hd))] H → va_D A [(a_k, (oc5 a_h a_j a_pt e_ln e_se e_lh o_b o_w o_m e_ce o_y o_h o_v)), (a_h, (oc1 e_wa e_le e_st e_fo e_lc a_l a_g a_b a_s a_p a_w e_gb a_bb)), (a_g, (oc6 6 5 a_gn e_g)), (a_gn, (arI G 30 f_g)), (a_p, (oc6 8 5 a_pn e_p)), (a_pn, (arI G 40 f_p)), (a_j, (oc2 a_as a_sk)), (a_as, (arI G 8 o_a)), (a_sk, (arJ G 50 o_k)), (a_l, (arW G 6 f_l)), (a_lo, (oc3 e_cl a_hd a_sr a_cd)), (a_sr, (arI G n_sr f_sr)), (a_cd, (arI G n_cd f_cd)), (a_hd, (arI G n_hd f_hd))] → va_S A s.heap H locs → (0 ≤ o_b.toInt ∧ o_b.toInt ≤ 1000000) → (0 ≤ o_y.toInt ∧ o_y.toInt ≤ 3) → (0 ≤ o_h.toInt ∧ o_h.toInt ≤ 23) → (0 ≤ o_v.toInt ∧ o_v.toInt ≤ 1) → W p l e ({ frames := 12, cells := 0, slots := 0, locals := 500 } : Room) s m args below meth c H locs 0 0 Q (F0 m pc1 ls [])) : W p l e ({ frames := 12, cells := 0, slots := 0, locals := 500 } : Room) s m args below meth c H locs 0 0 Q (F0 m 170 ls []) := by
  refine lv_aload_n hx hb dX5_meetGlass_170 rfl (lv_at hl 0 rfl) ?_
  refine va_get (D := G.1) (ci := 5) (v := .ref a_j) (C := RX5) (T := TX5) (N := 13) hx hb hts inG_X5 hown hK hP 0 rfl rfl 1 (by decide) (hts _ fl_X5_12) (fun _ h9 => h9) rfl dX5_meetGlass_171 ?_
  refine lv_aload hx hb dX5_meetGlass_174 (lv_at hl 5 rfl) ?_
  refine lv_iconst (v := 0) hx hb dX5_meetGlass_176 (by decide) ?_
  obtain ⟨hPc, hDc, hFc⟩ := g5_sub3 (wc := [(a_j, (oc2 a_as a_sk)), (a_as, (arI G 8 f_as)), (a_sk, (arJ G 50 f_sk)), (a_lo, (oc3 e_cl a_hd a_sr a_cd)), (a_sr, (arI G n_sr f_sr)), (a_cd, (arI G n_cd f_cd)), (a_hd, (arI G n_hd f_hd))]) hP hD hS hA [6, 7, 8, 10, 11, 12, 13] (by decide) rfl
  refine va_calli (va_runV (As := [.ref a_lo, .int 0]) (rest := []) ⟨hx, hb, hml, hown, hts⟩ (j_isHeld l G a_j a_as a_sk a_lo a_sr a_cd a_hd H.size 0 e_cl f_as f_sk f_sr f_cd f_hd n_sr n_cd n_hd ⟨by omega, by omega⟩ (e_hn) (e_hs) (e_hk) (e_c)) (cwV 2 hts gV_X5_124 rfl rfl rfl hv_X2_isHeld ⟨Nat.le_of_ble_eq_true rfl, Nat.le_of_ble_eq_true rfl⟩) (g5_preV hPc hK hDc hN hT hS hFc (ci := 2) (q0 := 0) rfl rfl) rfl rfl hl.1 rfl (lv_room (Nat.le_of_ble_eq_true rfl)) dX5_meetGlass_177 ⟨Nat.le_of_ble_eq_true rfl, Nat.le_of_ble_eq_true rfl⟩) hS (fun q _ h => hFc q h) hFc (fun r u t H1 locs ht hvm hw hB hz1 hk1 hS => ?_)
  obtain ⟨hP1, hD1⟩ := hB
  rw [ht] at hP1
  obtain ⟨z2, z3, i_1, y4, rfl⟩ := hw
  have i_1 : 0 ≤ z2.toInt ∧ z2.toInt ≤ 1 := i_1
  obtain ⟨hP, hD⟩ := va_join (wr := [(a_k, (oc5 a_h a_j a_pt e_ln e_se e_lh e_br e_we e_me e_ce e_wy e_ho e_ov)), (a_h, (oc1 e_wa e_le e_st e_fo e_lc a_l a_g a_b a_s a_p a_w e_gb a_bb)), (a_g, (oc6 6 5 a_gn e_g)), (a_gn, (arI G 30 f_g)), (a_p, (oc6 8 5 a_pn e_p)), (a_pn, (arI G 40 f_p)), (a_l, (arW G 6 f_l))]) hP hD [6, 7, 8, 10, 11, 12, 13] [0, 1, 2, 3, 4, 5, 9] rfl rfl (by decide) (by decide) hk1 hFc hP1 hD1
  generalize H1 = H at hP hS ⊢
  refine g5_rs [(a_k, (oc5 a_h a_j a_pt e_ln e_se e_lh e_br e_we e_me e_ce e_wy e_ho e_ov)), (a_h, (oc1 e_wa e_le e_st e_fo e_lc a_l a_g a_b a_s a_p a_w e_gb a_bb)), (a_g, (oc6 6 5 a_gn e_g)), (a_gn, (arI G 30 f_g)), (a_p, (oc6 8 5 a_pn e_p)), (a_pn, (arI G 40 f_p)), (a_l, (arW G 6 f_l)), (a_j, (oc2 a_as a_sk)), (a_as, (arI G 8 f_as)), (a_sk, (arJ G 50 z3)), (a_lo, (oc3 e_cl a_hd a_sr a_cd)), (a_sr, (arI G n_sr f_sr)), (a_cd, (arI G n_cd f_cd)), (a_hd, (arI G n_hd f_hd))] hP hD (fun hP hD => ?_)
  refine g5_ti (v := z2) y4 ?_
  refine lv_if_eq (tgt := 195) hx hb dX5_meetGlass_180 (by decide) (fun c_5 => ?_) (fun c_5 => ?_)
  ·
    have i_5 : z2.toInt = 0 := by have z := g5_eq (a := z2.toInt) (b := 0) (by rfl) (by decide) c_5; omega
    refine lv_aload_n hx hb dX5_meetGlass_195 rfl (lv_at hl 1 rfl) ?_
    refine lv_iload_n hx hb dX5_meetGlass_196 rfl (lv_at hl 2 rfl) ?_
    refine lv_iconst (v := 2) hx hb dX5_meetGlass_197 (by decide) ?_
    obtain ⟨hPc, hDc, hFc⟩ := g5_sub3 (wc := [(a_p, (oc6 8 5 a_pn e_p)), (a_pn, (arI G 40 f_p))]) hP hD hS hA [4, 5] (by decide) rfl
    refine va_calli (va_runV (As := [.int k_r, .int 2]) (rest := []) ⟨hx, hb, hml, hown, hts⟩ (t_get_P l G a_p a_pn H.size e_p k_r 2 f_p ⟨by omega, by omega⟩) (cwV 2 hts gV_X5_107 rfl rfl rfl hv_X6_get ⟨Nat.le_of_ble_eq_true rfl, Nat.le_of_ble_eq_true rfl⟩) (g5_preV hPc hK hDc hN hT hS hFc (ci := 6) (q0 := 0) rfl rfl) rfl rfl hl.1 rfl (lv_room (Nat.le_of_ble_eq_true rfl)) dX5_meetGlass_198 ⟨Nat.le_of_ble_eq_true rfl, Nat.le_of_ble_eq_true rfl⟩) hS (fun q _ h => hFc q h) hFc (fun r u t H1 locs ht hvm hw hB hz1 hk1 hS => ?_)
    obtain ⟨hP1, hD1⟩ := hB
    rw [ht] at hP1
    obtain ⟨z7, i_6, y8, rfl⟩ := hw
    have i_6 : z7 = tget f_p e_p.toInt 5 k_r.toInt (2 : Int32).toInt := i_6
    obtain ⟨hP, hD⟩ := va_join (wr := [(a_k, (oc5 a_h a_j a_pt e_ln e_se e_lh e_br e_we e_me e_ce e_wy e_ho e_ov)), (a_h, (oc1 e_wa e_le e_st e_fo e_lc a_l a_g a_b a_s a_p a_w e_gb a_bb)), (a_g, (oc6 6 5 a_gn e_g)), (a_gn, (arI G 30 f_g)), (a_l, (arW G 6 f_l)), (a_j, (oc2 a_as a_sk)), (a_as, (arI G 8 f_as)), (a_sk, (arJ G 50 z3)), (a_lo, (oc3 e_cl a_hd a_sr a_cd)), (a_sr, (arI G n_sr f_sr)), (a_cd, (arI G n_cd f_cd)), (a_hd, (arI G n_hd f_hd))]) hP hD [4, 5] [0, 1, 2, 3, 6, 7, 8, 9, 10, 11, 12, 13] rfl rfl (by decide) (by decide) hk1 hFc hP1 hD1
    generalize H1 = H at hP hS ⊢
    refine g5_rs [(a_k, (oc5 a_h a_j a_pt e_ln e_se e_lh e_br e_we e_me e_ce e_wy e_ho e_ov)), (a_h, (oc1 e_wa e_le e_st e_fo e_lc a_l a_g a_b a_s a_p a_w e_gb a_bb)), (a_g, (oc6 6 5 a_gn e_g)), (a_gn, (arI G 30 f_g)), (a_l, (arW G 6 f_l)), (a_j, (oc2 a_as a_sk)), (a_as, (arI G 8 f_as)), (a_sk, (arJ G 50 z3)), (a_lo, (oc3 e_cl a_hd a_sr a_cd)), (a_sr, (arI G n_sr f_sr)), (a_cd, (arI G n_cd f_cd)), (a_hd, (arI G n_hd f_hd)), (a_p, (oc6 8 5 a_pn e_p)), (a_pn, (arI G 40 f_p))] hP hD (fun hP hD => ?_)
    refine g5_ti (v := z7) y8 ?_
    have hg_9 : 0 ≤ z7.toInt ∧ z7.toInt ≤ 23 := by rw [i_6]; exact (e_pk k_r.toInt (by omega) (by omega)).2.2.1
    refine lv_istore (lv' := [(7, .int z7), (0, .ref a_k), (2, .ref a_p), (3, .int k_r), (4, .int k_n), (5, .int k_s), (6, .ref a_lo)]) hx hb dX5_meetGlass_201 hl (by decide) rfl (fun ls hl => ?_)
    exact k_mgpL3 G a_k a_h a_g a_gn a_p a_pn a_j a_as a_sk a_l a_lo a_sr a_cd a_hd a_pt a_b a_s a_w a_bb n_sr n_cd n_hd e_ln e_se e_lh e_br e_we e_me e_ce e_wy e_ho e_ov e_le e_st e_fo e_lc e_wa e_gb e_g f_g e_p f_p f_as z3 f_l e_cl f_sr f_cd f_hd k_r k_n k_s z7 hx hb hml hown hts hK hN hT hA (hP.sub [0, 1, 2, 3, 12, 13, 5, 6, 7, 4, 8, 9, 10, 11] rfl) (hD.sub [0, 1, 2, 3, 12, 13, 5, 6, 7, 4, 8, 9, 10, 11] (by decide) rfl) hS (lv_sub hl [1, 2, 3, 4, 5, 6, 0] rfl) ⟨by omega, by omega⟩ ⟨by omega, by omega⟩ ⟨by omega, by omega⟩ ⟨by omega, by omega⟩ ⟨by omega, by omega⟩ ⟨by omega, by omega⟩ ⟨by omega, by omega⟩ ⟨by omega, by omega⟩ ⟨by omega, by omega⟩ ⟨by omega, by omega⟩ ⟨by omega, by omega⟩ (e_gk) (e_pk) (e_f) (e_a) (e_hn) (e_hs) (e_hk) (e_c) (e_r) kk
  ·
    have n_5 : gNe (z2.toInt) (0) := by have z := g5_eqN (a := z2.toInt) (b := 0) (by rfl) (by decide) c_5; unfold gNe; omega
    have i_5 : z2.toInt ≥ 1 := by have z := g5_eqN (a := z2.toInt) (b := 0) (by rfl) (by decide) c_5; omega
    refine lv_aload_n hx hb dX5_meetGlass_183 rfl (lv_at hl 0 rfl) ?_
    refine va_get (D := G.1) (ci := 5) (v := .ref a_j) (C := RX5) (T := TX5) (N := 13) hx hb hts inG_X5 hown hK hP 0 rfl rfl 1 (by decide) (hts _ fl_X5_12) (fun _ h9 => h9) rfl dX5_meetGlass_184 ?_
    refine lv_bipush (v := 23) hx hb dX5_meetGlass_187 (by decide) ?_
    obtain ⟨hPc, hDc, hFc⟩ := g5_sub3 (wc := [(a_j, (oc2 a_as a_sk)), (a_sk, (arJ G 50 z3))]) hP hD hS hA [7, 9] (by decide) rfl
    refine va_calli (va_runV (As := [.int 23]) (rest := []) ⟨hx, hb, hml, hown, hts⟩ (j_told l G a_j a_sk a_as H.size 23 z3 ⟨by decide, by decide⟩) (cwV 1 hts gV_X5_134 rfl rfl rfl hv_X2_toldUpTo ⟨Nat.le_of_ble_eq_true rfl, Nat.le_of_ble_eq_true rfl⟩) (g5_preV hPc hK hDc hN hT hS hFc (ci := 2) (q0 := 0) rfl rfl) rfl rfl hl.1 rfl (lv_room (Nat.le_of_ble_eq_true rfl)) dX5_meetGlass_189 ⟨Nat.le_of_ble_eq_true rfl, Nat.le_of_ble_eq_true rfl⟩) hS (fun q _ h => hFc q h) hFc (fun r u t H1 locs ht hvm hw hB hz1 hk1 hS => ?_)
    obtain ⟨hP1, hD1⟩ := hB
    rw [ht] at hP1
    obtain ⟨z11, i_10, y12, rfl⟩ := hw
    have i_10 : 0 ≤ z11.toInt ∧ z11.toInt ≤ (23 : Int32).toInt := i_10
    obtain ⟨hP, hD⟩ := va_join (wr := [(a_k, (oc5 a_h a_j a_pt e_ln e_se e_lh e_br e_we e_me e_ce e_wy e_ho e_ov)), (a_h, (oc1 e_wa e_le e_st e_fo e_lc a_l a_g a_b a_s a_p a_w e_gb a_bb)), (a_g, (oc6 6 5 a_gn e_g)), (a_gn, (arI G 30 f_g)), (a_p, (oc6 8 5 a_pn e_p)), (a_pn, (arI G 40 f_p)), (a_l, (arW G 6 f_l)), (a_as, (arI G 8 f_as)), (a_lo, (oc3 e_cl a_hd a_sr a_cd)), (a_sr, (arI G n_sr f_sr)), (a_cd, (arI G n_cd f_cd)), (a_hd, (arI G n_hd f_hd))]) hP hD [7, 9] [0, 1, 2, 3, 4, 5, 6, 8, 10, 11, 12, 13] rfl rfl (by decide) (by decide) hk1 hFc hP1 hD1
    generalize H1 = H at hP hS ⊢
    refine g5_rs [(a_k, (oc5 a_h a_j a_pt e_ln e_se e_lh e_br e_we e_me e_ce e_wy e_ho e_ov)), (a_h, (oc1 e_wa e_le e_st e_fo e_lc a_l a_g a_b a_s a_p a_w e_gb a_bb)), (a_g, (oc6 6 5 a_gn e_g)), (a_gn, (arI G 30 f_g)), (a_p, (oc6 8 5 a_pn e_p)), (a_pn, (arI G 40 f_p)), (a_l, (arW G 6 f_l)), (a_as, (arI G 8 f_as)), (a_lo, (oc3 e_cl a_hd a_sr a_cd)), (a_sr, (arI G n_sr f_sr)), (a_cd, (arI G n_cd f_cd)), (a_hd, (arI G n_hd f_hd)), (a_j, (oc2 a_as a_sk)), (a_sk, (arJ G 50 z3))] hP hD (fun hP hD => ?_)
    refine g5_ti (v := z11) y12 ?_
    refine lv_goto (tgt := 201) hx hb dX5_meetGlass_192 (by decide) ?_
    have zk_13 : (23 : Int32).toInt = 23 := (by decide)
    refine lv_istore (lv' := [(7, .int z11), (0, .ref a_k), (2, .ref a_p), (3, .int k_r), (4, .int k_n), (5, .int k_s), (6, .ref a_lo)]) hx hb dX5_meetGlass_201 hl (by decide) rfl (fun ls hl => ?_)
    exact k_mgpL3 G a_k a_h a_g a_gn a_p a_pn a_j a_as a_sk a_l a_lo a_sr a_cd a_hd a_pt a_b a_s a_w a_bb n_sr n_cd n_hd e_ln e_se e_lh e_br e_we e_me e_ce e_wy e_ho e_ov e_le e_st e_fo e_lc e_wa e_gb e_g f_g e_p f_p f_as z3 f_l e_cl f_sr f_cd f_hd k_r k_n k_s z11 hx hb hml hown hts hK hN hT hA (hP.sub [0, 1, 2, 3, 4, 5, 12, 7, 13, 6, 8, 9, 10, 11] rfl) (hD.sub [0, 1, 2, 3, 4, 5, 12, 7, 13, 6, 8, 9, 10, 11] (by decide) rfl) hS (lv_sub hl [1, 2, 3, 4, 5, 6, 0] rfl) ⟨by omega, by omega⟩ ⟨by omega, by omega⟩ ⟨by omega, by omega⟩ ⟨by omega, by omega⟩ ⟨by omega, by omega⟩ ⟨by omega, by omega⟩ ⟨by omega, by omega⟩ ⟨by omega, by omega⟩ ⟨by omega, by omega⟩ ⟨by omega, by omega⟩ ⟨by omega, by omega⟩ (e_gk) (e_pk) (e_f) (e_a) (e_hn) (e_hs) (e_hk) (e_c) (e_r) kk
set_option maxHeartbeats 4000000 in
set_option maxRecDepth 100000 in
theorem k_mgpL1 {p : Program} {l : Launch} {e : Env} {s : State} {m : MethodId} {args : Array Value} {below : List Frame} {meth : Method} {c : Code} {Q : State → Prop} {A : Nat → Prop} {H : Heap} {locs : List Loc} {ls : Array Slot} (G : g5_G) (a_k a_h a_g a_gn a_p a_pn a_j a_as a_sk a_l a_lo a_sr a_cd a_hd a_pt a_b a_s a_w a_bb n_sr n_cd n_hd : Nat) (e_ln : Int32) (e_se : Int32) (e_lh : Int32) (e_br : Int32) (e_we : Int32) (e_me : Int32) (e_ce : Int32) (e_wy : Int32) (e_ho : Int32) (e_ov : Int32) (e_le : Int32) (e_st : Int32) (e_fo : Int32) (e_lc : Int32) (e_wa : Int64) (e_gb : Int64) (e_g : Int32) (f_g : Nat → Int32) (e_p : Int32) (f_p : Nat → Int32) (f_as : Nat → Int32) (f_sk : Nat → Int64) (f_l : Nat → Option Nat) (e_cl : Int32) (f_sr : Nat → Int32) (f_cd : Nat → Int32) (f_hd : Nat → Int32) (k_r : Int32) (k_n : Int32) (hx : p.tables.exec = Jvm.exec) (hb : c.code = cX5_meetGlass) (hml : c.maxLocals = 9) (hown : s.vm.findClass RX5 = some m.cls) (hts : ∀ w ∈ tblG, w.before args s = true) (hK : va_K G.1 vwCl (T5 G) s) (hN : g5_N s) (hT : g5_S A s s.heap) (hA : ∀ q : Nat, s.heap.size ≤ q → A q) (hP : va_P G.1 vwCl [(a_k, (oc5 a_h a_j a_pt e_ln e_se e_lh e_br e_we e_me e_ce e_wy e_ho e_ov)), (a_h, (oc1 e_wa e_le e_st e_fo e_lc a_l a_g a_b a_s a_p a_w e_gb a_bb)), (a_g, (oc6 6 5 a_gn e_g)), (a_gn, (arI G 30 f_g)), (a_p, (oc6 8 5 a_pn e_p)), (a_pn, (arI G 40 f_p)), (a_j, (oc2 a_as a_sk)), (a_as, (arI G 8 f_as)), (a_sk, (arJ G 50 f_sk)), (a_l, (arW G 6 f_l)), (a_lo, (oc3 e_cl a_hd a_sr a_cd)), (a_sr, (arI G n_sr f_sr)), (a_cd, (arI G n_cd f_cd)), (a_hd, (arI G n_hd f_hd))] H) (hD : va_D A [(a_k, (oc5 a_h a_j a_pt e_ln e_se e_lh e_br e_we e_me e_ce e_wy e_ho e_ov)), (a_h, (oc1 e_wa e_le e_st e_fo e_lc a_l a_g a_b a_s a_p a_w e_gb a_bb)), (a_g, (oc6 6 5 a_gn e_g)), (a_gn, (arI G 30 f_g)), (a_p, (oc6 8 5 a_pn e_p)), (a_pn, (arI G 40 f_p)), (a_j, (oc2 a_as a_sk)), (a_as, (arI G 8 f_as)), (a_sk, (arJ G 50 f_sk)), (a_l, (arW G 6 f_l)), (a_lo, (oc3 e_cl a_hd a_sr a_cd)), (a_sr, (arI G n_sr f_sr)), (a_cd, (arI G n_cd f_cd)), (a_hd, (arI G n_hd f_hd))]) (hS : va_S A s.heap H locs) (hl : lv_has ls 9 [(0, .ref a_k), (2, .ref a_p), (3, .int k_r), (4, .int k_n)]) (h_e_br : 0 ≤ e_br.toInt ∧ e_br.toInt ≤ 1000000) (h_e_ce : 0 ≤ e_ce.toInt ∧ e_ce.toInt ≤ 63) (h_e_wy : 0 ≤ e_wy.toInt ∧ e_wy.toInt ≤ 3) (h_e_ho : 0 ≤ e_ho.toInt ∧ e_ho.toInt ≤ 23) (h_e_ov : 0 ≤ e_ov.toInt ∧ e_ov.toInt ≤ 1) (h_e_g : 0 ≤ e_g.toInt ∧ e_g.toInt ≤ 6) (h_e_p : 0 ≤ e_p.toInt ∧ e_p.toInt ≤ 8) (h_e_cl : 0 ≤ e_cl.toInt ∧ e_cl.toInt ≤ 12) (h_k_r : 0 ≤ k_r.toInt ∧ k_r.toInt ≤ 7) (e_gk : gOK f_g e_g.toInt) (e_pk : gOK f_p e_p.toInt) (e_f : 0 ≤ e_fo.toInt ∧ e_fo.toInt < e_lc.toInt ∧ e_lc.toInt ≤ 6) (e_a : f_l e_fo.toNatClampNeg = some a_lo) (e_hn : n_cd ≤ 400) (e_hs : ∀ j : Nat, j < n_sr → 0 ≤ (f_sr j).toInt ∧ (f_sr j).toInt ≤ (n_cd : Int)) (e_hk : ∀ j : Nat, j < n_cd → (f_cd j >>> (12 &&& 31)).toInt = 1 → (f_cd j &&& 4095).toInt < 8) (e_c : (e_cl.toInt : Int) ≤ (n_hd : Int) ∧ (e_cl.toInt + 1 : Int) ≤ (n_sr : Int)) (e_r : k_r.toInt < e_p.toInt) (kk : ∀ (pc1 : Nat), decode cX5_meetGlass pc1 = .ok (.return_, 1) → ∀ (o_b : Int32) (o_w : Int32) (o_m : Int32) (o_y : Int32) (o_h : Int32) (o_v : Int32) (o_a : Nat → Int32) (o_k : Nat → Int64) (ls : Array Slot) (H : Heap) (locs : List Loc), va_P G.1 vwCl [(a_k, (oc5 a_h a_j a_pt e_ln e_se e_lh o_b o_w o_m e_ce o_y o_h o_v)), (a_h, (oc1 e_wa e_le e_st e_fo e_lc a_l a_g a_b a_s a_p a_w e_gb a_bb)), (a_g, (oc6 6 5 a_gn e_g)), (a_gn, (arI G 30 f_g)), (a_p, (oc6 8 5 a_pn e_p)), (a_pn, (arI G 40 f_p)), (a_j, (oc2 a_as a_sk)), (a_as, (arI G 8 o_a)), (a_sk, (arJ G 50 o_k)), (a_l, (arW G 6 f_l)), (a_lo, (oc3 e_cl a_hd a_sr a_cd)), (a_sr, (arI G n_sr f_sr)), (a_cd, (arI G n_cd f_cd)), (a_hd, (arI G n_hd f_hd))] H → va_D A [(a_k, (oc5 a_h a_j a_pt e_ln e_se e_lh o_b o_w o_m e_ce o_y o_h o_v)), (a_h, (oc1 e_wa e_le e_st e_fo e_lc a_l a_g a_b a_s a_p a_w e_gb a_bb)), (a_g, (oc6 6 5 a_gn e_g)), (a_gn, (arI G 30 f_g)), (a_p, (oc6 8 5 a_pn e_p)), (a_pn, (arI G 40 f_p)), (a_j, (oc2 a_as a_sk)), (a_as, (arI G 8 o_a)), (a_sk, (arJ G 50 o_k)), (a_l, (arW G 6 f_l)), (a_lo, (oc3 e_cl a_hd a_sr a_cd)), (a_sr, (arI G n_sr f_sr)), (a_cd, (arI G n_cd f_cd)), (a_hd, (arI G n_hd f_hd))] → va_S A s.heap H locs → (0 ≤ o_b.toInt ∧ o_b.toInt ≤ 1000000) → (0 ≤ o_y.toInt ∧ o_y.toInt ≤ 3) → (0 ≤ o_h.toInt ∧ o_h.toInt ≤ 23) → (0 ≤ o_v.toInt ∧ o_v.toInt ≤ 1) → W p l e ({ frames := 12, cells := 0, slots := 0, locals := 500 } : Room) s m args below meth c H locs 0 0 Q (F0 m pc1 ls [])) : W p l e ({ frames := 12, cells := 0, slots := 0, locals := 500 } : Room) s m args below meth c H locs 0 0 Q (F0 m 84 ls []) := by
  refine lv_aload_n hx hb dX5_meetGlass_84 rfl (lv_at hl 1 rfl) ?_
  refine lv_iload_n hx hb dX5_meetGlass_85 rfl (lv_at hl 2 rfl) ?_
  refine lv_iconst (v := 1) hx hb dX5_meetGlass_86 (by decide) ?_
  obtain ⟨hPc, hDc, hFc⟩ := g5_sub3 (wc := [(a_p, (oc6 8 5 a_pn e_p)), (a_pn, (arI G 40 f_p))]) hP hD hS hA [4, 5] (by decide) rfl
  refine va_calli (va_runV (As := [.int k_r, .int 1]) (rest := []) ⟨hx, hb, hml, hown, hts⟩ (t_get_P l G a_p a_pn H.size e_p k_r 1 f_p ⟨by omega, by omega⟩) (cwV 2 hts gV_X5_107 rfl rfl rfl hv_X6_get ⟨Nat.le_of_ble_eq_true rfl, Nat.le_of_ble_eq_true rfl⟩) (g5_preV hPc hK hDc hN hT hS hFc (ci := 6) (q0 := 0) rfl rfl) rfl rfl hl.1 rfl (lv_room (Nat.le_of_ble_eq_true rfl)) dX5_meetGlass_87 ⟨Nat.le_of_ble_eq_true rfl, Nat.le_of_ble_eq_true rfl⟩) hS (fun q _ h => hFc q h) hFc (fun r u t H1 locs ht hvm hw hB hz1 hk1 hS => ?_)
  obtain ⟨hP1, hD1⟩ := hB
  rw [ht] at hP1
  obtain ⟨z2, i_1, y3, rfl⟩ := hw
  have i_1 : z2 = tget f_p e_p.toInt 5 k_r.toInt (1 : Int32).toInt := i_1
  obtain ⟨hP, hD⟩ := va_join (wr := [(a_k, (oc5 a_h a_j a_pt e_ln e_se e_lh e_br e_we e_me e_ce e_wy e_ho e_ov)), (a_h, (oc1 e_wa e_le e_st e_fo e_lc a_l a_g a_b a_s a_p a_w e_gb a_bb)), (a_g, (oc6 6 5 a_gn e_g)), (a_gn, (arI G 30 f_g)), (a_j, (oc2 a_as a_sk)), (a_as, (arI G 8 f_as)), (a_sk, (arJ G 50 f_sk)), (a_l, (arW G 6 f_l)), (a_lo, (oc3 e_cl a_hd a_sr a_cd)), (a_sr, (arI G n_sr f_sr)), (a_cd, (arI G n_cd f_cd)), (a_hd, (arI G n_hd f_hd))]) hP hD [4, 5] [0, 1, 2, 3, 6, 7, 8, 9, 10, 11, 12, 13] rfl rfl (by decide) (by decide) hk1 hFc hP1 hD1
  generalize H1 = H at hP hS ⊢
  refine g5_rs [(a_k, (oc5 a_h a_j a_pt e_ln e_se e_lh e_br e_we e_me e_ce e_wy e_ho e_ov)), (a_h, (oc1 e_wa e_le e_st e_fo e_lc a_l a_g a_b a_s a_p a_w e_gb a_bb)), (a_g, (oc6 6 5 a_gn e_g)), (a_gn, (arI G 30 f_g)), (a_j, (oc2 a_as a_sk)), (a_as, (arI G 8 f_as)), (a_sk, (arJ G 50 f_sk)), (a_l, (arW G 6 f_l)), (a_lo, (oc3 e_cl a_hd a_sr a_cd)), (a_sr, (arI G n_sr f_sr)), (a_cd, (arI G n_cd f_cd)), (a_hd, (arI G n_hd f_hd)), (a_p, (oc6 8 5 a_pn e_p)), (a_pn, (arI G 40 f_p))] hP hD (fun hP hD => ?_)
  refine g5_ti (v := z2) y3 ?_
  have hg_4 : 0 ≤ z2.toInt ∧ z2.toInt ≤ 5 := by rw [i_1]; exact (e_pk k_r.toInt (by omega) (by omega)).2.1
  refine lv_istore (lv' := [(5, .int z2), (0, .ref a_k), (2, .ref a_p), (3, .int k_r), (4, .int k_n)]) hx hb dX5_meetGlass_90 hl (by decide) rfl (fun ls hl => ?_)
  refine lv_aload_n hx hb dX5_meetGlass_92 rfl (lv_at hl 1 rfl) ?_
  refine lv_dup hx hb dX5_meetGlass_93 rfl ?_
  refine va_get (D := G.1) (ci := 5) (v := .int e_me) (C := RX5) (T := TX5) (N := 13) hx hb hts inG_X5 hown hK hP 0 rfl rfl 8 (by decide) (hts _ fl_X5_95) (fun _ h9 => h9) rfl dX5_meetGlass_94 ?_
  refine lv_iconst (v := 1) hx hb dX5_meetGlass_97 (by decide) ?_
  refine lv_iload hx hb dX5_meetGlass_98 (lv_at hl 4 rfl) ?_
  refine lv_ishl hx hb dX5_meetGlass_100 ?_
  refine lv_ior hx hb dX5_meetGlass_101 ?_
  refine va_put (D := G.1) (ci := 5) (v := .int (e_me ||| (1 <<< (k_n &&& 31)))) (ty := .int) (C := RX5) (T := TX5) (N := 13) hx hb hts inG_X5 tyX5 tyX5_ok nmX5 hown hK hP hD hS 0 rfl rfl 8 (by decide) (hts _ fl_X5_95) (fun _ h9 => h9) rfl (by decide +kernel) rfl rfl (Nat.le_of_ble_eq_true rfl) dX5_meetGlass_102 (fun H locs hP hD hS => ?_)
  refine g5_rs [(a_k, (oc5 a_h a_j a_pt e_ln e_se e_lh e_br e_we (e_me ||| (1 <<< (k_n &&& 31))) e_ce e_wy e_ho e_ov)), (a_h, (oc1 e_wa e_le e_st e_fo e_lc a_l a_g a_b a_s a_p a_w e_gb a_bb)), (a_g, (oc6 6 5 a_gn e_g)), (a_gn, (arI G 30 f_g)), (a_j, (oc2 a_as a_sk)), (a_as, (arI G 8 f_as)), (a_sk, (arJ G 50 f_sk)), (a_l, (arW G 6 f_l)), (a_lo, (oc3 e_cl a_hd a_sr a_cd)), (a_sr, (arI G n_sr f_sr)), (a_cd, (arI G n_cd f_cd)), (a_hd, (arI G n_hd f_hd)), (a_p, (oc6 8 5 a_pn e_p)), (a_pn, (arI G 40 f_p))] hP hD (fun hP hD => ?_)
  refine lv_aload_n hx hb dX5_meetGlass_105 rfl (lv_at hl 1 rfl) ?_
  refine va_get (D := G.1) (ci := 5) (v := .ref a_h) (C := RX5) (T := TX5) (N := 13) hx hb hts inG_X5 hown hK hP 0 rfl rfl 0 (by decide) (hts _ fl_X5_22) (fun _ h9 => h9) rfl dX5_meetGlass_106 ?_
  obtain ⟨hPc, hDc, hFc⟩ := g5_sub3 (wc := [(a_h, (oc1 e_wa e_le e_st e_fo e_lc a_l a_g a_b a_s a_p a_w e_gb a_bb)), (a_l, (arW G 6 f_l))]) hP hD hS hA [1, 7] (by decide) rfl
  refine va_callq (va_runV (As := []) (rest := []) ⟨hx, hb, hml, hown, hts⟩ (h_lawL l G a_h a_l a_g a_b a_s a_p a_w a_bb a_lo H.size e_le e_st e_fo e_lc e_wa e_gb f_l (e_f) (e_a)) (cwV 0 hts gV_X5_113 rfl rfl rfl hv_X1_lawInForce ⟨Nat.le_of_ble_eq_true rfl, Nat.le_of_ble_eq_true rfl⟩) (g5_preV hPc hK hDc hN hT hS hFc (ci := 1) (q0 := 0) rfl rfl) rfl rfl hl.1 rfl (lv_room (Nat.le_of_ble_eq_true rfl)) dX5_meetGlass_109 ⟨Nat.le_of_ble_eq_true rfl, Nat.le_of_ble_eq_true rfl⟩) hS (fun q _ h => hFc q h) hFc (fun r u t H1 locs ht hvm hw hB hz1 hk1 hS => ?_)
  obtain ⟨hP1, hD1⟩ := hB
  rw [ht] at hP1
  obtain ⟨rfl, rfl⟩ := hw
  obtain ⟨hP, hD⟩ := va_join (wr := [(a_k, (oc5 a_h a_j a_pt e_ln e_se e_lh e_br e_we (e_me ||| (1 <<< (k_n &&& 31))) e_ce e_wy e_ho e_ov)), (a_g, (oc6 6 5 a_gn e_g)), (a_gn, (arI G 30 f_g)), (a_j, (oc2 a_as a_sk)), (a_as, (arI G 8 f_as)), (a_sk, (arJ G 50 f_sk)), (a_lo, (oc3 e_cl a_hd a_sr a_cd)), (a_sr, (arI G n_sr f_sr)), (a_cd, (arI G n_cd f_cd)), (a_hd, (arI G n_hd f_hd)), (a_p, (oc6 8 5 a_pn e_p)), (a_pn, (arI G 40 f_p))]) hP hD [1, 7] [0, 2, 3, 4, 5, 6, 8, 9, 10, 11, 12, 13] rfl rfl (by decide) (by decide) hk1 hFc hP1 hD1
  generalize H1 = H at hP hS ⊢
  refine g5_rs [(a_k, (oc5 a_h a_j a_pt e_ln e_se e_lh e_br e_we (e_me ||| (1 <<< (k_n &&& 31))) e_ce e_wy e_ho e_ov)), (a_g, (oc6 6 5 a_gn e_g)), (a_gn, (arI G 30 f_g)), (a_j, (oc2 a_as a_sk)), (a_as, (arI G 8 f_as)), (a_sk, (arJ G 50 f_sk)), (a_lo, (oc3 e_cl a_hd a_sr a_cd)), (a_sr, (arI G n_sr f_sr)), (a_cd, (arI G n_cd f_cd)), (a_hd, (arI G n_hd f_hd)), (a_p, (oc6 8 5 a_pn e_p)), (a_pn, (arI G 40 f_p)), (a_h, (oc1 e_wa e_le e_st e_fo e_lc a_l a_g a_b a_s a_p a_w e_gb a_bb)), (a_l, (arW G 6 f_l))] hP hD (fun hP hD => ?_)
  refine g5_tv (v := .ref a_lo) rfl ?_
  refine lv_astore (lv' := [(6, .ref a_lo), (5, .int z2), (0, .ref a_k), (2, .ref a_p), (3, .int k_r), (4, .int k_n)]) hx hb dX5_meetGlass_112 hl (by decide) rfl (fun ls hl => ?_)
  refine lv_aload_n hx hb dX5_meetGlass_114 rfl (lv_at hl 2 rfl) ?_
  refine lv_iload hx hb dX5_meetGlass_115 (lv_at hl 5 rfl) ?_
  refine lv_iconst (v := (-1)) hx hb dX5_meetGlass_117 (by decide) ?_
  obtain ⟨hPc, hDc, hFc⟩ := g5_sub3 (wc := [(a_k, (oc5 a_h a_j a_pt e_ln e_se e_lh e_br e_we (e_me ||| (1 <<< (k_n &&& 31))) e_ce e_wy e_ho e_ov)), (a_j, (oc2 a_as a_sk)), (a_as, (arI G 8 f_as))]) hP hD hS hA [0, 3, 4] (by decide) rfl
  refine va_callv (va_runV (As := [.int k_n, .int (-1)]) (rest := []) ⟨hx, hb, hml, hown, hts⟩ (k_ask l G a_k a_j a_as a_h a_pt a_sk H.size e_ln e_se e_lh e_br e_we (e_me ||| (1 <<< (k_n &&& 31))) e_ce e_wy e_ho e_ov k_n (-1) f_as ⟨by omega, by omega⟩ ⟨by omega, by omega⟩ ⟨by omega, by omega⟩ ⟨by omega, by omega⟩ ⟨by omega, by omega⟩) (cwV 2 hts gV_X5_120 rfl rfl rfl hv_X5_ask ⟨Nat.le_of_ble_eq_true rfl, Nat.le_of_ble_eq_true rfl⟩) (g5_preV hPc hK hDc hN hT hS hFc (ci := 5) (q0 := 0) rfl rfl) rfl rfl hl.1 rfl (lv_room (Nat.le_of_ble_eq_true rfl)) dX5_meetGlass_118 ⟨Nat.le_of_ble_eq_true rfl, Nat.le_of_ble_eq_true rfl⟩) hS (fun q _ h => hFc q h) hFc (fun u t H1 locs ht hvm hw hB hz1 hk1 hS => ?_)
  obtain ⟨hP1, hD1⟩ := hB
  rw [ht] at hP1
  obtain ⟨z5, rfl⟩ := hw
  obtain ⟨hP, hD⟩ := va_join (wr := [(a_g, (oc6 6 5 a_gn e_g)), (a_gn, (arI G 30 f_g)), (a_sk, (arJ G 50 f_sk)), (a_lo, (oc3 e_cl a_hd a_sr a_cd)), (a_sr, (arI G n_sr f_sr)), (a_cd, (arI G n_cd f_cd)), (a_hd, (arI G n_hd f_hd)), (a_p, (oc6 8 5 a_pn e_p)), (a_pn, (arI G 40 f_p)), (a_h, (oc1 e_wa e_le e_st e_fo e_lc a_l a_g a_b a_s a_p a_w e_gb a_bb)), (a_l, (arW G 6 f_l))]) hP hD [0, 3, 4] [1, 2, 5, 6, 7, 8, 9, 10, 11, 12, 13] rfl rfl (by decide) (by decide) hk1 hFc hP1 hD1
  generalize H1 = H at hP hS ⊢
  refine g5_rs [(a_g, (oc6 6 5 a_gn e_g)), (a_gn, (arI G 30 f_g)), (a_sk, (arJ G 50 f_sk)), (a_lo, (oc3 e_cl a_hd a_sr a_cd)), (a_sr, (arI G n_sr f_sr)), (a_cd, (arI G n_cd f_cd)), (a_hd, (arI G n_hd f_hd)), (a_p, (oc6 8 5 a_pn e_p)), (a_pn, (arI G 40 f_p)), (a_h, (oc1 e_wa e_le e_st e_fo e_lc a_l a_g a_b a_s a_p a_w e_gb a_bb)), (a_l, (arW G 6 f_l)), (a_k, (oc5 a_h a_j a_pt e_ln e_se e_lh e_br e_we (e_me ||| (1 <<< (k_n &&& 31))) e_ce e_wy e_ho e_ov)), (a_j, (oc2 a_as a_sk)), (a_as, (arI G 8 z5))] hP hD (fun hP hD => ?_)
  refine lv_aload_n hx hb dX5_meetGlass_121 rfl (lv_at hl 3 rfl) ?_
  refine lv_iload_n hx hb dX5_meetGlass_122 rfl (lv_at hl 4 rfl) ?_
  refine lv_iconst (v := 4) hx hb dX5_meetGlass_123 (by decide) ?_
  obtain ⟨hPc, hDc, hFc⟩ := g5_sub3 (wc := [(a_p, (oc6 8 5 a_pn e_p)), (a_pn, (arI G 40 f_p))]) hP hD hS hA [7, 8] (by decide) rfl
  refine va_calli (va_runV (As := [.int k_r, .int 4]) (rest := []) ⟨hx, hb, hml, hown, hts⟩ (t_get_P l G a_p a_pn H.size e_p k_r 4 f_p ⟨by omega, by omega⟩) (cwV 2 hts gV_X5_107 rfl rfl rfl hv_X6_get ⟨Nat.le_of_ble_eq_true rfl, Nat.le_of_ble_eq_true rfl⟩) (g5_preV hPc hK hDc hN hT hS hFc (ci := 6) (q0 := 0) rfl rfl) rfl rfl hl.1 rfl (lv_room (Nat.le_of_ble_eq_true rfl)) dX5_meetGlass_124 ⟨Nat.le_of_ble_eq_true rfl, Nat.le_of_ble_eq_true rfl⟩) hS (fun q _ h => hFc q h) hFc (fun r u t H1 locs ht hvm hw hB hz1 hk1 hS => ?_)
  obtain ⟨hP1, hD1⟩ := hB
  rw [ht] at hP1
  obtain ⟨z7, i_6, y8, rfl⟩ := hw
  have i_6 : z7 = tget f_p e_p.toInt 5 k_r.toInt (4 : Int32).toInt := i_6
  obtain ⟨hP, hD⟩ := va_join (wr := [(a_g, (oc6 6 5 a_gn e_g)), (a_gn, (arI G 30 f_g)), (a_sk, (arJ G 50 f_sk)), (a_lo, (oc3 e_cl a_hd a_sr a_cd)), (a_sr, (arI G n_sr f_sr)), (a_cd, (arI G n_cd f_cd)), (a_hd, (arI G n_hd f_hd)), (a_h, (oc1 e_wa e_le e_st e_fo e_lc a_l a_g a_b a_s a_p a_w e_gb a_bb)), (a_l, (arW G 6 f_l)), (a_k, (oc5 a_h a_j a_pt e_ln e_se e_lh e_br e_we (e_me ||| (1 <<< (k_n &&& 31))) e_ce e_wy e_ho e_ov)), (a_j, (oc2 a_as a_sk)), (a_as, (arI G 8 z5))]) hP hD [7, 8] [0, 1, 2, 3, 4, 5, 6, 9, 10, 11, 12, 13] rfl rfl (by decide) (by decide) hk1 hFc hP1 hD1
  generalize H1 = H at hP hS ⊢
  refine g5_rs [(a_g, (oc6 6 5 a_gn e_g)), (a_gn, (arI G 30 f_g)), (a_sk, (arJ G 50 f_sk)), (a_lo, (oc3 e_cl a_hd a_sr a_cd)), (a_sr, (arI G n_sr f_sr)), (a_cd, (arI G n_cd f_cd)), (a_hd, (arI G n_hd f_hd)), (a_h, (oc1 e_wa e_le e_st e_fo e_lc a_l a_g a_b a_s a_p a_w e_gb a_bb)), (a_l, (arW G 6 f_l)), (a_k, (oc5 a_h a_j a_pt e_ln e_se e_lh e_br e_we (e_me ||| (1 <<< (k_n &&& 31))) e_ce e_wy e_ho e_ov)), (a_j, (oc2 a_as a_sk)), (a_as, (arI G 8 z5)), (a_p, (oc6 8 5 a_pn e_p)), (a_pn, (arI G 40 f_p))] hP hD (fun hP hD => ?_)
  refine g5_ti (v := z7) y8 ?_
  refine lv_aload_n hx hb dX5_meetGlass_127 rfl (lv_at hl 2 rfl) ?_
  refine va_get (D := G.1) (ci := 5) (v := .int e_ho) (C := RX5) (T := TX5) (N := 13) hx hb hts inG_X5 hown hK hP 9 rfl rfl 11 (by decide) (hts _ fl_X5_33) (fun _ h9 => h9) rfl dX5_meetGlass_128 ?_
  refine lv_ishr hx hb dX5_meetGlass_131 ?_
  refine lv_iconst (v := 1) hx hb dX5_meetGlass_132 (by decide) ?_
  refine lv_iand hx hb dX5_meetGlass_133 ?_
  refine lv_if_ne (tgt := 169) hx hb dX5_meetGlass_134 (by decide) (fun c_9 => ?_) (fun c_9 => ?_)
  ·
    have n_9 : gNe (((z7 >>> (e_ho &&& 31)) &&& 1).toInt) (0) := by have z := g5_ne (a := ((z7 >>> (e_ho &&& 31)) &&& 1).toInt) (b := 0) (by rfl) (by decide) c_9; unfold gNe; omega
    exact kk 169 dX5_meetGlass_169 e_br e_we (e_me ||| (1 <<< (k_n &&& 31))) e_wy e_ho e_ov z5 f_sk ls H locs (hP.sub [9, 7, 0, 1, 12, 13, 10, 11, 2, 8, 3, 4, 5, 6] rfl) (hD.sub [9, 7, 0, 1, 12, 13, 10, 11, 2, 8, 3, 4, 5, 6] (by decide) rfl) hS (⟨by omega, by omega⟩) (⟨by omega, by omega⟩) (⟨by omega, by omega⟩) (⟨by omega, by omega⟩)
  ·
    have i_9 : ((z7 >>> (e_ho &&& 31)) &&& 1).toInt = 0 := by have z := g5_neN (a := ((z7 >>> (e_ho &&& 31)) &&& 1).toInt) (b := 0) (by rfl) (by decide) c_9; omega
    refine lv_aload_n hx hb dX5_meetGlass_137 rfl (lv_at hl 2 rfl) ?_
    refine va_get (D := G.1) (ci := 5) (v := .ref a_j) (C := RX5) (T := TX5) (N := 13) hx hb hts inG_X5 hown hK hP 9 rfl rfl 1 (by decide) (hts _ fl_X5_12) (fun _ h9 => h9) rfl dX5_meetGlass_138 ?_
    refine lv_aload hx hb dX5_meetGlass_141 (lv_at hl 0 rfl) ?_
    refine lv_iconst (v := 2) hx hb dX5_meetGlass_143 (by decide) ?_
    obtain ⟨hPc, hDc, hFc⟩ := g5_sub3 (wc := [(a_j, (oc2 a_as a_sk)), (a_as, (arI G 8 z5)), (a_sk, (arJ G 50 f_sk)), (a_lo, (oc3 e_cl a_hd a_sr a_cd)), (a_sr, (arI G n_sr f_sr)), (a_cd, (arI G n_cd f_cd)), (a_hd, (arI G n_hd f_hd))]) hP hD hS hA [10, 11, 2, 3, 4, 5, 6] (by decide) rfl
    refine va_calli (va_runV (As := [.ref a_lo, .int 2]) (rest := []) ⟨hx, hb, hml, hown, hts⟩ (j_isHeld l G a_j a_as a_sk a_lo a_sr a_cd a_hd H.size 2 e_cl z5 f_sk f_sr f_cd f_hd n_sr n_cd n_hd ⟨by omega, by omega⟩ (e_hn) (e_hs) (e_hk) (e_c)) (cwV 2 hts gV_X5_124 rfl rfl rfl hv_X2_isHeld ⟨Nat.le_of_ble_eq_true rfl, Nat.le_of_ble_eq_true rfl⟩) (g5_preV hPc hK hDc hN hT hS hFc (ci := 2) (q0 := 0) rfl rfl) rfl rfl hl.1 rfl (lv_room (Nat.le_of_ble_eq_true rfl)) dX5_meetGlass_144 ⟨Nat.le_of_ble_eq_true rfl, Nat.le_of_ble_eq_true rfl⟩) hS (fun q _ h => hFc q h) hFc (fun r u t H1 locs ht hvm hw hB hz1 hk1 hS => ?_)
    obtain ⟨hP1, hD1⟩ := hB
    rw [ht] at hP1
    obtain ⟨z11, z12, i_10, y13, rfl⟩ := hw
    have i_10 : 0 ≤ z11.toInt ∧ z11.toInt ≤ 1 := i_10
    obtain ⟨hP, hD⟩ := va_join (wr := [(a_g, (oc6 6 5 a_gn e_g)), (a_gn, (arI G 30 f_g)), (a_h, (oc1 e_wa e_le e_st e_fo e_lc a_l a_g a_b a_s a_p a_w e_gb a_bb)), (a_l, (arW G 6 f_l)), (a_k, (oc5 a_h a_j a_pt e_ln e_se e_lh e_br e_we (e_me ||| (1 <<< (k_n &&& 31))) e_ce e_wy e_ho e_ov)), (a_p, (oc6 8 5 a_pn e_p)), (a_pn, (arI G 40 f_p))]) hP hD [10, 11, 2, 3, 4, 5, 6] [0, 1, 7, 8, 9, 12, 13] rfl rfl (by decide) (by decide) hk1 hFc hP1 hD1
    generalize H1 = H at hP hS ⊢
    refine g5_rs [(a_g, (oc6 6 5 a_gn e_g)), (a_gn, (arI G 30 f_g)), (a_h, (oc1 e_wa e_le e_st e_fo e_lc a_l a_g a_b a_s a_p a_w e_gb a_bb)), (a_l, (arW G 6 f_l)), (a_k, (oc5 a_h a_j a_pt e_ln e_se e_lh e_br e_we (e_me ||| (1 <<< (k_n &&& 31))) e_ce e_wy e_ho e_ov)), (a_p, (oc6 8 5 a_pn e_p)), (a_pn, (arI G 40 f_p)), (a_j, (oc2 a_as a_sk)), (a_as, (arI G 8 z5)), (a_sk, (arJ G 50 z12)), (a_lo, (oc3 e_cl a_hd a_sr a_cd)), (a_sr, (arI G n_sr f_sr)), (a_cd, (arI G n_cd f_cd)), (a_hd, (arI G n_hd f_hd))] hP hD (fun hP hD => ?_)
    refine g5_ti (v := z11) y13 ?_
    refine lv_if_ne (tgt := 169) hx hb dX5_meetGlass_147 (by decide) (fun c_14 => ?_) (fun c_14 => ?_)
    ·
      have n_14 : gNe (z11.toInt) (0) := by have z := g5_ne (a := z11.toInt) (b := 0) (by rfl) (by decide) c_14; unfold gNe; omega
      have i_14 : z11.toInt ≥ 1 := by have z := g5_ne (a := z11.toInt) (b := 0) (by rfl) (by decide) c_14; omega
      exact kk 169 dX5_meetGlass_169 e_br e_we (e_me ||| (1 <<< (k_n &&& 31))) e_wy e_ho e_ov z5 z12 ls H locs (hP.sub [4, 2, 0, 1, 5, 6, 7, 8, 9, 3, 10, 11, 12, 13] rfl) (hD.sub [4, 2, 0, 1, 5, 6, 7, 8, 9, 3, 10, 11, 12, 13] (by decide) rfl) hS (⟨by omega, by omega⟩) (⟨by omega, by omega⟩) (⟨by omega, by omega⟩) (⟨by omega, by omega⟩)
    ·
      have i_14 : z11.toInt = 0 := by have z := g5_neN (a := z11.toInt) (b := 0) (by rfl) (by decide) c_14; omega
      refine lv_iload hx hb dX5_meetGlass_150 (lv_at hl 1 rfl) ?_
      refine lv_iconst (v := 2) hx hb dX5_meetGlass_152 (by decide) ?_
      refine lv_icmp_lt (tgt := 170) hx hb dX5_meetGlass_153 (by decide) (fun c_15 => ?_) (fun c_15 => ?_)
      ·
        have i_15 : z2.toInt < 2 := by have z := g5_lt (a := z2.toInt) (b := 2) (by rfl) (by decide) c_15; omega
        exact k_mgpL2 G a_k a_h a_g a_gn a_p a_pn a_j a_as a_sk a_l a_lo a_sr a_cd a_hd a_pt a_b a_s a_w a_bb n_sr n_cd n_hd e_ln e_se e_lh e_br e_we (e_me ||| (1 <<< (k_n &&& 31))) e_ce e_wy e_ho e_ov e_le e_st e_fo e_lc e_wa e_gb e_g f_g e_p f_p z5 z12 f_l e_cl f_sr f_cd f_hd k_r k_n z2 hx hb hml hown hts hK hN hT hA (hP.sub [4, 2, 0, 1, 5, 6, 7, 8, 9, 3, 10, 11, 12, 13] rfl) (hD.sub [4, 2, 0, 1, 5, 6, 7, 8, 9, 3, 10, 11, 12, 13] (by decide) rfl) hS (lv_sub hl [2, 3, 4, 5, 1, 0] rfl) ⟨by omega, by omega⟩ ⟨by omega, by omega⟩ ⟨by omega, by omega⟩ ⟨by omega, by omega⟩ ⟨by omega, by omega⟩ ⟨by omega, by omega⟩ ⟨by omega, by omega⟩ ⟨by omega, by omega⟩ ⟨by omega, by omega⟩ ⟨by omega, by omega⟩ (e_gk) (e_pk) (e_f) (e_a) (e_hn) (e_hs) (e_hk) (e_c) (e_r) kk
      ·
        have i_15 : z2.toInt ≥ 2 := by have z := g5_ltN (a := z2.toInt) (b := 2) (by rfl) (by decide) c_15; omega
        refine lv_iload hx hb dX5_meetGlass_156 (lv_at hl 1 rfl) ?_
        refine lv_iconst (v := 2) hx hb dX5_meetGlass_158 (by decide) ?_
        refine lv_isub hx hb dX5_meetGlass_159 ?_
        have t_16 : (z2 - 2).toInt = z2.toInt - 2 := g5_isub (a := z2.toInt) (b := 2) (by rfl) (by decide) (by omega) (by omega)
        refine lv_aload_n hx hb dX5_meetGlass_160 rfl (lv_at hl 2 rfl) ?_
        refine va_get (D := G.1) (ci := 5) (v := .int e_wy) (C := RX5) (T := TX5) (N := 13) hx hb hts inG_X5 hown hK hP 4 rfl rfl 10 (by decide) (hts _ fl_X5_30) (fun _ h9 => h9) rfl dX5_meetGlass_161 ?_
        refine lv_iconst (v := 2) hx hb dX5_meetGlass_164 (by decide) ?_
        refine lv_ixor hx hb dX5_meetGlass_165 ?_
        have hx_17 := (g_xor (w := e_wy) (by omega) (by omega)).2
        refine lv_icmp_eq (tgt := 170) hx hb dX5_meetGlass_166 (by decide) (fun c_18 => ?_) (fun c_18 => ?_)
        ·
          have i_18 : (z2.toInt - 2) = (e_wy ^^^ 2).toInt := by have z := g5_eq (a := (z2 - 2).toInt) (b := (e_wy ^^^ 2).toInt) (by rfl) (by rfl) c_18; omega
          exact k_mgpL2 G a_k a_h a_g a_gn a_p a_pn a_j a_as a_sk a_l a_lo a_sr a_cd a_hd a_pt a_b a_s a_w a_bb n_sr n_cd n_hd e_ln e_se e_lh e_br e_we (e_me ||| (1 <<< (k_n &&& 31))) e_ce e_wy e_ho e_ov e_le e_st e_fo e_lc e_wa e_gb e_g f_g e_p f_p z5 z12 f_l e_cl f_sr f_cd f_hd k_r k_n z2 hx hb hml hown hts hK hN hT hA (hP.sub [4, 2, 0, 1, 5, 6, 7, 8, 9, 3, 10, 11, 12, 13] rfl) (hD.sub [4, 2, 0, 1, 5, 6, 7, 8, 9, 3, 10, 11, 12, 13] (by decide) rfl) hS (lv_sub hl [2, 3, 4, 5, 1, 0] rfl) ⟨by omega, by omega⟩ ⟨by omega, by omega⟩ ⟨by omega, by omega⟩ ⟨by omega, by omega⟩ ⟨by omega, by omega⟩ ⟨by omega, by omega⟩ ⟨by omega, by omega⟩ ⟨by omega, by omega⟩ ⟨by omega, by omega⟩ ⟨by omega, by omega⟩ (e_gk) (e_pk) (e_f) (e_a) (e_hn) (e_hs) (e_hk) (e_c) (e_r) kk
        ·
          have n_18 : gNe ((z2.toInt - 2)) ((e_wy ^^^ 2).toInt) := by have z := g5_eqN (a := (z2 - 2).toInt) (b := (e_wy ^^^ 2).toInt) (by rfl) (by rfl) c_18; unfold gNe; omega
          exact kk 169 dX5_meetGlass_169 e_br e_we (e_me ||| (1 <<< (k_n &&& 31))) e_wy e_ho e_ov z5 z12 ls H locs (hP.sub [4, 2, 0, 1, 5, 6, 7, 8, 9, 3, 10, 11, 12, 13] rfl) (hD.sub [4, 2, 0, 1, 5, 6, 7, 8, 9, 3, 10, 11, 12, 13] (by decide) rfl) hS (⟨by omega, by omega⟩) (⟨by omega, by omega⟩) (⟨by omega, by omega⟩) (⟨by omega, by omega⟩)
set_option maxHeartbeats 4000000 in
set_option maxRecDepth 100000 in
theorem k_meetGlassL (l : Launch) (G : g5_G) (a_k a_h a_g a_gn a_p a_pn a_j a_as a_sk a_l a_lo a_sr a_cd a_hd a_pt a_b a_s a_w a_bb : Nat) (sz : Nat) (e_ln : Int32) (e_se : Int32) (e_lh : Int32) (e_br : Int32) (e_we : Int32) (e_me : Int32) (e_ce : Int32) (e_wy : Int32) (e_ho : Int32) (e_ov : Int32) (e_le : Int32) (e_st : Int32) (e_fo : Int32) (e_lc : Int32) (e_g : Int32) (e_p : Int32) (e_cl : Int32) (e_wa : Int64) (e_gb : Int64) (f_g : Nat → Int32) (f_p : Nat → Int32) (f_as : Nat → Int32) (f_sk : Nat → Int64) (f_l : Nat → Option Nat) (f_sr : Nat → Int32) (f_cd : Nat → Int32) (f_hd : Nat → Int32) (n_sr : Nat) (n_cd : Nat) (n_hd : Nat) (h_e_br : 0 ≤ e_br.toInt ∧ e_br.toInt ≤ 1000000) (h_e_ce : 0 ≤ e_ce.toInt ∧ e_ce.toInt ≤ 63) (h_e_wy : 0 ≤ e_wy.toInt ∧ e_wy.toInt ≤ 3) (h_e_ho : 0 ≤ e_ho.toInt ∧ e_ho.toInt ≤ 23) (h_e_ov : 0 ≤ e_ov.toInt ∧ e_ov.toInt ≤ 1) (h_e_g : 0 ≤ e_g.toInt ∧ e_g.toInt ≤ 6) (h_e_p : 0 ≤ e_p.toInt ∧ e_p.toInt ≤ 8) (h_e_cl : 0 ≤ e_cl.toInt ∧ e_cl.toInt ≤ 12) (e_gk : gOK f_g e_g.toInt) (e_pk : gOK f_p e_p.toInt) (e_in : inR f_g e_g.toInt e_ce.toInt ∨ inR f_p e_p.toInt e_ce.toInt) (e_f : 0 ≤ e_fo.toInt ∧ e_fo.toInt < e_lc.toInt ∧ e_lc.toInt ≤ 6) (e_a : f_l e_fo.toNatClampNeg = some a_lo) (e_hn : n_cd ≤ 400) (e_hs : ∀ j : Nat, j < n_sr → 0 ≤ (f_sr j).toInt ∧ (f_sr j).toInt ≤ (n_cd : Int)) (e_hk : ∀ j : Nat, j < n_cd → (f_cd j >>> (12 &&& 31)).toInt = 1 → (f_cd j &&& 4095).toInt < 8) (e_c : (e_cl.toInt : Int) ≤ (n_hd : Int) ∧ (e_cl.toInt + 1 : Int) ≤ (n_sr : Int)) : Met l yX5_meetGlass (wsG yX5_meetGlass cX5_meetGlass 9 none) ({ frames := 12, cells := 0, slots := 0, locals := 500 }) (va_Pc [.ref a_k] (g5_P G [(a_k, (oc5 a_h a_j a_pt e_ln e_se e_lh e_br e_we e_me e_ce e_wy e_ho e_ov)), (a_h, (oc1 e_wa e_le e_st e_fo e_lc a_l a_g a_b a_s a_p a_w e_gb a_bb)), (a_g, (oc6 6 5 a_gn e_g)), (a_gn, (arI G 30 f_g)), (a_p, (oc6 8 5 a_pn e_p)), (a_pn, (arI G 40 f_p)), (a_j, (oc2 a_as a_sk)), (a_as, (arI G 8 f_as)), (a_sk, (arJ G 50 f_sk)), (a_l, (arW G 6 f_l)), (a_lo, (oc3 e_cl a_hd a_sr a_cd)), (a_sr, (arI G n_sr f_sr)), (a_cd, (arI G n_cd f_cd)), (a_hd, (arI G n_hd f_hd))] sz)) (va_Qv (fun (u : va_W) => (∃ (o_b : Int32) (o_w : Int32) (o_m : Int32) (o_y : Int32) (o_h : Int32) (o_v : Int32) (o_a : Nat → Int32) (o_k : Nat → Int64), (0 ≤ o_b.toInt ∧ o_b.toInt ≤ 1000000) ∧ (0 ≤ o_y.toInt ∧ o_y.toInt ≤ 3) ∧ (0 ≤ o_h.toInt ∧ o_h.toInt ≤ 23) ∧ (0 ≤ o_v.toInt ∧ o_v.toInt ≤ 1) ∧ (u = [(a_k, (oc5 a_h a_j a_pt e_ln e_se e_lh o_b o_w o_m e_ce o_y o_h o_v)), (a_h, (oc1 e_wa e_le e_st e_fo e_lc a_l a_g a_b a_s a_p a_w e_gb a_bb)), (a_g, (oc6 6 5 a_gn e_g)), (a_gn, (arI G 30 f_g)), (a_p, (oc6 8 5 a_pn e_p)), (a_pn, (arI G 40 f_p)), (a_j, (oc2 a_as a_sk)), (a_as, (arI G 8 o_a)), (a_sk, (arJ G 50 o_k)), (a_l, (arW G 6 f_l)), (a_lo, (oc3 e_cl a_hd a_sr a_cd)), (a_sr, (arI G n_sr f_sr)), (a_cd, (arI G n_cd f_cd)), (a_hd, (arI G n_hd f_hd))]))) (g5_B G (va_A [(a_k, (oc5 a_h a_j a_pt e_ln e_se e_lh e_br e_we e_me e_ce e_wy e_ho e_ov)), (a_h, (oc1 e_wa e_le e_st e_fo e_lc a_l a_g a_b a_s a_p a_w e_gb a_bb)), (a_g, (oc6 6 5 a_gn e_g)), (a_gn, (arI G 30 f_g)), (a_p, (oc6 8 5 a_pn e_p)), (a_pn, (arI G 40 f_p)), (a_j, (oc2 a_as a_sk)), (a_as, (arI G 8 f_as)), (a_sk, (arJ G 50 f_sk)), (a_l, (arW G 6 f_l)), (a_lo, (oc3 e_cl a_hd a_sr a_cd)), (a_sr, (arI G n_sr f_sr)), (a_cd, (arI G n_cd f_cd)), (a_hd, (arI G n_hd f_hd))] sz)) (va_A [(a_k, (oc5 a_h a_j a_pt e_ln e_se e_lh e_br e_we e_me e_ce e_wy e_ho e_ov)), (a_h, (oc1 e_wa e_le e_st e_fo e_lc a_l a_g a_b a_s a_p a_w e_gb a_bb)), (a_g, (oc6 6 5 a_gn e_g)), (a_gn, (arI G 30 f_g)), (a_p, (oc6 8 5 a_pn e_p)), (a_pn, (arI G 40 f_p)), (a_j, (oc2 a_as a_sk)), (a_as, (arI G 8 f_as)), (a_sk, (arJ G 50 f_sk)), (a_l, (arW G 6 f_l)), (a_lo, (oc3 e_cl a_hd a_sr a_cd)), (a_sr, (arI G n_sr f_sr)), (a_cd, (arI G n_cd f_cd)), (a_hd, (arI G n_hd f_hd))] sz)) 0 0 (va_A [(a_k, (oc5 a_h a_j a_pt e_ln e_se e_lh e_br e_we e_me e_ce e_wy e_ho e_ov)), (a_h, (oc1 e_wa e_le e_st e_fo e_lc a_l a_g a_b a_s a_p a_w e_gb a_bb)), (a_g, (oc6 6 5 a_gn e_g)), (a_gn, (arI G 30 f_g)), (a_p, (oc6 8 5 a_pn e_p)), (a_pn, (arI G 40 f_p)), (a_j, (oc2 a_as a_sk)), (a_as, (arI G 8 f_as)), (a_sk, (arJ G 50 f_sk)), (a_l, (arW G 6 f_l)), (a_lo, (oc3 e_cl a_hd a_sr a_cd)), (a_sr, (arI G n_sr f_sr)), (a_cd, (arI G n_cd f_cd)), (a_hd, (arI G n_hd f_hd))] sz) := by
  refine Met.ofW (cc := cX5_meetGlass) (maxL := 9) (ret := none) (by decide) rfl ?_
  intro p e s m args below meth c s₁ B hml hv
  obtain ⟨rfl, hsz, hP, hK, hD0, hN, hT⟩ := hv
  have hx := B.exec
  have hb := B.bytes
  have hr := B.returns
  have hts : ∀ w ∈ tblG, w.before _ s = true := fun w h => atoms_spec (ws := (wsG yX5_meetGlass cX5_meetGlass 9 none)) B.pre w (List.mem_cons_of_mem _ h)
  have hown : s.vm.findClass RX5 = some m.cls := findClass_of_methodNamed B.named
  have hlocks := B.notSynchronized
  subst hsz
  have hD := hD0.self (sz := s.heap.size)
  generalize hAe : va_A [(a_k, (oc5 a_h a_j a_pt e_ln e_se e_lh e_br e_we e_me e_ce e_wy e_ho e_ov)), (a_h, (oc1 e_wa e_le e_st e_fo e_lc a_l a_g a_b a_s a_p a_w e_gb a_bb)), (a_g, (oc6 6 5 a_gn e_g)), (a_gn, (arI G 30 f_g)), (a_p, (oc6 8 5 a_pn e_p)), (a_pn, (arI G 40 f_p)), (a_j, (oc2 a_as a_sk)), (a_as, (arI G 8 f_as)), (a_sk, (arJ G 50 f_sk)), (a_l, (arW G 6 f_l)), (a_lo, (oc3 e_cl a_hd a_sr a_cd)), (a_sr, (arI G n_sr f_sr)), (a_cd, (arI G n_cd f_cd)), (a_hd, (arI G n_hd f_hd))] s.heap.size = A at hD hT ⊢
  have hA : ∀ q : Nat, s.heap.size ≤ q → A q := fun q h => by rw [← hAe]; exact Or.inr h
  have hS : va_S A s.heap s.heap [] := va_S.rf
  have hP : va_P G.1 vwCl [(a_k, (oc5 a_h a_j a_pt e_ln e_se e_lh e_br e_we e_me e_ce e_wy e_ho e_ov)), (a_h, (oc1 e_wa e_le e_st e_fo e_lc a_l a_g a_b a_s a_p a_w e_gb a_bb)), (a_g, (oc6 6 5 a_gn e_g)), (a_gn, (arI G 30 f_g)), (a_p, (oc6 8 5 a_pn e_p)), (a_pn, (arI G 40 f_p)), (a_j, (oc2 a_as a_sk)), (a_as, (arI G 8 f_as)), (a_sk, (arJ G 50 f_sk)), (a_l, (arW G 6 f_l)), (a_lo, (oc3 e_cl a_hd a_sr a_cd)), (a_sr, (arI G n_sr f_sr)), (a_cd, (arI G n_cd f_cd)), (a_hd, (arI G n_hd f_hd))] s.heap := hP
  have hl := lv_entry ([.ref a_k]) (n := 9) (Nat.le_of_ble_eq_true rfl)
  rw [lg_entry_eq]
  generalize (lg_sl ([.ref a_k]) ++ List.replicate (9 - (lg_sl ([.ref a_k])).length) Slot.unset).toArray = ls at hl ⊢
  have hl : lv_has ls 9 [(0, .ref a_k)] := hl
  refine lv_aload_n hx hb dX5_meetGlass_0 rfl (lv_at hl 0 rfl) ?_
  refine lv_iconst (v := 1) hx hb dX5_meetGlass_1 (by decide) ?_
  refine va_put (D := G.1) (ci := 5) (v := .int 1) (ty := .boolean) (C := RX5) (T := TX5) (N := 13) hx hb hts inG_X5 tyX5 tyX5_ok nmX5 hown hK hP hD hS 0 rfl rfl 12 (by decide) (hts _ fl_X5_56) (fun _ h9 => h9) rfl (by decide +kernel) rfl rfl (Nat.le_of_ble_eq_true rfl) dX5_meetGlass_2 (fun H locs hP hD hS => ?_)
  refine g5_rs [(a_k, (oc5 a_h a_j a_pt e_ln e_se e_lh e_br e_we e_me e_ce e_wy e_ho 1)), (a_h, (oc1 e_wa e_le e_st e_fo e_lc a_l a_g a_b a_s a_p a_w e_gb a_bb)), (a_g, (oc6 6 5 a_gn e_g)), (a_gn, (arI G 30 f_g)), (a_p, (oc6 8 5 a_pn e_p)), (a_pn, (arI G 40 f_p)), (a_j, (oc2 a_as a_sk)), (a_as, (arI G 8 f_as)), (a_sk, (arJ G 50 f_sk)), (a_l, (arW G 6 f_l)), (a_lo, (oc3 e_cl a_hd a_sr a_cd)), (a_sr, (arI G n_sr f_sr)), (a_cd, (arI G n_cd f_cd)), (a_hd, (arI G n_hd f_hd))] hP hD (fun hP hD => ?_)
  refine lv_aload_n hx hb dX5_meetGlass_5 rfl (lv_at hl 0 rfl) ?_
  refine va_get (D := G.1) (ci := 5) (v := .ref a_h) (C := RX5) (T := TX5) (N := 13) hx hb hts inG_X5 hown hK hP 0 rfl rfl 0 (by decide) (hts _ fl_X5_22) (fun _ h9 => h9) rfl dX5_meetGlass_6 ?_
  refine va_get (D := G.1) (ci := 1) (v := .ref a_g) (C := RX1) (T := TX1) (N := 13) hx hb hts inG_X1 hown hK hP 1 rfl rfl 6 (by decide) (hts _ fl_X5_128) (fun _ h9 => h9) rfl dX5_meetGlass_9 ?_
  refine lv_iconst (v := 0) hx hb dX5_meetGlass_12 (by decide) ?_
  refine lv_aload_n hx hb dX5_meetGlass_13 rfl (lv_at hl 0 rfl) ?_
  refine va_get (D := G.1) (ci := 5) (v := .int e_ce) (C := RX5) (T := TX5) (N := 13) hx hb hts inG_X5 hown hK hP 0 rfl rfl 9 (by decide) (hts _ fl_X5_26) (fun _ h9 => h9) rfl dX5_meetGlass_14 ?_
  obtain ⟨hPc, hDc, hFc⟩ := g5_sub3 (wc := [(a_g, (oc6 6 5 a_gn e_g)), (a_gn, (arI G 30 f_g))]) hP hD hS hA [2, 3] (by decide) rfl
  refine va_calli (va_runV (As := [.int 0, .int e_ce]) (rest := []) ⟨hx, hb, hml, hown, hts⟩ (t_find_G l G a_g a_gn H.size e_g 0 e_ce f_g h_e_g) (cwV 2 hts gV_X5_131 rfl rfl rfl hv_X6_find ⟨Nat.le_of_ble_eq_true rfl, Nat.le_of_ble_eq_true rfl⟩) (g5_preV hPc hK hDc hN hT hS hFc (ci := 6) (q0 := 0) rfl rfl) rfl rfl hl.1 rfl (lv_room (Nat.le_of_ble_eq_true rfl)) dX5_meetGlass_17 ⟨Nat.le_of_ble_eq_true rfl, Nat.le_of_ble_eq_true rfl⟩) hS (fun q _ h => hFc q h) hFc (fun r u t H1 locs ht hvm hw hB hz1 hk1 hS => ?_)
  obtain ⟨hP1, hD1⟩ := hB
  rw [ht] at hP1
  rcases hw with ⟨i_1, rfl, rfl⟩ | ⟨z4, i_2, i_3, y5, rfl⟩
  ·
    have i_1 : ∀ r : Int, 0 ≤ r → r < e_g.toInt → tget f_g e_g.toInt 5 r (0 : Int32).toInt ≠ e_ce := i_1
    obtain ⟨hP, hD⟩ := va_join (wr := [(a_k, (oc5 a_h a_j a_pt e_ln e_se e_lh e_br e_we e_me e_ce e_wy e_ho 1)), (a_h, (oc1 e_wa e_le e_st e_fo e_lc a_l a_g a_b a_s a_p a_w e_gb a_bb)), (a_p, (oc6 8 5 a_pn e_p)), (a_pn, (arI G 40 f_p)), (a_j, (oc2 a_as a_sk)), (a_as, (arI G 8 f_as)), (a_sk, (arJ G 50 f_sk)), (a_l, (arW G 6 f_l)), (a_lo, (oc3 e_cl a_hd a_sr a_cd)), (a_sr, (arI G n_sr f_sr)), (a_cd, (arI G n_cd f_cd)), (a_hd, (arI G n_hd f_hd))]) hP hD [2, 3] [0, 1, 4, 5, 6, 7, 8, 9, 10, 11, 12, 13] rfl rfl (by decide) (by decide) hk1 hFc hP1 hD1
    generalize H1 = H at hP hS ⊢
    refine g5_rs [(a_k, (oc5 a_h a_j a_pt e_ln e_se e_lh e_br e_we e_me e_ce e_wy e_ho 1)), (a_h, (oc1 e_wa e_le e_st e_fo e_lc a_l a_g a_b a_s a_p a_w e_gb a_bb)), (a_p, (oc6 8 5 a_pn e_p)), (a_pn, (arI G 40 f_p)), (a_j, (oc2 a_as a_sk)), (a_as, (arI G 8 f_as)), (a_sk, (arJ G 50 f_sk)), (a_l, (arW G 6 f_l)), (a_lo, (oc3 e_cl a_hd a_sr a_cd)), (a_sr, (arI G n_sr f_sr)), (a_cd, (arI G n_cd f_cd)), (a_hd, (arI G n_hd f_hd)), (a_g, (oc6 6 5 a_gn e_g)), (a_gn, (arI G 30 f_g))] hP hD (fun hP hD => ?_)
    refine lv_istore_n (lv' := [(1, .int (-1)), (0, .ref a_k)]) hx hb dX5_meetGlass_20 rfl hl (by decide) rfl (fun ls hl => ?_)
    refine lv_iload_n hx hb dX5_meetGlass_21 rfl (lv_at hl 0 rfl) ?_
    refine lv_iconst (v := (-1)) hx hb dX5_meetGlass_22 (by decide) ?_
    refine lv_icmp_ne (tgt := 36) hx hb dX5_meetGlass_23 (by decide) (fun c_6 => ?_) (fun c_6 => ?_)
    ·
      exact absurd c_6 (by decide)
    ·
      refine lv_aload_n hx hb dX5_meetGlass_26 rfl (lv_at hl 1 rfl) ?_
      refine va_get (D := G.1) (ci := 5) (v := .ref a_h) (C := RX5) (T := TX5) (N := 13) hx hb hts inG_X5 hown hK hP 0 rfl rfl 0 (by decide) (hts _ fl_X5_22) (fun _ h9 => h9) rfl dX5_meetGlass_27 ?_
      refine va_get (D := G.1) (ci := 1) (v := .ref a_p) (C := RX1) (T := TX1) (N := 13) hx hb hts inG_X1 hown hK hP 1 rfl rfl 9 (by decide) (hts _ fl_X5_98) (fun _ h9 => h9) rfl dX5_meetGlass_30 ?_
      refine lv_goto (tgt := 43) hx hb dX5_meetGlass_33 (by decide) ?_
      refine lv_astore_n (lv' := [(2, .ref a_p), (1, .int (-1)), (0, .ref a_k)]) hx hb dX5_meetGlass_43 rfl hl (by decide) rfl (fun ls hl => ?_)
      refine lv_iload_n hx hb dX5_meetGlass_44 rfl (lv_at hl 1 rfl) ?_
      refine lv_iconst (v := (-1)) hx hb dX5_meetGlass_45 (by decide) ?_
      refine lv_icmp_ne (tgt := 67) hx hb dX5_meetGlass_46 (by decide) (fun c_7 => ?_) (fun c_7 => ?_)
      ·
        exact absurd c_7 (by decide)
      ·
        refine lv_aload_n hx hb dX5_meetGlass_49 rfl (lv_at hl 2 rfl) ?_
        refine va_get (D := G.1) (ci := 5) (v := .ref a_h) (C := RX5) (T := TX5) (N := 13) hx hb hts inG_X5 hown hK hP 0 rfl rfl 0 (by decide) (hts _ fl_X5_22) (fun _ h9 => h9) rfl dX5_meetGlass_50 ?_
        refine va_get (D := G.1) (ci := 1) (v := .ref a_p) (C := RX1) (T := TX1) (N := 13) hx hb hts inG_X1 hown hK hP 1 rfl rfl 9 (by decide) (hts _ fl_X5_98) (fun _ h9 => h9) rfl dX5_meetGlass_53 ?_
        refine lv_iconst (v := 0) hx hb dX5_meetGlass_56 (by decide) ?_
        refine lv_aload_n hx hb dX5_meetGlass_57 rfl (lv_at hl 2 rfl) ?_
        refine va_get (D := G.1) (ci := 5) (v := .int e_ce) (C := RX5) (T := TX5) (N := 13) hx hb hts inG_X5 hown hK hP 0 rfl rfl 9 (by decide) (hts _ fl_X5_26) (fun _ h9 => h9) rfl dX5_meetGlass_58 ?_
        obtain ⟨hPc, hDc, hFc⟩ := g5_sub3 (wc := [(a_p, (oc6 8 5 a_pn e_p)), (a_pn, (arI G 40 f_p))]) hP hD hS hA [2, 3] (by decide) rfl
        refine va_calli (va_runV (As := [.int 0, .int e_ce]) (rest := []) ⟨hx, hb, hml, hown, hts⟩ (t_find_P l G a_p a_pn H.size e_p 0 e_ce f_p h_e_p) (cwV 2 hts gV_X5_131 rfl rfl rfl hv_X6_find ⟨Nat.le_of_ble_eq_true rfl, Nat.le_of_ble_eq_true rfl⟩) (g5_preV hPc hK hDc hN hT hS hFc (ci := 6) (q0 := 0) rfl rfl) rfl rfl hl.1 rfl (lv_room (Nat.le_of_ble_eq_true rfl)) dX5_meetGlass_61 ⟨Nat.le_of_ble_eq_true rfl, Nat.le_of_ble_eq_true rfl⟩) hS (fun q _ h => hFc q h) hFc (fun r u t H1 locs ht hvm hw hB hz1 hk1 hS => ?_)
        obtain ⟨hP1, hD1⟩ := hB
        rw [ht] at hP1
        rcases hw with ⟨i_8, rfl, rfl⟩ | ⟨z11, i_9, i_10, y12, rfl⟩
        ·
          have i_8 : ∀ r : Int, 0 ≤ r → r < e_p.toInt → tget f_p e_p.toInt 5 r (0 : Int32).toInt ≠ e_ce := i_8
          obtain ⟨hP, hD⟩ := va_join (wr := [(a_k, (oc5 a_h a_j a_pt e_ln e_se e_lh e_br e_we e_me e_ce e_wy e_ho 1)), (a_h, (oc1 e_wa e_le e_st e_fo e_lc a_l a_g a_b a_s a_p a_w e_gb a_bb)), (a_j, (oc2 a_as a_sk)), (a_as, (arI G 8 f_as)), (a_sk, (arJ G 50 f_sk)), (a_l, (arW G 6 f_l)), (a_lo, (oc3 e_cl a_hd a_sr a_cd)), (a_sr, (arI G n_sr f_sr)), (a_cd, (arI G n_cd f_cd)), (a_hd, (arI G n_hd f_hd)), (a_g, (oc6 6 5 a_gn e_g)), (a_gn, (arI G 30 f_g))]) hP hD [2, 3] [0, 1, 4, 5, 6, 7, 8, 9, 10, 11, 12, 13] rfl rfl (by decide) (by decide) hk1 hFc hP1 hD1
          generalize H1 = H at hP hS ⊢
          refine g5_rs [(a_k, (oc5 a_h a_j a_pt e_ln e_se e_lh e_br e_we e_me e_ce e_wy e_ho 1)), (a_h, (oc1 e_wa e_le e_st e_fo e_lc a_l a_g a_b a_s a_p a_w e_gb a_bb)), (a_j, (oc2 a_as a_sk)), (a_as, (arI G 8 f_as)), (a_sk, (arJ G 50 f_sk)), (a_l, (arW G 6 f_l)), (a_lo, (oc3 e_cl a_hd a_sr a_cd)), (a_sr, (arI G n_sr f_sr)), (a_cd, (arI G n_cd f_cd)), (a_hd, (arI G n_hd f_hd)), (a_g, (oc6 6 5 a_gn e_g)), (a_gn, (arI G 30 f_g)), (a_p, (oc6 8 5 a_pn e_p)), (a_pn, (arI G 40 f_p))] hP hD (fun hP hD => ?_)
          refine lv_goto (tgt := 68) hx hb dX5_meetGlass_64 (by decide) ?_
          rcases e_in with e_in | e_in
          · exact absurd e_in (g_notin i_1)
          · exact absurd e_in (g_notin i_8)
        ·
          have i_9 : 0 ≤ z11.toInt ∧ z11.toInt < e_p.toInt := i_9
          have i_10 : tget f_p e_p.toInt 5 z11.toInt (0 : Int32).toInt = e_ce := i_10
          obtain ⟨hP, hD⟩ := va_join (wr := [(a_k, (oc5 a_h a_j a_pt e_ln e_se e_lh e_br e_we e_me e_ce e_wy e_ho 1)), (a_h, (oc1 e_wa e_le e_st e_fo e_lc a_l a_g a_b a_s a_p a_w e_gb a_bb)), (a_j, (oc2 a_as a_sk)), (a_as, (arI G 8 f_as)), (a_sk, (arJ G 50 f_sk)), (a_l, (arW G 6 f_l)), (a_lo, (oc3 e_cl a_hd a_sr a_cd)), (a_sr, (arI G n_sr f_sr)), (a_cd, (arI G n_cd f_cd)), (a_hd, (arI G n_hd f_hd)), (a_g, (oc6 6 5 a_gn e_g)), (a_gn, (arI G 30 f_g))]) hP hD [2, 3] [0, 1, 4, 5, 6, 7, 8, 9, 10, 11, 12, 13] rfl rfl (by decide) (by decide) hk1 hFc hP1 hD1
          generalize H1 = H at hP hS ⊢
          refine g5_rs [(a_k, (oc5 a_h a_j a_pt e_ln e_se e_lh e_br e_we e_me e_ce e_wy e_ho 1)), (a_h, (oc1 e_wa e_le e_st e_fo e_lc a_l a_g a_b a_s a_p a_w e_gb a_bb)), (a_j, (oc2 a_as a_sk)), (a_as, (arI G 8 f_as)), (a_sk, (arJ G 50 f_sk)), (a_l, (arW G 6 f_l)), (a_lo, (oc3 e_cl a_hd a_sr a_cd)), (a_sr, (arI G n_sr f_sr)), (a_cd, (arI G n_cd f_cd)), (a_hd, (arI G n_hd f_hd)), (a_g, (oc6 6 5 a_gn e_g)), (a_gn, (arI G 30 f_g)), (a_p, (oc6 8 5 a_pn e_p)), (a_pn, (arI G 40 f_p))] hP hD (fun hP hD => ?_)
          refine g5_ti (v := z11) y12 ?_
          refine lv_goto (tgt := 68) hx hb dX5_meetGlass_64 (by decide) ?_
          refine lv_istore_n (lv' := [(3, .int z11), (2, .ref a_p), (1, .int (-1)), (0, .ref a_k)]) hx hb dX5_meetGlass_68 rfl hl (by decide) rfl (fun ls hl => ?_)
          refine lv_iload_n hx hb dX5_meetGlass_69 rfl (lv_at hl 2 rfl) ?_
          refine lv_iconst (v := (-1)) hx hb dX5_meetGlass_70 (by decide) ?_
          refine lv_icmp_ne (tgt := 81) hx hb dX5_meetGlass_71 (by decide) (fun c_13 => ?_) (fun c_13 => ?_)
          ·
            exact absurd c_13 (by decide)
          ·
            refine lv_bipush (v := 6) hx hb dX5_meetGlass_74 (by decide) ?_
            refine lv_iload_n hx hb dX5_meetGlass_76 rfl (lv_at hl 0 rfl) ?_
            refine lv_iadd hx hb dX5_meetGlass_77 ?_
            have t_14 : (6 + z11).toInt = 6 + z11.toInt := g5_iadd (a := 6) (b := z11.toInt) (by decide) (by rfl) (by omega) (by omega)
            refine lv_goto (tgt := 82) hx hb dX5_meetGlass_78 (by decide) ?_
            refine lv_istore (lv' := [(4, .int (6 + z11)), (3, .int z11), (2, .ref a_p), (1, .int (-1)), (0, .ref a_k)]) hx hb dX5_meetGlass_82 hl (by decide) rfl (fun ls hl => ?_)
            refine k_mgpL1 G a_k a_h a_g a_gn a_p a_pn a_j a_as a_sk a_l a_lo a_sr a_cd a_hd a_pt a_b a_s a_w a_bb n_sr n_cd n_hd e_ln e_se e_lh e_br e_we e_me e_ce e_wy e_ho 1 e_le e_st e_fo e_lc e_wa e_gb e_g f_g e_p f_p f_as f_sk f_l e_cl f_sr f_cd f_hd z11 (6 + z11) hx hb hml hown hts hK hN hT hA (hP.sub [0, 1, 10, 11, 12, 13, 2, 3, 4, 5, 6, 7, 8, 9] rfl) (hD.sub [0, 1, 10, 11, 12, 13, 2, 3, 4, 5, 6, 7, 8, 9] (by decide) rfl) hS (lv_sub hl [4, 2, 1, 0] rfl) ⟨by omega, by omega⟩ ⟨by omega, by omega⟩ ⟨by omega, by omega⟩ ⟨by omega, by omega⟩ ⟨by decide, by decide⟩ ⟨by omega, by omega⟩ ⟨by omega, by omega⟩ ⟨by omega, by omega⟩ ⟨by omega, by omega⟩ (e_gk) (e_pk) (e_f) (e_a) (e_hn) (e_hs) (e_hk) (e_c) (by omega) (fun pc1 hd o_b o_w o_m o_y o_h o_v o_a o_k ls H locs hP hD hS i_b i_y i_h i_v => ?_)
            refine g5_rs [(a_k, (oc5 a_h a_j a_pt e_ln e_se e_lh o_b o_w o_m e_ce o_y o_h o_v)), (a_h, (oc1 e_wa e_le e_st e_fo e_lc a_l a_g a_b a_s a_p a_w e_gb a_bb)), (a_g, (oc6 6 5 a_gn e_g)), (a_gn, (arI G 30 f_g)), (a_p, (oc6 8 5 a_pn e_p)), (a_pn, (arI G 40 f_p)), (a_j, (oc2 a_as a_sk)), (a_as, (arI G 8 o_a)), (a_sk, (arJ G 50 o_k)), (a_l, (arW G 6 f_l)), (a_lo, (oc3 e_cl a_hd a_sr a_cd)), (a_sr, (arI G n_sr f_sr)), (a_cd, (arI G n_cd f_cd)), (a_hd, (arI G n_hd f_hd))] hP hD (fun hP hD => ?_)
            have i_b : 0 ≤ o_b.toInt ∧ o_b.toInt ≤ 1000000 := i_b
            have i_y : 0 ≤ o_y.toInt ∧ o_y.toInt ≤ 3 := i_y
            have i_h : 0 ≤ o_h.toInt ∧ o_h.toInt ≤ 23 := i_h
            have i_v : 0 ≤ o_v.toInt ∧ o_v.toInt ≤ 1 := i_v
            exact W.vret hx hb hr (fun t ht hW => ⟨⟨[(a_k, (oc5 a_h a_j a_pt e_ln e_se e_lh o_b o_w o_m e_ce o_y o_h o_v)), (a_h, (oc1 e_wa e_le e_st e_fo e_lc a_l a_g a_b a_s a_p a_w e_gb a_bb)), (a_g, (oc6 6 5 a_gn e_g)), (a_gn, (arI G 30 f_g)), (a_p, (oc6 8 5 a_pn e_p)), (a_pn, (arI G 40 f_p)), (a_j, (oc2 a_as a_sk)), (a_as, (arI G 8 o_a)), (a_sk, (arJ G 50 o_k)), (a_l, (arW G 6 f_l)), (a_lo, (oc3 e_cl a_hd a_sr a_cd)), (a_sr, (arI G n_sr f_sr)), (a_cd, (arI G n_cd f_cd)), (a_hd, (arI G n_hd f_hd))], rfl, ⟨o_b, o_w, o_m, o_y, o_h, o_v, o_a, o_k, ⟨by omega, by omega⟩, ⟨by omega, by omega⟩, ⟨by omega, by omega⟩, ⟨by omega, by omega⟩, rfl⟩, by rw [ht]; exact hP.sub [0, 1, 2, 3, 4, 5, 6, 7, 8, 9, 10, 11, 12, 13] rfl, hD.sub [0, 1, 2, 3, 4, 5, 6, 7, 8, 9, 10, 11, 12, 13] (by decide) rfl⟩, hS.F ht⟩) hS.2.2 hd
  ·
    have i_2 : 0 ≤ z4.toInt ∧ z4.toInt < e_g.toInt := i_2
    have i_3 : tget f_g e_g.toInt 5 z4.toInt (0 : Int32).toInt = e_ce := i_3
    obtain ⟨hP, hD⟩ := va_join (wr := [(a_k, (oc5 a_h a_j a_pt e_ln e_se e_lh e_br e_we e_me e_ce e_wy e_ho 1)), (a_h, (oc1 e_wa e_le e_st e_fo e_lc a_l a_g a_b a_s a_p a_w e_gb a_bb)), (a_p, (oc6 8 5 a_pn e_p)), (a_pn, (arI G 40 f_p)), (a_j, (oc2 a_as a_sk)), (a_as, (arI G 8 f_as)), (a_sk, (arJ G 50 f_sk)), (a_l, (arW G 6 f_l)), (a_lo, (oc3 e_cl a_hd a_sr a_cd)), (a_sr, (arI G n_sr f_sr)), (a_cd, (arI G n_cd f_cd)), (a_hd, (arI G n_hd f_hd))]) hP hD [2, 3] [0, 1, 4, 5, 6, 7, 8, 9, 10, 11, 12, 13] rfl rfl (by decide) (by decide) hk1 hFc hP1 hD1
    generalize H1 = H at hP hS ⊢
    refine g5_rs [(a_k, (oc5 a_h a_j a_pt e_ln e_se e_lh e_br e_we e_me e_ce e_wy e_ho 1)), (a_h, (oc1 e_wa e_le e_st e_fo e_lc a_l a_g a_b a_s a_p a_w e_gb a_bb)), (a_p, (oc6 8 5 a_pn e_p)), (a_pn, (arI G 40 f_p)), (a_j, (oc2 a_as a_sk)), (a_as, (arI G 8 f_as)), (a_sk, (arJ G 50 f_sk)), (a_l, (arW G 6 f_l)), (a_lo, (oc3 e_cl a_hd a_sr a_cd)), (a_sr, (arI G n_sr f_sr)), (a_cd, (arI G n_cd f_cd)), (a_hd, (arI G n_hd f_hd)), (a_g, (oc6 6 5 a_gn e_g)), (a_gn, (arI G 30 f_g))] hP hD (fun hP hD => ?_)
    refine g5_ti (v := z4) y5 ?_
    refine lv_istore_n (lv' := [(1, .int z4), (0, .ref a_k)]) hx hb dX5_meetGlass_20 rfl hl (by decide) rfl (fun ls hl => ?_)
    refine lv_iload_n hx hb dX5_meetGlass_21 rfl (lv_at hl 0 rfl) ?_
    refine lv_iconst (v := (-1)) hx hb dX5_meetGlass_22 (by decide) ?_
    refine lv_icmp_ne (tgt := 36) hx hb dX5_meetGlass_23 (by decide) (fun c_15 => ?_) (fun c_15 => ?_)
    ·
      have n_15 : gNe (z4.toInt) ((-1)) := by have z := g5_ne (a := z4.toInt) (b := (-1)) (by rfl) (by decide) c_15; unfold gNe; omega
      refine lv_aload_n hx hb dX5_meetGlass_36 rfl (lv_at hl 1 rfl) ?_
      refine va_get (D := G.1) (ci := 5) (v := .ref a_h) (C := RX5) (T := TX5) (N := 13) hx hb hts inG_X5 hown hK hP 0 rfl rfl 0 (by decide) (hts _ fl_X5_22) (fun _ h9 => h9) rfl dX5_meetGlass_37 ?_
      refine va_get (D := G.1) (ci := 1) (v := .ref a_g) (C := RX1) (T := TX1) (N := 13) hx hb hts inG_X1 hown hK hP 1 rfl rfl 6 (by decide) (hts _ fl_X5_128) (fun _ h9 => h9) rfl dX5_meetGlass_40 ?_
      refine lv_astore_n (lv' := [(2, .ref a_g), (1, .int z4), (0, .ref a_k)]) hx hb dX5_meetGlass_43 rfl hl (by decide) rfl (fun ls hl => ?_)
      refine lv_iload_n hx hb dX5_meetGlass_44 rfl (lv_at hl 1 rfl) ?_
      refine lv_iconst (v := (-1)) hx hb dX5_meetGlass_45 (by decide) ?_
      refine lv_icmp_ne (tgt := 67) hx hb dX5_meetGlass_46 (by decide) (fun c_16 => ?_) (fun c_16 => ?_)
      ·
        have n_16 : gNe (z4.toInt) ((-1)) := by have z := g5_ne (a := z4.toInt) (b := (-1)) (by rfl) (by decide) c_16; unfold gNe; omega
        refine lv_iload_n hx hb dX5_meetGlass_67 rfl (lv_at hl 1 rfl) ?_
        refine lv_istore_n (lv' := [(3, .int z4), (2, .ref a_g), (1, .int z4), (0, .ref a_k)]) hx hb dX5_meetGlass_68 rfl hl (by decide) rfl (fun ls hl => ?_)
        refine lv_iload_n hx hb dX5_meetGlass_69 rfl (lv_at hl 2 rfl) ?_
        refine lv_iconst (v := (-1)) hx hb dX5_meetGlass_70 (by decide) ?_
        refine lv_icmp_ne (tgt := 81) hx hb dX5_meetGlass_71 (by decide) (fun c_17 => ?_) (fun c_17 => ?_)
        ·
          have n_17 : gNe (z4.toInt) ((-1)) := by have z := g5_ne (a := z4.toInt) (b := (-1)) (by rfl) (by decide) c_17; unfold gNe; omega
          refine lv_iload_n hx hb dX5_meetGlass_81 rfl (lv_at hl 2 rfl) ?_
          refine lv_istore (lv' := [(4, .int z4), (3, .int z4), (2, .ref a_g), (1, .int z4), (0, .ref a_k)]) hx hb dX5_meetGlass_82 hl (by decide) rfl (fun ls hl => ?_)
          refine k_mggL1 G a_k a_h a_g a_gn a_p a_pn a_j a_as a_sk a_l a_lo a_sr a_cd a_hd a_pt a_b a_s a_w a_bb n_sr n_cd n_hd e_ln e_se e_lh e_br e_we e_me e_ce e_wy e_ho 1 e_le e_st e_fo e_lc e_wa e_gb e_g f_g e_p f_p f_as f_sk f_l e_cl f_sr f_cd f_hd z4 z4 hx hb hml hown hts hK hN hT hA (hP.sub [0, 1, 12, 13, 2, 3, 4, 5, 6, 7, 8, 9, 10, 11] rfl) (hD.sub [0, 1, 12, 13, 2, 3, 4, 5, 6, 7, 8, 9, 10, 11] (by decide) rfl) hS (lv_sub hl [4, 2, 1, 0] rfl) ⟨by omega, by omega⟩ ⟨by omega, by omega⟩ ⟨by omega, by omega⟩ ⟨by omega, by omega⟩ ⟨by decide, by decide⟩ ⟨by omega, by omega⟩ ⟨by omega, by omega⟩ ⟨by omega, by omega⟩ ⟨by omega, by omega⟩ (e_gk) (e_pk) (e_f) (e_a) (e_hn) (e_hs) (e_hk) (e_c) (by omega) (fun pc1 hd o_b o_w o_m o_y o_h o_v o_a o_k ls H locs hP hD hS i_b i_y i_h i_v => ?_)
          refine g5_rs [(a_k, (oc5 a_h a_j a_pt e_ln e_se e_lh o_b o_w o_m e_ce o_y o_h o_v)), (a_h, (oc1 e_wa e_le e_st e_fo e_lc a_l a_g a_b a_s a_p a_w e_gb a_bb)), (a_g, (oc6 6 5 a_gn e_g)), (a_gn, (arI G 30 f_g)), (a_p, (oc6 8 5 a_pn e_p)), (a_pn, (arI G 40 f_p)), (a_j, (oc2 a_as a_sk)), (a_as, (arI G 8 o_a)), (a_sk, (arJ G 50 o_k)), (a_l, (arW G 6 f_l)), (a_lo, (oc3 e_cl a_hd a_sr a_cd)), (a_sr, (arI G n_sr f_sr)), (a_cd, (arI G n_cd f_cd)), (a_hd, (arI G n_hd f_hd))] hP hD (fun hP hD => ?_)
          have i_b : 0 ≤ o_b.toInt ∧ o_b.toInt ≤ 1000000 := i_b
          have i_y : 0 ≤ o_y.toInt ∧ o_y.toInt ≤ 3 := i_y
          have i_h : 0 ≤ o_h.toInt ∧ o_h.toInt ≤ 23 := i_h
          have i_v : 0 ≤ o_v.toInt ∧ o_v.toInt ≤ 1 := i_v
          exact W.vret hx hb hr (fun t ht hW => ⟨⟨[(a_k, (oc5 a_h a_j a_pt e_ln e_se e_lh o_b o_w o_m e_ce o_y o_h o_v)), (a_h, (oc1 e_wa e_le e_st e_fo e_lc a_l a_g a_b a_s a_p a_w e_gb a_bb)), (a_g, (oc6 6 5 a_gn e_g)), (a_gn, (arI G 30 f_g)), (a_p, (oc6 8 5 a_pn e_p)), (a_pn, (arI G 40 f_p)), (a_j, (oc2 a_as a_sk)), (a_as, (arI G 8 o_a)), (a_sk, (arJ G 50 o_k)), (a_l, (arW G 6 f_l)), (a_lo, (oc3 e_cl a_hd a_sr a_cd)), (a_sr, (arI G n_sr f_sr)), (a_cd, (arI G n_cd f_cd)), (a_hd, (arI G n_hd f_hd))], rfl, ⟨o_b, o_w, o_m, o_y, o_h, o_v, o_a, o_k, ⟨by omega, by omega⟩, ⟨by omega, by omega⟩, ⟨by omega, by omega⟩, ⟨by omega, by omega⟩, rfl⟩, by rw [ht]; exact hP.sub [0, 1, 2, 3, 4, 5, 6, 7, 8, 9, 10, 11, 12, 13] rfl, hD.sub [0, 1, 2, 3, 4, 5, 6, 7, 8, 9, 10, 11, 12, 13] (by decide) rfl⟩, hS.F ht⟩) hS.2.2 hd
        ·
          have i_17 : z4.toInt = (-1) := by have z := g5_neN (a := z4.toInt) (b := (-1)) (by rfl) (by decide) c_17; omega
          omega
      ·
        have i_16 : z4.toInt = (-1) := by have z := g5_neN (a := z4.toInt) (b := (-1)) (by rfl) (by decide) c_16; omega
        omega
    ·
      have i_15 : z4.toInt = (-1) := by have z := g5_neN (a := z4.toInt) (b := (-1)) (by rfl) (by decide) c_15; omega
      omega
theorem dgX11_beside_0 : ∀ r ∈ ([(0, (.iload_n 1, 1)), (1, (.tableswitch 93 0 3 #[31, 46, 63, 78], 31)), (32, (.iload_n 0, 1)), (33, (.bipush 8, 2)), (35, (.if_icmp .lt 10, 3)), (38, (.iload_n 0, 1)), (39, (.bipush 8, 2)), (41, (.isub, 1)), (42, (.goto 4, 3)), (45, (.iconst (-1), 1)), (46, (.ireturn, 1)), (47, (.iload_n 0, 1)), (48, (.bipush 7, 2)), (50, (.iand, 1)), (51, (.bipush 7, 2)), (53, (.if_icmp .ge 9, 3)), (56, (.iload_n 0, 1)), (57, (.iconst 1, 1)), (58, (.iadd, 1)), (59, (.goto 4, 3)), (62, (.iconst (-1), 1)), (63, (.ireturn, 1)), (64, (.iload_n 0, 1)), (65, (.bipush 56, 2)), (67, (.if_icmp .ge 10, 3)), (70, (.iload_n 0, 1)), (71, (.bipush 8, 2)), (73, (.iadd, 1)), (74, (.goto 4, 3)), (77, (.iconst (-1), 1)), (78, (.ireturn, 1)), (79, (.iload_n 0, 1)), (80, (.bipush 7, 2)), (82, (.iand, 1)), (83, (.ifCond .le 9, 3)), (86, (.iload_n 0, 1)), (87, (.iconst 1, 1)), (88, (.isub, 1)), (89, (.goto 4, 3)), (92, (.iconst (-1), 1))] : List (Nat × (Instr × Nat))), decode cX11_beside r.1 = .ok r.2 := by decide +kernel
theorem dX11_beside_0 : decode cX11_beside 0 = .ok (.iload_n 1, 1) := dgX11_beside_0 (0, (.iload_n 1, 1)) (List.mem_of_getElem? (i := 0) rfl)
theorem dX11_beside_1 : decode cX11_beside 1 = .ok (.tableswitch 93 0 3 #[31, 46, 63, 78], 31) := dgX11_beside_0 (1, (.tableswitch 93 0 3 #[31, 46, 63, 78], 31)) (List.mem_of_getElem? (i := 1) rfl)
theorem dX11_beside_32 : decode cX11_beside 32 = .ok (.iload_n 0, 1) := dgX11_beside_0 (32, (.iload_n 0, 1)) (List.mem_of_getElem? (i := 2) rfl)
theorem dX11_beside_33 : decode cX11_beside 33 = .ok (.bipush 8, 2) := dgX11_beside_0 (33, (.bipush 8, 2)) (List.mem_of_getElem? (i := 3) rfl)
theorem dX11_beside_35 : decode cX11_beside 35 = .ok (.if_icmp .lt 10, 3) := dgX11_beside_0 (35, (.if_icmp .lt 10, 3)) (List.mem_of_getElem? (i := 4) rfl)
theorem dX11_beside_38 : decode cX11_beside 38 = .ok (.iload_n 0, 1) := dgX11_beside_0 (38, (.iload_n 0, 1)) (List.mem_of_getElem? (i := 5) rfl)
theorem dX11_beside_39 : decode cX11_beside 39 = .ok (.bipush 8, 2) := dgX11_beside_0 (39, (.bipush 8, 2)) (List.mem_of_getElem? (i := 6) rfl)
theorem dX11_beside_41 : decode cX11_beside 41 = .ok (.isub, 1) := dgX11_beside_0 (41, (.isub, 1)) (List.mem_of_getElem? (i := 7) rfl)
theorem dX11_beside_42 : decode cX11_beside 42 = .ok (.goto 4, 3) := dgX11_beside_0 (42, (.goto 4, 3)) (List.mem_of_getElem? (i := 8) rfl)
theorem dX11_beside_45 : decode cX11_beside 45 = .ok (.iconst (-1), 1) := dgX11_beside_0 (45, (.iconst (-1), 1)) (List.mem_of_getElem? (i := 9) rfl)
theorem dX11_beside_46 : decode cX11_beside 46 = .ok (.ireturn, 1) := dgX11_beside_0 (46, (.ireturn, 1)) (List.mem_of_getElem? (i := 10) rfl)
theorem dX11_beside_47 : decode cX11_beside 47 = .ok (.iload_n 0, 1) := dgX11_beside_0 (47, (.iload_n 0, 1)) (List.mem_of_getElem? (i := 11) rfl)
theorem dX11_beside_48 : decode cX11_beside 48 = .ok (.bipush 7, 2) := dgX11_beside_0 (48, (.bipush 7, 2)) (List.mem_of_getElem? (i := 12) rfl)
theorem dX11_beside_50 : decode cX11_beside 50 = .ok (.iand, 1) := dgX11_beside_0 (50, (.iand, 1)) (List.mem_of_getElem? (i := 13) rfl)
theorem dX11_beside_51 : decode cX11_beside 51 = .ok (.bipush 7, 2) := dgX11_beside_0 (51, (.bipush 7, 2)) (List.mem_of_getElem? (i := 14) rfl)
theorem dX11_beside_53 : decode cX11_beside 53 = .ok (.if_icmp .ge 9, 3) := dgX11_beside_0 (53, (.if_icmp .ge 9, 3)) (List.mem_of_getElem? (i := 15) rfl)
theorem dX11_beside_56 : decode cX11_beside 56 = .ok (.iload_n 0, 1) := dgX11_beside_0 (56, (.iload_n 0, 1)) (List.mem_of_getElem? (i := 16) rfl)
theorem dX11_beside_57 : decode cX11_beside 57 = .ok (.iconst 1, 1) := dgX11_beside_0 (57, (.iconst 1, 1)) (List.mem_of_getElem? (i := 17) rfl)
theorem dX11_beside_58 : decode cX11_beside 58 = .ok (.iadd, 1) := dgX11_beside_0 (58, (.iadd, 1)) (List.mem_of_getElem? (i := 18) rfl)
theorem dX11_beside_59 : decode cX11_beside 59 = .ok (.goto 4, 3) := dgX11_beside_0 (59, (.goto 4, 3)) (List.mem_of_getElem? (i := 19) rfl)
theorem dX11_beside_62 : decode cX11_beside 62 = .ok (.iconst (-1), 1) := dgX11_beside_0 (62, (.iconst (-1), 1)) (List.mem_of_getElem? (i := 20) rfl)
theorem dX11_beside_63 : decode cX11_beside 63 = .ok (.ireturn, 1) := dgX11_beside_0 (63, (.ireturn, 1)) (List.mem_of_getElem? (i := 21) rfl)
theorem dX11_beside_64 : decode cX11_beside 64 = .ok (.iload_n 0, 1) := dgX11_beside_0 (64, (.iload_n 0, 1)) (List.mem_of_getElem? (i := 22) rfl)
theorem dX11_beside_65 : decode cX11_beside 65 = .ok (.bipush 56, 2) := dgX11_beside_0 (65, (.bipush 56, 2)) (List.mem_of_getElem? (i := 23) rfl)
theorem dX11_beside_67 : decode cX11_beside 67 = .ok (.if_icmp .ge 10, 3) := dgX11_beside_0 (67, (.if_icmp .ge 10, 3)) (List.mem_of_getElem? (i := 24) rfl)
theorem dX11_beside_70 : decode cX11_beside 70 = .ok (.iload_n 0, 1) := dgX11_beside_0 (70, (.iload_n 0, 1)) (List.mem_of_getElem? (i := 25) rfl)
theorem dX11_beside_71 : decode cX11_beside 71 = .ok (.bipush 8, 2) := dgX11_beside_0 (71, (.bipush 8, 2)) (List.mem_of_getElem? (i := 26) rfl)
theorem dX11_beside_73 : decode cX11_beside 73 = .ok (.iadd, 1) := dgX11_beside_0 (73, (.iadd, 1)) (List.mem_of_getElem? (i := 27) rfl)
theorem dX11_beside_74 : decode cX11_beside 74 = .ok (.goto 4, 3) := dgX11_beside_0 (74, (.goto 4, 3)) (List.mem_of_getElem? (i := 28) rfl)
theorem dX11_beside_77 : decode cX11_beside 77 = .ok (.iconst (-1), 1) := dgX11_beside_0 (77, (.iconst (-1), 1)) (List.mem_of_getElem? (i := 29) rfl)
theorem dX11_beside_78 : decode cX11_beside 78 = .ok (.ireturn, 1) := dgX11_beside_0 (78, (.ireturn, 1)) (List.mem_of_getElem? (i := 30) rfl)
theorem dX11_beside_79 : decode cX11_beside 79 = .ok (.iload_n 0, 1) := dgX11_beside_0 (79, (.iload_n 0, 1)) (List.mem_of_getElem? (i := 31) rfl)
theorem dX11_beside_80 : decode cX11_beside 80 = .ok (.bipush 7, 2) := dgX11_beside_0 (80, (.bipush 7, 2)) (List.mem_of_getElem? (i := 32) rfl)
theorem dX11_beside_82 : decode cX11_beside 82 = .ok (.iand, 1) := dgX11_beside_0 (82, (.iand, 1)) (List.mem_of_getElem? (i := 33) rfl)
theorem dX11_beside_83 : decode cX11_beside 83 = .ok (.ifCond .le 9, 3) := dgX11_beside_0 (83, (.ifCond .le 9, 3)) (List.mem_of_getElem? (i := 34) rfl)
theorem dX11_beside_86 : decode cX11_beside 86 = .ok (.iload_n 0, 1) := dgX11_beside_0 (86, (.iload_n 0, 1)) (List.mem_of_getElem? (i := 35) rfl)
theorem dX11_beside_87 : decode cX11_beside 87 = .ok (.iconst 1, 1) := dgX11_beside_0 (87, (.iconst 1, 1)) (List.mem_of_getElem? (i := 36) rfl)
theorem dX11_beside_88 : decode cX11_beside 88 = .ok (.isub, 1) := dgX11_beside_0 (88, (.isub, 1)) (List.mem_of_getElem? (i := 37) rfl)
theorem dX11_beside_89 : decode cX11_beside 89 = .ok (.goto 4, 3) := dgX11_beside_0 (89, (.goto 4, 3)) (List.mem_of_getElem? (i := 38) rfl)
theorem dX11_beside_92 : decode cX11_beside 92 = .ok (.iconst (-1), 1) := dgX11_beside_0 (92, (.iconst (-1), 1)) (List.mem_of_getElem? (i := 39) rfl)
theorem dgX11_beside_1 : ∀ r ∈ ([(93, (.ireturn, 1)), (94, (.iload_n 0, 1)), (95, (.ireturn, 1))] : List (Nat × (Instr × Nat))), decode cX11_beside r.1 = .ok r.2 := by decide +kernel
theorem dX11_beside_93 : decode cX11_beside 93 = .ok (.ireturn, 1) := dgX11_beside_1 (93, (.ireturn, 1)) (List.mem_of_getElem? (i := 0) rfl)
theorem dX11_beside_94 : decode cX11_beside 94 = .ok (.iload_n 0, 1) := dgX11_beside_1 (94, (.iload_n 0, 1)) (List.mem_of_getElem? (i := 1) rfl)
theorem dX11_beside_95 : decode cX11_beside 95 = .ok (.ireturn, 1) := dgX11_beside_1 (95, (.ireturn, 1)) (List.mem_of_getElem? (i := 2) rfl)
set_option maxHeartbeats 4000000 in
set_option maxRecDepth 100000 in
theorem k_beside (l : Launch) (G : g5_G) (sz : Nat) (p_c : Int32) (p_w : Int32) (h_p_c : 0 ≤ p_c.toInt ∧ p_c.toInt ≤ 63) : Met l yX11_beside (wsG yX11_beside cX11_beside 2 (some .int)) ({ frames := 0, cells := 0, slots := 0, locals := 0 }) (va_Pc [.int p_c, .int p_w] (g5_P G [] sz)) (va_Qi (fun (r : Int32) (u : va_W) => (∃ (o_r : Int32), (o_r.toInt = bs p_c.toInt p_w.toInt) ∧ (-1 ≤ o_r.toInt ∧ o_r.toInt ≤ 63) ∧ (r = o_r) ∧ (u = []))) (g5_B G (va_A [] sz)) (va_A [] sz)) 0 0 (va_A [] sz) := by
  refine Met.ofW (cc := cX11_beside) (maxL := 2) (ret := (some .int)) (by decide) rfl ?_
  intro p e s m args below meth c s₁ B hml hv
  obtain ⟨rfl, hsz, hP, hK, hD0, hN, hT⟩ := hv
  have hx := B.exec
  have hb := B.bytes
  have hr := B.returns
  have hts : ∀ w ∈ tblG, w.before _ s = true := fun w h => atoms_spec (ws := (wsG yX11_beside cX11_beside 2 (some .int))) B.pre w (List.mem_cons_of_mem _ h)
  have hown : s.vm.findClass RX11 = some m.cls := findClass_of_methodNamed B.named
  have hlocks := B.notSynchronized
  subst hsz
  have hD := hD0.self (sz := s.heap.size)
  generalize hAe : va_A [] s.heap.size = A at hD hT ⊢
  have hA : ∀ q : Nat, s.heap.size ≤ q → A q := fun q h => by rw [← hAe]; exact Or.inr h
  have hS : va_S A s.heap s.heap [] := va_S.rf
  have hP : va_P G.1 vwCl [] s.heap := hP
  have hl := lv_entry ([.int p_c, .int p_w]) (n := 2) (Nat.le_of_ble_eq_true rfl)
  rw [lg_entry_eq]
  generalize (lg_sl ([.int p_c, .int p_w]) ++ List.replicate (2 - (lg_sl ([.int p_c, .int p_w])).length) Slot.unset).toArray = ls at hl ⊢
  have hl : lv_has ls 2 [(0, .int p_c), (1, .int p_w)] := hl
  refine lv_iload_n hx hb dX11_beside_0 rfl (lv_at hl 1 rfl) ?_
  rcases (show p_w.toInt = 0 ∨ p_w.toInt = 1 ∨ p_w.toInt = 2 ∨ p_w.toInt = 3 ∨ p_w.toInt < 0 ∨ p_w.toInt > 3 by omega) with s_1 | s_1 | s_1 | s_1 | s_1 | s_1
  ·
    have i_1 : p_w.toInt = 0 := by omega
    refine lv_tableIn (tgt := 32) hx hb dX11_beside_1 (by omega) (by omega) (by rw [s_1]; rfl) (by decide) ?_
    refine lv_iload_n hx hb dX11_beside_32 rfl (lv_at hl 0 rfl) ?_
    refine lv_bipush (v := 8) hx hb dX11_beside_33 (by decide) ?_
    refine lv_icmp_lt (tgt := 45) hx hb dX11_beside_35 (by decide) (fun c_2 => ?_) (fun c_2 => ?_)
    ·
      have i_2 : p_c.toInt < 8 := by have z := g5_lt (a := p_c.toInt) (b := 8) (by rfl) (by decide) c_2; omega
      refine lv_iconst (v := (-1)) hx hb dX11_beside_45 (by decide) ?_
      exact W.iret (v := (-1)) hx hb hr (fun t ht hW => ⟨⟨(-1), [], rfl, ⟨(-1), by have zc_o_r : ((-1) : Int32).toInt = (-1) := (by decide); unfold bs; omega, ⟨by have zc_o_r : ((-1) : Int32).toInt = (-1) := (by decide); omega, by have zc_o_r : ((-1) : Int32).toInt = (-1) := (by decide); omega⟩, rfl, rfl⟩, by rw [ht]; exact hP.sub [] rfl, hD.sub [] (by decide) rfl⟩, hS.F ht⟩) hS.2.2 dX11_beside_46
    ·
      have i_2 : p_c.toInt ≥ 8 := by have z := g5_ltN (a := p_c.toInt) (b := 8) (by rfl) (by decide) c_2; omega
      refine lv_iload_n hx hb dX11_beside_38 rfl (lv_at hl 0 rfl) ?_
      refine lv_bipush (v := 8) hx hb dX11_beside_39 (by decide) ?_
      refine lv_isub hx hb dX11_beside_41 ?_
      have t_3 : (p_c - 8).toInt = p_c.toInt - 8 := g5_isub (a := p_c.toInt) (b := 8) (by rfl) (by decide) (by omega) (by omega)
      refine lv_goto (tgt := 46) hx hb dX11_beside_42 (by decide) ?_
      exact W.iret (v := (p_c - 8)) hx hb hr (fun t ht hW => ⟨⟨(p_c - 8), [], rfl, ⟨(p_c - 8), by unfold bs; omega, ⟨by omega, by omega⟩, rfl, rfl⟩, by rw [ht]; exact hP.sub [] rfl, hD.sub [] (by decide) rfl⟩, hS.F ht⟩) hS.2.2 dX11_beside_46
  ·
    have i_1 : p_w.toInt = 1 := by omega
    refine lv_tableIn (tgt := 47) hx hb dX11_beside_1 (by omega) (by omega) (by rw [s_1]; rfl) (by decide) ?_
    refine lv_iload_n hx hb dX11_beside_47 rfl (lv_at hl 0 rfl) ?_
    refine lv_bipush (v := 7) hx hb dX11_beside_48 (by decide) ?_
    refine lv_iand hx hb dX11_beside_50 ?_
    have t_4 : (p_c &&& 7).toInt = p_c.toInt % 8 := g5_and7 (a := p_c.toInt) rfl (by omega)
    refine lv_bipush (v := 7) hx hb dX11_beside_51 (by decide) ?_
    refine lv_icmp_ge (tgt := 62) hx hb dX11_beside_53 (by decide) (fun c_5 => ?_) (fun c_5 => ?_)
    ·
      have i_5 : (p_c.toInt % 8) ≥ 7 := by have z := g5_ge (a := (p_c &&& 7).toInt) (b := 7) (by rfl) (by decide) c_5; omega
      refine lv_iconst (v := (-1)) hx hb dX11_beside_62 (by decide) ?_
      exact W.iret (v := (-1)) hx hb hr (fun t ht hW => ⟨⟨(-1), [], rfl, ⟨(-1), by have zc_o_r : ((-1) : Int32).toInt = (-1) := (by decide); unfold bs; omega, ⟨by have zc_o_r : ((-1) : Int32).toInt = (-1) := (by decide); omega, by have zc_o_r : ((-1) : Int32).toInt = (-1) := (by decide); omega⟩, rfl, rfl⟩, by rw [ht]; exact hP.sub [] rfl, hD.sub [] (by decide) rfl⟩, hS.F ht⟩) hS.2.2 dX11_beside_63
    ·
      have i_5 : (p_c.toInt % 8) < 7 := by have z := g5_geN (a := (p_c &&& 7).toInt) (b := 7) (by rfl) (by decide) c_5; omega
      refine lv_iload_n hx hb dX11_beside_56 rfl (lv_at hl 0 rfl) ?_
      refine lv_iconst (v := 1) hx hb dX11_beside_57 (by decide) ?_
      refine lv_iadd hx hb dX11_beside_58 ?_
      have t_6 : (p_c + 1).toInt = p_c.toInt + 1 := g5_iadd (a := p_c.toInt) (b := 1) (by rfl) (by decide) (by omega) (by omega)
      refine lv_goto (tgt := 63) hx hb dX11_beside_59 (by decide) ?_
      exact W.iret (v := (p_c + 1)) hx hb hr (fun t ht hW => ⟨⟨(p_c + 1), [], rfl, ⟨(p_c + 1), by unfold bs; omega, ⟨by omega, by omega⟩, rfl, rfl⟩, by rw [ht]; exact hP.sub [] rfl, hD.sub [] (by decide) rfl⟩, hS.F ht⟩) hS.2.2 dX11_beside_63
  ·
    have i_1 : p_w.toInt = 2 := by omega
    refine lv_tableIn (tgt := 64) hx hb dX11_beside_1 (by omega) (by omega) (by rw [s_1]; rfl) (by decide) ?_
    refine lv_iload_n hx hb dX11_beside_64 rfl (lv_at hl 0 rfl) ?_
    refine lv_bipush (v := 56) hx hb dX11_beside_65 (by decide) ?_
    refine lv_icmp_ge (tgt := 77) hx hb dX11_beside_67 (by decide) (fun c_7 => ?_) (fun c_7 => ?_)
    ·
      have i_7 : p_c.toInt ≥ 56 := by have z := g5_ge (a := p_c.toInt) (b := 56) (by rfl) (by decide) c_7; omega
      refine lv_iconst (v := (-1)) hx hb dX11_beside_77 (by decide) ?_
      exact W.iret (v := (-1)) hx hb hr (fun t ht hW => ⟨⟨(-1), [], rfl, ⟨(-1), by have zc_o_r : ((-1) : Int32).toInt = (-1) := (by decide); unfold bs; omega, ⟨by have zc_o_r : ((-1) : Int32).toInt = (-1) := (by decide); omega, by have zc_o_r : ((-1) : Int32).toInt = (-1) := (by decide); omega⟩, rfl, rfl⟩, by rw [ht]; exact hP.sub [] rfl, hD.sub [] (by decide) rfl⟩, hS.F ht⟩) hS.2.2 dX11_beside_78
    ·
      have i_7 : p_c.toInt < 56 := by have z := g5_geN (a := p_c.toInt) (b := 56) (by rfl) (by decide) c_7; omega
      refine lv_iload_n hx hb dX11_beside_70 rfl (lv_at hl 0 rfl) ?_
      refine lv_bipush (v := 8) hx hb dX11_beside_71 (by decide) ?_
      refine lv_iadd hx hb dX11_beside_73 ?_
      have t_8 : (p_c + 8).toInt = p_c.toInt + 8 := g5_iadd (a := p_c.toInt) (b := 8) (by rfl) (by decide) (by omega) (by omega)
      refine lv_goto (tgt := 78) hx hb dX11_beside_74 (by decide) ?_
      exact W.iret (v := (p_c + 8)) hx hb hr (fun t ht hW => ⟨⟨(p_c + 8), [], rfl, ⟨(p_c + 8), by unfold bs; omega, ⟨by omega, by omega⟩, rfl, rfl⟩, by rw [ht]; exact hP.sub [] rfl, hD.sub [] (by decide) rfl⟩, hS.F ht⟩) hS.2.2 dX11_beside_78
  ·
    have i_1 : p_w.toInt = 3 := by omega
    refine lv_tableIn (tgt := 79) hx hb dX11_beside_1 (by omega) (by omega) (by rw [s_1]; rfl) (by decide) ?_
    refine lv_iload_n hx hb dX11_beside_79 rfl (lv_at hl 0 rfl) ?_
    refine lv_bipush (v := 7) hx hb dX11_beside_80 (by decide) ?_
    refine lv_iand hx hb dX11_beside_82 ?_
    have t_9 : (p_c &&& 7).toInt = p_c.toInt % 8 := g5_and7 (a := p_c.toInt) rfl (by omega)
    refine lv_if_le (tgt := 92) hx hb dX11_beside_83 (by decide) (fun c_10 => ?_) (fun c_10 => ?_)
    ·
      have i_10 : (p_c.toInt % 8) ≤ 0 := by have z := g5_le (a := (p_c &&& 7).toInt) (b := 0) (by rfl) (by decide) c_10; omega
      refine lv_iconst (v := (-1)) hx hb dX11_beside_92 (by decide) ?_
      exact W.iret (v := (-1)) hx hb hr (fun t ht hW => ⟨⟨(-1), [], rfl, ⟨(-1), by have zc_o_r : ((-1) : Int32).toInt = (-1) := (by decide); unfold bs; omega, ⟨by have zc_o_r : ((-1) : Int32).toInt = (-1) := (by decide); omega, by have zc_o_r : ((-1) : Int32).toInt = (-1) := (by decide); omega⟩, rfl, rfl⟩, by rw [ht]; exact hP.sub [] rfl, hD.sub [] (by decide) rfl⟩, hS.F ht⟩) hS.2.2 dX11_beside_93
    ·
      have i_10 : (p_c.toInt % 8) > 0 := by have z := g5_leN (a := (p_c &&& 7).toInt) (b := 0) (by rfl) (by decide) c_10; omega
      refine lv_iload_n hx hb dX11_beside_86 rfl (lv_at hl 0 rfl) ?_
      refine lv_iconst (v := 1) hx hb dX11_beside_87 (by decide) ?_
      refine lv_isub hx hb dX11_beside_88 ?_
      have t_11 : (p_c - 1).toInt = p_c.toInt - 1 := g5_isub (a := p_c.toInt) (b := 1) (by rfl) (by decide) (by omega) (by omega)
      refine lv_goto (tgt := 93) hx hb dX11_beside_89 (by decide) ?_
      exact W.iret (v := (p_c - 1)) hx hb hr (fun t ht hW => ⟨⟨(p_c - 1), [], rfl, ⟨(p_c - 1), by unfold bs; omega, ⟨by omega, by omega⟩, rfl, rfl⟩, by rw [ht]; exact hP.sub [] rfl, hD.sub [] (by decide) rfl⟩, hS.F ht⟩) hS.2.2 dX11_beside_93
  ·
    have i_1 : p_w.toInt < 0 := by omega
    refine lv_tableOut (tgt := 94) hx hb dX11_beside_1 (by omega) (by decide) ?_
    refine lv_iload_n hx hb dX11_beside_94 rfl (lv_at hl 0 rfl) ?_
    exact W.iret (v := p_c) hx hb hr (fun t ht hW => ⟨⟨p_c, [], rfl, ⟨p_c, by unfold bs; omega, ⟨by omega, by omega⟩, rfl, rfl⟩, by rw [ht]; exact hP.sub [] rfl, hD.sub [] (by decide) rfl⟩, hS.F ht⟩) hS.2.2 dX11_beside_95
  ·
    have i_1 : p_w.toInt > 3 := by omega
    refine lv_tableOut (tgt := 94) hx hb dX11_beside_1 (by omega) (by decide) ?_
    refine lv_iload_n hx hb dX11_beside_94 rfl (lv_at hl 0 rfl) ?_
    exact W.iret (v := p_c) hx hb hr (fun t ht hW => ⟨⟨p_c, [], rfl, ⟨p_c, by unfold bs; omega, ⟨by omega, by omega⟩, rfl, rfl⟩, by rw [ht]; exact hP.sub [] rfl, hD.sub [] (by decide) rfl⟩, hS.F ht⟩) hS.2.2 dX11_beside_95
theorem dgX11_isLook_0 : ∀ r ∈ ([(0, (.iload_n 0, 1)), (1, (.invokestatic 97, 3)), (4, (.ifCond .eq 23, 3)), (7, (.iload_n 1, 1)), (8, (.ifCond .lt 19, 3)), (11, (.iload_n 1, 1)), (12, (.iconst 4, 1)), (13, (.if_icmp .ge 14, 3)), (16, (.iload_n 2, 1)), (17, (.invokestatic 127, 3)), (20, (.ifCond .eq 7, 3)), (23, (.iconst 1, 1)), (24, (.goto 4, 3)), (27, (.iconst 0, 1)), (28, (.ireturn, 1))] : List (Nat × (Instr × Nat))), decode cX11_isLook r.1 = .ok r.2 := by decide +kernel
theorem dX11_isLook_0 : decode cX11_isLook 0 = .ok (.iload_n 0, 1) := dgX11_isLook_0 (0, (.iload_n 0, 1)) (List.mem_of_getElem? (i := 0) rfl)
theorem dX11_isLook_1 : decode cX11_isLook 1 = .ok (.invokestatic 97, 3) := dgX11_isLook_0 (1, (.invokestatic 97, 3)) (List.mem_of_getElem? (i := 1) rfl)
theorem dX11_isLook_4 : decode cX11_isLook 4 = .ok (.ifCond .eq 23, 3) := dgX11_isLook_0 (4, (.ifCond .eq 23, 3)) (List.mem_of_getElem? (i := 2) rfl)
theorem dX11_isLook_7 : decode cX11_isLook 7 = .ok (.iload_n 1, 1) := dgX11_isLook_0 (7, (.iload_n 1, 1)) (List.mem_of_getElem? (i := 3) rfl)
theorem dX11_isLook_8 : decode cX11_isLook 8 = .ok (.ifCond .lt 19, 3) := dgX11_isLook_0 (8, (.ifCond .lt 19, 3)) (List.mem_of_getElem? (i := 4) rfl)
theorem dX11_isLook_11 : decode cX11_isLook 11 = .ok (.iload_n 1, 1) := dgX11_isLook_0 (11, (.iload_n 1, 1)) (List.mem_of_getElem? (i := 5) rfl)
theorem dX11_isLook_12 : decode cX11_isLook 12 = .ok (.iconst 4, 1) := dgX11_isLook_0 (12, (.iconst 4, 1)) (List.mem_of_getElem? (i := 6) rfl)
theorem dX11_isLook_13 : decode cX11_isLook 13 = .ok (.if_icmp .ge 14, 3) := dgX11_isLook_0 (13, (.if_icmp .ge 14, 3)) (List.mem_of_getElem? (i := 7) rfl)
theorem dX11_isLook_16 : decode cX11_isLook 16 = .ok (.iload_n 2, 1) := dgX11_isLook_0 (16, (.iload_n 2, 1)) (List.mem_of_getElem? (i := 8) rfl)
theorem dX11_isLook_17 : decode cX11_isLook 17 = .ok (.invokestatic 127, 3) := dgX11_isLook_0 (17, (.invokestatic 127, 3)) (List.mem_of_getElem? (i := 9) rfl)
theorem dX11_isLook_20 : decode cX11_isLook 20 = .ok (.ifCond .eq 7, 3) := dgX11_isLook_0 (20, (.ifCond .eq 7, 3)) (List.mem_of_getElem? (i := 10) rfl)
theorem dX11_isLook_23 : decode cX11_isLook 23 = .ok (.iconst 1, 1) := dgX11_isLook_0 (23, (.iconst 1, 1)) (List.mem_of_getElem? (i := 11) rfl)
theorem dX11_isLook_24 : decode cX11_isLook 24 = .ok (.goto 4, 3) := dgX11_isLook_0 (24, (.goto 4, 3)) (List.mem_of_getElem? (i := 12) rfl)
theorem dX11_isLook_27 : decode cX11_isLook 27 = .ok (.iconst 0, 1) := dgX11_isLook_0 (27, (.iconst 0, 1)) (List.mem_of_getElem? (i := 13) rfl)
theorem dX11_isLook_28 : decode cX11_isLook 28 = .ok (.ireturn, 1) := dgX11_isLook_0 (28, (.ireturn, 1)) (List.mem_of_getElem? (i := 14) rfl)
theorem dgX11_isCell_0 : ∀ r ∈ ([(0, (.iload_n 0, 1)), (1, (.ifCond .lt 13, 3)), (4, (.iload_n 0, 1)), (5, (.bipush 64, 2)), (7, (.if_icmp .ge 7, 3)), (10, (.iconst 1, 1)), (11, (.goto 4, 3)), (14, (.iconst 0, 1)), (15, (.ireturn, 1))] : List (Nat × (Instr × Nat))), decode cX11_isCell r.1 = .ok r.2 := by decide +kernel
theorem dX11_isCell_0 : decode cX11_isCell 0 = .ok (.iload_n 0, 1) := dgX11_isCell_0 (0, (.iload_n 0, 1)) (List.mem_of_getElem? (i := 0) rfl)
theorem dX11_isCell_1 : decode cX11_isCell 1 = .ok (.ifCond .lt 13, 3) := dgX11_isCell_0 (1, (.ifCond .lt 13, 3)) (List.mem_of_getElem? (i := 1) rfl)
theorem dX11_isCell_4 : decode cX11_isCell 4 = .ok (.iload_n 0, 1) := dgX11_isCell_0 (4, (.iload_n 0, 1)) (List.mem_of_getElem? (i := 2) rfl)
theorem dX11_isCell_5 : decode cX11_isCell 5 = .ok (.bipush 64, 2) := dgX11_isCell_0 (5, (.bipush 64, 2)) (List.mem_of_getElem? (i := 3) rfl)
theorem dX11_isCell_7 : decode cX11_isCell 7 = .ok (.if_icmp .ge 7, 3) := dgX11_isCell_0 (7, (.if_icmp .ge 7, 3)) (List.mem_of_getElem? (i := 4) rfl)
theorem dX11_isCell_10 : decode cX11_isCell 10 = .ok (.iconst 1, 1) := dgX11_isCell_0 (10, (.iconst 1, 1)) (List.mem_of_getElem? (i := 5) rfl)
theorem dX11_isCell_11 : decode cX11_isCell 11 = .ok (.goto 4, 3) := dgX11_isCell_0 (11, (.goto 4, 3)) (List.mem_of_getElem? (i := 6) rfl)
theorem dX11_isCell_14 : decode cX11_isCell 14 = .ok (.iconst 0, 1) := dgX11_isCell_0 (14, (.iconst 0, 1)) (List.mem_of_getElem? (i := 7) rfl)
theorem dX11_isCell_15 : decode cX11_isCell 15 = .ok (.ireturn, 1) := dgX11_isCell_0 (15, (.ireturn, 1)) (List.mem_of_getElem? (i := 8) rfl)
set_option maxHeartbeats 4000000 in
set_option maxRecDepth 100000 in
theorem kX11_isCell (l : Launch) (G : g5_G) (sz : Nat) (n0 : Int32) : Met l yX11_isCell (wsG yX11_isCell cX11_isCell 1 (some .boolean)) ({ frames := 0, cells := 0, slots := 0, locals := 0 }) (va_Pc [.int n0] (g5_P G [] sz)) (va_Qi (fun (r : Int32) (u : va_W) => ((n0.toInt < 0) ∧ (r = 0) ∧ (u = [])) ∨ ((n0.toInt ≥ 0) ∧ (n0.toInt ≥ 64) ∧ (r = 0) ∧ (u = [])) ∨ ((n0.toInt ≥ 0) ∧ (n0.toInt < 64) ∧ (r = 1) ∧ (u = []))) (g5_B G (va_A [] sz)) (va_A [] sz)) 0 0 (va_A [] sz) := by
  refine Met.ofW (cc := cX11_isCell) (maxL := 1) (ret := (some .boolean)) (by decide) rfl ?_
  intro p e s m args below meth c s₁ B hml hv
  obtain ⟨rfl, hsz, hP, hK, hD0, hN, hT⟩ := hv
  have hx := B.exec
  have hb := B.bytes
  have hr := B.returns
  have hts : ∀ w ∈ tblG, w.before _ s = true := fun w h => atoms_spec (ws := (wsG yX11_isCell cX11_isCell 1 (some .boolean))) B.pre w (List.mem_cons_of_mem _ h)
  have hown : s.vm.findClass RX11 = some m.cls := findClass_of_methodNamed B.named
  have hlocks := B.notSynchronized
  subst hsz
  have hD := hD0.self (sz := s.heap.size)
  generalize hAe : va_A [] s.heap.size = A at hD hT ⊢
  have hA : ∀ q : Nat, s.heap.size ≤ q → A q := fun q h => by rw [← hAe]; exact Or.inr h
  have hS : va_S A s.heap s.heap [] := va_S.rf
  have hP : va_P G.1 vwCl [] s.heap := hP
  have hl := lv_entry ([.int n0]) (n := 1) (Nat.le_of_ble_eq_true rfl)
  rw [lg_entry_eq]
  generalize (lg_sl ([.int n0]) ++ List.replicate (1 - (lg_sl ([.int n0])).length) Slot.unset).toArray = ls at hl ⊢
  have hl : lv_has ls 1 [(0, .int n0)] := hl
  refine lv_iload_n hx hb dX11_isCell_0 rfl (lv_at hl 0 rfl) ?_
  refine lv_if_lt (tgt := 14) hx hb dX11_isCell_1 (by decide) (fun c_1 => ?_) (fun c_1 => ?_)
  ·
    have i_1 : n0.toInt < 0 := by have z := g5_lt (a := n0.toInt) (b := 0) (by rfl) (by decide) c_1; omega
    refine lv_iconst (v := 0) hx hb dX11_isCell_14 (by decide) ?_
    exact W.zret (v := 0) hx hb hr rfl (fun t ht hW => ⟨⟨0, [], rfl, Or.inl (⟨i_1, rfl, rfl⟩), by rw [ht]; exact hP, hD⟩, hS.F ht⟩) hS.2.2 dX11_isCell_15
  ·
    have i_1 : n0.toInt ≥ 0 := by have z := g5_ltN (a := n0.toInt) (b := 0) (by rfl) (by decide) c_1; omega
    refine lv_iload_n hx hb dX11_isCell_4 rfl (lv_at hl 0 rfl) ?_
    refine lv_bipush (v := 64) hx hb dX11_isCell_5 (by decide) ?_
    refine lv_icmp_ge (tgt := 14) hx hb dX11_isCell_7 (by decide) (fun c_2 => ?_) (fun c_2 => ?_)
    ·
      have i_2 : n0.toInt ≥ 64 := by have z := g5_ge (a := n0.toInt) (b := 64) (by rfl) (by decide) c_2; omega
      refine lv_iconst (v := 0) hx hb dX11_isCell_14 (by decide) ?_
      exact W.zret (v := 0) hx hb hr rfl (fun t ht hW => ⟨⟨0, [], rfl, Or.inr (Or.inl (⟨i_1, i_2, rfl, rfl⟩)), by rw [ht]; exact hP, hD⟩, hS.F ht⟩) hS.2.2 dX11_isCell_15
    ·
      have i_2 : n0.toInt < 64 := by have z := g5_geN (a := n0.toInt) (b := 64) (by rfl) (by decide) c_2; omega
      refine lv_iconst (v := 1) hx hb dX11_isCell_10 (by decide) ?_
      refine lv_goto (tgt := 15) hx hb dX11_isCell_11 (by decide) ?_
      exact W.zret (v := 1) hx hb hr rfl (fun t ht hW => ⟨⟨1, [], rfl, Or.inr (Or.inr (⟨i_1, i_2, rfl, rfl⟩)), by rw [ht]; exact hP, hD⟩, hS.F ht⟩) hS.2.2 dX11_isCell_15
theorem ml_X11_97 : Cond.methodLink RX11 97 yX11_isCell ∈ tblG := tg 500 (by decide +kernel) (by decide +kernel)
theorem st_X11_isCell : Cond.static yX11_isCell ∈ tblG := tg 501 (by decide +kernel) (by decide +kernel)
theorem cd_X11_isCell : Cond.code yX11_isCell cX11_isCell 1 (some .boolean) ∈ tblG := tg 502 (by decide +kernel) (by decide +kernel)
theorem gW_X11_isCell : GoodIn tblG (wsG yX11_isCell cX11_isCell 1 (some .boolean)) := tgi cd_X11_isCell
theorem gS_X11_97 : GoodIn tblG (va_wsS RX11 97 yX11_isCell (wsG yX11_isCell cX11_isCell 1 (some .boolean))) := tgS ml_X11_97 st_X11_isCell ini_X11 gW_X11_isCell
theorem hs_X11_isCell : yX11_isCell.cls ≠ "java/lang/invoke/MethodHandle" ∧ yX11_isCell.cls ≠ "java/lang/invoke/VarHandle" ∧ (parseMethodDescriptor yX11_isCell.desc).map (fun d => d.parameters.length) = some 1 := by decide +kernel
theorem dgX11_isHour_0 : ∀ r ∈ ([(0, (.iload_n 0, 1)), (1, (.ifCond .lt 13, 3)), (4, (.iload_n 0, 1)), (5, (.bipush 24, 2)), (7, (.if_icmp .ge 7, 3)), (10, (.iconst 1, 1)), (11, (.goto 4, 3)), (14, (.iconst 0, 1)), (15, (.ireturn, 1))] : List (Nat × (Instr × Nat))), decode cX11_isHour r.1 = .ok r.2 := by decide +kernel
theorem dX11_isHour_0 : decode cX11_isHour 0 = .ok (.iload_n 0, 1) := dgX11_isHour_0 (0, (.iload_n 0, 1)) (List.mem_of_getElem? (i := 0) rfl)
theorem dX11_isHour_1 : decode cX11_isHour 1 = .ok (.ifCond .lt 13, 3) := dgX11_isHour_0 (1, (.ifCond .lt 13, 3)) (List.mem_of_getElem? (i := 1) rfl)
theorem dX11_isHour_4 : decode cX11_isHour 4 = .ok (.iload_n 0, 1) := dgX11_isHour_0 (4, (.iload_n 0, 1)) (List.mem_of_getElem? (i := 2) rfl)
theorem dX11_isHour_5 : decode cX11_isHour 5 = .ok (.bipush 24, 2) := dgX11_isHour_0 (5, (.bipush 24, 2)) (List.mem_of_getElem? (i := 3) rfl)
theorem dX11_isHour_7 : decode cX11_isHour 7 = .ok (.if_icmp .ge 7, 3) := dgX11_isHour_0 (7, (.if_icmp .ge 7, 3)) (List.mem_of_getElem? (i := 4) rfl)
theorem dX11_isHour_10 : decode cX11_isHour 10 = .ok (.iconst 1, 1) := dgX11_isHour_0 (10, (.iconst 1, 1)) (List.mem_of_getElem? (i := 5) rfl)
theorem dX11_isHour_11 : decode cX11_isHour 11 = .ok (.goto 4, 3) := dgX11_isHour_0 (11, (.goto 4, 3)) (List.mem_of_getElem? (i := 6) rfl)
theorem dX11_isHour_14 : decode cX11_isHour 14 = .ok (.iconst 0, 1) := dgX11_isHour_0 (14, (.iconst 0, 1)) (List.mem_of_getElem? (i := 7) rfl)
theorem dX11_isHour_15 : decode cX11_isHour 15 = .ok (.ireturn, 1) := dgX11_isHour_0 (15, (.ireturn, 1)) (List.mem_of_getElem? (i := 8) rfl)
set_option maxHeartbeats 4000000 in
set_option maxRecDepth 100000 in
theorem kX11_isHour (l : Launch) (G : g5_G) (sz : Nat) (n0 : Int32) : Met l yX11_isHour (wsG yX11_isHour cX11_isHour 1 (some .boolean)) ({ frames := 0, cells := 0, slots := 0, locals := 0 }) (va_Pc [.int n0] (g5_P G [] sz)) (va_Qi (fun (r : Int32) (u : va_W) => ((n0.toInt < 0) ∧ (r = 0) ∧ (u = [])) ∨ ((n0.toInt ≥ 0) ∧ (n0.toInt ≥ 24) ∧ (r = 0) ∧ (u = [])) ∨ ((n0.toInt ≥ 0) ∧ (n0.toInt < 24) ∧ (r = 1) ∧ (u = []))) (g5_B G (va_A [] sz)) (va_A [] sz)) 0 0 (va_A [] sz) := by
  refine Met.ofW (cc := cX11_isHour) (maxL := 1) (ret := (some .boolean)) (by decide) rfl ?_
  intro p e s m args below meth c s₁ B hml hv
  obtain ⟨rfl, hsz, hP, hK, hD0, hN, hT⟩ := hv
  have hx := B.exec
  have hb := B.bytes
  have hr := B.returns
  have hts : ∀ w ∈ tblG, w.before _ s = true := fun w h => atoms_spec (ws := (wsG yX11_isHour cX11_isHour 1 (some .boolean))) B.pre w (List.mem_cons_of_mem _ h)
  have hown : s.vm.findClass RX11 = some m.cls := findClass_of_methodNamed B.named
  have hlocks := B.notSynchronized
  subst hsz
  have hD := hD0.self (sz := s.heap.size)
  generalize hAe : va_A [] s.heap.size = A at hD hT ⊢
  have hA : ∀ q : Nat, s.heap.size ≤ q → A q := fun q h => by rw [← hAe]; exact Or.inr h
  have hS : va_S A s.heap s.heap [] := va_S.rf
  have hP : va_P G.1 vwCl [] s.heap := hP
  have hl := lv_entry ([.int n0]) (n := 1) (Nat.le_of_ble_eq_true rfl)
  rw [lg_entry_eq]
  generalize (lg_sl ([.int n0]) ++ List.replicate (1 - (lg_sl ([.int n0])).length) Slot.unset).toArray = ls at hl ⊢
  have hl : lv_has ls 1 [(0, .int n0)] := hl
  refine lv_iload_n hx hb dX11_isHour_0 rfl (lv_at hl 0 rfl) ?_
  refine lv_if_lt (tgt := 14) hx hb dX11_isHour_1 (by decide) (fun c_1 => ?_) (fun c_1 => ?_)
  ·
    have i_1 : n0.toInt < 0 := by have z := g5_lt (a := n0.toInt) (b := 0) (by rfl) (by decide) c_1; omega
    refine lv_iconst (v := 0) hx hb dX11_isHour_14 (by decide) ?_
    exact W.zret (v := 0) hx hb hr rfl (fun t ht hW => ⟨⟨0, [], rfl, Or.inl (⟨i_1, rfl, rfl⟩), by rw [ht]; exact hP, hD⟩, hS.F ht⟩) hS.2.2 dX11_isHour_15
  ·
    have i_1 : n0.toInt ≥ 0 := by have z := g5_ltN (a := n0.toInt) (b := 0) (by rfl) (by decide) c_1; omega
    refine lv_iload_n hx hb dX11_isHour_4 rfl (lv_at hl 0 rfl) ?_
    refine lv_bipush (v := 24) hx hb dX11_isHour_5 (by decide) ?_
    refine lv_icmp_ge (tgt := 14) hx hb dX11_isHour_7 (by decide) (fun c_2 => ?_) (fun c_2 => ?_)
    ·
      have i_2 : n0.toInt ≥ 24 := by have z := g5_ge (a := n0.toInt) (b := 24) (by rfl) (by decide) c_2; omega
      refine lv_iconst (v := 0) hx hb dX11_isHour_14 (by decide) ?_
      exact W.zret (v := 0) hx hb hr rfl (fun t ht hW => ⟨⟨0, [], rfl, Or.inr (Or.inl (⟨i_1, i_2, rfl, rfl⟩)), by rw [ht]; exact hP, hD⟩, hS.F ht⟩) hS.2.2 dX11_isHour_15
    ·
      have i_2 : n0.toInt < 24 := by have z := g5_geN (a := n0.toInt) (b := 24) (by rfl) (by decide) c_2; omega
      refine lv_iconst (v := 1) hx hb dX11_isHour_10 (by decide) ?_
      refine lv_goto (tgt := 15) hx hb dX11_isHour_11 (by decide) ?_
      exact W.zret (v := 1) hx hb hr rfl (fun t ht hW => ⟨⟨1, [], rfl, Or.inr (Or.inr (⟨i_1, i_2, rfl, rfl⟩)), by rw [ht]; exact hP, hD⟩, hS.F ht⟩) hS.2.2 dX11_isHour_15
theorem ml_X11_127 : Cond.methodLink RX11 127 yX11_isHour ∈ tblG := tg 538 (by decide +kernel) (by decide +kernel)
theorem st_X11_isHour : Cond.static yX11_isHour ∈ tblG := tg 539 (by decide +kernel) (by decide +kernel)
theorem cd_X11_isHour : Cond.code yX11_isHour cX11_isHour 1 (some .boolean) ∈ tblG := tg 540 (by decide +kernel) (by decide +kernel)
theorem gW_X11_isHour : GoodIn tblG (wsG yX11_isHour cX11_isHour 1 (some .boolean)) := tgi cd_X11_isHour
theorem gS_X11_127 : GoodIn tblG (va_wsS RX11 127 yX11_isHour (wsG yX11_isHour cX11_isHour 1 (some .boolean))) := tgS ml_X11_127 st_X11_isHour ini_X11 gW_X11_isHour
theorem hs_X11_isHour : yX11_isHour.cls ≠ "java/lang/invoke/MethodHandle" ∧ yX11_isHour.cls ≠ "java/lang/invoke/VarHandle" ∧ (parseMethodDescriptor yX11_isHour.desc).map (fun d => d.parameters.length) = some 1 := by decide +kernel
set_option maxHeartbeats 4000000 in
set_option maxRecDepth 100000 in
theorem x_isLook (l : Launch) (G : g5_G) (sz : Nat) (p_c : Int32) (p_w : Int32) (p_h : Int32) : Met l yX11_isLook (wsG yX11_isLook cX11_isLook 3 (some .boolean)) ({ frames := 1, cells := 0, slots := 0, locals := 20 }) (va_Pc [.int p_c, .int p_w, .int p_h] (g5_P G [] sz)) (va_Qi (fun (r : Int32) (u : va_W) => (((0 ≤ p_c.toInt ∧ p_c.toInt ≤ 63) ∧ (0 ≤ p_w.toInt ∧ p_w.toInt ≤ 3) ∧ (0 ≤ p_h.toInt ∧ p_h.toInt ≤ 23)) ∧ (r = 1) ∧ (u = [])) ∨ ((r = 0) ∧ (u = []))) (g5_B G (va_A [] sz)) (va_A [] sz)) 0 0 (va_A [] sz) := by
  refine Met.ofW (cc := cX11_isLook) (maxL := 3) (ret := (some .boolean)) (by decide) rfl ?_
  intro p e s m args below meth c s₁ B hml hv
  obtain ⟨rfl, hsz, hP, hK, hD0, hN, hT⟩ := hv
  have hx := B.exec
  have hb := B.bytes
  have hr := B.returns
  have hts : ∀ w ∈ tblG, w.before _ s = true := fun w h => atoms_spec (ws := (wsG yX11_isLook cX11_isLook 3 (some .boolean))) B.pre w (List.mem_cons_of_mem _ h)
  have hown : s.vm.findClass RX11 = some m.cls := findClass_of_methodNamed B.named
  have hlocks := B.notSynchronized
  subst hsz
  have hD := hD0.self (sz := s.heap.size)
  generalize hAe : va_A [] s.heap.size = A at hD hT ⊢
  have hA : ∀ q : Nat, s.heap.size ≤ q → A q := fun q h => by rw [← hAe]; exact Or.inr h
  have hS : va_S A s.heap s.heap [] := va_S.rf
  have hP : va_P G.1 vwCl [] s.heap := hP
  have hl := lv_entry ([.int p_c, .int p_w, .int p_h]) (n := 3) (Nat.le_of_ble_eq_true rfl)
  rw [lg_entry_eq]
  generalize (lg_sl ([.int p_c, .int p_w, .int p_h]) ++ List.replicate (3 - (lg_sl ([.int p_c, .int p_w, .int p_h])).length) Slot.unset).toArray = ls at hl ⊢
  have hl : lv_has ls 3 [(0, .int p_c), (1, .int p_w), (2, .int p_h)] := hl
  refine lv_iload_n hx hb dX11_isLook_0 rfl (lv_at hl 0 rfl) ?_
  obtain ⟨hPc, hDc, hFc⟩ := g5_sub3 (wc := []) hP hD hS hA [] (by decide) rfl
  refine va_calli (va_runS (As := [.int p_c]) (rest := []) ⟨hx, hb, hml, hown, hts⟩ (kX11_isCell l G s.heap.size p_c) (va_cwS 1 hts gS_X11_97 rfl rfl rfl hs_X11_isCell ⟨Nat.le_of_ble_eq_true rfl, Nat.le_of_ble_eq_true rfl⟩) (g5_preS hPc hK hDc hN hT hS hFc) rfl rfl hl.1 rfl (lv_room (Nat.le_of_ble_eq_true rfl)) dX11_isLook_1 ⟨Nat.le_of_ble_eq_true rfl, Nat.le_of_ble_eq_true rfl⟩) hS (fun q _ h => hFc q h) hFc (fun r u t H1 locs ht hvm hw hB hz1 hk1 hS => ?_)
  obtain ⟨hP1, hD1⟩ := hB
  rw [ht] at hP1
  rcases hw with ⟨i_1, rfl, rfl⟩ | ⟨i_2, i_3, rfl, rfl⟩ | ⟨i_4, i_5, rfl, rfl⟩
  ·
    have hP := g5_same hP hk1
    generalize H1 = H at hP hS ⊢
    refine lv_if_eq (tgt := 27) hx hb dX11_isLook_4 (by decide) (fun c_6 => ?_) (fun c_6 => ?_)
    ·
      refine lv_iconst (v := 0) hx hb dX11_isLook_27 (by decide) ?_
      exact W.zret (v := 0) hx hb hr rfl (fun t ht hW => ⟨⟨0, [], rfl, Or.inr (⟨rfl, rfl⟩), by rw [ht]; exact hP.sub [] rfl, hD.sub [] (by decide) rfl⟩, hS.F ht⟩) hS.2.2 dX11_isLook_28
    ·
      exact absurd c_6 (by decide)
  ·
    have hP := g5_same hP hk1
    generalize H1 = H at hP hS ⊢
    refine lv_if_eq (tgt := 27) hx hb dX11_isLook_4 (by decide) (fun c_7 => ?_) (fun c_7 => ?_)
    ·
      refine lv_iconst (v := 0) hx hb dX11_isLook_27 (by decide) ?_
      exact W.zret (v := 0) hx hb hr rfl (fun t ht hW => ⟨⟨0, [], rfl, Or.inr (⟨rfl, rfl⟩), by rw [ht]; exact hP.sub [] rfl, hD.sub [] (by decide) rfl⟩, hS.F ht⟩) hS.2.2 dX11_isLook_28
    ·
      exact absurd c_7 (by decide)
  ·
    have hP := g5_same hP hk1
    generalize H1 = H at hP hS ⊢
    refine lv_if_eq (tgt := 27) hx hb dX11_isLook_4 (by decide) (fun c_8 => ?_) (fun c_8 => ?_)
    ·
      exact absurd c_8 (by decide)
    ·
      refine lv_iload_n hx hb dX11_isLook_7 rfl (lv_at hl 1 rfl) ?_
      refine lv_if_lt (tgt := 27) hx hb dX11_isLook_8 (by decide) (fun c_9 => ?_) (fun c_9 => ?_)
      ·
        have i_9 : p_w.toInt < 0 := by have z := g5_lt (a := p_w.toInt) (b := 0) (by rfl) (by decide) c_9; omega
        refine lv_iconst (v := 0) hx hb dX11_isLook_27 (by decide) ?_
        exact W.zret (v := 0) hx hb hr rfl (fun t ht hW => ⟨⟨0, [], rfl, Or.inr (⟨rfl, rfl⟩), by rw [ht]; exact hP.sub [] rfl, hD.sub [] (by decide) rfl⟩, hS.F ht⟩) hS.2.2 dX11_isLook_28
      ·
        have i_9 : p_w.toInt ≥ 0 := by have z := g5_ltN (a := p_w.toInt) (b := 0) (by rfl) (by decide) c_9; omega
        refine lv_iload_n hx hb dX11_isLook_11 rfl (lv_at hl 1 rfl) ?_
        refine lv_iconst (v := 4) hx hb dX11_isLook_12 (by decide) ?_
        refine lv_icmp_ge (tgt := 27) hx hb dX11_isLook_13 (by decide) (fun c_10 => ?_) (fun c_10 => ?_)
        ·
          have i_10 : p_w.toInt ≥ 4 := by have z := g5_ge (a := p_w.toInt) (b := 4) (by rfl) (by decide) c_10; omega
          refine lv_iconst (v := 0) hx hb dX11_isLook_27 (by decide) ?_
          exact W.zret (v := 0) hx hb hr rfl (fun t ht hW => ⟨⟨0, [], rfl, Or.inr (⟨rfl, rfl⟩), by rw [ht]; exact hP.sub [] rfl, hD.sub [] (by decide) rfl⟩, hS.F ht⟩) hS.2.2 dX11_isLook_28
        ·
          have i_10 : p_w.toInt < 4 := by have z := g5_geN (a := p_w.toInt) (b := 4) (by rfl) (by decide) c_10; omega
          refine lv_iload_n hx hb dX11_isLook_16 rfl (lv_at hl 2 rfl) ?_
          obtain ⟨hPc, hDc, hFc⟩ := g5_sub3 (wc := []) hP hD hS hA [] (by decide) rfl
          refine va_calli (va_runS (As := [.int p_h]) (rest := []) ⟨hx, hb, hml, hown, hts⟩ (kX11_isHour l G H.size p_h) (va_cwS 1 hts gS_X11_127 rfl rfl rfl hs_X11_isHour ⟨Nat.le_of_ble_eq_true rfl, Nat.le_of_ble_eq_true rfl⟩) (g5_preS hPc hK hDc hN hT hS hFc) rfl rfl hl.1 rfl (lv_room (Nat.le_of_ble_eq_true rfl)) dX11_isLook_17 ⟨Nat.le_of_ble_eq_true rfl, Nat.le_of_ble_eq_true rfl⟩) hS (fun q _ h => hFc q h) hFc (fun r u t H1 locs ht hvm hw hB hz1 hk1 hS => ?_)
          obtain ⟨hP1, hD1⟩ := hB
          rw [ht] at hP1
          rcases hw with ⟨i_11, rfl, rfl⟩ | ⟨i_12, i_13, rfl, rfl⟩ | ⟨i_14, i_15, rfl, rfl⟩
          ·
            have hP := g5_same hP hk1
            generalize H1 = H at hP hS ⊢
            refine lv_if_eq (tgt := 27) hx hb dX11_isLook_20 (by decide) (fun c_16 => ?_) (fun c_16 => ?_)
            ·
              refine lv_iconst (v := 0) hx hb dX11_isLook_27 (by decide) ?_
              exact W.zret (v := 0) hx hb hr rfl (fun t ht hW => ⟨⟨0, [], rfl, Or.inr (⟨rfl, rfl⟩), by rw [ht]; exact hP.sub [] rfl, hD.sub [] (by decide) rfl⟩, hS.F ht⟩) hS.2.2 dX11_isLook_28
            ·
              exact absurd c_16 (by decide)
          ·
            have hP := g5_same hP hk1
            generalize H1 = H at hP hS ⊢
            refine lv_if_eq (tgt := 27) hx hb dX11_isLook_20 (by decide) (fun c_17 => ?_) (fun c_17 => ?_)
            ·
              refine lv_iconst (v := 0) hx hb dX11_isLook_27 (by decide) ?_
              exact W.zret (v := 0) hx hb hr rfl (fun t ht hW => ⟨⟨0, [], rfl, Or.inr (⟨rfl, rfl⟩), by rw [ht]; exact hP.sub [] rfl, hD.sub [] (by decide) rfl⟩, hS.F ht⟩) hS.2.2 dX11_isLook_28
            ·
              exact absurd c_17 (by decide)
          ·
            have hP := g5_same hP hk1
            generalize H1 = H at hP hS ⊢
            refine lv_if_eq (tgt := 27) hx hb dX11_isLook_20 (by decide) (fun c_18 => ?_) (fun c_18 => ?_)
            ·
              exact absurd c_18 (by decide)
            ·
              refine lv_iconst (v := 1) hx hb dX11_isLook_23 (by decide) ?_
              refine lv_goto (tgt := 28) hx hb dX11_isLook_24 (by decide) ?_
              exact W.zret (v := 1) hx hb hr rfl (fun t ht hW => ⟨⟨1, [], rfl, Or.inl (⟨by omega, rfl, rfl⟩), by rw [ht]; exact hP.sub [] rfl, hD.sub [] (by decide) rfl⟩, hS.F ht⟩) hS.2.2 dX11_isLook_28
theorem dgX5_run_0 : ∀ r ∈ ([(0, (.aload_n 0, 1)), (1, (.iload_n 1, 1)), (2, (.putfield 26, 3)), (5, (.aload_n 0, 1)), (6, (.iload_n 2, 1)), (7, (.putfield 30, 3)), (10, (.aload_n 0, 1)), (11, (.iload_n 3, 1)), (12, (.putfield 33, 3)), (15, (.aload_n 0, 1)), (16, (.iconst 0, 1)), (17, (.putfield 36, 3)), (20, (.aload_n 0, 1)), (21, (.iconst (-1), 1)), (22, (.putfield 39, 3)), (25, (.aload_n 0, 1)), (26, (.iconst (-1), 1)), (27, (.putfield 42, 3)), (30, (.aload_n 0, 1)), (31, (.ldc 45, 2)), (33, (.putfield 46, 3)), (36, (.aload_n 0, 1)), (37, (.iconst 0, 1)), (38, (.putfield 49, 3)), (41, (.aload_n 0, 1)), (42, (.iload_n 1, 1)), (43, (.iload_n 2, 1)), (44, (.iload_n 3, 1)), (45, (.invokestatic 52, 3)), (48, (.ifCond .ne 7, 3)), (51, (.iconst 1, 1)), (52, (.goto 4, 3)), (55, (.iconst 0, 1)), (56, (.putfield 56, 3)), (59, (.aload_n 0, 1)), (60, (.getfield 22, 3)), (63, (.getfield 60, 3)), (66, (.aload_n 0, 1)), (67, (.iload 4, 2)), (69, (.invokevirtual 66, 3))] : List (Nat × (Instr × Nat))), decode cX5_run r.1 = .ok r.2 := by decide +kernel
theorem dX5_run_0 : decode cX5_run 0 = .ok (.aload_n 0, 1) := dgX5_run_0 (0, (.aload_n 0, 1)) (List.mem_of_getElem? (i := 0) rfl)
theorem dX5_run_1 : decode cX5_run 1 = .ok (.iload_n 1, 1) := dgX5_run_0 (1, (.iload_n 1, 1)) (List.mem_of_getElem? (i := 1) rfl)
theorem dX5_run_2 : decode cX5_run 2 = .ok (.putfield 26, 3) := dgX5_run_0 (2, (.putfield 26, 3)) (List.mem_of_getElem? (i := 2) rfl)
theorem dX5_run_5 : decode cX5_run 5 = .ok (.aload_n 0, 1) := dgX5_run_0 (5, (.aload_n 0, 1)) (List.mem_of_getElem? (i := 3) rfl)
theorem dX5_run_6 : decode cX5_run 6 = .ok (.iload_n 2, 1) := dgX5_run_0 (6, (.iload_n 2, 1)) (List.mem_of_getElem? (i := 4) rfl)
theorem dX5_run_7 : decode cX5_run 7 = .ok (.putfield 30, 3) := dgX5_run_0 (7, (.putfield 30, 3)) (List.mem_of_getElem? (i := 5) rfl)
theorem dX5_run_10 : decode cX5_run 10 = .ok (.aload_n 0, 1) := dgX5_run_0 (10, (.aload_n 0, 1)) (List.mem_of_getElem? (i := 6) rfl)
theorem dX5_run_11 : decode cX5_run 11 = .ok (.iload_n 3, 1) := dgX5_run_0 (11, (.iload_n 3, 1)) (List.mem_of_getElem? (i := 7) rfl)
theorem dX5_run_12 : decode cX5_run 12 = .ok (.putfield 33, 3) := dgX5_run_0 (12, (.putfield 33, 3)) (List.mem_of_getElem? (i := 8) rfl)
theorem dX5_run_15 : decode cX5_run 15 = .ok (.aload_n 0, 1) := dgX5_run_0 (15, (.aload_n 0, 1)) (List.mem_of_getElem? (i := 9) rfl)
theorem dX5_run_16 : decode cX5_run 16 = .ok (.iconst 0, 1) := dgX5_run_0 (16, (.iconst 0, 1)) (List.mem_of_getElem? (i := 10) rfl)
theorem dX5_run_17 : decode cX5_run 17 = .ok (.putfield 36, 3) := dgX5_run_0 (17, (.putfield 36, 3)) (List.mem_of_getElem? (i := 11) rfl)
theorem dX5_run_20 : decode cX5_run 20 = .ok (.aload_n 0, 1) := dgX5_run_0 (20, (.aload_n 0, 1)) (List.mem_of_getElem? (i := 12) rfl)
theorem dX5_run_21 : decode cX5_run 21 = .ok (.iconst (-1), 1) := dgX5_run_0 (21, (.iconst (-1), 1)) (List.mem_of_getElem? (i := 13) rfl)
theorem dX5_run_22 : decode cX5_run 22 = .ok (.putfield 39, 3) := dgX5_run_0 (22, (.putfield 39, 3)) (List.mem_of_getElem? (i := 14) rfl)
theorem dX5_run_25 : decode cX5_run 25 = .ok (.aload_n 0, 1) := dgX5_run_0 (25, (.aload_n 0, 1)) (List.mem_of_getElem? (i := 15) rfl)
theorem dX5_run_26 : decode cX5_run 26 = .ok (.iconst (-1), 1) := dgX5_run_0 (26, (.iconst (-1), 1)) (List.mem_of_getElem? (i := 16) rfl)
theorem dX5_run_27 : decode cX5_run 27 = .ok (.putfield 42, 3) := dgX5_run_0 (27, (.putfield 42, 3)) (List.mem_of_getElem? (i := 17) rfl)
theorem dX5_run_30 : decode cX5_run 30 = .ok (.aload_n 0, 1) := dgX5_run_0 (30, (.aload_n 0, 1)) (List.mem_of_getElem? (i := 18) rfl)
theorem dX5_run_31 : decode cX5_run 31 = .ok (.ldc 45, 2) := dgX5_run_0 (31, (.ldc 45, 2)) (List.mem_of_getElem? (i := 19) rfl)
theorem dX5_run_33 : decode cX5_run 33 = .ok (.putfield 46, 3) := dgX5_run_0 (33, (.putfield 46, 3)) (List.mem_of_getElem? (i := 20) rfl)
theorem dX5_run_36 : decode cX5_run 36 = .ok (.aload_n 0, 1) := dgX5_run_0 (36, (.aload_n 0, 1)) (List.mem_of_getElem? (i := 21) rfl)
theorem dX5_run_37 : decode cX5_run 37 = .ok (.iconst 0, 1) := dgX5_run_0 (37, (.iconst 0, 1)) (List.mem_of_getElem? (i := 22) rfl)
theorem dX5_run_38 : decode cX5_run 38 = .ok (.putfield 49, 3) := dgX5_run_0 (38, (.putfield 49, 3)) (List.mem_of_getElem? (i := 23) rfl)
theorem dX5_run_41 : decode cX5_run 41 = .ok (.aload_n 0, 1) := dgX5_run_0 (41, (.aload_n 0, 1)) (List.mem_of_getElem? (i := 24) rfl)
theorem dX5_run_42 : decode cX5_run 42 = .ok (.iload_n 1, 1) := dgX5_run_0 (42, (.iload_n 1, 1)) (List.mem_of_getElem? (i := 25) rfl)
theorem dX5_run_43 : decode cX5_run 43 = .ok (.iload_n 2, 1) := dgX5_run_0 (43, (.iload_n 2, 1)) (List.mem_of_getElem? (i := 26) rfl)
theorem dX5_run_44 : decode cX5_run 44 = .ok (.iload_n 3, 1) := dgX5_run_0 (44, (.iload_n 3, 1)) (List.mem_of_getElem? (i := 27) rfl)
theorem dX5_run_45 : decode cX5_run 45 = .ok (.invokestatic 52, 3) := dgX5_run_0 (45, (.invokestatic 52, 3)) (List.mem_of_getElem? (i := 28) rfl)
theorem dX5_run_48 : decode cX5_run 48 = .ok (.ifCond .ne 7, 3) := dgX5_run_0 (48, (.ifCond .ne 7, 3)) (List.mem_of_getElem? (i := 29) rfl)
theorem dX5_run_51 : decode cX5_run 51 = .ok (.iconst 1, 1) := dgX5_run_0 (51, (.iconst 1, 1)) (List.mem_of_getElem? (i := 30) rfl)
theorem dX5_run_52 : decode cX5_run 52 = .ok (.goto 4, 3) := dgX5_run_0 (52, (.goto 4, 3)) (List.mem_of_getElem? (i := 31) rfl)
theorem dX5_run_55 : decode cX5_run 55 = .ok (.iconst 0, 1) := dgX5_run_0 (55, (.iconst 0, 1)) (List.mem_of_getElem? (i := 32) rfl)
theorem dX5_run_56 : decode cX5_run 56 = .ok (.putfield 56, 3) := dgX5_run_0 (56, (.putfield 56, 3)) (List.mem_of_getElem? (i := 33) rfl)
theorem dX5_run_59 : decode cX5_run 59 = .ok (.aload_n 0, 1) := dgX5_run_0 (59, (.aload_n 0, 1)) (List.mem_of_getElem? (i := 34) rfl)
theorem dX5_run_60 : decode cX5_run 60 = .ok (.getfield 22, 3) := dgX5_run_0 (60, (.getfield 22, 3)) (List.mem_of_getElem? (i := 35) rfl)
theorem dX5_run_63 : decode cX5_run 63 = .ok (.getfield 60, 3) := dgX5_run_0 (63, (.getfield 60, 3)) (List.mem_of_getElem? (i := 36) rfl)
theorem dX5_run_66 : decode cX5_run 66 = .ok (.aload_n 0, 1) := dgX5_run_0 (66, (.aload_n 0, 1)) (List.mem_of_getElem? (i := 37) rfl)
theorem dX5_run_67 : decode cX5_run 67 = .ok (.iload 4, 2) := dgX5_run_0 (67, (.iload 4, 2)) (List.mem_of_getElem? (i := 38) rfl)
theorem dX5_run_69 : decode cX5_run 69 = .ok (.invokevirtual 66, 3) := dgX5_run_0 (69, (.invokevirtual 66, 3)) (List.mem_of_getElem? (i := 39) rfl)
theorem dgX5_run_1 : ∀ r ∈ ([(72, (.lor, 1)), (73, (.lstore 5, 2)), (75, (.iconst 0, 1)), (76, (.istore 7, 2)), (78, (.iload 7, 2)), (80, (.sipush 200, 3)), (83, (.if_icmp .ge 144, 3)), (86, (.aload_n 0, 1)), (87, (.getfield 56, 3)), (90, (.ifCond .ne 137, 3)), (93, (.aload_n 0, 1)), (94, (.getfield 26, 3)), (97, (.aload_n 0, 1)), (98, (.getfield 30, 3)), (101, (.invokestatic 70, 3)), (104, (.istore 8, 2)), (106, (.iload 8, 2)), (108, (.iconst (-1), 1)), (109, (.if_icmp .eq 18, 3)), (112, (.aload_n 0, 1)), (113, (.getfield 22, 3)), (116, (.getfield 74, 3)), (119, (.iload 8, 2)), (121, (.invokestatic 77, 3)), (124, (.ifCond .eq 4, 3)), (127, (.return_, 1)), (128, (.aload_n 0, 1)), (129, (.iload 8, 2)), (131, (.putfield 26, 3)), (134, (.aload_n 0, 1)), (135, (.aload_n 0, 1)), (136, (.getfield 33, 3)), (139, (.putfield 42, 3)), (142, (.aload_n 0, 1)), (143, (.getfield 18, 3)), (146, (.iload 7, 2)), (148, (.aload_n 0, 1)), (149, (.getfield 33, 3)), (152, (.bipush 64, 2)), (154, (.imul, 1))] : List (Nat × (Instr × Nat))), decode cX5_run r.1 = .ok r.2 := by decide +kernel
theorem dX5_run_72 : decode cX5_run 72 = .ok (.lor, 1) := dgX5_run_1 (72, (.lor, 1)) (List.mem_of_getElem? (i := 0) rfl)
theorem dX5_run_73 : decode cX5_run 73 = .ok (.lstore 5, 2) := dgX5_run_1 (73, (.lstore 5, 2)) (List.mem_of_getElem? (i := 1) rfl)
theorem dX5_run_75 : decode cX5_run 75 = .ok (.iconst 0, 1) := dgX5_run_1 (75, (.iconst 0, 1)) (List.mem_of_getElem? (i := 2) rfl)
theorem dX5_run_76 : decode cX5_run 76 = .ok (.istore 7, 2) := dgX5_run_1 (76, (.istore 7, 2)) (List.mem_of_getElem? (i := 3) rfl)
theorem dX5_run_78 : decode cX5_run 78 = .ok (.iload 7, 2) := dgX5_run_1 (78, (.iload 7, 2)) (List.mem_of_getElem? (i := 4) rfl)
theorem dX5_run_80 : decode cX5_run 80 = .ok (.sipush 200, 3) := dgX5_run_1 (80, (.sipush 200, 3)) (List.mem_of_getElem? (i := 5) rfl)
theorem dX5_run_83 : decode cX5_run 83 = .ok (.if_icmp .ge 144, 3) := dgX5_run_1 (83, (.if_icmp .ge 144, 3)) (List.mem_of_getElem? (i := 6) rfl)
theorem dX5_run_86 : decode cX5_run 86 = .ok (.aload_n 0, 1) := dgX5_run_1 (86, (.aload_n 0, 1)) (List.mem_of_getElem? (i := 7) rfl)
theorem dX5_run_87 : decode cX5_run 87 = .ok (.getfield 56, 3) := dgX5_run_1 (87, (.getfield 56, 3)) (List.mem_of_getElem? (i := 8) rfl)
theorem dX5_run_90 : decode cX5_run 90 = .ok (.ifCond .ne 137, 3) := dgX5_run_1 (90, (.ifCond .ne 137, 3)) (List.mem_of_getElem? (i := 9) rfl)
theorem dX5_run_93 : decode cX5_run 93 = .ok (.aload_n 0, 1) := dgX5_run_1 (93, (.aload_n 0, 1)) (List.mem_of_getElem? (i := 10) rfl)
theorem dX5_run_94 : decode cX5_run 94 = .ok (.getfield 26, 3) := dgX5_run_1 (94, (.getfield 26, 3)) (List.mem_of_getElem? (i := 11) rfl)
theorem dX5_run_97 : decode cX5_run 97 = .ok (.aload_n 0, 1) := dgX5_run_1 (97, (.aload_n 0, 1)) (List.mem_of_getElem? (i := 12) rfl)
theorem dX5_run_98 : decode cX5_run 98 = .ok (.getfield 30, 3) := dgX5_run_1 (98, (.getfield 30, 3)) (List.mem_of_getElem? (i := 13) rfl)
theorem dX5_run_101 : decode cX5_run 101 = .ok (.invokestatic 70, 3) := dgX5_run_1 (101, (.invokestatic 70, 3)) (List.mem_of_getElem? (i := 14) rfl)
theorem dX5_run_104 : decode cX5_run 104 = .ok (.istore 8, 2) := dgX5_run_1 (104, (.istore 8, 2)) (List.mem_of_getElem? (i := 15) rfl)
theorem dX5_run_106 : decode cX5_run 106 = .ok (.iload 8, 2) := dgX5_run_1 (106, (.iload 8, 2)) (List.mem_of_getElem? (i := 16) rfl)
theorem dX5_run_108 : decode cX5_run 108 = .ok (.iconst (-1), 1) := dgX5_run_1 (108, (.iconst (-1), 1)) (List.mem_of_getElem? (i := 17) rfl)
theorem dX5_run_109 : decode cX5_run 109 = .ok (.if_icmp .eq 18, 3) := dgX5_run_1 (109, (.if_icmp .eq 18, 3)) (List.mem_of_getElem? (i := 18) rfl)
theorem dX5_run_112 : decode cX5_run 112 = .ok (.aload_n 0, 1) := dgX5_run_1 (112, (.aload_n 0, 1)) (List.mem_of_getElem? (i := 19) rfl)
theorem dX5_run_113 : decode cX5_run 113 = .ok (.getfield 22, 3) := dgX5_run_1 (113, (.getfield 22, 3)) (List.mem_of_getElem? (i := 20) rfl)
theorem dX5_run_116 : decode cX5_run 116 = .ok (.getfield 74, 3) := dgX5_run_1 (116, (.getfield 74, 3)) (List.mem_of_getElem? (i := 21) rfl)
theorem dX5_run_119 : decode cX5_run 119 = .ok (.iload 8, 2) := dgX5_run_1 (119, (.iload 8, 2)) (List.mem_of_getElem? (i := 22) rfl)
theorem dX5_run_121 : decode cX5_run 121 = .ok (.invokestatic 77, 3) := dgX5_run_1 (121, (.invokestatic 77, 3)) (List.mem_of_getElem? (i := 23) rfl)
theorem dX5_run_124 : decode cX5_run 124 = .ok (.ifCond .eq 4, 3) := dgX5_run_1 (124, (.ifCond .eq 4, 3)) (List.mem_of_getElem? (i := 24) rfl)
theorem dX5_run_127 : decode cX5_run 127 = .ok (.return_, 1) := dgX5_run_1 (127, (.return_, 1)) (List.mem_of_getElem? (i := 25) rfl)
theorem dX5_run_128 : decode cX5_run 128 = .ok (.aload_n 0, 1) := dgX5_run_1 (128, (.aload_n 0, 1)) (List.mem_of_getElem? (i := 26) rfl)
theorem dX5_run_129 : decode cX5_run 129 = .ok (.iload 8, 2) := dgX5_run_1 (129, (.iload 8, 2)) (List.mem_of_getElem? (i := 27) rfl)
theorem dX5_run_131 : decode cX5_run 131 = .ok (.putfield 26, 3) := dgX5_run_1 (131, (.putfield 26, 3)) (List.mem_of_getElem? (i := 28) rfl)
theorem dX5_run_134 : decode cX5_run 134 = .ok (.aload_n 0, 1) := dgX5_run_1 (134, (.aload_n 0, 1)) (List.mem_of_getElem? (i := 29) rfl)
theorem dX5_run_135 : decode cX5_run 135 = .ok (.aload_n 0, 1) := dgX5_run_1 (135, (.aload_n 0, 1)) (List.mem_of_getElem? (i := 30) rfl)
theorem dX5_run_136 : decode cX5_run 136 = .ok (.getfield 33, 3) := dgX5_run_1 (136, (.getfield 33, 3)) (List.mem_of_getElem? (i := 31) rfl)
theorem dX5_run_139 : decode cX5_run 139 = .ok (.putfield 42, 3) := dgX5_run_1 (139, (.putfield 42, 3)) (List.mem_of_getElem? (i := 32) rfl)
theorem dX5_run_142 : decode cX5_run 142 = .ok (.aload_n 0, 1) := dgX5_run_1 (142, (.aload_n 0, 1)) (List.mem_of_getElem? (i := 33) rfl)
theorem dX5_run_143 : decode cX5_run 143 = .ok (.getfield 18, 3) := dgX5_run_1 (143, (.getfield 18, 3)) (List.mem_of_getElem? (i := 34) rfl)
theorem dX5_run_146 : decode cX5_run 146 = .ok (.iload 7, 2) := dgX5_run_1 (146, (.iload 7, 2)) (List.mem_of_getElem? (i := 35) rfl)
theorem dX5_run_148 : decode cX5_run 148 = .ok (.aload_n 0, 1) := dgX5_run_1 (148, (.aload_n 0, 1)) (List.mem_of_getElem? (i := 36) rfl)
theorem dX5_run_149 : decode cX5_run 149 = .ok (.getfield 33, 3) := dgX5_run_1 (149, (.getfield 33, 3)) (List.mem_of_getElem? (i := 37) rfl)
theorem dX5_run_152 : decode cX5_run 152 = .ok (.bipush 64, 2) := dgX5_run_1 (152, (.bipush 64, 2)) (List.mem_of_getElem? (i := 38) rfl)
theorem dX5_run_154 : decode cX5_run 154 = .ok (.imul, 1) := dgX5_run_1 (154, (.imul, 1)) (List.mem_of_getElem? (i := 39) rfl)
theorem dgX5_run_2 : ∀ r ∈ ([(155, (.aload_n 0, 1)), (156, (.getfield 26, 3)), (159, (.iadd, 1)), (160, (.iastore, 1)), (161, (.aload_n 0, 1)), (162, (.iload 7, 2)), (164, (.iconst 1, 1)), (165, (.iadd, 1)), (166, (.putfield 36, 3)), (169, (.aload_n 0, 1)), (170, (.getfield 22, 3)), (173, (.getfield 81, 3)), (176, (.aload_n 0, 1)), (177, (.getfield 33, 3)), (180, (.laload, 1)), (181, (.lload 5, 2)), (183, (.lor, 1)), (184, (.aload_n 0, 1)), (185, (.getfield 26, 3)), (188, (.invokestatic 77, 3)), (191, (.ifCond .eq 30, 3)), (194, (.aload_n 0, 1)), (195, (.invokevirtual 85, 3)), (198, (.aload_n 0, 1)), (199, (.getfield 56, 3)), (202, (.ifCond .ne 19, 3)), (205, (.lload 5, 2)), (207, (.aload_n 0, 1)), (208, (.getfield 26, 3)), (211, (.invokestatic 77, 3)), (214, (.ifCond .eq 7, 3)), (217, (.aload_n 0, 1)), (218, (.invokevirtual 88, 3)), (221, (.iinc 7 1, 3)), (224, (.goto (-146), 3)), (227, (.return_, 1))] : List (Nat × (Instr × Nat))), decode cX5_run r.1 = .ok r.2 := by decide +kernel
theorem dX5_run_155 : decode cX5_run 155 = .ok (.aload_n 0, 1) := dgX5_run_2 (155, (.aload_n 0, 1)) (List.mem_of_getElem? (i := 0) rfl)
theorem dX5_run_156 : decode cX5_run 156 = .ok (.getfield 26, 3) := dgX5_run_2 (156, (.getfield 26, 3)) (List.mem_of_getElem? (i := 1) rfl)
theorem dX5_run_159 : decode cX5_run 159 = .ok (.iadd, 1) := dgX5_run_2 (159, (.iadd, 1)) (List.mem_of_getElem? (i := 2) rfl)
theorem dX5_run_160 : decode cX5_run 160 = .ok (.iastore, 1) := dgX5_run_2 (160, (.iastore, 1)) (List.mem_of_getElem? (i := 3) rfl)
theorem dX5_run_161 : decode cX5_run 161 = .ok (.aload_n 0, 1) := dgX5_run_2 (161, (.aload_n 0, 1)) (List.mem_of_getElem? (i := 4) rfl)
theorem dX5_run_162 : decode cX5_run 162 = .ok (.iload 7, 2) := dgX5_run_2 (162, (.iload 7, 2)) (List.mem_of_getElem? (i := 5) rfl)
theorem dX5_run_164 : decode cX5_run 164 = .ok (.iconst 1, 1) := dgX5_run_2 (164, (.iconst 1, 1)) (List.mem_of_getElem? (i := 6) rfl)
theorem dX5_run_165 : decode cX5_run 165 = .ok (.iadd, 1) := dgX5_run_2 (165, (.iadd, 1)) (List.mem_of_getElem? (i := 7) rfl)
theorem dX5_run_166 : decode cX5_run 166 = .ok (.putfield 36, 3) := dgX5_run_2 (166, (.putfield 36, 3)) (List.mem_of_getElem? (i := 8) rfl)
theorem dX5_run_169 : decode cX5_run 169 = .ok (.aload_n 0, 1) := dgX5_run_2 (169, (.aload_n 0, 1)) (List.mem_of_getElem? (i := 9) rfl)
theorem dX5_run_170 : decode cX5_run 170 = .ok (.getfield 22, 3) := dgX5_run_2 (170, (.getfield 22, 3)) (List.mem_of_getElem? (i := 10) rfl)
theorem dX5_run_173 : decode cX5_run 173 = .ok (.getfield 81, 3) := dgX5_run_2 (173, (.getfield 81, 3)) (List.mem_of_getElem? (i := 11) rfl)
theorem dX5_run_176 : decode cX5_run 176 = .ok (.aload_n 0, 1) := dgX5_run_2 (176, (.aload_n 0, 1)) (List.mem_of_getElem? (i := 12) rfl)
theorem dX5_run_177 : decode cX5_run 177 = .ok (.getfield 33, 3) := dgX5_run_2 (177, (.getfield 33, 3)) (List.mem_of_getElem? (i := 13) rfl)
theorem dX5_run_180 : decode cX5_run 180 = .ok (.laload, 1) := dgX5_run_2 (180, (.laload, 1)) (List.mem_of_getElem? (i := 14) rfl)
theorem dX5_run_181 : decode cX5_run 181 = .ok (.lload 5, 2) := dgX5_run_2 (181, (.lload 5, 2)) (List.mem_of_getElem? (i := 15) rfl)
theorem dX5_run_183 : decode cX5_run 183 = .ok (.lor, 1) := dgX5_run_2 (183, (.lor, 1)) (List.mem_of_getElem? (i := 16) rfl)
theorem dX5_run_184 : decode cX5_run 184 = .ok (.aload_n 0, 1) := dgX5_run_2 (184, (.aload_n 0, 1)) (List.mem_of_getElem? (i := 17) rfl)
theorem dX5_run_185 : decode cX5_run 185 = .ok (.getfield 26, 3) := dgX5_run_2 (185, (.getfield 26, 3)) (List.mem_of_getElem? (i := 18) rfl)
theorem dX5_run_188 : decode cX5_run 188 = .ok (.invokestatic 77, 3) := dgX5_run_2 (188, (.invokestatic 77, 3)) (List.mem_of_getElem? (i := 19) rfl)
theorem dX5_run_191 : decode cX5_run 191 = .ok (.ifCond .eq 30, 3) := dgX5_run_2 (191, (.ifCond .eq 30, 3)) (List.mem_of_getElem? (i := 20) rfl)
theorem dX5_run_194 : decode cX5_run 194 = .ok (.aload_n 0, 1) := dgX5_run_2 (194, (.aload_n 0, 1)) (List.mem_of_getElem? (i := 21) rfl)
theorem dX5_run_195 : decode cX5_run 195 = .ok (.invokevirtual 85, 3) := dgX5_run_2 (195, (.invokevirtual 85, 3)) (List.mem_of_getElem? (i := 22) rfl)
theorem dX5_run_198 : decode cX5_run 198 = .ok (.aload_n 0, 1) := dgX5_run_2 (198, (.aload_n 0, 1)) (List.mem_of_getElem? (i := 23) rfl)
theorem dX5_run_199 : decode cX5_run 199 = .ok (.getfield 56, 3) := dgX5_run_2 (199, (.getfield 56, 3)) (List.mem_of_getElem? (i := 24) rfl)
theorem dX5_run_202 : decode cX5_run 202 = .ok (.ifCond .ne 19, 3) := dgX5_run_2 (202, (.ifCond .ne 19, 3)) (List.mem_of_getElem? (i := 25) rfl)
theorem dX5_run_205 : decode cX5_run 205 = .ok (.lload 5, 2) := dgX5_run_2 (205, (.lload 5, 2)) (List.mem_of_getElem? (i := 26) rfl)
theorem dX5_run_207 : decode cX5_run 207 = .ok (.aload_n 0, 1) := dgX5_run_2 (207, (.aload_n 0, 1)) (List.mem_of_getElem? (i := 27) rfl)
theorem dX5_run_208 : decode cX5_run 208 = .ok (.getfield 26, 3) := dgX5_run_2 (208, (.getfield 26, 3)) (List.mem_of_getElem? (i := 28) rfl)
theorem dX5_run_211 : decode cX5_run 211 = .ok (.invokestatic 77, 3) := dgX5_run_2 (211, (.invokestatic 77, 3)) (List.mem_of_getElem? (i := 29) rfl)
theorem dX5_run_214 : decode cX5_run 214 = .ok (.ifCond .eq 7, 3) := dgX5_run_2 (214, (.ifCond .eq 7, 3)) (List.mem_of_getElem? (i := 30) rfl)
theorem dX5_run_217 : decode cX5_run 217 = .ok (.aload_n 0, 1) := dgX5_run_2 (217, (.aload_n 0, 1)) (List.mem_of_getElem? (i := 31) rfl)
theorem dX5_run_218 : decode cX5_run 218 = .ok (.invokevirtual 88, 3) := dgX5_run_2 (218, (.invokevirtual 88, 3)) (List.mem_of_getElem? (i := 32) rfl)
theorem dX5_run_221 : decode cX5_run 221 = .ok (.iinc 7 1, 3) := dgX5_run_2 (221, (.iinc 7 1, 3)) (List.mem_of_getElem? (i := 33) rfl)
theorem dX5_run_224 : decode cX5_run 224 = .ok (.goto (-146), 3) := dgX5_run_2 (224, (.goto (-146), 3)) (List.mem_of_getElem? (i := 34) rfl)
theorem dX5_run_227 : decode cX5_run 227 = .ok (.return_, 1) := dgX5_run_2 (227, (.return_, 1)) (List.mem_of_getElem? (i := 35) rfl)
theorem fl_X5_42 : Cond.fieldLink RX5 42 "LateGlass$Look" "lastHour" "I" ∈ tblG := tg 255 (by decide +kernel) (by decide +kernel)
theorem ki_X5_45 : Cond.constant RX5 45 1000000 ∈ tblG := tg 815 (by decide +kernel) (by decide +kernel)
theorem cd_X11_isLook : Cond.code yX11_isLook cX11_isLook 3 (some .boolean) ∈ tblG := tg 810 (by decide +kernel) (by decide +kernel)
theorem gW_X11_isLook : GoodIn tblG (wsG yX11_isLook cX11_isLook 3 (some .boolean)) := tgi cd_X11_isLook
theorem hs_X11_isLook : yX11_isLook.cls ≠ "java/lang/invoke/MethodHandle" ∧ yX11_isLook.cls ≠ "java/lang/invoke/VarHandle" ∧ (parseMethodDescriptor yX11_isLook.desc).map (fun d => d.parameters.length) = some 3 := by decide +kernel
theorem st_X11_isLook : Cond.static yX11_isLook ∈ tblG := tg 809 (by decide +kernel) (by decide +kernel)
theorem fl_X5_60 : Cond.fieldLink RX5 60 "LateGlass$House" "glassBoard" "J" ∈ tblG := tg 189 (by decide +kernel) (by decide +kernel)
theorem ml_X5_66 : Cond.methodLink RX5 66 yX5_hungBoard ∈ tblG := tg 817 (by decide +kernel) (by decide +kernel)
theorem im_X5_hungBoard : Cond.instanceMethod yX5_hungBoard ∈ tblG := tg 819 (by decide +kernel) (by decide +kernel)
theorem se_X5_hungBoard : Cond.selects RX5 yX5_hungBoard yX5_hungBoard ∈ tblG := tg 13 (by decide +kernel) (by decide +kernel)
theorem cd_X5_hungBoard : Cond.code yX5_hungBoard cX5_hungBoard 5 (some .long) ∈ tblG := tg 820 (by decide +kernel) (by decide +kernel)
theorem gW_X5_hungBoard : GoodIn tblG (wsG yX5_hungBoard cX5_hungBoard 5 (some .long)) := tgi cd_X5_hungBoard
theorem gV_X5_66 : GoodIn tblG (wsV RX5 66 RX5 yX5_hungBoard (wsG yX5_hungBoard cX5_hungBoard 5 (some .long))) := tgV ml_X5_66 im_X5_hungBoard se_X5_hungBoard ini_X5 gW_X5_hungBoard
theorem hv_X5_hungBoard : yX5_hungBoard.cls = RX5 ∧ yX5_hungBoard.cls ≠ "java/lang/invoke/MethodHandle" ∧ yX5_hungBoard.cls ≠ "java/lang/invoke/VarHandle" ∧ (parseMethodDescriptor yX5_hungBoard.desc).map (fun d => d.parameters.length) = some 1 := by decide +kernel
theorem cd_X11_beside : Cond.code yX11_beside cX11_beside 2 (some .int) ∈ tblG := tg 824 (by decide +kernel) (by decide +kernel)
theorem gW_X11_beside : GoodIn tblG (wsG yX11_beside cX11_beside 2 (some .int)) := tgi cd_X11_beside
theorem hs_X11_beside : yX11_beside.cls ≠ "java/lang/invoke/MethodHandle" ∧ yX11_beside.cls ≠ "java/lang/invoke/VarHandle" ∧ (parseMethodDescriptor yX11_beside.desc).map (fun d => d.parameters.length) = some 2 := by decide +kernel
theorem st_X11_beside : Cond.static yX11_beside ∈ tblG := tg 823 (by decide +kernel) (by decide +kernel)
theorem fl_X5_74 : Cond.fieldLink RX5 74 "LateGlass$House" "walls" "J" ∈ tblG := tg 155 (by decide +kernel) (by decide +kernel)
theorem fl_X5_18 : Cond.fieldLink RX5 18 "LateGlass$Look" "points" "[I" ∈ tblG := tg 245 (by decide +kernel) (by decide +kernel)
